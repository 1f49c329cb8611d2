theorem dL_refuses_794 : decode cL_refuses 794 = .ok (.aload_n 0, 1) := by decide +kernel
theorem dL_refuses_795 : decode cL_refuses 795 = .ok (.iload 10, 2) := by decide +kernel
theorem dL_refuses_797 : decode cL_refuses 797 = .ok (.bipush 31, 2) := by decide +kernel
theorem dL_refuses_799 : decode cL_refuses 799 = .ok (.iload_n 3, 1) := by decide +kernel
theorem dL_refuses_800 : decode cL_refuses 800 = .ok (.iadd, 1) := by decide +kernel
theorem dL_refuses_801 : decode cL_refuses 801 = .ok (.invokestatic 124, 3) := by decide +kernel
theorem dL_refuses_804 : decode cL_refuses 804 = .ok (.ldc 15, 2) := by decide +kernel
theorem dL_refuses_806 : decode cL_refuses 806 = .ok (.if_icmp .ne 29, 3) := by decide +kernel
theorem dL_refuses_809 : decode cL_refuses 809 = .ok (.aload_n 2, 1) := by decide +kernel
theorem dL_refuses_810 : decode cL_refuses 810 = .ok (.iload 10, 2) := by decide +kernel
theorem dL_refuses_812 : decode cL_refuses 812 = .ok (.iaload, 1) := by decide +kernel
theorem dL_refuses_813 : decode cL_refuses 813 = .ok (.iconst 3, 1) := by decide +kernel
theorem dL_refuses_814 : decode cL_refuses 814 = .ok (.if_icmp .lt 17, 3) := by decide +kernel
theorem dL_refuses_817 : decode cL_refuses 817 = .ok (.aload_n 0, 1) := by decide +kernel
theorem dL_refuses_818 : decode cL_refuses 818 = .ok (.iload 10, 2) := by decide +kernel
theorem dL_refuses_820 : decode cL_refuses 820 = .ok (.iconst 1, 1) := by decide +kernel
theorem dL_refuses_821 : decode cL_refuses 821 = .ok (.iload 7, 2) := by decide +kernel
theorem dL_refuses_823 : decode cL_refuses 823 = .ok (.invokestatic 110, 3) := by decide +kernel
theorem dL_refuses_826 : decode cL_refuses 826 = .ok (.ldc 15, 2) := by decide +kernel
theorem dL_refuses_828 : decode cL_refuses 828 = .ok (.if_icmp .ne 7, 3) := by decide +kernel
theorem dL_refuses_831 : decode cL_refuses 831 = .ok (.iconst 1, 1) := by decide +kernel
theorem dL_refuses_832 : decode cL_refuses 832 = .ok (.goto 4, 3) := by decide +kernel
theorem dL_refuses_835 : decode cL_refuses 835 = .ok (.iconst 0, 1) := by decide +kernel
theorem dL_refuses_836 : decode cL_refuses 836 = .ok (.istore 9, 2) := by decide +kernel
theorem dL_refuses_838 : decode cL_refuses 838 = .ok (.iload 9, 2) := by decide +kernel
theorem dL_refuses_840 : decode cL_refuses 840 = .ok (.ireturn, 1) := by decide +kernel
theorem dL_act_0 : decode cL_act 0 = .ok (.iload_n 3, 1) := by decide +kernel
theorem dL_act_1 : decode cL_act 1 = .ok (.bipush 16, 2) := by decide +kernel
theorem dL_act_3 : decode cL_act 3 = .ok (.idiv, 1) := by decide +kernel
theorem dL_act_4 : decode cL_act 4 = .ok (.istore 5, 2) := by decide +kernel
theorem dL_act_6 : decode cL_act 6 = .ok (.aload_n 1, 1) := by decide +kernel
theorem dL_act_7 : decode cL_act 7 = .ok (.iconst 0, 1) := by decide +kernel
theorem dL_act_8 : decode cL_act 8 = .ok (.iaload, 1) := by decide +kernel
theorem dL_act_9 : decode cL_act 9 = .ok (.ifCond .ne 7, 3) := by decide +kernel
theorem dL_act_12 : decode cL_act 12 = .ok (.iconst 0, 1) := by decide +kernel
theorem dL_act_13 : decode cL_act 13 = .ok (.goto 9, 3) := by decide +kernel
theorem dL_act_16 : decode cL_act 16 = .ok (.iload 5, 2) := by decide +kernel
theorem dL_act_18 : decode cL_act 18 = .ok (.aload_n 1, 1) := by decide +kernel
theorem dL_act_19 : decode cL_act 19 = .ok (.iconst 0, 1) := by decide +kernel
theorem dL_act_20 : decode cL_act 20 = .ok (.iaload, 1) := by decide +kernel
theorem dL_act_21 : decode cL_act 21 = .ok (.irem, 1) := by decide +kernel
theorem dL_act_22 : decode cL_act 22 = .ok (.istore 6, 2) := by decide +kernel
theorem dL_act_24 : decode cL_act 24 = .ok (.aload_n 1, 1) := by decide +kernel
theorem dL_act_25 : decode cL_act 25 = .ok (.iconst 1, 1) := by decide +kernel
theorem dL_act_26 : decode cL_act 26 = .ok (.iaload, 1) := by decide +kernel
theorem dL_act_27 : decode cL_act 27 = .ok (.ifCond .ne 7, 3) := by decide +kernel
theorem dL_act_30 : decode cL_act 30 = .ok (.iconst 0, 1) := by decide +kernel
theorem dL_act_31 : decode cL_act 31 = .ok (.goto 9, 3) := by decide +kernel
theorem dL_act_34 : decode cL_act 34 = .ok (.iload 5, 2) := by decide +kernel
theorem dL_act_36 : decode cL_act 36 = .ok (.aload_n 1, 1) := by decide +kernel
theorem dL_act_37 : decode cL_act 37 = .ok (.iconst 1, 1) := by decide +kernel
theorem dL_act_38 : decode cL_act 38 = .ok (.iaload, 1) := by decide +kernel
theorem dL_act_39 : decode cL_act 39 = .ok (.irem, 1) := by decide +kernel
theorem dL_act_40 : decode cL_act 40 = .ok (.istore 7, 2) := by decide +kernel
theorem dL_act_42 : decode cL_act 42 = .ok (.iload_n 3, 1) := by decide +kernel
theorem dL_act_43 : decode cL_act 43 = .ok (.bipush 16, 2) := by decide +kernel
theorem dL_act_45 : decode cL_act 45 = .ok (.irem, 1) := by decide +kernel
theorem dL_act_46 : decode cL_act 46 = .ok (.tableswitch 326 0 13 #[70, 70, 70, 103, 103, 132, 146, 146, 146, 146, 146, 239, 239, 263], 70) := by decide +kernel
theorem dL_act_116 : decode cL_act 116 = .ok (.aload_n 0, 1) := by decide +kernel
theorem dL_act_117 : decode cL_act 117 = .ok (.iload 5, 2) := by decide +kernel
theorem dL_act_119 : decode cL_act 119 = .ok (.iconst 4, 1) := by decide +kernel
theorem dL_act_120 : decode cL_act 120 = .ok (.irem, 1) := by decide +kernel
theorem dL_act_121 : decode cL_act 121 = .ok (.iload 5, 2) := by decide +kernel
theorem dL_act_123 : decode cL_act 123 = .ok (.iconst 4, 1) := by decide +kernel
theorem dL_act_124 : decode cL_act 124 = .ok (.idiv, 1) := by decide +kernel
theorem dL_act_125 : decode cL_act 125 = .ok (.bipush 24, 2) := by decide +kernel
theorem dL_act_127 : decode cL_act 127 = .ok (.irem, 1) := by decide +kernel
theorem dL_act_128 : decode cL_act 128 = .ok (.iload 4, 2) := by decide +kernel
theorem dL_act_130 : decode cL_act 130 = .ok (.iadd, 1) := by decide +kernel
theorem dL_act_131 : decode cL_act 131 = .ok (.bipush 30, 2) := by decide +kernel
theorem dL_act_133 : decode cL_act 133 = .ok (.iload 5, 2) := by decide +kernel
theorem dL_act_135 : decode cL_act 135 = .ok (.bipush 96, 2) := by decide +kernel
theorem dL_act_137 : decode cL_act 137 = .ok (.idiv, 1) := by decide +kernel
theorem dL_act_138 : decode cL_act 138 = .ok (.bipush 24, 2) := by decide +kernel
theorem dL_act_140 : decode cL_act 140 = .ok (.irem, 1) := by decide +kernel
theorem dL_act_141 : decode cL_act 141 = .ok (.iadd, 1) := by decide +kernel
theorem dL_act_142 : decode cL_act 142 = .ok (.iload 4, 2) := by decide +kernel
theorem dL_act_144 : decode cL_act 144 = .ok (.iadd, 1) := by decide +kernel
theorem dL_act_145 : decode cL_act 145 = .ok (.invokestatic 79, 3) := by decide +kernel
theorem dL_act_148 : decode cL_act 148 = .ok (.ireturn, 1) := by decide +kernel
theorem dL_act_149 : decode cL_act 149 = .ok (.aload_n 0, 1) := by decide +kernel
theorem dL_act_150 : decode cL_act 150 = .ok (.iload 6, 2) := by decide +kernel
theorem dL_act_152 : decode cL_act 152 = .ok (.iload 5, 2) := by decide +kernel
theorem dL_act_154 : decode cL_act 154 = .ok (.bipush 12, 2) := by decide +kernel
theorem dL_act_156 : decode cL_act 156 = .ok (.idiv, 1) := by decide +kernel
theorem dL_act_157 : decode cL_act 157 = .ok (.iconst 4, 1) := by decide +kernel
theorem dL_act_158 : decode cL_act 158 = .ok (.irem, 1) := by decide +kernel
theorem dL_act_159 : decode cL_act 159 = .ok (.iload 5, 2) := by decide +kernel
theorem dL_act_161 : decode cL_act 161 = .ok (.bipush 48, 2) := by decide +kernel
theorem dL_act_163 : decode cL_act 163 = .ok (.idiv, 1) := by decide +kernel
theorem dL_act_164 : decode cL_act 164 = .ok (.iconst 3, 1) := by decide +kernel
theorem dL_act_165 : decode cL_act 165 = .ok (.irem, 1) := by decide +kernel
theorem dL_act_166 : decode cL_act 166 = .ok (.ifCond .ne 7, 3) := by decide +kernel
theorem dL_act_169 : decode cL_act 169 = .ok (.iconst 1, 1) := by decide +kernel
theorem dL_act_170 : decode cL_act 170 = .ok (.goto 4, 3) := by decide +kernel
theorem dL_act_173 : decode cL_act 173 = .ok (.iconst 0, 1) := by decide +kernel
theorem dL_act_174 : decode cL_act 174 = .ok (.invokestatic 85, 3) := by decide +kernel
theorem dL_act_177 : decode cL_act 177 = .ok (.ireturn, 1) := by decide +kernel
theorem dL_act_178 : decode cL_act 178 = .ok (.aload_n 0, 1) := by decide +kernel
theorem dL_act_179 : decode cL_act 179 = .ok (.iload 6, 2) := by decide +kernel
theorem dL_act_181 : decode cL_act 181 = .ok (.iload 5, 2) := by decide +kernel
theorem dL_act_183 : decode cL_act 183 = .ok (.bipush 12, 2) := by decide +kernel
theorem dL_act_185 : decode cL_act 185 = .ok (.idiv, 1) := by decide +kernel
theorem dL_act_186 : decode cL_act 186 = .ok (.iconst 4, 1) := by decide +kernel
theorem dL_act_187 : decode cL_act 187 = .ok (.irem, 1) := by decide +kernel
theorem dL_act_188 : decode cL_act 188 = .ok (.invokestatic 89, 3) := by decide +kernel
theorem dL_act_191 : decode cL_act 191 = .ok (.ireturn, 1) := by decide +kernel
theorem dL_act_192 : decode cL_act 192 = .ok (.bipush 20, 2) := by decide +kernel
theorem dL_act_194 : decode cL_act 194 = .ok (.iload 5, 2) := by decide +kernel
theorem dL_act_196 : decode cL_act 196 = .ok (.bipush 30, 2) := by decide +kernel
theorem dL_act_198 : decode cL_act 198 = .ok (.irem, 1) := by decide +kernel
theorem dL_act_199 : decode cL_act 199 = .ok (.iadd, 1) := by decide +kernel
theorem dL_act_200 : decode cL_act 200 = .ok (.istore 8, 2) := by decide +kernel
theorem dL_act_202 : decode cL_act 202 = .ok (.iload 8, 2) := by decide +kernel
theorem dL_act_204 : decode cL_act 204 = .ok (.iload 5, 2) := by decide +kernel
theorem dL_act_206 : decode cL_act 206 = .ok (.bipush 30, 2) := by decide +kernel
theorem dL_act_208 : decode cL_act 208 = .ok (.idiv, 1) := by decide +kernel
theorem dL_act_209 : decode cL_act 209 = .ok (.bipush 15, 2) := by decide +kernel
theorem dL_act_211 : decode cL_act 211 = .ok (.irem, 1) := by decide +kernel
theorem dL_act_212 : decode cL_act 212 = .ok (.isub, 1) := by decide +kernel
theorem dL_act_213 : decode cL_act 213 = .ok (.istore 9, 2) := by decide +kernel
theorem dL_act_215 : decode cL_act 215 = .ok (.iload 9, 2) := by decide +kernel
theorem dL_act_217 : decode cL_act 217 = .ok (.iload 5, 2) := by decide +kernel
theorem dL_act_219 : decode cL_act 219 = .ok (.sipush 450, 3) := by decide +kernel
theorem dL_act_222 : decode cL_act 222 = .ok (.idiv, 1) := by decide +kernel
theorem dL_act_223 : decode cL_act 223 = .ok (.iconst 4, 1) := by decide +kernel
theorem dL_act_224 : decode cL_act 224 = .ok (.irem, 1) := by decide +kernel
theorem dL_act_225 : decode cL_act 225 = .ok (.isub, 1) := by decide +kernel
theorem dL_act_226 : decode cL_act 226 = .ok (.istore 10, 2) := by decide +kernel
theorem dL_act_228 : decode cL_act 228 = .ok (.iload 10, 2) := by decide +kernel
theorem dL_act_230 : decode cL_act 230 = .ok (.iload 5, 2) := by decide +kernel
theorem dL_act_232 : decode cL_act 232 = .ok (.sipush 1800, 3) := by decide +kernel
theorem dL_act_235 : decode cL_act 235 = .ok (.idiv, 1) := by decide +kernel
theorem dL_act_236 : decode cL_act 236 = .ok (.bipush 8, 2) := by decide +kernel
theorem dL_act_238 : decode cL_act 238 = .ok (.irem, 1) := by decide +kernel
theorem dL_act_239 : decode cL_act 239 = .ok (.if_icmp .ge 7, 3) := by decide +kernel
theorem dL_act_242 : decode cL_act 242 = .ok (.iconst 0, 1) := by decide +kernel
theorem dL_act_243 : decode cL_act 243 = .ok (.goto 15, 3) := by decide +kernel
theorem dL_act_246 : decode cL_act 246 = .ok (.iload 10, 2) := by decide +kernel
theorem dL_act_248 : decode cL_act 248 = .ok (.iload 5, 2) := by decide +kernel
theorem dL_act_250 : decode cL_act 250 = .ok (.sipush 1800, 3) := by decide +kernel
theorem dL_act_253 : decode cL_act 253 = .ok (.idiv, 1) := by decide +kernel
theorem dL_act_254 : decode cL_act 254 = .ok (.bipush 8, 2) := by decide +kernel
theorem dL_act_256 : decode cL_act 256 = .ok (.irem, 1) := by decide +kernel
theorem dL_act_257 : decode cL_act 257 = .ok (.isub, 1) := by decide +kernel
theorem dL_act_258 : decode cL_act 258 = .ok (.istore 11, 2) := by decide +kernel
theorem dL_act_260 : decode cL_act 260 = .ok (.aload_n 0, 1) := by decide +kernel
theorem dL_act_261 : decode cL_act 261 = .ok (.iload 8, 2) := by decide +kernel
theorem dL_act_263 : decode cL_act 263 = .ok (.iload 4, 2) := by decide +kernel
theorem dL_act_265 : decode cL_act 265 = .ok (.iadd, 1) := by decide +kernel
theorem dL_act_266 : decode cL_act 266 = .ok (.iload 9, 2) := by decide +kernel
theorem dL_act_268 : decode cL_act 268 = .ok (.iload 4, 2) := by decide +kernel
theorem dL_act_270 : decode cL_act 270 = .ok (.iadd, 1) := by decide +kernel
theorem dL_act_271 : decode cL_act 271 = .ok (.iload 10, 2) := by decide +kernel
theorem dL_act_273 : decode cL_act 273 = .ok (.iload 4, 2) := by decide +kernel
theorem dL_act_275 : decode cL_act 275 = .ok (.iadd, 1) := by decide +kernel
theorem dL_act_276 : decode cL_act 276 = .ok (.iload 11, 2) := by decide +kernel
theorem dL_act_278 : decode cL_act 278 = .ok (.iload 4, 2) := by decide +kernel
theorem dL_act_280 : decode cL_act 280 = .ok (.iadd, 1) := by decide +kernel
theorem dL_act_281 : decode cL_act 281 = .ok (.invokestatic 95, 3) := by decide +kernel
theorem dL_act_284 : decode cL_act 284 = .ok (.ireturn, 1) := by decide +kernel
theorem dL_act_285 : decode cL_act 285 = .ok (.aload_n 0, 1) := by decide +kernel
theorem dL_act_286 : decode cL_act 286 = .ok (.iconst 1, 1) := by decide +kernel
theorem dL_act_287 : decode cL_act 287 = .ok (.iload 5, 2) := by decide +kernel
theorem dL_act_289 : decode cL_act 289 = .ok (.iload 5, 2) := by decide +kernel
theorem dL_act_291 : decode cL_act 291 = .ok (.iconst 3, 1) := by decide +kernel
theorem dL_act_292 : decode cL_act 292 = .ok (.irem, 1) := by decide +kernel
theorem dL_act_293 : decode cL_act 293 = .ok (.ifCond .ne 7, 3) := by decide +kernel
theorem dL_act_296 : decode cL_act 296 = .ok (.iconst 5, 1) := by decide +kernel
theorem dL_act_297 : decode cL_act 297 = .ok (.goto 6, 3) := by decide +kernel
theorem dL_act_300 : decode cL_act 300 = .ok (.sipush 600, 3) := by decide +kernel
theorem dL_act_303 : decode cL_act 303 = .ok (.irem, 1) := by decide +kernel
theorem dL_act_304 : decode cL_act 304 = .ok (.iadd, 1) := by decide +kernel
theorem dL_act_305 : decode cL_act 305 = .ok (.invokestatic 99, 3) := by decide +kernel
theorem dL_act_308 : decode cL_act 308 = .ok (.ireturn, 1) := by decide +kernel
theorem dL_act_309 : decode cL_act 309 = .ok (.aload_n 0, 1) := by decide +kernel
theorem dL_act_310 : decode cL_act 310 = .ok (.iload 7, 2) := by decide +kernel
theorem dL_act_312 : decode cL_act 312 = .ok (.aload_n 1, 1) := by decide +kernel
theorem dL_act_313 : decode cL_act 313 = .ok (.iconst 1, 1) := by decide +kernel
theorem dL_act_314 : decode cL_act 314 = .ok (.iaload, 1) := by decide +kernel
theorem dL_act_315 : decode cL_act 315 = .ok (.ifCond .ne 7, 3) := by decide +kernel
theorem dL_act_318 : decode cL_act 318 = .ok (.iconst 0, 1) := by decide +kernel
theorem dL_act_319 : decode cL_act 319 = .ok (.goto 13, 3) := by decide +kernel
theorem dL_act_322 : decode cL_act 322 = .ok (.iload 5, 2) := by decide +kernel
theorem dL_act_324 : decode cL_act 324 = .ok (.bipush 6, 2) := by decide +kernel
theorem dL_act_326 : decode cL_act 326 = .ok (.idiv, 1) := by decide +kernel
theorem dL_act_327 : decode cL_act 327 = .ok (.aload_n 2, 1) := by decide +kernel
theorem dL_act_328 : decode cL_act 328 = .ok (.iload 7, 2) := by decide +kernel
theorem dL_act_330 : decode cL_act 330 = .ok (.iaload, 1) := by decide +kernel
theorem dL_act_331 : decode cL_act 331 = .ok (.irem, 1) := by decide +kernel
theorem dL_act_332 : decode cL_act 332 = .ok (.iload 5, 2) := by decide +kernel
theorem dL_act_334 : decode cL_act 334 = .ok (.bipush 96, 2) := by decide +kernel
theorem dL_act_336 : decode cL_act 336 = .ok (.idiv, 1) := by decide +kernel
theorem dL_act_337 : decode cL_act 337 = .ok (.iconst 4, 1) := by decide +kernel
theorem dL_act_338 : decode cL_act 338 = .ok (.irem, 1) := by decide +kernel
theorem dL_act_339 : decode cL_act 339 = .ok (.iload 5, 2) := by decide +kernel
theorem dL_act_341 : decode cL_act 341 = .ok (.sipush 384, 3) := by decide +kernel
theorem dL_act_344 : decode cL_act 344 = .ok (.idiv, 1) := by decide +kernel
theorem dL_act_345 : decode cL_act 345 = .ok (.bipush 54, 2) := by decide +kernel
theorem dL_act_347 : decode cL_act 347 = .ok (.irem, 1) := by decide +kernel
theorem dL_act_348 : decode cL_act 348 = .ok (.iload 4, 2) := by decide +kernel
theorem dL_act_350 : decode cL_act 350 = .ok (.iadd, 1) := by decide +kernel
theorem dL_act_351 : decode cL_act 351 = .ok (.invokestatic 103, 3) := by decide +kernel
theorem dL_act_354 : decode cL_act 354 = .ok (.istore 12, 2) := by decide +kernel
theorem dL_act_356 : decode cL_act 356 = .ok (.iload 12, 2) := by decide +kernel
theorem dL_act_358 : decode cL_act 358 = .ok (.ifCond .ge 8, 3) := by decide +kernel
theorem dL_act_361 : decode cL_act 361 = .ok (.iload 12, 2) := by decide +kernel
theorem dL_act_363 : decode cL_act 363 = .ok (.goto 8, 3) := by decide +kernel
theorem dL_act_366 : decode cL_act 366 = .ok (.iload 12, 2) := by decide +kernel
theorem dL_act_368 : decode cL_act 368 = .ok (.iload 4, 2) := by decide +kernel
theorem dL_act_370 : decode cL_act 370 = .ok (.isub, 1) := by decide +kernel
theorem dL_act_371 : decode cL_act 371 = .ok (.ireturn, 1) := by decide +kernel
theorem dL_act_372 : decode cL_act 372 = .ok (.aload_n 0, 1) := by decide +kernel
theorem dL_act_373 : decode cL_act 373 = .ok (.iload 7, 2) := by decide +kernel
theorem dL_act_375 : decode cL_act 375 = .ok (.iconst 1, 1) := by decide +kernel
theorem dL_act_376 : decode cL_act 376 = .ok (.iload 5, 2) := by decide +kernel
theorem dL_act_378 : decode cL_act 378 = .ok (.bipush 6, 2) := by decide +kernel
theorem dL_act_380 : decode cL_act 380 = .ok (.idiv, 1) := by decide +kernel
theorem dL_act_381 : decode cL_act 381 = .ok (.bipush 6, 2) := by decide +kernel
theorem dL_act_383 : decode cL_act 383 = .ok (.irem, 1) := by decide +kernel
theorem dL_act_384 : decode cL_act 384 = .ok (.iadd, 1) := by decide +kernel
theorem dL_act_385 : decode cL_act 385 = .ok (.invokestatic 124, 3) := by decide +kernel
theorem dL_act_388 : decode cL_act 388 = .ok (.ireturn, 1) := by decide +kernel
theorem dL_alike_0 : decode cL_alike 0 = .ok (.iload 5, 2) := by decide +kernel
theorem dL_alike_2 : decode cL_alike 2 = .ok (.iconst 5, 1) := by decide +kernel
theorem dL_alike_3 : decode cL_alike 3 = .ok (.irem, 1) := by decide +kernel
theorem dL_alike_4 : decode cL_alike 4 = .ok (.istore 6, 2) := by decide +kernel
theorem dL_alike_6 : decode cL_alike 6 = .ok (.aload_n 0, 1) := by decide +kernel
theorem dL_alike_7 : decode cL_alike 7 = .ok (.iload 6, 2) := by decide +kernel
theorem dL_alike_9 : decode cL_alike 9 = .ok (.invokestatic 117, 3) := by decide +kernel
theorem dL_alike_12 : decode cL_alike 12 = .ok (.aload_n 1, 1) := by decide +kernel
theorem dL_alike_13 : decode cL_alike 13 = .ok (.iload 6, 2) := by decide +kernel
theorem dL_alike_15 : decode cL_alike 15 = .ok (.invokestatic 117, 3) := by decide +kernel
theorem dL_alike_18 : decode cL_alike 18 = .ok (.if_icmp .ne 38, 3) := by decide +kernel
theorem dL_alike_21 : decode cL_alike 21 = .ok (.aload_n 0, 1) := by decide +kernel
theorem dL_alike_22 : decode cL_alike 22 = .ok (.iload 6, 2) := by decide +kernel
theorem dL_alike_24 : decode cL_alike 24 = .ok (.iload 5, 2) := by decide +kernel
theorem dL_alike_26 : decode cL_alike 26 = .ok (.iconst 5, 1) := by decide +kernel
theorem dL_alike_27 : decode cL_alike 27 = .ok (.idiv, 1) := by decide +kernel
theorem dL_alike_28 : decode cL_alike 28 = .ok (.sipush 900, 3) := by decide +kernel
theorem dL_alike_31 : decode cL_alike 31 = .ok (.irem, 1) := by decide +kernel
theorem dL_alike_32 : decode cL_alike 32 = .ok (.invokestatic 119, 3) := by decide +kernel
theorem dL_alike_35 : decode cL_alike 35 = .ok (.aload_n 1, 1) := by decide +kernel
theorem dL_alike_36 : decode cL_alike 36 = .ok (.iload 6, 2) := by decide +kernel
theorem dL_alike_38 : decode cL_alike 38 = .ok (.iload 5, 2) := by decide +kernel
theorem dL_alike_40 : decode cL_alike 40 = .ok (.iconst 5, 1) := by decide +kernel
theorem dL_alike_41 : decode cL_alike 41 = .ok (.idiv, 1) := by decide +kernel
theorem dL_alike_42 : decode cL_alike 42 = .ok (.sipush 900, 3) := by decide +kernel
theorem dL_alike_45 : decode cL_alike 45 = .ok (.irem, 1) := by decide +kernel
theorem dL_alike_46 : decode cL_alike 46 = .ok (.invokestatic 119, 3) := by decide +kernel
theorem dL_alike_49 : decode cL_alike 49 = .ok (.if_icmp .ne 7, 3) := by decide +kernel
theorem dL_alike_52 : decode cL_alike 52 = .ok (.iconst 1, 1) := by decide +kernel
theorem dL_alike_53 : decode cL_alike 53 = .ok (.goto 4, 3) := by decide +kernel
theorem dL_alike_56 : decode cL_alike 56 = .ok (.iconst 0, 1) := by decide +kernel
theorem dL_alike_57 : decode cL_alike 57 = .ok (.istore 7, 2) := by decide +kernel
theorem dL_alike_59 : decode cL_alike 59 = .ok (.iconst 0, 1) := by decide +kernel
theorem dL_alike_60 : decode cL_alike 60 = .ok (.istore 8, 2) := by decide +kernel
theorem dL_alike_62 : decode cL_alike 62 = .ok (.iload 8, 2) := by decide +kernel
theorem dL_alike_64 : decode cL_alike 64 = .ok (.iconst 4, 1) := by decide +kernel
theorem dL_alike_65 : decode cL_alike 65 = .ok (.if_icmp .ge 59, 3) := by decide +kernel
theorem dL_alike_68 : decode cL_alike 68 = .ok (.iload 7, 2) := by decide +kernel
theorem dL_alike_70 : decode cL_alike 70 = .ok (.ifCond .eq 54, 3) := by decide +kernel
theorem dL_alike_73 : decode cL_alike 73 = .ok (.aload_n 0, 1) := by decide +kernel
theorem dL_alike_74 : decode cL_alike 74 = .ok (.iload 8, 2) := by decide +kernel
theorem dL_alike_76 : decode cL_alike 76 = .ok (.iload 6, 2) := by decide +kernel
theorem dL_alike_78 : decode cL_alike 78 = .ok (.invokestatic 93, 3) := by decide +kernel
theorem dL_alike_81 : decode cL_alike 81 = .ok (.istore 9, 2) := by decide +kernel
theorem dL_alike_83 : decode cL_alike 83 = .ok (.aload_n 1, 1) := by decide +kernel
theorem dL_alike_84 : decode cL_alike 84 = .ok (.iload 8, 2) := by decide +kernel
theorem dL_alike_86 : decode cL_alike 86 = .ok (.iload 6, 2) := by decide +kernel
theorem dL_alike_88 : decode cL_alike 88 = .ok (.invokestatic 93, 3) := by decide +kernel
theorem dL_alike_91 : decode cL_alike 91 = .ok (.iload 9, 2) := by decide +kernel
theorem dL_alike_93 : decode cL_alike 93 = .ok (.ifCond .ge 7, 3) := by decide +kernel
theorem dL_alike_96 : decode cL_alike 96 = .ok (.iconst (-1), 1) := by decide +kernel
theorem dL_alike_97 : decode cL_alike 97 = .ok (.goto 11, 3) := by decide +kernel
theorem dL_alike_100 : decode cL_alike 100 = .ok (.iload 9, 2) := by decide +kernel
theorem dL_alike_102 : decode cL_alike 102 = .ok (.bipush 101, 2) := by decide +kernel
theorem dL_alike_104 : decode cL_alike 104 = .ok (.iload 4, 2) := by decide +kernel
theorem dL_alike_106 : decode cL_alike 106 = .ok (.imul, 1) := by decide +kernel
theorem dL_alike_107 : decode cL_alike 107 = .ok (.iadd, 1) := by decide +kernel
theorem dL_alike_108 : decode cL_alike 108 = .ok (.if_icmp .ne 7, 3) := by decide +kernel
theorem dL_alike_111 : decode cL_alike 111 = .ok (.iconst 1, 1) := by decide +kernel
theorem dL_alike_112 : decode cL_alike 112 = .ok (.goto 4, 3) := by decide +kernel
theorem dL_alike_115 : decode cL_alike 115 = .ok (.iconst 0, 1) := by decide +kernel
theorem dL_alike_116 : decode cL_alike 116 = .ok (.istore 7, 2) := by decide +kernel
theorem dL_alike_118 : decode cL_alike 118 = .ok (.iinc 8 1, 3) := by decide +kernel
theorem dL_alike_121 : decode cL_alike 121 = .ok (.goto (-59), 3) := by decide +kernel
theorem dL_alike_124 : decode cL_alike 124 = .ok (.iconst 0, 1) := by decide +kernel
theorem dL_alike_125 : decode cL_alike 125 = .ok (.istore 8, 2) := by decide +kernel
theorem dL_alike_127 : decode cL_alike 127 = .ok (.iload 8, 2) := by decide +kernel
theorem dL_alike_129 : decode cL_alike 129 = .ok (.aload_n 2, 1) := by decide +kernel
theorem dL_alike_130 : decode cL_alike 130 = .ok (.iconst 1, 1) := by decide +kernel
theorem dL_alike_131 : decode cL_alike 131 = .ok (.iaload, 1) := by decide +kernel
theorem dL_alike_132 : decode cL_alike 132 = .ok (.if_icmp .ge 138, 3) := by decide +kernel
theorem dL_alike_135 : decode cL_alike 135 = .ok (.iload 7, 2) := by decide +kernel
theorem dL_alike_137 : decode cL_alike 137 = .ok (.ifCond .eq 133, 3) := by decide +kernel
theorem dL_alike_140 : decode cL_alike 140 = .ok (.aload_n 0, 1) := by decide +kernel
theorem dL_alike_141 : decode cL_alike 141 = .ok (.iload 8, 2) := by decide +kernel
theorem dL_alike_143 : decode cL_alike 143 = .ok (.invokestatic 108, 3) := by decide +kernel
theorem dL_alike_146 : decode cL_alike 146 = .ok (.aload_n 1, 1) := by decide +kernel
theorem dL_alike_147 : decode cL_alike 147 = .ok (.iload 8, 2) := by decide +kernel
theorem dL_alike_149 : decode cL_alike 149 = .ok (.invokestatic 108, 3) := by decide +kernel
theorem dL_alike_152 : decode cL_alike 152 = .ok (.if_icmp .ne 41, 3) := by decide +kernel
theorem dL_alike_155 : decode cL_alike 155 = .ok (.aload_n 0, 1) := by decide +kernel
theorem dL_alike_156 : decode cL_alike 156 = .ok (.iload 8, 2) := by decide +kernel
theorem dL_alike_158 : decode cL_alike 158 = .ok (.iload 6, 2) := by decide +kernel
theorem dL_alike_160 : decode cL_alike 160 = .ok (.invokestatic 113, 3) := by decide +kernel
theorem dL_alike_163 : decode cL_alike 163 = .ok (.aload_n 1, 1) := by decide +kernel
theorem dL_alike_164 : decode cL_alike 164 = .ok (.iload 8, 2) := by decide +kernel
theorem dL_alike_166 : decode cL_alike 166 = .ok (.iload 6, 2) := by decide +kernel
theorem dL_alike_168 : decode cL_alike 168 = .ok (.invokestatic 113, 3) := by decide +kernel
theorem dL_alike_171 : decode cL_alike 171 = .ok (.if_icmp .ne 22, 3) := by decide +kernel
theorem dL_alike_174 : decode cL_alike 174 = .ok (.aload_n 0, 1) := by decide +kernel
theorem dL_alike_175 : decode cL_alike 175 = .ok (.iload 8, 2) := by decide +kernel
theorem dL_alike_177 : decode cL_alike 177 = .ok (.invokestatic 129, 3) := by decide +kernel
theorem dL_alike_180 : decode cL_alike 180 = .ok (.aload_n 1, 1) := by decide +kernel
theorem dL_alike_181 : decode cL_alike 181 = .ok (.iload 8, 2) := by decide +kernel
theorem dL_alike_183 : decode cL_alike 183 = .ok (.invokestatic 129, 3) := by decide +kernel
theorem dL_alike_186 : decode cL_alike 186 = .ok (.if_icmp .ne 7, 3) := by decide +kernel
theorem dL_alike_189 : decode cL_alike 189 = .ok (.iconst 1, 1) := by decide +kernel
theorem dL_alike_190 : decode cL_alike 190 = .ok (.goto 4, 3) := by decide +kernel
theorem dL_alike_193 : decode cL_alike 193 = .ok (.iconst 0, 1) := by decide +kernel
theorem dL_alike_194 : decode cL_alike 194 = .ok (.istore 7, 2) := by decide +kernel
theorem dL_alike_196 : decode cL_alike 196 = .ok (.iconst 0, 1) := by decide +kernel
theorem dL_alike_197 : decode cL_alike 197 = .ok (.istore 9, 2) := by decide +kernel
theorem dL_alike_199 : decode cL_alike 199 = .ok (.iload 9, 2) := by decide +kernel
theorem dL_alike_201 : decode cL_alike 201 = .ok (.aload_n 3, 1) := by decide +kernel
theorem dL_alike_202 : decode cL_alike 202 = .ok (.iload 8, 2) := by decide +kernel
theorem dL_alike_204 : decode cL_alike 204 = .ok (.iaload, 1) := by decide +kernel
theorem dL_alike_205 : decode cL_alike 205 = .ok (.if_icmp .ge 59, 3) := by decide +kernel
theorem dL_alike_208 : decode cL_alike 208 = .ok (.iload 7, 2) := by decide +kernel
theorem dL_alike_210 : decode cL_alike 210 = .ok (.ifCond .eq 54, 3) := by decide +kernel
theorem dL_alike_213 : decode cL_alike 213 = .ok (.aload_n 0, 1) := by decide +kernel
theorem dL_alike_214 : decode cL_alike 214 = .ok (.iload 8, 2) := by decide +kernel
theorem dL_alike_216 : decode cL_alike 216 = .ok (.iload 9, 2) := by decide +kernel
theorem dL_alike_218 : decode cL_alike 218 = .ok (.invokestatic 106, 3) := by decide +kernel
theorem dL_alike_221 : decode cL_alike 221 = .ok (.aload_n 1, 1) := by decide +kernel
theorem dL_alike_222 : decode cL_alike 222 = .ok (.iload 8, 2) := by decide +kernel
theorem dL_alike_224 : decode cL_alike 224 = .ok (.iload 9, 2) := by decide +kernel
theorem dL_alike_226 : decode cL_alike 226 = .ok (.invokestatic 106, 3) := by decide +kernel
theorem dL_alike_229 : decode cL_alike 229 = .ok (.if_icmp .ne 26, 3) := by decide +kernel
theorem dL_alike_232 : decode cL_alike 232 = .ok (.aload_n 0, 1) := by decide +kernel
theorem dL_alike_233 : decode cL_alike 233 = .ok (.iload 8, 2) := by decide +kernel
theorem dL_alike_235 : decode cL_alike 235 = .ok (.iload 9, 2) := by decide +kernel
theorem dL_alike_237 : decode cL_alike 237 = .ok (.invokestatic 127, 3) := by decide +kernel
theorem dL_alike_240 : decode cL_alike 240 = .ok (.aload_n 1, 1) := by decide +kernel
theorem dL_alike_241 : decode cL_alike 241 = .ok (.iload 8, 2) := by decide +kernel
theorem dL_alike_243 : decode cL_alike 243 = .ok (.iload 9, 2) := by decide +kernel
theorem dL_alike_245 : decode cL_alike 245 = .ok (.invokestatic 127, 3) := by decide +kernel
theorem dL_alike_248 : decode cL_alike 248 = .ok (.if_icmp .ne 7, 3) := by decide +kernel
theorem dL_alike_251 : decode cL_alike 251 = .ok (.iconst 1, 1) := by decide +kernel
theorem dL_alike_252 : decode cL_alike 252 = .ok (.goto 4, 3) := by decide +kernel
theorem dL_alike_255 : decode cL_alike 255 = .ok (.iconst 0, 1) := by decide +kernel
theorem dL_alike_256 : decode cL_alike 256 = .ok (.istore 7, 2) := by decide +kernel
theorem dL_alike_258 : decode cL_alike 258 = .ok (.iinc 9 1, 3) := by decide +kernel
theorem dL_alike_261 : decode cL_alike 261 = .ok (.goto (-62), 3) := by decide +kernel
theorem dL_alike_264 : decode cL_alike 264 = .ok (.iinc 8 1, 3) := by decide +kernel
theorem dL_alike_267 : decode cL_alike 267 = .ok (.goto (-140), 3) := by decide +kernel
theorem dL_alike_270 : decode cL_alike 270 = .ok (.iload 7, 2) := by decide +kernel
theorem dL_alike_272 : decode cL_alike 272 = .ok (.ireturn, 1) := by decide +kernel
theorem dL_bits_0 : decode cL_bits 0 = .ok (.iconst 0, 1) := by decide +kernel
theorem dL_bits_1 : decode cL_bits 1 = .ok (.istore_n 1, 1) := by decide +kernel
theorem dL_bits_2 : decode cL_bits 2 = .ok (.iload_n 0, 1) := by decide +kernel
theorem dL_bits_3 : decode cL_bits 3 = .ok (.istore_n 2, 1) := by decide +kernel
theorem dL_bits_4 : decode cL_bits 4 = .ok (.iload_n 2, 1) := by decide +kernel
theorem dL_bits_5 : decode cL_bits 5 = .ok (.ifCond .eq 15, 3) := by decide +kernel
theorem dL_bits_8 : decode cL_bits 8 = .ok (.iinc 1 1, 3) := by decide +kernel
theorem dL_bits_11 : decode cL_bits 11 = .ok (.iload_n 2, 1) := by decide +kernel
theorem dL_bits_12 : decode cL_bits 12 = .ok (.iload_n 2, 1) := by decide +kernel
theorem dL_bits_13 : decode cL_bits 13 = .ok (.iconst 1, 1) := by decide +kernel
theorem dL_bits_14 : decode cL_bits 14 = .ok (.isub, 1) := by decide +kernel
theorem dL_bits_15 : decode cL_bits 15 = .ok (.iand, 1) := by decide +kernel
theorem dL_bits_16 : decode cL_bits 16 = .ok (.istore_n 2, 1) := by decide +kernel
theorem dL_bits_17 : decode cL_bits 17 = .ok (.goto (-13), 3) := by decide +kernel
theorem dL_bits_20 : decode cL_bits 20 = .ok (.iload_n 1, 1) := by decide +kernel
theorem dL_bits_21 : decode cL_bits 21 = .ok (.ireturn, 1) := by decide +kernel
theorem dL_holds_0 : decode cL_holds 0 = .ok (.iload 4, 2) := by decide +kernel
theorem dL_holds_2 : decode cL_holds 2 = .ok (.iconst 5, 1) := by decide +kernel
theorem dL_holds_3 : decode cL_holds 3 = .ok (.irem, 1) := by decide +kernel
theorem dL_holds_4 : decode cL_holds 4 = .ok (.istore 5, 2) := by decide +kernel
theorem dL_holds_6 : decode cL_holds 6 = .ok (.iload 4, 2) := by decide +kernel
theorem dL_holds_8 : decode cL_holds 8 = .ok (.iconst 5, 1) := by decide +kernel
theorem dL_holds_9 : decode cL_holds 9 = .ok (.idiv, 1) := by decide +kernel
theorem dL_holds_10 : decode cL_holds 10 = .ok (.sipush 900, 3) := by decide +kernel
theorem dL_holds_13 : decode cL_holds 13 = .ok (.irem, 1) := by decide +kernel
theorem dL_holds_14 : decode cL_holds 14 = .ok (.istore 6, 2) := by decide +kernel
theorem dL_holds_16 : decode cL_holds 16 = .ok (.iconst 0, 1) := by decide +kernel
theorem dL_holds_17 : decode cL_holds 17 = .ok (.istore 7, 2) := by decide +kernel
theorem dL_holds_19 : decode cL_holds 19 = .ok (.iconst 1, 1) := by decide +kernel
theorem dL_holds_20 : decode cL_holds 20 = .ok (.istore 8, 2) := by decide +kernel
theorem dL_holds_22 : decode cL_holds 22 = .ok (.iconst 0, 1) := by decide +kernel
theorem dL_holds_23 : decode cL_holds 23 = .ok (.istore 9, 2) := by decide +kernel
theorem dL_holds_25 : decode cL_holds 25 = .ok (.iload 9, 2) := by decide +kernel
theorem dL_holds_27 : decode cL_holds 27 = .ok (.aload_n 1, 1) := by decide +kernel
theorem dL_holds_28 : decode cL_holds 28 = .ok (.iconst 1, 1) := by decide +kernel
theorem dL_holds_29 : decode cL_holds 29 = .ok (.iaload, 1) := by decide +kernel
theorem dL_holds_30 : decode cL_holds 30 = .ok (.if_icmp .ge 242, 3) := by decide +kernel
theorem dL_holds_33 : decode cL_holds 33 = .ok (.iload 8, 2) := by decide +kernel
theorem dL_holds_35 : decode cL_holds 35 = .ok (.ifCond .eq 237, 3) := by decide +kernel
theorem dL_holds_38 : decode cL_holds 38 = .ok (.iconst 0, 1) := by decide +kernel
theorem dL_holds_39 : decode cL_holds 39 = .ok (.istore 10, 2) := by decide +kernel
theorem dL_holds_41 : decode cL_holds 41 = .ok (.iconst 0, 1) := by decide +kernel
theorem dL_holds_42 : decode cL_holds 42 = .ok (.istore 11, 2) := by decide +kernel
theorem dL_holds_44 : decode cL_holds 44 = .ok (.iconst 0, 1) := by decide +kernel
theorem dL_holds_45 : decode cL_holds 45 = .ok (.istore 12, 2) := by decide +kernel
theorem dL_holds_47 : decode cL_holds 47 = .ok (.iload 12, 2) := by decide +kernel
theorem dL_holds_49 : decode cL_holds 49 = .ok (.aload_n 2, 1) := by decide +kernel
theorem dL_holds_50 : decode cL_holds 50 = .ok (.iload 9, 2) := by decide +kernel
theorem dL_holds_52 : decode cL_holds 52 = .ok (.iaload, 1) := by decide +kernel
theorem dL_holds_53 : decode cL_holds 53 = .ok (.if_icmp .ge 78, 3) := by decide +kernel
theorem dL_holds_56 : decode cL_holds 56 = .ok (.aload_n 0, 1) := by decide +kernel
theorem dL_holds_57 : decode cL_holds 57 = .ok (.iload 9, 2) := by decide +kernel
theorem dL_holds_59 : decode cL_holds 59 = .ok (.iload 12, 2) := by decide +kernel
theorem dL_holds_61 : decode cL_holds 61 = .ok (.invokestatic 106, 3) := by decide +kernel
theorem dL_holds_64 : decode cL_holds 64 = .ok (.istore 13, 2) := by decide +kernel
theorem dL_holds_66 : decode cL_holds 66 = .ok (.iload 10, 2) := by decide +kernel
theorem dL_holds_68 : decode cL_holds 68 = .ok (.iload 13, 2) := by decide +kernel
theorem dL_holds_70 : decode cL_holds 70 = .ok (.iadd, 1) := by decide +kernel
theorem dL_holds_71 : decode cL_holds 71 = .ok (.istore 10, 2) := by decide +kernel
theorem dL_holds_73 : decode cL_holds 73 = .ok (.aload_n 0, 1) := by decide +kernel
theorem dL_holds_74 : decode cL_holds 74 = .ok (.iload 9, 2) := by decide +kernel
theorem dL_holds_76 : decode cL_holds 76 = .ok (.iload 12, 2) := by decide +kernel
theorem dL_holds_78 : decode cL_holds 78 = .ok (.invokestatic 127, 3) := by decide +kernel
theorem dL_holds_81 : decode cL_holds 81 = .ok (.iload 11, 2) := by decide +kernel
theorem dL_holds_83 : decode cL_holds 83 = .ok (.if_icmp .le 14, 3) := by decide +kernel
theorem dL_holds_86 : decode cL_holds 86 = .ok (.aload_n 0, 1) := by decide +kernel
theorem dL_holds_87 : decode cL_holds 87 = .ok (.iload 9, 2) := by decide +kernel
theorem dL_holds_89 : decode cL_holds 89 = .ok (.iload 12, 2) := by decide +kernel
theorem dL_holds_91 : decode cL_holds 91 = .ok (.invokestatic 127, 3) := by decide +kernel
theorem dL_holds_94 : decode cL_holds 94 = .ok (.goto 5, 3) := by decide +kernel
theorem dL_holds_97 : decode cL_holds 97 = .ok (.iload 11, 2) := by decide +kernel
theorem dL_holds_99 : decode cL_holds 99 = .ok (.istore 11, 2) := by decide +kernel
theorem dL_holds_101 : decode cL_holds 101 = .ok (.iload 8, 2) := by decide +kernel
theorem dL_holds_103 : decode cL_holds 103 = .ok (.ifCond .eq 19, 3) := by decide +kernel
theorem dL_holds_106 : decode cL_holds 106 = .ok (.iload 13, 2) := by decide +kernel
theorem dL_holds_108 : decode cL_holds 108 = .ok (.ifCond .lt 14, 3) := by decide +kernel
theorem dL_holds_111 : decode cL_holds 111 = .ok (.iload 13, 2) := by decide +kernel
theorem dL_holds_113 : decode cL_holds 113 = .ok (.bipush 22, 2) := by decide +kernel
theorem dL_holds_115 : decode cL_holds 115 = .ok (.if_icmp .gt 7, 3) := by decide +kernel
theorem dL_holds_118 : decode cL_holds 118 = .ok (.iconst 1, 1) := by decide +kernel
theorem dL_holds_119 : decode cL_holds 119 = .ok (.goto 4, 3) := by decide +kernel
theorem dL_holds_122 : decode cL_holds 122 = .ok (.iconst 0, 1) := by decide +kernel
theorem dL_holds_123 : decode cL_holds 123 = .ok (.istore 8, 2) := by decide +kernel
theorem dL_holds_125 : decode cL_holds 125 = .ok (.iinc 12 1, 3) := by decide +kernel
theorem dL_holds_128 : decode cL_holds 128 = .ok (.goto (-81), 3) := by decide +kernel
theorem dL_holds_131 : decode cL_holds 131 = .ok (.aload_n 0, 1) := by decide +kernel
theorem dL_holds_132 : decode cL_holds 132 = .ok (.iload 9, 2) := by decide +kernel
theorem dL_holds_134 : decode cL_holds 134 = .ok (.iload 5, 2) := by decide +kernel
theorem dL_holds_136 : decode cL_holds 136 = .ok (.invokestatic 113, 3) := by decide +kernel
theorem dL_holds_139 : decode cL_holds 139 = .ok (.istore 12, 2) := by decide +kernel
theorem dL_holds_141 : decode cL_holds 141 = .ok (.iload 7, 2) := by decide +kernel
theorem dL_holds_143 : decode cL_holds 143 = .ok (.iload 12, 2) := by decide +kernel
theorem dL_holds_145 : decode cL_holds 145 = .ok (.ldc 18, 2) := by decide +kernel
theorem dL_holds_147 : decode cL_holds 147 = .ok (.if_icmp .ne 7, 3) := by decide +kernel
theorem dL_holds_150 : decode cL_holds 150 = .ok (.iconst 0, 1) := by decide +kernel
theorem dL_holds_151 : decode cL_holds 151 = .ok (.goto 7, 3) := by decide +kernel
theorem dL_holds_154 : decode cL_holds 154 = .ok (.iconst 1, 1) := by decide +kernel
theorem dL_holds_155 : decode cL_holds 155 = .ok (.iload 9, 2) := by decide +kernel
theorem dL_holds_157 : decode cL_holds 157 = .ok (.ishl, 1) := by decide +kernel
theorem dL_holds_158 : decode cL_holds 158 = .ok (.ior, 1) := by decide +kernel
theorem dL_holds_159 : decode cL_holds 159 = .ok (.istore 7, 2) := by decide +kernel
theorem dL_holds_161 : decode cL_holds 161 = .ok (.iload 8, 2) := by decide +kernel
theorem dL_holds_163 : decode cL_holds 163 = .ok (.ifCond .eq 100, 3) := by decide +kernel
theorem dL_holds_166 : decode cL_holds 166 = .ok (.iload 10, 2) := by decide +kernel
theorem dL_holds_168 : decode cL_holds 168 = .ok (.aload_n 0, 1) := by decide +kernel
theorem dL_holds_169 : decode cL_holds 169 = .ok (.iload 9, 2) := by decide +kernel
theorem dL_holds_171 : decode cL_holds 171 = .ok (.invokestatic 108, 3) := by decide +kernel
theorem dL_holds_174 : decode cL_holds 174 = .ok (.if_icmp .ne 89, 3) := by decide +kernel
theorem dL_holds_177 : decode cL_holds 177 = .ok (.aload_n 0, 1) := by decide +kernel
theorem dL_holds_178 : decode cL_holds 178 = .ok (.iload 9, 2) := by decide +kernel
theorem dL_holds_180 : decode cL_holds 180 = .ok (.aload_n 0, 1) := by decide +kernel
theorem dL_holds_181 : decode cL_holds 181 = .ok (.iload 9, 2) := by decide +kernel
theorem dL_holds_183 : decode cL_holds 183 = .ok (.invokestatic 129, 3) := by decide +kernel
theorem dL_holds_186 : decode cL_holds 186 = .ok (.invokestatic 127, 3) := by decide +kernel
theorem dL_holds_189 : decode cL_holds 189 = .ok (.iload 11, 2) := by decide +kernel
theorem dL_holds_191 : decode cL_holds 191 = .ok (.if_icmp .ne 72, 3) := by decide +kernel
theorem dL_holds_194 : decode cL_holds 194 = .ok (.iload 12, 2) := by decide +kernel
theorem dL_holds_196 : decode cL_holds 196 = .ok (.ldc 18, 2) := by decide +kernel
theorem dL_holds_198 : decode cL_holds 198 = .ok (.if_icmp .eq 17, 3) := by decide +kernel
theorem dL_holds_201 : decode cL_holds 201 = .ok (.iload 12, 2) := by decide +kernel
theorem dL_holds_203 : decode cL_holds 203 = .ok (.bipush (-12), 2) := by decide +kernel
theorem dL_holds_205 : decode cL_holds 205 = .ok (.if_icmp .lt 58, 3) := by decide +kernel
theorem dL_holds_208 : decode cL_holds 208 = .ok (.iload 12, 2) := by decide +kernel
theorem dL_holds_210 : decode cL_holds 210 = .ok (.bipush 12, 2) := by decide +kernel
theorem dL_holds_212 : decode cL_holds 212 = .ok (.if_icmp .gt 51, 3) := by decide +kernel
theorem dL_holds_215 : decode cL_holds 215 = .ok (.aload_n 0, 1) := by decide +kernel
theorem dL_holds_216 : decode cL_holds 216 = .ok (.iload 9, 2) := by decide +kernel
theorem dL_holds_218 : decode cL_holds 218 = .ok (.invokestatic 115, 3) := by decide +kernel
theorem dL_holds_221 : decode cL_holds 221 = .ok (.iload 12, 2) := by decide +kernel
theorem dL_holds_223 : decode cL_holds 223 = .ok (.ldc 18, 2) := by decide +kernel
theorem dL_holds_225 : decode cL_holds 225 = .ok (.if_icmp .ne 7, 3) := by decide +kernel
theorem dL_holds_228 : decode cL_holds 228 = .ok (.iconst 0, 1) := by decide +kernel
theorem dL_holds_229 : decode cL_holds 229 = .ok (.goto 4, 3) := by decide +kernel
theorem dL_holds_232 : decode cL_holds 232 = .ok (.iconst 1, 1) := by decide +kernel
theorem dL_holds_233 : decode cL_holds 233 = .ok (.if_icmp .lt 30, 3) := by decide +kernel
theorem dL_holds_236 : decode cL_holds 236 = .ok (.aload_n 0, 1) := by decide +kernel
theorem dL_holds_237 : decode cL_holds 237 = .ok (.iload 9, 2) := by decide +kernel
theorem dL_holds_239 : decode cL_holds 239 = .ok (.invokestatic 115, 3) := by decide +kernel
theorem dL_holds_242 : decode cL_holds 242 = .ok (.iload 12, 2) := by decide +kernel
theorem dL_holds_244 : decode cL_holds 244 = .ok (.ldc 18, 2) := by decide +kernel
theorem dL_holds_246 : decode cL_holds 246 = .ok (.if_icmp .ne 8, 3) := by decide +kernel
theorem dL_holds_249 : decode cL_holds 249 = .ok (.bipush 30, 2) := by decide +kernel
theorem dL_holds_251 : decode cL_holds 251 = .ok (.goto 5, 3) := by decide +kernel
theorem dL_holds_254 : decode cL_holds 254 = .ok (.bipush 31, 2) := by decide +kernel
theorem dL_holds_256 : decode cL_holds 256 = .ok (.if_icmp .gt 7, 3) := by decide +kernel
theorem dL_holds_259 : decode cL_holds 259 = .ok (.iconst 1, 1) := by decide +kernel
theorem dL_holds_260 : decode cL_holds 260 = .ok (.goto 4, 3) := by decide +kernel
theorem dL_holds_263 : decode cL_holds 263 = .ok (.iconst 0, 1) := by decide +kernel
theorem dL_holds_264 : decode cL_holds 264 = .ok (.istore 8, 2) := by decide +kernel
theorem dL_holds_266 : decode cL_holds 266 = .ok (.iinc 9 1, 3) := by decide +kernel
theorem dL_holds_269 : decode cL_holds 269 = .ok (.goto (-244), 3) := by decide +kernel
theorem dL_holds_272 : decode cL_holds 272 = .ok (.aload_n 0, 1) := by decide +kernel
theorem dL_holds_273 : decode cL_holds 273 = .ok (.iload 5, 2) := by decide +kernel
theorem dL_holds_275 : decode cL_holds 275 = .ok (.iload 6, 2) := by decide +kernel
theorem dL_holds_277 : decode cL_holds 277 = .ok (.invokestatic 119, 3) := by decide +kernel
theorem dL_holds_280 : decode cL_holds 280 = .ok (.istore 9, 2) := by decide +kernel
theorem dL_holds_282 : decode cL_holds 282 = .ok (.iconst 0, 1) := by decide +kernel
theorem dL_holds_283 : decode cL_holds 283 = .ok (.istore 10, 2) := by decide +kernel
theorem dL_holds_285 : decode cL_holds 285 = .ok (.iconst 0, 1) := by decide +kernel
theorem dL_holds_286 : decode cL_holds 286 = .ok (.istore 11, 2) := by decide +kernel
theorem dL_holds_288 : decode cL_holds 288 = .ok (.iload 11, 2) := by decide +kernel
theorem dL_holds_290 : decode cL_holds 290 = .ok (.bipush 6, 2) := by decide +kernel
theorem dL_holds_292 : decode cL_holds 292 = .ok (.if_icmp .ge 26, 3) := by decide +kernel
theorem dL_holds_295 : decode cL_holds 295 = .ok (.iload 10, 2) := by decide +kernel
theorem dL_holds_297 : decode cL_holds 297 = .ok (.iload 9, 2) := by decide +kernel
theorem dL_holds_299 : decode cL_holds 299 = .ok (.iload 11, 2) := by decide +kernel
theorem dL_holds_301 : decode cL_holds 301 = .ok (.ishr, 1) := by decide +kernel
theorem dL_holds_302 : decode cL_holds 302 = .ok (.iconst 1, 1) := by decide +kernel
theorem dL_holds_303 : decode cL_holds 303 = .ok (.iand, 1) := by decide +kernel
theorem dL_holds_304 : decode cL_holds 304 = .ok (.aload_n 3, 1) := by decide +kernel
theorem dL_holds_305 : decode cL_holds 305 = .ok (.iload 11, 2) := by decide +kernel
theorem dL_holds_307 : decode cL_holds 307 = .ok (.iaload, 1) := by decide +kernel
theorem dL_holds_308 : decode cL_holds 308 = .ok (.imul, 1) := by decide +kernel
theorem dL_holds_309 : decode cL_holds 309 = .ok (.iadd, 1) := by decide +kernel
theorem dL_holds_310 : decode cL_holds 310 = .ok (.istore 10, 2) := by decide +kernel
theorem dL_holds_312 : decode cL_holds 312 = .ok (.iinc 11 1, 3) := by decide +kernel
theorem dL_holds_315 : decode cL_holds 315 = .ok (.goto (-27), 3) := by decide +kernel
theorem dL_holds_318 : decode cL_holds 318 = .ok (.iload 8, 2) := by decide +kernel
theorem dL_holds_320 : decode cL_holds 320 = .ok (.ifCond .eq 37, 3) := by decide +kernel
theorem dL_holds_323 : decode cL_holds 323 = .ok (.iload 9, 2) := by decide +kernel
theorem dL_holds_325 : decode cL_holds 325 = .ok (.iload 7, 2) := by decide +kernel
theorem dL_holds_327 : decode cL_holds 327 = .ok (.iconst (-1), 1) := by decide +kernel
theorem dL_holds_328 : decode cL_holds 328 = .ok (.ixor, 1) := by decide +kernel
theorem dL_holds_329 : decode cL_holds 329 = .ok (.iand, 1) := by decide +kernel
theorem dL_holds_330 : decode cL_holds 330 = .ok (.ifCond .ne 27, 3) := by decide +kernel
theorem dL_holds_333 : decode cL_holds 333 = .ok (.iload 10, 2) := by decide +kernel
theorem dL_holds_335 : decode cL_holds 335 = .ok (.aload_n 0, 1) := by decide +kernel
theorem dL_holds_336 : decode cL_holds 336 = .ok (.iload 5, 2) := by decide +kernel
theorem dL_holds_338 : decode cL_holds 338 = .ok (.iload 6, 2) := by decide +kernel
theorem dL_holds_340 : decode cL_holds 340 = .ok (.invokestatic 122, 3) := by decide +kernel
theorem dL_holds_343 : decode cL_holds 343 = .ok (.if_icmp .ne 14, 3) := by decide +kernel
theorem dL_holds_346 : decode cL_holds 346 = .ok (.iload 10, 2) := by decide +kernel
theorem dL_holds_348 : decode cL_holds 348 = .ok (.iload 6, 2) := by decide +kernel
theorem dL_holds_350 : decode cL_holds 350 = .ok (.if_icmp .gt 7, 3) := by decide +kernel
theorem dL_holds_353 : decode cL_holds 353 = .ok (.iconst 1, 1) := by decide +kernel
theorem dL_holds_354 : decode cL_holds 354 = .ok (.goto 4, 3) := by decide +kernel
theorem dL_holds_357 : decode cL_holds 357 = .ok (.iconst 0, 1) := by decide +kernel
theorem dL_holds_358 : decode cL_holds 358 = .ok (.istore 8, 2) := by decide +kernel
theorem dL_holds_360 : decode cL_holds 360 = .ok (.iconst 0, 1) := by decide +kernel
theorem dL_holds_361 : decode cL_holds 361 = .ok (.istore 11, 2) := by decide +kernel
theorem dL_holds_363 : decode cL_holds 363 = .ok (.iload 11, 2) := by decide +kernel
theorem dL_holds_365 : decode cL_holds 365 = .ok (.iconst 1, 1) := by decide +kernel
theorem dL_holds_366 : decode cL_holds 366 = .ok (.aload_n 1, 1) := by decide +kernel
theorem dL_holds_367 : decode cL_holds 367 = .ok (.iconst 1, 1) := by decide +kernel
theorem dL_holds_368 : decode cL_holds 368 = .ok (.iaload, 1) := by decide +kernel
theorem dL_holds_369 : decode cL_holds 369 = .ok (.ishl, 1) := by decide +kernel
theorem dL_holds_370 : decode cL_holds 370 = .ok (.if_icmp .ge 101, 3) := by decide +kernel
theorem dL_holds_373 : decode cL_holds 373 = .ok (.iload 8, 2) := by decide +kernel
theorem dL_holds_375 : decode cL_holds 375 = .ok (.ifCond .eq 96, 3) := by decide +kernel
theorem dL_holds_378 : decode cL_holds 378 = .ok (.iconst 0, 1) := by decide +kernel
theorem dL_holds_379 : decode cL_holds 379 = .ok (.istore 12, 2) := by decide +kernel
theorem dL_holds_381 : decode cL_holds 381 = .ok (.iconst 0, 1) := by decide +kernel
theorem dL_holds_382 : decode cL_holds 382 = .ok (.istore 13, 2) := by decide +kernel
theorem dL_holds_384 : decode cL_holds 384 = .ok (.iload 13, 2) := by decide +kernel
theorem dL_holds_386 : decode cL_holds 386 = .ok (.bipush 6, 2) := by decide +kernel
theorem dL_holds_388 : decode cL_holds 388 = .ok (.if_icmp .ge 26, 3) := by decide +kernel
theorem dL_holds_391 : decode cL_holds 391 = .ok (.iload 12, 2) := by decide +kernel
theorem dL_holds_393 : decode cL_holds 393 = .ok (.iload 11, 2) := by decide +kernel
theorem dL_holds_395 : decode cL_holds 395 = .ok (.iload 13, 2) := by decide +kernel
theorem dL_holds_397 : decode cL_holds 397 = .ok (.ishr, 1) := by decide +kernel
theorem dL_holds_398 : decode cL_holds 398 = .ok (.iconst 1, 1) := by decide +kernel
theorem dL_holds_399 : decode cL_holds 399 = .ok (.iand, 1) := by decide +kernel
theorem dL_holds_400 : decode cL_holds 400 = .ok (.aload_n 3, 1) := by decide +kernel
theorem dL_holds_401 : decode cL_holds 401 = .ok (.iload 13, 2) := by decide +kernel
theorem dL_holds_403 : decode cL_holds 403 = .ok (.iaload, 1) := by decide +kernel
theorem dL_holds_404 : decode cL_holds 404 = .ok (.imul, 1) := by decide +kernel
theorem dL_holds_405 : decode cL_holds 405 = .ok (.iadd, 1) := by decide +kernel
theorem dL_holds_406 : decode cL_holds 406 = .ok (.istore 12, 2) := by decide +kernel
theorem dL_holds_408 : decode cL_holds 408 = .ok (.iinc 13 1, 3) := by decide +kernel
theorem dL_holds_411 : decode cL_holds 411 = .ok (.goto (-27), 3) := by decide +kernel
theorem dL_holds_414 : decode cL_holds 414 = .ok (.iload 11, 2) := by decide +kernel
theorem dL_holds_416 : decode cL_holds 416 = .ok (.iload 7, 2) := by decide +kernel
theorem dL_holds_418 : decode cL_holds 418 = .ok (.iconst (-1), 1) := by decide +kernel
theorem dL_holds_419 : decode cL_holds 419 = .ok (.ixor, 1) := by decide +kernel
theorem dL_holds_420 : decode cL_holds 420 = .ok (.iand, 1) := by decide +kernel
theorem dL_holds_421 : decode cL_holds 421 = .ok (.ifCond .ne 37, 3) := by decide +kernel
theorem dL_holds_424 : decode cL_holds 424 = .ok (.iload 12, 2) := by decide +kernel
theorem dL_holds_426 : decode cL_holds 426 = .ok (.iload 6, 2) := by decide +kernel
theorem dL_holds_428 : decode cL_holds 428 = .ok (.if_icmp .gt 30, 3) := by decide +kernel
theorem dL_holds_431 : decode cL_holds 431 = .ok (.iload 12, 2) := by decide +kernel
theorem dL_holds_433 : decode cL_holds 433 = .ok (.iload 10, 2) := by decide +kernel
theorem dL_holds_435 : decode cL_holds 435 = .ok (.if_icmp .lt 23, 3) := by decide +kernel
theorem dL_holds_438 : decode cL_holds 438 = .ok (.iload 12, 2) := by decide +kernel
theorem dL_holds_440 : decode cL_holds 440 = .ok (.iload 10, 2) := by decide +kernel
theorem dL_holds_442 : decode cL_holds 442 = .ok (.if_icmp .ne 20, 3) := by decide +kernel
theorem dL_holds_445 : decode cL_holds 445 = .ok (.iload 11, 2) := by decide +kernel
theorem dL_holds_447 : decode cL_holds 447 = .ok (.invokestatic 131, 3) := by decide +kernel
theorem dL_holds_450 : decode cL_holds 450 = .ok (.iload 9, 2) := by decide +kernel
theorem dL_holds_452 : decode cL_holds 452 = .ok (.invokestatic 131, 3) := by decide +kernel
theorem dL_holds_455 : decode cL_holds 455 = .ok (.if_icmp .lt 7, 3) := by decide +kernel
theorem dL_holds_458 : decode cL_holds 458 = .ok (.iconst 1, 1) := by decide +kernel
theorem dL_holds_459 : decode cL_holds 459 = .ok (.goto 4, 3) := by decide +kernel
theorem dL_holds_462 : decode cL_holds 462 = .ok (.iconst 0, 1) := by decide +kernel
theorem dL_holds_463 : decode cL_holds 463 = .ok (.istore 8, 2) := by decide +kernel
theorem dL_holds_465 : decode cL_holds 465 = .ok (.iinc 11 1, 3) := by decide +kernel
theorem dL_holds_468 : decode cL_holds 468 = .ok (.goto (-105), 3) := by decide +kernel
theorem dL_holds_471 : decode cL_holds 471 = .ok (.iload 8, 2) := by decide +kernel
theorem dL_holds_473 : decode cL_holds 473 = .ok (.ireturn, 1) := by decide +kernel
theorem dL_tries_0 : decode cL_tries 0 = .ok (.aload_n 1, 1) := by decide +kernel
theorem dL_tries_1 : decode cL_tries 1 = .ok (.iconst 1, 1) := by decide +kernel
theorem dL_tries_2 : decode cL_tries 2 = .ok (.iaload, 1) := by decide +kernel
theorem dL_tries_3 : decode cL_tries 3 = .ok (.ifCond .ne 7, 3) := by decide +kernel
theorem dL_tries_6 : decode cL_tries 6 = .ok (.iconst 0, 1) := by decide +kernel
theorem dL_tries_7 : decode cL_tries 7 = .ok (.goto 8, 3) := by decide +kernel
theorem dL_tries_10 : decode cL_tries 10 = .ok (.iload_n 3, 1) := by decide +kernel
theorem dL_tries_11 : decode cL_tries 11 = .ok (.aload_n 1, 1) := by decide +kernel
theorem dL_tries_12 : decode cL_tries 12 = .ok (.iconst 1, 1) := by decide +kernel
theorem dL_tries_13 : decode cL_tries 13 = .ok (.iaload, 1) := by decide +kernel
theorem dL_tries_14 : decode cL_tries 14 = .ok (.irem, 1) := by decide +kernel
theorem dL_tries_15 : decode cL_tries 15 = .ok (.istore 4, 2) := by decide +kernel
theorem dL_tries_17 : decode cL_tries 17 = .ok (.aload_n 1, 1) := by decide +kernel
theorem dL_tries_18 : decode cL_tries 18 = .ok (.iconst 1, 1) := by decide +kernel
theorem dL_tries_19 : decode cL_tries 19 = .ok (.iaload, 1) := by decide +kernel
theorem dL_tries_20 : decode cL_tries 20 = .ok (.ifCond .eq 11, 3) := by decide +kernel
theorem dL_tries_23 : decode cL_tries 23 = .ok (.aload_n 2, 1) := by decide +kernel
theorem dL_tries_24 : decode cL_tries 24 = .ok (.iload 4, 2) := by decide +kernel
theorem dL_tries_26 : decode cL_tries 26 = .ok (.iaload, 1) := by decide +kernel
theorem dL_tries_27 : decode cL_tries 27 = .ok (.iconst 3, 1) := by decide +kernel
theorem dL_tries_28 : decode cL_tries 28 = .ok (.if_icmp .ge 5, 3) := by decide +kernel
theorem dL_tries_31 : decode cL_tries 31 = .ok (.iconst 1, 1) := by decide +kernel
theorem dL_tries_32 : decode cL_tries 32 = .ok (.ireturn, 1) := by decide +kernel
theorem dL_tries_33 : decode cL_tries 33 = .ok (.iconst 1, 1) := by decide +kernel
theorem dL_tries_34 : decode cL_tries 34 = .ok (.iload_n 3, 1) := by decide +kernel
theorem dL_tries_35 : decode cL_tries 35 = .ok (.bipush 6, 2) := by decide +kernel
theorem dL_tries_37 : decode cL_tries 37 = .ok (.idiv, 1) := by decide +kernel
theorem dL_tries_38 : decode cL_tries 38 = .ok (.aload_n 2, 1) := by decide +kernel
theorem dL_tries_39 : decode cL_tries 39 = .ok (.iload 4, 2) := by decide +kernel
theorem dL_tries_41 : decode cL_tries 41 = .ok (.iaload, 1) := by decide +kernel
theorem dL_tries_42 : decode cL_tries 42 = .ok (.iconst 2, 1) := by decide +kernel
theorem dL_tries_43 : decode cL_tries 43 = .ok (.isub, 1) := by decide +kernel
theorem dL_tries_44 : decode cL_tries 44 = .ok (.irem, 1) := by decide +kernel
theorem dL_tries_45 : decode cL_tries 45 = .ok (.iadd, 1) := by decide +kernel
theorem dL_tries_46 : decode cL_tries 46 = .ok (.istore 5, 2) := by decide +kernel
theorem dL_tries_48 : decode cL_tries 48 = .ok (.iload_n 3, 1) := by decide +kernel
theorem dL_tries_49 : decode cL_tries 49 = .ok (.bipush 96, 2) := by decide +kernel
theorem dL_tries_51 : decode cL_tries 51 = .ok (.idiv, 1) := by decide +kernel
theorem dL_tries_52 : decode cL_tries 52 = .ok (.iconst 4, 1) := by decide +kernel
theorem dL_tries_53 : decode cL_tries 53 = .ok (.irem, 1) := by decide +kernel
theorem dL_tries_54 : decode cL_tries 54 = .ok (.istore 6, 2) := by decide +kernel
theorem dL_tries_56 : decode cL_tries 56 = .ok (.aload_n 0, 1) := by decide +kernel
theorem dL_tries_57 : decode cL_tries 57 = .ok (.iload 4, 2) := by decide +kernel
theorem dL_tries_59 : decode cL_tries 59 = .ok (.invokestatic 108, 3) := by decide +kernel
theorem dL_tries_62 : decode cL_tries 62 = .ok (.istore 7, 2) := by decide +kernel
theorem dL_tries_64 : decode cL_tries 64 = .ok (.aload_n 0, 1) := by decide +kernel
theorem dL_tries_65 : decode cL_tries 65 = .ok (.iload 4, 2) := by decide +kernel
theorem dL_tries_67 : decode cL_tries 67 = .ok (.iload 5, 2) := by decide +kernel
theorem dL_tries_69 : decode cL_tries 69 = .ok (.iload 6, 2) := by decide +kernel
theorem dL_tries_71 : decode cL_tries 71 = .ok (.invokestatic 110, 3) := by decide +kernel
theorem dL_tries_74 : decode cL_tries 74 = .ok (.istore 8, 2) := by decide +kernel
theorem dL_tries_76 : decode cL_tries 76 = .ok (.iload 8, 2) := by decide +kernel
theorem dL_tries_78 : decode cL_tries 78 = .ok (.ifCond .lt 14, 3) := by decide +kernel
theorem dL_tries_81 : decode cL_tries 81 = .ok (.iload 8, 2) := by decide +kernel
theorem dL_tries_83 : decode cL_tries 83 = .ok (.iload 7, 2) := by decide +kernel
theorem dL_tries_85 : decode cL_tries 85 = .ok (.if_icmp .gt 7, 3) := by decide +kernel
theorem dL_tries_88 : decode cL_tries 88 = .ok (.iconst 1, 1) := by decide +kernel
theorem dL_tries_89 : decode cL_tries 89 = .ok (.goto 4, 3) := by decide +kernel
theorem dL_tries_92 : decode cL_tries 92 = .ok (.iconst 0, 1) := by decide +kernel
theorem dL_tries_93 : decode cL_tries 93 = .ok (.istore 9, 2) := by decide +kernel
theorem dL_tries_95 : decode cL_tries 95 = .ok (.iconst (-1), 1) := by decide +kernel
theorem dL_tries_96 : decode cL_tries 96 = .ok (.istore 10, 2) := by decide +kernel
theorem dL_tries_98 : decode cL_tries 98 = .ok (.iconst 0, 1) := by decide +kernel
theorem dL_tries_99 : decode cL_tries 99 = .ok (.istore 11, 2) := by decide +kernel
theorem dL_tries_101 : decode cL_tries 101 = .ok (.iconst 0, 1) := by decide +kernel
theorem dL_tries_102 : decode cL_tries 102 = .ok (.istore 12, 2) := by decide +kernel
theorem dL_tries_104 : decode cL_tries 104 = .ok (.iload 12, 2) := by decide +kernel
theorem dL_tries_106 : decode cL_tries 106 = .ok (.bipush 61, 2) := by decide +kernel
theorem dL_tries_108 : decode cL_tries 108 = .ok (.if_icmp .ge 103, 3) := by decide +kernel
theorem dL_tries_111 : decode cL_tries 111 = .ok (.iload 9, 2) := by decide +kernel
theorem dL_tries_113 : decode cL_tries 113 = .ok (.ifCond .eq 98, 3) := by decide +kernel
theorem dL_tries_116 : decode cL_tries 116 = .ok (.aload_n 0, 1) := by decide +kernel
theorem dL_tries_117 : decode cL_tries 117 = .ok (.iload 4, 2) := by decide +kernel
theorem dL_tries_119 : decode cL_tries 119 = .ok (.iload 5, 2) := by decide +kernel
theorem dL_tries_121 : decode cL_tries 121 = .ok (.iload 6, 2) := by decide +kernel
theorem dL_tries_123 : decode cL_tries 123 = .ok (.iload 12, 2) := by decide +kernel
theorem dL_tries_125 : decode cL_tries 125 = .ok (.invokestatic 103, 3) := by decide +kernel
theorem dL_tries_128 : decode cL_tries 128 = .ok (.istore 13, 2) := by decide +kernel
theorem dL_tries_130 : decode cL_tries 130 = .ok (.iload 13, 2) := by decide +kernel
theorem dL_tries_132 : decode cL_tries 132 = .ok (.ifCond .lt 73, 3) := by decide +kernel
theorem dL_tries_135 : decode cL_tries 135 = .ok (.iload 10, 2) := by decide +kernel
theorem dL_tries_137 : decode cL_tries 137 = .ok (.ifCond .ge 8, 3) := by decide +kernel
theorem dL_tries_140 : decode cL_tries 140 = .ok (.iload 13, 2) := by decide +kernel
theorem dL_tries_142 : decode cL_tries 142 = .ok (.goto 5, 3) := by decide +kernel
theorem dL_tries_145 : decode cL_tries 145 = .ok (.iload 10, 2) := by decide +kernel
theorem dL_tries_147 : decode cL_tries 147 = .ok (.istore 10, 2) := by decide +kernel
theorem dL_tries_149 : decode cL_tries 149 = .ok (.aload_n 0, 1) := by decide +kernel
theorem dL_tries_150 : decode cL_tries 150 = .ok (.iload 4, 2) := by decide +kernel
theorem dL_tries_152 : decode cL_tries 152 = .ok (.invokestatic 108, 3) := by decide +kernel
theorem dL_tries_155 : decode cL_tries 155 = .ok (.iload 8, 2) := by decide +kernel
theorem dL_tries_157 : decode cL_tries 157 = .ok (.if_icmp .lt 22, 3) := by decide +kernel
theorem dL_tries_160 : decode cL_tries 160 = .ok (.aload_n 0, 1) := by decide +kernel
theorem dL_tries_161 : decode cL_tries 161 = .ok (.iload 4, 2) := by decide +kernel
theorem dL_tries_163 : decode cL_tries 163 = .ok (.iload 5, 2) := by decide +kernel
theorem dL_tries_165 : decode cL_tries 165 = .ok (.iload 6, 2) := by decide +kernel
theorem dL_tries_167 : decode cL_tries 167 = .ok (.invokestatic 110, 3) := by decide +kernel
theorem dL_tries_170 : decode cL_tries 170 = .ok (.iload 8, 2) := by decide +kernel
theorem dL_tries_172 : decode cL_tries 172 = .ok (.if_icmp .ne 7, 3) := by decide +kernel
theorem dL_tries_175 : decode cL_tries 175 = .ok (.iconst 1, 1) := by decide +kernel
theorem dL_tries_176 : decode cL_tries 176 = .ok (.goto 4, 3) := by decide +kernel
theorem dL_tries_179 : decode cL_tries 179 = .ok (.iconst 0, 1) := by decide +kernel
theorem dL_tries_180 : decode cL_tries 180 = .ok (.istore 9, 2) := by decide +kernel
theorem dL_tries_182 : decode cL_tries 182 = .ok (.iload 11, 2) := by decide +kernel
theorem dL_tries_184 : decode cL_tries 184 = .ok (.ifCond .ne 14, 3) := by decide +kernel
theorem dL_tries_187 : decode cL_tries 187 = .ok (.aload_n 0, 1) := by decide +kernel
theorem dL_tries_188 : decode cL_tries 188 = .ok (.iload 4, 2) := by decide +kernel
theorem dL_tries_190 : decode cL_tries 190 = .ok (.invokestatic 108, 3) := by decide +kernel
theorem dL_tries_193 : decode cL_tries 193 = .ok (.iload 8, 2) := by decide +kernel
theorem dL_tries_195 : decode cL_tries 195 = .ok (.if_icmp .ne 7, 3) := by decide +kernel
theorem dL_tries_198 : decode cL_tries 198 = .ok (.iconst 1, 1) := by decide +kernel
theorem dL_tries_199 : decode cL_tries 199 = .ok (.goto 4, 3) := by decide +kernel
theorem dL_tries_202 : decode cL_tries 202 = .ok (.iconst 0, 1) := by decide +kernel
theorem dL_tries_203 : decode cL_tries 203 = .ok (.istore 11, 2) := by decide +kernel
theorem dL_tries_205 : decode cL_tries 205 = .ok (.iinc 12 1, 3) := by decide +kernel
theorem dL_tries_208 : decode cL_tries 208 = .ok (.goto (-104), 3) := by decide +kernel
theorem dL_tries_211 : decode cL_tries 211 = .ok (.iload 9, 2) := by decide +kernel
theorem dL_tries_213 : decode cL_tries 213 = .ok (.ifCond .eq 43, 3) := by decide +kernel
theorem dL_tries_216 : decode cL_tries 216 = .ok (.iload 11, 2) := by decide +kernel
theorem dL_tries_218 : decode cL_tries 218 = .ok (.ifCond .eq 38, 3) := by decide +kernel
theorem dL_tries_221 : decode cL_tries 221 = .ok (.iload 10, 2) := by decide +kernel
theorem dL_tries_223 : decode cL_tries 223 = .ok (.ifCond .lt 33, 3) := by decide +kernel
theorem dL_tries_226 : decode cL_tries 226 = .ok (.aload_n 0, 1) := by decide +kernel
theorem dL_tries_227 : decode cL_tries 227 = .ok (.iload 4, 2) := by decide +kernel
theorem dL_tries_229 : decode cL_tries 229 = .ok (.iload 5, 2) := by decide +kernel
theorem dL_tries_231 : decode cL_tries 231 = .ok (.iload 6, 2) := by decide +kernel
theorem dL_tries_233 : decode cL_tries 233 = .ok (.iload 10, 2) := by decide +kernel
theorem dL_tries_235 : decode cL_tries 235 = .ok (.invokestatic 103, 3) := by decide +kernel
theorem dL_tries_238 : decode cL_tries 238 = .ok (.ifCond .lt 18, 3) := by decide +kernel
theorem dL_tries_241 : decode cL_tries 241 = .ok (.aload_n 0, 1) := by decide +kernel
theorem dL_tries_242 : decode cL_tries 242 = .ok (.iload 4, 2) := by decide +kernel
theorem dL_tries_244 : decode cL_tries 244 = .ok (.invokestatic 108, 3) := by decide +kernel
theorem dL_tries_247 : decode cL_tries 247 = .ok (.iload 7, 2) := by decide +kernel
theorem dL_tries_249 : decode cL_tries 249 = .ok (.if_icmp .ne 7, 3) := by decide +kernel
theorem dL_tries_252 : decode cL_tries 252 = .ok (.iconst 1, 1) := by decide +kernel
theorem dL_tries_253 : decode cL_tries 253 = .ok (.goto 4, 3) := by decide +kernel
theorem dL_tries_256 : decode cL_tries 256 = .ok (.iconst 0, 1) := by decide +kernel
theorem dL_tries_257 : decode cL_tries 257 = .ok (.ireturn, 1) := by decide +kernel
theorem dL_rehearsed_0 : decode cL_rehearsed 0 = .ok (.aload_n 1, 1) := by decide +kernel
theorem dL_rehearsed_1 : decode cL_rehearsed 1 = .ok (.iconst 1, 1) := by decide +kernel
theorem dL_rehearsed_2 : decode cL_rehearsed 2 = .ok (.iaload, 1) := by decide +kernel
theorem dL_rehearsed_3 : decode cL_rehearsed 3 = .ok (.ifCond .ne 7, 3) := by decide +kernel
theorem dL_rehearsed_6 : decode cL_rehearsed 6 = .ok (.iconst 0, 1) := by decide +kernel
theorem dL_rehearsed_7 : decode cL_rehearsed 7 = .ok (.goto 8, 3) := by decide +kernel
theorem dL_rehearsed_10 : decode cL_rehearsed 10 = .ok (.iload_n 3, 1) := by decide +kernel
theorem dL_rehearsed_11 : decode cL_rehearsed 11 = .ok (.aload_n 1, 1) := by decide +kernel
theorem dL_rehearsed_12 : decode cL_rehearsed 12 = .ok (.iconst 1, 1) := by decide +kernel
theorem dL_rehearsed_13 : decode cL_rehearsed 13 = .ok (.iaload, 1) := by decide +kernel
theorem dL_rehearsed_14 : decode cL_rehearsed 14 = .ok (.irem, 1) := by decide +kernel
theorem dL_rehearsed_15 : decode cL_rehearsed 15 = .ok (.istore 4, 2) := by decide +kernel
theorem dL_rehearsed_17 : decode cL_rehearsed 17 = .ok (.iconst 1, 1) := by decide +kernel
theorem dL_rehearsed_18 : decode cL_rehearsed 18 = .ok (.istore 5, 2) := by decide +kernel
theorem dL_rehearsed_20 : decode cL_rehearsed 20 = .ok (.iconst 0, 1) := by decide +kernel
theorem dL_rehearsed_21 : decode cL_rehearsed 21 = .ok (.istore 6, 2) := by decide +kernel
theorem dL_rehearsed_23 : decode cL_rehearsed 23 = .ok (.iload 6, 2) := by decide +kernel
theorem dL_rehearsed_25 : decode cL_rehearsed 25 = .ok (.bipush 6, 2) := by decide +kernel
theorem dL_rehearsed_27 : decode cL_rehearsed 27 = .ok (.if_icmp .ge 124, 3) := by decide +kernel
theorem dL_rehearsed_30 : decode cL_rehearsed 30 = .ok (.iload 5, 2) := by decide +kernel
theorem dL_rehearsed_32 : decode cL_rehearsed 32 = .ok (.ifCond .eq 119, 3) := by decide +kernel
theorem dL_rehearsed_35 : decode cL_rehearsed 35 = .ok (.aload_n 1, 1) := by decide +kernel
theorem dL_rehearsed_36 : decode cL_rehearsed 36 = .ok (.iconst 1, 1) := by decide +kernel
theorem dL_rehearsed_37 : decode cL_rehearsed 37 = .ok (.iaload, 1) := by decide +kernel
theorem dL_rehearsed_38 : decode cL_rehearsed 38 = .ok (.ifCond .le 113, 3) := by decide +kernel
theorem dL_rehearsed_41 : decode cL_rehearsed 41 = .ok (.aload_n 0, 1) := by decide +kernel
theorem dL_rehearsed_42 : decode cL_rehearsed 42 = .ok (.iload 4, 2) := by decide +kernel
theorem dL_rehearsed_44 : decode cL_rehearsed 44 = .ok (.invokestatic 129, 3) := by decide +kernel
theorem dL_rehearsed_47 : decode cL_rehearsed 47 = .ok (.istore 7, 2) := by decide +kernel
theorem dL_rehearsed_49 : decode cL_rehearsed 49 = .ok (.aload_n 0, 1) := by decide +kernel
theorem dL_rehearsed_50 : decode cL_rehearsed 50 = .ok (.iload 4, 2) := by decide +kernel
theorem dL_rehearsed_52 : decode cL_rehearsed 52 = .ok (.iload 7, 2) := by decide +kernel
theorem dL_rehearsed_54 : decode cL_rehearsed 54 = .ok (.invokestatic 127, 3) := by decide +kernel
theorem dL_rehearsed_57 : decode cL_rehearsed 57 = .ok (.istore 8, 2) := by decide +kernel
theorem dL_rehearsed_59 : decode cL_rehearsed 59 = .ok (.iconst 0, 1) := by decide +kernel
theorem dL_rehearsed_60 : decode cL_rehearsed 60 = .ok (.istore 9, 2) := by decide +kernel
theorem dL_rehearsed_62 : decode cL_rehearsed 62 = .ok (.iconst 0, 1) := by decide +kernel
theorem dL_rehearsed_63 : decode cL_rehearsed 63 = .ok (.istore 10, 2) := by decide +kernel
theorem dL_rehearsed_65 : decode cL_rehearsed 65 = .ok (.iload 10, 2) := by decide +kernel
theorem dL_rehearsed_67 : decode cL_rehearsed 67 = .ok (.aload_n 2, 1) := by decide +kernel
theorem dL_rehearsed_68 : decode cL_rehearsed 68 = .ok (.iload 4, 2) := by decide +kernel
theorem dL_rehearsed_70 : decode cL_rehearsed 70 = .ok (.iaload, 1) := by decide +kernel
theorem dL_rehearsed_71 : decode cL_rehearsed 71 = .ok (.if_icmp .ge 22, 3) := by decide +kernel
theorem dL_rehearsed_74 : decode cL_rehearsed 74 = .ok (.iload 9, 2) := by decide +kernel
theorem dL_rehearsed_76 : decode cL_rehearsed 76 = .ok (.aload_n 0, 1) := by decide +kernel
theorem dL_rehearsed_77 : decode cL_rehearsed 77 = .ok (.iload 4, 2) := by decide +kernel
theorem dL_rehearsed_79 : decode cL_rehearsed 79 = .ok (.iload 10, 2) := by decide +kernel
theorem dL_rehearsed_81 : decode cL_rehearsed 81 = .ok (.invokestatic 127, 3) := by decide +kernel
theorem dL_rehearsed_84 : decode cL_rehearsed 84 = .ok (.iadd, 1) := by decide +kernel
theorem dL_rehearsed_85 : decode cL_rehearsed 85 = .ok (.istore 9, 2) := by decide +kernel
theorem dL_rehearsed_87 : decode cL_rehearsed 87 = .ok (.iinc 10 1, 3) := by decide +kernel
theorem dL_rehearsed_90 : decode cL_rehearsed 90 = .ok (.goto (-25), 3) := by decide +kernel
theorem dL_rehearsed_93 : decode cL_rehearsed 93 = .ok (.iload 8, 2) := by decide +kernel
theorem dL_rehearsed_95 : decode cL_rehearsed 95 = .ok (.iconst 4, 1) := by decide +kernel
theorem dL_rehearsed_96 : decode cL_rehearsed 96 = .ok (.if_icmp .ge 8, 3) := by decide +kernel
theorem dL_rehearsed_99 : decode cL_rehearsed 99 = .ok (.iload 8, 2) := by decide +kernel
theorem dL_rehearsed_101 : decode cL_rehearsed 101 = .ok (.goto 4, 3) := by decide +kernel
theorem dL_rehearsed_104 : decode cL_rehearsed 104 = .ok (.iconst 4, 1) := by decide +kernel
theorem dL_rehearsed_105 : decode cL_rehearsed 105 = .ok (.istore 10, 2) := by decide +kernel
theorem dL_rehearsed_107 : decode cL_rehearsed 107 = .ok (.aload_n 0, 1) := by decide +kernel
theorem dL_rehearsed_108 : decode cL_rehearsed 108 = .ok (.iload 4, 2) := by decide +kernel
theorem dL_rehearsed_110 : decode cL_rehearsed 110 = .ok (.iconst 1, 1) := by decide +kernel
theorem dL_rehearsed_111 : decode cL_rehearsed 111 = .ok (.invokestatic 124, 3) := by decide +kernel
theorem dL_rehearsed_114 : decode cL_rehearsed 114 = .ok (.iload 9, 2) := by decide +kernel
theorem dL_rehearsed_116 : decode cL_rehearsed 116 = .ok (.iload 10, 2) := by decide +kernel
theorem dL_rehearsed_118 : decode cL_rehearsed 118 = .ok (.isub, 1) := by decide +kernel
theorem dL_rehearsed_119 : decode cL_rehearsed 119 = .ok (.if_icmp .ne 23, 3) := by decide +kernel
theorem dL_rehearsed_122 : decode cL_rehearsed 122 = .ok (.aload_n 0, 1) := by decide +kernel
theorem dL_rehearsed_123 : decode cL_rehearsed 123 = .ok (.iload 4, 2) := by decide +kernel
theorem dL_rehearsed_125 : decode cL_rehearsed 125 = .ok (.iload 7, 2) := by decide +kernel
theorem dL_rehearsed_127 : decode cL_rehearsed 127 = .ok (.invokestatic 127, 3) := by decide +kernel
theorem dL_rehearsed_130 : decode cL_rehearsed 130 = .ok (.iload 8, 2) := by decide +kernel
theorem dL_rehearsed_132 : decode cL_rehearsed 132 = .ok (.iload 10, 2) := by decide +kernel
theorem dL_rehearsed_134 : decode cL_rehearsed 134 = .ok (.isub, 1) := by decide +kernel
theorem dL_rehearsed_135 : decode cL_rehearsed 135 = .ok (.if_icmp .ne 7, 3) := by decide +kernel
theorem dL_rehearsed_138 : decode cL_rehearsed 138 = .ok (.iconst 1, 1) := by decide +kernel
theorem dL_rehearsed_139 : decode cL_rehearsed 139 = .ok (.goto 4, 3) := by decide +kernel
theorem dL_rehearsed_142 : decode cL_rehearsed 142 = .ok (.iconst 0, 1) := by decide +kernel
theorem dL_rehearsed_143 : decode cL_rehearsed 143 = .ok (.istore 5, 2) := by decide +kernel
theorem dL_rehearsed_145 : decode cL_rehearsed 145 = .ok (.iinc 6 1, 3) := by decide +kernel
theorem dL_rehearsed_148 : decode cL_rehearsed 148 = .ok (.goto (-125), 3) := by decide +kernel
theorem dL_rehearsed_151 : decode cL_rehearsed 151 = .ok (.iload 5, 2) := by decide +kernel
theorem dL_rehearsed_153 : decode cL_rehearsed 153 = .ok (.ireturn, 1) := by decide +kernel
