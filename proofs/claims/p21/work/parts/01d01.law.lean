theorem dL_law_204 : decode cL_law 204 = .ok (.iconst 0, 1) := by decide +kernel
theorem dL_law_205 : decode cL_law 205 = .ok (.istore 9, 2) := by decide +kernel
theorem dL_law_207 : decode cL_law 207 = .ok (.iload 11, 2) := by decide +kernel
theorem dL_law_209 : decode cL_law 209 = .ok (.bipush 16, 2) := by decide +kernel
theorem dL_law_211 : decode cL_law 211 = .ok (.irem, 1) := by decide +kernel
theorem dL_law_212 : decode cL_law 212 = .ok (.iconst 3, 1) := by decide +kernel
theorem dL_law_213 : decode cL_law 213 = .ok (.if_icmp .ge 18, 3) := by decide +kernel
theorem dL_law_216 : decode cL_law 216 = .ok (.iload 12, 2) := by decide +kernel
theorem dL_law_218 : decode cL_law 218 = .ok (.ifCond .lt 13, 3) := by decide +kernel
theorem dL_law_221 : decode cL_law 221 = .ok (.aload_n 3, 1) := by decide +kernel
theorem dL_law_222 : decode cL_law 222 = .ok (.iconst 0, 1) := by decide +kernel
theorem dL_law_223 : decode cL_law 223 = .ok (.dup2, 1) := by decide +kernel
theorem dL_law_224 : decode cL_law 224 = .ok (.iaload, 1) := by decide +kernel
theorem dL_law_225 : decode cL_law 225 = .ok (.iconst 1, 1) := by decide +kernel
theorem dL_law_226 : decode cL_law 226 = .ok (.iadd, 1) := by decide +kernel
theorem dL_law_227 : decode cL_law 227 = .ok (.iastore, 1) := by decide +kernel
theorem dL_law_228 : decode cL_law 228 = .ok (.goto 113, 3) := by decide +kernel
theorem dL_law_231 : decode cL_law 231 = .ok (.iload 11, 2) := by decide +kernel
theorem dL_law_233 : decode cL_law 233 = .ok (.bipush 16, 2) := by decide +kernel
theorem dL_law_235 : decode cL_law 235 = .ok (.irem, 1) := by decide +kernel
theorem dL_law_236 : decode cL_law 236 = .ok (.iconst 5, 1) := by decide +kernel
theorem dL_law_237 : decode cL_law 237 = .ok (.if_icmp .le 28, 3) := by decide +kernel
theorem dL_law_240 : decode cL_law 240 = .ok (.iload 11, 2) := by decide +kernel
theorem dL_law_242 : decode cL_law 242 = .ok (.bipush 16, 2) := by decide +kernel
theorem dL_law_244 : decode cL_law 244 = .ok (.irem, 1) := by decide +kernel
theorem dL_law_245 : decode cL_law 245 = .ok (.bipush 11, 2) := by decide +kernel
theorem dL_law_247 : decode cL_law 247 = .ok (.if_icmp .ge 18, 3) := by decide +kernel
theorem dL_law_250 : decode cL_law 250 = .ok (.iload 12, 2) := by decide +kernel
theorem dL_law_252 : decode cL_law 252 = .ok (.ifCond .lt 13, 3) := by decide +kernel
theorem dL_law_255 : decode cL_law 255 = .ok (.aload_n 3, 1) := by decide +kernel
theorem dL_law_256 : decode cL_law 256 = .ok (.iconst 2, 1) := by decide +kernel
theorem dL_law_257 : decode cL_law 257 = .ok (.dup2, 1) := by decide +kernel
theorem dL_law_258 : decode cL_law 258 = .ok (.iaload, 1) := by decide +kernel
theorem dL_law_259 : decode cL_law 259 = .ok (.iconst 1, 1) := by decide +kernel
theorem dL_law_260 : decode cL_law 260 = .ok (.iadd, 1) := by decide +kernel
theorem dL_law_261 : decode cL_law 261 = .ok (.iastore, 1) := by decide +kernel
theorem dL_law_262 : decode cL_law 262 = .ok (.goto 79, 3) := by decide +kernel
theorem dL_law_265 : decode cL_law 265 = .ok (.iload 11, 2) := by decide +kernel
theorem dL_law_267 : decode cL_law 267 = .ok (.bipush 16, 2) := by decide +kernel
theorem dL_law_269 : decode cL_law 269 = .ok (.irem, 1) := by decide +kernel
theorem dL_law_270 : decode cL_law 270 = .ok (.bipush 10, 2) := by decide +kernel
theorem dL_law_272 : decode cL_law 272 = .ok (.if_icmp .le 69, 3) := by decide +kernel
theorem dL_law_275 : decode cL_law 275 = .ok (.iload 11, 2) := by decide +kernel
theorem dL_law_277 : decode cL_law 277 = .ok (.bipush 16, 2) := by decide +kernel
theorem dL_law_279 : decode cL_law 279 = .ok (.irem, 1) := by decide +kernel
theorem dL_law_280 : decode cL_law 280 = .ok (.bipush 13, 2) := by decide +kernel
theorem dL_law_282 : decode cL_law 282 = .ok (.if_icmp .ge 59, 3) := by decide +kernel
theorem dL_law_285 : decode cL_law 285 = .ok (.iload 12, 2) := by decide +kernel
theorem dL_law_287 : decode cL_law 287 = .ok (.ifCond .lt 54, 3) := by decide +kernel
theorem dL_law_290 : decode cL_law 290 = .ok (.aload 4, 2) := by decide +kernel
theorem dL_law_292 : decode cL_law 292 = .ok (.aload_n 3, 1) := by decide +kernel
theorem dL_law_293 : decode cL_law 293 = .ok (.iconst 1, 1) := by decide +kernel
theorem dL_law_294 : decode cL_law 294 = .ok (.iaload, 1) := by decide +kernel
theorem dL_law_295 : decode cL_law 295 = .ok (.aload_n 3, 1) := by decide +kernel
theorem dL_law_296 : decode cL_law 296 = .ok (.iconst 2, 1) := by decide +kernel
theorem dL_law_297 : decode cL_law 297 = .ok (.iaload, 1) := by decide +kernel
theorem dL_law_298 : decode cL_law 298 = .ok (.iastore, 1) := by decide +kernel
theorem dL_law_299 : decode cL_law 299 = .ok (.aload 5, 2) := by decide +kernel
theorem dL_law_301 : decode cL_law 301 = .ok (.aload_n 3, 1) := by decide +kernel
theorem dL_law_302 : decode cL_law 302 = .ok (.iconst 1, 1) := by decide +kernel
theorem dL_law_303 : decode cL_law 303 = .ok (.iaload, 1) := by decide +kernel
theorem dL_law_304 : decode cL_law 304 = .ok (.iconst 1, 1) := by decide +kernel
theorem dL_law_305 : decode cL_law 305 = .ok (.iload 11, 2) := by decide +kernel
theorem dL_law_307 : decode cL_law 307 = .ok (.bipush 16, 2) := by decide +kernel
theorem dL_law_309 : decode cL_law 309 = .ok (.idiv, 1) := by decide +kernel
theorem dL_law_310 : decode cL_law 310 = .ok (.iload 11, 2) := by decide +kernel
theorem dL_law_312 : decode cL_law 312 = .ok (.bipush 16, 2) := by decide +kernel
theorem dL_law_314 : decode cL_law 314 = .ok (.idiv, 1) := by decide +kernel
theorem dL_law_315 : decode cL_law 315 = .ok (.iconst 3, 1) := by decide +kernel
theorem dL_law_316 : decode cL_law 316 = .ok (.irem, 1) := by decide +kernel
theorem dL_law_317 : decode cL_law 317 = .ok (.ifCond .ne 7, 3) := by decide +kernel
theorem dL_law_320 : decode cL_law 320 = .ok (.iconst 5, 1) := by decide +kernel
theorem dL_law_321 : decode cL_law 321 = .ok (.goto 6, 3) := by decide +kernel
theorem dL_law_324 : decode cL_law 324 = .ok (.sipush 600, 3) := by decide +kernel
theorem dL_law_327 : decode cL_law 327 = .ok (.irem, 1) := by decide +kernel
theorem dL_law_328 : decode cL_law 328 = .ok (.iadd, 1) := by decide +kernel
theorem dL_law_329 : decode cL_law 329 = .ok (.iastore, 1) := by decide +kernel
theorem dL_law_330 : decode cL_law 330 = .ok (.aload_n 3, 1) := by decide +kernel
theorem dL_law_331 : decode cL_law 331 = .ok (.iconst 1, 1) := by decide +kernel
theorem dL_law_332 : decode cL_law 332 = .ok (.dup2, 1) := by decide +kernel
theorem dL_law_333 : decode cL_law 333 = .ok (.iaload, 1) := by decide +kernel
theorem dL_law_334 : decode cL_law 334 = .ok (.iconst 1, 1) := by decide +kernel
theorem dL_law_335 : decode cL_law 335 = .ok (.iadd, 1) := by decide +kernel
theorem dL_law_336 : decode cL_law 336 = .ok (.iastore, 1) := by decide +kernel
theorem dL_law_337 : decode cL_law 337 = .ok (.aload_n 3, 1) := by decide +kernel
theorem dL_law_338 : decode cL_law 338 = .ok (.iconst 2, 1) := by decide +kernel
theorem dL_law_339 : decode cL_law 339 = .ok (.iconst 0, 1) := by decide +kernel
theorem dL_law_340 : decode cL_law 340 = .ok (.iastore, 1) := by decide +kernel
theorem dL_law_341 : decode cL_law 341 = .ok (.iload 9, 2) := by decide +kernel
theorem dL_law_343 : decode cL_law 343 = .ok (.ifCond .eq 74, 3) := by decide +kernel
theorem dL_law_346 : decode cL_law 346 = .ok (.aload_n 2, 1) := by decide +kernel
theorem dL_law_347 : decode cL_law 347 = .ok (.aload_n 3, 1) := by decide +kernel
theorem dL_law_348 : decode cL_law 348 = .ok (.aload 4, 2) := by decide +kernel
theorem dL_law_350 : decode cL_law 350 = .ok (.iload 11, 2) := by decide +kernel
theorem dL_law_352 : decode cL_law 352 = .ok (.sipush 499, 3) := by decide +kernel
theorem dL_law_355 : decode cL_law 355 = .ok (.irem, 1) := by decide +kernel
theorem dL_law_356 : decode cL_law 356 = .ok (.invokestatic 143, 3) := by decide +kernel
theorem dL_law_359 : decode cL_law 359 = .ok (.ifCond .eq 58, 3) := by decide +kernel
theorem dL_law_362 : decode cL_law 362 = .ok (.iload 10, 2) := by decide +kernel
theorem dL_law_364 : decode cL_law 364 = .ok (.iconst 4, 1) := by decide +kernel
theorem dL_law_365 : decode cL_law 365 = .ok (.irem, 1) := by decide +kernel
theorem dL_law_366 : decode cL_law 366 = .ok (.ifCond .gt 20, 3) := by decide +kernel
theorem dL_law_369 : decode cL_law 369 = .ok (.aload_n 1, 1) := by decide +kernel
theorem dL_law_370 : decode cL_law 370 = .ok (.aload_n 2, 1) := by decide +kernel
theorem dL_law_371 : decode cL_law 371 = .ok (.aload_n 3, 1) := by decide +kernel
theorem dL_law_372 : decode cL_law 372 = .ok (.aload 4, 2) := by decide +kernel
theorem dL_law_374 : decode cL_law 374 = .ok (.iload 7, 2) := by decide +kernel
theorem dL_law_376 : decode cL_law 376 = .ok (.iload 11, 2) := by decide +kernel
theorem dL_law_378 : decode cL_law 378 = .ok (.iconst 5, 1) := by decide +kernel
theorem dL_law_379 : decode cL_law 379 = .ok (.idiv, 1) := by decide +kernel
