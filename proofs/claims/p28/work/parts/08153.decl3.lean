theorem dL_holds_250 : decode cL_holds 250 = .ok (.bipush 12, 2) := by decide +kernel
theorem dL_holds_252 : decode cL_holds 252 = .ok (.invokevirtual 12, 3) := by decide +kernel
theorem dL_holds_255 : decode cL_holds 255 = .ok (.isub, 1) := by decide +kernel
theorem dL_holds_256 : decode cL_holds 256 = .ok (.goto 12, 3) := by decide +kernel
theorem dL_holds_259 : decode cL_holds 259 = .ok (.aload_n 0, 1) := by decide +kernel
theorem dL_holds_260 : decode cL_holds 260 = .ok (.bipush 12, 2) := by decide +kernel
theorem dL_holds_262 : decode cL_holds 262 = .ok (.invokevirtual 12, 3) := by decide +kernel
theorem dL_holds_265 : decode cL_holds 265 = .ok (.iload 8, 2) := by decide +kernel
theorem dL_holds_267 : decode cL_holds 267 = .ok (.isub, 1) := by decide +kernel
theorem dL_holds_268 : decode cL_holds 268 = .ok (.istore 10, 2) := by decide +kernel
theorem dL_holds_270 : decode cL_holds 270 = .ok (.iload 10, 2) := by decide +kernel
theorem dL_holds_272 : decode cL_holds 272 = .ok (.bipush 100, 2) := by decide +kernel
theorem dL_holds_274 : decode cL_holds 274 = .ok (.imul, 1) := by decide +kernel
theorem dL_holds_275 : decode cL_holds 275 = .ok (.aload_n 0, 1) := by decide +kernel
theorem dL_holds_276 : decode cL_holds 276 = .ok (.bipush 12, 2) := by decide +kernel
theorem dL_holds_278 : decode cL_holds 278 = .ok (.invokevirtual 12, 3) := by decide +kernel
theorem dL_holds_281 : decode cL_holds 281 = .ok (.idiv, 1) := by decide +kernel
theorem dL_holds_282 : decode cL_holds 282 = .ok (.istore 11, 2) := by decide +kernel
theorem dL_holds_284 : decode cL_holds 284 = .ok (.iinc 2 1, 3) := by decide +kernel
theorem dL_holds_287 : decode cL_holds 287 = .ok (.iload_n 3, 1) := by decide +kernel
theorem dL_holds_288 : decode cL_holds 288 = .ok (.iload 11, 2) := by decide +kernel
theorem dL_holds_290 : decode cL_holds 290 = .ok (.aload_n 0, 1) := by decide +kernel
theorem dL_holds_291 : decode cL_holds 291 = .ok (.bipush 14, 2) := by decide +kernel
theorem dL_holds_293 : decode cL_holds 293 = .ok (.invokevirtual 12, 3) := by decide +kernel
theorem dL_holds_296 : decode cL_holds 296 = .ok (.if_icmp .le 7, 3) := by decide +kernel
theorem dL_holds_299 : decode cL_holds 299 = .ok (.iconst 1, 1) := by decide +kernel
theorem dL_holds_300 : decode cL_holds 300 = .ok (.goto 4, 3) := by decide +kernel
theorem dL_holds_303 : decode cL_holds 303 = .ok (.iconst 0, 1) := by decide +kernel
theorem dL_holds_304 : decode cL_holds 304 = .ok (.iadd, 1) := by decide +kernel
theorem dL_holds_305 : decode cL_holds 305 = .ok (.istore_n 3, 1) := by decide +kernel
theorem dL_holds_306 : decode cL_holds 306 = .ok (.iload 8, 2) := by decide +kernel
theorem dL_holds_308 : decode cL_holds 308 = .ok (.bipush 10, 2) := by decide +kernel
theorem dL_holds_310 : decode cL_holds 310 = .ok (.aload_n 0, 1) := by decide +kernel
theorem dL_holds_311 : decode cL_holds 311 = .ok (.bipush 10, 2) := by decide +kernel
theorem dL_holds_313 : decode cL_holds 313 = .ok (.invokevirtual 12, 3) := by decide +kernel
theorem dL_holds_316 : decode cL_holds 316 = .ok (.imul, 1) := by decide +kernel
theorem dL_holds_317 : decode cL_holds 317 = .ok (.if_icmp .gt 63, 3) := by decide +kernel
theorem dL_holds_320 : decode cL_holds 320 = .ok (.aload_n 0, 1) := by decide +kernel
theorem dL_holds_321 : decode cL_holds 321 = .ok (.iload 5, 2) := by decide +kernel
theorem dL_holds_323 : decode cL_holds 323 = .ok (.iconst 4, 1) := by decide +kernel
theorem dL_holds_324 : decode cL_holds 324 = .ok (.invokevirtual 18, 3) := by decide +kernel
theorem dL_holds_327 : decode cL_holds 327 = .ok (.aload_n 0, 1) := by decide +kernel
theorem dL_holds_328 : decode cL_holds 328 = .ok (.iload 5, 2) := by decide +kernel
theorem dL_holds_330 : decode cL_holds 330 = .ok (.iconst 2, 1) := by decide +kernel
theorem dL_holds_331 : decode cL_holds 331 = .ok (.invokevirtual 18, 3) := by decide +kernel
theorem dL_holds_334 : decode cL_holds 334 = .ok (.iload 4, 2) := by decide +kernel
theorem dL_holds_336 : decode cL_holds 336 = .ok (.isub, 1) := by decide +kernel
theorem dL_holds_337 : decode cL_holds 337 = .ok (.if_icmp .ne 43, 3) := by decide +kernel
theorem dL_holds_340 : decode cL_holds 340 = .ok (.aload_n 0, 1) := by decide +kernel
theorem dL_holds_341 : decode cL_holds 341 = .ok (.iload 5, 2) := by decide +kernel
theorem dL_holds_343 : decode cL_holds 343 = .ok (.bipush 7, 2) := by decide +kernel
theorem dL_holds_345 : decode cL_holds 345 = .ok (.invokevirtual 18, 3) := by decide +kernel
theorem dL_holds_348 : decode cL_holds 348 = .ok (.iload 11, 2) := by decide +kernel
theorem dL_holds_350 : decode cL_holds 350 = .ok (.if_icmp .ne 30, 3) := by decide +kernel
theorem dL_holds_353 : decode cL_holds 353 = .ok (.aload_n 0, 1) := by decide +kernel
theorem dL_holds_354 : decode cL_holds 354 = .ok (.iload 5, 2) := by decide +kernel
theorem dL_holds_356 : decode cL_holds 356 = .ok (.bipush 8, 2) := by decide +kernel
theorem dL_holds_358 : decode cL_holds 358 = .ok (.invokevirtual 18, 3) := by decide +kernel
theorem dL_holds_361 : decode cL_holds 361 = .ok (.iload 11, 2) := by decide +kernel
theorem dL_holds_363 : decode cL_holds 363 = .ok (.aload_n 0, 1) := by decide +kernel
theorem dL_holds_364 : decode cL_holds 364 = .ok (.bipush 14, 2) := by decide +kernel
theorem dL_holds_366 : decode cL_holds 366 = .ok (.invokevirtual 12, 3) := by decide +kernel
theorem dL_holds_369 : decode cL_holds 369 = .ok (.if_icmp .le 7, 3) := by decide +kernel
theorem dL_holds_372 : decode cL_holds 372 = .ok (.iconst 1, 1) := by decide +kernel
theorem dL_holds_373 : decode cL_holds 373 = .ok (.goto 4, 3) := by decide +kernel
