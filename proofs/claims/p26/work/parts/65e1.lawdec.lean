theorem dL_tries_289 : decode cL_tries 289 = .ok (.istore 7, 2) := by decide +kernel
theorem dL_tries_291 : decode cL_tries 291 = .ok (.iload 7, 2) := by decide +kernel
theorem dL_tries_293 : decode cL_tries 293 = .ok (.ifCond .eq 88, 3) := by decide +kernel
theorem dL_tries_296 : decode cL_tries 296 = .ok (.iload 6, 2) := by decide +kernel
theorem dL_tries_298 : decode cL_tries 298 = .ok (.bipush 40, 2) := by decide +kernel
theorem dL_tries_300 : decode cL_tries 300 = .ok (.if_icmp .ne 18, 3) := by decide +kernel
theorem dL_tries_303 : decode cL_tries 303 = .ok (.iload 9, 2) := by decide +kernel
theorem dL_tries_305 : decode cL_tries 305 = .ok (.ifCond .ne 76, 3) := by decide +kernel
theorem dL_tries_308 : decode cL_tries 308 = .ok (.iload 8, 2) := by decide +kernel
theorem dL_tries_310 : decode cL_tries 310 = .ok (.bipush (-5), 2) := by decide +kernel
theorem dL_tries_312 : decode cL_tries 312 = .ok (.if_icmp .ne 69, 3) := by decide +kernel
theorem dL_tries_315 : decode cL_tries 315 = .ok (.goto 50, 3) := by decide +kernel
theorem dL_tries_318 : decode cL_tries 318 = .ok (.iload 9, 2) := by decide +kernel
theorem dL_tries_320 : decode cL_tries 320 = .ok (.bipush (-5), 2) := by decide +kernel
theorem dL_tries_322 : decode cL_tries 322 = .ok (.if_icmp .ne 16, 3) := by decide +kernel
theorem dL_tries_325 : decode cL_tries 325 = .ok (.aload_n 0, 1) := by decide +kernel
theorem dL_tries_326 : decode cL_tries 326 = .ok (.iload_n 2, 1) := by decide +kernel
theorem dL_tries_327 : decode cL_tries 327 = .ok (.bipush 30, 2) := by decide +kernel
theorem dL_tries_329 : decode cL_tries 329 = .ok (.invokestatic 89, 3) := by decide +kernel
theorem dL_tries_332 : decode cL_tries 332 = .ok (.ifCond .ne 49, 3) := by decide +kernel
theorem dL_tries_335 : decode cL_tries 335 = .ok (.goto 30, 3) := by decide +kernel
theorem dL_tries_338 : decode cL_tries 338 = .ok (.aload_n 0, 1) := by decide +kernel
theorem dL_tries_339 : decode cL_tries 339 = .ok (.iload_n 2, 1) := by decide +kernel
theorem dL_tries_340 : decode cL_tries 340 = .ok (.iload 9, 2) := by decide +kernel
theorem dL_tries_342 : decode cL_tries 342 = .ok (.invokestatic 89, 3) := by decide +kernel
theorem dL_tries_345 : decode cL_tries 345 = .ok (.ifCond .eq 36, 3) := by decide +kernel
theorem dL_tries_348 : decode cL_tries 348 = .ok (.iload 9, 2) := by decide +kernel
theorem dL_tries_350 : decode cL_tries 350 = .ok (.ifCond .eq 15, 3) := by decide +kernel
theorem dL_tries_353 : decode cL_tries 353 = .ok (.aload_n 0, 1) := by decide +kernel
theorem dL_tries_354 : decode cL_tries 354 = .ok (.iload_n 2, 1) := by decide +kernel
theorem dL_tries_355 : decode cL_tries 355 = .ok (.iload 9, 2) := by decide +kernel
theorem dL_tries_357 : decode cL_tries 357 = .ok (.iconst 1, 1) := by decide +kernel
theorem dL_tries_358 : decode cL_tries 358 = .ok (.isub, 1) := by decide +kernel
theorem dL_tries_359 : decode cL_tries 359 = .ok (.invokestatic 89, 3) := by decide +kernel
theorem dL_tries_362 : decode cL_tries 362 = .ok (.ifCond .ne 19, 3) := by decide +kernel
theorem dL_tries_365 : decode cL_tries 365 = .ok (.aload_n 0, 1) := by decide +kernel
theorem dL_tries_366 : decode cL_tries 366 = .ok (.iload_n 2, 1) := by decide +kernel
theorem dL_tries_367 : decode cL_tries 367 = .ok (.bipush 6, 2) := by decide +kernel
theorem dL_tries_369 : decode cL_tries 369 = .ok (.invokevirtual 38, 3) := by decide +kernel
theorem dL_tries_372 : decode cL_tries 372 = .ok (.iload 6, 2) := by decide +kernel
theorem dL_tries_374 : decode cL_tries 374 = .ok (.if_icmp .ne 7, 3) := by decide +kernel
theorem dL_tries_377 : decode cL_tries 377 = .ok (.iconst 1, 1) := by decide +kernel
theorem dL_tries_378 : decode cL_tries 378 = .ok (.goto 4, 3) := by decide +kernel
theorem dL_tries_381 : decode cL_tries 381 = .ok (.iconst 0, 1) := by decide +kernel
theorem dL_tries_382 : decode cL_tries 382 = .ok (.ireturn, 1) := by decide +kernel
