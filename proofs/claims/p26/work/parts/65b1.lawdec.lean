theorem dL_couples_276 : decode cL_couples 276 = .ok (.iconst 0, 1) := by decide +kernel
theorem dL_couples_277 : decode cL_couples 277 = .ok (.istore 16, 2) := by decide +kernel
theorem dL_couples_279 : decode cL_couples 279 = .ok (.iload 16, 2) := by decide +kernel
theorem dL_couples_281 : decode cL_couples 281 = .ok (.ifCond .eq 43, 3) := by decide +kernel
theorem dL_couples_284 : decode cL_couples 284 = .ok (.aload_n 0, 1) := by decide +kernel
theorem dL_couples_285 : decode cL_couples 285 = .ok (.iload_n 1, 1) := by decide +kernel
theorem dL_couples_286 : decode cL_couples 286 = .ok (.iconst 3, 1) := by decide +kernel
theorem dL_couples_287 : decode cL_couples 287 = .ok (.invokevirtual 41, 3) := by decide +kernel
theorem dL_couples_290 : decode cL_couples 290 = .ok (.aload_n 0, 1) := by decide +kernel
theorem dL_couples_291 : decode cL_couples 291 = .ok (.iload_n 2, 1) := by decide +kernel
theorem dL_couples_292 : decode cL_couples 292 = .ok (.iconst 3, 1) := by decide +kernel
theorem dL_couples_293 : decode cL_couples 293 = .ok (.invokevirtual 41, 3) := by decide +kernel
theorem dL_couples_296 : decode cL_couples 296 = .ok (.ladd, 1) := by decide +kernel
theorem dL_couples_297 : decode cL_couples 297 = .ok (.lload 9, 2) := by decide +kernel
theorem dL_couples_299 : decode cL_couples 299 = .ok (.lsub, 1) := by decide +kernel
theorem dL_couples_300 : decode cL_couples 300 = .ok (.lload 7, 2) := by decide +kernel
theorem dL_couples_302 : decode cL_couples 302 = .ok (.aload_n 0, 1) := by decide +kernel
theorem dL_couples_303 : decode cL_couples 303 = .ok (.iload_n 1, 1) := by decide +kernel
theorem dL_couples_304 : decode cL_couples 304 = .ok (.iconst 0, 1) := by decide +kernel
theorem dL_couples_305 : decode cL_couples 305 = .ok (.invokevirtual 41, 3) := by decide +kernel
theorem dL_couples_308 : decode cL_couples 308 = .ok (.lsub, 1) := by decide +kernel
theorem dL_couples_309 : decode cL_couples 309 = .ok (.aload_n 0, 1) := by decide +kernel
theorem dL_couples_310 : decode cL_couples 310 = .ok (.iload_n 2, 1) := by decide +kernel
theorem dL_couples_311 : decode cL_couples 311 = .ok (.iconst 0, 1) := by decide +kernel
theorem dL_couples_312 : decode cL_couples 312 = .ok (.invokevirtual 41, 3) := by decide +kernel
theorem dL_couples_315 : decode cL_couples 315 = .ok (.lsub, 1) := by decide +kernel
theorem dL_couples_316 : decode cL_couples 316 = .ok (.lcmp, 1) := by decide +kernel
theorem dL_couples_317 : decode cL_couples 317 = .ok (.ifCond .ne 7, 3) := by decide +kernel
theorem dL_couples_320 : decode cL_couples 320 = .ok (.iconst 1, 1) := by decide +kernel
theorem dL_couples_321 : decode cL_couples 321 = .ok (.goto 4, 3) := by decide +kernel
theorem dL_couples_324 : decode cL_couples 324 = .ok (.iconst 0, 1) := by decide +kernel
theorem dL_couples_325 : decode cL_couples 325 = .ok (.istore 16, 2) := by decide +kernel
theorem dL_couples_327 : decode cL_couples 327 = .ok (.iload 16, 2) := by decide +kernel
theorem dL_couples_329 : decode cL_couples 329 = .ok (.ifCond .eq 21, 3) := by decide +kernel
theorem dL_couples_332 : decode cL_couples 332 = .ok (.aload_n 0, 1) := by decide +kernel
theorem dL_couples_333 : decode cL_couples 333 = .ok (.bipush 7, 2) := by decide +kernel
theorem dL_couples_335 : decode cL_couples 335 = .ok (.invokevirtual 45, 3) := by decide +kernel
theorem dL_couples_338 : decode cL_couples 338 = .ok (.iload 11, 2) := by decide +kernel
theorem dL_couples_340 : decode cL_couples 340 = .ok (.iconst 1, 1) := by decide +kernel
theorem dL_couples_341 : decode cL_couples 341 = .ok (.iadd, 1) := by decide +kernel
theorem dL_couples_342 : decode cL_couples 342 = .ok (.if_icmp .ne 8, 3) := by decide +kernel
theorem dL_couples_345 : decode cL_couples 345 = .ok (.iload 13, 2) := by decide +kernel
theorem dL_couples_347 : decode cL_couples 347 = .ok (.goto 6, 3) := by decide +kernel
theorem dL_couples_350 : decode cL_couples 350 = .ok (.sipush (-1000), 3) := by decide +kernel
theorem dL_couples_353 : decode cL_couples 353 = .ok (.ireturn, 1) := by decide +kernel
