theorem dL_isPair_258 : decode cL_isPair 258 = .ok (.aload_n 0, 1) := by decide +kernel
theorem dL_isPair_259 : decode cL_isPair 259 = .ok (.iload_n 1, 1) := by decide +kernel
theorem dL_isPair_260 : decode cL_isPair 260 = .ok (.iconst 0, 1) := by decide +kernel
theorem dL_isPair_261 : decode cL_isPair 261 = .ok (.invokevirtual 41, 3) := by decide +kernel
theorem dL_isPair_264 : decode cL_isPair 264 = .ok (.iload 9, 2) := by decide +kernel
theorem dL_isPair_266 : decode cL_isPair 266 = .ok (.ifCond .eq 12, 3) := by decide +kernel
theorem dL_isPair_269 : decode cL_isPair 269 = .ok (.iload 8, 2) := by decide +kernel
theorem dL_isPair_271 : decode cL_isPair 271 = .ok (.i2l, 1) := by decide +kernel
theorem dL_isPair_272 : decode cL_isPair 272 = .ok (.lload 6, 2) := by decide +kernel
theorem dL_isPair_274 : decode cL_isPair 274 = .ok (.lmul, 1) := by decide +kernel
theorem dL_isPair_275 : decode cL_isPair 275 = .ok (.goto 12, 3) := by decide +kernel
theorem dL_isPair_278 : decode cL_isPair 278 = .ok (.lload 6, 2) := by decide +kernel
theorem dL_isPair_280 : decode cL_isPair 280 = .ok (.lload 6, 2) := by decide +kernel
theorem dL_isPair_282 : decode cL_isPair 282 = .ok (.lmul, 1) := by decide +kernel
theorem dL_isPair_283 : decode cL_isPair 283 = .ok (.iload 5, 2) := by decide +kernel
theorem dL_isPair_285 : decode cL_isPair 285 = .ok (.i2l, 1) := by decide +kernel
theorem dL_isPair_286 : decode cL_isPair 286 = .ok (.ldiv, 1) := by decide +kernel
theorem dL_isPair_287 : decode cL_isPair 287 = .ok (.lcmp, 1) := by decide +kernel
theorem dL_isPair_288 : decode cL_isPair 288 = .ok (.ifCond .ne 61, 3) := by decide +kernel
theorem dL_isPair_291 : decode cL_isPair 291 = .ok (.aload_n 0, 1) := by decide +kernel
theorem dL_isPair_292 : decode cL_isPair 292 = .ok (.iload_n 1, 1) := by decide +kernel
theorem dL_isPair_293 : decode cL_isPair 293 = .ok (.bipush 11, 2) := by decide +kernel
theorem dL_isPair_295 : decode cL_isPair 295 = .ok (.invokevirtual 38, 3) := by decide +kernel
theorem dL_isPair_298 : decode cL_isPair 298 = .ok (.i2l, 1) := by decide +kernel
theorem dL_isPair_299 : decode cL_isPair 299 = .ok (.lload 10, 2) := by decide +kernel
theorem dL_isPair_301 : decode cL_isPair 301 = .ok (.lcmp, 1) := by decide +kernel
theorem dL_isPair_302 : decode cL_isPair 302 = .ok (.ifCond .ne 47, 3) := by decide +kernel
theorem dL_isPair_305 : decode cL_isPair 305 = .ok (.aload_n 0, 1) := by decide +kernel
theorem dL_isPair_306 : decode cL_isPair 306 = .ok (.iload_n 1, 1) := by decide +kernel
theorem dL_isPair_307 : decode cL_isPair 307 = .ok (.bipush 12, 2) := by decide +kernel
theorem dL_isPair_309 : decode cL_isPair 309 = .ok (.invokevirtual 38, 3) := by decide +kernel
theorem dL_isPair_312 : decode cL_isPair 312 = .ok (.iload 12, 2) := by decide +kernel
theorem dL_isPair_314 : decode cL_isPair 314 = .ok (.invokestatic 51, 3) := by decide +kernel
theorem dL_isPair_317 : decode cL_isPair 317 = .ok (.if_icmp .ne 32, 3) := by decide +kernel
theorem dL_isPair_320 : decode cL_isPair 320 = .ok (.aload_n 0, 1) := by decide +kernel
theorem dL_isPair_321 : decode cL_isPair 321 = .ok (.iload_n 1, 1) := by decide +kernel
theorem dL_isPair_322 : decode cL_isPair 322 = .ok (.invokevirtual 54, 3) := by decide +kernel
theorem dL_isPair_325 : decode cL_isPair 325 = .ok (.iload 14, 2) := by decide +kernel
theorem dL_isPair_327 : decode cL_isPair 327 = .ok (.if_icmp .ne 22, 3) := by decide +kernel
theorem dL_isPair_330 : decode cL_isPair 330 = .ok (.aload_n 0, 1) := by decide +kernel
theorem dL_isPair_331 : decode cL_isPair 331 = .ok (.iload_n 1, 1) := by decide +kernel
theorem dL_isPair_332 : decode cL_isPair 332 = .ok (.iload 4, 2) := by decide +kernel
theorem dL_isPair_334 : decode cL_isPair 334 = .ok (.invokevirtual 57, 3) := by decide +kernel
theorem dL_isPair_337 : decode cL_isPair 337 = .ok (.iload 13, 2) := by decide +kernel
theorem dL_isPair_339 : decode cL_isPair 339 = .ok (.invokestatic 51, 3) := by decide +kernel
theorem dL_isPair_342 : decode cL_isPair 342 = .ok (.if_icmp .ne 7, 3) := by decide +kernel
theorem dL_isPair_345 : decode cL_isPair 345 = .ok (.iconst 1, 1) := by decide +kernel
theorem dL_isPair_346 : decode cL_isPair 346 = .ok (.goto 4, 3) := by decide +kernel
theorem dL_isPair_349 : decode cL_isPair 349 = .ok (.iconst 0, 1) := by decide +kernel
theorem dL_isPair_350 : decode cL_isPair 350 = .ok (.istore 15, 2) := by decide +kernel
theorem dL_isPair_352 : decode cL_isPair 352 = .ok (.iload 15, 2) := by decide +kernel
theorem dL_isPair_354 : decode cL_isPair 354 = .ok (.ifCond .eq 55, 3) := by decide +kernel
theorem dL_isPair_357 : decode cL_isPair 357 = .ok (.aload_n 0, 1) := by decide +kernel
theorem dL_isPair_358 : decode cL_isPair 358 = .ok (.iload_n 1, 1) := by decide +kernel
theorem dL_isPair_359 : decode cL_isPair 359 = .ok (.iconst 1, 1) := by decide +kernel
theorem dL_isPair_360 : decode cL_isPair 360 = .ok (.invokevirtual 41, 3) := by decide +kernel
theorem dL_isPair_363 : decode cL_isPair 363 = .ok (.aload_n 0, 1) := by decide +kernel
theorem dL_isPair_364 : decode cL_isPair 364 = .ok (.iload_n 1, 1) := by decide +kernel
theorem dL_isPair_365 : decode cL_isPair 365 = .ok (.iconst 0, 1) := by decide +kernel
theorem dL_isPair_366 : decode cL_isPair 366 = .ok (.invokevirtual 41, 3) := by decide +kernel
theorem dL_isPair_369 : decode cL_isPair 369 = .ok (.aload_n 0, 1) := by decide +kernel
theorem dL_isPair_370 : decode cL_isPair 370 = .ok (.iload_n 1, 1) := by decide +kernel
theorem dL_isPair_371 : decode cL_isPair 371 = .ok (.iconst 2, 1) := by decide +kernel
theorem dL_isPair_372 : decode cL_isPair 372 = .ok (.invokevirtual 41, 3) := by decide +kernel
theorem dL_isPair_375 : decode cL_isPair 375 = .ok (.ladd, 1) := by decide +kernel
theorem dL_isPair_376 : decode cL_isPair 376 = .ok (.aload_n 0, 1) := by decide +kernel
theorem dL_isPair_377 : decode cL_isPair 377 = .ok (.iload_n 1, 1) := by decide +kernel
theorem dL_isPair_378 : decode cL_isPair 378 = .ok (.iconst 3, 1) := by decide +kernel
theorem dL_isPair_379 : decode cL_isPair 379 = .ok (.invokevirtual 41, 3) := by decide +kernel
theorem dL_isPair_382 : decode cL_isPair 382 = .ok (.ladd, 1) := by decide +kernel
theorem dL_isPair_383 : decode cL_isPair 383 = .ok (.aload_n 0, 1) := by decide +kernel
theorem dL_isPair_384 : decode cL_isPair 384 = .ok (.iload_n 1, 1) := by decide +kernel
theorem dL_isPair_385 : decode cL_isPair 385 = .ok (.iconst 4, 1) := by decide +kernel
theorem dL_isPair_386 : decode cL_isPair 386 = .ok (.invokevirtual 41, 3) := by decide +kernel
theorem dL_isPair_389 : decode cL_isPair 389 = .ok (.ladd, 1) := by decide +kernel
theorem dL_isPair_390 : decode cL_isPair 390 = .ok (.lcmp, 1) := by decide +kernel
theorem dL_isPair_391 : decode cL_isPair 391 = .ok (.ifCond .ne 18, 3) := by decide +kernel
theorem dL_isPair_394 : decode cL_isPair 394 = .ok (.aload_n 0, 1) := by decide +kernel
theorem dL_isPair_395 : decode cL_isPair 395 = .ok (.iload_n 1, 1) := by decide +kernel
theorem dL_isPair_396 : decode cL_isPair 396 = .ok (.iconst 2, 1) := by decide +kernel
theorem dL_isPair_397 : decode cL_isPair 397 = .ok (.invokevirtual 41, 3) := by decide +kernel
theorem dL_isPair_400 : decode cL_isPair 400 = .ok (.lconst 0, 1) := by decide +kernel
theorem dL_isPair_401 : decode cL_isPair 401 = .ok (.lcmp, 1) := by decide +kernel
theorem dL_isPair_402 : decode cL_isPair 402 = .ok (.ifCond .lt 7, 3) := by decide +kernel
theorem dL_isPair_405 : decode cL_isPair 405 = .ok (.iconst 1, 1) := by decide +kernel
theorem dL_isPair_406 : decode cL_isPair 406 = .ok (.goto 4, 3) := by decide +kernel
theorem dL_isPair_409 : decode cL_isPair 409 = .ok (.iconst 0, 1) := by decide +kernel
theorem dL_isPair_410 : decode cL_isPair 410 = .ok (.istore 15, 2) := by decide +kernel
theorem dL_isPair_412 : decode cL_isPair 412 = .ok (.iload 4, 2) := by decide +kernel
theorem dL_isPair_414 : decode cL_isPair 414 = .ok (.bipush 13, 2) := by decide +kernel
theorem dL_isPair_416 : decode cL_isPair 416 = .ok (.iadd, 1) := by decide +kernel
theorem dL_isPair_417 : decode cL_isPair 417 = .ok (.bipush 41, 2) := by decide +kernel
theorem dL_isPair_419 : decode cL_isPair 419 = .ok (.irem, 1) := by decide +kernel
theorem dL_isPair_420 : decode cL_isPair 420 = .ok (.istore 16, 2) := by decide +kernel
theorem dL_isPair_422 : decode cL_isPair 422 = .ok (.iload_n 2, 1) := by decide +kernel
theorem dL_isPair_423 : decode cL_isPair 423 = .ok (.bipush 40, 2) := by decide +kernel
theorem dL_isPair_425 : decode cL_isPair 425 = .ok (.iload_n 3, 1) := by decide +kernel
theorem dL_isPair_426 : decode cL_isPair 426 = .ok (.iconst 1, 1) := by decide +kernel
theorem dL_isPair_427 : decode cL_isPair 427 = .ok (.isub, 1) := by decide +kernel
theorem dL_isPair_428 : decode cL_isPair 428 = .ok (.iload 16, 2) := by decide +kernel
theorem dL_isPair_430 : decode cL_isPair 430 = .ok (.imul, 1) := by decide +kernel
theorem dL_isPair_431 : decode cL_isPair 431 = .ok (.iadd, 1) := by decide +kernel
theorem dL_isPair_432 : decode cL_isPair 432 = .ok (.imul, 1) := by decide +kernel
theorem dL_isPair_433 : decode cL_isPair 433 = .ok (.i2l, 1) := by decide +kernel
theorem dL_isPair_434 : decode cL_isPair 434 = .ok (.lstore 17, 2) := by decide +kernel
theorem dL_isPair_436 : decode cL_isPair 436 = .ok (.iload 9, 2) := by decide +kernel
theorem dL_isPair_438 : decode cL_isPair 438 = .ok (.ifCond .eq 8, 3) := by decide +kernel
theorem dL_isPair_441 : decode cL_isPair 441 = .ok (.lload 10, 2) := by decide +kernel
theorem dL_isPair_443 : decode cL_isPair 443 = .ok (.goto 21, 3) := by decide +kernel
theorem dL_isPair_446 : decode cL_isPair 446 = .ok (.iload_n 2, 1) := by decide +kernel
theorem dL_isPair_447 : decode cL_isPair 447 = .ok (.iload_n 3, 1) := by decide +kernel
theorem dL_isPair_448 : decode cL_isPair 448 = .ok (.iconst 1, 1) := by decide +kernel
theorem dL_isPair_449 : decode cL_isPair 449 = .ok (.isub, 1) := by decide +kernel
theorem dL_isPair_450 : decode cL_isPair 450 = .ok (.imul, 1) := by decide +kernel
theorem dL_isPair_451 : decode cL_isPair 451 = .ok (.i2l, 1) := by decide +kernel
theorem dL_isPair_452 : decode cL_isPair 452 = .ok (.lload 6, 2) := by decide +kernel
theorem dL_isPair_454 : decode cL_isPair 454 = .ok (.lmul, 1) := by decide +kernel
theorem dL_isPair_455 : decode cL_isPair 455 = .ok (.lload 6, 2) := by decide +kernel
theorem dL_isPair_457 : decode cL_isPair 457 = .ok (.lmul, 1) := by decide +kernel
theorem dL_isPair_458 : decode cL_isPair 458 = .ok (.lload 17, 2) := by decide +kernel
theorem dL_isPair_460 : decode cL_isPair 460 = .ok (.lload 17, 2) := by decide +kernel
theorem dL_isPair_462 : decode cL_isPair 462 = .ok (.lmul, 1) := by decide +kernel
theorem dL_isPair_463 : decode cL_isPair 463 = .ok (.ldiv, 1) := by decide +kernel
theorem dL_isPair_464 : decode cL_isPair 464 = .ok (.lstore 19, 2) := by decide +kernel
theorem dL_isPair_466 : decode cL_isPair 466 = .ok (.iload 15, 2) := by decide +kernel
theorem dL_isPair_468 : decode cL_isPair 468 = .ok (.ifCond .eq 40, 3) := by decide +kernel
theorem dL_isPair_471 : decode cL_isPair 471 = .ok (.aload_n 0, 1) := by decide +kernel
theorem dL_isPair_472 : decode cL_isPair 472 = .ok (.iload_n 1, 1) := by decide +kernel
theorem dL_isPair_473 : decode cL_isPair 473 = .ok (.iload 16, 2) := by decide +kernel
theorem dL_isPair_475 : decode cL_isPair 475 = .ok (.invokevirtual 57, 3) := by decide +kernel
theorem dL_isPair_478 : decode cL_isPair 478 = .ok (.lload 19, 2) := by decide +kernel
theorem dL_isPair_480 : decode cL_isPair 480 = .ok (.l2i, 1) := by decide +kernel
theorem dL_isPair_481 : decode cL_isPair 481 = .ok (.aload_n 0, 1) := by decide +kernel
theorem dL_isPair_482 : decode cL_isPair 482 = .ok (.iload_n 1, 1) := by decide +kernel
theorem dL_isPair_483 : decode cL_isPair 483 = .ok (.iconst 2, 1) := by decide +kernel
theorem dL_isPair_484 : decode cL_isPair 484 = .ok (.invokevirtual 38, 3) := by decide +kernel
theorem dL_isPair_487 : decode cL_isPair 487 = .ok (.iload 16, 2) := by decide +kernel
theorem dL_isPair_489 : decode cL_isPair 489 = .ok (.aload_n 0, 1) := by decide +kernel
theorem dL_isPair_490 : decode cL_isPair 490 = .ok (.iload_n 1, 1) := by decide +kernel
theorem dL_isPair_491 : decode cL_isPair 491 = .ok (.iconst 3, 1) := by decide +kernel
theorem dL_isPair_492 : decode cL_isPair 492 = .ok (.invokevirtual 38, 3) := by decide +kernel
theorem dL_isPair_495 : decode cL_isPair 495 = .ok (.isub, 1) := by decide +kernel
theorem dL_isPair_496 : decode cL_isPair 496 = .ok (.imul, 1) := by decide +kernel
theorem dL_isPair_497 : decode cL_isPair 497 = .ok (.isub, 1) := by decide +kernel
theorem dL_isPair_498 : decode cL_isPair 498 = .ok (.invokestatic 51, 3) := by decide +kernel
theorem dL_isPair_501 : decode cL_isPair 501 = .ok (.if_icmp .ne 7, 3) := by decide +kernel
theorem dL_isPair_504 : decode cL_isPair 504 = .ok (.iconst 1, 1) := by decide +kernel
theorem dL_isPair_505 : decode cL_isPair 505 = .ok (.goto 4, 3) := by decide +kernel
theorem dL_isPair_508 : decode cL_isPair 508 = .ok (.iconst 0, 1) := by decide +kernel
theorem dL_isPair_509 : decode cL_isPair 509 = .ok (.ireturn, 1) := by decide +kernel
