theorem dL_notes_260 : decode cL_notes 260 = .ok (.invokevirtual 15, 3) := by decide +kernel
theorem dL_notes_263 : decode cL_notes 263 = .ok (.aload_n 0, 1) := by decide +kernel
theorem dL_notes_264 : decode cL_notes 264 = .ok (.iload 6, 2) := by decide +kernel
theorem dL_notes_266 : decode cL_notes 266 = .ok (.iconst 3, 1) := by decide +kernel
theorem dL_notes_267 : decode cL_notes 267 = .ok (.invokevirtual 15, 3) := by decide +kernel
theorem dL_notes_270 : decode cL_notes 270 = .ok (.if_icmp .gt 51, 3) := by decide +kernel
theorem dL_notes_273 : decode cL_notes 273 = .ok (.aload_n 0, 1) := by decide +kernel
theorem dL_notes_274 : decode cL_notes 274 = .ok (.iload 6, 2) := by decide +kernel
theorem dL_notes_276 : decode cL_notes 276 = .ok (.iconst 5, 1) := by decide +kernel
theorem dL_notes_277 : decode cL_notes 277 = .ok (.invokevirtual 15, 3) := by decide +kernel
theorem dL_notes_280 : decode cL_notes 280 = .ok (.aload_n 0, 1) := by decide +kernel
theorem dL_notes_281 : decode cL_notes 281 = .ok (.iload 6, 2) := by decide +kernel
theorem dL_notes_283 : decode cL_notes 283 = .ok (.iconst 4, 1) := by decide +kernel
theorem dL_notes_284 : decode cL_notes 284 = .ok (.invokevirtual 15, 3) := by decide +kernel
theorem dL_notes_287 : decode cL_notes 287 = .ok (.if_icmp .gt 34, 3) := by decide +kernel
theorem dL_notes_290 : decode cL_notes 290 = .ok (.iload 9, 2) := by decide +kernel
theorem dL_notes_292 : decode cL_notes 292 = .ok (.iload 8, 2) := by decide +kernel
theorem dL_notes_294 : decode cL_notes 294 = .ok (.isub, 1) := by decide +kernel
theorem dL_notes_295 : decode cL_notes 295 = .ok (.aload_n 0, 1) := by decide +kernel
theorem dL_notes_296 : decode cL_notes 296 = .ok (.iload 6, 2) := by decide +kernel
theorem dL_notes_298 : decode cL_notes 298 = .ok (.iconst 4, 1) := by decide +kernel
theorem dL_notes_299 : decode cL_notes 299 = .ok (.invokevirtual 15, 3) := by decide +kernel
theorem dL_notes_302 : decode cL_notes 302 = .ok (.if_icmp .ge 19, 3) := by decide +kernel
theorem dL_notes_305 : decode cL_notes 305 = .ok (.aload_n 0, 1) := by decide +kernel
theorem dL_notes_306 : decode cL_notes 306 = .ok (.iload 6, 2) := by decide +kernel
theorem dL_notes_308 : decode cL_notes 308 = .ok (.iconst 0, 1) := by decide +kernel
theorem dL_notes_309 : decode cL_notes 309 = .ok (.invokevirtual 19, 3) := by decide +kernel
theorem dL_notes_312 : decode cL_notes 312 = .ok (.bipush (-5), 2) := by decide +kernel
theorem dL_notes_314 : decode cL_notes 314 = .ok (.if_icmp .ne 7, 3) := by decide +kernel
theorem dL_notes_317 : decode cL_notes 317 = .ok (.iconst 1, 1) := by decide +kernel
theorem dL_notes_318 : decode cL_notes 318 = .ok (.goto 4, 3) := by decide +kernel
theorem dL_notes_321 : decode cL_notes 321 = .ok (.iconst 0, 1) := by decide +kernel
theorem dL_notes_322 : decode cL_notes 322 = .ok (.istore 5, 2) := by decide +kernel
theorem dL_notes_324 : decode cL_notes 324 = .ok (.iload 8, 2) := by decide +kernel
theorem dL_notes_326 : decode cL_notes 326 = .ok (.istore 10, 2) := by decide +kernel
theorem dL_notes_328 : decode cL_notes 328 = .ok (.iload 10, 2) := by decide +kernel
theorem dL_notes_330 : decode cL_notes 330 = .ok (.iload 9, 2) := by decide +kernel
theorem dL_notes_332 : decode cL_notes 332 = .ok (.if_icmp .gt 36, 3) := by decide +kernel
theorem dL_notes_335 : decode cL_notes 335 = .ok (.iload 5, 2) := by decide +kernel
theorem dL_notes_337 : decode cL_notes 337 = .ok (.ifCond .eq 31, 3) := by decide +kernel
theorem dL_notes_340 : decode cL_notes 340 = .ok (.aload_n 0, 1) := by decide +kernel
theorem dL_notes_341 : decode cL_notes 341 = .ok (.iload 10, 2) := by decide +kernel
theorem dL_notes_343 : decode cL_notes 343 = .ok (.invokevirtual 22, 3) := by decide +kernel
theorem dL_notes_346 : decode cL_notes 346 = .ok (.iload 6, 2) := by decide +kernel
theorem dL_notes_348 : decode cL_notes 348 = .ok (.ishr, 1) := by decide +kernel
theorem dL_notes_349 : decode cL_notes 349 = .ok (.iconst 1, 1) := by decide +kernel
theorem dL_notes_350 : decode cL_notes 350 = .ok (.iand, 1) := by decide +kernel
theorem dL_notes_351 : decode cL_notes 351 = .ok (.iconst 1, 1) := by decide +kernel
theorem dL_notes_352 : decode cL_notes 352 = .ok (.if_icmp .ne 7, 3) := by decide +kernel
theorem dL_notes_355 : decode cL_notes 355 = .ok (.iconst 1, 1) := by decide +kernel
theorem dL_notes_356 : decode cL_notes 356 = .ok (.goto 4, 3) := by decide +kernel
theorem dL_notes_359 : decode cL_notes 359 = .ok (.iconst 0, 1) := by decide +kernel
theorem dL_notes_360 : decode cL_notes 360 = .ok (.istore 5, 2) := by decide +kernel
theorem dL_notes_362 : decode cL_notes 362 = .ok (.iinc 10 1, 3) := by decide +kernel
theorem dL_notes_365 : decode cL_notes 365 = .ok (.goto (-37), 3) := by decide +kernel
theorem dL_notes_368 : decode cL_notes 368 = .ok (.iload 5, 2) := by decide +kernel
theorem dL_notes_370 : decode cL_notes 370 = .ok (.ifCond .eq 35, 3) := by decide +kernel
theorem dL_notes_373 : decode cL_notes 373 = .ok (.aload_n 0, 1) := by decide +kernel
theorem dL_notes_374 : decode cL_notes 374 = .ok (.iload 6, 2) := by decide +kernel
theorem dL_notes_376 : decode cL_notes 376 = .ok (.iconst 5, 1) := by decide +kernel
theorem dL_notes_377 : decode cL_notes 377 = .ok (.invokevirtual 15, 3) := by decide +kernel
theorem dL_notes_380 : decode cL_notes 380 = .ok (.iconst 1, 1) := by decide +kernel
theorem dL_notes_381 : decode cL_notes 381 = .ok (.if_icmp .gt 20, 3) := by decide +kernel
theorem dL_notes_384 : decode cL_notes 384 = .ok (.aload_n 0, 1) := by decide +kernel
theorem dL_notes_385 : decode cL_notes 385 = .ok (.iload 6, 2) := by decide +kernel
theorem dL_notes_387 : decode cL_notes 387 = .ok (.iconst 4, 1) := by decide +kernel
theorem dL_notes_388 : decode cL_notes 388 = .ok (.invokevirtual 15, 3) := by decide +kernel
theorem dL_notes_391 : decode cL_notes 391 = .ok (.iload 9, 2) := by decide +kernel
theorem dL_notes_393 : decode cL_notes 393 = .ok (.iload 8, 2) := by decide +kernel
theorem dL_notes_395 : decode cL_notes 395 = .ok (.isub, 1) := by decide +kernel
theorem dL_notes_396 : decode cL_notes 396 = .ok (.iconst 1, 1) := by decide +kernel
theorem dL_notes_397 : decode cL_notes 397 = .ok (.iadd, 1) := by decide +kernel
theorem dL_notes_398 : decode cL_notes 398 = .ok (.if_icmp .ne 7, 3) := by decide +kernel
theorem dL_notes_401 : decode cL_notes 401 = .ok (.iconst 1, 1) := by decide +kernel
theorem dL_notes_402 : decode cL_notes 402 = .ok (.goto 4, 3) := by decide +kernel
theorem dL_notes_405 : decode cL_notes 405 = .ok (.iconst 0, 1) := by decide +kernel
theorem dL_notes_406 : decode cL_notes 406 = .ok (.istore 5, 2) := by decide +kernel
theorem dL_notes_408 : decode cL_notes 408 = .ok (.goto 153, 3) := by decide +kernel
theorem dL_notes_411 : decode cL_notes 411 = .ok (.iload 7, 2) := by decide +kernel
theorem dL_notes_413 : decode cL_notes 413 = .ok (.iconst 1, 1) := by decide +kernel
theorem dL_notes_414 : decode cL_notes 414 = .ok (.if_icmp .ne 94, 3) := by decide +kernel
theorem dL_notes_417 : decode cL_notes 417 = .ok (.iload 5, 2) := by decide +kernel
theorem dL_notes_419 : decode cL_notes 419 = .ok (.ifCond .eq 83, 3) := by decide +kernel
theorem dL_notes_422 : decode cL_notes 422 = .ok (.iload 8, 2) := by decide +kernel
theorem dL_notes_424 : decode cL_notes 424 = .ok (.bipush (-6), 2) := by decide +kernel
theorem dL_notes_426 : decode cL_notes 426 = .ok (.if_icmp .ne 76, 3) := by decide +kernel
theorem dL_notes_429 : decode cL_notes 429 = .ok (.aload_n 0, 1) := by decide +kernel
theorem dL_notes_430 : decode cL_notes 430 = .ok (.iload 6, 2) := by decide +kernel
theorem dL_notes_432 : decode cL_notes 432 = .ok (.iconst 4, 1) := by decide +kernel
theorem dL_notes_433 : decode cL_notes 433 = .ok (.invokevirtual 15, 3) := by decide +kernel
theorem dL_notes_436 : decode cL_notes 436 = .ok (.ifCond .ne 66, 3) := by decide +kernel
theorem dL_notes_439 : decode cL_notes 439 = .ok (.aload_n 0, 1) := by decide +kernel
theorem dL_notes_440 : decode cL_notes 440 = .ok (.iload 6, 2) := by decide +kernel
theorem dL_notes_442 : decode cL_notes 442 = .ok (.iconst 5, 1) := by decide +kernel
theorem dL_notes_443 : decode cL_notes 443 = .ok (.invokevirtual 15, 3) := by decide +kernel
theorem dL_notes_446 : decode cL_notes 446 = .ok (.ifCond .ne 56, 3) := by decide +kernel
theorem dL_notes_449 : decode cL_notes 449 = .ok (.aload_n 0, 1) := by decide +kernel
theorem dL_notes_450 : decode cL_notes 450 = .ok (.iload 6, 2) := by decide +kernel
theorem dL_notes_452 : decode cL_notes 452 = .ok (.iconst 0, 1) := by decide +kernel
theorem dL_notes_453 : decode cL_notes 453 = .ok (.invokevirtual 25, 3) := by decide +kernel
theorem dL_notes_456 : decode cL_notes 456 = .ok (.bipush (-6), 2) := by decide +kernel
theorem dL_notes_458 : decode cL_notes 458 = .ok (.if_icmp .ne 44, 3) := by decide +kernel
theorem dL_notes_461 : decode cL_notes 461 = .ok (.aload_n 0, 1) := by decide +kernel
theorem dL_notes_462 : decode cL_notes 462 = .ok (.iload 6, 2) := by decide +kernel
theorem dL_notes_464 : decode cL_notes 464 = .ok (.iconst 0, 1) := by decide +kernel
theorem dL_notes_465 : decode cL_notes 465 = .ok (.invokevirtual 19, 3) := by decide +kernel
theorem dL_notes_468 : decode cL_notes 468 = .ok (.bipush (-6), 2) := by decide +kernel
theorem dL_notes_470 : decode cL_notes 470 = .ok (.if_icmp .ne 7, 3) := by decide +kernel
theorem dL_notes_473 : decode cL_notes 473 = .ok (.iconst 1, 1) := by decide +kernel
theorem dL_notes_474 : decode cL_notes 474 = .ok (.goto 4, 3) := by decide +kernel
theorem dL_notes_477 : decode cL_notes 477 = .ok (.iconst 0, 1) := by decide +kernel
theorem dL_notes_478 : decode cL_notes 478 = .ok (.aload_n 0, 1) := by decide +kernel
theorem dL_notes_479 : decode cL_notes 479 = .ok (.iload 6, 2) := by decide +kernel
theorem dL_notes_481 : decode cL_notes 481 = .ok (.iconst 2, 1) := by decide +kernel
theorem dL_notes_482 : decode cL_notes 482 = .ok (.invokevirtual 19, 3) := by decide +kernel
theorem dL_notes_485 : decode cL_notes 485 = .ok (.bipush (-6), 2) := by decide +kernel
theorem dL_notes_487 : decode cL_notes 487 = .ok (.if_icmp .ne 7, 3) := by decide +kernel
theorem dL_notes_490 : decode cL_notes 490 = .ok (.iconst 1, 1) := by decide +kernel
theorem dL_notes_491 : decode cL_notes 491 = .ok (.goto 4, 3) := by decide +kernel
theorem dL_notes_494 : decode cL_notes 494 = .ok (.iconst 0, 1) := by decide +kernel
theorem dL_notes_495 : decode cL_notes 495 = .ok (.if_icmp .ne 7, 3) := by decide +kernel
theorem dL_notes_498 : decode cL_notes 498 = .ok (.iconst 1, 1) := by decide +kernel
theorem dL_notes_499 : decode cL_notes 499 = .ok (.goto 4, 3) := by decide +kernel
theorem dL_notes_502 : decode cL_notes 502 = .ok (.iconst 0, 1) := by decide +kernel
theorem dL_notes_503 : decode cL_notes 503 = .ok (.istore 5, 2) := by decide +kernel
theorem dL_notes_505 : decode cL_notes 505 = .ok (.goto 56, 3) := by decide +kernel
theorem dL_notes_508 : decode cL_notes 508 = .ok (.iload 5, 2) := by decide +kernel
theorem dL_notes_510 : decode cL_notes 510 = .ok (.ifCond .eq 48, 3) := by decide +kernel
theorem dL_notes_513 : decode cL_notes 513 = .ok (.iload 8, 2) := by decide +kernel
theorem dL_notes_515 : decode cL_notes 515 = .ok (.aload_n 0, 1) := by decide +kernel
theorem dL_notes_516 : decode cL_notes 516 = .ok (.aload_n 0, 1) := by decide +kernel
theorem dL_notes_517 : decode cL_notes 517 = .ok (.iload 6, 2) := by decide +kernel
theorem dL_notes_519 : decode cL_notes 519 = .ok (.bipush 6, 2) := by decide +kernel
theorem dL_notes_521 : decode cL_notes 521 = .ok (.invokevirtual 15, 3) := by decide +kernel
theorem dL_notes_524 : decode cL_notes 524 = .ok (.iconst 1, 1) := by decide +kernel
theorem dL_notes_525 : decode cL_notes 525 = .ok (.invokevirtual 15, 3) := by decide +kernel
theorem dL_notes_528 : decode cL_notes 528 = .ok (.if_icmp .ne 30, 3) := by decide +kernel
theorem dL_notes_531 : decode cL_notes 531 = .ok (.aload_n 0, 1) := by decide +kernel
theorem dL_notes_532 : decode cL_notes 532 = .ok (.iload 6, 2) := by decide +kernel
theorem dL_notes_534 : decode cL_notes 534 = .ok (.bipush 8, 2) := by decide +kernel
