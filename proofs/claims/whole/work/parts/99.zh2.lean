/-! decode rows of the law -/
theorem dlaw_308 : decode code 308 = .ok (.iaload, 1) := by decide +kernel
theorem dlaw_309 : decode code 309 = .ok (.aload_n 0, 1) := by decide +kernel
theorem dlaw_310 : decode code 310 = .ok (.iload_n 3, 1) := by decide +kernel
theorem dlaw_311 : decode code 311 = .ok (.iconst 2, 1) := by decide +kernel
theorem dlaw_312 : decode code 312 = .ok (.iadd, 1) := by decide +kernel
theorem dlaw_313 : decode code 313 = .ok (.iaload, 1) := by decide +kernel
theorem dlaw_314 : decode code 314 = .ok (.invokevirtual 30, 3) := by decide +kernel
theorem dlaw_317 : decode code 317 = .ok (.if_icmp .eq 813, 3) := by decide +kernel
theorem dlaw_320 : decode code 320 = .ok (.iconst 0, 1) := by decide +kernel
theorem dlaw_321 : decode code 321 = .ok (.ireturn, 1) := by decide +kernel
theorem dlaw_322 : decode code 322 = .ok (.aload_n 1, 1) := by decide +kernel
theorem dlaw_323 : decode code 323 = .ok (.aload_n 0, 1) := by decide +kernel
theorem dlaw_324 : decode code 324 = .ok (.iload_n 3, 1) := by decide +kernel
theorem dlaw_325 : decode code 325 = .ok (.iconst 1, 1) := by decide +kernel
theorem dlaw_326 : decode code 326 = .ok (.iadd, 1) := by decide +kernel
theorem dlaw_327 : decode code 327 = .ok (.iaload, 1) := by decide +kernel
theorem dlaw_328 : decode code 328 = .ok (.invokevirtual 31, 3) := by decide +kernel
theorem dlaw_331 : decode code 331 = .ok (.aload_n 2, 1) := by decide +kernel
theorem dlaw_332 : decode code 332 = .ok (.aload_n 0, 1) := by decide +kernel
theorem dlaw_333 : decode code 333 = .ok (.iload_n 3, 1) := by decide +kernel
theorem dlaw_334 : decode code 334 = .ok (.iconst 1, 1) := by decide +kernel
theorem dlaw_335 : decode code 335 = .ok (.iadd, 1) := by decide +kernel
theorem dlaw_336 : decode code 336 = .ok (.iaload, 1) := by decide +kernel
theorem dlaw_337 : decode code 337 = .ok (.invokevirtual 35, 3) := by decide +kernel
theorem dlaw_340 : decode code 340 = .ok (.if_icmp .eq 790, 3) := by decide +kernel
theorem dlaw_343 : decode code 343 = .ok (.iconst 0, 1) := by decide +kernel
theorem dlaw_344 : decode code 344 = .ok (.ireturn, 1) := by decide +kernel
theorem dlaw_345 : decode code 345 = .ok (.aload_n 1, 1) := by decide +kernel
theorem dlaw_346 : decode code 346 = .ok (.invokevirtual 36, 3) := by decide +kernel
theorem dlaw_349 : decode code 349 = .ok (.aload_n 2, 1) := by decide +kernel
theorem dlaw_350 : decode code 350 = .ok (.invokevirtual 40, 3) := by decide +kernel
theorem dlaw_353 : decode code 353 = .ok (.if_icmp .eq 777, 3) := by decide +kernel
theorem dlaw_356 : decode code 356 = .ok (.iconst 0, 1) := by decide +kernel
theorem dlaw_357 : decode code 357 = .ok (.ireturn, 1) := by decide +kernel
theorem dlaw_358 : decode code 358 = .ok (.aload_n 1, 1) := by decide +kernel
theorem dlaw_359 : decode code 359 = .ok (.aload_n 0, 1) := by decide +kernel
theorem dlaw_360 : decode code 360 = .ok (.iload_n 3, 1) := by decide +kernel
theorem dlaw_361 : decode code 361 = .ok (.iconst 1, 1) := by decide +kernel
theorem dlaw_362 : decode code 362 = .ok (.iadd, 1) := by decide +kernel
theorem dlaw_363 : decode code 363 = .ok (.iaload, 1) := by decide +kernel
theorem dlaw_364 : decode code 364 = .ok (.aload_n 0, 1) := by decide +kernel
theorem dlaw_365 : decode code 365 = .ok (.iload_n 3, 1) := by decide +kernel
theorem dlaw_366 : decode code 366 = .ok (.iconst 2, 1) := by decide +kernel
theorem dlaw_367 : decode code 367 = .ok (.iadd, 1) := by decide +kernel
theorem dlaw_368 : decode code 368 = .ok (.iaload, 1) := by decide +kernel
theorem dlaw_369 : decode code 369 = .ok (.invokevirtual 41, 3) := by decide +kernel
theorem dlaw_372 : decode code 372 = .ok (.aload_n 2, 1) := by decide +kernel
theorem dlaw_373 : decode code 373 = .ok (.aload_n 0, 1) := by decide +kernel
theorem dlaw_374 : decode code 374 = .ok (.iload_n 3, 1) := by decide +kernel
theorem dlaw_375 : decode code 375 = .ok (.iconst 1, 1) := by decide +kernel
theorem dlaw_376 : decode code 376 = .ok (.iadd, 1) := by decide +kernel
theorem dlaw_377 : decode code 377 = .ok (.iaload, 1) := by decide +kernel
theorem dlaw_378 : decode code 378 = .ok (.aload_n 0, 1) := by decide +kernel
theorem dlaw_379 : decode code 379 = .ok (.iload_n 3, 1) := by decide +kernel
theorem dlaw_380 : decode code 380 = .ok (.iconst 2, 1) := by decide +kernel
theorem dlaw_381 : decode code 381 = .ok (.iadd, 1) := by decide +kernel
theorem dlaw_382 : decode code 382 = .ok (.iaload, 1) := by decide +kernel
theorem dlaw_383 : decode code 383 = .ok (.invokevirtual 44, 3) := by decide +kernel
theorem dlaw_386 : decode code 386 = .ok (.if_icmp .eq 744, 3) := by decide +kernel
theorem dlaw_389 : decode code 389 = .ok (.iconst 0, 1) := by decide +kernel
theorem dlaw_390 : decode code 390 = .ok (.ireturn, 1) := by decide +kernel
theorem dlaw_391 : decode code 391 = .ok (.aload_n 1, 1) := by decide +kernel
theorem dlaw_392 : decode code 392 = .ok (.aload_n 0, 1) := by decide +kernel
theorem dlaw_393 : decode code 393 = .ok (.iload_n 3, 1) := by decide +kernel
theorem dlaw_394 : decode code 394 = .ok (.iconst 1, 1) := by decide +kernel
theorem dlaw_395 : decode code 395 = .ok (.iadd, 1) := by decide +kernel
theorem dlaw_396 : decode code 396 = .ok (.iaload, 1) := by decide +kernel
theorem dlaw_397 : decode code 397 = .ok (.invokevirtual 45, 3) := by decide +kernel
theorem dlaw_400 : decode code 400 = .ok (.aload_n 2, 1) := by decide +kernel
theorem dlaw_401 : decode code 401 = .ok (.aload_n 0, 1) := by decide +kernel
theorem dlaw_402 : decode code 402 = .ok (.iload_n 3, 1) := by decide +kernel
theorem dlaw_403 : decode code 403 = .ok (.iconst 1, 1) := by decide +kernel
theorem dlaw_404 : decode code 404 = .ok (.iadd, 1) := by decide +kernel
theorem dlaw_405 : decode code 405 = .ok (.iaload, 1) := by decide +kernel
theorem dlaw_406 : decode code 406 = .ok (.invokevirtual 48, 3) := by decide +kernel
theorem dlaw_409 : decode code 409 = .ok (.if_icmp .eq 721, 3) := by decide +kernel
theorem dlaw_412 : decode code 412 = .ok (.iconst 0, 1) := by decide +kernel
theorem dlaw_413 : decode code 413 = .ok (.ireturn, 1) := by decide +kernel
theorem dlaw_414 : decode code 414 = .ok (.aload_n 1, 1) := by decide +kernel
theorem dlaw_415 : decode code 415 = .ok (.invokevirtual 49, 3) := by decide +kernel
theorem dlaw_418 : decode code 418 = .ok (.aload_n 2, 1) := by decide +kernel
theorem dlaw_419 : decode code 419 = .ok (.invokevirtual 52, 3) := by decide +kernel
theorem dlaw_422 : decode code 422 = .ok (.if_icmp .eq 708, 3) := by decide +kernel
theorem dlaw_425 : decode code 425 = .ok (.iconst 0, 1) := by decide +kernel
theorem dlaw_426 : decode code 426 = .ok (.ireturn, 1) := by decide +kernel
theorem dlaw_427 : decode code 427 = .ok (.aload_n 1, 1) := by decide +kernel
theorem dlaw_428 : decode code 428 = .ok (.aload_n 0, 1) := by decide +kernel
theorem dlaw_429 : decode code 429 = .ok (.iload_n 3, 1) := by decide +kernel
theorem dlaw_430 : decode code 430 = .ok (.iconst 1, 1) := by decide +kernel
theorem dlaw_431 : decode code 431 = .ok (.iadd, 1) := by decide +kernel
theorem dlaw_432 : decode code 432 = .ok (.iaload, 1) := by decide +kernel
theorem dlaw_433 : decode code 433 = .ok (.invokevirtual 53, 3) := by decide +kernel
theorem dlaw_436 : decode code 436 = .ok (.aload_n 2, 1) := by decide +kernel
theorem dlaw_437 : decode code 437 = .ok (.aload_n 0, 1) := by decide +kernel
theorem dlaw_438 : decode code 438 = .ok (.iload_n 3, 1) := by decide +kernel
theorem dlaw_439 : decode code 439 = .ok (.iconst 1, 1) := by decide +kernel
theorem dlaw_440 : decode code 440 = .ok (.iadd, 1) := by decide +kernel
theorem dlaw_441 : decode code 441 = .ok (.iaload, 1) := by decide +kernel
theorem dlaw_442 : decode code 442 = .ok (.invokevirtual 56, 3) := by decide +kernel
theorem dlaw_445 : decode code 445 = .ok (.if_icmp .eq 685, 3) := by decide +kernel
theorem dlaw_448 : decode code 448 = .ok (.iconst 0, 1) := by decide +kernel
theorem dlaw_449 : decode code 449 = .ok (.ireturn, 1) := by decide +kernel
theorem dlaw_450 : decode code 450 = .ok (.aload_n 1, 1) := by decide +kernel
theorem dlaw_451 : decode code 451 = .ok (.aload_n 0, 1) := by decide +kernel
theorem dlaw_452 : decode code 452 = .ok (.iload_n 3, 1) := by decide +kernel
theorem dlaw_453 : decode code 453 = .ok (.iconst 1, 1) := by decide +kernel
theorem dlaw_454 : decode code 454 = .ok (.iadd, 1) := by decide +kernel
theorem dlaw_455 : decode code 455 = .ok (.iaload, 1) := by decide +kernel
theorem dlaw_456 : decode code 456 = .ok (.invokevirtual 57, 3) := by decide +kernel
theorem dlaw_459 : decode code 459 = .ok (.aload_n 2, 1) := by decide +kernel
theorem dlaw_460 : decode code 460 = .ok (.aload_n 0, 1) := by decide +kernel
theorem dlaw_461 : decode code 461 = .ok (.iload_n 3, 1) := by decide +kernel
theorem dlaw_462 : decode code 462 = .ok (.iconst 1, 1) := by decide +kernel
theorem dlaw_463 : decode code 463 = .ok (.iadd, 1) := by decide +kernel
theorem dlaw_464 : decode code 464 = .ok (.iaload, 1) := by decide +kernel
theorem dlaw_465 : decode code 465 = .ok (.invokevirtual 60, 3) := by decide +kernel
theorem dlaw_468 : decode code 468 = .ok (.if_icmp .eq 662, 3) := by decide +kernel
theorem dlaw_471 : decode code 471 = .ok (.iconst 0, 1) := by decide +kernel
theorem dlaw_472 : decode code 472 = .ok (.ireturn, 1) := by decide +kernel
theorem dlaw_473 : decode code 473 = .ok (.aload_n 1, 1) := by decide +kernel
theorem dlaw_474 : decode code 474 = .ok (.aload_n 0, 1) := by decide +kernel
theorem dlaw_475 : decode code 475 = .ok (.iload_n 3, 1) := by decide +kernel
theorem dlaw_476 : decode code 476 = .ok (.iconst 1, 1) := by decide +kernel
theorem dlaw_477 : decode code 477 = .ok (.iadd, 1) := by decide +kernel
theorem dlaw_478 : decode code 478 = .ok (.iaload, 1) := by decide +kernel
theorem dlaw_479 : decode code 479 = .ok (.aload_n 0, 1) := by decide +kernel
theorem dlaw_480 : decode code 480 = .ok (.iload_n 3, 1) := by decide +kernel
theorem dlaw_481 : decode code 481 = .ok (.iconst 2, 1) := by decide +kernel
theorem dlaw_482 : decode code 482 = .ok (.iadd, 1) := by decide +kernel
theorem dlaw_483 : decode code 483 = .ok (.iaload, 1) := by decide +kernel
