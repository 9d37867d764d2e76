theorem dLW_law_352 : decode cLW_law 352 = .ok (.aload_n 0, 1) := by decide +kernel
theorem dLW_law_353 : decode cLW_law 353 = .ok (.iload_n 3, 1) := by decide +kernel
theorem dLW_law_354 : decode cLW_law 354 = .ok (.iconst 2, 1) := by decide +kernel
theorem dLW_law_355 : decode cLW_law 355 = .ok (.iadd, 1) := by decide +kernel
theorem dLW_law_356 : decode cLW_law 356 = .ok (.iaload, 1) := by decide +kernel
theorem dLW_law_357 : decode cLW_law 357 = .ok (.invokevirtual 49, 3) := by decide +kernel
theorem dLW_law_360 : decode cLW_law 360 = .ok (.pop, 1) := by decide +kernel
theorem dLW_law_361 : decode cLW_law 361 = .ok (.aload_n 2, 1) := by decide +kernel
theorem dLW_law_362 : decode cLW_law 362 = .ok (.aload_n 0, 1) := by decide +kernel
theorem dLW_law_363 : decode cLW_law 363 = .ok (.iload_n 3, 1) := by decide +kernel
theorem dLW_law_364 : decode cLW_law 364 = .ok (.iconst 1, 1) := by decide +kernel
theorem dLW_law_365 : decode cLW_law 365 = .ok (.iadd, 1) := by decide +kernel
theorem dLW_law_366 : decode cLW_law 366 = .ok (.iaload, 1) := by decide +kernel
theorem dLW_law_367 : decode cLW_law 367 = .ok (.aload_n 0, 1) := by decide +kernel
theorem dLW_law_368 : decode cLW_law 368 = .ok (.iload_n 3, 1) := by decide +kernel
theorem dLW_law_369 : decode cLW_law 369 = .ok (.iconst 2, 1) := by decide +kernel
theorem dLW_law_370 : decode cLW_law 370 = .ok (.iadd, 1) := by decide +kernel
theorem dLW_law_371 : decode cLW_law 371 = .ok (.iaload, 1) := by decide +kernel
theorem dLW_law_372 : decode cLW_law 372 = .ok (.invokevirtual 53, 3) := by decide +kernel
theorem dLW_law_375 : decode cLW_law 375 = .ok (.pop, 1) := by decide +kernel
theorem dLW_law_376 : decode cLW_law 376 = .ok (.goto 239, 3) := by decide +kernel
theorem dLW_law_379 : decode cLW_law 379 = .ok (.aload_n 1, 1) := by decide +kernel
theorem dLW_law_380 : decode cLW_law 380 = .ok (.invokevirtual 54, 3) := by decide +kernel
theorem dLW_law_383 : decode cLW_law 383 = .ok (.pop, 1) := by decide +kernel
theorem dLW_law_384 : decode cLW_law 384 = .ok (.aload_n 2, 1) := by decide +kernel
theorem dLW_law_385 : decode cLW_law 385 = .ok (.invokevirtual 57, 3) := by decide +kernel
theorem dLW_law_388 : decode cLW_law 388 = .ok (.pop, 1) := by decide +kernel
theorem dLW_law_389 : decode cLW_law 389 = .ok (.goto 226, 3) := by decide +kernel
theorem dLW_law_392 : decode cLW_law 392 = .ok (.aload_n 1, 1) := by decide +kernel
theorem dLW_law_393 : decode cLW_law 393 = .ok (.invokevirtual 58, 3) := by decide +kernel
theorem dLW_law_396 : decode cLW_law 396 = .ok (.pop, 1) := by decide +kernel
theorem dLW_law_397 : decode cLW_law 397 = .ok (.aload_n 2, 1) := by decide +kernel
theorem dLW_law_398 : decode cLW_law 398 = .ok (.invokevirtual 61, 3) := by decide +kernel
theorem dLW_law_401 : decode cLW_law 401 = .ok (.pop, 1) := by decide +kernel
theorem dLW_law_402 : decode cLW_law 402 = .ok (.goto 213, 3) := by decide +kernel
theorem dLW_law_405 : decode cLW_law 405 = .ok (.aload_n 1, 1) := by decide +kernel
theorem dLW_law_406 : decode cLW_law 406 = .ok (.aload_n 0, 1) := by decide +kernel
theorem dLW_law_407 : decode cLW_law 407 = .ok (.iload_n 3, 1) := by decide +kernel
theorem dLW_law_408 : decode cLW_law 408 = .ok (.iconst 1, 1) := by decide +kernel
theorem dLW_law_409 : decode cLW_law 409 = .ok (.iadd, 1) := by decide +kernel
theorem dLW_law_410 : decode cLW_law 410 = .ok (.iaload, 1) := by decide +kernel
theorem dLW_law_411 : decode cLW_law 411 = .ok (.invokevirtual 62, 3) := by decide +kernel
theorem dLW_law_414 : decode cLW_law 414 = .ok (.pop, 1) := by decide +kernel
theorem dLW_law_415 : decode cLW_law 415 = .ok (.aload_n 2, 1) := by decide +kernel
theorem dLW_law_416 : decode cLW_law 416 = .ok (.aload_n 0, 1) := by decide +kernel
theorem dLW_law_417 : decode cLW_law 417 = .ok (.iload_n 3, 1) := by decide +kernel
theorem dLW_law_418 : decode cLW_law 418 = .ok (.iconst 1, 1) := by decide +kernel
theorem dLW_law_419 : decode cLW_law 419 = .ok (.iadd, 1) := by decide +kernel
theorem dLW_law_420 : decode cLW_law 420 = .ok (.iaload, 1) := by decide +kernel
theorem dLW_law_421 : decode cLW_law 421 = .ok (.invokevirtual 66, 3) := by decide +kernel
theorem dLW_law_424 : decode cLW_law 424 = .ok (.pop, 1) := by decide +kernel
theorem dLW_law_425 : decode cLW_law 425 = .ok (.goto 190, 3) := by decide +kernel
theorem dLW_law_428 : decode cLW_law 428 = .ok (.aload_n 1, 1) := by decide +kernel
theorem dLW_law_429 : decode cLW_law 429 = .ok (.aload_n 0, 1) := by decide +kernel
theorem dLW_law_430 : decode cLW_law 430 = .ok (.iload_n 3, 1) := by decide +kernel
theorem dLW_law_431 : decode cLW_law 431 = .ok (.iconst 1, 1) := by decide +kernel
theorem dLW_law_432 : decode cLW_law 432 = .ok (.iadd, 1) := by decide +kernel
theorem dLW_law_433 : decode cLW_law 433 = .ok (.iaload, 1) := by decide +kernel
theorem dLW_law_434 : decode cLW_law 434 = .ok (.aload_n 0, 1) := by decide +kernel
theorem dLW_law_435 : decode cLW_law 435 = .ok (.iload_n 3, 1) := by decide +kernel
theorem dLW_law_436 : decode cLW_law 436 = .ok (.iconst 2, 1) := by decide +kernel
theorem dLW_law_437 : decode cLW_law 437 = .ok (.iadd, 1) := by decide +kernel
theorem dLW_law_438 : decode cLW_law 438 = .ok (.iaload, 1) := by decide +kernel
theorem dLW_law_439 : decode cLW_law 439 = .ok (.invokevirtual 67, 3) := by decide +kernel
theorem dLW_law_442 : decode cLW_law 442 = .ok (.pop, 1) := by decide +kernel
theorem dLW_law_443 : decode cLW_law 443 = .ok (.aload_n 2, 1) := by decide +kernel
theorem dLW_law_444 : decode cLW_law 444 = .ok (.aload_n 0, 1) := by decide +kernel
theorem dLW_law_445 : decode cLW_law 445 = .ok (.iload_n 3, 1) := by decide +kernel
theorem dLW_law_446 : decode cLW_law 446 = .ok (.iconst 1, 1) := by decide +kernel
theorem dLW_law_447 : decode cLW_law 447 = .ok (.iadd, 1) := by decide +kernel
theorem dLW_law_448 : decode cLW_law 448 = .ok (.iaload, 1) := by decide +kernel
theorem dLW_law_449 : decode cLW_law 449 = .ok (.aload_n 0, 1) := by decide +kernel
theorem dLW_law_450 : decode cLW_law 450 = .ok (.iload_n 3, 1) := by decide +kernel
theorem dLW_law_451 : decode cLW_law 451 = .ok (.iconst 2, 1) := by decide +kernel
theorem dLW_law_452 : decode cLW_law 452 = .ok (.iadd, 1) := by decide +kernel
theorem dLW_law_453 : decode cLW_law 453 = .ok (.iaload, 1) := by decide +kernel
theorem dLW_law_454 : decode cLW_law 454 = .ok (.invokevirtual 70, 3) := by decide +kernel
theorem dLW_law_457 : decode cLW_law 457 = .ok (.pop, 1) := by decide +kernel
theorem dLW_law_458 : decode cLW_law 458 = .ok (.goto 157, 3) := by decide +kernel
theorem dLW_law_461 : decode cLW_law 461 = .ok (.aload_n 1, 1) := by decide +kernel
theorem dLW_law_462 : decode cLW_law 462 = .ok (.aload_n 0, 1) := by decide +kernel
theorem dLW_law_463 : decode cLW_law 463 = .ok (.iload_n 3, 1) := by decide +kernel
theorem dLW_law_464 : decode cLW_law 464 = .ok (.iconst 1, 1) := by decide +kernel
theorem dLW_law_465 : decode cLW_law 465 = .ok (.iadd, 1) := by decide +kernel
theorem dLW_law_466 : decode cLW_law 466 = .ok (.iaload, 1) := by decide +kernel
theorem dLW_law_467 : decode cLW_law 467 = .ok (.invokevirtual 71, 3) := by decide +kernel
theorem dLW_law_470 : decode cLW_law 470 = .ok (.pop, 1) := by decide +kernel
theorem dLW_law_471 : decode cLW_law 471 = .ok (.aload_n 2, 1) := by decide +kernel
theorem dLW_law_472 : decode cLW_law 472 = .ok (.aload_n 0, 1) := by decide +kernel
theorem dLW_law_473 : decode cLW_law 473 = .ok (.iload_n 3, 1) := by decide +kernel
