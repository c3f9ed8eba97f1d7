theorem d_Law_319 : decode code 319 = .ok (.iadd, 1) := by decide +kernel
theorem d_Law_320 : decode code 320 = .ok (.iaload, 1) := by decide +kernel
theorem d_Law_321 : decode code 321 = .ok (.aload_n 0, 1) := by decide +kernel
theorem d_Law_322 : decode code 322 = .ok (.iload 4, 2) := by decide +kernel
theorem d_Law_324 : decode code 324 = .ok (.iconst 3, 1) := by decide +kernel
theorem d_Law_325 : decode code 325 = .ok (.iadd, 1) := by decide +kernel
theorem d_Law_326 : decode code 326 = .ok (.iaload, 1) := by decide +kernel
theorem d_Law_327 : decode code 327 = .ok (.aload_n 0, 1) := by decide +kernel
theorem d_Law_328 : decode code 328 = .ok (.iload 4, 2) := by decide +kernel
theorem d_Law_330 : decode code 330 = .ok (.iconst 4, 1) := by decide +kernel
theorem d_Law_331 : decode code 331 = .ok (.iadd, 1) := by decide +kernel
theorem d_Law_332 : decode code 332 = .ok (.iaload, 1) := by decide +kernel
theorem d_Law_333 : decode code 333 = .ok (.aload_n 0, 1) := by decide +kernel
theorem d_Law_334 : decode code 334 = .ok (.iload 4, 2) := by decide +kernel
theorem d_Law_336 : decode code 336 = .ok (.iconst 5, 1) := by decide +kernel
theorem d_Law_337 : decode code 337 = .ok (.iadd, 1) := by decide +kernel
theorem d_Law_338 : decode code 338 = .ok (.iaload, 1) := by decide +kernel
theorem d_Law_339 : decode code 339 = .ok (.aload_n 3, 1) := by decide +kernel
theorem d_Law_340 : decode code 340 = .ok (.invokestatic 107, 3) := by decide +kernel
theorem d_Law_343 : decode code 343 = .ok (.istore 5, 2) := by decide +kernel
theorem d_Law_345 : decode code 345 = .ok (.aload_n 2, 1) := by decide +kernel
theorem d_Law_346 : decode code 346 = .ok (.aload_n 0, 1) := by decide +kernel
theorem d_Law_347 : decode code 347 = .ok (.iload 4, 2) := by decide +kernel
theorem d_Law_349 : decode code 349 = .ok (.iconst 1, 1) := by decide +kernel
theorem d_Law_350 : decode code 350 = .ok (.iadd, 1) := by decide +kernel
theorem d_Law_351 : decode code 351 = .ok (.iaload, 1) := by decide +kernel
theorem d_Law_352 : decode code 352 = .ok (.aload_n 0, 1) := by decide +kernel
theorem d_Law_353 : decode code 353 = .ok (.iload 4, 2) := by decide +kernel
theorem d_Law_355 : decode code 355 = .ok (.iconst 2, 1) := by decide +kernel
theorem d_Law_356 : decode code 356 = .ok (.iadd, 1) := by decide +kernel
theorem d_Law_357 : decode code 357 = .ok (.iaload, 1) := by decide +kernel
theorem d_Law_358 : decode code 358 = .ok (.aload_n 0, 1) := by decide +kernel
theorem d_Law_359 : decode code 359 = .ok (.iload 4, 2) := by decide +kernel
theorem d_Law_361 : decode code 361 = .ok (.iconst 3, 1) := by decide +kernel
theorem d_Law_362 : decode code 362 = .ok (.iadd, 1) := by decide +kernel
theorem d_Law_363 : decode code 363 = .ok (.iaload, 1) := by decide +kernel
theorem d_Law_364 : decode code 364 = .ok (.aload_n 0, 1) := by decide +kernel
theorem d_Law_365 : decode code 365 = .ok (.iload 4, 2) := by decide +kernel
theorem d_Law_367 : decode code 367 = .ok (.iconst 4, 1) := by decide +kernel
theorem d_Law_368 : decode code 368 = .ok (.iadd, 1) := by decide +kernel
theorem d_Law_369 : decode code 369 = .ok (.iaload, 1) := by decide +kernel
theorem d_Law_370 : decode code 370 = .ok (.aload_n 0, 1) := by decide +kernel
theorem d_Law_371 : decode code 371 = .ok (.iload 4, 2) := by decide +kernel
theorem d_Law_373 : decode code 373 = .ok (.iconst 5, 1) := by decide +kernel
theorem d_Law_374 : decode code 374 = .ok (.iadd, 1) := by decide +kernel
theorem d_Law_375 : decode code 375 = .ok (.iaload, 1) := by decide +kernel
theorem d_Law_376 : decode code 376 = .ok (.invokevirtual 110, 3) := by decide +kernel
theorem d_Law_379 : decode code 379 = .ok (.istore 6, 2) := by decide +kernel
theorem d_Law_381 : decode code 381 = .ok (.aload_n 2, 1) := by decide +kernel
theorem d_Law_382 : decode code 382 = .ok (.invokevirtual 96, 3) := by decide +kernel
theorem d_Law_385 : decode code 385 = .ok (.iload 5, 2) := by decide +kernel
theorem d_Law_387 : decode code 387 = .ok (.if_icmp .eq 5, 3) := by decide +kernel
theorem d_Law_390 : decode code 390 = .ok (.iconst 0, 1) := by decide +kernel
theorem d_Law_391 : decode code 391 = .ok (.ireturn, 1) := by decide +kernel
theorem d_Law_392 : decode code 392 = .ok (.iload 5, 2) := by decide +kernel
theorem d_Law_394 : decode code 394 = .ok (.ifCond .ne 15, 3) := by decide +kernel
theorem d_Law_397 : decode code 397 = .ok (.aload_n 3, 1) := by decide +kernel
theorem d_Law_398 : decode code 398 = .ok (.iconst 0, 1) := by decide +kernel
theorem d_Law_399 : decode code 399 = .ok (.laload, 1) := by decide +kernel
theorem d_Law_400 : decode code 400 = .ok (.iload 6, 2) := by decide +kernel
theorem d_Law_402 : decode code 402 = .ok (.i2l, 1) := by decide +kernel
theorem d_Law_403 : decode code 403 = .ok (.lcmp, 1) := by decide +kernel
theorem d_Law_404 : decode code 404 = .ok (.ifCond .eq 5, 3) := by decide +kernel
theorem d_Law_407 : decode code 407 = .ok (.iconst 0, 1) := by decide +kernel
theorem d_Law_408 : decode code 408 = .ok (.ireturn, 1) := by decide +kernel
theorem d_Law_409 : decode code 409 = .ok (.goto 1028, 3) := by decide +kernel
theorem d_Law_412 : decode code 412 = .ok (.aload_n 1, 1) := by decide +kernel
theorem d_Law_413 : decode code 413 = .ok (.aload_n 0, 1) := by decide +kernel
theorem d_Law_414 : decode code 414 = .ok (.iload 4, 2) := by decide +kernel
theorem d_Law_416 : decode code 416 = .ok (.iconst 1, 1) := by decide +kernel
theorem d_Law_417 : decode code 417 = .ok (.iadd, 1) := by decide +kernel
theorem d_Law_418 : decode code 418 = .ok (.iaload, 1) := by decide +kernel
theorem d_Law_419 : decode code 419 = .ok (.invokestatic 111, 3) := by decide +kernel
theorem d_Law_422 : decode code 422 = .ok (.istore 5, 2) := by decide +kernel
theorem d_Law_424 : decode code 424 = .ok (.aload_n 2, 1) := by decide +kernel
theorem d_Law_425 : decode code 425 = .ok (.aload_n 0, 1) := by decide +kernel
theorem d_Law_426 : decode code 426 = .ok (.iload 4, 2) := by decide +kernel
theorem d_Law_428 : decode code 428 = .ok (.iconst 1, 1) := by decide +kernel
theorem d_Law_429 : decode code 429 = .ok (.iadd, 1) := by decide +kernel
theorem d_Law_430 : decode code 430 = .ok (.iaload, 1) := by decide +kernel
theorem d_Law_431 : decode code 431 = .ok (.invokevirtual 114, 3) := by decide +kernel
theorem d_Law_434 : decode code 434 = .ok (.aload_n 2, 1) := by decide +kernel
theorem d_Law_435 : decode code 435 = .ok (.invokevirtual 96, 3) := by decide +kernel
theorem d_Law_438 : decode code 438 = .ok (.iload 5, 2) := by decide +kernel
theorem d_Law_440 : decode code 440 = .ok (.if_icmp .eq 5, 3) := by decide +kernel
theorem d_Law_443 : decode code 443 = .ok (.iconst 0, 1) := by decide +kernel
theorem d_Law_444 : decode code 444 = .ok (.ireturn, 1) := by decide +kernel
theorem d_Law_445 : decode code 445 = .ok (.goto 992, 3) := by decide +kernel
theorem d_Law_448 : decode code 448 = .ok (.aload_n 1, 1) := by decide +kernel
theorem d_Law_449 : decode code 449 = .ok (.aload_n 0, 1) := by decide +kernel
theorem d_Law_450 : decode code 450 = .ok (.iload 4, 2) := by decide +kernel
theorem d_Law_452 : decode code 452 = .ok (.iconst 1, 1) := by decide +kernel
theorem d_Law_453 : decode code 453 = .ok (.iadd, 1) := by decide +kernel
theorem d_Law_454 : decode code 454 = .ok (.iaload, 1) := by decide +kernel
theorem d_Law_455 : decode code 455 = .ok (.invokestatic 115, 3) := by decide +kernel
theorem d_Law_458 : decode code 458 = .ok (.istore 5, 2) := by decide +kernel
theorem d_Law_460 : decode code 460 = .ok (.aload_n 2, 1) := by decide +kernel
theorem d_Law_461 : decode code 461 = .ok (.aload_n 0, 1) := by decide +kernel
theorem d_Law_462 : decode code 462 = .ok (.iload 4, 2) := by decide +kernel
theorem d_Law_464 : decode code 464 = .ok (.iconst 1, 1) := by decide +kernel
theorem d_Law_465 : decode code 465 = .ok (.iadd, 1) := by decide +kernel
theorem d_Law_466 : decode code 466 = .ok (.iaload, 1) := by decide +kernel
theorem d_Law_467 : decode code 467 = .ok (.invokevirtual 117, 3) := by decide +kernel
theorem d_Law_470 : decode code 470 = .ok (.aload_n 2, 1) := by decide +kernel
theorem d_Law_471 : decode code 471 = .ok (.invokevirtual 96, 3) := by decide +kernel
theorem d_Law_474 : decode code 474 = .ok (.iload 5, 2) := by decide +kernel
theorem d_Law_476 : decode code 476 = .ok (.if_icmp .eq 5, 3) := by decide +kernel
theorem d_Law_479 : decode code 479 = .ok (.iconst 0, 1) := by decide +kernel
theorem d_Law_480 : decode code 480 = .ok (.ireturn, 1) := by decide +kernel
theorem d_Law_481 : decode code 481 = .ok (.goto 956, 3) := by decide +kernel
theorem d_Law_484 : decode code 484 = .ok (.aload_n 1, 1) := by decide +kernel
theorem d_Law_485 : decode code 485 = .ok (.aload_n 0, 1) := by decide +kernel
theorem d_Law_486 : decode code 486 = .ok (.iload 4, 2) := by decide +kernel
theorem d_Law_488 : decode code 488 = .ok (.iconst 1, 1) := by decide +kernel
theorem d_Law_489 : decode code 489 = .ok (.iadd, 1) := by decide +kernel
theorem d_Law_490 : decode code 490 = .ok (.iaload, 1) := by decide +kernel
theorem d_Law_491 : decode code 491 = .ok (.aload_n 0, 1) := by decide +kernel
theorem d_Law_492 : decode code 492 = .ok (.iload 4, 2) := by decide +kernel
theorem d_Law_494 : decode code 494 = .ok (.iconst 2, 1) := by decide +kernel
theorem d_Law_495 : decode code 495 = .ok (.iadd, 1) := by decide +kernel
theorem d_Law_496 : decode code 496 = .ok (.iaload, 1) := by decide +kernel
theorem d_Law_497 : decode code 497 = .ok (.aload_n 0, 1) := by decide +kernel
theorem d_Law_498 : decode code 498 = .ok (.iload 4, 2) := by decide +kernel
theorem d_Law_500 : decode code 500 = .ok (.iconst 3, 1) := by decide +kernel
theorem d_Law_501 : decode code 501 = .ok (.iadd, 1) := by decide +kernel
theorem d_Law_502 : decode code 502 = .ok (.iaload, 1) := by decide +kernel
theorem d_Law_503 : decode code 503 = .ok (.aload_n 3, 1) := by decide +kernel
theorem d_Law_504 : decode code 504 = .ok (.invokestatic 118, 3) := by decide +kernel
theorem d_Law_507 : decode code 507 = .ok (.istore 5, 2) := by decide +kernel
theorem d_Law_509 : decode code 509 = .ok (.aload_n 2, 1) := by decide +kernel
theorem d_Law_510 : decode code 510 = .ok (.aload_n 0, 1) := by decide +kernel
theorem d_Law_511 : decode code 511 = .ok (.iload 4, 2) := by decide +kernel
theorem d_Law_513 : decode code 513 = .ok (.iconst 1, 1) := by decide +kernel
theorem d_Law_514 : decode code 514 = .ok (.iadd, 1) := by decide +kernel
theorem d_Law_515 : decode code 515 = .ok (.iaload, 1) := by decide +kernel
theorem d_Law_516 : decode code 516 = .ok (.aload_n 0, 1) := by decide +kernel
theorem d_Law_517 : decode code 517 = .ok (.iload 4, 2) := by decide +kernel
theorem d_Law_519 : decode code 519 = .ok (.iconst 2, 1) := by decide +kernel
theorem d_Law_520 : decode code 520 = .ok (.iadd, 1) := by decide +kernel
theorem d_Law_521 : decode code 521 = .ok (.iaload, 1) := by decide +kernel
theorem d_Law_522 : decode code 522 = .ok (.aload_n 0, 1) := by decide +kernel
theorem d_Law_523 : decode code 523 = .ok (.iload 4, 2) := by decide +kernel
theorem d_Law_525 : decode code 525 = .ok (.iconst 3, 1) := by decide +kernel
theorem d_Law_526 : decode code 526 = .ok (.iadd, 1) := by decide +kernel
theorem d_Law_527 : decode code 527 = .ok (.iaload, 1) := by decide +kernel
theorem d_Law_528 : decode code 528 = .ok (.invokevirtual 121, 3) := by decide +kernel
theorem d_Law_531 : decode code 531 = .ok (.istore 6, 2) := by decide +kernel
theorem d_Law_533 : decode code 533 = .ok (.aload_n 2, 1) := by decide +kernel
theorem d_Law_534 : decode code 534 = .ok (.invokevirtual 96, 3) := by decide +kernel
theorem d_Law_537 : decode code 537 = .ok (.iload 5, 2) := by decide +kernel
