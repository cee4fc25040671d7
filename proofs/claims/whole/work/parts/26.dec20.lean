theorem zd_La_law_349 : decode zc_La_law 349 = .ok (.iconst 0, 1) := by decide +kernel
theorem zd_La_law_350 : decode zc_La_law 350 = .ok (.laload, 1) := by decide +kernel
theorem zd_La_law_351 : decode zc_La_law 351 = .ok (.iload 6, 2) := by decide +kernel
theorem zd_La_law_353 : decode zc_La_law 353 = .ok (.i2l, 1) := by decide +kernel
theorem zd_La_law_354 : decode zc_La_law 354 = .ok (.lcmp, 1) := by decide +kernel
theorem zd_La_law_355 : decode zc_La_law 355 = .ok (.ifCond .eq 5, 3) := by decide +kernel
theorem zd_La_law_358 : decode zc_La_law 358 = .ok (.iconst 0, 1) := by decide +kernel
theorem zd_La_law_359 : decode zc_La_law 359 = .ok (.ireturn, 1) := by decide +kernel
theorem zd_La_law_360 : decode zc_La_law 360 = .ok (.goto 213, 3) := by decide +kernel
theorem zd_La_law_363 : decode zc_La_law 363 = .ok (.aload_n 1, 1) := by decide +kernel
theorem zd_La_law_364 : decode zc_La_law 364 = .ok (.aload_n 0, 1) := by decide +kernel
theorem zd_La_law_365 : decode zc_La_law 365 = .ok (.iload 4, 2) := by decide +kernel
theorem zd_La_law_367 : decode zc_La_law 367 = .ok (.iconst 1, 1) := by decide +kernel
theorem zd_La_law_368 : decode zc_La_law 368 = .ok (.iadd, 1) := by decide +kernel
theorem zd_La_law_369 : decode zc_La_law 369 = .ok (.iaload, 1) := by decide +kernel
theorem zd_La_law_370 : decode zc_La_law 370 = .ok (.invokevirtual 74, 3) := by decide +kernel
theorem zd_La_law_373 : decode zc_La_law 373 = .ok (.aload_n 2, 1) := by decide +kernel
theorem zd_La_law_374 : decode zc_La_law 374 = .ok (.aload_n 0, 1) := by decide +kernel
theorem zd_La_law_375 : decode zc_La_law 375 = .ok (.iload 4, 2) := by decide +kernel
theorem zd_La_law_377 : decode zc_La_law 377 = .ok (.iconst 1, 1) := by decide +kernel
theorem zd_La_law_378 : decode zc_La_law 378 = .ok (.iadd, 1) := by decide +kernel
theorem zd_La_law_379 : decode zc_La_law 379 = .ok (.iaload, 1) := by decide +kernel
theorem zd_La_law_380 : decode zc_La_law 380 = .ok (.invokevirtual 77, 3) := by decide +kernel
theorem zd_La_law_383 : decode zc_La_law 383 = .ok (.if_icmp .eq 190, 3) := by decide +kernel
theorem zd_La_law_386 : decode zc_La_law 386 = .ok (.iconst 0, 1) := by decide +kernel
theorem zd_La_law_387 : decode zc_La_law 387 = .ok (.ireturn, 1) := by decide +kernel
theorem zd_La_law_388 : decode zc_La_law 388 = .ok (.aload_n 1, 1) := by decide +kernel
theorem zd_La_law_389 : decode zc_La_law 389 = .ok (.aload_n 0, 1) := by decide +kernel
theorem zd_La_law_390 : decode zc_La_law 390 = .ok (.iload 4, 2) := by decide +kernel
theorem zd_La_law_392 : decode zc_La_law 392 = .ok (.iconst 1, 1) := by decide +kernel
theorem zd_La_law_393 : decode zc_La_law 393 = .ok (.iadd, 1) := by decide +kernel
theorem zd_La_law_394 : decode zc_La_law 394 = .ok (.iaload, 1) := by decide +kernel
theorem zd_La_law_395 : decode zc_La_law 395 = .ok (.aload_n 0, 1) := by decide +kernel
theorem zd_La_law_396 : decode zc_La_law 396 = .ok (.iload 4, 2) := by decide +kernel
theorem zd_La_law_398 : decode zc_La_law 398 = .ok (.iconst 2, 1) := by decide +kernel
theorem zd_La_law_399 : decode zc_La_law 399 = .ok (.iadd, 1) := by decide +kernel
theorem zd_La_law_400 : decode zc_La_law 400 = .ok (.iaload, 1) := by decide +kernel
theorem zd_La_law_401 : decode zc_La_law 401 = .ok (.aload_n 0, 1) := by decide +kernel
theorem zd_La_law_402 : decode zc_La_law 402 = .ok (.iload 4, 2) := by decide +kernel
theorem zd_La_law_404 : decode zc_La_law 404 = .ok (.iconst 3, 1) := by decide +kernel
theorem zd_La_law_405 : decode zc_La_law 405 = .ok (.iadd, 1) := by decide +kernel
theorem zd_La_law_406 : decode zc_La_law 406 = .ok (.iaload, 1) := by decide +kernel
theorem zd_La_law_407 : decode zc_La_law 407 = .ok (.aload_n 0, 1) := by decide +kernel
theorem zd_La_law_408 : decode zc_La_law 408 = .ok (.iload 4, 2) := by decide +kernel
theorem zd_La_law_410 : decode zc_La_law 410 = .ok (.iconst 4, 1) := by decide +kernel
theorem zd_La_law_411 : decode zc_La_law 411 = .ok (.iadd, 1) := by decide +kernel
theorem zd_La_law_412 : decode zc_La_law 412 = .ok (.iaload, 1) := by decide +kernel
theorem zd_La_law_413 : decode zc_La_law 413 = .ok (.aload_n 0, 1) := by decide +kernel
theorem zd_La_law_414 : decode zc_La_law 414 = .ok (.iload 4, 2) := by decide +kernel
theorem zd_La_law_416 : decode zc_La_law 416 = .ok (.iconst 5, 1) := by decide +kernel
theorem zd_La_law_417 : decode zc_La_law 417 = .ok (.iadd, 1) := by decide +kernel
theorem zd_La_law_418 : decode zc_La_law 418 = .ok (.iaload, 1) := by decide +kernel
theorem zd_La_law_419 : decode zc_La_law 419 = .ok (.aload_n 3, 1) := by decide +kernel
theorem zd_La_law_420 : decode zc_La_law 420 = .ok (.invokestatic 78, 3) := by decide +kernel
theorem zd_La_law_423 : decode zc_La_law 423 = .ok (.istore 5, 2) := by decide +kernel
theorem zd_La_law_425 : decode zc_La_law 425 = .ok (.aload_n 2, 1) := by decide +kernel
theorem zd_La_law_426 : decode zc_La_law 426 = .ok (.aload_n 0, 1) := by decide +kernel
theorem zd_La_law_427 : decode zc_La_law 427 = .ok (.iload 4, 2) := by decide +kernel
theorem zd_La_law_429 : decode zc_La_law 429 = .ok (.iconst 1, 1) := by decide +kernel
theorem zd_La_law_430 : decode zc_La_law 430 = .ok (.iadd, 1) := by decide +kernel
theorem zd_La_law_431 : decode zc_La_law 431 = .ok (.iaload, 1) := by decide +kernel
theorem zd_La_law_432 : decode zc_La_law 432 = .ok (.aload_n 0, 1) := by decide +kernel
theorem zd_La_law_433 : decode zc_La_law 433 = .ok (.iload 4, 2) := by decide +kernel
theorem zd_La_law_435 : decode zc_La_law 435 = .ok (.iconst 2, 1) := by decide +kernel
theorem zd_La_law_436 : decode zc_La_law 436 = .ok (.iadd, 1) := by decide +kernel
theorem zd_La_law_437 : decode zc_La_law 437 = .ok (.iaload, 1) := by decide +kernel
theorem zd_La_law_438 : decode zc_La_law 438 = .ok (.aload_n 0, 1) := by decide +kernel
theorem zd_La_law_439 : decode zc_La_law 439 = .ok (.iload 4, 2) := by decide +kernel
theorem zd_La_law_441 : decode zc_La_law 441 = .ok (.iconst 3, 1) := by decide +kernel
theorem zd_La_law_442 : decode zc_La_law 442 = .ok (.iadd, 1) := by decide +kernel
theorem zd_La_law_443 : decode zc_La_law 443 = .ok (.iaload, 1) := by decide +kernel
theorem zd_La_law_444 : decode zc_La_law 444 = .ok (.aload_n 0, 1) := by decide +kernel
theorem zd_La_law_445 : decode zc_La_law 445 = .ok (.iload 4, 2) := by decide +kernel
theorem zd_La_law_447 : decode zc_La_law 447 = .ok (.iconst 4, 1) := by decide +kernel
theorem zd_La_law_448 : decode zc_La_law 448 = .ok (.iadd, 1) := by decide +kernel
theorem zd_La_law_449 : decode zc_La_law 449 = .ok (.iaload, 1) := by decide +kernel
theorem zd_La_law_450 : decode zc_La_law 450 = .ok (.aload_n 0, 1) := by decide +kernel
theorem zd_La_law_451 : decode zc_La_law 451 = .ok (.iload 4, 2) := by decide +kernel
theorem zd_La_law_453 : decode zc_La_law 453 = .ok (.iconst 5, 1) := by decide +kernel
theorem zd_La_law_454 : decode zc_La_law 454 = .ok (.iadd, 1) := by decide +kernel
theorem zd_La_law_455 : decode zc_La_law 455 = .ok (.iaload, 1) := by decide +kernel
theorem zd_La_law_456 : decode zc_La_law 456 = .ok (.invokevirtual 81, 3) := by decide +kernel
theorem zd_La_law_459 : decode zc_La_law 459 = .ok (.istore 6, 2) := by decide +kernel
theorem zd_La_law_461 : decode zc_La_law 461 = .ok (.aload_n 2, 1) := by decide +kernel
theorem zd_La_law_462 : decode zc_La_law 462 = .ok (.invokevirtual 55, 3) := by decide +kernel
theorem zd_La_law_465 : decode zc_La_law 465 = .ok (.iload 5, 2) := by decide +kernel
theorem zd_La_law_467 : decode zc_La_law 467 = .ok (.if_icmp .eq 5, 3) := by decide +kernel
theorem zd_La_law_470 : decode zc_La_law 470 = .ok (.iconst 0, 1) := by decide +kernel
theorem zd_La_law_471 : decode zc_La_law 471 = .ok (.ireturn, 1) := by decide +kernel
theorem zd_La_law_472 : decode zc_La_law 472 = .ok (.iload 5, 2) := by decide +kernel
theorem zd_La_law_474 : decode zc_La_law 474 = .ok (.ifCond .ne 15, 3) := by decide +kernel
theorem zd_La_law_477 : decode zc_La_law 477 = .ok (.aload_n 3, 1) := by decide +kernel
theorem zd_La_law_478 : decode zc_La_law 478 = .ok (.iconst 0, 1) := by decide +kernel
theorem zd_La_law_479 : decode zc_La_law 479 = .ok (.laload, 1) := by decide +kernel
theorem zd_La_law_480 : decode zc_La_law 480 = .ok (.iload 6, 2) := by decide +kernel
theorem zd_La_law_482 : decode zc_La_law 482 = .ok (.i2l, 1) := by decide +kernel
theorem zd_La_law_483 : decode zc_La_law 483 = .ok (.lcmp, 1) := by decide +kernel
theorem zd_La_law_484 : decode zc_La_law 484 = .ok (.ifCond .eq 5, 3) := by decide +kernel
theorem zd_La_law_487 : decode zc_La_law 487 = .ok (.iconst 0, 1) := by decide +kernel
theorem zd_La_law_488 : decode zc_La_law 488 = .ok (.ireturn, 1) := by decide +kernel
theorem zd_La_law_489 : decode zc_La_law 489 = .ok (.goto 84, 3) := by decide +kernel
theorem zd_La_law_492 : decode zc_La_law 492 = .ok (.aload_n 1, 1) := by decide +kernel
theorem zd_La_law_493 : decode zc_La_law 493 = .ok (.aload_n 0, 1) := by decide +kernel
theorem zd_La_law_494 : decode zc_La_law 494 = .ok (.iload 4, 2) := by decide +kernel
theorem zd_La_law_496 : decode zc_La_law 496 = .ok (.iconst 1, 1) := by decide +kernel
theorem zd_La_law_497 : decode zc_La_law 497 = .ok (.iadd, 1) := by decide +kernel
theorem zd_La_law_498 : decode zc_La_law 498 = .ok (.iaload, 1) := by decide +kernel
theorem zd_La_law_499 : decode zc_La_law 499 = .ok (.aload_n 3, 1) := by decide +kernel
theorem zd_La_law_500 : decode zc_La_law 500 = .ok (.invokestatic 82, 3) := by decide +kernel
theorem zd_La_law_503 : decode zc_La_law 503 = .ok (.istore 5, 2) := by decide +kernel
theorem zd_La_law_505 : decode zc_La_law 505 = .ok (.aload_n 2, 1) := by decide +kernel
theorem zd_La_law_506 : decode zc_La_law 506 = .ok (.aload_n 0, 1) := by decide +kernel
theorem zd_La_law_507 : decode zc_La_law 507 = .ok (.iload 4, 2) := by decide +kernel
theorem zd_La_law_509 : decode zc_La_law 509 = .ok (.iconst 1, 1) := by decide +kernel
theorem zd_La_law_510 : decode zc_La_law 510 = .ok (.iadd, 1) := by decide +kernel
theorem zd_La_law_511 : decode zc_La_law 511 = .ok (.iaload, 1) := by decide +kernel
theorem zd_La_law_512 : decode zc_La_law 512 = .ok (.invokevirtual 84, 3) := by decide +kernel
theorem zd_La_law_515 : decode zc_La_law 515 = .ok (.istore 6, 2) := by decide +kernel
theorem zd_La_law_517 : decode zc_La_law 517 = .ok (.aload_n 2, 1) := by decide +kernel
theorem zd_La_law_518 : decode zc_La_law 518 = .ok (.invokevirtual 55, 3) := by decide +kernel
theorem zd_La_law_521 : decode zc_La_law 521 = .ok (.iload 5, 2) := by decide +kernel
theorem zd_La_law_523 : decode zc_La_law 523 = .ok (.if_icmp .eq 5, 3) := by decide +kernel
theorem zd_La_law_526 : decode zc_La_law 526 = .ok (.iconst 0, 1) := by decide +kernel
theorem zd_La_law_527 : decode zc_La_law 527 = .ok (.ireturn, 1) := by decide +kernel
theorem zd_La_law_528 : decode zc_La_law 528 = .ok (.iload 5, 2) := by decide +kernel
theorem zd_La_law_530 : decode zc_La_law 530 = .ok (.ifCond .ne 15, 3) := by decide +kernel
theorem zd_La_law_533 : decode zc_La_law 533 = .ok (.aload_n 3, 1) := by decide +kernel
theorem zd_La_law_534 : decode zc_La_law 534 = .ok (.iconst 0, 1) := by decide +kernel
theorem zd_La_law_535 : decode zc_La_law 535 = .ok (.laload, 1) := by decide +kernel
theorem zd_La_law_536 : decode zc_La_law 536 = .ok (.iload 6, 2) := by decide +kernel
theorem zd_La_law_538 : decode zc_La_law 538 = .ok (.i2l, 1) := by decide +kernel
theorem zd_La_law_539 : decode zc_La_law 539 = .ok (.lcmp, 1) := by decide +kernel
theorem zd_La_law_540 : decode zc_La_law 540 = .ok (.ifCond .eq 5, 3) := by decide +kernel
theorem zd_La_law_543 : decode zc_La_law 543 = .ok (.iconst 0, 1) := by decide +kernel
theorem zd_La_law_544 : decode zc_La_law 544 = .ok (.ireturn, 1) := by decide +kernel
theorem zd_La_law_545 : decode zc_La_law 545 = .ok (.goto 28, 3) := by decide +kernel
theorem zd_La_law_548 : decode zc_La_law 548 = .ok (.aload_n 1, 1) := by decide +kernel
theorem zd_La_law_549 : decode zc_La_law 549 = .ok (.aload_n 0, 1) := by decide +kernel
theorem zd_La_law_550 : decode zc_La_law 550 = .ok (.iload 4, 2) := by decide +kernel
theorem zd_La_law_552 : decode zc_La_law 552 = .ok (.iconst 1, 1) := by decide +kernel
theorem zd_La_law_553 : decode zc_La_law 553 = .ok (.iadd, 1) := by decide +kernel
theorem zd_La_law_554 : decode zc_La_law 554 = .ok (.iaload, 1) := by decide +kernel
theorem zd_La_law_555 : decode zc_La_law 555 = .ok (.invokevirtual 85, 3) := by decide +kernel
theorem zd_La_law_558 : decode zc_La_law 558 = .ok (.aload_n 2, 1) := by decide +kernel
theorem zd_La_law_559 : decode zc_La_law 559 = .ok (.aload_n 0, 1) := by decide +kernel
theorem zd_La_law_560 : decode zc_La_law 560 = .ok (.iload 4, 2) := by decide +kernel
theorem zd_La_law_562 : decode zc_La_law 562 = .ok (.iconst 1, 1) := by decide +kernel
theorem zd_La_law_563 : decode zc_La_law 563 = .ok (.iadd, 1) := by decide +kernel
theorem zd_La_law_564 : decode zc_La_law 564 = .ok (.iaload, 1) := by decide +kernel
theorem zd_La_law_565 : decode zc_La_law 565 = .ok (.invokevirtual 88, 3) := by decide +kernel
