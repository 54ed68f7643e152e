theorem dl_331 : decode code 331 = .ok (.iadd, 1) := by decide +kernel
theorem dl_332 : decode code 332 = .ok (.iaload, 1) := by decide +kernel
theorem dl_333 : decode code 333 = .ok (.i2l, 1) := by decide +kernel
theorem dl_334 : decode code 334 = .ok (.bipush 32, 2) := by decide +kernel
theorem dl_336 : decode code 336 = .ok (.lshl, 1) := by decide +kernel
theorem dl_337 : decode code 337 = .ok (.aload_n 0, 1) := by decide +kernel
theorem dl_338 : decode code 338 = .ok (.iload 4, 2) := by decide +kernel
theorem dl_340 : decode code 340 = .ok (.iconst 3, 1) := by decide +kernel
theorem dl_341 : decode code 341 = .ok (.iadd, 1) := by decide +kernel
theorem dl_342 : decode code 342 = .ok (.iaload, 1) := by decide +kernel
theorem dl_343 : decode code 343 = .ok (.i2l, 1) := by decide +kernel
theorem dl_344 : decode code 344 = .ok (.ldc2_w 71, 3) := by decide +kernel
theorem dl_347 : decode code 347 = .ok (.land, 1) := by decide +kernel
theorem dl_348 : decode code 348 = .ok (.lor, 1) := by decide +kernel
theorem dl_349 : decode code 349 = .ok (.aload_n 0, 1) := by decide +kernel
theorem dl_350 : decode code 350 = .ok (.iload 4, 2) := by decide +kernel
theorem dl_352 : decode code 352 = .ok (.iconst 4, 1) := by decide +kernel
theorem dl_353 : decode code 353 = .ok (.iadd, 1) := by decide +kernel
theorem dl_354 : decode code 354 = .ok (.iaload, 1) := by decide +kernel
theorem dl_355 : decode code 355 = .ok (.i2l, 1) := by decide +kernel
theorem dl_356 : decode code 356 = .ok (.bipush 32, 2) := by decide +kernel
theorem dl_358 : decode code 358 = .ok (.lshl, 1) := by decide +kernel
theorem dl_359 : decode code 359 = .ok (.aload_n 0, 1) := by decide +kernel
theorem dl_360 : decode code 360 = .ok (.iload 4, 2) := by decide +kernel
theorem dl_362 : decode code 362 = .ok (.iconst 5, 1) := by decide +kernel
theorem dl_363 : decode code 363 = .ok (.iadd, 1) := by decide +kernel
theorem dl_364 : decode code 364 = .ok (.iaload, 1) := by decide +kernel
theorem dl_365 : decode code 365 = .ok (.i2l, 1) := by decide +kernel
theorem dl_366 : decode code 366 = .ok (.ldc2_w 71, 3) := by decide +kernel
theorem dl_369 : decode code 369 = .ok (.land, 1) := by decide +kernel
theorem dl_370 : decode code 370 = .ok (.lor, 1) := by decide +kernel
theorem dl_371 : decode code 371 = .ok (.aload_n 0, 1) := by decide +kernel
theorem dl_372 : decode code 372 = .ok (.iload 4, 2) := by decide +kernel
theorem dl_374 : decode code 374 = .ok (.bipush 6, 2) := by decide +kernel
theorem dl_376 : decode code 376 = .ok (.iadd, 1) := by decide +kernel
theorem dl_377 : decode code 377 = .ok (.iaload, 1) := by decide +kernel
theorem dl_378 : decode code 378 = .ok (.ifCond .eq 7, 3) := by decide +kernel
theorem dl_381 : decode code 381 = .ok (.iconst 1, 1) := by decide +kernel
theorem dl_382 : decode code 382 = .ok (.goto 4, 3) := by decide +kernel
theorem dl_385 : decode code 385 = .ok (.iconst 0, 1) := by decide +kernel
theorem dl_386 : decode code 386 = .ok (.invokevirtual 85, 3) := by decide +kernel
theorem dl_389 : decode code 389 = .ok (.istore 6, 2) := by decide +kernel
theorem dl_391 : decode code 391 = .ok (.aload_n 2, 1) := by decide +kernel
theorem dl_392 : decode code 392 = .ok (.invokevirtual 79, 3) := by decide +kernel
theorem dl_395 : decode code 395 = .ok (.iload 5, 2) := by decide +kernel
theorem dl_397 : decode code 397 = .ok (.if_icmp .eq 5, 3) := by decide +kernel
theorem dl_400 : decode code 400 = .ok (.iconst 0, 1) := by decide +kernel
theorem dl_401 : decode code 401 = .ok (.ireturn, 1) := by decide +kernel
theorem dl_402 : decode code 402 = .ok (.iload 5, 2) := by decide +kernel
theorem dl_404 : decode code 404 = .ok (.ifCond .ne 15, 3) := by decide +kernel
theorem dl_407 : decode code 407 = .ok (.aload_n 3, 1) := by decide +kernel
theorem dl_408 : decode code 408 = .ok (.iconst 0, 1) := by decide +kernel
theorem dl_409 : decode code 409 = .ok (.laload, 1) := by decide +kernel
theorem dl_410 : decode code 410 = .ok (.iload 6, 2) := by decide +kernel
theorem dl_412 : decode code 412 = .ok (.i2l, 1) := by decide +kernel
theorem dl_413 : decode code 413 = .ok (.lcmp, 1) := by decide +kernel
theorem dl_414 : decode code 414 = .ok (.ifCond .eq 5, 3) := by decide +kernel
theorem dl_417 : decode code 417 = .ok (.iconst 0, 1) := by decide +kernel
theorem dl_418 : decode code 418 = .ok (.ireturn, 1) := by decide +kernel
theorem dl_419 : decode code 419 = .ok (.goto 936, 3) := by decide +kernel
theorem dl_422 : decode code 422 = .ok (.aload_n 1, 1) := by decide +kernel
theorem dl_423 : decode code 423 = .ok (.aload_n 0, 1) := by decide +kernel
theorem dl_424 : decode code 424 = .ok (.iload 4, 2) := by decide +kernel
theorem dl_426 : decode code 426 = .ok (.iconst 1, 1) := by decide +kernel
theorem dl_427 : decode code 427 = .ok (.iadd, 1) := by decide +kernel
theorem dl_428 : decode code 428 = .ok (.iaload, 1) := by decide +kernel
theorem dl_429 : decode code 429 = .ok (.aload_n 0, 1) := by decide +kernel
theorem dl_430 : decode code 430 = .ok (.iload 4, 2) := by decide +kernel
theorem dl_432 : decode code 432 = .ok (.iconst 2, 1) := by decide +kernel
theorem dl_433 : decode code 433 = .ok (.iadd, 1) := by decide +kernel
theorem dl_434 : decode code 434 = .ok (.iaload, 1) := by decide +kernel
theorem dl_435 : decode code 435 = .ok (.i2l, 1) := by decide +kernel
theorem dl_436 : decode code 436 = .ok (.bipush 32, 2) := by decide +kernel
theorem dl_438 : decode code 438 = .ok (.lshl, 1) := by decide +kernel
theorem dl_439 : decode code 439 = .ok (.aload_n 0, 1) := by decide +kernel
theorem dl_440 : decode code 440 = .ok (.iload 4, 2) := by decide +kernel
theorem dl_442 : decode code 442 = .ok (.iconst 3, 1) := by decide +kernel
theorem dl_443 : decode code 443 = .ok (.iadd, 1) := by decide +kernel
theorem dl_444 : decode code 444 = .ok (.iaload, 1) := by decide +kernel
theorem dl_445 : decode code 445 = .ok (.i2l, 1) := by decide +kernel
theorem dl_446 : decode code 446 = .ok (.ldc2_w 71, 3) := by decide +kernel
theorem dl_449 : decode code 449 = .ok (.land, 1) := by decide +kernel
theorem dl_450 : decode code 450 = .ok (.lor, 1) := by decide +kernel
theorem dl_451 : decode code 451 = .ok (.invokestatic 86, 3) := by decide +kernel
theorem dl_454 : decode code 454 = .ok (.istore 5, 2) := by decide +kernel
theorem dl_456 : decode code 456 = .ok (.aload_n 2, 1) := by decide +kernel
theorem dl_457 : decode code 457 = .ok (.aload_n 0, 1) := by decide +kernel
theorem dl_458 : decode code 458 = .ok (.iload 4, 2) := by decide +kernel
theorem dl_460 : decode code 460 = .ok (.iconst 1, 1) := by decide +kernel
theorem dl_461 : decode code 461 = .ok (.iadd, 1) := by decide +kernel
theorem dl_462 : decode code 462 = .ok (.iaload, 1) := by decide +kernel
theorem dl_463 : decode code 463 = .ok (.aload_n 0, 1) := by decide +kernel
theorem dl_464 : decode code 464 = .ok (.iload 4, 2) := by decide +kernel
theorem dl_466 : decode code 466 = .ok (.iconst 2, 1) := by decide +kernel
theorem dl_467 : decode code 467 = .ok (.iadd, 1) := by decide +kernel
theorem dl_468 : decode code 468 = .ok (.iaload, 1) := by decide +kernel
theorem dl_469 : decode code 469 = .ok (.i2l, 1) := by decide +kernel
theorem dl_470 : decode code 470 = .ok (.bipush 32, 2) := by decide +kernel
theorem dl_472 : decode code 472 = .ok (.lshl, 1) := by decide +kernel
theorem dl_473 : decode code 473 = .ok (.aload_n 0, 1) := by decide +kernel
theorem dl_474 : decode code 474 = .ok (.iload 4, 2) := by decide +kernel
theorem dl_476 : decode code 476 = .ok (.iconst 3, 1) := by decide +kernel
theorem dl_477 : decode code 477 = .ok (.iadd, 1) := by decide +kernel
theorem dl_478 : decode code 478 = .ok (.iaload, 1) := by decide +kernel
theorem dl_479 : decode code 479 = .ok (.i2l, 1) := by decide +kernel
theorem dl_480 : decode code 480 = .ok (.ldc2_w 71, 3) := by decide +kernel
theorem dl_483 : decode code 483 = .ok (.land, 1) := by decide +kernel
theorem dl_484 : decode code 484 = .ok (.lor, 1) := by decide +kernel
theorem dl_485 : decode code 485 = .ok (.invokevirtual 89, 3) := by decide +kernel
theorem dl_488 : decode code 488 = .ok (.aload_n 2, 1) := by decide +kernel
theorem dl_489 : decode code 489 = .ok (.invokevirtual 79, 3) := by decide +kernel
theorem dl_492 : decode code 492 = .ok (.iload 5, 2) := by decide +kernel
theorem dl_494 : decode code 494 = .ok (.if_icmp .eq 5, 3) := by decide +kernel
theorem dl_497 : decode code 497 = .ok (.iconst 0, 1) := by decide +kernel
theorem dl_498 : decode code 498 = .ok (.ireturn, 1) := by decide +kernel
theorem dl_499 : decode code 499 = .ok (.goto 856, 3) := by decide +kernel
theorem dl_502 : decode code 502 = .ok (.aload_n 1, 1) := by decide +kernel
theorem dl_503 : decode code 503 = .ok (.aload_n 0, 1) := by decide +kernel
theorem dl_504 : decode code 504 = .ok (.iload 4, 2) := by decide +kernel
theorem dl_506 : decode code 506 = .ok (.iconst 1, 1) := by decide +kernel
theorem dl_507 : decode code 507 = .ok (.iadd, 1) := by decide +kernel
theorem dl_508 : decode code 508 = .ok (.iaload, 1) := by decide +kernel
theorem dl_509 : decode code 509 = .ok (.i2l, 1) := by decide +kernel
theorem dl_510 : decode code 510 = .ok (.bipush 32, 2) := by decide +kernel
theorem dl_512 : decode code 512 = .ok (.lshl, 1) := by decide +kernel
theorem dl_513 : decode code 513 = .ok (.aload_n 0, 1) := by decide +kernel
theorem dl_514 : decode code 514 = .ok (.iload 4, 2) := by decide +kernel
theorem dl_516 : decode code 516 = .ok (.iconst 2, 1) := by decide +kernel
theorem dl_517 : decode code 517 = .ok (.iadd, 1) := by decide +kernel
theorem dl_518 : decode code 518 = .ok (.iaload, 1) := by decide +kernel
theorem dl_519 : decode code 519 = .ok (.i2l, 1) := by decide +kernel
theorem dl_520 : decode code 520 = .ok (.ldc2_w 71, 3) := by decide +kernel
theorem dl_523 : decode code 523 = .ok (.land, 1) := by decide +kernel
theorem dl_524 : decode code 524 = .ok (.lor, 1) := by decide +kernel
theorem dl_525 : decode code 525 = .ok (.aload_n 0, 1) := by decide +kernel
theorem dl_526 : decode code 526 = .ok (.iload 4, 2) := by decide +kernel
theorem dl_528 : decode code 528 = .ok (.iconst 3, 1) := by decide +kernel
theorem dl_529 : decode code 529 = .ok (.iadd, 1) := by decide +kernel
theorem dl_530 : decode code 530 = .ok (.iaload, 1) := by decide +kernel
theorem dl_531 : decode code 531 = .ok (.i2l, 1) := by decide +kernel
theorem dl_532 : decode code 532 = .ok (.bipush 32, 2) := by decide +kernel
theorem dl_534 : decode code 534 = .ok (.lshl, 1) := by decide +kernel
theorem dl_535 : decode code 535 = .ok (.aload_n 0, 1) := by decide +kernel
theorem dl_536 : decode code 536 = .ok (.iload 4, 2) := by decide +kernel
theorem dl_538 : decode code 538 = .ok (.iconst 4, 1) := by decide +kernel
theorem dl_539 : decode code 539 = .ok (.iadd, 1) := by decide +kernel
theorem dl_540 : decode code 540 = .ok (.iaload, 1) := by decide +kernel
theorem dl_541 : decode code 541 = .ok (.i2l, 1) := by decide +kernel
theorem dl_542 : decode code 542 = .ok (.ldc2_w 71, 3) := by decide +kernel
theorem dl_545 : decode code 545 = .ok (.land, 1) := by decide +kernel
theorem dl_546 : decode code 546 = .ok (.lor, 1) := by decide +kernel
theorem dl_547 : decode code 547 = .ok (.aload_n 3, 1) := by decide +kernel
theorem dl_548 : decode code 548 = .ok (.invokestatic 90, 3) := by decide +kernel
theorem dl_551 : decode code 551 = .ok (.istore 5, 2) := by decide +kernel
theorem dl_553 : decode code 553 = .ok (.aload_n 2, 1) := by decide +kernel
theorem dl_554 : decode code 554 = .ok (.aload_n 0, 1) := by decide +kernel
theorem dl_555 : decode code 555 = .ok (.iload 4, 2) := by decide +kernel
theorem dl_557 : decode code 557 = .ok (.iconst 1, 1) := by decide +kernel
theorem dl_558 : decode code 558 = .ok (.iadd, 1) := by decide +kernel
theorem dl_559 : decode code 559 = .ok (.iaload, 1) := by decide +kernel
