theorem d_law_345 : decode b_law 345 = .ok (.iadd, 1) := by decide +kernel
theorem d_law_346 : decode b_law 346 = .ok (.iaload, 1) := by decide +kernel
theorem d_law_347 : decode b_law 347 = .ok (.aload_n 0, 1) := by decide +kernel
theorem d_law_348 : decode b_law 348 = .ok (.iload 4, 2) := by decide +kernel
theorem d_law_350 : decode b_law 350 = .ok (.iconst 3, 1) := by decide +kernel
theorem d_law_351 : decode b_law 351 = .ok (.iadd, 1) := by decide +kernel
theorem d_law_352 : decode b_law 352 = .ok (.iaload, 1) := by decide +kernel
theorem d_law_353 : decode b_law 353 = .ok (.aload_n 0, 1) := by decide +kernel
theorem d_law_354 : decode b_law 354 = .ok (.iload 4, 2) := by decide +kernel
theorem d_law_356 : decode b_law 356 = .ok (.iconst 4, 1) := by decide +kernel
theorem d_law_357 : decode b_law 357 = .ok (.iadd, 1) := by decide +kernel
theorem d_law_358 : decode b_law 358 = .ok (.iaload, 1) := by decide +kernel
theorem d_law_359 : decode b_law 359 = .ok (.aload_n 0, 1) := by decide +kernel
theorem d_law_360 : decode b_law 360 = .ok (.iload 4, 2) := by decide +kernel
theorem d_law_362 : decode b_law 362 = .ok (.iconst 5, 1) := by decide +kernel
theorem d_law_363 : decode b_law 363 = .ok (.iadd, 1) := by decide +kernel
theorem d_law_364 : decode b_law 364 = .ok (.iaload, 1) := by decide +kernel
theorem d_law_365 : decode b_law 365 = .ok (.invokevirtual 76, 3) := by decide +kernel
theorem d_law_368 : decode b_law 368 = .ok (.istore 6, 2) := by decide +kernel
theorem d_law_370 : decode b_law 370 = .ok (.aload_n 2, 1) := by decide +kernel
theorem d_law_371 : decode b_law 371 = .ok (.invokevirtual 60, 3) := by decide +kernel
theorem d_law_374 : decode b_law 374 = .ok (.iload 5, 2) := by decide +kernel
theorem d_law_376 : decode b_law 376 = .ok (.if_icmp .eq 5, 3) := by decide +kernel
theorem d_law_379 : decode b_law 379 = .ok (.iconst 0, 1) := by decide +kernel
theorem d_law_380 : decode b_law 380 = .ok (.ireturn, 1) := by decide +kernel
theorem d_law_381 : decode b_law 381 = .ok (.iload 5, 2) := by decide +kernel
theorem d_law_383 : decode b_law 383 = .ok (.ifCond .ne 15, 3) := by decide +kernel
theorem d_law_386 : decode b_law 386 = .ok (.aload_n 3, 1) := by decide +kernel
theorem d_law_387 : decode b_law 387 = .ok (.iconst 0, 1) := by decide +kernel
theorem d_law_388 : decode b_law 388 = .ok (.laload, 1) := by decide +kernel
theorem d_law_389 : decode b_law 389 = .ok (.iload 6, 2) := by decide +kernel
theorem d_law_391 : decode b_law 391 = .ok (.i2l, 1) := by decide +kernel
theorem d_law_392 : decode b_law 392 = .ok (.lcmp, 1) := by decide +kernel
theorem d_law_393 : decode b_law 393 = .ok (.ifCond .eq 5, 3) := by decide +kernel
theorem d_law_396 : decode b_law 396 = .ok (.iconst 0, 1) := by decide +kernel
theorem d_law_397 : decode b_law 397 = .ok (.ireturn, 1) := by decide +kernel
theorem d_law_398 : decode b_law 398 = .ok (.goto 493, 3) := by decide +kernel
theorem d_law_401 : decode b_law 401 = .ok (.aload_n 1, 1) := by decide +kernel
theorem d_law_402 : decode b_law 402 = .ok (.aload_n 0, 1) := by decide +kernel
theorem d_law_403 : decode b_law 403 = .ok (.iload 4, 2) := by decide +kernel
theorem d_law_405 : decode b_law 405 = .ok (.iconst 1, 1) := by decide +kernel
theorem d_law_406 : decode b_law 406 = .ok (.iadd, 1) := by decide +kernel
theorem d_law_407 : decode b_law 407 = .ok (.iaload, 1) := by decide +kernel
theorem d_law_408 : decode b_law 408 = .ok (.aload_n 0, 1) := by decide +kernel
theorem d_law_409 : decode b_law 409 = .ok (.iload 4, 2) := by decide +kernel
theorem d_law_411 : decode b_law 411 = .ok (.iconst 2, 1) := by decide +kernel
theorem d_law_412 : decode b_law 412 = .ok (.iadd, 1) := by decide +kernel
theorem d_law_413 : decode b_law 413 = .ok (.iaload, 1) := by decide +kernel
theorem d_law_414 : decode b_law 414 = .ok (.aload_n 0, 1) := by decide +kernel
theorem d_law_415 : decode b_law 415 = .ok (.iload 4, 2) := by decide +kernel
theorem d_law_417 : decode b_law 417 = .ok (.iconst 3, 1) := by decide +kernel
theorem d_law_418 : decode b_law 418 = .ok (.iadd, 1) := by decide +kernel
theorem d_law_419 : decode b_law 419 = .ok (.iaload, 1) := by decide +kernel
theorem d_law_420 : decode b_law 420 = .ok (.aload_n 0, 1) := by decide +kernel
theorem d_law_421 : decode b_law 421 = .ok (.iload 4, 2) := by decide +kernel
theorem d_law_423 : decode b_law 423 = .ok (.iconst 4, 1) := by decide +kernel
theorem d_law_424 : decode b_law 424 = .ok (.iadd, 1) := by decide +kernel
theorem d_law_425 : decode b_law 425 = .ok (.iaload, 1) := by decide +kernel
theorem d_law_426 : decode b_law 426 = .ok (.aload_n 0, 1) := by decide +kernel
theorem d_law_427 : decode b_law 427 = .ok (.iload 4, 2) := by decide +kernel
theorem d_law_429 : decode b_law 429 = .ok (.iconst 5, 1) := by decide +kernel
theorem d_law_430 : decode b_law 430 = .ok (.iadd, 1) := by decide +kernel
theorem d_law_431 : decode b_law 431 = .ok (.iaload, 1) := by decide +kernel
theorem d_law_432 : decode b_law 432 = .ok (.aload_n 3, 1) := by decide +kernel
theorem d_law_433 : decode b_law 433 = .ok (.invokestatic 77, 3) := by decide +kernel
theorem d_law_436 : decode b_law 436 = .ok (.istore 5, 2) := by decide +kernel
theorem d_law_438 : decode b_law 438 = .ok (.aload_n 2, 1) := by decide +kernel
theorem d_law_439 : decode b_law 439 = .ok (.aload_n 0, 1) := by decide +kernel
theorem d_law_440 : decode b_law 440 = .ok (.iload 4, 2) := by decide +kernel
theorem d_law_442 : decode b_law 442 = .ok (.iconst 1, 1) := by decide +kernel
theorem d_law_443 : decode b_law 443 = .ok (.iadd, 1) := by decide +kernel
theorem d_law_444 : decode b_law 444 = .ok (.iaload, 1) := by decide +kernel
theorem d_law_445 : decode b_law 445 = .ok (.aload_n 0, 1) := by decide +kernel
theorem d_law_446 : decode b_law 446 = .ok (.iload 4, 2) := by decide +kernel
theorem d_law_448 : decode b_law 448 = .ok (.iconst 2, 1) := by decide +kernel
theorem d_law_449 : decode b_law 449 = .ok (.iadd, 1) := by decide +kernel
theorem d_law_450 : decode b_law 450 = .ok (.iaload, 1) := by decide +kernel
theorem d_law_451 : decode b_law 451 = .ok (.aload_n 0, 1) := by decide +kernel
theorem d_law_452 : decode b_law 452 = .ok (.iload 4, 2) := by decide +kernel
theorem d_law_454 : decode b_law 454 = .ok (.iconst 3, 1) := by decide +kernel
theorem d_law_455 : decode b_law 455 = .ok (.iadd, 1) := by decide +kernel
theorem d_law_456 : decode b_law 456 = .ok (.iaload, 1) := by decide +kernel
theorem d_law_457 : decode b_law 457 = .ok (.aload_n 0, 1) := by decide +kernel
theorem d_law_458 : decode b_law 458 = .ok (.iload 4, 2) := by decide +kernel
theorem d_law_460 : decode b_law 460 = .ok (.iconst 4, 1) := by decide +kernel
theorem d_law_461 : decode b_law 461 = .ok (.iadd, 1) := by decide +kernel
theorem d_law_462 : decode b_law 462 = .ok (.iaload, 1) := by decide +kernel
theorem d_law_463 : decode b_law 463 = .ok (.aload_n 0, 1) := by decide +kernel
theorem d_law_464 : decode b_law 464 = .ok (.iload 4, 2) := by decide +kernel
theorem d_law_466 : decode b_law 466 = .ok (.iconst 5, 1) := by decide +kernel
theorem d_law_467 : decode b_law 467 = .ok (.iadd, 1) := by decide +kernel
theorem d_law_468 : decode b_law 468 = .ok (.iaload, 1) := by decide +kernel
theorem d_law_469 : decode b_law 469 = .ok (.invokevirtual 79, 3) := by decide +kernel
theorem d_law_472 : decode b_law 472 = .ok (.istore 6, 2) := by decide +kernel
theorem d_law_474 : decode b_law 474 = .ok (.aload_n 2, 1) := by decide +kernel
theorem d_law_475 : decode b_law 475 = .ok (.invokevirtual 60, 3) := by decide +kernel
theorem d_law_478 : decode b_law 478 = .ok (.iload 5, 2) := by decide +kernel
theorem d_law_480 : decode b_law 480 = .ok (.if_icmp .eq 5, 3) := by decide +kernel
theorem d_law_483 : decode b_law 483 = .ok (.iconst 0, 1) := by decide +kernel
theorem d_law_484 : decode b_law 484 = .ok (.ireturn, 1) := by decide +kernel
theorem d_law_485 : decode b_law 485 = .ok (.iload 5, 2) := by decide +kernel
theorem d_law_487 : decode b_law 487 = .ok (.ifCond .ne 15, 3) := by decide +kernel
theorem d_law_490 : decode b_law 490 = .ok (.aload_n 3, 1) := by decide +kernel
theorem d_law_491 : decode b_law 491 = .ok (.iconst 0, 1) := by decide +kernel
theorem d_law_492 : decode b_law 492 = .ok (.laload, 1) := by decide +kernel
theorem d_law_493 : decode b_law 493 = .ok (.iload 6, 2) := by decide +kernel
theorem d_law_495 : decode b_law 495 = .ok (.i2l, 1) := by decide +kernel
theorem d_law_496 : decode b_law 496 = .ok (.lcmp, 1) := by decide +kernel
theorem d_law_497 : decode b_law 497 = .ok (.ifCond .eq 5, 3) := by decide +kernel
theorem d_law_500 : decode b_law 500 = .ok (.iconst 0, 1) := by decide +kernel
theorem d_law_501 : decode b_law 501 = .ok (.ireturn, 1) := by decide +kernel
theorem d_law_502 : decode b_law 502 = .ok (.goto 389, 3) := by decide +kernel
theorem d_law_505 : decode b_law 505 = .ok (.aload_n 1, 1) := by decide +kernel
theorem d_law_506 : decode b_law 506 = .ok (.invokevirtual 80, 3) := by decide +kernel
theorem d_law_509 : decode b_law 509 = .ok (.aload_n 2, 1) := by decide +kernel
theorem d_law_510 : decode b_law 510 = .ok (.invokevirtual 83, 3) := by decide +kernel
theorem d_law_513 : decode b_law 513 = .ok (.if_icmp .eq 378, 3) := by decide +kernel
theorem d_law_516 : decode b_law 516 = .ok (.iconst 0, 1) := by decide +kernel
theorem d_law_517 : decode b_law 517 = .ok (.ireturn, 1) := by decide +kernel
theorem d_law_518 : decode b_law 518 = .ok (.aload_n 1, 1) := by decide +kernel
theorem d_law_519 : decode b_law 519 = .ok (.aload_n 0, 1) := by decide +kernel
theorem d_law_520 : decode b_law 520 = .ok (.iload 4, 2) := by decide +kernel
theorem d_law_522 : decode b_law 522 = .ok (.iconst 1, 1) := by decide +kernel
theorem d_law_523 : decode b_law 523 = .ok (.iadd, 1) := by decide +kernel
theorem d_law_524 : decode b_law 524 = .ok (.iaload, 1) := by decide +kernel
theorem d_law_525 : decode b_law 525 = .ok (.aload_n 3, 1) := by decide +kernel
theorem d_law_526 : decode b_law 526 = .ok (.invokestatic 84, 3) := by decide +kernel
theorem d_law_529 : decode b_law 529 = .ok (.istore 5, 2) := by decide +kernel
theorem d_law_531 : decode b_law 531 = .ok (.aload_n 2, 1) := by decide +kernel
theorem d_law_532 : decode b_law 532 = .ok (.aload_n 0, 1) := by decide +kernel
theorem d_law_533 : decode b_law 533 = .ok (.iload 4, 2) := by decide +kernel
theorem d_law_535 : decode b_law 535 = .ok (.iconst 1, 1) := by decide +kernel
theorem d_law_536 : decode b_law 536 = .ok (.iadd, 1) := by decide +kernel
theorem d_law_537 : decode b_law 537 = .ok (.iaload, 1) := by decide +kernel
theorem d_law_538 : decode b_law 538 = .ok (.invokevirtual 87, 3) := by decide +kernel
theorem d_law_541 : decode b_law 541 = .ok (.istore 6, 2) := by decide +kernel
theorem d_law_543 : decode b_law 543 = .ok (.aload_n 2, 1) := by decide +kernel
theorem d_law_544 : decode b_law 544 = .ok (.invokevirtual 60, 3) := by decide +kernel
theorem d_law_547 : decode b_law 547 = .ok (.iload 5, 2) := by decide +kernel
theorem d_law_549 : decode b_law 549 = .ok (.if_icmp .eq 5, 3) := by decide +kernel
theorem d_law_552 : decode b_law 552 = .ok (.iconst 0, 1) := by decide +kernel
theorem d_law_553 : decode b_law 553 = .ok (.ireturn, 1) := by decide +kernel
theorem d_law_554 : decode b_law 554 = .ok (.iload 5, 2) := by decide +kernel
theorem d_law_556 : decode b_law 556 = .ok (.ifCond .ne 15, 3) := by decide +kernel
theorem d_law_559 : decode b_law 559 = .ok (.aload_n 3, 1) := by decide +kernel
theorem d_law_560 : decode b_law 560 = .ok (.iconst 0, 1) := by decide +kernel
theorem d_law_561 : decode b_law 561 = .ok (.laload, 1) := by decide +kernel
theorem d_law_562 : decode b_law 562 = .ok (.iload 6, 2) := by decide +kernel
theorem d_law_564 : decode b_law 564 = .ok (.i2l, 1) := by decide +kernel
theorem d_law_565 : decode b_law 565 = .ok (.lcmp, 1) := by decide +kernel
theorem d_law_566 : decode b_law 566 = .ok (.ifCond .eq 5, 3) := by decide +kernel
theorem d_law_569 : decode b_law 569 = .ok (.iconst 0, 1) := by decide +kernel
theorem d_law_570 : decode b_law 570 = .ok (.ireturn, 1) := by decide +kernel
theorem d_law_571 : decode b_law 571 = .ok (.goto 320, 3) := by decide +kernel
theorem d_law_574 : decode b_law 574 = .ok (.aload_n 1, 1) := by decide +kernel
theorem d_law_575 : decode b_law 575 = .ok (.aload_n 0, 1) := by decide +kernel
theorem d_law_576 : decode b_law 576 = .ok (.iload 4, 2) := by decide +kernel
theorem d_law_578 : decode b_law 578 = .ok (.iconst 1, 1) := by decide +kernel
theorem d_law_579 : decode b_law 579 = .ok (.iadd, 1) := by decide +kernel
theorem d_law_580 : decode b_law 580 = .ok (.iaload, 1) := by decide +kernel
theorem d_law_581 : decode b_law 581 = .ok (.aload_n 3, 1) := by decide +kernel
theorem d_law_582 : decode b_law 582 = .ok (.invokestatic 88, 3) := by decide +kernel
theorem d_law_585 : decode b_law 585 = .ok (.istore 5, 2) := by decide +kernel
theorem d_law_587 : decode b_law 587 = .ok (.aload_n 2, 1) := by decide +kernel
theorem d_law_588 : decode b_law 588 = .ok (.aload_n 0, 1) := by decide +kernel
theorem d_law_589 : decode b_law 589 = .ok (.iload 4, 2) := by decide +kernel
theorem d_law_591 : decode b_law 591 = .ok (.iconst 1, 1) := by decide +kernel
theorem d_law_592 : decode b_law 592 = .ok (.iadd, 1) := by decide +kernel
theorem d_law_593 : decode b_law 593 = .ok (.iaload, 1) := by decide +kernel
theorem d_law_594 : decode b_law 594 = .ok (.invokevirtual 90, 3) := by decide +kernel
theorem d_law_597 : decode b_law 597 = .ok (.istore 6, 2) := by decide +kernel
theorem d_law_599 : decode b_law 599 = .ok (.aload_n 2, 1) := by decide +kernel
theorem d_law_600 : decode b_law 600 = .ok (.invokevirtual 60, 3) := by decide +kernel
theorem d_law_603 : decode b_law 603 = .ok (.iload 5, 2) := by decide +kernel
theorem d_law_605 : decode b_law 605 = .ok (.if_icmp .eq 5, 3) := by decide +kernel
theorem d_law_608 : decode b_law 608 = .ok (.iconst 0, 1) := by decide +kernel
theorem d_law_609 : decode b_law 609 = .ok (.ireturn, 1) := by decide +kernel
theorem d_law_610 : decode b_law 610 = .ok (.iload 5, 2) := by decide +kernel
theorem d_law_612 : decode b_law 612 = .ok (.ifCond .ne 15, 3) := by decide +kernel
theorem d_law_615 : decode b_law 615 = .ok (.aload_n 3, 1) := by decide +kernel
theorem d_law_616 : decode b_law 616 = .ok (.iconst 0, 1) := by decide +kernel
theorem d_law_617 : decode b_law 617 = .ok (.laload, 1) := by decide +kernel
theorem d_law_618 : decode b_law 618 = .ok (.iload 6, 2) := by decide +kernel
theorem d_law_620 : decode b_law 620 = .ok (.i2l, 1) := by decide +kernel
theorem d_law_621 : decode b_law 621 = .ok (.lcmp, 1) := by decide +kernel
theorem d_law_622 : decode b_law 622 = .ok (.ifCond .eq 5, 3) := by decide +kernel
theorem d_law_625 : decode b_law 625 = .ok (.iconst 0, 1) := by decide +kernel
theorem d_law_626 : decode b_law 626 = .ok (.ireturn, 1) := by decide +kernel
theorem d_law_627 : decode b_law 627 = .ok (.goto 264, 3) := by decide +kernel
theorem d_law_630 : decode b_law 630 = .ok (.aload_n 1, 1) := by decide +kernel
