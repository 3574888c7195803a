theorem dL_law_348 : decode cL_law 348 = .ok (.aload_n 1, 1) := by decide +kernel
theorem dL_law_349 : decode cL_law 349 = .ok (.aload_n 0, 1) := by decide +kernel
theorem dL_law_350 : decode cL_law 350 = .ok (.iload_n 3, 1) := by decide +kernel
theorem dL_law_351 : decode cL_law 351 = .ok (.iconst 1, 1) := by decide +kernel
theorem dL_law_352 : decode cL_law 352 = .ok (.iadd, 1) := by decide +kernel
theorem dL_law_353 : decode cL_law 353 = .ok (.iaload, 1) := by decide +kernel
theorem dL_law_354 : decode cL_law 354 = .ok (.aload_n 0, 1) := by decide +kernel
theorem dL_law_355 : decode cL_law 355 = .ok (.iload_n 3, 1) := by decide +kernel
theorem dL_law_356 : decode cL_law 356 = .ok (.iconst 2, 1) := by decide +kernel
theorem dL_law_357 : decode cL_law 357 = .ok (.iadd, 1) := by decide +kernel
theorem dL_law_358 : decode cL_law 358 = .ok (.iaload, 1) := by decide +kernel
theorem dL_law_359 : decode cL_law 359 = .ok (.aload_n 0, 1) := by decide +kernel
theorem dL_law_360 : decode cL_law 360 = .ok (.iload_n 3, 1) := by decide +kernel
theorem dL_law_361 : decode cL_law 361 = .ok (.iconst 3, 1) := by decide +kernel
theorem dL_law_362 : decode cL_law 362 = .ok (.iadd, 1) := by decide +kernel
theorem dL_law_363 : decode cL_law 363 = .ok (.iaload, 1) := by decide +kernel
theorem dL_law_364 : decode cL_law 364 = .ok (.aload_n 0, 1) := by decide +kernel
theorem dL_law_365 : decode cL_law 365 = .ok (.iload_n 3, 1) := by decide +kernel
theorem dL_law_366 : decode cL_law 366 = .ok (.iconst 4, 1) := by decide +kernel
theorem dL_law_367 : decode cL_law 367 = .ok (.iadd, 1) := by decide +kernel
theorem dL_law_368 : decode cL_law 368 = .ok (.iaload, 1) := by decide +kernel
theorem dL_law_369 : decode cL_law 369 = .ok (.aload_n 0, 1) := by decide +kernel
theorem dL_law_370 : decode cL_law 370 = .ok (.iload_n 3, 1) := by decide +kernel
theorem dL_law_371 : decode cL_law 371 = .ok (.iconst 5, 1) := by decide +kernel
theorem dL_law_372 : decode cL_law 372 = .ok (.iadd, 1) := by decide +kernel
theorem dL_law_373 : decode cL_law 373 = .ok (.iaload, 1) := by decide +kernel
theorem dL_law_374 : decode cL_law 374 = .ok (.invokevirtual 13, 3) := by decide +kernel
theorem dL_law_377 : decode cL_law 377 = .ok (.pop, 1) := by decide +kernel
theorem dL_law_378 : decode cL_law 378 = .ok (.aload_n 2, 1) := by decide +kernel
theorem dL_law_379 : decode cL_law 379 = .ok (.aload_n 0, 1) := by decide +kernel
theorem dL_law_380 : decode cL_law 380 = .ok (.iload_n 3, 1) := by decide +kernel
theorem dL_law_381 : decode cL_law 381 = .ok (.iconst 1, 1) := by decide +kernel
theorem dL_law_382 : decode cL_law 382 = .ok (.iadd, 1) := by decide +kernel
theorem dL_law_383 : decode cL_law 383 = .ok (.iaload, 1) := by decide +kernel
theorem dL_law_384 : decode cL_law 384 = .ok (.aload_n 0, 1) := by decide +kernel
theorem dL_law_385 : decode cL_law 385 = .ok (.iload_n 3, 1) := by decide +kernel
theorem dL_law_386 : decode cL_law 386 = .ok (.iconst 2, 1) := by decide +kernel
theorem dL_law_387 : decode cL_law 387 = .ok (.iadd, 1) := by decide +kernel
theorem dL_law_388 : decode cL_law 388 = .ok (.iaload, 1) := by decide +kernel
theorem dL_law_389 : decode cL_law 389 = .ok (.aload_n 0, 1) := by decide +kernel
theorem dL_law_390 : decode cL_law 390 = .ok (.iload_n 3, 1) := by decide +kernel
theorem dL_law_391 : decode cL_law 391 = .ok (.iconst 3, 1) := by decide +kernel
theorem dL_law_392 : decode cL_law 392 = .ok (.iadd, 1) := by decide +kernel
theorem dL_law_393 : decode cL_law 393 = .ok (.iaload, 1) := by decide +kernel
theorem dL_law_394 : decode cL_law 394 = .ok (.aload_n 0, 1) := by decide +kernel
theorem dL_law_395 : decode cL_law 395 = .ok (.iload_n 3, 1) := by decide +kernel
theorem dL_law_396 : decode cL_law 396 = .ok (.iconst 4, 1) := by decide +kernel
theorem dL_law_397 : decode cL_law 397 = .ok (.iadd, 1) := by decide +kernel
theorem dL_law_398 : decode cL_law 398 = .ok (.iaload, 1) := by decide +kernel
theorem dL_law_399 : decode cL_law 399 = .ok (.aload_n 0, 1) := by decide +kernel
theorem dL_law_400 : decode cL_law 400 = .ok (.iload_n 3, 1) := by decide +kernel
theorem dL_law_401 : decode cL_law 401 = .ok (.iconst 5, 1) := by decide +kernel
theorem dL_law_402 : decode cL_law 402 = .ok (.iadd, 1) := by decide +kernel
theorem dL_law_403 : decode cL_law 403 = .ok (.iaload, 1) := by decide +kernel
theorem dL_law_404 : decode cL_law 404 = .ok (.invokevirtual 17, 3) := by decide +kernel
theorem dL_law_407 : decode cL_law 407 = .ok (.pop, 1) := by decide +kernel
theorem dL_law_408 : decode cL_law 408 = .ok (.goto 1985, 3) := by decide +kernel
theorem dL_law_411 : decode cL_law 411 = .ok (.aload_n 1, 1) := by decide +kernel
theorem dL_law_412 : decode cL_law 412 = .ok (.aload_n 0, 1) := by decide +kernel
theorem dL_law_413 : decode cL_law 413 = .ok (.iload_n 3, 1) := by decide +kernel
theorem dL_law_414 : decode cL_law 414 = .ok (.iconst 1, 1) := by decide +kernel
theorem dL_law_415 : decode cL_law 415 = .ok (.iadd, 1) := by decide +kernel
theorem dL_law_416 : decode cL_law 416 = .ok (.iaload, 1) := by decide +kernel
theorem dL_law_417 : decode cL_law 417 = .ok (.invokevirtual 18, 3) := by decide +kernel
theorem dL_law_420 : decode cL_law 420 = .ok (.pop, 1) := by decide +kernel
theorem dL_law_421 : decode cL_law 421 = .ok (.aload_n 2, 1) := by decide +kernel
theorem dL_law_422 : decode cL_law 422 = .ok (.aload_n 0, 1) := by decide +kernel
theorem dL_law_423 : decode cL_law 423 = .ok (.iload_n 3, 1) := by decide +kernel
theorem dL_law_424 : decode cL_law 424 = .ok (.iconst 1, 1) := by decide +kernel
theorem dL_law_425 : decode cL_law 425 = .ok (.iadd, 1) := by decide +kernel
theorem dL_law_426 : decode cL_law 426 = .ok (.iaload, 1) := by decide +kernel
theorem dL_law_427 : decode cL_law 427 = .ok (.invokevirtual 22, 3) := by decide +kernel
theorem dL_law_430 : decode cL_law 430 = .ok (.pop, 1) := by decide +kernel
theorem dL_law_431 : decode cL_law 431 = .ok (.goto 1962, 3) := by decide +kernel
theorem dL_law_434 : decode cL_law 434 = .ok (.aload_n 1, 1) := by decide +kernel
theorem dL_law_435 : decode cL_law 435 = .ok (.invokevirtual 23, 3) := by decide +kernel
theorem dL_law_438 : decode cL_law 438 = .ok (.pop, 1) := by decide +kernel
theorem dL_law_439 : decode cL_law 439 = .ok (.aload_n 2, 1) := by decide +kernel
theorem dL_law_440 : decode cL_law 440 = .ok (.invokevirtual 27, 3) := by decide +kernel
theorem dL_law_443 : decode cL_law 443 = .ok (.pop, 1) := by decide +kernel
theorem dL_law_444 : decode cL_law 444 = .ok (.goto 1949, 3) := by decide +kernel
theorem dL_law_447 : decode cL_law 447 = .ok (.aload_n 1, 1) := by decide +kernel
theorem dL_law_448 : decode cL_law 448 = .ok (.aload_n 0, 1) := by decide +kernel
theorem dL_law_449 : decode cL_law 449 = .ok (.iload_n 3, 1) := by decide +kernel
theorem dL_law_450 : decode cL_law 450 = .ok (.iconst 1, 1) := by decide +kernel
theorem dL_law_451 : decode cL_law 451 = .ok (.iadd, 1) := by decide +kernel
theorem dL_law_452 : decode cL_law 452 = .ok (.iaload, 1) := by decide +kernel
theorem dL_law_453 : decode cL_law 453 = .ok (.invokevirtual 28, 3) := by decide +kernel
theorem dL_law_456 : decode cL_law 456 = .ok (.pop, 1) := by decide +kernel
theorem dL_law_457 : decode cL_law 457 = .ok (.aload_n 2, 1) := by decide +kernel
theorem dL_law_458 : decode cL_law 458 = .ok (.aload_n 0, 1) := by decide +kernel
theorem dL_law_459 : decode cL_law 459 = .ok (.iload_n 3, 1) := by decide +kernel
theorem dL_law_460 : decode cL_law 460 = .ok (.iconst 1, 1) := by decide +kernel
theorem dL_law_461 : decode cL_law 461 = .ok (.iadd, 1) := by decide +kernel
theorem dL_law_462 : decode cL_law 462 = .ok (.iaload, 1) := by decide +kernel
theorem dL_law_463 : decode cL_law 463 = .ok (.invokevirtual 31, 3) := by decide +kernel
theorem dL_law_466 : decode cL_law 466 = .ok (.pop, 1) := by decide +kernel
theorem dL_law_467 : decode cL_law 467 = .ok (.goto 1926, 3) := by decide +kernel
theorem dL_law_470 : decode cL_law 470 = .ok (.aload_n 1, 1) := by decide +kernel
theorem dL_law_471 : decode cL_law 471 = .ok (.aload_n 0, 1) := by decide +kernel
theorem dL_law_472 : decode cL_law 472 = .ok (.iload_n 3, 1) := by decide +kernel
theorem dL_law_473 : decode cL_law 473 = .ok (.iconst 1, 1) := by decide +kernel
theorem dL_law_474 : decode cL_law 474 = .ok (.iadd, 1) := by decide +kernel
theorem dL_law_475 : decode cL_law 475 = .ok (.iaload, 1) := by decide +kernel
theorem dL_law_476 : decode cL_law 476 = .ok (.invokevirtual 32, 3) := by decide +kernel
theorem dL_law_479 : decode cL_law 479 = .ok (.pop, 1) := by decide +kernel
theorem dL_law_480 : decode cL_law 480 = .ok (.aload_n 2, 1) := by decide +kernel
theorem dL_law_481 : decode cL_law 481 = .ok (.aload_n 0, 1) := by decide +kernel
theorem dL_law_482 : decode cL_law 482 = .ok (.iload_n 3, 1) := by decide +kernel
theorem dL_law_483 : decode cL_law 483 = .ok (.iconst 1, 1) := by decide +kernel
theorem dL_law_484 : decode cL_law 484 = .ok (.iadd, 1) := by decide +kernel
theorem dL_law_485 : decode cL_law 485 = .ok (.iaload, 1) := by decide +kernel
theorem dL_law_486 : decode cL_law 486 = .ok (.invokevirtual 35, 3) := by decide +kernel
theorem dL_law_489 : decode cL_law 489 = .ok (.pop, 1) := by decide +kernel
theorem dL_law_490 : decode cL_law 490 = .ok (.goto 1903, 3) := by decide +kernel
theorem dL_law_493 : decode cL_law 493 = .ok (.aload_n 1, 1) := by decide +kernel
theorem dL_law_494 : decode cL_law 494 = .ok (.aload_n 0, 1) := by decide +kernel
theorem dL_law_495 : decode cL_law 495 = .ok (.iload_n 3, 1) := by decide +kernel
theorem dL_law_496 : decode cL_law 496 = .ok (.iconst 1, 1) := by decide +kernel
theorem dL_law_497 : decode cL_law 497 = .ok (.iadd, 1) := by decide +kernel
theorem dL_law_498 : decode cL_law 498 = .ok (.iaload, 1) := by decide +kernel
theorem dL_law_499 : decode cL_law 499 = .ok (.invokevirtual 36, 3) := by decide +kernel
theorem dL_law_502 : decode cL_law 502 = .ok (.pop, 1) := by decide +kernel
theorem dL_law_503 : decode cL_law 503 = .ok (.aload_n 2, 1) := by decide +kernel
theorem dL_law_504 : decode cL_law 504 = .ok (.aload_n 0, 1) := by decide +kernel
theorem dL_law_505 : decode cL_law 505 = .ok (.iload_n 3, 1) := by decide +kernel
theorem dL_law_506 : decode cL_law 506 = .ok (.iconst 1, 1) := by decide +kernel
theorem dL_law_507 : decode cL_law 507 = .ok (.iadd, 1) := by decide +kernel
theorem dL_law_508 : decode cL_law 508 = .ok (.iaload, 1) := by decide +kernel
theorem dL_law_509 : decode cL_law 509 = .ok (.invokevirtual 39, 3) := by decide +kernel
theorem dL_law_512 : decode cL_law 512 = .ok (.pop, 1) := by decide +kernel
theorem dL_law_513 : decode cL_law 513 = .ok (.goto 1880, 3) := by decide +kernel
theorem dL_law_516 : decode cL_law 516 = .ok (.aload_n 1, 1) := by decide +kernel
theorem dL_law_517 : decode cL_law 517 = .ok (.aload_n 0, 1) := by decide +kernel
theorem dL_law_518 : decode cL_law 518 = .ok (.iload_n 3, 1) := by decide +kernel
theorem dL_law_519 : decode cL_law 519 = .ok (.iconst 1, 1) := by decide +kernel
theorem dL_law_520 : decode cL_law 520 = .ok (.iadd, 1) := by decide +kernel
theorem dL_law_521 : decode cL_law 521 = .ok (.iaload, 1) := by decide +kernel
theorem dL_law_522 : decode cL_law 522 = .ok (.aload_n 0, 1) := by decide +kernel
theorem dL_law_523 : decode cL_law 523 = .ok (.iload_n 3, 1) := by decide +kernel
theorem dL_law_524 : decode cL_law 524 = .ok (.iconst 2, 1) := by decide +kernel
theorem dL_law_525 : decode cL_law 525 = .ok (.iadd, 1) := by decide +kernel
theorem dL_law_526 : decode cL_law 526 = .ok (.iaload, 1) := by decide +kernel
theorem dL_law_527 : decode cL_law 527 = .ok (.invokevirtual 40, 3) := by decide +kernel
theorem dL_law_530 : decode cL_law 530 = .ok (.pop, 1) := by decide +kernel
theorem dL_law_531 : decode cL_law 531 = .ok (.aload_n 2, 1) := by decide +kernel
theorem dL_law_532 : decode cL_law 532 = .ok (.aload_n 0, 1) := by decide +kernel
theorem dL_law_533 : decode cL_law 533 = .ok (.iload_n 3, 1) := by decide +kernel
theorem dL_law_534 : decode cL_law 534 = .ok (.iconst 1, 1) := by decide +kernel
theorem dL_law_535 : decode cL_law 535 = .ok (.iadd, 1) := by decide +kernel
theorem dL_law_536 : decode cL_law 536 = .ok (.iaload, 1) := by decide +kernel
theorem dL_law_537 : decode cL_law 537 = .ok (.aload_n 0, 1) := by decide +kernel
theorem dL_law_538 : decode cL_law 538 = .ok (.iload_n 3, 1) := by decide +kernel
theorem dL_law_539 : decode cL_law 539 = .ok (.iconst 2, 1) := by decide +kernel
theorem dL_law_540 : decode cL_law 540 = .ok (.iadd, 1) := by decide +kernel
theorem dL_law_541 : decode cL_law 541 = .ok (.iaload, 1) := by decide +kernel
theorem dL_law_542 : decode cL_law 542 = .ok (.invokevirtual 44, 3) := by decide +kernel
theorem dL_law_545 : decode cL_law 545 = .ok (.pop, 1) := by decide +kernel
theorem dL_law_546 : decode cL_law 546 = .ok (.goto 1847, 3) := by decide +kernel
theorem dL_law_549 : decode cL_law 549 = .ok (.aload_n 1, 1) := by decide +kernel
theorem dL_law_550 : decode cL_law 550 = .ok (.aload_n 0, 1) := by decide +kernel
theorem dL_law_551 : decode cL_law 551 = .ok (.iload_n 3, 1) := by decide +kernel
theorem dL_law_552 : decode cL_law 552 = .ok (.iconst 1, 1) := by decide +kernel
theorem dL_law_553 : decode cL_law 553 = .ok (.iadd, 1) := by decide +kernel
theorem dL_law_554 : decode cL_law 554 = .ok (.iaload, 1) := by decide +kernel
theorem dL_law_555 : decode cL_law 555 = .ok (.invokevirtual 45, 3) := by decide +kernel
theorem dL_law_558 : decode cL_law 558 = .ok (.pop, 1) := by decide +kernel
theorem dL_law_559 : decode cL_law 559 = .ok (.aload_n 2, 1) := by decide +kernel
theorem dL_law_560 : decode cL_law 560 = .ok (.aload_n 0, 1) := by decide +kernel
theorem dL_law_561 : decode cL_law 561 = .ok (.iload_n 3, 1) := by decide +kernel
theorem dL_law_562 : decode cL_law 562 = .ok (.iconst 1, 1) := by decide +kernel
theorem dL_law_563 : decode cL_law 563 = .ok (.iadd, 1) := by decide +kernel
theorem dL_law_564 : decode cL_law 564 = .ok (.iaload, 1) := by decide +kernel
theorem dL_law_565 : decode cL_law 565 = .ok (.invokevirtual 48, 3) := by decide +kernel
theorem dL_law_568 : decode cL_law 568 = .ok (.pop, 1) := by decide +kernel
theorem dL_law_569 : decode cL_law 569 = .ok (.goto 1824, 3) := by decide +kernel
theorem dL_law_572 : decode cL_law 572 = .ok (.aload_n 1, 1) := by decide +kernel
theorem dL_law_573 : decode cL_law 573 = .ok (.aload_n 0, 1) := by decide +kernel
theorem dL_law_574 : decode cL_law 574 = .ok (.iload_n 3, 1) := by decide +kernel
theorem dL_law_575 : decode cL_law 575 = .ok (.iconst 1, 1) := by decide +kernel
theorem dL_law_576 : decode cL_law 576 = .ok (.iadd, 1) := by decide +kernel
theorem dL_law_577 : decode cL_law 577 = .ok (.iaload, 1) := by decide +kernel
theorem dL_law_578 : decode cL_law 578 = .ok (.aload_n 0, 1) := by decide +kernel
theorem dL_law_579 : decode cL_law 579 = .ok (.iload_n 3, 1) := by decide +kernel
theorem dL_law_580 : decode cL_law 580 = .ok (.iconst 2, 1) := by decide +kernel
theorem dL_law_581 : decode cL_law 581 = .ok (.iadd, 1) := by decide +kernel
theorem dL_law_582 : decode cL_law 582 = .ok (.iaload, 1) := by decide +kernel
theorem dL_law_583 : decode cL_law 583 = .ok (.invokevirtual 49, 3) := by decide +kernel
theorem dL_law_586 : decode cL_law 586 = .ok (.pop, 1) := by decide +kernel
theorem dL_law_587 : decode cL_law 587 = .ok (.aload_n 2, 1) := by decide +kernel
theorem dL_law_588 : decode cL_law 588 = .ok (.aload_n 0, 1) := by decide +kernel
theorem dL_law_589 : decode cL_law 589 = .ok (.iload_n 3, 1) := by decide +kernel
theorem dL_law_590 : decode cL_law 590 = .ok (.iconst 1, 1) := by decide +kernel
theorem dL_law_591 : decode cL_law 591 = .ok (.iadd, 1) := by decide +kernel
theorem dL_law_592 : decode cL_law 592 = .ok (.iaload, 1) := by decide +kernel
theorem dL_law_593 : decode cL_law 593 = .ok (.aload_n 0, 1) := by decide +kernel
theorem dL_law_594 : decode cL_law 594 = .ok (.iload_n 3, 1) := by decide +kernel
theorem dL_law_595 : decode cL_law 595 = .ok (.iconst 2, 1) := by decide +kernel
theorem dL_law_596 : decode cL_law 596 = .ok (.iadd, 1) := by decide +kernel
theorem dL_law_597 : decode cL_law 597 = .ok (.iaload, 1) := by decide +kernel
theorem dL_law_598 : decode cL_law 598 = .ok (.invokevirtual 52, 3) := by decide +kernel
theorem dL_law_601 : decode cL_law 601 = .ok (.pop, 1) := by decide +kernel
theorem dL_law_602 : decode cL_law 602 = .ok (.goto 1791, 3) := by decide +kernel
theorem dL_law_605 : decode cL_law 605 = .ok (.aload_n 1, 1) := by decide +kernel
theorem dL_law_606 : decode cL_law 606 = .ok (.aload_n 0, 1) := by decide +kernel
theorem dL_law_607 : decode cL_law 607 = .ok (.iload_n 3, 1) := by decide +kernel
theorem dL_law_608 : decode cL_law 608 = .ok (.iconst 1, 1) := by decide +kernel
theorem dL_law_609 : decode cL_law 609 = .ok (.iadd, 1) := by decide +kernel
theorem dL_law_610 : decode cL_law 610 = .ok (.iaload, 1) := by decide +kernel
theorem dL_law_611 : decode cL_law 611 = .ok (.aload_n 0, 1) := by decide +kernel
theorem dL_law_612 : decode cL_law 612 = .ok (.iload_n 3, 1) := by decide +kernel
theorem dL_law_613 : decode cL_law 613 = .ok (.iconst 2, 1) := by decide +kernel
theorem dL_law_614 : decode cL_law 614 = .ok (.iadd, 1) := by decide +kernel
theorem dL_law_615 : decode cL_law 615 = .ok (.iaload, 1) := by decide +kernel
theorem dL_law_616 : decode cL_law 616 = .ok (.invokevirtual 53, 3) := by decide +kernel
theorem dL_law_619 : decode cL_law 619 = .ok (.pop, 1) := by decide +kernel
theorem dL_law_620 : decode cL_law 620 = .ok (.aload_n 2, 1) := by decide +kernel
theorem dL_law_621 : decode cL_law 621 = .ok (.aload_n 0, 1) := by decide +kernel
theorem dL_law_622 : decode cL_law 622 = .ok (.iload_n 3, 1) := by decide +kernel
theorem dL_law_623 : decode cL_law 623 = .ok (.iconst 1, 1) := by decide +kernel
theorem dL_law_624 : decode cL_law 624 = .ok (.iadd, 1) := by decide +kernel
theorem dL_law_625 : decode cL_law 625 = .ok (.iaload, 1) := by decide +kernel
theorem dL_law_626 : decode cL_law 626 = .ok (.aload_n 0, 1) := by decide +kernel
theorem dL_law_627 : decode cL_law 627 = .ok (.iload_n 3, 1) := by decide +kernel
theorem dL_law_628 : decode cL_law 628 = .ok (.iconst 2, 1) := by decide +kernel
theorem dL_law_629 : decode cL_law 629 = .ok (.iadd, 1) := by decide +kernel
theorem dL_law_630 : decode cL_law 630 = .ok (.iaload, 1) := by decide +kernel
theorem dL_law_631 : decode cL_law 631 = .ok (.invokevirtual 56, 3) := by decide +kernel
theorem dL_law_634 : decode cL_law 634 = .ok (.pop, 1) := by decide +kernel
theorem dL_law_635 : decode cL_law 635 = .ok (.goto 1758, 3) := by decide +kernel
theorem dL_law_638 : decode cL_law 638 = .ok (.aload_n 1, 1) := by decide +kernel
theorem dL_law_639 : decode cL_law 639 = .ok (.aload_n 0, 1) := by decide +kernel
theorem dL_law_640 : decode cL_law 640 = .ok (.iload_n 3, 1) := by decide +kernel
theorem dL_law_641 : decode cL_law 641 = .ok (.iconst 1, 1) := by decide +kernel
theorem dL_law_642 : decode cL_law 642 = .ok (.iadd, 1) := by decide +kernel
theorem dL_law_643 : decode cL_law 643 = .ok (.iaload, 1) := by decide +kernel
theorem dL_law_644 : decode cL_law 644 = .ok (.aload_n 0, 1) := by decide +kernel
theorem dL_law_645 : decode cL_law 645 = .ok (.iload_n 3, 1) := by decide +kernel
theorem dL_law_646 : decode cL_law 646 = .ok (.iconst 2, 1) := by decide +kernel
theorem dL_law_647 : decode cL_law 647 = .ok (.iadd, 1) := by decide +kernel
theorem dL_law_648 : decode cL_law 648 = .ok (.iaload, 1) := by decide +kernel
theorem dL_law_649 : decode cL_law 649 = .ok (.invokevirtual 57, 3) := by decide +kernel
theorem dL_law_652 : decode cL_law 652 = .ok (.pop, 1) := by decide +kernel
theorem dL_law_653 : decode cL_law 653 = .ok (.aload_n 2, 1) := by decide +kernel
theorem dL_law_654 : decode cL_law 654 = .ok (.aload_n 0, 1) := by decide +kernel
theorem dL_law_655 : decode cL_law 655 = .ok (.iload_n 3, 1) := by decide +kernel
theorem dL_law_656 : decode cL_law 656 = .ok (.iconst 1, 1) := by decide +kernel
theorem dL_law_657 : decode cL_law 657 = .ok (.iadd, 1) := by decide +kernel
theorem dL_law_658 : decode cL_law 658 = .ok (.iaload, 1) := by decide +kernel
theorem dL_law_659 : decode cL_law 659 = .ok (.aload_n 0, 1) := by decide +kernel
theorem dL_law_660 : decode cL_law 660 = .ok (.iload_n 3, 1) := by decide +kernel
theorem dL_law_661 : decode cL_law 661 = .ok (.iconst 2, 1) := by decide +kernel
theorem dL_law_662 : decode cL_law 662 = .ok (.iadd, 1) := by decide +kernel
theorem dL_law_663 : decode cL_law 663 = .ok (.iaload, 1) := by decide +kernel
theorem dL_law_664 : decode cL_law 664 = .ok (.invokevirtual 60, 3) := by decide +kernel
theorem dL_law_667 : decode cL_law 667 = .ok (.pop, 1) := by decide +kernel
theorem dL_law_668 : decode cL_law 668 = .ok (.goto 1725, 3) := by decide +kernel
theorem dL_law_671 : decode cL_law 671 = .ok (.aload_n 1, 1) := by decide +kernel
theorem dL_law_672 : decode cL_law 672 = .ok (.aload_n 0, 1) := by decide +kernel
theorem dL_law_673 : decode cL_law 673 = .ok (.iload_n 3, 1) := by decide +kernel
theorem dL_law_674 : decode cL_law 674 = .ok (.iconst 1, 1) := by decide +kernel
theorem dL_law_675 : decode cL_law 675 = .ok (.iadd, 1) := by decide +kernel
theorem dL_law_676 : decode cL_law 676 = .ok (.iaload, 1) := by decide +kernel
theorem dL_law_677 : decode cL_law 677 = .ok (.aload_n 0, 1) := by decide +kernel
theorem dL_law_678 : decode cL_law 678 = .ok (.iload_n 3, 1) := by decide +kernel
theorem dL_law_679 : decode cL_law 679 = .ok (.iconst 2, 1) := by decide +kernel
theorem dL_law_680 : decode cL_law 680 = .ok (.iadd, 1) := by decide +kernel
theorem dL_law_681 : decode cL_law 681 = .ok (.iaload, 1) := by decide +kernel
theorem dL_law_682 : decode cL_law 682 = .ok (.invokevirtual 61, 3) := by decide +kernel
theorem dL_law_685 : decode cL_law 685 = .ok (.pop, 1) := by decide +kernel
theorem dL_law_686 : decode cL_law 686 = .ok (.aload_n 2, 1) := by decide +kernel
theorem dL_law_687 : decode cL_law 687 = .ok (.aload_n 0, 1) := by decide +kernel
theorem dL_law_688 : decode cL_law 688 = .ok (.iload_n 3, 1) := by decide +kernel
theorem dL_law_689 : decode cL_law 689 = .ok (.iconst 1, 1) := by decide +kernel
theorem dL_law_690 : decode cL_law 690 = .ok (.iadd, 1) := by decide +kernel
theorem dL_law_691 : decode cL_law 691 = .ok (.iaload, 1) := by decide +kernel
theorem dL_law_692 : decode cL_law 692 = .ok (.aload_n 0, 1) := by decide +kernel
theorem dL_law_693 : decode cL_law 693 = .ok (.iload_n 3, 1) := by decide +kernel
theorem dL_law_694 : decode cL_law 694 = .ok (.iconst 2, 1) := by decide +kernel
theorem dL_law_695 : decode cL_law 695 = .ok (.iadd, 1) := by decide +kernel
theorem dL_law_696 : decode cL_law 696 = .ok (.iaload, 1) := by decide +kernel
theorem dL_law_697 : decode cL_law 697 = .ok (.invokevirtual 64, 3) := by decide +kernel
theorem dL_law_700 : decode cL_law 700 = .ok (.pop, 1) := by decide +kernel
theorem dL_law_701 : decode cL_law 701 = .ok (.goto 1692, 3) := by decide +kernel
theorem dL_law_704 : decode cL_law 704 = .ok (.aload_n 1, 1) := by decide +kernel
theorem dL_law_705 : decode cL_law 705 = .ok (.aload_n 0, 1) := by decide +kernel
theorem dL_law_706 : decode cL_law 706 = .ok (.iload_n 3, 1) := by decide +kernel
theorem dL_law_707 : decode cL_law 707 = .ok (.iconst 1, 1) := by decide +kernel
theorem dL_law_708 : decode cL_law 708 = .ok (.iadd, 1) := by decide +kernel
theorem dL_law_709 : decode cL_law 709 = .ok (.iaload, 1) := by decide +kernel
theorem dL_law_710 : decode cL_law 710 = .ok (.invokevirtual 65, 3) := by decide +kernel
theorem dL_law_713 : decode cL_law 713 = .ok (.pop, 1) := by decide +kernel
theorem dL_law_714 : decode cL_law 714 = .ok (.aload_n 2, 1) := by decide +kernel
theorem dL_law_715 : decode cL_law 715 = .ok (.aload_n 0, 1) := by decide +kernel
theorem dL_law_716 : decode cL_law 716 = .ok (.iload_n 3, 1) := by decide +kernel
theorem dL_law_717 : decode cL_law 717 = .ok (.iconst 1, 1) := by decide +kernel
theorem dL_law_718 : decode cL_law 718 = .ok (.iadd, 1) := by decide +kernel
theorem dL_law_719 : decode cL_law 719 = .ok (.iaload, 1) := by decide +kernel
theorem dL_law_720 : decode cL_law 720 = .ok (.invokevirtual 68, 3) := by decide +kernel
theorem dL_law_723 : decode cL_law 723 = .ok (.pop, 1) := by decide +kernel
theorem dL_law_724 : decode cL_law 724 = .ok (.goto 1669, 3) := by decide +kernel
theorem dL_law_727 : decode cL_law 727 = .ok (.aload_n 1, 1) := by decide +kernel
theorem dL_law_728 : decode cL_law 728 = .ok (.aload_n 0, 1) := by decide +kernel
theorem dL_law_729 : decode cL_law 729 = .ok (.iload_n 3, 1) := by decide +kernel
theorem dL_law_730 : decode cL_law 730 = .ok (.iconst 1, 1) := by decide +kernel
theorem dL_law_731 : decode cL_law 731 = .ok (.iadd, 1) := by decide +kernel
theorem dL_law_732 : decode cL_law 732 = .ok (.iaload, 1) := by decide +kernel
theorem dL_law_733 : decode cL_law 733 = .ok (.invokevirtual 69, 3) := by decide +kernel
theorem dL_law_736 : decode cL_law 736 = .ok (.pop, 1) := by decide +kernel
theorem dL_law_737 : decode cL_law 737 = .ok (.aload_n 2, 1) := by decide +kernel
theorem dL_law_738 : decode cL_law 738 = .ok (.aload_n 0, 1) := by decide +kernel
theorem dL_law_739 : decode cL_law 739 = .ok (.iload_n 3, 1) := by decide +kernel
theorem dL_law_740 : decode cL_law 740 = .ok (.iconst 1, 1) := by decide +kernel
theorem dL_law_741 : decode cL_law 741 = .ok (.iadd, 1) := by decide +kernel
theorem dL_law_742 : decode cL_law 742 = .ok (.iaload, 1) := by decide +kernel
theorem dL_law_743 : decode cL_law 743 = .ok (.invokevirtual 72, 3) := by decide +kernel
theorem dL_law_746 : decode cL_law 746 = .ok (.pop, 1) := by decide +kernel
theorem dL_law_747 : decode cL_law 747 = .ok (.goto 1646, 3) := by decide +kernel
theorem dL_law_750 : decode cL_law 750 = .ok (.aload_n 1, 1) := by decide +kernel
theorem dL_law_751 : decode cL_law 751 = .ok (.aload_n 0, 1) := by decide +kernel
theorem dL_law_752 : decode cL_law 752 = .ok (.iload_n 3, 1) := by decide +kernel
theorem dL_law_753 : decode cL_law 753 = .ok (.iconst 1, 1) := by decide +kernel
theorem dL_law_754 : decode cL_law 754 = .ok (.iadd, 1) := by decide +kernel
theorem dL_law_755 : decode cL_law 755 = .ok (.iaload, 1) := by decide +kernel
theorem dL_law_756 : decode cL_law 756 = .ok (.aload_n 0, 1) := by decide +kernel
theorem dL_law_757 : decode cL_law 757 = .ok (.iload_n 3, 1) := by decide +kernel
theorem dL_law_758 : decode cL_law 758 = .ok (.iconst 2, 1) := by decide +kernel
theorem dL_law_759 : decode cL_law 759 = .ok (.iadd, 1) := by decide +kernel
theorem dL_law_760 : decode cL_law 760 = .ok (.iaload, 1) := by decide +kernel
theorem dL_law_761 : decode cL_law 761 = .ok (.invokevirtual 73, 3) := by decide +kernel
theorem dL_law_764 : decode cL_law 764 = .ok (.pop, 1) := by decide +kernel
theorem dL_law_765 : decode cL_law 765 = .ok (.aload_n 2, 1) := by decide +kernel
theorem dL_law_766 : decode cL_law 766 = .ok (.aload_n 0, 1) := by decide +kernel
theorem dL_law_767 : decode cL_law 767 = .ok (.iload_n 3, 1) := by decide +kernel
theorem dL_law_768 : decode cL_law 768 = .ok (.iconst 1, 1) := by decide +kernel
theorem dL_law_769 : decode cL_law 769 = .ok (.iadd, 1) := by decide +kernel
theorem dL_law_770 : decode cL_law 770 = .ok (.iaload, 1) := by decide +kernel
theorem dL_law_771 : decode cL_law 771 = .ok (.aload_n 0, 1) := by decide +kernel
theorem dL_law_772 : decode cL_law 772 = .ok (.iload_n 3, 1) := by decide +kernel
theorem dL_law_773 : decode cL_law 773 = .ok (.iconst 2, 1) := by decide +kernel
theorem dL_law_774 : decode cL_law 774 = .ok (.iadd, 1) := by decide +kernel
theorem dL_law_775 : decode cL_law 775 = .ok (.iaload, 1) := by decide +kernel
theorem dL_law_776 : decode cL_law 776 = .ok (.invokevirtual 76, 3) := by decide +kernel
theorem dL_law_779 : decode cL_law 779 = .ok (.pop, 1) := by decide +kernel
theorem dL_law_780 : decode cL_law 780 = .ok (.goto 1613, 3) := by decide +kernel
theorem dL_law_783 : decode cL_law 783 = .ok (.aload_n 1, 1) := by decide +kernel
theorem dL_law_784 : decode cL_law 784 = .ok (.aload_n 0, 1) := by decide +kernel
theorem dL_law_785 : decode cL_law 785 = .ok (.iload_n 3, 1) := by decide +kernel
theorem dL_law_786 : decode cL_law 786 = .ok (.iconst 1, 1) := by decide +kernel
theorem dL_law_787 : decode cL_law 787 = .ok (.iadd, 1) := by decide +kernel
theorem dL_law_788 : decode cL_law 788 = .ok (.iaload, 1) := by decide +kernel
theorem dL_law_789 : decode cL_law 789 = .ok (.invokevirtual 77, 3) := by decide +kernel
theorem dL_law_792 : decode cL_law 792 = .ok (.pop, 1) := by decide +kernel
theorem dL_law_793 : decode cL_law 793 = .ok (.aload_n 2, 1) := by decide +kernel
theorem dL_law_794 : decode cL_law 794 = .ok (.aload_n 0, 1) := by decide +kernel
theorem dL_law_795 : decode cL_law 795 = .ok (.iload_n 3, 1) := by decide +kernel
theorem dL_law_796 : decode cL_law 796 = .ok (.iconst 1, 1) := by decide +kernel
theorem dL_law_797 : decode cL_law 797 = .ok (.iadd, 1) := by decide +kernel
theorem dL_law_798 : decode cL_law 798 = .ok (.iaload, 1) := by decide +kernel
theorem dL_law_799 : decode cL_law 799 = .ok (.invokevirtual 80, 3) := by decide +kernel
theorem dL_law_802 : decode cL_law 802 = .ok (.pop, 1) := by decide +kernel
theorem dL_law_803 : decode cL_law 803 = .ok (.goto 1590, 3) := by decide +kernel
theorem dL_law_806 : decode cL_law 806 = .ok (.aload_n 1, 1) := by decide +kernel
theorem dL_law_807 : decode cL_law 807 = .ok (.aload_n 0, 1) := by decide +kernel
theorem dL_law_808 : decode cL_law 808 = .ok (.iload_n 3, 1) := by decide +kernel
theorem dL_law_809 : decode cL_law 809 = .ok (.iconst 1, 1) := by decide +kernel
theorem dL_law_810 : decode cL_law 810 = .ok (.iadd, 1) := by decide +kernel
theorem dL_law_811 : decode cL_law 811 = .ok (.iaload, 1) := by decide +kernel
theorem dL_law_812 : decode cL_law 812 = .ok (.invokevirtual 81, 3) := by decide +kernel
theorem dL_law_815 : decode cL_law 815 = .ok (.pop, 1) := by decide +kernel
theorem dL_law_816 : decode cL_law 816 = .ok (.aload_n 2, 1) := by decide +kernel
theorem dL_law_817 : decode cL_law 817 = .ok (.aload_n 0, 1) := by decide +kernel
theorem dL_law_818 : decode cL_law 818 = .ok (.iload_n 3, 1) := by decide +kernel
theorem dL_law_819 : decode cL_law 819 = .ok (.iconst 1, 1) := by decide +kernel
theorem dL_law_820 : decode cL_law 820 = .ok (.iadd, 1) := by decide +kernel
theorem dL_law_821 : decode cL_law 821 = .ok (.iaload, 1) := by decide +kernel
theorem dL_law_822 : decode cL_law 822 = .ok (.invokevirtual 84, 3) := by decide +kernel
theorem dL_law_825 : decode cL_law 825 = .ok (.pop, 1) := by decide +kernel
theorem dL_law_826 : decode cL_law 826 = .ok (.goto 1567, 3) := by decide +kernel
theorem dL_law_829 : decode cL_law 829 = .ok (.aload_n 1, 1) := by decide +kernel
theorem dL_law_830 : decode cL_law 830 = .ok (.aload_n 0, 1) := by decide +kernel
theorem dL_law_831 : decode cL_law 831 = .ok (.iload_n 3, 1) := by decide +kernel
theorem dL_law_832 : decode cL_law 832 = .ok (.iconst 1, 1) := by decide +kernel
theorem dL_law_833 : decode cL_law 833 = .ok (.iadd, 1) := by decide +kernel
theorem dL_law_834 : decode cL_law 834 = .ok (.iaload, 1) := by decide +kernel
theorem dL_law_835 : decode cL_law 835 = .ok (.invokevirtual 85, 3) := by decide +kernel
theorem dL_law_838 : decode cL_law 838 = .ok (.pop, 1) := by decide +kernel
theorem dL_law_839 : decode cL_law 839 = .ok (.aload_n 2, 1) := by decide +kernel
theorem dL_law_840 : decode cL_law 840 = .ok (.aload_n 0, 1) := by decide +kernel
theorem dL_law_841 : decode cL_law 841 = .ok (.iload_n 3, 1) := by decide +kernel
theorem dL_law_842 : decode cL_law 842 = .ok (.iconst 1, 1) := by decide +kernel
theorem dL_law_843 : decode cL_law 843 = .ok (.iadd, 1) := by decide +kernel
theorem dL_law_844 : decode cL_law 844 = .ok (.iaload, 1) := by decide +kernel
theorem dL_law_845 : decode cL_law 845 = .ok (.invokevirtual 88, 3) := by decide +kernel
theorem dL_law_848 : decode cL_law 848 = .ok (.pop, 1) := by decide +kernel
theorem dL_law_849 : decode cL_law 849 = .ok (.goto 1544, 3) := by decide +kernel
theorem dL_law_852 : decode cL_law 852 = .ok (.aload_n 1, 1) := by decide +kernel
theorem dL_law_853 : decode cL_law 853 = .ok (.aload_n 0, 1) := by decide +kernel
theorem dL_law_854 : decode cL_law 854 = .ok (.iload_n 3, 1) := by decide +kernel
theorem dL_law_855 : decode cL_law 855 = .ok (.iconst 1, 1) := by decide +kernel
theorem dL_law_856 : decode cL_law 856 = .ok (.iadd, 1) := by decide +kernel
theorem dL_law_857 : decode cL_law 857 = .ok (.iaload, 1) := by decide +kernel
theorem dL_law_858 : decode cL_law 858 = .ok (.invokevirtual 89, 3) := by decide +kernel
theorem dL_law_861 : decode cL_law 861 = .ok (.pop, 1) := by decide +kernel
theorem dL_law_862 : decode cL_law 862 = .ok (.aload_n 2, 1) := by decide +kernel
theorem dL_law_863 : decode cL_law 863 = .ok (.aload_n 0, 1) := by decide +kernel
theorem dL_law_864 : decode cL_law 864 = .ok (.iload_n 3, 1) := by decide +kernel
theorem dL_law_865 : decode cL_law 865 = .ok (.iconst 1, 1) := by decide +kernel
theorem dL_law_866 : decode cL_law 866 = .ok (.iadd, 1) := by decide +kernel
theorem dL_law_867 : decode cL_law 867 = .ok (.iaload, 1) := by decide +kernel
theorem dL_law_868 : decode cL_law 868 = .ok (.invokevirtual 92, 3) := by decide +kernel
theorem dL_law_871 : decode cL_law 871 = .ok (.pop, 1) := by decide +kernel
theorem dL_law_872 : decode cL_law 872 = .ok (.goto 1521, 3) := by decide +kernel
theorem dL_law_875 : decode cL_law 875 = .ok (.aload_n 1, 1) := by decide +kernel
theorem dL_law_876 : decode cL_law 876 = .ok (.aload_n 0, 1) := by decide +kernel
theorem dL_law_877 : decode cL_law 877 = .ok (.iload_n 3, 1) := by decide +kernel
theorem dL_law_878 : decode cL_law 878 = .ok (.iconst 1, 1) := by decide +kernel
theorem dL_law_879 : decode cL_law 879 = .ok (.iadd, 1) := by decide +kernel
theorem dL_law_880 : decode cL_law 880 = .ok (.iaload, 1) := by decide +kernel
theorem dL_law_881 : decode cL_law 881 = .ok (.invokevirtual 93, 3) := by decide +kernel
theorem dL_law_884 : decode cL_law 884 = .ok (.pop, 1) := by decide +kernel
theorem dL_law_885 : decode cL_law 885 = .ok (.aload_n 2, 1) := by decide +kernel
theorem dL_law_886 : decode cL_law 886 = .ok (.aload_n 0, 1) := by decide +kernel
theorem dL_law_887 : decode cL_law 887 = .ok (.iload_n 3, 1) := by decide +kernel
theorem dL_law_888 : decode cL_law 888 = .ok (.iconst 1, 1) := by decide +kernel
theorem dL_law_889 : decode cL_law 889 = .ok (.iadd, 1) := by decide +kernel
theorem dL_law_890 : decode cL_law 890 = .ok (.iaload, 1) := by decide +kernel
theorem dL_law_891 : decode cL_law 891 = .ok (.invokevirtual 96, 3) := by decide +kernel
theorem dL_law_894 : decode cL_law 894 = .ok (.pop, 1) := by decide +kernel
theorem dL_law_895 : decode cL_law 895 = .ok (.goto 1498, 3) := by decide +kernel
theorem dL_law_898 : decode cL_law 898 = .ok (.aload_n 1, 1) := by decide +kernel
theorem dL_law_899 : decode cL_law 899 = .ok (.aload_n 0, 1) := by decide +kernel
theorem dL_law_900 : decode cL_law 900 = .ok (.iload_n 3, 1) := by decide +kernel
theorem dL_law_901 : decode cL_law 901 = .ok (.iconst 1, 1) := by decide +kernel
theorem dL_law_902 : decode cL_law 902 = .ok (.iadd, 1) := by decide +kernel
theorem dL_law_903 : decode cL_law 903 = .ok (.iaload, 1) := by decide +kernel
theorem dL_law_904 : decode cL_law 904 = .ok (.invokevirtual 97, 3) := by decide +kernel
theorem dL_law_907 : decode cL_law 907 = .ok (.pop, 1) := by decide +kernel
theorem dL_law_908 : decode cL_law 908 = .ok (.aload_n 2, 1) := by decide +kernel
theorem dL_law_909 : decode cL_law 909 = .ok (.aload_n 0, 1) := by decide +kernel
theorem dL_law_910 : decode cL_law 910 = .ok (.iload_n 3, 1) := by decide +kernel
theorem dL_law_911 : decode cL_law 911 = .ok (.iconst 1, 1) := by decide +kernel
theorem dL_law_912 : decode cL_law 912 = .ok (.iadd, 1) := by decide +kernel
theorem dL_law_913 : decode cL_law 913 = .ok (.iaload, 1) := by decide +kernel
theorem dL_law_914 : decode cL_law 914 = .ok (.invokevirtual 100, 3) := by decide +kernel
theorem dL_law_917 : decode cL_law 917 = .ok (.pop, 1) := by decide +kernel
theorem dL_law_918 : decode cL_law 918 = .ok (.goto 1475, 3) := by decide +kernel
theorem dL_law_921 : decode cL_law 921 = .ok (.aload_n 1, 1) := by decide +kernel
theorem dL_law_922 : decode cL_law 922 = .ok (.aload_n 0, 1) := by decide +kernel
theorem dL_law_923 : decode cL_law 923 = .ok (.iload_n 3, 1) := by decide +kernel
theorem dL_law_924 : decode cL_law 924 = .ok (.iconst 1, 1) := by decide +kernel
theorem dL_law_925 : decode cL_law 925 = .ok (.iadd, 1) := by decide +kernel
theorem dL_law_926 : decode cL_law 926 = .ok (.iaload, 1) := by decide +kernel
theorem dL_law_927 : decode cL_law 927 = .ok (.invokevirtual 101, 3) := by decide +kernel
theorem dL_law_930 : decode cL_law 930 = .ok (.pop, 1) := by decide +kernel
theorem dL_law_931 : decode cL_law 931 = .ok (.aload_n 2, 1) := by decide +kernel
theorem dL_law_932 : decode cL_law 932 = .ok (.aload_n 0, 1) := by decide +kernel
theorem dL_law_933 : decode cL_law 933 = .ok (.iload_n 3, 1) := by decide +kernel
theorem dL_law_934 : decode cL_law 934 = .ok (.iconst 1, 1) := by decide +kernel
theorem dL_law_935 : decode cL_law 935 = .ok (.iadd, 1) := by decide +kernel
theorem dL_law_936 : decode cL_law 936 = .ok (.iaload, 1) := by decide +kernel
theorem dL_law_937 : decode cL_law 937 = .ok (.invokevirtual 104, 3) := by decide +kernel
theorem dL_law_940 : decode cL_law 940 = .ok (.pop, 1) := by decide +kernel
theorem dL_law_941 : decode cL_law 941 = .ok (.goto 1452, 3) := by decide +kernel
theorem dL_law_944 : decode cL_law 944 = .ok (.aload_n 1, 1) := by decide +kernel
theorem dL_law_945 : decode cL_law 945 = .ok (.aload_n 0, 1) := by decide +kernel
theorem dL_law_946 : decode cL_law 946 = .ok (.iload_n 3, 1) := by decide +kernel
theorem dL_law_947 : decode cL_law 947 = .ok (.iconst 1, 1) := by decide +kernel
theorem dL_law_948 : decode cL_law 948 = .ok (.iadd, 1) := by decide +kernel
theorem dL_law_949 : decode cL_law 949 = .ok (.iaload, 1) := by decide +kernel
theorem dL_law_950 : decode cL_law 950 = .ok (.aload_n 0, 1) := by decide +kernel
theorem dL_law_951 : decode cL_law 951 = .ok (.iload_n 3, 1) := by decide +kernel
theorem dL_law_952 : decode cL_law 952 = .ok (.iconst 2, 1) := by decide +kernel
theorem dL_law_953 : decode cL_law 953 = .ok (.iadd, 1) := by decide +kernel
theorem dL_law_954 : decode cL_law 954 = .ok (.iaload, 1) := by decide +kernel
theorem dL_law_955 : decode cL_law 955 = .ok (.invokevirtual 105, 3) := by decide +kernel
theorem dL_law_958 : decode cL_law 958 = .ok (.pop, 1) := by decide +kernel
theorem dL_law_959 : decode cL_law 959 = .ok (.aload_n 2, 1) := by decide +kernel
theorem dL_law_960 : decode cL_law 960 = .ok (.aload_n 0, 1) := by decide +kernel
theorem dL_law_961 : decode cL_law 961 = .ok (.iload_n 3, 1) := by decide +kernel
theorem dL_law_962 : decode cL_law 962 = .ok (.iconst 1, 1) := by decide +kernel
theorem dL_law_963 : decode cL_law 963 = .ok (.iadd, 1) := by decide +kernel
theorem dL_law_964 : decode cL_law 964 = .ok (.iaload, 1) := by decide +kernel
theorem dL_law_965 : decode cL_law 965 = .ok (.aload_n 0, 1) := by decide +kernel
theorem dL_law_966 : decode cL_law 966 = .ok (.iload_n 3, 1) := by decide +kernel
theorem dL_law_967 : decode cL_law 967 = .ok (.iconst 2, 1) := by decide +kernel
theorem dL_law_968 : decode cL_law 968 = .ok (.iadd, 1) := by decide +kernel
theorem dL_law_969 : decode cL_law 969 = .ok (.iaload, 1) := by decide +kernel
theorem dL_law_970 : decode cL_law 970 = .ok (.invokevirtual 108, 3) := by decide +kernel
theorem dL_law_973 : decode cL_law 973 = .ok (.pop, 1) := by decide +kernel
theorem dL_law_974 : decode cL_law 974 = .ok (.goto 1419, 3) := by decide +kernel
theorem dL_law_977 : decode cL_law 977 = .ok (.aload_n 1, 1) := by decide +kernel
theorem dL_law_978 : decode cL_law 978 = .ok (.aload_n 0, 1) := by decide +kernel
theorem dL_law_979 : decode cL_law 979 = .ok (.iload_n 3, 1) := by decide +kernel
theorem dL_law_980 : decode cL_law 980 = .ok (.iconst 1, 1) := by decide +kernel
theorem dL_law_981 : decode cL_law 981 = .ok (.iadd, 1) := by decide +kernel
theorem dL_law_982 : decode cL_law 982 = .ok (.iaload, 1) := by decide +kernel
theorem dL_law_983 : decode cL_law 983 = .ok (.invokevirtual 109, 3) := by decide +kernel
theorem dL_law_986 : decode cL_law 986 = .ok (.pop, 1) := by decide +kernel
theorem dL_law_987 : decode cL_law 987 = .ok (.aload_n 2, 1) := by decide +kernel
theorem dL_law_988 : decode cL_law 988 = .ok (.aload_n 0, 1) := by decide +kernel
theorem dL_law_989 : decode cL_law 989 = .ok (.iload_n 3, 1) := by decide +kernel
theorem dL_law_990 : decode cL_law 990 = .ok (.iconst 1, 1) := by decide +kernel
theorem dL_law_991 : decode cL_law 991 = .ok (.iadd, 1) := by decide +kernel
theorem dL_law_992 : decode cL_law 992 = .ok (.iaload, 1) := by decide +kernel
theorem dL_law_993 : decode cL_law 993 = .ok (.invokevirtual 112, 3) := by decide +kernel
theorem dL_law_996 : decode cL_law 996 = .ok (.pop, 1) := by decide +kernel
theorem dL_law_997 : decode cL_law 997 = .ok (.goto 1396, 3) := by decide +kernel
theorem dL_law_1000 : decode cL_law 1000 = .ok (.aload_n 1, 1) := by decide +kernel
theorem dL_law_1001 : decode cL_law 1001 = .ok (.aload_n 0, 1) := by decide +kernel
theorem dL_law_1002 : decode cL_law 1002 = .ok (.iload_n 3, 1) := by decide +kernel
theorem dL_law_1003 : decode cL_law 1003 = .ok (.iconst 1, 1) := by decide +kernel
theorem dL_law_1004 : decode cL_law 1004 = .ok (.iadd, 1) := by decide +kernel
theorem dL_law_1005 : decode cL_law 1005 = .ok (.iaload, 1) := by decide +kernel
theorem dL_law_1006 : decode cL_law 1006 = .ok (.invokevirtual 113, 3) := by decide +kernel
theorem dL_law_1009 : decode cL_law 1009 = .ok (.pop, 1) := by decide +kernel
theorem dL_law_1010 : decode cL_law 1010 = .ok (.aload_n 2, 1) := by decide +kernel
theorem dL_law_1011 : decode cL_law 1011 = .ok (.aload_n 0, 1) := by decide +kernel
theorem dL_law_1012 : decode cL_law 1012 = .ok (.iload_n 3, 1) := by decide +kernel
theorem dL_law_1013 : decode cL_law 1013 = .ok (.iconst 1, 1) := by decide +kernel
theorem dL_law_1014 : decode cL_law 1014 = .ok (.iadd, 1) := by decide +kernel
theorem dL_law_1015 : decode cL_law 1015 = .ok (.iaload, 1) := by decide +kernel
theorem dL_law_1016 : decode cL_law 1016 = .ok (.invokevirtual 116, 3) := by decide +kernel
theorem dL_law_1019 : decode cL_law 1019 = .ok (.pop, 1) := by decide +kernel
theorem dL_law_1020 : decode cL_law 1020 = .ok (.goto 1373, 3) := by decide +kernel
theorem dL_law_1023 : decode cL_law 1023 = .ok (.aload_n 1, 1) := by decide +kernel
theorem dL_law_1024 : decode cL_law 1024 = .ok (.aload_n 0, 1) := by decide +kernel
theorem dL_law_1025 : decode cL_law 1025 = .ok (.iload_n 3, 1) := by decide +kernel
theorem dL_law_1026 : decode cL_law 1026 = .ok (.iconst 1, 1) := by decide +kernel
theorem dL_law_1027 : decode cL_law 1027 = .ok (.iadd, 1) := by decide +kernel
theorem dL_law_1028 : decode cL_law 1028 = .ok (.iaload, 1) := by decide +kernel
theorem dL_law_1029 : decode cL_law 1029 = .ok (.invokevirtual 117, 3) := by decide +kernel
theorem dL_law_1032 : decode cL_law 1032 = .ok (.pop, 1) := by decide +kernel
theorem dL_law_1033 : decode cL_law 1033 = .ok (.aload_n 2, 1) := by decide +kernel
theorem dL_law_1034 : decode cL_law 1034 = .ok (.aload_n 0, 1) := by decide +kernel
theorem dL_law_1035 : decode cL_law 1035 = .ok (.iload_n 3, 1) := by decide +kernel
theorem dL_law_1036 : decode cL_law 1036 = .ok (.iconst 1, 1) := by decide +kernel
theorem dL_law_1037 : decode cL_law 1037 = .ok (.iadd, 1) := by decide +kernel
theorem dL_law_1038 : decode cL_law 1038 = .ok (.iaload, 1) := by decide +kernel
theorem dL_law_1039 : decode cL_law 1039 = .ok (.invokevirtual 120, 3) := by decide +kernel
theorem dL_law_1042 : decode cL_law 1042 = .ok (.pop, 1) := by decide +kernel
theorem dL_law_1043 : decode cL_law 1043 = .ok (.goto 1350, 3) := by decide +kernel
theorem dL_law_1046 : decode cL_law 1046 = .ok (.aload_n 1, 1) := by decide +kernel
theorem dL_law_1047 : decode cL_law 1047 = .ok (.aload_n 0, 1) := by decide +kernel
theorem dL_law_1048 : decode cL_law 1048 = .ok (.iload_n 3, 1) := by decide +kernel
theorem dL_law_1049 : decode cL_law 1049 = .ok (.iconst 1, 1) := by decide +kernel
theorem dL_law_1050 : decode cL_law 1050 = .ok (.iadd, 1) := by decide +kernel
theorem dL_law_1051 : decode cL_law 1051 = .ok (.iaload, 1) := by decide +kernel
theorem dL_law_1052 : decode cL_law 1052 = .ok (.invokevirtual 121, 3) := by decide +kernel
theorem dL_law_1055 : decode cL_law 1055 = .ok (.pop, 1) := by decide +kernel
theorem dL_law_1056 : decode cL_law 1056 = .ok (.aload_n 2, 1) := by decide +kernel
theorem dL_law_1057 : decode cL_law 1057 = .ok (.aload_n 0, 1) := by decide +kernel
theorem dL_law_1058 : decode cL_law 1058 = .ok (.iload_n 3, 1) := by decide +kernel
theorem dL_law_1059 : decode cL_law 1059 = .ok (.iconst 1, 1) := by decide +kernel
theorem dL_law_1060 : decode cL_law 1060 = .ok (.iadd, 1) := by decide +kernel
theorem dL_law_1061 : decode cL_law 1061 = .ok (.iaload, 1) := by decide +kernel
theorem dL_law_1062 : decode cL_law 1062 = .ok (.invokevirtual 124, 3) := by decide +kernel
theorem dL_law_1065 : decode cL_law 1065 = .ok (.pop, 1) := by decide +kernel
theorem dL_law_1066 : decode cL_law 1066 = .ok (.goto 1327, 3) := by decide +kernel
theorem dL_law_1069 : decode cL_law 1069 = .ok (.aload_n 1, 1) := by decide +kernel
theorem dL_law_1070 : decode cL_law 1070 = .ok (.invokevirtual 125, 3) := by decide +kernel
theorem dL_law_1073 : decode cL_law 1073 = .ok (.pop, 1) := by decide +kernel
theorem dL_law_1074 : decode cL_law 1074 = .ok (.aload_n 2, 1) := by decide +kernel
theorem dL_law_1075 : decode cL_law 1075 = .ok (.invokevirtual 128, 3) := by decide +kernel
theorem dL_law_1078 : decode cL_law 1078 = .ok (.pop, 1) := by decide +kernel
theorem dL_law_1079 : decode cL_law 1079 = .ok (.goto 1314, 3) := by decide +kernel
theorem dL_law_1082 : decode cL_law 1082 = .ok (.aload_n 1, 1) := by decide +kernel
theorem dL_law_1083 : decode cL_law 1083 = .ok (.aload_n 0, 1) := by decide +kernel
theorem dL_law_1084 : decode cL_law 1084 = .ok (.iload_n 3, 1) := by decide +kernel
theorem dL_law_1085 : decode cL_law 1085 = .ok (.iconst 1, 1) := by decide +kernel
theorem dL_law_1086 : decode cL_law 1086 = .ok (.iadd, 1) := by decide +kernel
theorem dL_law_1087 : decode cL_law 1087 = .ok (.iaload, 1) := by decide +kernel
theorem dL_law_1088 : decode cL_law 1088 = .ok (.invokevirtual 129, 3) := by decide +kernel
theorem dL_law_1091 : decode cL_law 1091 = .ok (.pop, 1) := by decide +kernel
theorem dL_law_1092 : decode cL_law 1092 = .ok (.aload_n 2, 1) := by decide +kernel
theorem dL_law_1093 : decode cL_law 1093 = .ok (.aload_n 0, 1) := by decide +kernel
theorem dL_law_1094 : decode cL_law 1094 = .ok (.iload_n 3, 1) := by decide +kernel
theorem dL_law_1095 : decode cL_law 1095 = .ok (.iconst 1, 1) := by decide +kernel
theorem dL_law_1096 : decode cL_law 1096 = .ok (.iadd, 1) := by decide +kernel
theorem dL_law_1097 : decode cL_law 1097 = .ok (.iaload, 1) := by decide +kernel
theorem dL_law_1098 : decode cL_law 1098 = .ok (.invokevirtual 132, 3) := by decide +kernel
theorem dL_law_1101 : decode cL_law 1101 = .ok (.pop, 1) := by decide +kernel
theorem dL_law_1102 : decode cL_law 1102 = .ok (.goto 1291, 3) := by decide +kernel
theorem dL_law_1105 : decode cL_law 1105 = .ok (.aload_n 1, 1) := by decide +kernel
theorem dL_law_1106 : decode cL_law 1106 = .ok (.invokevirtual 133, 3) := by decide +kernel
theorem dL_law_1109 : decode cL_law 1109 = .ok (.pop, 1) := by decide +kernel
theorem dL_law_1110 : decode cL_law 1110 = .ok (.aload_n 2, 1) := by decide +kernel
theorem dL_law_1111 : decode cL_law 1111 = .ok (.invokevirtual 136, 3) := by decide +kernel
theorem dL_law_1114 : decode cL_law 1114 = .ok (.pop, 1) := by decide +kernel
theorem dL_law_1115 : decode cL_law 1115 = .ok (.goto 1278, 3) := by decide +kernel
theorem dL_law_1118 : decode cL_law 1118 = .ok (.aload_n 1, 1) := by decide +kernel
theorem dL_law_1119 : decode cL_law 1119 = .ok (.aload_n 0, 1) := by decide +kernel
theorem dL_law_1120 : decode cL_law 1120 = .ok (.iload_n 3, 1) := by decide +kernel
theorem dL_law_1121 : decode cL_law 1121 = .ok (.iconst 1, 1) := by decide +kernel
theorem dL_law_1122 : decode cL_law 1122 = .ok (.iadd, 1) := by decide +kernel
theorem dL_law_1123 : decode cL_law 1123 = .ok (.iaload, 1) := by decide +kernel
theorem dL_law_1124 : decode cL_law 1124 = .ok (.aload_n 0, 1) := by decide +kernel
theorem dL_law_1125 : decode cL_law 1125 = .ok (.iload_n 3, 1) := by decide +kernel
theorem dL_law_1126 : decode cL_law 1126 = .ok (.iconst 2, 1) := by decide +kernel
theorem dL_law_1127 : decode cL_law 1127 = .ok (.iadd, 1) := by decide +kernel
theorem dL_law_1128 : decode cL_law 1128 = .ok (.iaload, 1) := by decide +kernel
theorem dL_law_1129 : decode cL_law 1129 = .ok (.invokevirtual 137, 3) := by decide +kernel
theorem dL_law_1132 : decode cL_law 1132 = .ok (.pop, 1) := by decide +kernel
theorem dL_law_1133 : decode cL_law 1133 = .ok (.aload_n 2, 1) := by decide +kernel
theorem dL_law_1134 : decode cL_law 1134 = .ok (.aload_n 0, 1) := by decide +kernel
theorem dL_law_1135 : decode cL_law 1135 = .ok (.iload_n 3, 1) := by decide +kernel
theorem dL_law_1136 : decode cL_law 1136 = .ok (.iconst 1, 1) := by decide +kernel
theorem dL_law_1137 : decode cL_law 1137 = .ok (.iadd, 1) := by decide +kernel
theorem dL_law_1138 : decode cL_law 1138 = .ok (.iaload, 1) := by decide +kernel
theorem dL_law_1139 : decode cL_law 1139 = .ok (.aload_n 0, 1) := by decide +kernel
theorem dL_law_1140 : decode cL_law 1140 = .ok (.iload_n 3, 1) := by decide +kernel
theorem dL_law_1141 : decode cL_law 1141 = .ok (.iconst 2, 1) := by decide +kernel
theorem dL_law_1142 : decode cL_law 1142 = .ok (.iadd, 1) := by decide +kernel
theorem dL_law_1143 : decode cL_law 1143 = .ok (.iaload, 1) := by decide +kernel
theorem dL_law_1144 : decode cL_law 1144 = .ok (.invokevirtual 140, 3) := by decide +kernel
theorem dL_law_1147 : decode cL_law 1147 = .ok (.pop, 1) := by decide +kernel
theorem dL_law_1148 : decode cL_law 1148 = .ok (.goto 1245, 3) := by decide +kernel
theorem dL_law_1151 : decode cL_law 1151 = .ok (.aload_n 1, 1) := by decide +kernel
theorem dL_law_1152 : decode cL_law 1152 = .ok (.invokevirtual 141, 3) := by decide +kernel
theorem dL_law_1155 : decode cL_law 1155 = .ok (.pop, 1) := by decide +kernel
theorem dL_law_1156 : decode cL_law 1156 = .ok (.aload_n 2, 1) := by decide +kernel
theorem dL_law_1157 : decode cL_law 1157 = .ok (.invokevirtual 144, 3) := by decide +kernel
theorem dL_law_1160 : decode cL_law 1160 = .ok (.pop, 1) := by decide +kernel
theorem dL_law_1161 : decode cL_law 1161 = .ok (.goto 1232, 3) := by decide +kernel
theorem dL_law_1164 : decode cL_law 1164 = .ok (.aload_n 1, 1) := by decide +kernel
theorem dL_law_1165 : decode cL_law 1165 = .ok (.invokevirtual 145, 3) := by decide +kernel
theorem dL_law_1168 : decode cL_law 1168 = .ok (.pop, 1) := by decide +kernel
theorem dL_law_1169 : decode cL_law 1169 = .ok (.aload_n 2, 1) := by decide +kernel
theorem dL_law_1170 : decode cL_law 1170 = .ok (.invokevirtual 148, 3) := by decide +kernel
theorem dL_law_1173 : decode cL_law 1173 = .ok (.pop, 1) := by decide +kernel
theorem dL_law_1174 : decode cL_law 1174 = .ok (.goto 1219, 3) := by decide +kernel
theorem dL_law_1177 : decode cL_law 1177 = .ok (.aload_n 1, 1) := by decide +kernel
theorem dL_law_1178 : decode cL_law 1178 = .ok (.aload_n 0, 1) := by decide +kernel
theorem dL_law_1179 : decode cL_law 1179 = .ok (.iload_n 3, 1) := by decide +kernel
theorem dL_law_1180 : decode cL_law 1180 = .ok (.iconst 1, 1) := by decide +kernel
theorem dL_law_1181 : decode cL_law 1181 = .ok (.iadd, 1) := by decide +kernel
theorem dL_law_1182 : decode cL_law 1182 = .ok (.iaload, 1) := by decide +kernel
theorem dL_law_1183 : decode cL_law 1183 = .ok (.invokevirtual 149, 3) := by decide +kernel
theorem dL_law_1186 : decode cL_law 1186 = .ok (.pop, 1) := by decide +kernel
theorem dL_law_1187 : decode cL_law 1187 = .ok (.aload_n 2, 1) := by decide +kernel
theorem dL_law_1188 : decode cL_law 1188 = .ok (.aload_n 0, 1) := by decide +kernel
theorem dL_law_1189 : decode cL_law 1189 = .ok (.iload_n 3, 1) := by decide +kernel
theorem dL_law_1190 : decode cL_law 1190 = .ok (.iconst 1, 1) := by decide +kernel
theorem dL_law_1191 : decode cL_law 1191 = .ok (.iadd, 1) := by decide +kernel
theorem dL_law_1192 : decode cL_law 1192 = .ok (.iaload, 1) := by decide +kernel
theorem dL_law_1193 : decode cL_law 1193 = .ok (.invokevirtual 152, 3) := by decide +kernel
theorem dL_law_1196 : decode cL_law 1196 = .ok (.pop, 1) := by decide +kernel
theorem dL_law_1197 : decode cL_law 1197 = .ok (.goto 1196, 3) := by decide +kernel
theorem dL_law_1200 : decode cL_law 1200 = .ok (.aload_n 1, 1) := by decide +kernel
theorem dL_law_1201 : decode cL_law 1201 = .ok (.aload_n 0, 1) := by decide +kernel
theorem dL_law_1202 : decode cL_law 1202 = .ok (.iload_n 3, 1) := by decide +kernel
theorem dL_law_1203 : decode cL_law 1203 = .ok (.iconst 1, 1) := by decide +kernel
theorem dL_law_1204 : decode cL_law 1204 = .ok (.iadd, 1) := by decide +kernel
theorem dL_law_1205 : decode cL_law 1205 = .ok (.iaload, 1) := by decide +kernel
theorem dL_law_1206 : decode cL_law 1206 = .ok (.aload_n 0, 1) := by decide +kernel
theorem dL_law_1207 : decode cL_law 1207 = .ok (.iload_n 3, 1) := by decide +kernel
theorem dL_law_1208 : decode cL_law 1208 = .ok (.iconst 2, 1) := by decide +kernel
theorem dL_law_1209 : decode cL_law 1209 = .ok (.iadd, 1) := by decide +kernel
theorem dL_law_1210 : decode cL_law 1210 = .ok (.iaload, 1) := by decide +kernel
theorem dL_law_1211 : decode cL_law 1211 = .ok (.invokevirtual 153, 3) := by decide +kernel
theorem dL_law_1214 : decode cL_law 1214 = .ok (.pop, 1) := by decide +kernel
theorem dL_law_1215 : decode cL_law 1215 = .ok (.aload_n 2, 1) := by decide +kernel
theorem dL_law_1216 : decode cL_law 1216 = .ok (.aload_n 0, 1) := by decide +kernel
theorem dL_law_1217 : decode cL_law 1217 = .ok (.iload_n 3, 1) := by decide +kernel
theorem dL_law_1218 : decode cL_law 1218 = .ok (.iconst 1, 1) := by decide +kernel
theorem dL_law_1219 : decode cL_law 1219 = .ok (.iadd, 1) := by decide +kernel
theorem dL_law_1220 : decode cL_law 1220 = .ok (.iaload, 1) := by decide +kernel
theorem dL_law_1221 : decode cL_law 1221 = .ok (.aload_n 0, 1) := by decide +kernel
theorem dL_law_1222 : decode cL_law 1222 = .ok (.iload_n 3, 1) := by decide +kernel
theorem dL_law_1223 : decode cL_law 1223 = .ok (.iconst 2, 1) := by decide +kernel
theorem dL_law_1224 : decode cL_law 1224 = .ok (.iadd, 1) := by decide +kernel
theorem dL_law_1225 : decode cL_law 1225 = .ok (.iaload, 1) := by decide +kernel
theorem dL_law_1226 : decode cL_law 1226 = .ok (.invokevirtual 156, 3) := by decide +kernel
theorem dL_law_1229 : decode cL_law 1229 = .ok (.pop, 1) := by decide +kernel
theorem dL_law_1230 : decode cL_law 1230 = .ok (.goto 1163, 3) := by decide +kernel
theorem dL_law_1233 : decode cL_law 1233 = .ok (.aload_n 1, 1) := by decide +kernel
theorem dL_law_1234 : decode cL_law 1234 = .ok (.aload_n 0, 1) := by decide +kernel
theorem dL_law_1235 : decode cL_law 1235 = .ok (.iload_n 3, 1) := by decide +kernel
theorem dL_law_1236 : decode cL_law 1236 = .ok (.iconst 1, 1) := by decide +kernel
theorem dL_law_1237 : decode cL_law 1237 = .ok (.iadd, 1) := by decide +kernel
theorem dL_law_1238 : decode cL_law 1238 = .ok (.iaload, 1) := by decide +kernel
theorem dL_law_1239 : decode cL_law 1239 = .ok (.invokevirtual 157, 3) := by decide +kernel
theorem dL_law_1242 : decode cL_law 1242 = .ok (.pop, 1) := by decide +kernel
theorem dL_law_1243 : decode cL_law 1243 = .ok (.aload_n 2, 1) := by decide +kernel
theorem dL_law_1244 : decode cL_law 1244 = .ok (.aload_n 0, 1) := by decide +kernel
theorem dL_law_1245 : decode cL_law 1245 = .ok (.iload_n 3, 1) := by decide +kernel
theorem dL_law_1246 : decode cL_law 1246 = .ok (.iconst 1, 1) := by decide +kernel
theorem dL_law_1247 : decode cL_law 1247 = .ok (.iadd, 1) := by decide +kernel
theorem dL_law_1248 : decode cL_law 1248 = .ok (.iaload, 1) := by decide +kernel
theorem dL_law_1249 : decode cL_law 1249 = .ok (.invokevirtual 160, 3) := by decide +kernel
theorem dL_law_1252 : decode cL_law 1252 = .ok (.pop, 1) := by decide +kernel
theorem dL_law_1253 : decode cL_law 1253 = .ok (.goto 1140, 3) := by decide +kernel
theorem dL_law_1256 : decode cL_law 1256 = .ok (.aload_n 1, 1) := by decide +kernel
theorem dL_law_1257 : decode cL_law 1257 = .ok (.invokevirtual 161, 3) := by decide +kernel
theorem dL_law_1260 : decode cL_law 1260 = .ok (.pop, 1) := by decide +kernel
theorem dL_law_1261 : decode cL_law 1261 = .ok (.aload_n 2, 1) := by decide +kernel
theorem dL_law_1262 : decode cL_law 1262 = .ok (.invokevirtual 164, 3) := by decide +kernel
theorem dL_law_1265 : decode cL_law 1265 = .ok (.pop, 1) := by decide +kernel
theorem dL_law_1266 : decode cL_law 1266 = .ok (.goto 1127, 3) := by decide +kernel
theorem dL_law_1269 : decode cL_law 1269 = .ok (.aload_n 1, 1) := by decide +kernel
theorem dL_law_1270 : decode cL_law 1270 = .ok (.invokevirtual 165, 3) := by decide +kernel
theorem dL_law_1273 : decode cL_law 1273 = .ok (.pop, 1) := by decide +kernel
theorem dL_law_1274 : decode cL_law 1274 = .ok (.aload_n 2, 1) := by decide +kernel
theorem dL_law_1275 : decode cL_law 1275 = .ok (.invokevirtual 168, 3) := by decide +kernel
theorem dL_law_1278 : decode cL_law 1278 = .ok (.pop, 1) := by decide +kernel
theorem dL_law_1279 : decode cL_law 1279 = .ok (.goto 1114, 3) := by decide +kernel
theorem dL_law_1282 : decode cL_law 1282 = .ok (.aload_n 1, 1) := by decide +kernel
theorem dL_law_1283 : decode cL_law 1283 = .ok (.aload_n 0, 1) := by decide +kernel
theorem dL_law_1284 : decode cL_law 1284 = .ok (.iload_n 3, 1) := by decide +kernel
theorem dL_law_1285 : decode cL_law 1285 = .ok (.iconst 1, 1) := by decide +kernel
theorem dL_law_1286 : decode cL_law 1286 = .ok (.iadd, 1) := by decide +kernel
theorem dL_law_1287 : decode cL_law 1287 = .ok (.iaload, 1) := by decide +kernel
theorem dL_law_1288 : decode cL_law 1288 = .ok (.invokevirtual 169, 3) := by decide +kernel
theorem dL_law_1291 : decode cL_law 1291 = .ok (.pop, 1) := by decide +kernel
theorem dL_law_1292 : decode cL_law 1292 = .ok (.aload_n 2, 1) := by decide +kernel
theorem dL_law_1293 : decode cL_law 1293 = .ok (.aload_n 0, 1) := by decide +kernel
theorem dL_law_1294 : decode cL_law 1294 = .ok (.iload_n 3, 1) := by decide +kernel
theorem dL_law_1295 : decode cL_law 1295 = .ok (.iconst 1, 1) := by decide +kernel
theorem dL_law_1296 : decode cL_law 1296 = .ok (.iadd, 1) := by decide +kernel
theorem dL_law_1297 : decode cL_law 1297 = .ok (.iaload, 1) := by decide +kernel
theorem dL_law_1298 : decode cL_law 1298 = .ok (.invokevirtual 172, 3) := by decide +kernel
theorem dL_law_1301 : decode cL_law 1301 = .ok (.pop, 1) := by decide +kernel
theorem dL_law_1302 : decode cL_law 1302 = .ok (.goto 1091, 3) := by decide +kernel
theorem dL_law_1305 : decode cL_law 1305 = .ok (.aload_n 1, 1) := by decide +kernel
theorem dL_law_1306 : decode cL_law 1306 = .ok (.aload_n 0, 1) := by decide +kernel
theorem dL_law_1307 : decode cL_law 1307 = .ok (.iload_n 3, 1) := by decide +kernel
theorem dL_law_1308 : decode cL_law 1308 = .ok (.iconst 1, 1) := by decide +kernel
theorem dL_law_1309 : decode cL_law 1309 = .ok (.iadd, 1) := by decide +kernel
theorem dL_law_1310 : decode cL_law 1310 = .ok (.iaload, 1) := by decide +kernel
theorem dL_law_1311 : decode cL_law 1311 = .ok (.invokevirtual 173, 3) := by decide +kernel
theorem dL_law_1314 : decode cL_law 1314 = .ok (.pop, 1) := by decide +kernel
theorem dL_law_1315 : decode cL_law 1315 = .ok (.aload_n 2, 1) := by decide +kernel
theorem dL_law_1316 : decode cL_law 1316 = .ok (.aload_n 0, 1) := by decide +kernel
theorem dL_law_1317 : decode cL_law 1317 = .ok (.iload_n 3, 1) := by decide +kernel
theorem dL_law_1318 : decode cL_law 1318 = .ok (.iconst 1, 1) := by decide +kernel
theorem dL_law_1319 : decode cL_law 1319 = .ok (.iadd, 1) := by decide +kernel
theorem dL_law_1320 : decode cL_law 1320 = .ok (.iaload, 1) := by decide +kernel
theorem dL_law_1321 : decode cL_law 1321 = .ok (.invokevirtual 176, 3) := by decide +kernel
theorem dL_law_1324 : decode cL_law 1324 = .ok (.pop, 1) := by decide +kernel
theorem dL_law_1325 : decode cL_law 1325 = .ok (.goto 1068, 3) := by decide +kernel
theorem dL_law_1328 : decode cL_law 1328 = .ok (.aload_n 1, 1) := by decide +kernel
theorem dL_law_1329 : decode cL_law 1329 = .ok (.aload_n 0, 1) := by decide +kernel
theorem dL_law_1330 : decode cL_law 1330 = .ok (.iload_n 3, 1) := by decide +kernel
theorem dL_law_1331 : decode cL_law 1331 = .ok (.iconst 1, 1) := by decide +kernel
theorem dL_law_1332 : decode cL_law 1332 = .ok (.iadd, 1) := by decide +kernel
theorem dL_law_1333 : decode cL_law 1333 = .ok (.iaload, 1) := by decide +kernel
theorem dL_law_1334 : decode cL_law 1334 = .ok (.invokevirtual 177, 3) := by decide +kernel
theorem dL_law_1337 : decode cL_law 1337 = .ok (.pop, 1) := by decide +kernel
theorem dL_law_1338 : decode cL_law 1338 = .ok (.aload_n 2, 1) := by decide +kernel
theorem dL_law_1339 : decode cL_law 1339 = .ok (.aload_n 0, 1) := by decide +kernel
theorem dL_law_1340 : decode cL_law 1340 = .ok (.iload_n 3, 1) := by decide +kernel
theorem dL_law_1341 : decode cL_law 1341 = .ok (.iconst 1, 1) := by decide +kernel
theorem dL_law_1342 : decode cL_law 1342 = .ok (.iadd, 1) := by decide +kernel
theorem dL_law_1343 : decode cL_law 1343 = .ok (.iaload, 1) := by decide +kernel
theorem dL_law_1344 : decode cL_law 1344 = .ok (.invokevirtual 180, 3) := by decide +kernel
theorem dL_law_1347 : decode cL_law 1347 = .ok (.pop, 1) := by decide +kernel
theorem dL_law_1348 : decode cL_law 1348 = .ok (.goto 1045, 3) := by decide +kernel
theorem dL_law_1351 : decode cL_law 1351 = .ok (.aload_n 1, 1) := by decide +kernel
theorem dL_law_1352 : decode cL_law 1352 = .ok (.aload_n 0, 1) := by decide +kernel
theorem dL_law_1353 : decode cL_law 1353 = .ok (.iload_n 3, 1) := by decide +kernel
theorem dL_law_1354 : decode cL_law 1354 = .ok (.iconst 1, 1) := by decide +kernel
theorem dL_law_1355 : decode cL_law 1355 = .ok (.iadd, 1) := by decide +kernel
theorem dL_law_1356 : decode cL_law 1356 = .ok (.iaload, 1) := by decide +kernel
theorem dL_law_1357 : decode cL_law 1357 = .ok (.aload_n 0, 1) := by decide +kernel
theorem dL_law_1358 : decode cL_law 1358 = .ok (.iload_n 3, 1) := by decide +kernel
theorem dL_law_1359 : decode cL_law 1359 = .ok (.iconst 2, 1) := by decide +kernel
theorem dL_law_1360 : decode cL_law 1360 = .ok (.iadd, 1) := by decide +kernel
theorem dL_law_1361 : decode cL_law 1361 = .ok (.iaload, 1) := by decide +kernel
theorem dL_law_1362 : decode cL_law 1362 = .ok (.invokevirtual 181, 3) := by decide +kernel
theorem dL_law_1365 : decode cL_law 1365 = .ok (.pop, 1) := by decide +kernel
theorem dL_law_1366 : decode cL_law 1366 = .ok (.aload_n 2, 1) := by decide +kernel
theorem dL_law_1367 : decode cL_law 1367 = .ok (.aload_n 0, 1) := by decide +kernel
theorem dL_law_1368 : decode cL_law 1368 = .ok (.iload_n 3, 1) := by decide +kernel
theorem dL_law_1369 : decode cL_law 1369 = .ok (.iconst 1, 1) := by decide +kernel
theorem dL_law_1370 : decode cL_law 1370 = .ok (.iadd, 1) := by decide +kernel
theorem dL_law_1371 : decode cL_law 1371 = .ok (.iaload, 1) := by decide +kernel
theorem dL_law_1372 : decode cL_law 1372 = .ok (.aload_n 0, 1) := by decide +kernel
theorem dL_law_1373 : decode cL_law 1373 = .ok (.iload_n 3, 1) := by decide +kernel
theorem dL_law_1374 : decode cL_law 1374 = .ok (.iconst 2, 1) := by decide +kernel
theorem dL_law_1375 : decode cL_law 1375 = .ok (.iadd, 1) := by decide +kernel
theorem dL_law_1376 : decode cL_law 1376 = .ok (.iaload, 1) := by decide +kernel
theorem dL_law_1377 : decode cL_law 1377 = .ok (.invokevirtual 184, 3) := by decide +kernel
theorem dL_law_1380 : decode cL_law 1380 = .ok (.pop, 1) := by decide +kernel
theorem dL_law_1381 : decode cL_law 1381 = .ok (.goto 1012, 3) := by decide +kernel
theorem dL_law_1384 : decode cL_law 1384 = .ok (.aload_n 1, 1) := by decide +kernel
theorem dL_law_1385 : decode cL_law 1385 = .ok (.aload_n 0, 1) := by decide +kernel
theorem dL_law_1386 : decode cL_law 1386 = .ok (.iload_n 3, 1) := by decide +kernel
theorem dL_law_1387 : decode cL_law 1387 = .ok (.iconst 1, 1) := by decide +kernel
theorem dL_law_1388 : decode cL_law 1388 = .ok (.iadd, 1) := by decide +kernel
theorem dL_law_1389 : decode cL_law 1389 = .ok (.iaload, 1) := by decide +kernel
theorem dL_law_1390 : decode cL_law 1390 = .ok (.invokevirtual 185, 3) := by decide +kernel
theorem dL_law_1393 : decode cL_law 1393 = .ok (.pop, 1) := by decide +kernel
theorem dL_law_1394 : decode cL_law 1394 = .ok (.aload_n 2, 1) := by decide +kernel
theorem dL_law_1395 : decode cL_law 1395 = .ok (.aload_n 0, 1) := by decide +kernel
theorem dL_law_1396 : decode cL_law 1396 = .ok (.iload_n 3, 1) := by decide +kernel
theorem dL_law_1397 : decode cL_law 1397 = .ok (.iconst 1, 1) := by decide +kernel
theorem dL_law_1398 : decode cL_law 1398 = .ok (.iadd, 1) := by decide +kernel
theorem dL_law_1399 : decode cL_law 1399 = .ok (.iaload, 1) := by decide +kernel
theorem dL_law_1400 : decode cL_law 1400 = .ok (.invokevirtual 188, 3) := by decide +kernel
theorem dL_law_1403 : decode cL_law 1403 = .ok (.pop, 1) := by decide +kernel
theorem dL_law_1404 : decode cL_law 1404 = .ok (.goto 989, 3) := by decide +kernel
theorem dL_law_1407 : decode cL_law 1407 = .ok (.aload_n 1, 1) := by decide +kernel
theorem dL_law_1408 : decode cL_law 1408 = .ok (.aload_n 0, 1) := by decide +kernel
theorem dL_law_1409 : decode cL_law 1409 = .ok (.iload_n 3, 1) := by decide +kernel
theorem dL_law_1410 : decode cL_law 1410 = .ok (.iconst 1, 1) := by decide +kernel
theorem dL_law_1411 : decode cL_law 1411 = .ok (.iadd, 1) := by decide +kernel
theorem dL_law_1412 : decode cL_law 1412 = .ok (.iaload, 1) := by decide +kernel
theorem dL_law_1413 : decode cL_law 1413 = .ok (.aload_n 0, 1) := by decide +kernel
theorem dL_law_1414 : decode cL_law 1414 = .ok (.iload_n 3, 1) := by decide +kernel
theorem dL_law_1415 : decode cL_law 1415 = .ok (.iconst 2, 1) := by decide +kernel
theorem dL_law_1416 : decode cL_law 1416 = .ok (.iadd, 1) := by decide +kernel
theorem dL_law_1417 : decode cL_law 1417 = .ok (.iaload, 1) := by decide +kernel
theorem dL_law_1418 : decode cL_law 1418 = .ok (.aload_n 0, 1) := by decide +kernel
theorem dL_law_1419 : decode cL_law 1419 = .ok (.iload_n 3, 1) := by decide +kernel
theorem dL_law_1420 : decode cL_law 1420 = .ok (.iconst 3, 1) := by decide +kernel
theorem dL_law_1421 : decode cL_law 1421 = .ok (.iadd, 1) := by decide +kernel
theorem dL_law_1422 : decode cL_law 1422 = .ok (.iaload, 1) := by decide +kernel
theorem dL_law_1423 : decode cL_law 1423 = .ok (.invokevirtual 189, 3) := by decide +kernel
theorem dL_law_1426 : decode cL_law 1426 = .ok (.pop, 1) := by decide +kernel
theorem dL_law_1427 : decode cL_law 1427 = .ok (.aload_n 2, 1) := by decide +kernel
theorem dL_law_1428 : decode cL_law 1428 = .ok (.aload_n 0, 1) := by decide +kernel
theorem dL_law_1429 : decode cL_law 1429 = .ok (.iload_n 3, 1) := by decide +kernel
theorem dL_law_1430 : decode cL_law 1430 = .ok (.iconst 1, 1) := by decide +kernel
theorem dL_law_1431 : decode cL_law 1431 = .ok (.iadd, 1) := by decide +kernel
theorem dL_law_1432 : decode cL_law 1432 = .ok (.iaload, 1) := by decide +kernel
theorem dL_law_1433 : decode cL_law 1433 = .ok (.aload_n 0, 1) := by decide +kernel
theorem dL_law_1434 : decode cL_law 1434 = .ok (.iload_n 3, 1) := by decide +kernel
theorem dL_law_1435 : decode cL_law 1435 = .ok (.iconst 2, 1) := by decide +kernel
theorem dL_law_1436 : decode cL_law 1436 = .ok (.iadd, 1) := by decide +kernel
theorem dL_law_1437 : decode cL_law 1437 = .ok (.iaload, 1) := by decide +kernel
theorem dL_law_1438 : decode cL_law 1438 = .ok (.aload_n 0, 1) := by decide +kernel
theorem dL_law_1439 : decode cL_law 1439 = .ok (.iload_n 3, 1) := by decide +kernel
theorem dL_law_1440 : decode cL_law 1440 = .ok (.iconst 3, 1) := by decide +kernel
theorem dL_law_1441 : decode cL_law 1441 = .ok (.iadd, 1) := by decide +kernel
theorem dL_law_1442 : decode cL_law 1442 = .ok (.iaload, 1) := by decide +kernel
theorem dL_law_1443 : decode cL_law 1443 = .ok (.invokevirtual 193, 3) := by decide +kernel
theorem dL_law_1446 : decode cL_law 1446 = .ok (.pop, 1) := by decide +kernel
theorem dL_law_1447 : decode cL_law 1447 = .ok (.goto 946, 3) := by decide +kernel
theorem dL_law_1450 : decode cL_law 1450 = .ok (.aload_n 1, 1) := by decide +kernel
theorem dL_law_1451 : decode cL_law 1451 = .ok (.aload_n 0, 1) := by decide +kernel
theorem dL_law_1452 : decode cL_law 1452 = .ok (.iload_n 3, 1) := by decide +kernel
theorem dL_law_1453 : decode cL_law 1453 = .ok (.iconst 1, 1) := by decide +kernel
theorem dL_law_1454 : decode cL_law 1454 = .ok (.iadd, 1) := by decide +kernel
theorem dL_law_1455 : decode cL_law 1455 = .ok (.iaload, 1) := by decide +kernel
theorem dL_law_1456 : decode cL_law 1456 = .ok (.invokevirtual 194, 3) := by decide +kernel
theorem dL_law_1459 : decode cL_law 1459 = .ok (.pop, 1) := by decide +kernel
theorem dL_law_1460 : decode cL_law 1460 = .ok (.aload_n 2, 1) := by decide +kernel
theorem dL_law_1461 : decode cL_law 1461 = .ok (.aload_n 0, 1) := by decide +kernel
theorem dL_law_1462 : decode cL_law 1462 = .ok (.iload_n 3, 1) := by decide +kernel
theorem dL_law_1463 : decode cL_law 1463 = .ok (.iconst 1, 1) := by decide +kernel
theorem dL_law_1464 : decode cL_law 1464 = .ok (.iadd, 1) := by decide +kernel
theorem dL_law_1465 : decode cL_law 1465 = .ok (.iaload, 1) := by decide +kernel
theorem dL_law_1466 : decode cL_law 1466 = .ok (.invokevirtual 197, 3) := by decide +kernel
theorem dL_law_1469 : decode cL_law 1469 = .ok (.pop, 1) := by decide +kernel
theorem dL_law_1470 : decode cL_law 1470 = .ok (.goto 923, 3) := by decide +kernel
theorem dL_law_1473 : decode cL_law 1473 = .ok (.aload_n 1, 1) := by decide +kernel
theorem dL_law_1474 : decode cL_law 1474 = .ok (.aload_n 0, 1) := by decide +kernel
theorem dL_law_1475 : decode cL_law 1475 = .ok (.iload_n 3, 1) := by decide +kernel
theorem dL_law_1476 : decode cL_law 1476 = .ok (.iconst 1, 1) := by decide +kernel
theorem dL_law_1477 : decode cL_law 1477 = .ok (.iadd, 1) := by decide +kernel
theorem dL_law_1478 : decode cL_law 1478 = .ok (.iaload, 1) := by decide +kernel
theorem dL_law_1479 : decode cL_law 1479 = .ok (.invokevirtual 198, 3) := by decide +kernel
theorem dL_law_1482 : decode cL_law 1482 = .ok (.pop, 1) := by decide +kernel
theorem dL_law_1483 : decode cL_law 1483 = .ok (.aload_n 2, 1) := by decide +kernel
theorem dL_law_1484 : decode cL_law 1484 = .ok (.aload_n 0, 1) := by decide +kernel
theorem dL_law_1485 : decode cL_law 1485 = .ok (.iload_n 3, 1) := by decide +kernel
theorem dL_law_1486 : decode cL_law 1486 = .ok (.iconst 1, 1) := by decide +kernel
theorem dL_law_1487 : decode cL_law 1487 = .ok (.iadd, 1) := by decide +kernel
theorem dL_law_1488 : decode cL_law 1488 = .ok (.iaload, 1) := by decide +kernel
theorem dL_law_1489 : decode cL_law 1489 = .ok (.invokevirtual 201, 3) := by decide +kernel
theorem dL_law_1492 : decode cL_law 1492 = .ok (.pop, 1) := by decide +kernel
theorem dL_law_1493 : decode cL_law 1493 = .ok (.goto 900, 3) := by decide +kernel
theorem dL_law_1496 : decode cL_law 1496 = .ok (.aload_n 1, 1) := by decide +kernel
theorem dL_law_1497 : decode cL_law 1497 = .ok (.invokevirtual 202, 3) := by decide +kernel
theorem dL_law_1500 : decode cL_law 1500 = .ok (.pop, 1) := by decide +kernel
theorem dL_law_1501 : decode cL_law 1501 = .ok (.aload_n 2, 1) := by decide +kernel
theorem dL_law_1502 : decode cL_law 1502 = .ok (.invokevirtual 205, 3) := by decide +kernel
theorem dL_law_1505 : decode cL_law 1505 = .ok (.pop, 1) := by decide +kernel
theorem dL_law_1506 : decode cL_law 1506 = .ok (.goto 887, 3) := by decide +kernel
theorem dL_law_1509 : decode cL_law 1509 = .ok (.aload_n 1, 1) := by decide +kernel
theorem dL_law_1510 : decode cL_law 1510 = .ok (.aload_n 0, 1) := by decide +kernel
theorem dL_law_1511 : decode cL_law 1511 = .ok (.iload_n 3, 1) := by decide +kernel
theorem dL_law_1512 : decode cL_law 1512 = .ok (.iconst 1, 1) := by decide +kernel
theorem dL_law_1513 : decode cL_law 1513 = .ok (.iadd, 1) := by decide +kernel
theorem dL_law_1514 : decode cL_law 1514 = .ok (.iaload, 1) := by decide +kernel
theorem dL_law_1515 : decode cL_law 1515 = .ok (.aload_n 0, 1) := by decide +kernel
theorem dL_law_1516 : decode cL_law 1516 = .ok (.iload_n 3, 1) := by decide +kernel
theorem dL_law_1517 : decode cL_law 1517 = .ok (.iconst 2, 1) := by decide +kernel
theorem dL_law_1518 : decode cL_law 1518 = .ok (.iadd, 1) := by decide +kernel
theorem dL_law_1519 : decode cL_law 1519 = .ok (.iaload, 1) := by decide +kernel
theorem dL_law_1520 : decode cL_law 1520 = .ok (.invokevirtual 206, 3) := by decide +kernel
theorem dL_law_1523 : decode cL_law 1523 = .ok (.pop, 1) := by decide +kernel
theorem dL_law_1524 : decode cL_law 1524 = .ok (.aload_n 2, 1) := by decide +kernel
theorem dL_law_1525 : decode cL_law 1525 = .ok (.aload_n 0, 1) := by decide +kernel
theorem dL_law_1526 : decode cL_law 1526 = .ok (.iload_n 3, 1) := by decide +kernel
theorem dL_law_1527 : decode cL_law 1527 = .ok (.iconst 1, 1) := by decide +kernel
theorem dL_law_1528 : decode cL_law 1528 = .ok (.iadd, 1) := by decide +kernel
theorem dL_law_1529 : decode cL_law 1529 = .ok (.iaload, 1) := by decide +kernel
theorem dL_law_1530 : decode cL_law 1530 = .ok (.aload_n 0, 1) := by decide +kernel
theorem dL_law_1531 : decode cL_law 1531 = .ok (.iload_n 3, 1) := by decide +kernel
theorem dL_law_1532 : decode cL_law 1532 = .ok (.iconst 2, 1) := by decide +kernel
theorem dL_law_1533 : decode cL_law 1533 = .ok (.iadd, 1) := by decide +kernel
theorem dL_law_1534 : decode cL_law 1534 = .ok (.iaload, 1) := by decide +kernel
theorem dL_law_1535 : decode cL_law 1535 = .ok (.invokevirtual 209, 3) := by decide +kernel
theorem dL_law_1538 : decode cL_law 1538 = .ok (.pop, 1) := by decide +kernel
theorem dL_law_1539 : decode cL_law 1539 = .ok (.goto 854, 3) := by decide +kernel
theorem dL_law_1542 : decode cL_law 1542 = .ok (.aload_n 1, 1) := by decide +kernel
theorem dL_law_1543 : decode cL_law 1543 = .ok (.invokevirtual 210, 3) := by decide +kernel
theorem dL_law_1546 : decode cL_law 1546 = .ok (.pop, 1) := by decide +kernel
theorem dL_law_1547 : decode cL_law 1547 = .ok (.aload_n 2, 1) := by decide +kernel
theorem dL_law_1548 : decode cL_law 1548 = .ok (.invokevirtual 213, 3) := by decide +kernel
theorem dL_law_1551 : decode cL_law 1551 = .ok (.pop, 1) := by decide +kernel
theorem dL_law_1552 : decode cL_law 1552 = .ok (.goto 841, 3) := by decide +kernel
theorem dL_law_1555 : decode cL_law 1555 = .ok (.aload_n 1, 1) := by decide +kernel
theorem dL_law_1556 : decode cL_law 1556 = .ok (.invokevirtual 214, 3) := by decide +kernel
theorem dL_law_1559 : decode cL_law 1559 = .ok (.pop, 1) := by decide +kernel
theorem dL_law_1560 : decode cL_law 1560 = .ok (.aload_n 2, 1) := by decide +kernel
theorem dL_law_1561 : decode cL_law 1561 = .ok (.invokevirtual 217, 3) := by decide +kernel
theorem dL_law_1564 : decode cL_law 1564 = .ok (.pop, 1) := by decide +kernel
theorem dL_law_1565 : decode cL_law 1565 = .ok (.goto 828, 3) := by decide +kernel
theorem dL_law_1568 : decode cL_law 1568 = .ok (.aload_n 1, 1) := by decide +kernel
theorem dL_law_1569 : decode cL_law 1569 = .ok (.aload_n 0, 1) := by decide +kernel
theorem dL_law_1570 : decode cL_law 1570 = .ok (.iload_n 3, 1) := by decide +kernel
theorem dL_law_1571 : decode cL_law 1571 = .ok (.iconst 1, 1) := by decide +kernel
theorem dL_law_1572 : decode cL_law 1572 = .ok (.iadd, 1) := by decide +kernel
theorem dL_law_1573 : decode cL_law 1573 = .ok (.iaload, 1) := by decide +kernel
theorem dL_law_1574 : decode cL_law 1574 = .ok (.aload_n 0, 1) := by decide +kernel
theorem dL_law_1575 : decode cL_law 1575 = .ok (.iload_n 3, 1) := by decide +kernel
theorem dL_law_1576 : decode cL_law 1576 = .ok (.iconst 2, 1) := by decide +kernel
theorem dL_law_1577 : decode cL_law 1577 = .ok (.iadd, 1) := by decide +kernel
theorem dL_law_1578 : decode cL_law 1578 = .ok (.iaload, 1) := by decide +kernel
theorem dL_law_1579 : decode cL_law 1579 = .ok (.invokevirtual 218, 3) := by decide +kernel
theorem dL_law_1582 : decode cL_law 1582 = .ok (.pop, 1) := by decide +kernel
theorem dL_law_1583 : decode cL_law 1583 = .ok (.aload_n 2, 1) := by decide +kernel
theorem dL_law_1584 : decode cL_law 1584 = .ok (.aload_n 0, 1) := by decide +kernel
theorem dL_law_1585 : decode cL_law 1585 = .ok (.iload_n 3, 1) := by decide +kernel
theorem dL_law_1586 : decode cL_law 1586 = .ok (.iconst 1, 1) := by decide +kernel
theorem dL_law_1587 : decode cL_law 1587 = .ok (.iadd, 1) := by decide +kernel
theorem dL_law_1588 : decode cL_law 1588 = .ok (.iaload, 1) := by decide +kernel
theorem dL_law_1589 : decode cL_law 1589 = .ok (.aload_n 0, 1) := by decide +kernel
theorem dL_law_1590 : decode cL_law 1590 = .ok (.iload_n 3, 1) := by decide +kernel
theorem dL_law_1591 : decode cL_law 1591 = .ok (.iconst 2, 1) := by decide +kernel
theorem dL_law_1592 : decode cL_law 1592 = .ok (.iadd, 1) := by decide +kernel
theorem dL_law_1593 : decode cL_law 1593 = .ok (.iaload, 1) := by decide +kernel
theorem dL_law_1594 : decode cL_law 1594 = .ok (.invokevirtual 221, 3) := by decide +kernel
theorem dL_law_1597 : decode cL_law 1597 = .ok (.pop, 1) := by decide +kernel
theorem dL_law_1598 : decode cL_law 1598 = .ok (.goto 795, 3) := by decide +kernel
theorem dL_law_1601 : decode cL_law 1601 = .ok (.aload_n 1, 1) := by decide +kernel
theorem dL_law_1602 : decode cL_law 1602 = .ok (.aload_n 0, 1) := by decide +kernel
theorem dL_law_1603 : decode cL_law 1603 = .ok (.iload_n 3, 1) := by decide +kernel
theorem dL_law_1604 : decode cL_law 1604 = .ok (.iconst 1, 1) := by decide +kernel
theorem dL_law_1605 : decode cL_law 1605 = .ok (.iadd, 1) := by decide +kernel
theorem dL_law_1606 : decode cL_law 1606 = .ok (.iaload, 1) := by decide +kernel
theorem dL_law_1607 : decode cL_law 1607 = .ok (.aload_n 0, 1) := by decide +kernel
theorem dL_law_1608 : decode cL_law 1608 = .ok (.iload_n 3, 1) := by decide +kernel
theorem dL_law_1609 : decode cL_law 1609 = .ok (.iconst 2, 1) := by decide +kernel
theorem dL_law_1610 : decode cL_law 1610 = .ok (.iadd, 1) := by decide +kernel
theorem dL_law_1611 : decode cL_law 1611 = .ok (.iaload, 1) := by decide +kernel
theorem dL_law_1612 : decode cL_law 1612 = .ok (.invokevirtual 222, 3) := by decide +kernel
theorem dL_law_1615 : decode cL_law 1615 = .ok (.pop, 1) := by decide +kernel
theorem dL_law_1616 : decode cL_law 1616 = .ok (.aload_n 2, 1) := by decide +kernel
theorem dL_law_1617 : decode cL_law 1617 = .ok (.aload_n 0, 1) := by decide +kernel
theorem dL_law_1618 : decode cL_law 1618 = .ok (.iload_n 3, 1) := by decide +kernel
theorem dL_law_1619 : decode cL_law 1619 = .ok (.iconst 1, 1) := by decide +kernel
theorem dL_law_1620 : decode cL_law 1620 = .ok (.iadd, 1) := by decide +kernel
theorem dL_law_1621 : decode cL_law 1621 = .ok (.iaload, 1) := by decide +kernel
theorem dL_law_1622 : decode cL_law 1622 = .ok (.aload_n 0, 1) := by decide +kernel
theorem dL_law_1623 : decode cL_law 1623 = .ok (.iload_n 3, 1) := by decide +kernel
theorem dL_law_1624 : decode cL_law 1624 = .ok (.iconst 2, 1) := by decide +kernel
theorem dL_law_1625 : decode cL_law 1625 = .ok (.iadd, 1) := by decide +kernel
theorem dL_law_1626 : decode cL_law 1626 = .ok (.iaload, 1) := by decide +kernel
theorem dL_law_1627 : decode cL_law 1627 = .ok (.invokevirtual 225, 3) := by decide +kernel
theorem dL_law_1630 : decode cL_law 1630 = .ok (.pop, 1) := by decide +kernel
theorem dL_law_1631 : decode cL_law 1631 = .ok (.goto 762, 3) := by decide +kernel
theorem dL_law_1634 : decode cL_law 1634 = .ok (.aload_n 1, 1) := by decide +kernel
theorem dL_law_1635 : decode cL_law 1635 = .ok (.aload_n 0, 1) := by decide +kernel
theorem dL_law_1636 : decode cL_law 1636 = .ok (.iload_n 3, 1) := by decide +kernel
theorem dL_law_1637 : decode cL_law 1637 = .ok (.iconst 1, 1) := by decide +kernel
theorem dL_law_1638 : decode cL_law 1638 = .ok (.iadd, 1) := by decide +kernel
theorem dL_law_1639 : decode cL_law 1639 = .ok (.iaload, 1) := by decide +kernel
theorem dL_law_1640 : decode cL_law 1640 = .ok (.aload_n 0, 1) := by decide +kernel
theorem dL_law_1641 : decode cL_law 1641 = .ok (.iload_n 3, 1) := by decide +kernel
theorem dL_law_1642 : decode cL_law 1642 = .ok (.iconst 2, 1) := by decide +kernel
theorem dL_law_1643 : decode cL_law 1643 = .ok (.iadd, 1) := by decide +kernel
theorem dL_law_1644 : decode cL_law 1644 = .ok (.iaload, 1) := by decide +kernel
theorem dL_law_1645 : decode cL_law 1645 = .ok (.invokevirtual 226, 3) := by decide +kernel
theorem dL_law_1648 : decode cL_law 1648 = .ok (.pop, 1) := by decide +kernel
theorem dL_law_1649 : decode cL_law 1649 = .ok (.aload_n 2, 1) := by decide +kernel
theorem dL_law_1650 : decode cL_law 1650 = .ok (.aload_n 0, 1) := by decide +kernel
theorem dL_law_1651 : decode cL_law 1651 = .ok (.iload_n 3, 1) := by decide +kernel
theorem dL_law_1652 : decode cL_law 1652 = .ok (.iconst 1, 1) := by decide +kernel
theorem dL_law_1653 : decode cL_law 1653 = .ok (.iadd, 1) := by decide +kernel
theorem dL_law_1654 : decode cL_law 1654 = .ok (.iaload, 1) := by decide +kernel
theorem dL_law_1655 : decode cL_law 1655 = .ok (.aload_n 0, 1) := by decide +kernel
theorem dL_law_1656 : decode cL_law 1656 = .ok (.iload_n 3, 1) := by decide +kernel
theorem dL_law_1657 : decode cL_law 1657 = .ok (.iconst 2, 1) := by decide +kernel
theorem dL_law_1658 : decode cL_law 1658 = .ok (.iadd, 1) := by decide +kernel
theorem dL_law_1659 : decode cL_law 1659 = .ok (.iaload, 1) := by decide +kernel
theorem dL_law_1660 : decode cL_law 1660 = .ok (.invokevirtual 229, 3) := by decide +kernel
theorem dL_law_1663 : decode cL_law 1663 = .ok (.pop, 1) := by decide +kernel
theorem dL_law_1664 : decode cL_law 1664 = .ok (.goto 729, 3) := by decide +kernel
theorem dL_law_1667 : decode cL_law 1667 = .ok (.aload_n 1, 1) := by decide +kernel
theorem dL_law_1668 : decode cL_law 1668 = .ok (.aload_n 0, 1) := by decide +kernel
theorem dL_law_1669 : decode cL_law 1669 = .ok (.iload_n 3, 1) := by decide +kernel
theorem dL_law_1670 : decode cL_law 1670 = .ok (.iconst 1, 1) := by decide +kernel
theorem dL_law_1671 : decode cL_law 1671 = .ok (.iadd, 1) := by decide +kernel
theorem dL_law_1672 : decode cL_law 1672 = .ok (.iaload, 1) := by decide +kernel
theorem dL_law_1673 : decode cL_law 1673 = .ok (.invokevirtual 230, 3) := by decide +kernel
theorem dL_law_1676 : decode cL_law 1676 = .ok (.pop, 1) := by decide +kernel
theorem dL_law_1677 : decode cL_law 1677 = .ok (.aload_n 2, 1) := by decide +kernel
theorem dL_law_1678 : decode cL_law 1678 = .ok (.aload_n 0, 1) := by decide +kernel
theorem dL_law_1679 : decode cL_law 1679 = .ok (.iload_n 3, 1) := by decide +kernel
theorem dL_law_1680 : decode cL_law 1680 = .ok (.iconst 1, 1) := by decide +kernel
theorem dL_law_1681 : decode cL_law 1681 = .ok (.iadd, 1) := by decide +kernel
theorem dL_law_1682 : decode cL_law 1682 = .ok (.iaload, 1) := by decide +kernel
theorem dL_law_1683 : decode cL_law 1683 = .ok (.invokevirtual 233, 3) := by decide +kernel
theorem dL_law_1686 : decode cL_law 1686 = .ok (.pop, 1) := by decide +kernel
theorem dL_law_1687 : decode cL_law 1687 = .ok (.goto 706, 3) := by decide +kernel
theorem dL_law_1690 : decode cL_law 1690 = .ok (.aload_n 1, 1) := by decide +kernel
theorem dL_law_1691 : decode cL_law 1691 = .ok (.aload_n 0, 1) := by decide +kernel
theorem dL_law_1692 : decode cL_law 1692 = .ok (.iload_n 3, 1) := by decide +kernel
theorem dL_law_1693 : decode cL_law 1693 = .ok (.iconst 1, 1) := by decide +kernel
theorem dL_law_1694 : decode cL_law 1694 = .ok (.iadd, 1) := by decide +kernel
theorem dL_law_1695 : decode cL_law 1695 = .ok (.iaload, 1) := by decide +kernel
theorem dL_law_1696 : decode cL_law 1696 = .ok (.invokevirtual 234, 3) := by decide +kernel
theorem dL_law_1699 : decode cL_law 1699 = .ok (.pop, 1) := by decide +kernel
theorem dL_law_1700 : decode cL_law 1700 = .ok (.aload_n 2, 1) := by decide +kernel
theorem dL_law_1701 : decode cL_law 1701 = .ok (.aload_n 0, 1) := by decide +kernel
theorem dL_law_1702 : decode cL_law 1702 = .ok (.iload_n 3, 1) := by decide +kernel
theorem dL_law_1703 : decode cL_law 1703 = .ok (.iconst 1, 1) := by decide +kernel
theorem dL_law_1704 : decode cL_law 1704 = .ok (.iadd, 1) := by decide +kernel
theorem dL_law_1705 : decode cL_law 1705 = .ok (.iaload, 1) := by decide +kernel
theorem dL_law_1706 : decode cL_law 1706 = .ok (.invokevirtual 237, 3) := by decide +kernel
theorem dL_law_1709 : decode cL_law 1709 = .ok (.pop, 1) := by decide +kernel
theorem dL_law_1710 : decode cL_law 1710 = .ok (.goto 683, 3) := by decide +kernel
theorem dL_law_1713 : decode cL_law 1713 = .ok (.aload_n 1, 1) := by decide +kernel
theorem dL_law_1714 : decode cL_law 1714 = .ok (.invokevirtual 238, 3) := by decide +kernel
theorem dL_law_1717 : decode cL_law 1717 = .ok (.pop, 1) := by decide +kernel
theorem dL_law_1718 : decode cL_law 1718 = .ok (.aload_n 2, 1) := by decide +kernel
theorem dL_law_1719 : decode cL_law 1719 = .ok (.invokevirtual 241, 3) := by decide +kernel
theorem dL_law_1722 : decode cL_law 1722 = .ok (.pop, 1) := by decide +kernel
theorem dL_law_1723 : decode cL_law 1723 = .ok (.goto 670, 3) := by decide +kernel
theorem dL_law_1726 : decode cL_law 1726 = .ok (.aload_n 1, 1) := by decide +kernel
theorem dL_law_1727 : decode cL_law 1727 = .ok (.aload_n 0, 1) := by decide +kernel
theorem dL_law_1728 : decode cL_law 1728 = .ok (.iload_n 3, 1) := by decide +kernel
theorem dL_law_1729 : decode cL_law 1729 = .ok (.iconst 1, 1) := by decide +kernel
theorem dL_law_1730 : decode cL_law 1730 = .ok (.iadd, 1) := by decide +kernel
theorem dL_law_1731 : decode cL_law 1731 = .ok (.iaload, 1) := by decide +kernel
theorem dL_law_1732 : decode cL_law 1732 = .ok (.invokevirtual 242, 3) := by decide +kernel
theorem dL_law_1735 : decode cL_law 1735 = .ok (.pop, 1) := by decide +kernel
theorem dL_law_1736 : decode cL_law 1736 = .ok (.aload_n 2, 1) := by decide +kernel
theorem dL_law_1737 : decode cL_law 1737 = .ok (.aload_n 0, 1) := by decide +kernel
theorem dL_law_1738 : decode cL_law 1738 = .ok (.iload_n 3, 1) := by decide +kernel
theorem dL_law_1739 : decode cL_law 1739 = .ok (.iconst 1, 1) := by decide +kernel
theorem dL_law_1740 : decode cL_law 1740 = .ok (.iadd, 1) := by decide +kernel
theorem dL_law_1741 : decode cL_law 1741 = .ok (.iaload, 1) := by decide +kernel
theorem dL_law_1742 : decode cL_law 1742 = .ok (.invokevirtual 245, 3) := by decide +kernel
theorem dL_law_1745 : decode cL_law 1745 = .ok (.pop, 1) := by decide +kernel
theorem dL_law_1746 : decode cL_law 1746 = .ok (.goto 647, 3) := by decide +kernel
theorem dL_law_1749 : decode cL_law 1749 = .ok (.aload_n 1, 1) := by decide +kernel
theorem dL_law_1750 : decode cL_law 1750 = .ok (.aload_n 0, 1) := by decide +kernel
theorem dL_law_1751 : decode cL_law 1751 = .ok (.iload_n 3, 1) := by decide +kernel
theorem dL_law_1752 : decode cL_law 1752 = .ok (.iconst 1, 1) := by decide +kernel
theorem dL_law_1753 : decode cL_law 1753 = .ok (.iadd, 1) := by decide +kernel
theorem dL_law_1754 : decode cL_law 1754 = .ok (.iaload, 1) := by decide +kernel
theorem dL_law_1755 : decode cL_law 1755 = .ok (.aload_n 0, 1) := by decide +kernel
theorem dL_law_1756 : decode cL_law 1756 = .ok (.iload_n 3, 1) := by decide +kernel
theorem dL_law_1757 : decode cL_law 1757 = .ok (.iconst 2, 1) := by decide +kernel
theorem dL_law_1758 : decode cL_law 1758 = .ok (.iadd, 1) := by decide +kernel
theorem dL_law_1759 : decode cL_law 1759 = .ok (.iaload, 1) := by decide +kernel
theorem dL_law_1760 : decode cL_law 1760 = .ok (.invokevirtual 246, 3) := by decide +kernel
theorem dL_law_1763 : decode cL_law 1763 = .ok (.pop, 1) := by decide +kernel
theorem dL_law_1764 : decode cL_law 1764 = .ok (.aload_n 2, 1) := by decide +kernel
theorem dL_law_1765 : decode cL_law 1765 = .ok (.aload_n 0, 1) := by decide +kernel
theorem dL_law_1766 : decode cL_law 1766 = .ok (.iload_n 3, 1) := by decide +kernel
theorem dL_law_1767 : decode cL_law 1767 = .ok (.iconst 1, 1) := by decide +kernel
theorem dL_law_1768 : decode cL_law 1768 = .ok (.iadd, 1) := by decide +kernel
theorem dL_law_1769 : decode cL_law 1769 = .ok (.iaload, 1) := by decide +kernel
theorem dL_law_1770 : decode cL_law 1770 = .ok (.aload_n 0, 1) := by decide +kernel
theorem dL_law_1771 : decode cL_law 1771 = .ok (.iload_n 3, 1) := by decide +kernel
theorem dL_law_1772 : decode cL_law 1772 = .ok (.iconst 2, 1) := by decide +kernel
theorem dL_law_1773 : decode cL_law 1773 = .ok (.iadd, 1) := by decide +kernel
theorem dL_law_1774 : decode cL_law 1774 = .ok (.iaload, 1) := by decide +kernel
theorem dL_law_1775 : decode cL_law 1775 = .ok (.invokevirtual 249, 3) := by decide +kernel
theorem dL_law_1778 : decode cL_law 1778 = .ok (.pop, 1) := by decide +kernel
theorem dL_law_1779 : decode cL_law 1779 = .ok (.goto 614, 3) := by decide +kernel
theorem dL_law_1782 : decode cL_law 1782 = .ok (.aload_n 1, 1) := by decide +kernel
theorem dL_law_1783 : decode cL_law 1783 = .ok (.aload_n 0, 1) := by decide +kernel
theorem dL_law_1784 : decode cL_law 1784 = .ok (.iload_n 3, 1) := by decide +kernel
theorem dL_law_1785 : decode cL_law 1785 = .ok (.iconst 1, 1) := by decide +kernel
theorem dL_law_1786 : decode cL_law 1786 = .ok (.iadd, 1) := by decide +kernel
theorem dL_law_1787 : decode cL_law 1787 = .ok (.iaload, 1) := by decide +kernel
theorem dL_law_1788 : decode cL_law 1788 = .ok (.aload_n 0, 1) := by decide +kernel
theorem dL_law_1789 : decode cL_law 1789 = .ok (.iload_n 3, 1) := by decide +kernel
theorem dL_law_1790 : decode cL_law 1790 = .ok (.iconst 2, 1) := by decide +kernel
theorem dL_law_1791 : decode cL_law 1791 = .ok (.iadd, 1) := by decide +kernel
theorem dL_law_1792 : decode cL_law 1792 = .ok (.iaload, 1) := by decide +kernel
theorem dL_law_1793 : decode cL_law 1793 = .ok (.invokevirtual 250, 3) := by decide +kernel
theorem dL_law_1796 : decode cL_law 1796 = .ok (.pop, 1) := by decide +kernel
theorem dL_law_1797 : decode cL_law 1797 = .ok (.aload_n 2, 1) := by decide +kernel
theorem dL_law_1798 : decode cL_law 1798 = .ok (.aload_n 0, 1) := by decide +kernel
theorem dL_law_1799 : decode cL_law 1799 = .ok (.iload_n 3, 1) := by decide +kernel
theorem dL_law_1800 : decode cL_law 1800 = .ok (.iconst 1, 1) := by decide +kernel
theorem dL_law_1801 : decode cL_law 1801 = .ok (.iadd, 1) := by decide +kernel
theorem dL_law_1802 : decode cL_law 1802 = .ok (.iaload, 1) := by decide +kernel
theorem dL_law_1803 : decode cL_law 1803 = .ok (.aload_n 0, 1) := by decide +kernel
theorem dL_law_1804 : decode cL_law 1804 = .ok (.iload_n 3, 1) := by decide +kernel
theorem dL_law_1805 : decode cL_law 1805 = .ok (.iconst 2, 1) := by decide +kernel
theorem dL_law_1806 : decode cL_law 1806 = .ok (.iadd, 1) := by decide +kernel
theorem dL_law_1807 : decode cL_law 1807 = .ok (.iaload, 1) := by decide +kernel
theorem dL_law_1808 : decode cL_law 1808 = .ok (.invokevirtual 253, 3) := by decide +kernel
theorem dL_law_1811 : decode cL_law 1811 = .ok (.pop, 1) := by decide +kernel
theorem dL_law_1812 : decode cL_law 1812 = .ok (.goto 581, 3) := by decide +kernel
theorem dL_law_1815 : decode cL_law 1815 = .ok (.aload_n 1, 1) := by decide +kernel
theorem dL_law_1816 : decode cL_law 1816 = .ok (.aload_n 0, 1) := by decide +kernel
theorem dL_law_1817 : decode cL_law 1817 = .ok (.iload_n 3, 1) := by decide +kernel
theorem dL_law_1818 : decode cL_law 1818 = .ok (.iconst 1, 1) := by decide +kernel
theorem dL_law_1819 : decode cL_law 1819 = .ok (.iadd, 1) := by decide +kernel
theorem dL_law_1820 : decode cL_law 1820 = .ok (.iaload, 1) := by decide +kernel
theorem dL_law_1821 : decode cL_law 1821 = .ok (.aload_n 0, 1) := by decide +kernel
theorem dL_law_1822 : decode cL_law 1822 = .ok (.iload_n 3, 1) := by decide +kernel
theorem dL_law_1823 : decode cL_law 1823 = .ok (.iconst 2, 1) := by decide +kernel
theorem dL_law_1824 : decode cL_law 1824 = .ok (.iadd, 1) := by decide +kernel
theorem dL_law_1825 : decode cL_law 1825 = .ok (.iaload, 1) := by decide +kernel
theorem dL_law_1826 : decode cL_law 1826 = .ok (.aload_n 0, 1) := by decide +kernel
theorem dL_law_1827 : decode cL_law 1827 = .ok (.iload_n 3, 1) := by decide +kernel
theorem dL_law_1828 : decode cL_law 1828 = .ok (.iconst 3, 1) := by decide +kernel
theorem dL_law_1829 : decode cL_law 1829 = .ok (.iadd, 1) := by decide +kernel
theorem dL_law_1830 : decode cL_law 1830 = .ok (.iaload, 1) := by decide +kernel
theorem dL_law_1831 : decode cL_law 1831 = .ok (.aload_n 0, 1) := by decide +kernel
theorem dL_law_1832 : decode cL_law 1832 = .ok (.iload_n 3, 1) := by decide +kernel
theorem dL_law_1833 : decode cL_law 1833 = .ok (.iconst 4, 1) := by decide +kernel
theorem dL_law_1834 : decode cL_law 1834 = .ok (.iadd, 1) := by decide +kernel
theorem dL_law_1835 : decode cL_law 1835 = .ok (.iaload, 1) := by decide +kernel
theorem dL_law_1836 : decode cL_law 1836 = .ok (.invokevirtual 254, 3) := by decide +kernel
theorem dL_law_1839 : decode cL_law 1839 = .ok (.pop, 1) := by decide +kernel
theorem dL_law_1840 : decode cL_law 1840 = .ok (.aload_n 2, 1) := by decide +kernel
theorem dL_law_1841 : decode cL_law 1841 = .ok (.aload_n 0, 1) := by decide +kernel
theorem dL_law_1842 : decode cL_law 1842 = .ok (.iload_n 3, 1) := by decide +kernel
theorem dL_law_1843 : decode cL_law 1843 = .ok (.iconst 1, 1) := by decide +kernel
theorem dL_law_1844 : decode cL_law 1844 = .ok (.iadd, 1) := by decide +kernel
theorem dL_law_1845 : decode cL_law 1845 = .ok (.iaload, 1) := by decide +kernel
theorem dL_law_1846 : decode cL_law 1846 = .ok (.aload_n 0, 1) := by decide +kernel
theorem dL_law_1847 : decode cL_law 1847 = .ok (.iload_n 3, 1) := by decide +kernel
theorem dL_law_1848 : decode cL_law 1848 = .ok (.iconst 2, 1) := by decide +kernel
theorem dL_law_1849 : decode cL_law 1849 = .ok (.iadd, 1) := by decide +kernel
theorem dL_law_1850 : decode cL_law 1850 = .ok (.iaload, 1) := by decide +kernel
theorem dL_law_1851 : decode cL_law 1851 = .ok (.aload_n 0, 1) := by decide +kernel
theorem dL_law_1852 : decode cL_law 1852 = .ok (.iload_n 3, 1) := by decide +kernel
theorem dL_law_1853 : decode cL_law 1853 = .ok (.iconst 3, 1) := by decide +kernel
theorem dL_law_1854 : decode cL_law 1854 = .ok (.iadd, 1) := by decide +kernel
theorem dL_law_1855 : decode cL_law 1855 = .ok (.iaload, 1) := by decide +kernel
theorem dL_law_1856 : decode cL_law 1856 = .ok (.aload_n 0, 1) := by decide +kernel
theorem dL_law_1857 : decode cL_law 1857 = .ok (.iload_n 3, 1) := by decide +kernel
theorem dL_law_1858 : decode cL_law 1858 = .ok (.iconst 4, 1) := by decide +kernel
theorem dL_law_1859 : decode cL_law 1859 = .ok (.iadd, 1) := by decide +kernel
theorem dL_law_1860 : decode cL_law 1860 = .ok (.iaload, 1) := by decide +kernel
theorem dL_law_1861 : decode cL_law 1861 = .ok (.invokevirtual 258, 3) := by decide +kernel
theorem dL_law_1864 : decode cL_law 1864 = .ok (.pop, 1) := by decide +kernel
theorem dL_law_1865 : decode cL_law 1865 = .ok (.goto 528, 3) := by decide +kernel
theorem dL_law_1868 : decode cL_law 1868 = .ok (.aload_n 1, 1) := by decide +kernel
theorem dL_law_1869 : decode cL_law 1869 = .ok (.aload_n 0, 1) := by decide +kernel
theorem dL_law_1870 : decode cL_law 1870 = .ok (.iload_n 3, 1) := by decide +kernel
theorem dL_law_1871 : decode cL_law 1871 = .ok (.iconst 1, 1) := by decide +kernel
theorem dL_law_1872 : decode cL_law 1872 = .ok (.iadd, 1) := by decide +kernel
theorem dL_law_1873 : decode cL_law 1873 = .ok (.iaload, 1) := by decide +kernel
theorem dL_law_1874 : decode cL_law 1874 = .ok (.aload_n 0, 1) := by decide +kernel
theorem dL_law_1875 : decode cL_law 1875 = .ok (.iload_n 3, 1) := by decide +kernel
theorem dL_law_1876 : decode cL_law 1876 = .ok (.iconst 2, 1) := by decide +kernel
theorem dL_law_1877 : decode cL_law 1877 = .ok (.iadd, 1) := by decide +kernel
theorem dL_law_1878 : decode cL_law 1878 = .ok (.iaload, 1) := by decide +kernel
theorem dL_law_1879 : decode cL_law 1879 = .ok (.aload_n 0, 1) := by decide +kernel
theorem dL_law_1880 : decode cL_law 1880 = .ok (.iload_n 3, 1) := by decide +kernel
theorem dL_law_1881 : decode cL_law 1881 = .ok (.iconst 3, 1) := by decide +kernel
theorem dL_law_1882 : decode cL_law 1882 = .ok (.iadd, 1) := by decide +kernel
theorem dL_law_1883 : decode cL_law 1883 = .ok (.iaload, 1) := by decide +kernel
theorem dL_law_1884 : decode cL_law 1884 = .ok (.invokevirtual 259, 3) := by decide +kernel
theorem dL_law_1887 : decode cL_law 1887 = .ok (.pop2, 1) := by decide +kernel
theorem dL_law_1888 : decode cL_law 1888 = .ok (.aload_n 2, 1) := by decide +kernel
theorem dL_law_1889 : decode cL_law 1889 = .ok (.aload_n 0, 1) := by decide +kernel
theorem dL_law_1890 : decode cL_law 1890 = .ok (.iload_n 3, 1) := by decide +kernel
theorem dL_law_1891 : decode cL_law 1891 = .ok (.iconst 1, 1) := by decide +kernel
theorem dL_law_1892 : decode cL_law 1892 = .ok (.iadd, 1) := by decide +kernel
theorem dL_law_1893 : decode cL_law 1893 = .ok (.iaload, 1) := by decide +kernel
theorem dL_law_1894 : decode cL_law 1894 = .ok (.aload_n 0, 1) := by decide +kernel
theorem dL_law_1895 : decode cL_law 1895 = .ok (.iload_n 3, 1) := by decide +kernel
theorem dL_law_1896 : decode cL_law 1896 = .ok (.iconst 2, 1) := by decide +kernel
theorem dL_law_1897 : decode cL_law 1897 = .ok (.iadd, 1) := by decide +kernel
theorem dL_law_1898 : decode cL_law 1898 = .ok (.iaload, 1) := by decide +kernel
theorem dL_law_1899 : decode cL_law 1899 = .ok (.aload_n 0, 1) := by decide +kernel
theorem dL_law_1900 : decode cL_law 1900 = .ok (.iload_n 3, 1) := by decide +kernel
theorem dL_law_1901 : decode cL_law 1901 = .ok (.iconst 3, 1) := by decide +kernel
theorem dL_law_1902 : decode cL_law 1902 = .ok (.iadd, 1) := by decide +kernel
theorem dL_law_1903 : decode cL_law 1903 = .ok (.iaload, 1) := by decide +kernel
theorem dL_law_1904 : decode cL_law 1904 = .ok (.invokevirtual 263, 3) := by decide +kernel
theorem dL_law_1907 : decode cL_law 1907 = .ok (.pop2, 1) := by decide +kernel
theorem dL_law_1908 : decode cL_law 1908 = .ok (.goto 485, 3) := by decide +kernel
theorem dL_law_1911 : decode cL_law 1911 = .ok (.aload_n 1, 1) := by decide +kernel
theorem dL_law_1912 : decode cL_law 1912 = .ok (.aload_n 0, 1) := by decide +kernel
theorem dL_law_1913 : decode cL_law 1913 = .ok (.iload_n 3, 1) := by decide +kernel
theorem dL_law_1914 : decode cL_law 1914 = .ok (.iconst 1, 1) := by decide +kernel
theorem dL_law_1915 : decode cL_law 1915 = .ok (.iadd, 1) := by decide +kernel
theorem dL_law_1916 : decode cL_law 1916 = .ok (.iaload, 1) := by decide +kernel
theorem dL_law_1917 : decode cL_law 1917 = .ok (.aload_n 0, 1) := by decide +kernel
theorem dL_law_1918 : decode cL_law 1918 = .ok (.iload_n 3, 1) := by decide +kernel
theorem dL_law_1919 : decode cL_law 1919 = .ok (.iconst 2, 1) := by decide +kernel
theorem dL_law_1920 : decode cL_law 1920 = .ok (.iadd, 1) := by decide +kernel
theorem dL_law_1921 : decode cL_law 1921 = .ok (.iaload, 1) := by decide +kernel
theorem dL_law_1922 : decode cL_law 1922 = .ok (.invokevirtual 264, 3) := by decide +kernel
theorem dL_law_1925 : decode cL_law 1925 = .ok (.pop2, 1) := by decide +kernel
theorem dL_law_1926 : decode cL_law 1926 = .ok (.aload_n 2, 1) := by decide +kernel
theorem dL_law_1927 : decode cL_law 1927 = .ok (.aload_n 0, 1) := by decide +kernel
theorem dL_law_1928 : decode cL_law 1928 = .ok (.iload_n 3, 1) := by decide +kernel
theorem dL_law_1929 : decode cL_law 1929 = .ok (.iconst 1, 1) := by decide +kernel
theorem dL_law_1930 : decode cL_law 1930 = .ok (.iadd, 1) := by decide +kernel
theorem dL_law_1931 : decode cL_law 1931 = .ok (.iaload, 1) := by decide +kernel
theorem dL_law_1932 : decode cL_law 1932 = .ok (.aload_n 0, 1) := by decide +kernel
theorem dL_law_1933 : decode cL_law 1933 = .ok (.iload_n 3, 1) := by decide +kernel
theorem dL_law_1934 : decode cL_law 1934 = .ok (.iconst 2, 1) := by decide +kernel
theorem dL_law_1935 : decode cL_law 1935 = .ok (.iadd, 1) := by decide +kernel
theorem dL_law_1936 : decode cL_law 1936 = .ok (.iaload, 1) := by decide +kernel
theorem dL_law_1937 : decode cL_law 1937 = .ok (.invokevirtual 268, 3) := by decide +kernel
theorem dL_law_1940 : decode cL_law 1940 = .ok (.pop2, 1) := by decide +kernel
theorem dL_law_1941 : decode cL_law 1941 = .ok (.goto 452, 3) := by decide +kernel
theorem dL_law_1944 : decode cL_law 1944 = .ok (.aload_n 1, 1) := by decide +kernel
theorem dL_law_1945 : decode cL_law 1945 = .ok (.aload_n 0, 1) := by decide +kernel
theorem dL_law_1946 : decode cL_law 1946 = .ok (.iload_n 3, 1) := by decide +kernel
theorem dL_law_1947 : decode cL_law 1947 = .ok (.iconst 1, 1) := by decide +kernel
theorem dL_law_1948 : decode cL_law 1948 = .ok (.iadd, 1) := by decide +kernel
theorem dL_law_1949 : decode cL_law 1949 = .ok (.iaload, 1) := by decide +kernel
theorem dL_law_1950 : decode cL_law 1950 = .ok (.aload_n 0, 1) := by decide +kernel
theorem dL_law_1951 : decode cL_law 1951 = .ok (.iload_n 3, 1) := by decide +kernel
theorem dL_law_1952 : decode cL_law 1952 = .ok (.iconst 2, 1) := by decide +kernel
theorem dL_law_1953 : decode cL_law 1953 = .ok (.iadd, 1) := by decide +kernel
theorem dL_law_1954 : decode cL_law 1954 = .ok (.iaload, 1) := by decide +kernel
theorem dL_law_1955 : decode cL_law 1955 = .ok (.invokevirtual 269, 3) := by decide +kernel
theorem dL_law_1958 : decode cL_law 1958 = .ok (.pop, 1) := by decide +kernel
theorem dL_law_1959 : decode cL_law 1959 = .ok (.aload_n 2, 1) := by decide +kernel
theorem dL_law_1960 : decode cL_law 1960 = .ok (.aload_n 0, 1) := by decide +kernel
theorem dL_law_1961 : decode cL_law 1961 = .ok (.iload_n 3, 1) := by decide +kernel
theorem dL_law_1962 : decode cL_law 1962 = .ok (.iconst 1, 1) := by decide +kernel
theorem dL_law_1963 : decode cL_law 1963 = .ok (.iadd, 1) := by decide +kernel
theorem dL_law_1964 : decode cL_law 1964 = .ok (.iaload, 1) := by decide +kernel
theorem dL_law_1965 : decode cL_law 1965 = .ok (.aload_n 0, 1) := by decide +kernel
theorem dL_law_1966 : decode cL_law 1966 = .ok (.iload_n 3, 1) := by decide +kernel
theorem dL_law_1967 : decode cL_law 1967 = .ok (.iconst 2, 1) := by decide +kernel
theorem dL_law_1968 : decode cL_law 1968 = .ok (.iadd, 1) := by decide +kernel
theorem dL_law_1969 : decode cL_law 1969 = .ok (.iaload, 1) := by decide +kernel
theorem dL_law_1970 : decode cL_law 1970 = .ok (.invokevirtual 272, 3) := by decide +kernel
theorem dL_law_1973 : decode cL_law 1973 = .ok (.pop, 1) := by decide +kernel
theorem dL_law_1974 : decode cL_law 1974 = .ok (.goto 419, 3) := by decide +kernel
theorem dL_law_1977 : decode cL_law 1977 = .ok (.aload_n 1, 1) := by decide +kernel
theorem dL_law_1978 : decode cL_law 1978 = .ok (.aload_n 0, 1) := by decide +kernel
theorem dL_law_1979 : decode cL_law 1979 = .ok (.iload_n 3, 1) := by decide +kernel
theorem dL_law_1980 : decode cL_law 1980 = .ok (.iconst 1, 1) := by decide +kernel
theorem dL_law_1981 : decode cL_law 1981 = .ok (.iadd, 1) := by decide +kernel
theorem dL_law_1982 : decode cL_law 1982 = .ok (.iaload, 1) := by decide +kernel
theorem dL_law_1983 : decode cL_law 1983 = .ok (.aload_n 0, 1) := by decide +kernel
theorem dL_law_1984 : decode cL_law 1984 = .ok (.iload_n 3, 1) := by decide +kernel
theorem dL_law_1985 : decode cL_law 1985 = .ok (.iconst 2, 1) := by decide +kernel
theorem dL_law_1986 : decode cL_law 1986 = .ok (.iadd, 1) := by decide +kernel
theorem dL_law_1987 : decode cL_law 1987 = .ok (.iaload, 1) := by decide +kernel
theorem dL_law_1988 : decode cL_law 1988 = .ok (.invokevirtual 273, 3) := by decide +kernel
theorem dL_law_1991 : decode cL_law 1991 = .ok (.pop, 1) := by decide +kernel
theorem dL_law_1992 : decode cL_law 1992 = .ok (.aload_n 2, 1) := by decide +kernel
theorem dL_law_1993 : decode cL_law 1993 = .ok (.aload_n 0, 1) := by decide +kernel
theorem dL_law_1994 : decode cL_law 1994 = .ok (.iload_n 3, 1) := by decide +kernel
theorem dL_law_1995 : decode cL_law 1995 = .ok (.iconst 1, 1) := by decide +kernel
theorem dL_law_1996 : decode cL_law 1996 = .ok (.iadd, 1) := by decide +kernel
theorem dL_law_1997 : decode cL_law 1997 = .ok (.iaload, 1) := by decide +kernel
theorem dL_law_1998 : decode cL_law 1998 = .ok (.aload_n 0, 1) := by decide +kernel
theorem dL_law_1999 : decode cL_law 1999 = .ok (.iload_n 3, 1) := by decide +kernel
theorem dL_law_2000 : decode cL_law 2000 = .ok (.iconst 2, 1) := by decide +kernel
theorem dL_law_2001 : decode cL_law 2001 = .ok (.iadd, 1) := by decide +kernel
theorem dL_law_2002 : decode cL_law 2002 = .ok (.iaload, 1) := by decide +kernel
theorem dL_law_2003 : decode cL_law 2003 = .ok (.invokevirtual 276, 3) := by decide +kernel
theorem dL_law_2006 : decode cL_law 2006 = .ok (.pop, 1) := by decide +kernel
theorem dL_law_2007 : decode cL_law 2007 = .ok (.goto 386, 3) := by decide +kernel
theorem dL_law_2010 : decode cL_law 2010 = .ok (.aload_n 1, 1) := by decide +kernel
theorem dL_law_2011 : decode cL_law 2011 = .ok (.invokevirtual 277, 3) := by decide +kernel
theorem dL_law_2014 : decode cL_law 2014 = .ok (.pop, 1) := by decide +kernel
theorem dL_law_2015 : decode cL_law 2015 = .ok (.aload_n 2, 1) := by decide +kernel
theorem dL_law_2016 : decode cL_law 2016 = .ok (.invokevirtual 280, 3) := by decide +kernel
theorem dL_law_2019 : decode cL_law 2019 = .ok (.pop, 1) := by decide +kernel
theorem dL_law_2020 : decode cL_law 2020 = .ok (.goto 373, 3) := by decide +kernel
theorem dL_law_2023 : decode cL_law 2023 = .ok (.aload_n 1, 1) := by decide +kernel
theorem dL_law_2024 : decode cL_law 2024 = .ok (.invokevirtual 281, 3) := by decide +kernel
theorem dL_law_2027 : decode cL_law 2027 = .ok (.pop, 1) := by decide +kernel
theorem dL_law_2028 : decode cL_law 2028 = .ok (.aload_n 2, 1) := by decide +kernel
theorem dL_law_2029 : decode cL_law 2029 = .ok (.invokevirtual 284, 3) := by decide +kernel
theorem dL_law_2032 : decode cL_law 2032 = .ok (.pop, 1) := by decide +kernel
theorem dL_law_2033 : decode cL_law 2033 = .ok (.goto 360, 3) := by decide +kernel
theorem dL_law_2036 : decode cL_law 2036 = .ok (.aload_n 1, 1) := by decide +kernel
theorem dL_law_2037 : decode cL_law 2037 = .ok (.aload_n 0, 1) := by decide +kernel
theorem dL_law_2038 : decode cL_law 2038 = .ok (.iload_n 3, 1) := by decide +kernel
theorem dL_law_2039 : decode cL_law 2039 = .ok (.iconst 1, 1) := by decide +kernel
theorem dL_law_2040 : decode cL_law 2040 = .ok (.iadd, 1) := by decide +kernel
theorem dL_law_2041 : decode cL_law 2041 = .ok (.iaload, 1) := by decide +kernel
theorem dL_law_2042 : decode cL_law 2042 = .ok (.aload_n 0, 1) := by decide +kernel
theorem dL_law_2043 : decode cL_law 2043 = .ok (.iload_n 3, 1) := by decide +kernel
theorem dL_law_2044 : decode cL_law 2044 = .ok (.iconst 2, 1) := by decide +kernel
theorem dL_law_2045 : decode cL_law 2045 = .ok (.iadd, 1) := by decide +kernel
theorem dL_law_2046 : decode cL_law 2046 = .ok (.iaload, 1) := by decide +kernel
theorem dL_law_2047 : decode cL_law 2047 = .ok (.invokevirtual 285, 3) := by decide +kernel
theorem dL_law_2050 : decode cL_law 2050 = .ok (.pop, 1) := by decide +kernel
theorem dL_law_2051 : decode cL_law 2051 = .ok (.aload_n 2, 1) := by decide +kernel
theorem dL_law_2052 : decode cL_law 2052 = .ok (.aload_n 0, 1) := by decide +kernel
theorem dL_law_2053 : decode cL_law 2053 = .ok (.iload_n 3, 1) := by decide +kernel
theorem dL_law_2054 : decode cL_law 2054 = .ok (.iconst 1, 1) := by decide +kernel
theorem dL_law_2055 : decode cL_law 2055 = .ok (.iadd, 1) := by decide +kernel
theorem dL_law_2056 : decode cL_law 2056 = .ok (.iaload, 1) := by decide +kernel
theorem dL_law_2057 : decode cL_law 2057 = .ok (.aload_n 0, 1) := by decide +kernel
theorem dL_law_2058 : decode cL_law 2058 = .ok (.iload_n 3, 1) := by decide +kernel
theorem dL_law_2059 : decode cL_law 2059 = .ok (.iconst 2, 1) := by decide +kernel
theorem dL_law_2060 : decode cL_law 2060 = .ok (.iadd, 1) := by decide +kernel
theorem dL_law_2061 : decode cL_law 2061 = .ok (.iaload, 1) := by decide +kernel
theorem dL_law_2062 : decode cL_law 2062 = .ok (.invokevirtual 288, 3) := by decide +kernel
theorem dL_law_2065 : decode cL_law 2065 = .ok (.pop, 1) := by decide +kernel
theorem dL_law_2066 : decode cL_law 2066 = .ok (.goto 327, 3) := by decide +kernel
theorem dL_law_2069 : decode cL_law 2069 = .ok (.aload_n 1, 1) := by decide +kernel
theorem dL_law_2070 : decode cL_law 2070 = .ok (.aload_n 0, 1) := by decide +kernel
theorem dL_law_2071 : decode cL_law 2071 = .ok (.iload_n 3, 1) := by decide +kernel
theorem dL_law_2072 : decode cL_law 2072 = .ok (.iconst 1, 1) := by decide +kernel
theorem dL_law_2073 : decode cL_law 2073 = .ok (.iadd, 1) := by decide +kernel
theorem dL_law_2074 : decode cL_law 2074 = .ok (.iaload, 1) := by decide +kernel
theorem dL_law_2075 : decode cL_law 2075 = .ok (.aload_n 0, 1) := by decide +kernel
theorem dL_law_2076 : decode cL_law 2076 = .ok (.iload_n 3, 1) := by decide +kernel
theorem dL_law_2077 : decode cL_law 2077 = .ok (.iconst 2, 1) := by decide +kernel
theorem dL_law_2078 : decode cL_law 2078 = .ok (.iadd, 1) := by decide +kernel
theorem dL_law_2079 : decode cL_law 2079 = .ok (.iaload, 1) := by decide +kernel
theorem dL_law_2080 : decode cL_law 2080 = .ok (.aload_n 0, 1) := by decide +kernel
theorem dL_law_2081 : decode cL_law 2081 = .ok (.iload_n 3, 1) := by decide +kernel
theorem dL_law_2082 : decode cL_law 2082 = .ok (.iconst 3, 1) := by decide +kernel
theorem dL_law_2083 : decode cL_law 2083 = .ok (.iadd, 1) := by decide +kernel
theorem dL_law_2084 : decode cL_law 2084 = .ok (.iaload, 1) := by decide +kernel
theorem dL_law_2085 : decode cL_law 2085 = .ok (.invokevirtual 289, 3) := by decide +kernel
theorem dL_law_2088 : decode cL_law 2088 = .ok (.pop, 1) := by decide +kernel
theorem dL_law_2089 : decode cL_law 2089 = .ok (.aload_n 2, 1) := by decide +kernel
theorem dL_law_2090 : decode cL_law 2090 = .ok (.aload_n 0, 1) := by decide +kernel
theorem dL_law_2091 : decode cL_law 2091 = .ok (.iload_n 3, 1) := by decide +kernel
theorem dL_law_2092 : decode cL_law 2092 = .ok (.iconst 1, 1) := by decide +kernel
theorem dL_law_2093 : decode cL_law 2093 = .ok (.iadd, 1) := by decide +kernel
theorem dL_law_2094 : decode cL_law 2094 = .ok (.iaload, 1) := by decide +kernel
theorem dL_law_2095 : decode cL_law 2095 = .ok (.aload_n 0, 1) := by decide +kernel
theorem dL_law_2096 : decode cL_law 2096 = .ok (.iload_n 3, 1) := by decide +kernel
theorem dL_law_2097 : decode cL_law 2097 = .ok (.iconst 2, 1) := by decide +kernel
theorem dL_law_2098 : decode cL_law 2098 = .ok (.iadd, 1) := by decide +kernel
theorem dL_law_2099 : decode cL_law 2099 = .ok (.iaload, 1) := by decide +kernel
theorem dL_law_2100 : decode cL_law 2100 = .ok (.aload_n 0, 1) := by decide +kernel
theorem dL_law_2101 : decode cL_law 2101 = .ok (.iload_n 3, 1) := by decide +kernel
theorem dL_law_2102 : decode cL_law 2102 = .ok (.iconst 3, 1) := by decide +kernel
theorem dL_law_2103 : decode cL_law 2103 = .ok (.iadd, 1) := by decide +kernel
theorem dL_law_2104 : decode cL_law 2104 = .ok (.iaload, 1) := by decide +kernel
theorem dL_law_2105 : decode cL_law 2105 = .ok (.invokevirtual 292, 3) := by decide +kernel
theorem dL_law_2108 : decode cL_law 2108 = .ok (.pop, 1) := by decide +kernel
theorem dL_law_2109 : decode cL_law 2109 = .ok (.goto 284, 3) := by decide +kernel
theorem dL_law_2112 : decode cL_law 2112 = .ok (.aload_n 1, 1) := by decide +kernel
theorem dL_law_2113 : decode cL_law 2113 = .ok (.aload_n 0, 1) := by decide +kernel
theorem dL_law_2114 : decode cL_law 2114 = .ok (.iload_n 3, 1) := by decide +kernel
theorem dL_law_2115 : decode cL_law 2115 = .ok (.iconst 1, 1) := by decide +kernel
theorem dL_law_2116 : decode cL_law 2116 = .ok (.iadd, 1) := by decide +kernel
theorem dL_law_2117 : decode cL_law 2117 = .ok (.iaload, 1) := by decide +kernel
theorem dL_law_2118 : decode cL_law 2118 = .ok (.aload_n 0, 1) := by decide +kernel
theorem dL_law_2119 : decode cL_law 2119 = .ok (.iload_n 3, 1) := by decide +kernel
theorem dL_law_2120 : decode cL_law 2120 = .ok (.iconst 2, 1) := by decide +kernel
theorem dL_law_2121 : decode cL_law 2121 = .ok (.iadd, 1) := by decide +kernel
theorem dL_law_2122 : decode cL_law 2122 = .ok (.iaload, 1) := by decide +kernel
theorem dL_law_2123 : decode cL_law 2123 = .ok (.invokevirtual 293, 3) := by decide +kernel
theorem dL_law_2126 : decode cL_law 2126 = .ok (.pop, 1) := by decide +kernel
theorem dL_law_2127 : decode cL_law 2127 = .ok (.aload_n 2, 1) := by decide +kernel
theorem dL_law_2128 : decode cL_law 2128 = .ok (.aload_n 0, 1) := by decide +kernel
theorem dL_law_2129 : decode cL_law 2129 = .ok (.iload_n 3, 1) := by decide +kernel
theorem dL_law_2130 : decode cL_law 2130 = .ok (.iconst 1, 1) := by decide +kernel
theorem dL_law_2131 : decode cL_law 2131 = .ok (.iadd, 1) := by decide +kernel
theorem dL_law_2132 : decode cL_law 2132 = .ok (.iaload, 1) := by decide +kernel
theorem dL_law_2133 : decode cL_law 2133 = .ok (.aload_n 0, 1) := by decide +kernel
theorem dL_law_2134 : decode cL_law 2134 = .ok (.iload_n 3, 1) := by decide +kernel
theorem dL_law_2135 : decode cL_law 2135 = .ok (.iconst 2, 1) := by decide +kernel
theorem dL_law_2136 : decode cL_law 2136 = .ok (.iadd, 1) := by decide +kernel
theorem dL_law_2137 : decode cL_law 2137 = .ok (.iaload, 1) := by decide +kernel
theorem dL_law_2138 : decode cL_law 2138 = .ok (.invokevirtual 296, 3) := by decide +kernel
theorem dL_law_2141 : decode cL_law 2141 = .ok (.pop, 1) := by decide +kernel
theorem dL_law_2142 : decode cL_law 2142 = .ok (.goto 251, 3) := by decide +kernel
theorem dL_law_2145 : decode cL_law 2145 = .ok (.aload_n 1, 1) := by decide +kernel
theorem dL_law_2146 : decode cL_law 2146 = .ok (.aload_n 0, 1) := by decide +kernel
theorem dL_law_2147 : decode cL_law 2147 = .ok (.iload_n 3, 1) := by decide +kernel
theorem dL_law_2148 : decode cL_law 2148 = .ok (.iconst 1, 1) := by decide +kernel
theorem dL_law_2149 : decode cL_law 2149 = .ok (.iadd, 1) := by decide +kernel
theorem dL_law_2150 : decode cL_law 2150 = .ok (.iaload, 1) := by decide +kernel
theorem dL_law_2151 : decode cL_law 2151 = .ok (.invokevirtual 297, 3) := by decide +kernel
theorem dL_law_2154 : decode cL_law 2154 = .ok (.pop, 1) := by decide +kernel
theorem dL_law_2155 : decode cL_law 2155 = .ok (.aload_n 2, 1) := by decide +kernel
theorem dL_law_2156 : decode cL_law 2156 = .ok (.aload_n 0, 1) := by decide +kernel
theorem dL_law_2157 : decode cL_law 2157 = .ok (.iload_n 3, 1) := by decide +kernel
theorem dL_law_2158 : decode cL_law 2158 = .ok (.iconst 1, 1) := by decide +kernel
theorem dL_law_2159 : decode cL_law 2159 = .ok (.iadd, 1) := by decide +kernel
theorem dL_law_2160 : decode cL_law 2160 = .ok (.iaload, 1) := by decide +kernel
theorem dL_law_2161 : decode cL_law 2161 = .ok (.invokevirtual 300, 3) := by decide +kernel
theorem dL_law_2164 : decode cL_law 2164 = .ok (.pop, 1) := by decide +kernel
theorem dL_law_2165 : decode cL_law 2165 = .ok (.goto 228, 3) := by decide +kernel
theorem dL_law_2168 : decode cL_law 2168 = .ok (.aload_n 1, 1) := by decide +kernel
theorem dL_law_2169 : decode cL_law 2169 = .ok (.aload_n 0, 1) := by decide +kernel
theorem dL_law_2170 : decode cL_law 2170 = .ok (.iload_n 3, 1) := by decide +kernel
theorem dL_law_2171 : decode cL_law 2171 = .ok (.iconst 1, 1) := by decide +kernel
theorem dL_law_2172 : decode cL_law 2172 = .ok (.iadd, 1) := by decide +kernel
theorem dL_law_2173 : decode cL_law 2173 = .ok (.iaload, 1) := by decide +kernel
theorem dL_law_2174 : decode cL_law 2174 = .ok (.invokevirtual 301, 3) := by decide +kernel
theorem dL_law_2177 : decode cL_law 2177 = .ok (.pop, 1) := by decide +kernel
theorem dL_law_2178 : decode cL_law 2178 = .ok (.aload_n 2, 1) := by decide +kernel
theorem dL_law_2179 : decode cL_law 2179 = .ok (.aload_n 0, 1) := by decide +kernel
theorem dL_law_2180 : decode cL_law 2180 = .ok (.iload_n 3, 1) := by decide +kernel
theorem dL_law_2181 : decode cL_law 2181 = .ok (.iconst 1, 1) := by decide +kernel
theorem dL_law_2182 : decode cL_law 2182 = .ok (.iadd, 1) := by decide +kernel
theorem dL_law_2183 : decode cL_law 2183 = .ok (.iaload, 1) := by decide +kernel
theorem dL_law_2184 : decode cL_law 2184 = .ok (.invokevirtual 304, 3) := by decide +kernel
theorem dL_law_2187 : decode cL_law 2187 = .ok (.pop, 1) := by decide +kernel
theorem dL_law_2188 : decode cL_law 2188 = .ok (.goto 205, 3) := by decide +kernel
theorem dL_law_2191 : decode cL_law 2191 = .ok (.aload_n 1, 1) := by decide +kernel
theorem dL_law_2192 : decode cL_law 2192 = .ok (.aload_n 0, 1) := by decide +kernel
theorem dL_law_2193 : decode cL_law 2193 = .ok (.iload_n 3, 1) := by decide +kernel
theorem dL_law_2194 : decode cL_law 2194 = .ok (.iconst 1, 1) := by decide +kernel
theorem dL_law_2195 : decode cL_law 2195 = .ok (.iadd, 1) := by decide +kernel
theorem dL_law_2196 : decode cL_law 2196 = .ok (.iaload, 1) := by decide +kernel
theorem dL_law_2197 : decode cL_law 2197 = .ok (.invokevirtual 305, 3) := by decide +kernel
theorem dL_law_2200 : decode cL_law 2200 = .ok (.pop, 1) := by decide +kernel
theorem dL_law_2201 : decode cL_law 2201 = .ok (.aload_n 2, 1) := by decide +kernel
theorem dL_law_2202 : decode cL_law 2202 = .ok (.aload_n 0, 1) := by decide +kernel
theorem dL_law_2203 : decode cL_law 2203 = .ok (.iload_n 3, 1) := by decide +kernel
theorem dL_law_2204 : decode cL_law 2204 = .ok (.iconst 1, 1) := by decide +kernel
theorem dL_law_2205 : decode cL_law 2205 = .ok (.iadd, 1) := by decide +kernel
theorem dL_law_2206 : decode cL_law 2206 = .ok (.iaload, 1) := by decide +kernel
theorem dL_law_2207 : decode cL_law 2207 = .ok (.invokevirtual 308, 3) := by decide +kernel
theorem dL_law_2210 : decode cL_law 2210 = .ok (.pop, 1) := by decide +kernel
theorem dL_law_2211 : decode cL_law 2211 = .ok (.goto 182, 3) := by decide +kernel
theorem dL_law_2214 : decode cL_law 2214 = .ok (.aload_n 1, 1) := by decide +kernel
theorem dL_law_2215 : decode cL_law 2215 = .ok (.aload_n 0, 1) := by decide +kernel
theorem dL_law_2216 : decode cL_law 2216 = .ok (.iload_n 3, 1) := by decide +kernel
theorem dL_law_2217 : decode cL_law 2217 = .ok (.iconst 1, 1) := by decide +kernel
theorem dL_law_2218 : decode cL_law 2218 = .ok (.iadd, 1) := by decide +kernel
theorem dL_law_2219 : decode cL_law 2219 = .ok (.iaload, 1) := by decide +kernel
theorem dL_law_2220 : decode cL_law 2220 = .ok (.aload_n 0, 1) := by decide +kernel
theorem dL_law_2221 : decode cL_law 2221 = .ok (.iload_n 3, 1) := by decide +kernel
theorem dL_law_2222 : decode cL_law 2222 = .ok (.iconst 2, 1) := by decide +kernel
theorem dL_law_2223 : decode cL_law 2223 = .ok (.iadd, 1) := by decide +kernel
theorem dL_law_2224 : decode cL_law 2224 = .ok (.iaload, 1) := by decide +kernel
theorem dL_law_2225 : decode cL_law 2225 = .ok (.aload_n 0, 1) := by decide +kernel
theorem dL_law_2226 : decode cL_law 2226 = .ok (.iload_n 3, 1) := by decide +kernel
theorem dL_law_2227 : decode cL_law 2227 = .ok (.iconst 3, 1) := by decide +kernel
theorem dL_law_2228 : decode cL_law 2228 = .ok (.iadd, 1) := by decide +kernel
theorem dL_law_2229 : decode cL_law 2229 = .ok (.iaload, 1) := by decide +kernel
theorem dL_law_2230 : decode cL_law 2230 = .ok (.invokevirtual 309, 3) := by decide +kernel
theorem dL_law_2233 : decode cL_law 2233 = .ok (.pop, 1) := by decide +kernel
theorem dL_law_2234 : decode cL_law 2234 = .ok (.aload_n 2, 1) := by decide +kernel
theorem dL_law_2235 : decode cL_law 2235 = .ok (.aload_n 0, 1) := by decide +kernel
theorem dL_law_2236 : decode cL_law 2236 = .ok (.iload_n 3, 1) := by decide +kernel
theorem dL_law_2237 : decode cL_law 2237 = .ok (.iconst 1, 1) := by decide +kernel
theorem dL_law_2238 : decode cL_law 2238 = .ok (.iadd, 1) := by decide +kernel
theorem dL_law_2239 : decode cL_law 2239 = .ok (.iaload, 1) := by decide +kernel
theorem dL_law_2240 : decode cL_law 2240 = .ok (.aload_n 0, 1) := by decide +kernel
theorem dL_law_2241 : decode cL_law 2241 = .ok (.iload_n 3, 1) := by decide +kernel
theorem dL_law_2242 : decode cL_law 2242 = .ok (.iconst 2, 1) := by decide +kernel
theorem dL_law_2243 : decode cL_law 2243 = .ok (.iadd, 1) := by decide +kernel
theorem dL_law_2244 : decode cL_law 2244 = .ok (.iaload, 1) := by decide +kernel
theorem dL_law_2245 : decode cL_law 2245 = .ok (.aload_n 0, 1) := by decide +kernel
theorem dL_law_2246 : decode cL_law 2246 = .ok (.iload_n 3, 1) := by decide +kernel
theorem dL_law_2247 : decode cL_law 2247 = .ok (.iconst 3, 1) := by decide +kernel
theorem dL_law_2248 : decode cL_law 2248 = .ok (.iadd, 1) := by decide +kernel
theorem dL_law_2249 : decode cL_law 2249 = .ok (.iaload, 1) := by decide +kernel
theorem dL_law_2250 : decode cL_law 2250 = .ok (.invokevirtual 312, 3) := by decide +kernel
theorem dL_law_2253 : decode cL_law 2253 = .ok (.pop, 1) := by decide +kernel
theorem dL_law_2254 : decode cL_law 2254 = .ok (.goto 139, 3) := by decide +kernel
theorem dL_law_2257 : decode cL_law 2257 = .ok (.aload_n 1, 1) := by decide +kernel
theorem dL_law_2258 : decode cL_law 2258 = .ok (.aload_n 0, 1) := by decide +kernel
theorem dL_law_2259 : decode cL_law 2259 = .ok (.iload_n 3, 1) := by decide +kernel
theorem dL_law_2260 : decode cL_law 2260 = .ok (.iconst 1, 1) := by decide +kernel
theorem dL_law_2261 : decode cL_law 2261 = .ok (.iadd, 1) := by decide +kernel
theorem dL_law_2262 : decode cL_law 2262 = .ok (.iaload, 1) := by decide +kernel
theorem dL_law_2263 : decode cL_law 2263 = .ok (.aload_n 0, 1) := by decide +kernel
theorem dL_law_2264 : decode cL_law 2264 = .ok (.iload_n 3, 1) := by decide +kernel
theorem dL_law_2265 : decode cL_law 2265 = .ok (.iconst 2, 1) := by decide +kernel
theorem dL_law_2266 : decode cL_law 2266 = .ok (.iadd, 1) := by decide +kernel
theorem dL_law_2267 : decode cL_law 2267 = .ok (.iaload, 1) := by decide +kernel
theorem dL_law_2268 : decode cL_law 2268 = .ok (.aload_n 0, 1) := by decide +kernel
theorem dL_law_2269 : decode cL_law 2269 = .ok (.iload_n 3, 1) := by decide +kernel
theorem dL_law_2270 : decode cL_law 2270 = .ok (.iconst 3, 1) := by decide +kernel
theorem dL_law_2271 : decode cL_law 2271 = .ok (.iadd, 1) := by decide +kernel
theorem dL_law_2272 : decode cL_law 2272 = .ok (.iaload, 1) := by decide +kernel
theorem dL_law_2273 : decode cL_law 2273 = .ok (.i2l, 1) := by decide +kernel
theorem dL_law_2274 : decode cL_law 2274 = .ok (.bipush 32, 2) := by decide +kernel
theorem dL_law_2276 : decode cL_law 2276 = .ok (.lshl, 1) := by decide +kernel
theorem dL_law_2277 : decode cL_law 2277 = .ok (.aload_n 0, 1) := by decide +kernel
theorem dL_law_2278 : decode cL_law 2278 = .ok (.iload_n 3, 1) := by decide +kernel
theorem dL_law_2279 : decode cL_law 2279 = .ok (.iconst 4, 1) := by decide +kernel
theorem dL_law_2280 : decode cL_law 2280 = .ok (.iadd, 1) := by decide +kernel
theorem dL_law_2281 : decode cL_law 2281 = .ok (.iaload, 1) := by decide +kernel
theorem dL_law_2282 : decode cL_law 2282 = .ok (.i2l, 1) := by decide +kernel
theorem dL_law_2283 : decode cL_law 2283 = .ok (.ldc2_w 313, 3) := by decide +kernel
theorem dL_law_2286 : decode cL_law 2286 = .ok (.land, 1) := by decide +kernel
theorem dL_law_2287 : decode cL_law 2287 = .ok (.lor, 1) := by decide +kernel
theorem dL_law_2288 : decode cL_law 2288 = .ok (.invokevirtual 315, 3) := by decide +kernel
theorem dL_law_2291 : decode cL_law 2291 = .ok (.pop, 1) := by decide +kernel
theorem dL_law_2292 : decode cL_law 2292 = .ok (.aload_n 2, 1) := by decide +kernel
theorem dL_law_2293 : decode cL_law 2293 = .ok (.aload_n 0, 1) := by decide +kernel
theorem dL_law_2294 : decode cL_law 2294 = .ok (.iload_n 3, 1) := by decide +kernel
theorem dL_law_2295 : decode cL_law 2295 = .ok (.iconst 1, 1) := by decide +kernel
theorem dL_law_2296 : decode cL_law 2296 = .ok (.iadd, 1) := by decide +kernel
theorem dL_law_2297 : decode cL_law 2297 = .ok (.iaload, 1) := by decide +kernel
theorem dL_law_2298 : decode cL_law 2298 = .ok (.aload_n 0, 1) := by decide +kernel
theorem dL_law_2299 : decode cL_law 2299 = .ok (.iload_n 3, 1) := by decide +kernel
theorem dL_law_2300 : decode cL_law 2300 = .ok (.iconst 2, 1) := by decide +kernel
theorem dL_law_2301 : decode cL_law 2301 = .ok (.iadd, 1) := by decide +kernel
theorem dL_law_2302 : decode cL_law 2302 = .ok (.iaload, 1) := by decide +kernel
theorem dL_law_2303 : decode cL_law 2303 = .ok (.aload_n 0, 1) := by decide +kernel
theorem dL_law_2304 : decode cL_law 2304 = .ok (.iload_n 3, 1) := by decide +kernel
theorem dL_law_2305 : decode cL_law 2305 = .ok (.iconst 3, 1) := by decide +kernel
theorem dL_law_2306 : decode cL_law 2306 = .ok (.iadd, 1) := by decide +kernel
theorem dL_law_2307 : decode cL_law 2307 = .ok (.iaload, 1) := by decide +kernel
theorem dL_law_2308 : decode cL_law 2308 = .ok (.i2l, 1) := by decide +kernel
theorem dL_law_2309 : decode cL_law 2309 = .ok (.bipush 32, 2) := by decide +kernel
theorem dL_law_2311 : decode cL_law 2311 = .ok (.lshl, 1) := by decide +kernel
theorem dL_law_2312 : decode cL_law 2312 = .ok (.aload_n 0, 1) := by decide +kernel
theorem dL_law_2313 : decode cL_law 2313 = .ok (.iload_n 3, 1) := by decide +kernel
theorem dL_law_2314 : decode cL_law 2314 = .ok (.iconst 4, 1) := by decide +kernel
theorem dL_law_2315 : decode cL_law 2315 = .ok (.iadd, 1) := by decide +kernel
theorem dL_law_2316 : decode cL_law 2316 = .ok (.iaload, 1) := by decide +kernel
theorem dL_law_2317 : decode cL_law 2317 = .ok (.i2l, 1) := by decide +kernel
theorem dL_law_2318 : decode cL_law 2318 = .ok (.ldc2_w 313, 3) := by decide +kernel
theorem dL_law_2321 : decode cL_law 2321 = .ok (.land, 1) := by decide +kernel
theorem dL_law_2322 : decode cL_law 2322 = .ok (.lor, 1) := by decide +kernel
theorem dL_law_2323 : decode cL_law 2323 = .ok (.invokevirtual 319, 3) := by decide +kernel
theorem dL_law_2326 : decode cL_law 2326 = .ok (.pop, 1) := by decide +kernel
theorem dL_law_2327 : decode cL_law 2327 = .ok (.goto 66, 3) := by decide +kernel
theorem dL_law_2330 : decode cL_law 2330 = .ok (.aload_n 1, 1) := by decide +kernel
theorem dL_law_2331 : decode cL_law 2331 = .ok (.aload_n 0, 1) := by decide +kernel
theorem dL_law_2332 : decode cL_law 2332 = .ok (.iload_n 3, 1) := by decide +kernel
theorem dL_law_2333 : decode cL_law 2333 = .ok (.iconst 1, 1) := by decide +kernel
theorem dL_law_2334 : decode cL_law 2334 = .ok (.iadd, 1) := by decide +kernel
theorem dL_law_2335 : decode cL_law 2335 = .ok (.iaload, 1) := by decide +kernel
theorem dL_law_2336 : decode cL_law 2336 = .ok (.aload_n 0, 1) := by decide +kernel
theorem dL_law_2337 : decode cL_law 2337 = .ok (.iload_n 3, 1) := by decide +kernel
theorem dL_law_2338 : decode cL_law 2338 = .ok (.iconst 2, 1) := by decide +kernel
theorem dL_law_2339 : decode cL_law 2339 = .ok (.iadd, 1) := by decide +kernel
theorem dL_law_2340 : decode cL_law 2340 = .ok (.iaload, 1) := by decide +kernel
theorem dL_law_2341 : decode cL_law 2341 = .ok (.aload_n 0, 1) := by decide +kernel
theorem dL_law_2342 : decode cL_law 2342 = .ok (.iload_n 3, 1) := by decide +kernel
theorem dL_law_2343 : decode cL_law 2343 = .ok (.iconst 3, 1) := by decide +kernel
theorem dL_law_2344 : decode cL_law 2344 = .ok (.iadd, 1) := by decide +kernel
theorem dL_law_2345 : decode cL_law 2345 = .ok (.iaload, 1) := by decide +kernel
theorem dL_law_2346 : decode cL_law 2346 = .ok (.aload_n 0, 1) := by decide +kernel
theorem dL_law_2347 : decode cL_law 2347 = .ok (.iload_n 3, 1) := by decide +kernel
theorem dL_law_2348 : decode cL_law 2348 = .ok (.iconst 4, 1) := by decide +kernel
theorem dL_law_2349 : decode cL_law 2349 = .ok (.iadd, 1) := by decide +kernel
theorem dL_law_2350 : decode cL_law 2350 = .ok (.iaload, 1) := by decide +kernel
theorem dL_law_2351 : decode cL_law 2351 = .ok (.aload_n 0, 1) := by decide +kernel
theorem dL_law_2352 : decode cL_law 2352 = .ok (.iload_n 3, 1) := by decide +kernel
theorem dL_law_2353 : decode cL_law 2353 = .ok (.iconst 5, 1) := by decide +kernel
theorem dL_law_2354 : decode cL_law 2354 = .ok (.iadd, 1) := by decide +kernel
theorem dL_law_2355 : decode cL_law 2355 = .ok (.iaload, 1) := by decide +kernel
theorem dL_law_2356 : decode cL_law 2356 = .ok (.invokevirtual 320, 3) := by decide +kernel
theorem dL_law_2359 : decode cL_law 2359 = .ok (.aload_n 2, 1) := by decide +kernel
theorem dL_law_2360 : decode cL_law 2360 = .ok (.aload_n 0, 1) := by decide +kernel
theorem dL_law_2361 : decode cL_law 2361 = .ok (.iload_n 3, 1) := by decide +kernel
theorem dL_law_2362 : decode cL_law 2362 = .ok (.iconst 1, 1) := by decide +kernel
theorem dL_law_2363 : decode cL_law 2363 = .ok (.iadd, 1) := by decide +kernel
theorem dL_law_2364 : decode cL_law 2364 = .ok (.iaload, 1) := by decide +kernel
theorem dL_law_2365 : decode cL_law 2365 = .ok (.aload_n 0, 1) := by decide +kernel
theorem dL_law_2366 : decode cL_law 2366 = .ok (.iload_n 3, 1) := by decide +kernel
theorem dL_law_2367 : decode cL_law 2367 = .ok (.iconst 2, 1) := by decide +kernel
theorem dL_law_2368 : decode cL_law 2368 = .ok (.iadd, 1) := by decide +kernel
theorem dL_law_2369 : decode cL_law 2369 = .ok (.iaload, 1) := by decide +kernel
theorem dL_law_2370 : decode cL_law 2370 = .ok (.aload_n 0, 1) := by decide +kernel
theorem dL_law_2371 : decode cL_law 2371 = .ok (.iload_n 3, 1) := by decide +kernel
theorem dL_law_2372 : decode cL_law 2372 = .ok (.iconst 3, 1) := by decide +kernel
theorem dL_law_2373 : decode cL_law 2373 = .ok (.iadd, 1) := by decide +kernel
theorem dL_law_2374 : decode cL_law 2374 = .ok (.iaload, 1) := by decide +kernel
theorem dL_law_2375 : decode cL_law 2375 = .ok (.aload_n 0, 1) := by decide +kernel
theorem dL_law_2376 : decode cL_law 2376 = .ok (.iload_n 3, 1) := by decide +kernel
theorem dL_law_2377 : decode cL_law 2377 = .ok (.iconst 4, 1) := by decide +kernel
theorem dL_law_2378 : decode cL_law 2378 = .ok (.iadd, 1) := by decide +kernel
theorem dL_law_2379 : decode cL_law 2379 = .ok (.iaload, 1) := by decide +kernel
theorem dL_law_2380 : decode cL_law 2380 = .ok (.aload_n 0, 1) := by decide +kernel
theorem dL_law_2381 : decode cL_law 2381 = .ok (.iload_n 3, 1) := by decide +kernel
theorem dL_law_2382 : decode cL_law 2382 = .ok (.iconst 5, 1) := by decide +kernel
theorem dL_law_2383 : decode cL_law 2383 = .ok (.iadd, 1) := by decide +kernel
theorem dL_law_2384 : decode cL_law 2384 = .ok (.iaload, 1) := by decide +kernel
theorem dL_law_2385 : decode cL_law 2385 = .ok (.invokevirtual 323, 3) := by decide +kernel
theorem dL_law_2388 : decode cL_law 2388 = .ok (.if_icmp .eq 5, 3) := by decide +kernel
theorem g_pop2L {p : Program} {l : Launch} {e : Env} {s : State} {m : MethodId} {args : Array Value} {below : List Frame} {meth : Method} {c : Code} {own : String} {cc : ByteArray} {nL : Nat} {G : va_G} {cy : Nat → ClassId} {A : Nat → Prop} {Rm : Room} {cells slots : Nat} {Q : State → Prop} {L : List Nat} {M : Nat → va_E} {pc : Nat} {lv : List (Nat × Value)} {st : List Value} (X : Cx p s m args meth c own cc nL G cy A) {x : Int64} (hd : decode cc pc = .ok (.pop2, 1)) (k : Go p l e Rm s m args below meth c nL G A cells slots Q L M (pc + 1) lv st) : Go p l e Rm s m args below meth c nL G A cells slots Q L M pc lv (.long x :: st) := fun H locs ls hP hD hS hl => lv_pop2_2 X.1 X.2.1 hd rfl (k H locs ls hP hD hS hl)
theorem g_sld {p : Program} {l : Launch} {e : Env} {s : State} {m : MethodId} {args : Array Value} {below : List Frame} {meth : Method} {c : Code} {own : String} {cc : ByteArray} {nL : Nat} {G : va_G} {cy : Nat → ClassId} {A : Nat → Prop} {Rm : Room} {cells slots : Nat} {Q : State → Prop} {L : List Nat} {M : Nat → va_E} {pc : Nat} {lv : List (Nat × Value)} {st : List Value} (X : Cx p s m args meth c own cc nL G cy A) {b Ln : Nat} {xs : Nat → Int32} {i v : Int32} (hX : va_X b Ln xs s s.heap) (hbl : b < s.heap.size) (hbA : ¬ A b) (hin : vp_in i Ln) (hv : xs i.toNatClampNeg = v) (hd : decode cc pc = .ok (.iaload, 1)) (k : Go p l e Rm s m args below meth c nL G A cells slots Q L M (pc + 1) lv (.int v :: st)) : Go p l e Rm s m args below meth c nL G A cells slots Q L M pc lv (.int i :: .ref b :: st) := by
  subst hv
  exact fun H locs ls hP hD hS hl => va_sld X.1 X.2.1 hX hbl hbA hS hin hd (k H locs ls hP hD hS hl)
theorem g_slen {p : Program} {l : Launch} {e : Env} {s : State} {m : MethodId} {args : Array Value} {below : List Frame} {meth : Method} {c : Code} {own : String} {cc : ByteArray} {nL : Nat} {G : va_G} {cy : Nat → ClassId} {A : Nat → Prop} {Rm : Room} {cells slots : Nat} {Q : State → Prop} {L : List Nat} {M : Nat → va_E} {pc : Nat} {lv : List (Nat × Value)} {st : List Value} (X : Cx p s m args meth c own cc nL G cy A) {b Ln : Nat} {xs : Nat → Int32} {v : Int32} (hX : va_X b Ln xs s s.heap) (hbl : b < s.heap.size) (hbA : ¬ A b) (hv : Int32.ofNat Ln = v) (hd : decode cc pc = .ok (.arraylength, 1)) (k : Go p l e Rm s m args below meth c nL G A cells slots Q L M (pc + 1) lv (.int v :: st)) : Go p l e Rm s m args below meth c nL G A cells slots Q L M pc lv (.ref b :: st) := by
  subst hv
  exact fun H locs ls hP hD hS hl => va_slen X.1 X.2.1 hX hbl hbA hS hd (k H locs ls hP hD hS hl)
def Wd (cy : Nat → ClassId) (x0 m0 : Nat) (L : List Nat) (M : Nat → va_E) : Prop := ∃ (a : Nat → Nat) (act : Nat → Bool) (C : Nat → Nat → Int32) (D : Nat → Nat → Int64) (R : Nat → Nat → Option Nat), WI L M a act (ent cy a C D R) ∧ Inv C ∧ AB act ∧ RA a act R ∧ NowOk (C 3) (C 27) (C 29) ∧ LK act (C 103) (C 137) (C 138) (C 80) (C 82) (C 84) (C 86) ∧ a 0 = x0 ∧ a 100 = m0
theorem nI_m6 {n : Nat} (h : n < 2 ^ 30) : (nI n - 6).toInt = (n : Int) - 6 := by
  have a := nI_toInt (n := n) (by omega)
  have k : (6 : Int32).toInt = 6 := (by decide)
  rw [Jvm.Kit.i32_sub (by omega) (by omega), a, k]
theorem wd1103 : Cond.methodLink RL 13 yX7_feed ∈ tblG := gw2 61 (by decide +kernel) (by decide +kernel)
theorem wd1104 : Cond.instanceMethod yX7_feed ∈ tblG := gw2 62 (by decide +kernel) (by decide +kernel)
theorem wd1105 : Cond.selects RX7 yX7_feed yX7_feed ∈ tblG := gw2 63 (by decide +kernel) (by decide +kernel)
theorem wd1106 : Cond.code yX7_feed cX7_feed 6 (some .int) ∈ tblG := gw2 64 (by decide +kernel) (by decide +kernel)
theorem pl_X7_feed : Plain yX7_feed 5 := ⟨by decide, by decide, by decide +kernel⟩
theorem lk_L_13 : LkV RL 13 7 yX7_feed cX7_feed 6 (some .int) 5 := ⟨⟨TX7, 12, rfl⟩, wd1103, wd1104, wd1105, wd207, wd1106, pl_X7_feed⟩
theorem wd1107 : Cond.methodLink RL 17 yX8_feed ∈ tblG := gw6 171 (by decide +kernel) (by decide +kernel)
theorem wd1108 : Cond.instanceMethod yX8_feed ∈ tblG := gw6 172 (by decide +kernel) (by decide +kernel)
theorem wd1109 : Cond.selects RX8 yX8_feed yX8_feed ∈ tblG := gw6 173 (by decide +kernel) (by decide +kernel)
theorem wd1110 : Cond.code yX8_feed cX8_feed 7 (some .int) ∈ tblG := gw6 174 (by decide +kernel) (by decide +kernel)
theorem pl_X8_feed : Plain yX8_feed 5 := ⟨by decide, by decide, by decide +kernel⟩
theorem lk_L_17 : LkV RL 17 8 yX8_feed cX8_feed 7 (some .int) 5 := ⟨⟨TX8, 41, rfl⟩, wd1107, wd1108, wd1109, wd649, wd1110, pl_X8_feed⟩
theorem wd1111 : Cond.methodLink RL 18 yX7_end ∈ tblG := gw2 69 (by decide +kernel) (by decide +kernel)
theorem wd1112 : Cond.instanceMethod yX7_end ∈ tblG := gw2 70 (by decide +kernel) (by decide +kernel)
theorem wd1113 : Cond.selects RX7 yX7_end yX7_end ∈ tblG := gw2 71 (by decide +kernel) (by decide +kernel)
theorem wd1114 : Cond.code yX7_end cX7_end 2 (some .int) ∈ tblG := gw2 72 (by decide +kernel) (by decide +kernel)
theorem pl_X7_end : Plain yX7_end 1 := ⟨by decide, by decide, by decide +kernel⟩
theorem lk_L_18 : LkV RL 18 7 yX7_end cX7_end 2 (some .int) 1 := ⟨⟨TX7, 12, rfl⟩, wd1111, wd1112, wd1113, wd207, wd1114, pl_X7_end⟩
theorem wd1115 : Cond.methodLink RL 22 yX8_end ∈ tblG := gw6 175 (by decide +kernel) (by decide +kernel)
theorem wd1116 : Cond.instanceMethod yX8_end ∈ tblG := gw6 176 (by decide +kernel) (by decide +kernel)
theorem wd1117 : Cond.selects RX8 yX8_end yX8_end ∈ tblG := gw6 177 (by decide +kernel) (by decide +kernel)
theorem wd1118 : Cond.code yX8_end cX8_end 2 (some .int) ∈ tblG := gw6 178 (by decide +kernel) (by decide +kernel)
theorem pl_X8_end : Plain yX8_end 1 := ⟨by decide, by decide, by decide +kernel⟩
theorem lk_L_22 : LkV RL 22 8 yX8_end cX8_end 2 (some .int) 1 := ⟨⟨TX8, 41, rfl⟩, wd1115, wd1116, wd1117, wd649, wd1118, pl_X8_end⟩
theorem wd1119 : Cond.methodLink RL 23 yX7_heath ∈ tblG := gw2 73 (by decide +kernel) (by decide +kernel)
theorem wd1120 : Cond.instanceMethod yX7_heath ∈ tblG := gw2 74 (by decide +kernel) (by decide +kernel)
theorem wd1121 : Cond.selects RX7 yX7_heath yX7_heath ∈ tblG := gw2 75 (by decide +kernel) (by decide +kernel)
theorem wd1122 : Cond.code yX7_heath cX7_heath 1 (some .int) ∈ tblG := gw2 76 (by decide +kernel) (by decide +kernel)
theorem pl_X7_heath : Plain yX7_heath 0 := ⟨by decide, by decide, by decide +kernel⟩
theorem lk_L_23 : LkV RL 23 7 yX7_heath cX7_heath 1 (some .int) 0 := ⟨⟨TX7, 12, rfl⟩, wd1119, wd1120, wd1121, wd207, wd1122, pl_X7_heath⟩
theorem wd1123 : Cond.methodLink RL 27 yX8_heath ∈ tblG := gw6 183 (by decide +kernel) (by decide +kernel)
theorem wd1124 : Cond.instanceMethod yX8_heath ∈ tblG := gw6 184 (by decide +kernel) (by decide +kernel)
theorem wd1125 : Cond.selects RX8 yX8_heath yX8_heath ∈ tblG := gw6 185 (by decide +kernel) (by decide +kernel)
theorem wd1126 : Cond.code yX8_heath cX8_heath 2 (some .int) ∈ tblG := gw6 186 (by decide +kernel) (by decide +kernel)
theorem pl_X8_heath : Plain yX8_heath 0 := ⟨by decide, by decide, by decide +kernel⟩
theorem lk_L_27 : LkV RL 27 8 yX8_heath cX8_heath 2 (some .int) 0 := ⟨⟨TX8, 41, rfl⟩, wd1123, wd1124, wd1125, wd649, wd1126, pl_X8_heath⟩
theorem wd1127 : Cond.methodLink RL 28 yX7_fault ∈ tblG := gw3 81 (by decide +kernel) (by decide +kernel)
theorem wd1128 : Cond.instanceMethod yX7_fault ∈ tblG := gw3 82 (by decide +kernel) (by decide +kernel)
theorem wd1129 : Cond.selects RX7 yX7_fault yX7_fault ∈ tblG := gw3 83 (by decide +kernel) (by decide +kernel)
theorem wd1130 : Cond.code yX7_fault cX7_fault 2 (some .int) ∈ tblG := gw3 84 (by decide +kernel) (by decide +kernel)
theorem pl_X7_fault : Plain yX7_fault 1 := ⟨by decide, by decide, by decide +kernel⟩
theorem lk_L_28 : LkV RL 28 7 yX7_fault cX7_fault 2 (some .int) 1 := ⟨⟨TX7, 12, rfl⟩, wd1127, wd1128, wd1129, wd207, wd1130, pl_X7_fault⟩
theorem wd1131 : Cond.methodLink RL 31 yX8_fault ∈ tblG := gw6 179 (by decide +kernel) (by decide +kernel)
theorem wd1132 : Cond.instanceMethod yX8_fault ∈ tblG := gw6 180 (by decide +kernel) (by decide +kernel)
theorem wd1133 : Cond.selects RX8 yX8_fault yX8_fault ∈ tblG := gw6 181 (by decide +kernel) (by decide +kernel)
theorem wd1134 : Cond.code yX8_fault cX8_fault 2 (some .int) ∈ tblG := gw6 182 (by decide +kernel) (by decide +kernel)
theorem pl_X8_fault : Plain yX8_fault 1 := ⟨by decide, by decide, by decide +kernel⟩
theorem lk_L_31 : LkV RL 31 8 yX8_fault cX8_fault 2 (some .int) 1 := ⟨⟨TX8, 41, rfl⟩, wd1131, wd1132, wd1133, wd649, wd1134, pl_X8_fault⟩
theorem wd1135 : Cond.methodLink RL 32 yX7_room ∈ tblG := gw3 85 (by decide +kernel) (by decide +kernel)
theorem wd1136 : Cond.instanceMethod yX7_room ∈ tblG := gw3 86 (by decide +kernel) (by decide +kernel)
theorem wd1137 : Cond.selects RX7 yX7_room yX7_room ∈ tblG := gw3 87 (by decide +kernel) (by decide +kernel)
theorem wd1138 : Cond.code yX7_room cX7_room 2 (some .int) ∈ tblG := gw3 88 (by decide +kernel) (by decide +kernel)
theorem pl_X7_room : Plain yX7_room 1 := ⟨by decide, by decide, by decide +kernel⟩
theorem lk_L_32 : LkV RL 32 7 yX7_room cX7_room 2 (some .int) 1 := ⟨⟨TX7, 12, rfl⟩, wd1135, wd1136, wd1137, wd207, wd1138, pl_X7_room⟩
theorem wd1139 : Cond.methodLink RL 35 yX8_room ∈ tblG := gw7 36 (by decide +kernel) (by decide +kernel)
theorem wd1140 : Cond.instanceMethod yX8_room ∈ tblG := gw7 37 (by decide +kernel) (by decide +kernel)
theorem wd1141 : Cond.selects RX8 yX8_room yX8_room ∈ tblG := gw7 38 (by decide +kernel) (by decide +kernel)
theorem wd1142 : Cond.code yX8_room cX8_room 2 (some .int) ∈ tblG := gw7 39 (by decide +kernel) (by decide +kernel)
theorem pl_X8_room : Plain yX8_room 1 := ⟨by decide, by decide, by decide +kernel⟩
theorem lk_L_35 : LkV RL 35 8 yX8_room cX8_room 2 (some .int) 1 := ⟨⟨TX8, 41, rfl⟩, wd1139, wd1140, wd1141, wd649, wd1142, pl_X8_room⟩
theorem wd1143 : Cond.methodLink RL 36 yX7_roads ∈ tblG := gw3 93 (by decide +kernel) (by decide +kernel)
theorem wd1144 : Cond.instanceMethod yX7_roads ∈ tblG := gw3 94 (by decide +kernel) (by decide +kernel)
theorem wd1145 : Cond.selects RX7 yX7_roads yX7_roads ∈ tblG := gw3 95 (by decide +kernel) (by decide +kernel)
theorem wd1146 : Cond.code yX7_roads cX7_roads 2 (some .int) ∈ tblG := gw3 96 (by decide +kernel) (by decide +kernel)
theorem pl_X7_roads : Plain yX7_roads 1 := ⟨by decide, by decide, by decide +kernel⟩
theorem lk_L_36 : LkV RL 36 7 yX7_roads cX7_roads 2 (some .int) 1 := ⟨⟨TX7, 12, rfl⟩, wd1143, wd1144, wd1145, wd207, wd1146, pl_X7_roads⟩
theorem wd1147 : Cond.methodLink RL 39 yX8_roads ∈ tblG := gw7 44 (by decide +kernel) (by decide +kernel)
theorem wd1148 : Cond.instanceMethod yX8_roads ∈ tblG := gw7 45 (by decide +kernel) (by decide +kernel)
theorem wd1149 : Cond.selects RX8 yX8_roads yX8_roads ∈ tblG := gw7 46 (by decide +kernel) (by decide +kernel)
theorem wd1150 : Cond.code yX8_roads cX8_roads 2 (some .int) ∈ tblG := gw7 47 (by decide +kernel) (by decide +kernel)
theorem pl_X8_roads : Plain yX8_roads 1 := ⟨by decide, by decide, by decide +kernel⟩
theorem lk_L_39 : LkV RL 39 8 yX8_roads cX8_roads 2 (some .int) 1 := ⟨⟨TX8, 41, rfl⟩, wd1147, wd1148, wd1149, wd649, wd1150, pl_X8_roads⟩
theorem wd1151 : Cond.methodLink RL 40 yX7_goes ∈ tblG := gw3 101 (by decide +kernel) (by decide +kernel)
theorem wd1152 : Cond.instanceMethod yX7_goes ∈ tblG := gw3 102 (by decide +kernel) (by decide +kernel)
theorem wd1153 : Cond.selects RX7 yX7_goes yX7_goes ∈ tblG := gw3 103 (by decide +kernel) (by decide +kernel)
theorem wd1154 : Cond.code yX7_goes cX7_goes 3 (some .int) ∈ tblG := gw3 104 (by decide +kernel) (by decide +kernel)
theorem pl_X7_goes : Plain yX7_goes 2 := ⟨by decide, by decide, by decide +kernel⟩
theorem lk_L_40 : LkV RL 40 7 yX7_goes cX7_goes 3 (some .int) 2 := ⟨⟨TX7, 12, rfl⟩, wd1151, wd1152, wd1153, wd207, wd1154, pl_X7_goes⟩
theorem wd1155 : Cond.methodLink RL 44 yX8_goes ∈ tblG := gw7 60 (by decide +kernel) (by decide +kernel)
theorem wd1156 : Cond.instanceMethod yX8_goes ∈ tblG := gw7 61 (by decide +kernel) (by decide +kernel)
theorem wd1157 : Cond.selects RX8 yX8_goes yX8_goes ∈ tblG := gw7 62 (by decide +kernel) (by decide +kernel)
theorem wd1158 : Cond.code yX8_goes cX8_goes 3 (some .int) ∈ tblG := gw7 63 (by decide +kernel) (by decide +kernel)
theorem pl_X8_goes : Plain yX8_goes 2 := ⟨by decide, by decide, by decide +kernel⟩
theorem lk_L_44 : LkV RL 44 8 yX8_goes cX8_goes 3 (some .int) 2 := ⟨⟨TX8, 41, rfl⟩, wd1155, wd1156, wd1157, wd649, wd1158, pl_X8_goes⟩
theorem wd1159 : Cond.methodLink RL 45 yX7_told ∈ tblG := gw3 106 (by decide +kernel) (by decide +kernel)
theorem wd1160 : Cond.instanceMethod yX7_told ∈ tblG := gw3 107 (by decide +kernel) (by decide +kernel)
theorem wd1161 : Cond.selects RX7 yX7_told yX7_told ∈ tblG := gw3 108 (by decide +kernel) (by decide +kernel)
theorem wd1162 : Cond.code yX7_told cX7_told 2 (some .int) ∈ tblG := gw3 109 (by decide +kernel) (by decide +kernel)
theorem pl_X7_told : Plain yX7_told 1 := ⟨by decide, by decide, by decide +kernel⟩
theorem lk_L_45 : LkV RL 45 7 yX7_told cX7_told 2 (some .int) 1 := ⟨⟨TX7, 12, rfl⟩, wd1159, wd1160, wd1161, wd207, wd1162, pl_X7_told⟩
theorem wd1163 : Cond.methodLink RL 48 yX8_told ∈ tblG := gw7 68 (by decide +kernel) (by decide +kernel)
theorem wd1164 : Cond.instanceMethod yX8_told ∈ tblG := gw7 69 (by decide +kernel) (by decide +kernel)
theorem wd1165 : Cond.selects RX8 yX8_told yX8_told ∈ tblG := gw7 70 (by decide +kernel) (by decide +kernel)
theorem wd1166 : Cond.code yX8_told cX8_told 2 (some .int) ∈ tblG := gw7 71 (by decide +kernel) (by decide +kernel)
theorem pl_X8_told : Plain yX8_told 1 := ⟨by decide, by decide, by decide +kernel⟩
theorem lk_L_48 : LkV RL 48 8 yX8_told cX8_told 2 (some .int) 1 := ⟨⟨TX8, 41, rfl⟩, wd1163, wd1164, wd1165, wd649, wd1166, pl_X8_told⟩
theorem wd1167 : Cond.methodLink RL 49 yX7_walker ∈ tblG := gw3 111 (by decide +kernel) (by decide +kernel)
theorem wd1168 : Cond.instanceMethod yX7_walker ∈ tblG := gw3 112 (by decide +kernel) (by decide +kernel)
theorem wd1169 : Cond.selects RX7 yX7_walker yX7_walker ∈ tblG := gw3 113 (by decide +kernel) (by decide +kernel)
theorem wd1170 : Cond.code yX7_walker cX7_walker 3 (some .int) ∈ tblG := gw3 114 (by decide +kernel) (by decide +kernel)
theorem pl_X7_walker : Plain yX7_walker 2 := ⟨by decide, by decide, by decide +kernel⟩
theorem lk_L_49 : LkV RL 49 7 yX7_walker cX7_walker 3 (some .int) 2 := ⟨⟨TX7, 12, rfl⟩, wd1167, wd1168, wd1169, wd207, wd1170, pl_X7_walker⟩
theorem wd1171 : Cond.methodLink RL 52 yX8_walker ∈ tblG := gw7 76 (by decide +kernel) (by decide +kernel)
theorem wd1172 : Cond.instanceMethod yX8_walker ∈ tblG := gw7 77 (by decide +kernel) (by decide +kernel)
theorem wd1173 : Cond.selects RX8 yX8_walker yX8_walker ∈ tblG := gw7 78 (by decide +kernel) (by decide +kernel)
theorem wd1174 : Cond.code yX8_walker cX8_walker 3 (some .int) ∈ tblG := gw7 79 (by decide +kernel) (by decide +kernel)
theorem pl_X8_walker : Plain yX8_walker 2 := ⟨by decide, by decide, by decide +kernel⟩
theorem lk_L_52 : LkV RL 52 8 yX8_walker cX8_walker 3 (some .int) 2 := ⟨⟨TX8, 41, rfl⟩, wd1171, wd1172, wd1173, wd649, wd1174, pl_X8_walker⟩
theorem wd1175 : Cond.methodLink RL 53 yX7_at ∈ tblG := gw3 122 (by decide +kernel) (by decide +kernel)
theorem wd1176 : Cond.instanceMethod yX7_at ∈ tblG := gw3 123 (by decide +kernel) (by decide +kernel)
theorem wd1177 : Cond.selects RX7 yX7_at yX7_at ∈ tblG := gw3 124 (by decide +kernel) (by decide +kernel)
theorem wd1178 : Cond.code yX7_at cX7_at 3 (some .int) ∈ tblG := gw3 125 (by decide +kernel) (by decide +kernel)
theorem pl_X7_at : Plain yX7_at 2 := ⟨by decide, by decide, by decide +kernel⟩
theorem lk_L_53 : LkV RL 53 7 yX7_at cX7_at 3 (some .int) 2 := ⟨⟨TX7, 12, rfl⟩, wd1175, wd1176, wd1177, wd207, wd1178, pl_X7_at⟩
theorem wd1179 : Cond.methodLink RL 56 yX8_at ∈ tblG := gw7 100 (by decide +kernel) (by decide +kernel)
theorem wd1180 : Cond.instanceMethod yX8_at ∈ tblG := gw7 101 (by decide +kernel) (by decide +kernel)
theorem wd1181 : Cond.selects RX8 yX8_at yX8_at ∈ tblG := gw7 102 (by decide +kernel) (by decide +kernel)
theorem wd1182 : Cond.code yX8_at cX8_at 3 (some .int) ∈ tblG := gw7 103 (by decide +kernel) (by decide +kernel)
theorem pl_X8_at : Plain yX8_at 2 := ⟨by decide, by decide, by decide +kernel⟩
theorem lk_L_56 : LkV RL 56 8 yX8_at cX8_at 3 (some .int) 2 := ⟨⟨TX8, 41, rfl⟩, wd1179, wd1180, wd1181, wd649, wd1182, pl_X8_at⟩
theorem wd1183 : Cond.methodLink RL 57 yX7_arm ∈ tblG := gw3 135 (by decide +kernel) (by decide +kernel)
theorem wd1184 : Cond.instanceMethod yX7_arm ∈ tblG := gw3 136 (by decide +kernel) (by decide +kernel)
theorem wd1185 : Cond.selects RX7 yX7_arm yX7_arm ∈ tblG := gw3 137 (by decide +kernel) (by decide +kernel)
theorem wd1186 : Cond.code yX7_arm cX7_arm 3 (some .int) ∈ tblG := gw3 138 (by decide +kernel) (by decide +kernel)
theorem pl_X7_arm : Plain yX7_arm 2 := ⟨by decide, by decide, by decide +kernel⟩
theorem lk_L_57 : LkV RL 57 7 yX7_arm cX7_arm 3 (some .int) 2 := ⟨⟨TX7, 12, rfl⟩, wd1183, wd1184, wd1185, wd207, wd1186, pl_X7_arm⟩
theorem wd1187 : Cond.methodLink RL 60 yX8_arm ∈ tblG := gw7 155 (by decide +kernel) (by decide +kernel)
theorem wd1188 : Cond.instanceMethod yX8_arm ∈ tblG := gw7 156 (by decide +kernel) (by decide +kernel)
theorem wd1189 : Cond.selects RX8 yX8_arm yX8_arm ∈ tblG := gw7 157 (by decide +kernel) (by decide +kernel)
theorem wd1190 : Cond.code yX8_arm cX8_arm 3 (some .int) ∈ tblG := gw7 158 (by decide +kernel) (by decide +kernel)
theorem pl_X8_arm : Plain yX8_arm 2 := ⟨by decide, by decide, by decide +kernel⟩
theorem lk_L_60 : LkV RL 60 8 yX8_arm cX8_arm 3 (some .int) 2 := ⟨⟨TX8, 41, rfl⟩, wd1187, wd1188, wd1189, wd649, wd1190, pl_X8_arm⟩
theorem wd1191 : Cond.methodLink RL 61 yX7_here ∈ tblG := gw3 143 (by decide +kernel) (by decide +kernel)
theorem wd1192 : Cond.instanceMethod yX7_here ∈ tblG := gw3 144 (by decide +kernel) (by decide +kernel)
theorem wd1193 : Cond.selects RX7 yX7_here yX7_here ∈ tblG := gw3 145 (by decide +kernel) (by decide +kernel)
theorem wd1194 : Cond.code yX7_here cX7_here 3 (some .int) ∈ tblG := gw3 146 (by decide +kernel) (by decide +kernel)
theorem pl_X7_here : Plain yX7_here 2 := ⟨by decide, by decide, by decide +kernel⟩
theorem lk_L_61 : LkV RL 61 7 yX7_here cX7_here 3 (some .int) 2 := ⟨⟨TX7, 12, rfl⟩, wd1191, wd1192, wd1193, wd207, wd1194, pl_X7_here⟩
theorem wd1195 : Cond.methodLink RL 64 yX8_here ∈ tblG := gw7 159 (by decide +kernel) (by decide +kernel)
theorem wd1196 : Cond.instanceMethod yX8_here ∈ tblG := gw7 160 (by decide +kernel) (by decide +kernel)
theorem wd1197 : Cond.selects RX8 yX8_here yX8_here ∈ tblG := gw7 161 (by decide +kernel) (by decide +kernel)
theorem wd1198 : Cond.code yX8_here cX8_here 3 (some .int) ∈ tblG := gw7 162 (by decide +kernel) (by decide +kernel)
theorem pl_X8_here : Plain yX8_here 2 := ⟨by decide, by decide, by decide +kernel⟩
theorem lk_L_64 : LkV RL 64 8 yX8_here cX8_here 3 (some .int) 2 := ⟨⟨TX8, 41, rfl⟩, wd1195, wd1196, wd1197, wd649, wd1198, pl_X8_here⟩
theorem wd1199 : Cond.methodLink RL 65 yX7_sent ∈ tblG := gw3 157 (by decide +kernel) (by decide +kernel)
theorem wd1200 : Cond.instanceMethod yX7_sent ∈ tblG := gw3 158 (by decide +kernel) (by decide +kernel)
theorem wd1201 : Cond.selects RX7 yX7_sent yX7_sent ∈ tblG := gw3 159 (by decide +kernel) (by decide +kernel)
theorem wd1202 : Cond.code yX7_sent cX7_sent 2 (some .int) ∈ tblG := gw3 160 (by decide +kernel) (by decide +kernel)
theorem pl_X7_sent : Plain yX7_sent 1 := ⟨by decide, by decide, by decide +kernel⟩
theorem lk_L_65 : LkV RL 65 7 yX7_sent cX7_sent 2 (some .int) 1 := ⟨⟨TX7, 12, rfl⟩, wd1199, wd1200, wd1201, wd207, wd1202, pl_X7_sent⟩
theorem wd1203 : Cond.methodLink RL 68 yX8_sent ∈ tblG := gw7 172 (by decide +kernel) (by decide +kernel)
theorem wd1204 : Cond.instanceMethod yX8_sent ∈ tblG := gw7 173 (by decide +kernel) (by decide +kernel)
theorem wd1205 : Cond.selects RX8 yX8_sent yX8_sent ∈ tblG := gw7 174 (by decide +kernel) (by decide +kernel)
theorem wd1206 : Cond.code yX8_sent cX8_sent 2 (some .int) ∈ tblG := gw7 175 (by decide +kernel) (by decide +kernel)
theorem pl_X8_sent : Plain yX8_sent 1 := ⟨by decide, by decide, by decide +kernel⟩
theorem lk_L_68 : LkV RL 68 8 yX8_sent cX8_sent 2 (some .int) 1 := ⟨⟨TX8, 41, rfl⟩, wd1203, wd1204, wd1205, wd649, wd1206, pl_X8_sent⟩
theorem wd1207 : Cond.methodLink RL 69 yX7_sends ∈ tblG := gw3 174 (by decide +kernel) (by decide +kernel)
theorem wd1208 : Cond.instanceMethod yX7_sends ∈ tblG := gw3 175 (by decide +kernel) (by decide +kernel)
theorem wd1209 : Cond.selects RX7 yX7_sends yX7_sends ∈ tblG := gw3 176 (by decide +kernel) (by decide +kernel)
theorem wd1210 : Cond.code yX7_sends cX7_sends 2 (some .int) ∈ tblG := gw3 177 (by decide +kernel) (by decide +kernel)
theorem pl_X7_sends : Plain yX7_sends 1 := ⟨by decide, by decide, by decide +kernel⟩
theorem lk_L_69 : LkV RL 69 7 yX7_sends cX7_sends 2 (some .int) 1 := ⟨⟨TX7, 12, rfl⟩, wd1207, wd1208, wd1209, wd207, wd1210, pl_X7_sends⟩
theorem wd1211 : Cond.methodLink RL 72 yX8_sends ∈ tblG := gw7 180 (by decide +kernel) (by decide +kernel)
theorem wd1212 : Cond.instanceMethod yX8_sends ∈ tblG := gw7 181 (by decide +kernel) (by decide +kernel)
theorem wd1213 : Cond.selects RX8 yX8_sends yX8_sends ∈ tblG := gw7 182 (by decide +kernel) (by decide +kernel)
theorem wd1214 : Cond.code yX8_sends cX8_sends 2 (some .int) ∈ tblG := gw7 183 (by decide +kernel) (by decide +kernel)
theorem pl_X8_sends : Plain yX8_sends 1 := ⟨by decide, by decide, by decide +kernel⟩
theorem lk_L_72 : LkV RL 72 8 yX8_sends cX8_sends 2 (some .int) 1 := ⟨⟨TX8, 41, rfl⟩, wd1211, wd1212, wd1213, wd649, wd1214, pl_X8_sends⟩
theorem wd1215 : Cond.methodLink RL 73 yX7_used ∈ tblG := gw3 186 (by decide +kernel) (by decide +kernel)
theorem wd1216 : Cond.instanceMethod yX7_used ∈ tblG := gw3 187 (by decide +kernel) (by decide +kernel)
theorem wd1217 : Cond.selects RX7 yX7_used yX7_used ∈ tblG := gw3 188 (by decide +kernel) (by decide +kernel)
theorem wd1218 : Cond.code yX7_used cX7_used 3 (some .int) ∈ tblG := gw3 189 (by decide +kernel) (by decide +kernel)
theorem pl_X7_used : Plain yX7_used 2 := ⟨by decide, by decide, by decide +kernel⟩
theorem lk_L_73 : LkV RL 73 7 yX7_used cX7_used 3 (some .int) 2 := ⟨⟨TX7, 12, rfl⟩, wd1215, wd1216, wd1217, wd207, wd1218, pl_X7_used⟩
theorem wd1219 : Cond.methodLink RL 76 yX8_used ∈ tblG := gw7 192 (by decide +kernel) (by decide +kernel)
theorem wd1220 : Cond.instanceMethod yX8_used ∈ tblG := gw7 193 (by decide +kernel) (by decide +kernel)
theorem wd1221 : Cond.selects RX8 yX8_used yX8_used ∈ tblG := gw7 194 (by decide +kernel) (by decide +kernel)
theorem wd1222 : Cond.code yX8_used cX8_used 3 (some .int) ∈ tblG := gw7 195 (by decide +kernel) (by decide +kernel)
theorem pl_X8_used : Plain yX8_used 2 := ⟨by decide, by decide, by decide +kernel⟩
theorem lk_L_76 : LkV RL 76 8 yX8_used cX8_used 3 (some .int) 2 := ⟨⟨TX8, 41, rfl⟩, wd1219, wd1220, wd1221, wd649, wd1222, pl_X8_used⟩
theorem wd1223 : Cond.methodLink RL 77 yX7_walks ∈ tblG := gw3 191 (by decide +kernel) (by decide +kernel)
theorem wd1224 : Cond.instanceMethod yX7_walks ∈ tblG := gw3 192 (by decide +kernel) (by decide +kernel)
theorem wd1225 : Cond.selects RX7 yX7_walks yX7_walks ∈ tblG := gw3 193 (by decide +kernel) (by decide +kernel)
theorem wd1226 : Cond.code yX7_walks cX7_walks 2 (some .int) ∈ tblG := gw3 194 (by decide +kernel) (by decide +kernel)
theorem pl_X7_walks : Plain yX7_walks 1 := ⟨by decide, by decide, by decide +kernel⟩
theorem lk_L_77 : LkV RL 77 7 yX7_walks cX7_walks 2 (some .int) 1 := ⟨⟨TX7, 12, rfl⟩, wd1223, wd1224, wd1225, wd207, wd1226, pl_X7_walks⟩
theorem wd1227 : Cond.methodLink RL 80 yX8_walks ∈ tblG := gw7 196 (by decide +kernel) (by decide +kernel)
theorem wd1228 : Cond.instanceMethod yX8_walks ∈ tblG := gw7 197 (by decide +kernel) (by decide +kernel)
theorem wd1229 : Cond.selects RX8 yX8_walks yX8_walks ∈ tblG := gw7 198 (by decide +kernel) (by decide +kernel)
theorem wd1230 : Cond.code yX8_walks cX8_walks 2 (some .int) ∈ tblG := gw7 199 (by decide +kernel) (by decide +kernel)
theorem pl_X8_walks : Plain yX8_walks 1 := ⟨by decide, by decide, by decide +kernel⟩
theorem lk_L_80 : LkV RL 80 8 yX8_walks cX8_walks 2 (some .int) 1 := ⟨⟨TX8, 41, rfl⟩, wd1227, wd1228, wd1229, wd649, wd1230, pl_X8_walks⟩
theorem wd1231 : Cond.methodLink RL 81 yX7_home ∈ tblG := gw3 199 (by decide +kernel) (by decide +kernel)
theorem wd1232 : Cond.instanceMethod yX7_home ∈ tblG := gw3 200 (by decide +kernel) (by decide +kernel)
theorem wd1233 : Cond.selects RX7 yX7_home yX7_home ∈ tblG := gw3 201 (by decide +kernel) (by decide +kernel)
theorem wd1234 : Cond.code yX7_home cX7_home 2 (some .int) ∈ tblG := gw3 202 (by decide +kernel) (by decide +kernel)
theorem pl_X7_home : Plain yX7_home 1 := ⟨by decide, by decide, by decide +kernel⟩
theorem lk_L_81 : LkV RL 81 7 yX7_home cX7_home 2 (some .int) 1 := ⟨⟨TX7, 12, rfl⟩, wd1231, wd1232, wd1233, wd207, wd1234, pl_X7_home⟩
theorem wd1235 : Cond.methodLink RL 84 yX8_home ∈ tblG := gw7 204 (by decide +kernel) (by decide +kernel)
theorem wd1236 : Cond.instanceMethod yX8_home ∈ tblG := gw7 205 (by decide +kernel) (by decide +kernel)
theorem wd1237 : Cond.selects RX8 yX8_home yX8_home ∈ tblG := gw7 206 (by decide +kernel) (by decide +kernel)
theorem wd1238 : Cond.code yX8_home cX8_home 2 (some .int) ∈ tblG := gw7 207 (by decide +kernel) (by decide +kernel)
theorem pl_X8_home : Plain yX8_home 1 := ⟨by decide, by decide, by decide +kernel⟩
theorem lk_L_84 : LkV RL 84 8 yX8_home cX8_home 2 (some .int) 1 := ⟨⟨TX8, 41, rfl⟩, wd1235, wd1236, wd1237, wd649, wd1238, pl_X8_home⟩
theorem wd1239 : Cond.methodLink RL 85 yX7_inn ∈ tblG := gw3 207 (by decide +kernel) (by decide +kernel)
theorem wd1240 : Cond.instanceMethod yX7_inn ∈ tblG := gw3 208 (by decide +kernel) (by decide +kernel)
theorem wd1241 : Cond.selects RX7 yX7_inn yX7_inn ∈ tblG := gw3 209 (by decide +kernel) (by decide +kernel)
theorem wd1242 : Cond.code yX7_inn cX7_inn 3 (some .int) ∈ tblG := gw3 210 (by decide +kernel) (by decide +kernel)
theorem pl_X7_inn : Plain yX7_inn 1 := ⟨by decide, by decide, by decide +kernel⟩
theorem lk_L_85 : LkV RL 85 7 yX7_inn cX7_inn 3 (some .int) 1 := ⟨⟨TX7, 12, rfl⟩, wd1239, wd1240, wd1241, wd207, wd1242, pl_X7_inn⟩
theorem wd1243 : Cond.methodLink RL 88 yX8_inn ∈ tblG := gw7 216 (by decide +kernel) (by decide +kernel)
theorem wd1244 : Cond.instanceMethod yX8_inn ∈ tblG := gw7 217 (by decide +kernel) (by decide +kernel)
theorem wd1245 : Cond.selects RX8 yX8_inn yX8_inn ∈ tblG := gw7 218 (by decide +kernel) (by decide +kernel)
theorem wd1246 : Cond.code yX8_inn cX8_inn 2 (some .int) ∈ tblG := gw7 219 (by decide +kernel) (by decide +kernel)
theorem pl_X8_inn : Plain yX8_inn 1 := ⟨by decide, by decide, by decide +kernel⟩
theorem lk_L_88 : LkV RL 88 8 yX8_inn cX8_inn 2 (some .int) 1 := ⟨⟨TX8, 41, rfl⟩, wd1243, wd1244, wd1245, wd649, wd1246, pl_X8_inn⟩
theorem wd1247 : Cond.methodLink RL 89 yX7_trail ∈ tblG := gw3 211 (by decide +kernel) (by decide +kernel)
theorem wd1248 : Cond.instanceMethod yX7_trail ∈ tblG := gw3 212 (by decide +kernel) (by decide +kernel)
theorem wd1249 : Cond.selects RX7 yX7_trail yX7_trail ∈ tblG := gw3 213 (by decide +kernel) (by decide +kernel)
theorem wd1250 : Cond.code yX7_trail cX7_trail 2 (some .int) ∈ tblG := gw3 214 (by decide +kernel) (by decide +kernel)
theorem pl_X7_trail : Plain yX7_trail 1 := ⟨by decide, by decide, by decide +kernel⟩
theorem lk_L_89 : LkV RL 89 7 yX7_trail cX7_trail 2 (some .int) 1 := ⟨⟨TX7, 12, rfl⟩, wd1247, wd1248, wd1249, wd207, wd1250, pl_X7_trail⟩
theorem wd1251 : Cond.methodLink RL 92 yX8_trail ∈ tblG := gw7 220 (by decide +kernel) (by decide +kernel)
theorem wd1252 : Cond.instanceMethod yX8_trail ∈ tblG := gw7 221 (by decide +kernel) (by decide +kernel)
theorem wd1253 : Cond.selects RX8 yX8_trail yX8_trail ∈ tblG := gw7 222 (by decide +kernel) (by decide +kernel)
theorem wd1254 : Cond.code yX8_trail cX8_trail 2 (some .int) ∈ tblG := gw7 223 (by decide +kernel) (by decide +kernel)
theorem pl_X8_trail : Plain yX8_trail 1 := ⟨by decide, by decide, by decide +kernel⟩
theorem lk_L_92 : LkV RL 92 8 yX8_trail cX8_trail 2 (some .int) 1 := ⟨⟨TX8, 41, rfl⟩, wd1251, wd1252, wd1253, wd649, wd1254, pl_X8_trail⟩
theorem wd1255 : Cond.methodLink RL 93 yX7_again ∈ tblG := gw3 223 (by decide +kernel) (by decide +kernel)
theorem wd1256 : Cond.instanceMethod yX7_again ∈ tblG := gw3 224 (by decide +kernel) (by decide +kernel)
theorem wd1257 : Cond.selects RX7 yX7_again yX7_again ∈ tblG := gw3 225 (by decide +kernel) (by decide +kernel)
theorem wd1258 : Cond.code yX7_again cX7_again 2 (some .int) ∈ tblG := gw3 226 (by decide +kernel) (by decide +kernel)
theorem pl_X7_again : Plain yX7_again 1 := ⟨by decide, by decide, by decide +kernel⟩
theorem lk_L_93 : LkV RL 93 7 yX7_again cX7_again 2 (some .int) 1 := ⟨⟨TX7, 12, rfl⟩, wd1255, wd1256, wd1257, wd207, wd1258, pl_X7_again⟩
theorem wd1259 : Cond.methodLink RL 96 yX8_again ∈ tblG := gw7 229 (by decide +kernel) (by decide +kernel)
theorem wd1260 : Cond.instanceMethod yX8_again ∈ tblG := gw7 230 (by decide +kernel) (by decide +kernel)
theorem wd1261 : Cond.selects RX8 yX8_again yX8_again ∈ tblG := gw7 231 (by decide +kernel) (by decide +kernel)
theorem wd1262 : Cond.code yX8_again cX8_again 5 (some .int) ∈ tblG := gw7 232 (by decide +kernel) (by decide +kernel)
theorem pl_X8_again : Plain yX8_again 1 := ⟨by decide, by decide, by decide +kernel⟩
theorem lk_L_96 : LkV RL 96 8 yX8_again cX8_again 5 (some .int) 1 := ⟨⟨TX8, 41, rfl⟩, wd1259, wd1260, wd1261, wd649, wd1262, pl_X8_again⟩
theorem wd1263 : Cond.methodLink RL 97 yX7_lingers ∈ tblG := gw3 231 (by decide +kernel) (by decide +kernel)
theorem wd1264 : Cond.instanceMethod yX7_lingers ∈ tblG := gw3 232 (by decide +kernel) (by decide +kernel)
theorem wd1265 : Cond.selects RX7 yX7_lingers yX7_lingers ∈ tblG := gw3 233 (by decide +kernel) (by decide +kernel)
theorem wd1266 : Cond.code yX7_lingers cX7_lingers 2 (some .int) ∈ tblG := gw3 234 (by decide +kernel) (by decide +kernel)
theorem pl_X7_lingers : Plain yX7_lingers 1 := ⟨by decide, by decide, by decide +kernel⟩
theorem lk_L_97 : LkV RL 97 7 yX7_lingers cX7_lingers 2 (some .int) 1 := ⟨⟨TX7, 12, rfl⟩, wd1263, wd1264, wd1265, wd207, wd1266, pl_X7_lingers⟩
theorem wd1267 : Cond.methodLink RL 100 yX8_lingers ∈ tblG := gw7 233 (by decide +kernel) (by decide +kernel)
theorem wd1268 : Cond.instanceMethod yX8_lingers ∈ tblG := gw7 234 (by decide +kernel) (by decide +kernel)
theorem wd1269 : Cond.selects RX8 yX8_lingers yX8_lingers ∈ tblG := gw7 235 (by decide +kernel) (by decide +kernel)
theorem wd1270 : Cond.code yX8_lingers cX8_lingers 4 (some .int) ∈ tblG := gw7 236 (by decide +kernel) (by decide +kernel)
theorem pl_X8_lingers : Plain yX8_lingers 1 := ⟨by decide, by decide, by decide +kernel⟩
theorem lk_L_100 : LkV RL 100 8 yX8_lingers cX8_lingers 4 (some .int) 1 := ⟨⟨TX8, 41, rfl⟩, wd1267, wd1268, wd1269, wd649, wd1270, pl_X8_lingers⟩
theorem wd1271 : Cond.methodLink RL 101 yX7_doors ∈ tblG := gw3 239 (by decide +kernel) (by decide +kernel)
theorem wd1272 : Cond.instanceMethod yX7_doors ∈ tblG := gw4 0 (by decide +kernel) (by decide +kernel)
theorem wd1273 : Cond.selects RX7 yX7_doors yX7_doors ∈ tblG := gw4 1 (by decide +kernel) (by decide +kernel)
theorem wd1274 : Cond.code yX7_doors cX7_doors 2 (some .int) ∈ tblG := gw4 2 (by decide +kernel) (by decide +kernel)
theorem pl_X7_doors : Plain yX7_doors 1 := ⟨by decide, by decide, by decide +kernel⟩
theorem lk_L_101 : LkV RL 101 7 yX7_doors cX7_doors 2 (some .int) 1 := ⟨⟨TX7, 12, rfl⟩, wd1271, wd1272, wd1273, wd207, wd1274, pl_X7_doors⟩
theorem wd1275 : Cond.methodLink RL 104 yX8_doors ∈ tblG := gw7 88 (by decide +kernel) (by decide +kernel)
theorem wd1276 : Cond.instanceMethod yX8_doors ∈ tblG := gw7 89 (by decide +kernel) (by decide +kernel)
theorem wd1277 : Cond.selects RX8 yX8_doors yX8_doors ∈ tblG := gw7 90 (by decide +kernel) (by decide +kernel)
theorem wd1278 : Cond.code yX8_doors cX8_doors 4 (some .int) ∈ tblG := gw7 91 (by decide +kernel) (by decide +kernel)
theorem pl_X8_doors : Plain yX8_doors 1 := ⟨by decide, by decide, by decide +kernel⟩
theorem lk_L_104 : LkV RL 104 8 yX8_doors cX8_doors 4 (some .int) 1 := ⟨⟨TX8, 41, rfl⟩, wd1275, wd1276, wd1277, wd649, wd1278, pl_X8_doors⟩
theorem wd1279 : Cond.methodLink RL 105 yX7_guests ∈ tblG := gw4 8 (by decide +kernel) (by decide +kernel)
theorem wd1280 : Cond.instanceMethod yX7_guests ∈ tblG := gw4 9 (by decide +kernel) (by decide +kernel)
theorem wd1281 : Cond.selects RX7 yX7_guests yX7_guests ∈ tblG := gw4 10 (by decide +kernel) (by decide +kernel)
theorem wd1282 : Cond.code yX7_guests cX7_guests 3 (some .int) ∈ tblG := gw4 11 (by decide +kernel) (by decide +kernel)
theorem pl_X7_guests : Plain yX7_guests 2 := ⟨by decide, by decide, by decide +kernel⟩
theorem lk_L_105 : LkV RL 105 7 yX7_guests cX7_guests 3 (some .int) 2 := ⟨⟨TX7, 12, rfl⟩, wd1279, wd1280, wd1281, wd207, wd1282, pl_X7_guests⟩
theorem wd1283 : Cond.methodLink RL 108 yX8_guests ∈ tblG := gw7 237 (by decide +kernel) (by decide +kernel)
theorem wd1284 : Cond.instanceMethod yX8_guests ∈ tblG := gw7 238 (by decide +kernel) (by decide +kernel)
theorem wd1285 : Cond.selects RX8 yX8_guests yX8_guests ∈ tblG := gw7 239 (by decide +kernel) (by decide +kernel)
theorem wd1286 : Cond.code yX8_guests cX8_guests 3 (some .int) ∈ tblG := gw8 0 (by decide +kernel) (by decide +kernel)
theorem pl_X8_guests : Plain yX8_guests 2 := ⟨by decide, by decide, by decide +kernel⟩
theorem lk_L_108 : LkV RL 108 8 yX8_guests cX8_guests 3 (some .int) 2 := ⟨⟨TX8, 41, rfl⟩, wd1283, wd1284, wd1285, wd649, wd1286, pl_X8_guests⟩
theorem wd1287 : Cond.methodLink RL 109 yX7_full ∈ tblG := gw4 23 (by decide +kernel) (by decide +kernel)
theorem wd1288 : Cond.instanceMethod yX7_full ∈ tblG := gw4 24 (by decide +kernel) (by decide +kernel)
theorem wd1289 : Cond.selects RX7 yX7_full yX7_full ∈ tblG := gw4 25 (by decide +kernel) (by decide +kernel)
theorem wd1290 : Cond.code yX7_full cX7_full 2 (some .int) ∈ tblG := gw4 26 (by decide +kernel) (by decide +kernel)
theorem pl_X7_full : Plain yX7_full 1 := ⟨by decide, by decide, by decide +kernel⟩
theorem lk_L_109 : LkV RL 109 7 yX7_full cX7_full 2 (some .int) 1 := ⟨⟨TX7, 12, rfl⟩, wd1287, wd1288, wd1289, wd207, wd1290, pl_X7_full⟩
theorem wd1291 : Cond.methodLink RL 112 yX8_full ∈ tblG := gw8 8 (by decide +kernel) (by decide +kernel)
theorem wd1292 : Cond.instanceMethod yX8_full ∈ tblG := gw8 9 (by decide +kernel) (by decide +kernel)
theorem wd1293 : Cond.selects RX8 yX8_full yX8_full ∈ tblG := gw8 10 (by decide +kernel) (by decide +kernel)
theorem wd1294 : Cond.code yX8_full cX8_full 3 (some .int) ∈ tblG := gw8 11 (by decide +kernel) (by decide +kernel)
theorem pl_X8_full : Plain yX8_full 1 := ⟨by decide, by decide, by decide +kernel⟩
theorem lk_L_112 : LkV RL 112 8 yX8_full cX8_full 3 (some .int) 1 := ⟨⟨TX8, 41, rfl⟩, wd1291, wd1292, wd1293, wd649, wd1294, pl_X8_full⟩
theorem wd1295 : Cond.methodLink RL 113 yX7_refuses ∈ tblG := gw4 32 (by decide +kernel) (by decide +kernel)
theorem wd1296 : Cond.instanceMethod yX7_refuses ∈ tblG := gw4 33 (by decide +kernel) (by decide +kernel)
theorem wd1297 : Cond.selects RX7 yX7_refuses yX7_refuses ∈ tblG := gw4 34 (by decide +kernel) (by decide +kernel)
theorem wd1298 : Cond.code yX7_refuses cX7_refuses 2 (some .int) ∈ tblG := gw4 35 (by decide +kernel) (by decide +kernel)
theorem pl_X7_refuses : Plain yX7_refuses 1 := ⟨by decide, by decide, by decide +kernel⟩
theorem lk_L_113 : LkV RL 113 7 yX7_refuses cX7_refuses 2 (some .int) 1 := ⟨⟨TX7, 12, rfl⟩, wd1295, wd1296, wd1297, wd207, wd1298, pl_X7_refuses⟩
theorem wd1299 : Cond.methodLink RL 116 yX8_refuses ∈ tblG := gw8 12 (by decide +kernel) (by decide +kernel)
theorem wd1300 : Cond.instanceMethod yX8_refuses ∈ tblG := gw8 13 (by decide +kernel) (by decide +kernel)
theorem wd1301 : Cond.selects RX8 yX8_refuses yX8_refuses ∈ tblG := gw8 14 (by decide +kernel) (by decide +kernel)
theorem wd1302 : Cond.code yX8_refuses cX8_refuses 2 (some .int) ∈ tblG := gw8 15 (by decide +kernel) (by decide +kernel)
theorem pl_X8_refuses : Plain yX8_refuses 1 := ⟨by decide, by decide, by decide +kernel⟩
theorem lk_L_116 : LkV RL 116 8 yX8_refuses cX8_refuses 2 (some .int) 1 := ⟨⟨TX8, 41, rfl⟩, wd1299, wd1300, wd1301, wd649, wd1302, pl_X8_refuses⟩
theorem wd1303 : Cond.methodLink RL 117 yX7_inside ∈ tblG := gw4 44 (by decide +kernel) (by decide +kernel)
theorem wd1304 : Cond.instanceMethod yX7_inside ∈ tblG := gw4 45 (by decide +kernel) (by decide +kernel)
theorem wd1305 : Cond.selects RX7 yX7_inside yX7_inside ∈ tblG := gw4 46 (by decide +kernel) (by decide +kernel)
theorem wd1306 : Cond.code yX7_inside cX7_inside 2 (some .int) ∈ tblG := gw4 47 (by decide +kernel) (by decide +kernel)
theorem pl_X7_inside : Plain yX7_inside 1 := ⟨by decide, by decide, by decide +kernel⟩
theorem lk_L_117 : LkV RL 117 7 yX7_inside cX7_inside 2 (some .int) 1 := ⟨⟨TX7, 12, rfl⟩, wd1303, wd1304, wd1305, wd207, wd1306, pl_X7_inside⟩
theorem wd1307 : Cond.methodLink RL 120 yX8_inside ∈ tblG := gw8 16 (by decide +kernel) (by decide +kernel)
theorem wd1308 : Cond.instanceMethod yX8_inside ∈ tblG := gw8 17 (by decide +kernel) (by decide +kernel)
theorem wd1309 : Cond.selects RX8 yX8_inside yX8_inside ∈ tblG := gw8 18 (by decide +kernel) (by decide +kernel)
theorem wd1310 : Cond.code yX8_inside cX8_inside 2 (some .int) ∈ tblG := gw8 19 (by decide +kernel) (by decide +kernel)
theorem pl_X8_inside : Plain yX8_inside 1 := ⟨by decide, by decide, by decide +kernel⟩
theorem lk_L_120 : LkV RL 120 8 yX8_inside cX8_inside 2 (some .int) 1 := ⟨⟨TX8, 41, rfl⟩, wd1307, wd1308, wd1309, wd649, wd1310, pl_X8_inside⟩
theorem wd1311 : Cond.methodLink RL 121 yX7_outside ∈ tblG := gw4 52 (by decide +kernel) (by decide +kernel)
theorem wd1312 : Cond.instanceMethod yX7_outside ∈ tblG := gw4 53 (by decide +kernel) (by decide +kernel)
theorem wd1313 : Cond.selects RX7 yX7_outside yX7_outside ∈ tblG := gw4 54 (by decide +kernel) (by decide +kernel)
theorem wd1314 : Cond.code yX7_outside cX7_outside 2 (some .int) ∈ tblG := gw4 55 (by decide +kernel) (by decide +kernel)
theorem pl_X7_outside : Plain yX7_outside 1 := ⟨by decide, by decide, by decide +kernel⟩
theorem lk_L_121 : LkV RL 121 7 yX7_outside cX7_outside 2 (some .int) 1 := ⟨⟨TX7, 12, rfl⟩, wd1311, wd1312, wd1313, wd207, wd1314, pl_X7_outside⟩
theorem wd1315 : Cond.methodLink RL 124 yX8_outside ∈ tblG := gw8 24 (by decide +kernel) (by decide +kernel)
theorem wd1316 : Cond.instanceMethod yX8_outside ∈ tblG := gw8 25 (by decide +kernel) (by decide +kernel)
theorem wd1317 : Cond.selects RX8 yX8_outside yX8_outside ∈ tblG := gw8 26 (by decide +kernel) (by decide +kernel)
theorem wd1318 : Cond.code yX8_outside cX8_outside 4 (some .int) ∈ tblG := gw8 27 (by decide +kernel) (by decide +kernel)
theorem pl_X8_outside : Plain yX8_outside 1 := ⟨by decide, by decide, by decide +kernel⟩
theorem lk_L_124 : LkV RL 124 8 yX8_outside cX8_outside 4 (some .int) 1 := ⟨⟨TX8, 41, rfl⟩, wd1315, wd1316, wd1317, wd649, wd1318, pl_X8_outside⟩
theorem wd1319 : Cond.methodLink RL 125 yX7_done ∈ tblG := gw4 60 (by decide +kernel) (by decide +kernel)
theorem wd1320 : Cond.instanceMethod yX7_done ∈ tblG := gw4 61 (by decide +kernel) (by decide +kernel)
theorem wd1321 : Cond.selects RX7 yX7_done yX7_done ∈ tblG := gw4 62 (by decide +kernel) (by decide +kernel)
theorem wd1322 : Cond.code yX7_done cX7_done 1 (some .int) ∈ tblG := gw4 63 (by decide +kernel) (by decide +kernel)
theorem pl_X7_done : Plain yX7_done 0 := ⟨by decide, by decide, by decide +kernel⟩
theorem lk_L_125 : LkV RL 125 7 yX7_done cX7_done 1 (some .int) 0 := ⟨⟨TX7, 12, rfl⟩, wd1319, wd1320, wd1321, wd207, wd1322, pl_X7_done⟩
theorem wd1323 : Cond.methodLink RL 128 yX8_done ∈ tblG := gw8 28 (by decide +kernel) (by decide +kernel)
theorem wd1324 : Cond.instanceMethod yX8_done ∈ tblG := gw8 29 (by decide +kernel) (by decide +kernel)
theorem wd1325 : Cond.selects RX8 yX8_done yX8_done ∈ tblG := gw8 30 (by decide +kernel) (by decide +kernel)
theorem wd1326 : Cond.code yX8_done cX8_done 2 (some .int) ∈ tblG := gw8 31 (by decide +kernel) (by decide +kernel)
theorem pl_X8_done : Plain yX8_done 0 := ⟨by decide, by decide, by decide +kernel⟩
theorem lk_L_128 : LkV RL 128 8 yX8_done cX8_done 2 (some .int) 0 := ⟨⟨TX8, 41, rfl⟩, wd1323, wd1324, wd1325, wd649, wd1326, pl_X8_done⟩
theorem wd1327 : Cond.methodLink RL 129 yX7_crowd ∈ tblG := gw4 70 (by decide +kernel) (by decide +kernel)
theorem wd1328 : Cond.instanceMethod yX7_crowd ∈ tblG := gw4 71 (by decide +kernel) (by decide +kernel)
theorem wd1329 : Cond.selects RX7 yX7_crowd yX7_crowd ∈ tblG := gw4 72 (by decide +kernel) (by decide +kernel)
theorem wd1330 : Cond.code yX7_crowd cX7_crowd 2 (some .int) ∈ tblG := gw4 73 (by decide +kernel) (by decide +kernel)
theorem pl_X7_crowd : Plain yX7_crowd 1 := ⟨by decide, by decide, by decide +kernel⟩
theorem lk_L_129 : LkV RL 129 7 yX7_crowd cX7_crowd 2 (some .int) 1 := ⟨⟨TX7, 12, rfl⟩, wd1327, wd1328, wd1329, wd207, wd1330, pl_X7_crowd⟩
theorem wd1331 : Cond.methodLink RL 132 yX8_crowd ∈ tblG := gw8 32 (by decide +kernel) (by decide +kernel)
theorem wd1332 : Cond.instanceMethod yX8_crowd ∈ tblG := gw8 33 (by decide +kernel) (by decide +kernel)
theorem wd1333 : Cond.selects RX8 yX8_crowd yX8_crowd ∈ tblG := gw8 34 (by decide +kernel) (by decide +kernel)
theorem wd1334 : Cond.code yX8_crowd cX8_crowd 4 (some .int) ∈ tblG := gw8 35 (by decide +kernel) (by decide +kernel)
theorem pl_X8_crowd : Plain yX8_crowd 1 := ⟨by decide, by decide, by decide +kernel⟩
theorem lk_L_132 : LkV RL 132 8 yX8_crowd cX8_crowd 4 (some .int) 1 := ⟨⟨TX8, 41, rfl⟩, wd1331, wd1332, wd1333, wd649, wd1334, pl_X8_crowd⟩
theorem wd1335 : Cond.methodLink RL 133 yX7_armless ∈ tblG := gw4 81 (by decide +kernel) (by decide +kernel)
theorem wd1336 : Cond.instanceMethod yX7_armless ∈ tblG := gw4 82 (by decide +kernel) (by decide +kernel)
theorem wd1337 : Cond.selects RX7 yX7_armless yX7_armless ∈ tblG := gw4 83 (by decide +kernel) (by decide +kernel)
theorem wd1338 : Cond.code yX7_armless cX7_armless 1 (some .int) ∈ tblG := gw4 84 (by decide +kernel) (by decide +kernel)
theorem pl_X7_armless : Plain yX7_armless 0 := ⟨by decide, by decide, by decide +kernel⟩
theorem lk_L_133 : LkV RL 133 7 yX7_armless cX7_armless 1 (some .int) 0 := ⟨⟨TX7, 12, rfl⟩, wd1335, wd1336, wd1337, wd207, wd1338, pl_X7_armless⟩
theorem wd1339 : Cond.methodLink RL 136 yX8_armless ∈ tblG := gw7 92 (by decide +kernel) (by decide +kernel)
theorem wd1340 : Cond.instanceMethod yX8_armless ∈ tblG := gw7 93 (by decide +kernel) (by decide +kernel)
theorem wd1341 : Cond.selects RX8 yX8_armless yX8_armless ∈ tblG := gw7 94 (by decide +kernel) (by decide +kernel)
theorem wd1342 : Cond.code yX8_armless cX8_armless 3 (some .int) ∈ tblG := gw7 95 (by decide +kernel) (by decide +kernel)
theorem pl_X8_armless : Plain yX8_armless 0 := ⟨by decide, by decide, by decide +kernel⟩
theorem lk_L_136 : LkV RL 136 8 yX8_armless cX8_armless 3 (some .int) 0 := ⟨⟨TX8, 41, rfl⟩, wd1339, wd1340, wd1341, wd649, wd1342, pl_X8_armless⟩
theorem wd1343 : Cond.methodLink RL 137 yX7_meet ∈ tblG := gw4 90 (by decide +kernel) (by decide +kernel)
theorem wd1344 : Cond.instanceMethod yX7_meet ∈ tblG := gw4 91 (by decide +kernel) (by decide +kernel)
theorem wd1345 : Cond.selects RX7 yX7_meet yX7_meet ∈ tblG := gw4 92 (by decide +kernel) (by decide +kernel)
theorem wd1346 : Cond.code yX7_meet cX7_meet 3 (some .int) ∈ tblG := gw4 93 (by decide +kernel) (by decide +kernel)
theorem pl_X7_meet : Plain yX7_meet 2 := ⟨by decide, by decide, by decide +kernel⟩
theorem lk_L_137 : LkV RL 137 7 yX7_meet cX7_meet 3 (some .int) 2 := ⟨⟨TX7, 12, rfl⟩, wd1343, wd1344, wd1345, wd207, wd1346, pl_X7_meet⟩
theorem wd1347 : Cond.methodLink RL 140 yX8_meet ∈ tblG := gw8 37 (by decide +kernel) (by decide +kernel)
theorem wd1348 : Cond.instanceMethod yX8_meet ∈ tblG := gw8 38 (by decide +kernel) (by decide +kernel)
theorem wd1349 : Cond.selects RX8 yX8_meet yX8_meet ∈ tblG := gw8 39 (by decide +kernel) (by decide +kernel)
theorem wd1350 : Cond.code yX8_meet cX8_meet 4 (some .int) ∈ tblG := gw8 40 (by decide +kernel) (by decide +kernel)
theorem pl_X8_meet : Plain yX8_meet 2 := ⟨by decide, by decide, by decide +kernel⟩
theorem lk_L_140 : LkV RL 140 8 yX8_meet cX8_meet 4 (some .int) 2 := ⟨⟨TX8, 41, rfl⟩, wd1347, wd1348, wd1349, wd649, wd1350, pl_X8_meet⟩
theorem wd1351 : Cond.methodLink RL 141 yX7_busy ∈ tblG := gw4 102 (by decide +kernel) (by decide +kernel)
theorem wd1352 : Cond.instanceMethod yX7_busy ∈ tblG := gw4 103 (by decide +kernel) (by decide +kernel)
theorem wd1353 : Cond.selects RX7 yX7_busy yX7_busy ∈ tblG := gw4 104 (by decide +kernel) (by decide +kernel)
theorem wd1354 : Cond.code yX7_busy cX7_busy 5 (some .int) ∈ tblG := gw4 105 (by decide +kernel) (by decide +kernel)
theorem pl_X7_busy : Plain yX7_busy 0 := ⟨by decide, by decide, by decide +kernel⟩
theorem lk_L_141 : LkV RL 141 7 yX7_busy cX7_busy 5 (some .int) 0 := ⟨⟨TX7, 12, rfl⟩, wd1351, wd1352, wd1353, wd207, wd1354, pl_X7_busy⟩
theorem wd1355 : Cond.methodLink RL 144 yX8_busy ∈ tblG := gw8 45 (by decide +kernel) (by decide +kernel)
theorem wd1356 : Cond.instanceMethod yX8_busy ∈ tblG := gw8 46 (by decide +kernel) (by decide +kernel)
theorem wd1357 : Cond.selects RX8 yX8_busy yX8_busy ∈ tblG := gw8 47 (by decide +kernel) (by decide +kernel)
theorem wd1358 : Cond.code yX8_busy cX8_busy 3 (some .int) ∈ tblG := gw8 48 (by decide +kernel) (by decide +kernel)
theorem pl_X8_busy : Plain yX8_busy 0 := ⟨by decide, by decide, by decide +kernel⟩
theorem lk_L_144 : LkV RL 144 8 yX8_busy cX8_busy 3 (some .int) 0 := ⟨⟨TX8, 41, rfl⟩, wd1355, wd1356, wd1357, wd649, wd1358, pl_X8_busy⟩
theorem wd1359 : Cond.methodLink RL 145 yX7_idle ∈ tblG := gw4 106 (by decide +kernel) (by decide +kernel)
theorem wd1360 : Cond.instanceMethod yX7_idle ∈ tblG := gw4 107 (by decide +kernel) (by decide +kernel)
theorem wd1361 : Cond.selects RX7 yX7_idle yX7_idle ∈ tblG := gw4 108 (by decide +kernel) (by decide +kernel)
theorem wd1362 : Cond.code yX7_idle cX7_idle 3 (some .int) ∈ tblG := gw4 109 (by decide +kernel) (by decide +kernel)
theorem pl_X7_idle : Plain yX7_idle 0 := ⟨by decide, by decide, by decide +kernel⟩
theorem lk_L_145 : LkV RL 145 7 yX7_idle cX7_idle 3 (some .int) 0 := ⟨⟨TX7, 12, rfl⟩, wd1359, wd1360, wd1361, wd207, wd1362, pl_X7_idle⟩
theorem wd1363 : Cond.methodLink RL 148 yX8_idle ∈ tblG := gw8 49 (by decide +kernel) (by decide +kernel)
theorem wd1364 : Cond.instanceMethod yX8_idle ∈ tblG := gw8 50 (by decide +kernel) (by decide +kernel)
theorem wd1365 : Cond.selects RX8 yX8_idle yX8_idle ∈ tblG := gw8 51 (by decide +kernel) (by decide +kernel)
theorem wd1366 : Cond.code yX8_idle cX8_idle 3 (some .int) ∈ tblG := gw8 52 (by decide +kernel) (by decide +kernel)
theorem pl_X8_idle : Plain yX8_idle 0 := ⟨by decide, by decide, by decide +kernel⟩
theorem lk_L_148 : LkV RL 148 8 yX8_idle cX8_idle 3 (some .int) 0 := ⟨⟨TX8, 41, rfl⟩, wd1363, wd1364, wd1365, wd649, wd1366, pl_X8_idle⟩
theorem wd1367 : Cond.methodLink RL 149 yX7_reach ∈ tblG := gw4 110 (by decide +kernel) (by decide +kernel)
theorem wd1368 : Cond.instanceMethod yX7_reach ∈ tblG := gw4 111 (by decide +kernel) (by decide +kernel)
theorem wd1369 : Cond.selects RX7 yX7_reach yX7_reach ∈ tblG := gw4 112 (by decide +kernel) (by decide +kernel)
theorem wd1370 : Cond.code yX7_reach cX7_reach 2 (some .int) ∈ tblG := gw4 113 (by decide +kernel) (by decide +kernel)
theorem pl_X7_reach : Plain yX7_reach 1 := ⟨by decide, by decide, by decide +kernel⟩
theorem lk_L_149 : LkV RL 149 7 yX7_reach cX7_reach 2 (some .int) 1 := ⟨⟨TX7, 12, rfl⟩, wd1367, wd1368, wd1369, wd207, wd1370, pl_X7_reach⟩
theorem wd1371 : Cond.methodLink RL 152 yX8_reach ∈ tblG := gw8 53 (by decide +kernel) (by decide +kernel)
theorem wd1372 : Cond.instanceMethod yX8_reach ∈ tblG := gw8 54 (by decide +kernel) (by decide +kernel)
theorem wd1373 : Cond.selects RX8 yX8_reach yX8_reach ∈ tblG := gw8 55 (by decide +kernel) (by decide +kernel)
theorem wd1374 : Cond.code yX8_reach cX8_reach 4 (some .int) ∈ tblG := gw8 56 (by decide +kernel) (by decide +kernel)
theorem pl_X8_reach : Plain yX8_reach 1 := ⟨by decide, by decide, by decide +kernel⟩
theorem lk_L_152 : LkV RL 152 8 yX8_reach cX8_reach 4 (some .int) 1 := ⟨⟨TX8, 41, rfl⟩, wd1371, wd1372, wd1373, wd649, wd1374, pl_X8_reach⟩
theorem wd1375 : Cond.methodLink RL 153 yX7_far ∈ tblG := gw4 122 (by decide +kernel) (by decide +kernel)
theorem wd1376 : Cond.instanceMethod yX7_far ∈ tblG := gw4 123 (by decide +kernel) (by decide +kernel)
theorem wd1377 : Cond.selects RX7 yX7_far yX7_far ∈ tblG := gw4 124 (by decide +kernel) (by decide +kernel)
theorem wd1378 : Cond.code yX7_far cX7_far 3 (some .int) ∈ tblG := gw4 125 (by decide +kernel) (by decide +kernel)
theorem pl_X7_far : Plain yX7_far 2 := ⟨by decide, by decide, by decide +kernel⟩
theorem lk_L_153 : LkV RL 153 7 yX7_far cX7_far 3 (some .int) 2 := ⟨⟨TX7, 12, rfl⟩, wd1375, wd1376, wd1377, wd207, wd1378, pl_X7_far⟩
theorem wd1379 : Cond.methodLink RL 156 yX8_far ∈ tblG := gw8 61 (by decide +kernel) (by decide +kernel)
theorem wd1380 : Cond.instanceMethod yX8_far ∈ tblG := gw8 62 (by decide +kernel) (by decide +kernel)
theorem wd1381 : Cond.selects RX8 yX8_far yX8_far ∈ tblG := gw8 63 (by decide +kernel) (by decide +kernel)
theorem wd1382 : Cond.code yX8_far cX8_far 5 (some .int) ∈ tblG := gw8 64 (by decide +kernel) (by decide +kernel)
theorem pl_X8_far : Plain yX8_far 2 := ⟨by decide, by decide, by decide +kernel⟩
theorem lk_L_156 : LkV RL 156 8 yX8_far cX8_far 5 (some .int) 2 := ⟨⟨TX8, 41, rfl⟩, wd1379, wd1380, wd1381, wd649, wd1382, pl_X8_far⟩
theorem wd1383 : Cond.methodLink RL 157 yX7_setting ∈ tblG := gw4 130 (by decide +kernel) (by decide +kernel)
theorem wd1384 : Cond.instanceMethod yX7_setting ∈ tblG := gw4 131 (by decide +kernel) (by decide +kernel)
theorem wd1385 : Cond.selects RX7 yX7_setting yX7_setting ∈ tblG := gw4 132 (by decide +kernel) (by decide +kernel)
theorem wd1386 : Cond.code yX7_setting cX7_setting 2 (some .int) ∈ tblG := gw4 133 (by decide +kernel) (by decide +kernel)
theorem pl_X7_setting : Plain yX7_setting 1 := ⟨by decide, by decide, by decide +kernel⟩
theorem lk_L_157 : LkV RL 157 7 yX7_setting cX7_setting 2 (some .int) 1 := ⟨⟨TX7, 12, rfl⟩, wd1383, wd1384, wd1385, wd207, wd1386, pl_X7_setting⟩
theorem wd1387 : Cond.methodLink RL 160 yX8_setting ∈ tblG := gw8 65 (by decide +kernel) (by decide +kernel)
theorem wd1388 : Cond.instanceMethod yX8_setting ∈ tblG := gw8 66 (by decide +kernel) (by decide +kernel)
theorem wd1389 : Cond.selects RX8 yX8_setting yX8_setting ∈ tblG := gw8 67 (by decide +kernel) (by decide +kernel)
theorem wd1390 : Cond.code yX8_setting cX8_setting 2 (some .int) ∈ tblG := gw8 68 (by decide +kernel) (by decide +kernel)
theorem pl_X8_setting : Plain yX8_setting 1 := ⟨by decide, by decide, by decide +kernel⟩
theorem lk_L_160 : LkV RL 160 8 yX8_setting cX8_setting 2 (some .int) 1 := ⟨⟨TX8, 41, rfl⟩, wd1387, wd1388, wd1389, wd649, wd1390, pl_X8_setting⟩
theorem wd1391 : Cond.methodLink RL 161 yX7_settings ∈ tblG := gw4 142 (by decide +kernel) (by decide +kernel)
theorem wd1392 : Cond.instanceMethod yX7_settings ∈ tblG := gw4 143 (by decide +kernel) (by decide +kernel)
theorem wd1393 : Cond.selects RX7 yX7_settings yX7_settings ∈ tblG := gw4 144 (by decide +kernel) (by decide +kernel)
theorem wd1394 : Cond.code yX7_settings cX7_settings 1 (some .int) ∈ tblG := gw4 145 (by decide +kernel) (by decide +kernel)
theorem pl_X7_settings : Plain yX7_settings 0 := ⟨by decide, by decide, by decide +kernel⟩
theorem lk_L_161 : LkV RL 161 7 yX7_settings cX7_settings 1 (some .int) 0 := ⟨⟨TX7, 12, rfl⟩, wd1391, wd1392, wd1393, wd207, wd1394, pl_X7_settings⟩
theorem wd1395 : Cond.methodLink RL 164 yX8_settings ∈ tblG := gw8 81 (by decide +kernel) (by decide +kernel)
theorem wd1396 : Cond.instanceMethod yX8_settings ∈ tblG := gw8 82 (by decide +kernel) (by decide +kernel)
theorem wd1397 : Cond.selects RX8 yX8_settings yX8_settings ∈ tblG := gw8 83 (by decide +kernel) (by decide +kernel)
theorem wd1398 : Cond.code yX8_settings cX8_settings 1 (some .int) ∈ tblG := gw8 84 (by decide +kernel) (by decide +kernel)
theorem pl_X8_settings : Plain yX8_settings 0 := ⟨by decide, by decide, by decide +kernel⟩
theorem lk_L_164 : LkV RL 164 8 yX8_settings cX8_settings 1 (some .int) 0 := ⟨⟨TX8, 41, rfl⟩, wd1395, wd1396, wd1397, wd649, wd1398, pl_X8_settings⟩
theorem wd1399 : Cond.methodLink RL 165 yX7_same ∈ tblG := gw4 150 (by decide +kernel) (by decide +kernel)
theorem wd1400 : Cond.instanceMethod yX7_same ∈ tblG := gw4 151 (by decide +kernel) (by decide +kernel)
theorem wd1401 : Cond.selects RX7 yX7_same yX7_same ∈ tblG := gw4 152 (by decide +kernel) (by decide +kernel)
theorem wd1402 : Cond.code yX7_same cX7_same 3 (some .int) ∈ tblG := gw4 153 (by decide +kernel) (by decide +kernel)
theorem pl_X7_same : Plain yX7_same 0 := ⟨by decide, by decide, by decide +kernel⟩
theorem lk_L_165 : LkV RL 165 7 yX7_same cX7_same 3 (some .int) 0 := ⟨⟨TX7, 12, rfl⟩, wd1399, wd1400, wd1401, wd207, wd1402, pl_X7_same⟩
theorem wd1403 : Cond.methodLink RL 168 yX8_same ∈ tblG := gw8 89 (by decide +kernel) (by decide +kernel)
theorem wd1404 : Cond.instanceMethod yX8_same ∈ tblG := gw8 90 (by decide +kernel) (by decide +kernel)
theorem wd1405 : Cond.selects RX8 yX8_same yX8_same ∈ tblG := gw8 91 (by decide +kernel) (by decide +kernel)
theorem wd1406 : Cond.code yX8_same cX8_same 2 (some .int) ∈ tblG := gw8 92 (by decide +kernel) (by decide +kernel)
theorem pl_X8_same : Plain yX8_same 0 := ⟨by decide, by decide, by decide +kernel⟩
theorem lk_L_168 : LkV RL 168 8 yX8_same cX8_same 2 (some .int) 0 := ⟨⟨TX8, 41, rfl⟩, wd1403, wd1404, wd1405, wd649, wd1406, pl_X8_same⟩
theorem wd1407 : Cond.methodLink RL 169 yX7_alone ∈ tblG := gw4 154 (by decide +kernel) (by decide +kernel)
theorem wd1408 : Cond.instanceMethod yX7_alone ∈ tblG := gw4 155 (by decide +kernel) (by decide +kernel)
theorem wd1409 : Cond.selects RX7 yX7_alone yX7_alone ∈ tblG := gw4 156 (by decide +kernel) (by decide +kernel)
theorem wd1410 : Cond.code yX7_alone cX7_alone 2 (some .int) ∈ tblG := gw4 157 (by decide +kernel) (by decide +kernel)
theorem pl_X7_alone : Plain yX7_alone 1 := ⟨by decide, by decide, by decide +kernel⟩
theorem lk_L_169 : LkV RL 169 7 yX7_alone cX7_alone 2 (some .int) 1 := ⟨⟨TX7, 12, rfl⟩, wd1407, wd1408, wd1409, wd207, wd1410, pl_X7_alone⟩
theorem wd1411 : Cond.methodLink RL 172 yX8_alone ∈ tblG := gw8 117 (by decide +kernel) (by decide +kernel)
theorem wd1412 : Cond.instanceMethod yX8_alone ∈ tblG := gw8 118 (by decide +kernel) (by decide +kernel)
theorem wd1413 : Cond.selects RX8 yX8_alone yX8_alone ∈ tblG := gw8 119 (by decide +kernel) (by decide +kernel)
theorem wd1414 : Cond.code yX8_alone cX8_alone 2 (some .int) ∈ tblG := gw8 120 (by decide +kernel) (by decide +kernel)
theorem pl_X8_alone : Plain yX8_alone 1 := ⟨by decide, by decide, by decide +kernel⟩
theorem lk_L_172 : LkV RL 172 8 yX8_alone cX8_alone 2 (some .int) 1 := ⟨⟨TX8, 41, rfl⟩, wd1411, wd1412, wd1413, wd649, wd1414, pl_X8_alone⟩
theorem wd1415 : Cond.methodLink RL 173 yX7_steps ∈ tblG := gw4 170 (by decide +kernel) (by decide +kernel)
theorem wd1416 : Cond.instanceMethod yX7_steps ∈ tblG := gw4 171 (by decide +kernel) (by decide +kernel)
theorem wd1417 : Cond.selects RX7 yX7_steps yX7_steps ∈ tblG := gw4 172 (by decide +kernel) (by decide +kernel)
theorem wd1418 : Cond.code yX7_steps cX7_steps 2 (some .int) ∈ tblG := gw4 173 (by decide +kernel) (by decide +kernel)
theorem pl_X7_steps : Plain yX7_steps 1 := ⟨by decide, by decide, by decide +kernel⟩
theorem lk_L_173 : LkV RL 173 7 yX7_steps cX7_steps 2 (some .int) 1 := ⟨⟨TX7, 12, rfl⟩, wd1415, wd1416, wd1417, wd207, wd1418, pl_X7_steps⟩
theorem wd1419 : Cond.methodLink RL 176 yX8_steps ∈ tblG := gw8 129 (by decide +kernel) (by decide +kernel)
theorem wd1420 : Cond.instanceMethod yX8_steps ∈ tblG := gw8 130 (by decide +kernel) (by decide +kernel)
theorem wd1421 : Cond.selects RX8 yX8_steps yX8_steps ∈ tblG := gw8 131 (by decide +kernel) (by decide +kernel)
theorem wd1422 : Cond.code yX8_steps cX8_steps 2 (some .int) ∈ tblG := gw8 132 (by decide +kernel) (by decide +kernel)
theorem pl_X8_steps : Plain yX8_steps 1 := ⟨by decide, by decide, by decide +kernel⟩
theorem lk_L_176 : LkV RL 176 8 yX8_steps cX8_steps 2 (some .int) 1 := ⟨⟨TX8, 41, rfl⟩, wd1419, wd1420, wd1421, wd649, wd1422, pl_X8_steps⟩
theorem wd1423 : Cond.methodLink RL 177 yX7_behind ∈ tblG := gw4 174 (by decide +kernel) (by decide +kernel)
theorem wd1424 : Cond.instanceMethod yX7_behind ∈ tblG := gw4 175 (by decide +kernel) (by decide +kernel)
theorem wd1425 : Cond.selects RX7 yX7_behind yX7_behind ∈ tblG := gw4 176 (by decide +kernel) (by decide +kernel)
theorem wd1426 : Cond.code yX7_behind cX7_behind 2 (some .int) ∈ tblG := gw4 177 (by decide +kernel) (by decide +kernel)
theorem pl_X7_behind : Plain yX7_behind 1 := ⟨by decide, by decide, by decide +kernel⟩
theorem lk_L_177 : LkV RL 177 7 yX7_behind cX7_behind 2 (some .int) 1 := ⟨⟨TX7, 12, rfl⟩, wd1423, wd1424, wd1425, wd207, wd1426, pl_X7_behind⟩
theorem wd1427 : Cond.methodLink RL 180 yX8_behind ∈ tblG := gw8 133 (by decide +kernel) (by decide +kernel)
theorem wd1428 : Cond.instanceMethod yX8_behind ∈ tblG := gw8 134 (by decide +kernel) (by decide +kernel)
theorem wd1429 : Cond.selects RX8 yX8_behind yX8_behind ∈ tblG := gw8 135 (by decide +kernel) (by decide +kernel)
theorem wd1430 : Cond.code yX8_behind cX8_behind 2 (some .int) ∈ tblG := gw8 136 (by decide +kernel) (by decide +kernel)
theorem pl_X8_behind : Plain yX8_behind 1 := ⟨by decide, by decide, by decide +kernel⟩
theorem lk_L_180 : LkV RL 180 8 yX8_behind cX8_behind 2 (some .int) 1 := ⟨⟨TX8, 41, rfl⟩, wd1427, wd1428, wd1429, wd649, wd1430, pl_X8_behind⟩
theorem wd1431 : Cond.methodLink RL 181 yX7_nth ∈ tblG := gw4 183 (by decide +kernel) (by decide +kernel)
theorem wd1432 : Cond.instanceMethod yX7_nth ∈ tblG := gw4 184 (by decide +kernel) (by decide +kernel)
theorem wd1433 : Cond.selects RX7 yX7_nth yX7_nth ∈ tblG := gw4 185 (by decide +kernel) (by decide +kernel)
theorem wd1434 : Cond.code yX7_nth cX7_nth 5 (some .int) ∈ tblG := gw4 186 (by decide +kernel) (by decide +kernel)
theorem pl_X7_nth : Plain yX7_nth 2 := ⟨by decide, by decide, by decide +kernel⟩
theorem lk_L_181 : LkV RL 181 7 yX7_nth cX7_nth 5 (some .int) 2 := ⟨⟨TX7, 12, rfl⟩, wd1431, wd1432, wd1433, wd207, wd1434, pl_X7_nth⟩
theorem wd1435 : Cond.methodLink RL 184 yX8_nth ∈ tblG := gw8 141 (by decide +kernel) (by decide +kernel)
theorem wd1436 : Cond.instanceMethod yX8_nth ∈ tblG := gw8 142 (by decide +kernel) (by decide +kernel)
theorem wd1437 : Cond.selects RX8 yX8_nth yX8_nth ∈ tblG := gw8 143 (by decide +kernel) (by decide +kernel)
theorem wd1438 : Cond.code yX8_nth cX8_nth 5 (some .int) ∈ tblG := gw8 144 (by decide +kernel) (by decide +kernel)
theorem pl_X8_nth : Plain yX8_nth 2 := ⟨by decide, by decide, by decide +kernel⟩
theorem lk_L_184 : LkV RL 184 8 yX8_nth cX8_nth 5 (some .int) 2 := ⟨⟨TX8, 41, rfl⟩, wd1435, wd1436, wd1437, wd649, wd1438, pl_X8_nth⟩
theorem wd1439 : Cond.methodLink RL 185 yX7_round ∈ tblG := gw4 190 (by decide +kernel) (by decide +kernel)
theorem wd1440 : Cond.instanceMethod yX7_round ∈ tblG := gw4 191 (by decide +kernel) (by decide +kernel)
theorem wd1441 : Cond.selects RX7 yX7_round yX7_round ∈ tblG := gw4 192 (by decide +kernel) (by decide +kernel)
theorem wd1442 : Cond.code yX7_round cX7_round 4 (some .int) ∈ tblG := gw4 193 (by decide +kernel) (by decide +kernel)
theorem pl_X7_round : Plain yX7_round 1 := ⟨by decide, by decide, by decide +kernel⟩
theorem lk_L_185 : LkV RL 185 7 yX7_round cX7_round 4 (some .int) 1 := ⟨⟨TX7, 12, rfl⟩, wd1439, wd1440, wd1441, wd207, wd1442, pl_X7_round⟩
theorem wd1443 : Cond.methodLink RL 188 yX8_round ∈ tblG := gw8 146 (by decide +kernel) (by decide +kernel)
theorem wd1444 : Cond.instanceMethod yX8_round ∈ tblG := gw8 147 (by decide +kernel) (by decide +kernel)
theorem wd1445 : Cond.selects RX8 yX8_round yX8_round ∈ tblG := gw8 148 (by decide +kernel) (by decide +kernel)
theorem wd1446 : Cond.code yX8_round cX8_round 4 (some .int) ∈ tblG := gw8 149 (by decide +kernel) (by decide +kernel)
theorem pl_X8_round : Plain yX8_round 1 := ⟨by decide, by decide, by decide +kernel⟩
theorem lk_L_188 : LkV RL 188 8 yX8_round cX8_round 4 (some .int) 1 := ⟨⟨TX8, 41, rfl⟩, wd1443, wd1444, wd1445, wd649, wd1446, pl_X8_round⟩
theorem wd1447 : Cond.methodLink RL 189 yX7_houses ∈ tblG := gw4 194 (by decide +kernel) (by decide +kernel)
theorem wd1448 : Cond.instanceMethod yX7_houses ∈ tblG := gw4 195 (by decide +kernel) (by decide +kernel)
theorem wd1449 : Cond.selects RX7 yX7_houses yX7_houses ∈ tblG := gw4 196 (by decide +kernel) (by decide +kernel)
theorem wd1450 : Cond.code yX7_houses cX7_houses 7 (some .int) ∈ tblG := gw4 197 (by decide +kernel) (by decide +kernel)
theorem pl_X7_houses : Plain yX7_houses 3 := ⟨by decide, by decide, by decide +kernel⟩
theorem lk_L_189 : LkV RL 189 7 yX7_houses cX7_houses 7 (some .int) 3 := ⟨⟨TX7, 12, rfl⟩, wd1447, wd1448, wd1449, wd207, wd1450, pl_X7_houses⟩
theorem wd1451 : Cond.methodLink RL 193 yX8_houses ∈ tblG := gw8 150 (by decide +kernel) (by decide +kernel)
theorem wd1452 : Cond.instanceMethod yX8_houses ∈ tblG := gw8 151 (by decide +kernel) (by decide +kernel)
theorem wd1453 : Cond.selects RX8 yX8_houses yX8_houses ∈ tblG := gw8 152 (by decide +kernel) (by decide +kernel)
theorem wd1454 : Cond.code yX8_houses cX8_houses 7 (some .int) ∈ tblG := gw8 153 (by decide +kernel) (by decide +kernel)
theorem pl_X8_houses : Plain yX8_houses 3 := ⟨by decide, by decide, by decide +kernel⟩
theorem lk_L_193 : LkV RL 193 8 yX8_houses cX8_houses 7 (some .int) 3 := ⟨⟨TX8, 41, rfl⟩, wd1451, wd1452, wd1453, wd649, wd1454, pl_X8_houses⟩
theorem wd1455 : Cond.methodLink RL 194 yX7_tree ∈ tblG := gw4 198 (by decide +kernel) (by decide +kernel)
theorem wd1456 : Cond.instanceMethod yX7_tree ∈ tblG := gw4 199 (by decide +kernel) (by decide +kernel)
theorem wd1457 : Cond.selects RX7 yX7_tree yX7_tree ∈ tblG := gw4 200 (by decide +kernel) (by decide +kernel)
theorem wd1458 : Cond.code yX7_tree cX7_tree 2 (some .int) ∈ tblG := gw4 201 (by decide +kernel) (by decide +kernel)
theorem pl_X7_tree : Plain yX7_tree 1 := ⟨by decide, by decide, by decide +kernel⟩
theorem lk_L_194 : LkV RL 194 7 yX7_tree cX7_tree 2 (some .int) 1 := ⟨⟨TX7, 12, rfl⟩, wd1455, wd1456, wd1457, wd207, wd1458, pl_X7_tree⟩
theorem wd1459 : Cond.methodLink RL 197 yX8_tree ∈ tblG := gw8 93 (by decide +kernel) (by decide +kernel)
theorem wd1460 : Cond.instanceMethod yX8_tree ∈ tblG := gw8 94 (by decide +kernel) (by decide +kernel)
theorem wd1461 : Cond.selects RX8 yX8_tree yX8_tree ∈ tblG := gw8 95 (by decide +kernel) (by decide +kernel)
theorem wd1462 : Cond.code yX8_tree cX8_tree 2 (some .int) ∈ tblG := gw8 96 (by decide +kernel) (by decide +kernel)
theorem pl_X8_tree : Plain yX8_tree 1 := ⟨by decide, by decide, by decide +kernel⟩
theorem lk_L_197 : LkV RL 197 8 yX8_tree cX8_tree 2 (some .int) 1 := ⟨⟨TX8, 41, rfl⟩, wd1459, wd1460, wd1461, wd649, wd1462, pl_X8_tree⟩
theorem wd1463 : Cond.methodLink RL 198 yX7_ring ∈ tblG := gw4 210 (by decide +kernel) (by decide +kernel)
theorem wd1464 : Cond.instanceMethod yX7_ring ∈ tblG := gw4 211 (by decide +kernel) (by decide +kernel)
theorem wd1465 : Cond.selects RX7 yX7_ring yX7_ring ∈ tblG := gw4 212 (by decide +kernel) (by decide +kernel)
theorem wd1466 : Cond.code yX7_ring cX7_ring 2 (some .int) ∈ tblG := gw4 213 (by decide +kernel) (by decide +kernel)
theorem pl_X7_ring : Plain yX7_ring 1 := ⟨by decide, by decide, by decide +kernel⟩
theorem lk_L_198 : LkV RL 198 7 yX7_ring cX7_ring 2 (some .int) 1 := ⟨⟨TX7, 12, rfl⟩, wd1463, wd1464, wd1465, wd207, wd1466, pl_X7_ring⟩
theorem wd1467 : Cond.methodLink RL 201 yX8_ring ∈ tblG := gw8 109 (by decide +kernel) (by decide +kernel)
theorem wd1468 : Cond.instanceMethod yX8_ring ∈ tblG := gw8 110 (by decide +kernel) (by decide +kernel)
theorem wd1469 : Cond.selects RX8 yX8_ring yX8_ring ∈ tblG := gw8 111 (by decide +kernel) (by decide +kernel)
theorem wd1470 : Cond.code yX8_ring cX8_ring 6 (some .int) ∈ tblG := gw8 112 (by decide +kernel) (by decide +kernel)
theorem pl_X8_ring : Plain yX8_ring 1 := ⟨by decide, by decide, by decide +kernel⟩
theorem lk_L_201 : LkV RL 201 8 yX8_ring cX8_ring 6 (some .int) 1 := ⟨⟨TX8, 41, rfl⟩, wd1467, wd1468, wd1469, wd649, wd1470, pl_X8_ring⟩
theorem wd1471 : Cond.methodLink RL 202 yX7_trees ∈ tblG := gw4 222 (by decide +kernel) (by decide +kernel)
theorem wd1472 : Cond.instanceMethod yX7_trees ∈ tblG := gw4 223 (by decide +kernel) (by decide +kernel)
theorem wd1473 : Cond.selects RX7 yX7_trees yX7_trees ∈ tblG := gw4 224 (by decide +kernel) (by decide +kernel)
theorem wd1474 : Cond.code yX7_trees cX7_trees 4 (some .int) ∈ tblG := gw4 225 (by decide +kernel) (by decide +kernel)
theorem pl_X7_trees : Plain yX7_trees 0 := ⟨by decide, by decide, by decide +kernel⟩
theorem lk_L_202 : LkV RL 202 7 yX7_trees cX7_trees 4 (some .int) 0 := ⟨⟨TX7, 12, rfl⟩, wd1471, wd1472, wd1473, wd207, wd1474, pl_X7_trees⟩
theorem wd1475 : Cond.methodLink RL 205 yX8_trees ∈ tblG := gw8 113 (by decide +kernel) (by decide +kernel)
theorem wd1476 : Cond.instanceMethod yX8_trees ∈ tblG := gw8 114 (by decide +kernel) (by decide +kernel)
theorem wd1477 : Cond.selects RX8 yX8_trees yX8_trees ∈ tblG := gw8 115 (by decide +kernel) (by decide +kernel)
theorem wd1478 : Cond.code yX8_trees cX8_trees 7 (some .int) ∈ tblG := gw8 116 (by decide +kernel) (by decide +kernel)
theorem pl_X8_trees : Plain yX8_trees 0 := ⟨by decide, by decide, by decide +kernel⟩
theorem lk_L_205 : LkV RL 205 8 yX8_trees cX8_trees 7 (some .int) 0 := ⟨⟨TX8, 41, rfl⟩, wd1475, wd1476, wd1477, wd649, wd1478, pl_X8_trees⟩
theorem wd1479 : Cond.methodLink RL 206 yX7_point ∈ tblG := gw4 230 (by decide +kernel) (by decide +kernel)
theorem wd1480 : Cond.instanceMethod yX7_point ∈ tblG := gw4 231 (by decide +kernel) (by decide +kernel)
theorem wd1481 : Cond.selects RX7 yX7_point yX7_point ∈ tblG := gw4 232 (by decide +kernel) (by decide +kernel)
theorem wd1482 : Cond.code yX7_point cX7_point 8 (some .int) ∈ tblG := gw4 233 (by decide +kernel) (by decide +kernel)
theorem pl_X7_point : Plain yX7_point 2 := ⟨by decide, by decide, by decide +kernel⟩
theorem lk_L_206 : LkV RL 206 7 yX7_point cX7_point 8 (some .int) 2 := ⟨⟨TX7, 12, rfl⟩, wd1479, wd1480, wd1481, wd207, wd1482, pl_X7_point⟩
theorem wd1483 : Cond.methodLink RL 209 yX8_point ∈ tblG := gw8 154 (by decide +kernel) (by decide +kernel)
theorem wd1484 : Cond.instanceMethod yX8_point ∈ tblG := gw8 155 (by decide +kernel) (by decide +kernel)
theorem wd1485 : Cond.selects RX8 yX8_point yX8_point ∈ tblG := gw8 156 (by decide +kernel) (by decide +kernel)
theorem wd1486 : Cond.code yX8_point cX8_point 7 (some .int) ∈ tblG := gw8 157 (by decide +kernel) (by decide +kernel)
theorem pl_X8_point : Plain yX8_point 2 := ⟨by decide, by decide, by decide +kernel⟩
theorem lk_L_209 : LkV RL 209 8 yX8_point cX8_point 7 (some .int) 2 := ⟨⟨TX8, 41, rfl⟩, wd1483, wd1484, wd1485, wd649, wd1486, pl_X8_point⟩
theorem wd1487 : Cond.methodLink RL 210 yX7_best ∈ tblG := gw5 6 (by decide +kernel) (by decide +kernel)
theorem wd1488 : Cond.instanceMethod yX7_best ∈ tblG := gw5 7 (by decide +kernel) (by decide +kernel)
theorem wd1489 : Cond.selects RX7 yX7_best yX7_best ∈ tblG := gw5 8 (by decide +kernel) (by decide +kernel)
theorem wd1490 : Cond.code yX7_best cX7_best 6 (some .int) ∈ tblG := gw5 9 (by decide +kernel) (by decide +kernel)
theorem pl_X7_best : Plain yX7_best 0 := ⟨by decide, by decide, by decide +kernel⟩
theorem lk_L_210 : LkV RL 210 7 yX7_best cX7_best 6 (some .int) 0 := ⟨⟨TX7, 12, rfl⟩, wd1487, wd1488, wd1489, wd207, wd1490, pl_X7_best⟩
theorem wd1491 : Cond.methodLink RL 213 yX8_best ∈ tblG := gw8 163 (by decide +kernel) (by decide +kernel)
theorem wd1492 : Cond.instanceMethod yX8_best ∈ tblG := gw8 164 (by decide +kernel) (by decide +kernel)
theorem wd1493 : Cond.selects RX8 yX8_best yX8_best ∈ tblG := gw8 165 (by decide +kernel) (by decide +kernel)
theorem wd1494 : Cond.code yX8_best cX8_best 5 (some .int) ∈ tblG := gw8 166 (by decide +kernel) (by decide +kernel)
theorem pl_X8_best : Plain yX8_best 0 := ⟨by decide, by decide, by decide +kernel⟩
theorem lk_L_213 : LkV RL 213 8 yX8_best cX8_best 5 (some .int) 0 := ⟨⟨TX8, 41, rfl⟩, wd1491, wd1492, wd1493, wd649, wd1494, pl_X8_best⟩
theorem wd1495 : Cond.methodLink RL 214 yX7_crowds ∈ tblG := gw5 11 (by decide +kernel) (by decide +kernel)
theorem wd1496 : Cond.instanceMethod yX7_crowds ∈ tblG := gw5 12 (by decide +kernel) (by decide +kernel)
theorem wd1497 : Cond.selects RX7 yX7_crowds yX7_crowds ∈ tblG := gw5 13 (by decide +kernel) (by decide +kernel)
theorem wd1498 : Cond.code yX7_crowds cX7_crowds 7 (some .int) ∈ tblG := gw5 14 (by decide +kernel) (by decide +kernel)
theorem pl_X7_crowds : Plain yX7_crowds 0 := ⟨by decide, by decide, by decide +kernel⟩
theorem lk_L_214 : LkV RL 214 7 yX7_crowds cX7_crowds 7 (some .int) 0 := ⟨⟨TX7, 12, rfl⟩, wd1495, wd1496, wd1497, wd207, wd1498, pl_X7_crowds⟩
theorem wd1499 : Cond.methodLink RL 217 yX8_crowds ∈ tblG := gw8 171 (by decide +kernel) (by decide +kernel)
theorem wd1500 : Cond.instanceMethod yX8_crowds ∈ tblG := gw8 172 (by decide +kernel) (by decide +kernel)
theorem wd1501 : Cond.selects RX8 yX8_crowds yX8_crowds ∈ tblG := gw8 173 (by decide +kernel) (by decide +kernel)
theorem wd1502 : Cond.code yX8_crowds cX8_crowds 6 (some .int) ∈ tblG := gw8 174 (by decide +kernel) (by decide +kernel)
theorem pl_X8_crowds : Plain yX8_crowds 0 := ⟨by decide, by decide, by decide +kernel⟩
theorem lk_L_217 : LkV RL 217 8 yX8_crowds cX8_crowds 6 (some .int) 0 := ⟨⟨TX8, 41, rfl⟩, wd1499, wd1500, wd1501, wd649, wd1502, pl_X8_crowds⟩
theorem wd1503 : Cond.methodLink RL 218 yX7_may ∈ tblG := gw5 19 (by decide +kernel) (by decide +kernel)
theorem wd1504 : Cond.instanceMethod yX7_may ∈ tblG := gw5 20 (by decide +kernel) (by decide +kernel)
theorem wd1505 : Cond.selects RX7 yX7_may yX7_may ∈ tblG := gw5 21 (by decide +kernel) (by decide +kernel)
theorem wd1506 : Cond.code yX7_may cX7_may 4 (some .int) ∈ tblG := gw5 22 (by decide +kernel) (by decide +kernel)
theorem pl_X7_may : Plain yX7_may 2 := ⟨by decide, by decide, by decide +kernel⟩
theorem lk_L_218 : LkV RL 218 7 yX7_may cX7_may 4 (some .int) 2 := ⟨⟨TX7, 12, rfl⟩, wd1503, wd1504, wd1505, wd207, wd1506, pl_X7_may⟩
theorem wd1507 : Cond.methodLink RL 221 yX8_may ∈ tblG := gw8 175 (by decide +kernel) (by decide +kernel)
theorem wd1508 : Cond.instanceMethod yX8_may ∈ tblG := gw8 176 (by decide +kernel) (by decide +kernel)
theorem wd1509 : Cond.selects RX8 yX8_may yX8_may ∈ tblG := gw8 177 (by decide +kernel) (by decide +kernel)
theorem wd1510 : Cond.code yX8_may cX8_may 4 (some .int) ∈ tblG := gw8 178 (by decide +kernel) (by decide +kernel)
theorem pl_X8_may : Plain yX8_may 2 := ⟨by decide, by decide, by decide +kernel⟩
theorem lk_L_221 : LkV RL 221 8 yX8_may cX8_may 4 (some .int) 2 := ⟨⟨TX8, 41, rfl⟩, wd1507, wd1508, wd1509, wd649, wd1510, pl_X8_may⟩
theorem wd1511 : Cond.methodLink RL 222 yX7_ask ∈ tblG := gw5 45 (by decide +kernel) (by decide +kernel)
theorem wd1512 : Cond.instanceMethod yX7_ask ∈ tblG := gw5 46 (by decide +kernel) (by decide +kernel)
theorem wd1513 : Cond.selects RX7 yX7_ask yX7_ask ∈ tblG := gw5 47 (by decide +kernel) (by decide +kernel)
theorem wd1514 : Cond.code yX7_ask cX7_ask 4 (some .int) ∈ tblG := gw5 48 (by decide +kernel) (by decide +kernel)
theorem pl_X7_ask : Plain yX7_ask 2 := ⟨by decide, by decide, by decide +kernel⟩
theorem lk_L_222 : LkV RL 222 7 yX7_ask cX7_ask 4 (some .int) 2 := ⟨⟨TX7, 12, rfl⟩, wd1511, wd1512, wd1513, wd207, wd1514, pl_X7_ask⟩
theorem wd1515 : Cond.methodLink RL 225 yX8_ask ∈ tblG := gw8 207 (by decide +kernel) (by decide +kernel)
theorem wd1516 : Cond.instanceMethod yX8_ask ∈ tblG := gw8 208 (by decide +kernel) (by decide +kernel)
theorem wd1517 : Cond.selects RX8 yX8_ask yX8_ask ∈ tblG := gw8 209 (by decide +kernel) (by decide +kernel)
theorem wd1518 : Cond.code yX8_ask cX8_ask 4 (some .int) ∈ tblG := gw8 210 (by decide +kernel) (by decide +kernel)
theorem pl_X8_ask : Plain yX8_ask 2 := ⟨by decide, by decide, by decide +kernel⟩
theorem lk_L_225 : LkV RL 225 8 yX8_ask cX8_ask 4 (some .int) 2 := ⟨⟨TX8, 41, rfl⟩, wd1515, wd1516, wd1517, wd649, wd1518, pl_X8_ask⟩
theorem wd1519 : Cond.methodLink RL 226 yX7_leaves ∈ tblG := gw5 62 (by decide +kernel) (by decide +kernel)
theorem wd1520 : Cond.instanceMethod yX7_leaves ∈ tblG := gw5 63 (by decide +kernel) (by decide +kernel)
theorem wd1521 : Cond.selects RX7 yX7_leaves yX7_leaves ∈ tblG := gw5 64 (by decide +kernel) (by decide +kernel)
theorem wd1522 : Cond.code yX7_leaves cX7_leaves 6 (some .int) ∈ tblG := gw5 65 (by decide +kernel) (by decide +kernel)
theorem pl_X7_leaves : Plain yX7_leaves 2 := ⟨by decide, by decide, by decide +kernel⟩
theorem lk_L_226 : LkV RL 226 7 yX7_leaves cX7_leaves 6 (some .int) 2 := ⟨⟨TX7, 12, rfl⟩, wd1519, wd1520, wd1521, wd207, wd1522, pl_X7_leaves⟩
theorem wd1523 : Cond.methodLink RL 229 yX8_leaves ∈ tblG := gw8 219 (by decide +kernel) (by decide +kernel)
theorem wd1524 : Cond.instanceMethod yX8_leaves ∈ tblG := gw8 220 (by decide +kernel) (by decide +kernel)
theorem wd1525 : Cond.selects RX8 yX8_leaves yX8_leaves ∈ tblG := gw8 221 (by decide +kernel) (by decide +kernel)
theorem wd1526 : Cond.code yX8_leaves cX8_leaves 4 (some .int) ∈ tblG := gw8 222 (by decide +kernel) (by decide +kernel)
theorem pl_X8_leaves : Plain yX8_leaves 2 := ⟨by decide, by decide, by decide +kernel⟩
theorem lk_L_229 : LkV RL 229 8 yX8_leaves cX8_leaves 4 (some .int) 2 := ⟨⟨TX8, 41, rfl⟩, wd1523, wd1524, wd1525, wd649, wd1526, pl_X8_leaves⟩
theorem wd1527 : Cond.methodLink RL 230 yX7_laws ∈ tblG := gw5 66 (by decide +kernel) (by decide +kernel)
theorem wd1528 : Cond.instanceMethod yX7_laws ∈ tblG := gw5 67 (by decide +kernel) (by decide +kernel)
theorem wd1529 : Cond.selects RX7 yX7_laws yX7_laws ∈ tblG := gw5 68 (by decide +kernel) (by decide +kernel)
theorem wd1530 : Cond.code yX7_laws cX7_laws 5 (some .int) ∈ tblG := gw5 69 (by decide +kernel) (by decide +kernel)
theorem pl_X7_laws : Plain yX7_laws 1 := ⟨by decide, by decide, by decide +kernel⟩
theorem lk_L_230 : LkV RL 230 7 yX7_laws cX7_laws 5 (some .int) 1 := ⟨⟨TX7, 12, rfl⟩, wd1527, wd1528, wd1529, wd207, wd1530, pl_X7_laws⟩
theorem wd1531 : Cond.methodLink RL 233 yX8_laws ∈ tblG := gw8 223 (by decide +kernel) (by decide +kernel)
theorem wd1532 : Cond.instanceMethod yX8_laws ∈ tblG := gw8 224 (by decide +kernel) (by decide +kernel)
theorem wd1533 : Cond.selects RX8 yX8_laws yX8_laws ∈ tblG := gw8 225 (by decide +kernel) (by decide +kernel)
theorem wd1534 : Cond.code yX8_laws cX8_laws 4 (some .int) ∈ tblG := gw8 226 (by decide +kernel) (by decide +kernel)
theorem pl_X8_laws : Plain yX8_laws 1 := ⟨by decide, by decide, by decide +kernel⟩
theorem lk_L_233 : LkV RL 233 8 yX8_laws cX8_laws 4 (some .int) 1 := ⟨⟨TX8, 41, rfl⟩, wd1531, wd1532, wd1533, wd649, wd1534, pl_X8_laws⟩
theorem wd1535 : Cond.methodLink RL 234 yX7_by ∈ tblG := gw5 74 (by decide +kernel) (by decide +kernel)
theorem wd1536 : Cond.instanceMethod yX7_by ∈ tblG := gw5 75 (by decide +kernel) (by decide +kernel)
theorem wd1537 : Cond.selects RX7 yX7_by yX7_by ∈ tblG := gw5 76 (by decide +kernel) (by decide +kernel)
theorem wd1538 : Cond.code yX7_by cX7_by 2 (some .int) ∈ tblG := gw5 77 (by decide +kernel) (by decide +kernel)
theorem pl_X7_by : Plain yX7_by 1 := ⟨by decide, by decide, by decide +kernel⟩
theorem lk_L_234 : LkV RL 234 7 yX7_by cX7_by 2 (some .int) 1 := ⟨⟨TX7, 12, rfl⟩, wd1535, wd1536, wd1537, wd207, wd1538, pl_X7_by⟩
theorem wd1539 : Cond.methodLink RL 237 yX8_by ∈ tblG := gw8 227 (by decide +kernel) (by decide +kernel)
theorem wd1540 : Cond.instanceMethod yX8_by ∈ tblG := gw8 228 (by decide +kernel) (by decide +kernel)
theorem wd1541 : Cond.selects RX8 yX8_by yX8_by ∈ tblG := gw8 229 (by decide +kernel) (by decide +kernel)
theorem wd1542 : Cond.code yX8_by cX8_by 2 (some .int) ∈ tblG := gw8 230 (by decide +kernel) (by decide +kernel)
theorem pl_X8_by : Plain yX8_by 1 := ⟨by decide, by decide, by decide +kernel⟩
theorem lk_L_237 : LkV RL 237 8 yX8_by cX8_by 2 (some .int) 1 := ⟨⟨TX8, 41, rfl⟩, wd1539, wd1540, wd1541, wd649, wd1542, pl_X8_by⟩
theorem wd1543 : Cond.methodLink RL 238 yX7_law ∈ tblG := gw5 78 (by decide +kernel) (by decide +kernel)
theorem wd1544 : Cond.instanceMethod yX7_law ∈ tblG := gw5 79 (by decide +kernel) (by decide +kernel)
theorem wd1545 : Cond.selects RX7 yX7_law yX7_law ∈ tblG := gw5 80 (by decide +kernel) (by decide +kernel)
theorem wd1546 : Cond.code yX7_law cX7_law 5 (some .int) ∈ tblG := gw5 81 (by decide +kernel) (by decide +kernel)
theorem pl_X7_law : Plain yX7_law 0 := ⟨by decide, by decide, by decide +kernel⟩
theorem lk_L_238 : LkV RL 238 7 yX7_law cX7_law 5 (some .int) 0 := ⟨⟨TX7, 12, rfl⟩, wd1543, wd1544, wd1545, wd207, wd1546, pl_X7_law⟩
theorem wd1547 : Cond.methodLink RL 241 yX8_law ∈ tblG := gw8 235 (by decide +kernel) (by decide +kernel)
theorem wd1548 : Cond.instanceMethod yX8_law ∈ tblG := gw8 236 (by decide +kernel) (by decide +kernel)
theorem wd1549 : Cond.selects RX8 yX8_law yX8_law ∈ tblG := gw8 237 (by decide +kernel) (by decide +kernel)
theorem wd1550 : Cond.code yX8_law cX8_law 3 (some .int) ∈ tblG := gw8 238 (by decide +kernel) (by decide +kernel)
theorem pl_X8_law : Plain yX8_law 0 := ⟨by decide, by decide, by decide +kernel⟩
theorem lk_L_241 : LkV RL 241 8 yX8_law cX8_law 3 (some .int) 0 := ⟨⟨TX8, 41, rfl⟩, wd1547, wd1548, wd1549, wd649, wd1550, pl_X8_law⟩
theorem wd1551 : Cond.methodLink RL 242 yX7_worth ∈ tblG := gw5 82 (by decide +kernel) (by decide +kernel)
theorem wd1552 : Cond.instanceMethod yX7_worth ∈ tblG := gw5 83 (by decide +kernel) (by decide +kernel)
theorem wd1553 : Cond.selects RX7 yX7_worth yX7_worth ∈ tblG := gw5 84 (by decide +kernel) (by decide +kernel)
theorem wd1554 : Cond.code yX7_worth cX7_worth 2 (some .int) ∈ tblG := gw5 85 (by decide +kernel) (by decide +kernel)
theorem pl_X7_worth : Plain yX7_worth 1 := ⟨by decide, by decide, by decide +kernel⟩
theorem lk_L_242 : LkV RL 242 7 yX7_worth cX7_worth 2 (some .int) 1 := ⟨⟨TX7, 12, rfl⟩, wd1551, wd1552, wd1553, wd207, wd1554, pl_X7_worth⟩
theorem wd1555 : Cond.methodLink RL 245 yX8_worth ∈ tblG := gw8 239 (by decide +kernel) (by decide +kernel)
theorem wd1556 : Cond.instanceMethod yX8_worth ∈ tblG := gw9 0 (by decide +kernel) (by decide +kernel)
theorem wd1557 : Cond.selects RX8 yX8_worth yX8_worth ∈ tblG := gw9 1 (by decide +kernel) (by decide +kernel)
theorem wd1558 : Cond.code yX8_worth cX8_worth 2 (some .int) ∈ tblG := gw9 2 (by decide +kernel) (by decide +kernel)
theorem pl_X8_worth : Plain yX8_worth 1 := ⟨by decide, by decide, by decide +kernel⟩
theorem lk_L_245 : LkV RL 245 8 yX8_worth cX8_worth 2 (some .int) 1 := ⟨⟨TX8, 41, rfl⟩, wd1555, wd1556, wd1557, wd649, wd1558, pl_X8_worth⟩
theorem wd1559 : Cond.methodLink RL 246 yX7_share ∈ tblG := gw5 90 (by decide +kernel) (by decide +kernel)
theorem wd1560 : Cond.instanceMethod yX7_share ∈ tblG := gw5 91 (by decide +kernel) (by decide +kernel)
theorem wd1561 : Cond.selects RX7 yX7_share yX7_share ∈ tblG := gw5 92 (by decide +kernel) (by decide +kernel)
theorem wd1562 : Cond.code yX7_share cX7_share 7 (some .int) ∈ tblG := gw5 93 (by decide +kernel) (by decide +kernel)
theorem pl_X7_share : Plain yX7_share 2 := ⟨by decide, by decide, by decide +kernel⟩
theorem lk_L_246 : LkV RL 246 7 yX7_share cX7_share 7 (some .int) 2 := ⟨⟨TX7, 12, rfl⟩, wd1559, wd1560, wd1561, wd207, wd1562, pl_X7_share⟩
theorem wd1563 : Cond.methodLink RL 249 yX8_share ∈ tblG := gw9 11 (by decide +kernel) (by decide +kernel)
theorem wd1564 : Cond.instanceMethod yX8_share ∈ tblG := gw9 12 (by decide +kernel) (by decide +kernel)
theorem wd1565 : Cond.selects RX8 yX8_share yX8_share ∈ tblG := gw9 13 (by decide +kernel) (by decide +kernel)
theorem wd1566 : Cond.code yX8_share cX8_share 7 (some .int) ∈ tblG := gw9 14 (by decide +kernel) (by decide +kernel)
theorem pl_X8_share : Plain yX8_share 2 := ⟨by decide, by decide, by decide +kernel⟩
theorem lk_L_249 : LkV RL 249 8 yX8_share cX8_share 7 (some .int) 2 := ⟨⟨TX8, 41, rfl⟩, wd1563, wd1564, wd1565, wd649, wd1566, pl_X8_share⟩
theorem wd1567 : Cond.methodLink RL 250 yX7_rests ∈ tblG := gw5 109 (by decide +kernel) (by decide +kernel)
theorem wd1568 : Cond.instanceMethod yX7_rests ∈ tblG := gw5 110 (by decide +kernel) (by decide +kernel)
theorem wd1569 : Cond.selects RX7 yX7_rests yX7_rests ∈ tblG := gw5 111 (by decide +kernel) (by decide +kernel)
theorem wd1570 : Cond.code yX7_rests cX7_rests 9 (some .int) ∈ tblG := gw5 112 (by decide +kernel) (by decide +kernel)
theorem pl_X7_rests : Plain yX7_rests 2 := ⟨by decide, by decide, by decide +kernel⟩
theorem lk_L_250 : LkV RL 250 7 yX7_rests cX7_rests 9 (some .int) 2 := ⟨⟨TX7, 12, rfl⟩, wd1567, wd1568, wd1569, wd207, wd1570, pl_X7_rests⟩
theorem wd1571 : Cond.methodLink RL 253 yX8_rests ∈ tblG := gw9 25 (by decide +kernel) (by decide +kernel)
theorem wd1572 : Cond.instanceMethod yX8_rests ∈ tblG := gw9 26 (by decide +kernel) (by decide +kernel)
theorem wd1573 : Cond.selects RX8 yX8_rests yX8_rests ∈ tblG := gw9 27 (by decide +kernel) (by decide +kernel)
theorem wd1574 : Cond.code yX8_rests cX8_rests 8 (some .int) ∈ tblG := gw9 28 (by decide +kernel) (by decide +kernel)
theorem pl_X8_rests : Plain yX8_rests 2 := ⟨by decide, by decide, by decide +kernel⟩
theorem lk_L_253 : LkV RL 253 8 yX8_rests cX8_rests 8 (some .int) 2 := ⟨⟨TX8, 41, rfl⟩, wd1571, wd1572, wd1573, wd649, wd1574, pl_X8_rests⟩
theorem wd1575 : Cond.methodLink RL 254 yX7_gets ∈ tblG := gw5 117 (by decide +kernel) (by decide +kernel)
theorem wd1576 : Cond.instanceMethod yX7_gets ∈ tblG := gw5 118 (by decide +kernel) (by decide +kernel)
theorem wd1577 : Cond.selects RX7 yX7_gets yX7_gets ∈ tblG := gw5 119 (by decide +kernel) (by decide +kernel)
theorem wd1578 : Cond.code yX7_gets cX7_gets 5 (some .int) ∈ tblG := gw5 120 (by decide +kernel) (by decide +kernel)
theorem pl_X7_gets : Plain yX7_gets 4 := ⟨by decide, by decide, by decide +kernel⟩
theorem lk_L_254 : LkV RL 254 7 yX7_gets cX7_gets 5 (some .int) 4 := ⟨⟨TX7, 12, rfl⟩, wd1575, wd1576, wd1577, wd207, wd1578, pl_X7_gets⟩
theorem wd1579 : Cond.methodLink RL 258 yX8_gets ∈ tblG := gw9 33 (by decide +kernel) (by decide +kernel)
theorem wd1580 : Cond.instanceMethod yX8_gets ∈ tblG := gw9 34 (by decide +kernel) (by decide +kernel)
theorem wd1581 : Cond.selects RX8 yX8_gets yX8_gets ∈ tblG := gw9 35 (by decide +kernel) (by decide +kernel)
theorem wd1582 : Cond.code yX8_gets cX8_gets 5 (some .int) ∈ tblG := gw9 36 (by decide +kernel) (by decide +kernel)
theorem pl_X8_gets : Plain yX8_gets 4 := ⟨by decide, by decide, by decide +kernel⟩
theorem lk_L_258 : LkV RL 258 8 yX8_gets cX8_gets 5 (some .int) 4 := ⟨⟨TX8, 41, rfl⟩, wd1579, wd1580, wd1581, wd649, wd1582, pl_X8_gets⟩
theorem wd1583 : Cond.methodLink RL 259 yX7_chance ∈ tblG := gw5 121 (by decide +kernel) (by decide +kernel)
theorem wd1584 : Cond.instanceMethod yX7_chance ∈ tblG := gw5 122 (by decide +kernel) (by decide +kernel)
theorem wd1585 : Cond.selects RX7 yX7_chance yX7_chance ∈ tblG := gw5 123 (by decide +kernel) (by decide +kernel)
theorem wd1586 : Cond.code yX7_chance cX7_chance 4 (some .long) ∈ tblG := gw5 124 (by decide +kernel) (by decide +kernel)
theorem pl_X7_chance : Plain yX7_chance 3 := ⟨by decide, by decide, by decide +kernel⟩
theorem lk_L_259 : LkV RL 259 7 yX7_chance cX7_chance 4 (some .long) 3 := ⟨⟨TX7, 12, rfl⟩, wd1583, wd1584, wd1585, wd207, wd1586, pl_X7_chance⟩
theorem wd1587 : Cond.methodLink RL 263 yX8_chance ∈ tblG := gw9 37 (by decide +kernel) (by decide +kernel)
theorem wd1588 : Cond.instanceMethod yX8_chance ∈ tblG := gw9 38 (by decide +kernel) (by decide +kernel)
theorem wd1589 : Cond.selects RX8 yX8_chance yX8_chance ∈ tblG := gw9 39 (by decide +kernel) (by decide +kernel)
theorem wd1590 : Cond.code yX8_chance cX8_chance 4 (some .long) ∈ tblG := gw9 40 (by decide +kernel) (by decide +kernel)
theorem pl_X8_chance : Plain yX8_chance 3 := ⟨by decide, by decide, by decide +kernel⟩
theorem lk_L_263 : LkV RL 263 8 yX8_chance cX8_chance 4 (some .long) 3 := ⟨⟨TX8, 41, rfl⟩, wd1587, wd1588, wd1589, wd649, wd1590, pl_X8_chance⟩
theorem wd1591 : Cond.methodLink RL 264 yX7_mean ∈ tblG := gw5 149 (by decide +kernel) (by decide +kernel)
theorem wd1592 : Cond.instanceMethod yX7_mean ∈ tblG := gw5 150 (by decide +kernel) (by decide +kernel)
theorem wd1593 : Cond.selects RX7 yX7_mean yX7_mean ∈ tblG := gw5 151 (by decide +kernel) (by decide +kernel)
theorem wd1594 : Cond.code yX7_mean cX7_mean 6 (some .long) ∈ tblG := gw5 152 (by decide +kernel) (by decide +kernel)
theorem pl_X7_mean : Plain yX7_mean 2 := ⟨by decide, by decide, by decide +kernel⟩
theorem lk_L_264 : LkV RL 264 7 yX7_mean cX7_mean 6 (some .long) 2 := ⟨⟨TX7, 12, rfl⟩, wd1591, wd1592, wd1593, wd207, wd1594, pl_X7_mean⟩
theorem wd1595 : Cond.methodLink RL 268 yX8_mean ∈ tblG := gw9 50 (by decide +kernel) (by decide +kernel)
theorem wd1596 : Cond.instanceMethod yX8_mean ∈ tblG := gw9 51 (by decide +kernel) (by decide +kernel)
theorem wd1597 : Cond.selects RX8 yX8_mean yX8_mean ∈ tblG := gw9 52 (by decide +kernel) (by decide +kernel)
theorem wd1598 : Cond.code yX8_mean cX8_mean 3 (some .long) ∈ tblG := gw9 53 (by decide +kernel) (by decide +kernel)
theorem pl_X8_mean : Plain yX8_mean 2 := ⟨by decide, by decide, by decide +kernel⟩
theorem lk_L_268 : LkV RL 268 8 yX8_mean cX8_mean 3 (some .long) 2 := ⟨⟨TX8, 41, rfl⟩, wd1595, wd1596, wd1597, wd649, wd1598, pl_X8_mean⟩
theorem wd1599 : Cond.methodLink RL 269 yX7_twists ∈ tblG := gw5 153 (by decide +kernel) (by decide +kernel)
theorem wd1600 : Cond.instanceMethod yX7_twists ∈ tblG := gw5 154 (by decide +kernel) (by decide +kernel)
theorem wd1601 : Cond.selects RX7 yX7_twists yX7_twists ∈ tblG := gw5 155 (by decide +kernel) (by decide +kernel)
theorem wd1602 : Cond.code yX7_twists cX7_twists 3 (some .int) ∈ tblG := gw5 156 (by decide +kernel) (by decide +kernel)
theorem pl_X7_twists : Plain yX7_twists 2 := ⟨by decide, by decide, by decide +kernel⟩
theorem lk_L_269 : LkV RL 269 7 yX7_twists cX7_twists 3 (some .int) 2 := ⟨⟨TX7, 12, rfl⟩, wd1599, wd1600, wd1601, wd207, wd1602, pl_X7_twists⟩
theorem wd1603 : Cond.methodLink RL 272 yX8_twists ∈ tblG := gw9 54 (by decide +kernel) (by decide +kernel)
theorem wd1604 : Cond.instanceMethod yX8_twists ∈ tblG := gw9 55 (by decide +kernel) (by decide +kernel)
theorem wd1605 : Cond.selects RX8 yX8_twists yX8_twists ∈ tblG := gw9 56 (by decide +kernel) (by decide +kernel)
theorem wd1606 : Cond.code yX8_twists cX8_twists 3 (some .int) ∈ tblG := gw9 57 (by decide +kernel) (by decide +kernel)
theorem pl_X8_twists : Plain yX8_twists 2 := ⟨by decide, by decide, by decide +kernel⟩
theorem lk_L_272 : LkV RL 272 8 yX8_twists cX8_twists 3 (some .int) 2 := ⟨⟨TX8, 41, rfl⟩, wd1603, wd1604, wd1605, wd649, wd1606, pl_X8_twists⟩
theorem wd1607 : Cond.methodLink RL 273 yX7_holds ∈ tblG := gw5 161 (by decide +kernel) (by decide +kernel)
theorem wd1608 : Cond.instanceMethod yX7_holds ∈ tblG := gw5 162 (by decide +kernel) (by decide +kernel)
theorem wd1609 : Cond.selects RX7 yX7_holds yX7_holds ∈ tblG := gw5 163 (by decide +kernel) (by decide +kernel)
theorem wd1610 : Cond.code yX7_holds cX7_holds 3 (some .int) ∈ tblG := gw5 164 (by decide +kernel) (by decide +kernel)
theorem pl_X7_holds : Plain yX7_holds 2 := ⟨by decide, by decide, by decide +kernel⟩
theorem lk_L_273 : LkV RL 273 7 yX7_holds cX7_holds 3 (some .int) 2 := ⟨⟨TX7, 12, rfl⟩, wd1607, wd1608, wd1609, wd207, wd1610, pl_X7_holds⟩
theorem wd1611 : Cond.methodLink RL 276 yX8_holds ∈ tblG := gw9 62 (by decide +kernel) (by decide +kernel)
theorem wd1612 : Cond.instanceMethod yX8_holds ∈ tblG := gw9 63 (by decide +kernel) (by decide +kernel)
theorem wd1613 : Cond.selects RX8 yX8_holds yX8_holds ∈ tblG := gw9 64 (by decide +kernel) (by decide +kernel)
theorem wd1614 : Cond.code yX8_holds cX8_holds 3 (some .int) ∈ tblG := gw9 65 (by decide +kernel) (by decide +kernel)
theorem pl_X8_holds : Plain yX8_holds 2 := ⟨by decide, by decide, by decide +kernel⟩
theorem lk_L_276 : LkV RL 276 8 yX8_holds cX8_holds 3 (some .int) 2 := ⟨⟨TX8, 41, rfl⟩, wd1611, wd1612, wd1613, wd649, wd1614, pl_X8_holds⟩
theorem wd1615 : Cond.methodLink RL 277 yX7_undo ∈ tblG := gw5 165 (by decide +kernel) (by decide +kernel)
theorem wd1616 : Cond.instanceMethod yX7_undo ∈ tblG := gw5 166 (by decide +kernel) (by decide +kernel)
theorem wd1617 : Cond.selects RX7 yX7_undo yX7_undo ∈ tblG := gw5 167 (by decide +kernel) (by decide +kernel)
theorem wd1618 : Cond.code yX7_undo cX7_undo 1 (some .int) ∈ tblG := gw5 168 (by decide +kernel) (by decide +kernel)
theorem pl_X7_undo : Plain yX7_undo 0 := ⟨by decide, by decide, by decide +kernel⟩
theorem lk_L_277 : LkV RL 277 7 yX7_undo cX7_undo 1 (some .int) 0 := ⟨⟨TX7, 12, rfl⟩, wd1615, wd1616, wd1617, wd207, wd1618, pl_X7_undo⟩
theorem wd1619 : Cond.methodLink RL 280 yX8_undo ∈ tblG := gw9 66 (by decide +kernel) (by decide +kernel)
theorem wd1620 : Cond.instanceMethod yX8_undo ∈ tblG := gw9 67 (by decide +kernel) (by decide +kernel)
theorem wd1621 : Cond.selects RX8 yX8_undo yX8_undo ∈ tblG := gw9 68 (by decide +kernel) (by decide +kernel)
theorem wd1622 : Cond.code yX8_undo cX8_undo 1 (some .int) ∈ tblG := gw9 69 (by decide +kernel) (by decide +kernel)
theorem pl_X8_undo : Plain yX8_undo 0 := ⟨by decide, by decide, by decide +kernel⟩
theorem lk_L_280 : LkV RL 280 8 yX8_undo cX8_undo 1 (some .int) 0 := ⟨⟨TX8, 41, rfl⟩, wd1619, wd1620, wd1621, wd649, wd1622, pl_X8_undo⟩
theorem wd1623 : Cond.methodLink RL 281 yX7_anew ∈ tblG := gw5 173 (by decide +kernel) (by decide +kernel)
theorem wd1624 : Cond.instanceMethod yX7_anew ∈ tblG := gw5 174 (by decide +kernel) (by decide +kernel)
theorem wd1625 : Cond.selects RX7 yX7_anew yX7_anew ∈ tblG := gw5 175 (by decide +kernel) (by decide +kernel)
theorem wd1626 : Cond.code yX7_anew cX7_anew 2 (some .int) ∈ tblG := gw5 176 (by decide +kernel) (by decide +kernel)
theorem pl_X7_anew : Plain yX7_anew 0 := ⟨by decide, by decide, by decide +kernel⟩
theorem lk_L_281 : LkV RL 281 7 yX7_anew cX7_anew 2 (some .int) 0 := ⟨⟨TX7, 12, rfl⟩, wd1623, wd1624, wd1625, wd207, wd1626, pl_X7_anew⟩
theorem wd1627 : Cond.methodLink RL 284 yX8_anew ∈ tblG := gw9 70 (by decide +kernel) (by decide +kernel)
theorem wd1628 : Cond.instanceMethod yX8_anew ∈ tblG := gw9 71 (by decide +kernel) (by decide +kernel)
theorem wd1629 : Cond.selects RX8 yX8_anew yX8_anew ∈ tblG := gw9 72 (by decide +kernel) (by decide +kernel)
theorem wd1630 : Cond.code yX8_anew cX8_anew 2 (some .int) ∈ tblG := gw9 73 (by decide +kernel) (by decide +kernel)
theorem pl_X8_anew : Plain yX8_anew 0 := ⟨by decide, by decide, by decide +kernel⟩
theorem lk_L_284 : LkV RL 284 8 yX8_anew cX8_anew 2 (some .int) 0 := ⟨⟨TX8, 41, rfl⟩, wd1627, wd1628, wd1629, wd649, wd1630, pl_X8_anew⟩
theorem wd1631 : Cond.methodLink RL 285 yX7_drawn ∈ tblG := gw5 178 (by decide +kernel) (by decide +kernel)
theorem wd1632 : Cond.instanceMethod yX7_drawn ∈ tblG := gw5 179 (by decide +kernel) (by decide +kernel)
theorem wd1633 : Cond.selects RX7 yX7_drawn yX7_drawn ∈ tblG := gw5 180 (by decide +kernel) (by decide +kernel)
theorem wd1634 : Cond.code yX7_drawn cX7_drawn 4 (some .int) ∈ tblG := gw5 181 (by decide +kernel) (by decide +kernel)
theorem pl_X7_drawn : Plain yX7_drawn 2 := ⟨by decide, by decide, by decide +kernel⟩
theorem lk_L_285 : LkV RL 285 7 yX7_drawn cX7_drawn 4 (some .int) 2 := ⟨⟨TX7, 12, rfl⟩, wd1631, wd1632, wd1633, wd207, wd1634, pl_X7_drawn⟩
theorem wd1635 : Cond.methodLink RL 288 yX8_drawn ∈ tblG := gw9 74 (by decide +kernel) (by decide +kernel)
theorem wd1636 : Cond.instanceMethod yX8_drawn ∈ tblG := gw9 75 (by decide +kernel) (by decide +kernel)
theorem wd1637 : Cond.selects RX8 yX8_drawn yX8_drawn ∈ tblG := gw9 76 (by decide +kernel) (by decide +kernel)
theorem wd1638 : Cond.code yX8_drawn cX8_drawn 3 (some .int) ∈ tblG := gw9 77 (by decide +kernel) (by decide +kernel)
theorem pl_X8_drawn : Plain yX8_drawn 2 := ⟨by decide, by decide, by decide +kernel⟩
theorem lk_L_288 : LkV RL 288 8 yX8_drawn cX8_drawn 3 (some .int) 2 := ⟨⟨TX8, 41, rfl⟩, wd1635, wd1636, wd1637, wd649, wd1638, pl_X8_drawn⟩
theorem wd1639 : Cond.methodLink RL 289 yX7_luck ∈ tblG := gw5 198 (by decide +kernel) (by decide +kernel)
theorem wd1640 : Cond.instanceMethod yX7_luck ∈ tblG := gw5 199 (by decide +kernel) (by decide +kernel)
theorem wd1641 : Cond.selects RX7 yX7_luck yX7_luck ∈ tblG := gw5 200 (by decide +kernel) (by decide +kernel)
theorem wd1642 : Cond.code yX7_luck cX7_luck 6 (some .int) ∈ tblG := gw5 201 (by decide +kernel) (by decide +kernel)
theorem pl_X7_luck : Plain yX7_luck 3 := ⟨by decide, by decide, by decide +kernel⟩
theorem lk_L_289 : LkV RL 289 7 yX7_luck cX7_luck 6 (some .int) 3 := ⟨⟨TX7, 12, rfl⟩, wd1639, wd1640, wd1641, wd207, wd1642, pl_X7_luck⟩
theorem wd1643 : Cond.methodLink RL 292 yX8_luck ∈ tblG := gw9 90 (by decide +kernel) (by decide +kernel)
theorem wd1644 : Cond.instanceMethod yX8_luck ∈ tblG := gw9 91 (by decide +kernel) (by decide +kernel)
theorem wd1645 : Cond.selects RX8 yX8_luck yX8_luck ∈ tblG := gw9 92 (by decide +kernel) (by decide +kernel)
theorem wd1646 : Cond.code yX8_luck cX8_luck 6 (some .int) ∈ tblG := gw9 93 (by decide +kernel) (by decide +kernel)
theorem pl_X8_luck : Plain yX8_luck 3 := ⟨by decide, by decide, by decide +kernel⟩
theorem lk_L_292 : LkV RL 292 8 yX8_luck cX8_luck 6 (some .int) 3 := ⟨⟨TX8, 41, rfl⟩, wd1643, wd1644, wd1645, wd649, wd1646, pl_X8_luck⟩
theorem wd1647 : Cond.methodLink RL 293 yX7_rate ∈ tblG := gw5 202 (by decide +kernel) (by decide +kernel)
theorem wd1648 : Cond.instanceMethod yX7_rate ∈ tblG := gw5 203 (by decide +kernel) (by decide +kernel)
theorem wd1649 : Cond.selects RX7 yX7_rate yX7_rate ∈ tblG := gw5 204 (by decide +kernel) (by decide +kernel)
theorem wd1650 : Cond.code yX7_rate cX7_rate 4 (some .int) ∈ tblG := gw5 205 (by decide +kernel) (by decide +kernel)
theorem pl_X7_rate : Plain yX7_rate 2 := ⟨by decide, by decide, by decide +kernel⟩
theorem lk_L_293 : LkV RL 293 7 yX7_rate cX7_rate 4 (some .int) 2 := ⟨⟨TX7, 12, rfl⟩, wd1647, wd1648, wd1649, wd207, wd1650, pl_X7_rate⟩
theorem wd1651 : Cond.methodLink RL 296 yX8_rate ∈ tblG := gw9 94 (by decide +kernel) (by decide +kernel)
theorem wd1652 : Cond.instanceMethod yX8_rate ∈ tblG := gw9 95 (by decide +kernel) (by decide +kernel)
theorem wd1653 : Cond.selects RX8 yX8_rate yX8_rate ∈ tblG := gw9 96 (by decide +kernel) (by decide +kernel)
theorem wd1654 : Cond.code yX8_rate cX8_rate 4 (some .int) ∈ tblG := gw9 97 (by decide +kernel) (by decide +kernel)
theorem pl_X8_rate : Plain yX8_rate 2 := ⟨by decide, by decide, by decide +kernel⟩
theorem lk_L_296 : LkV RL 296 8 yX8_rate cX8_rate 4 (some .int) 2 := ⟨⟨TX8, 41, rfl⟩, wd1651, wd1652, wd1653, wd649, wd1654, pl_X8_rate⟩
theorem wd1655 : Cond.methodLink RL 297 yX7_count ∈ tblG := gw5 206 (by decide +kernel) (by decide +kernel)
theorem wd1656 : Cond.instanceMethod yX7_count ∈ tblG := gw5 207 (by decide +kernel) (by decide +kernel)
theorem wd1657 : Cond.selects RX7 yX7_count yX7_count ∈ tblG := gw5 208 (by decide +kernel) (by decide +kernel)
theorem wd1658 : Cond.code yX7_count cX7_count 2 (some .int) ∈ tblG := gw5 209 (by decide +kernel) (by decide +kernel)
theorem pl_X7_count : Plain yX7_count 1 := ⟨by decide, by decide, by decide +kernel⟩
theorem lk_L_297 : LkV RL 297 7 yX7_count cX7_count 2 (some .int) 1 := ⟨⟨TX7, 12, rfl⟩, wd1655, wd1656, wd1657, wd207, wd1658, pl_X7_count⟩
theorem wd1659 : Cond.methodLink RL 300 yX8_count ∈ tblG := gw9 99 (by decide +kernel) (by decide +kernel)
theorem wd1660 : Cond.instanceMethod yX8_count ∈ tblG := gw9 100 (by decide +kernel) (by decide +kernel)
theorem wd1661 : Cond.selects RX8 yX8_count yX8_count ∈ tblG := gw9 101 (by decide +kernel) (by decide +kernel)
theorem wd1662 : Cond.code yX8_count cX8_count 4 (some .int) ∈ tblG := gw9 102 (by decide +kernel) (by decide +kernel)
theorem pl_X8_count : Plain yX8_count 1 := ⟨by decide, by decide, by decide +kernel⟩
theorem lk_L_300 : LkV RL 300 8 yX8_count cX8_count 4 (some .int) 1 := ⟨⟨TX8, 41, rfl⟩, wd1659, wd1660, wd1661, wd649, wd1662, pl_X8_count⟩
theorem wd1663 : Cond.methodLink RL 301 yX7_image ∈ tblG := gw5 214 (by decide +kernel) (by decide +kernel)
theorem wd1664 : Cond.instanceMethod yX7_image ∈ tblG := gw5 215 (by decide +kernel) (by decide +kernel)
theorem wd1665 : Cond.selects RX7 yX7_image yX7_image ∈ tblG := gw5 216 (by decide +kernel) (by decide +kernel)
theorem wd1666 : Cond.code yX7_image cX7_image 2 (some .int) ∈ tblG := gw5 217 (by decide +kernel) (by decide +kernel)
theorem pl_X7_image : Plain yX7_image 1 := ⟨by decide, by decide, by decide +kernel⟩
theorem lk_L_301 : LkV RL 301 7 yX7_image cX7_image 2 (some .int) 1 := ⟨⟨TX7, 12, rfl⟩, wd1663, wd1664, wd1665, wd207, wd1666, pl_X7_image⟩
theorem wd1667 : Cond.methodLink RL 304 yX8_image ∈ tblG := gw6 159 (by decide +kernel) (by decide +kernel)
theorem wd1668 : Cond.instanceMethod yX8_image ∈ tblG := gw6 160 (by decide +kernel) (by decide +kernel)
theorem wd1669 : Cond.selects RX8 yX8_image yX8_image ∈ tblG := gw6 161 (by decide +kernel) (by decide +kernel)
theorem wd1670 : Cond.code yX8_image cX8_image 3 (some .int) ∈ tblG := gw6 162 (by decide +kernel) (by decide +kernel)
theorem pl_X8_image : Plain yX8_image 1 := ⟨by decide, by decide, by decide +kernel⟩
theorem lk_L_304 : LkV RL 304 8 yX8_image cX8_image 3 (some .int) 1 := ⟨⟨TX8, 41, rfl⟩, wd1667, wd1668, wd1669, wd649, wd1670, pl_X8_image⟩
theorem wd1671 : Cond.methodLink RL 305 yX7_back ∈ tblG := gw5 218 (by decide +kernel) (by decide +kernel)
theorem wd1672 : Cond.instanceMethod yX7_back ∈ tblG := gw5 219 (by decide +kernel) (by decide +kernel)
theorem wd1673 : Cond.selects RX7 yX7_back yX7_back ∈ tblG := gw5 220 (by decide +kernel) (by decide +kernel)
theorem wd1674 : Cond.code yX7_back cX7_back 2 (some .int) ∈ tblG := gw5 221 (by decide +kernel) (by decide +kernel)
theorem pl_X7_back : Plain yX7_back 1 := ⟨by decide, by decide, by decide +kernel⟩
theorem lk_L_305 : LkV RL 305 7 yX7_back cX7_back 2 (some .int) 1 := ⟨⟨TX7, 12, rfl⟩, wd1671, wd1672, wd1673, wd207, wd1674, pl_X7_back⟩
theorem wd1675 : Cond.methodLink RL 308 yX8_back ∈ tblG := gw6 167 (by decide +kernel) (by decide +kernel)
theorem wd1676 : Cond.instanceMethod yX8_back ∈ tblG := gw6 168 (by decide +kernel) (by decide +kernel)
theorem wd1677 : Cond.selects RX8 yX8_back yX8_back ∈ tblG := gw6 169 (by decide +kernel) (by decide +kernel)
theorem wd1678 : Cond.code yX8_back cX8_back 3 (some .int) ∈ tblG := gw6 170 (by decide +kernel) (by decide +kernel)
theorem pl_X8_back : Plain yX8_back 1 := ⟨by decide, by decide, by decide +kernel⟩
theorem lk_L_308 : LkV RL 308 8 yX8_back cX8_back 3 (some .int) 1 := ⟨⟨TX8, 41, rfl⟩, wd1675, wd1676, wd1677, wd649, wd1678, pl_X8_back⟩
theorem wd1679 : Cond.methodLink RL 309 yX7_row ∈ tblG := gw5 222 (by decide +kernel) (by decide +kernel)
theorem wd1680 : Cond.instanceMethod yX7_row ∈ tblG := gw5 223 (by decide +kernel) (by decide +kernel)
theorem wd1681 : Cond.selects RX7 yX7_row yX7_row ∈ tblG := gw5 224 (by decide +kernel) (by decide +kernel)
theorem wd1682 : Cond.code yX7_row cX7_row 4 (some .int) ∈ tblG := gw5 225 (by decide +kernel) (by decide +kernel)
theorem pl_X7_row : Plain yX7_row 3 := ⟨by decide, by decide, by decide +kernel⟩
theorem lk_L_309 : LkV RL 309 7 yX7_row cX7_row 4 (some .int) 3 := ⟨⟨TX7, 12, rfl⟩, wd1679, wd1680, wd1681, wd207, wd1682, pl_X7_row⟩
theorem wd1683 : Cond.methodLink RL 312 yX8_row ∈ tblG := gw9 103 (by decide +kernel) (by decide +kernel)
theorem wd1684 : Cond.instanceMethod yX8_row ∈ tblG := gw9 104 (by decide +kernel) (by decide +kernel)
theorem wd1685 : Cond.selects RX8 yX8_row yX8_row ∈ tblG := gw9 105 (by decide +kernel) (by decide +kernel)
theorem wd1686 : Cond.code yX8_row cX8_row 5 (some .int) ∈ tblG := gw9 106 (by decide +kernel) (by decide +kernel)
theorem pl_X8_row : Plain yX8_row 3 := ⟨by decide, by decide, by decide +kernel⟩
theorem lk_L_312 : LkV RL 312 8 yX8_row cX8_row 5 (some .int) 3 := ⟨⟨TX8, 41, rfl⟩, wd1683, wd1684, wd1685, wd649, wd1686, pl_X8_row⟩
theorem wd1687 : Cond.constantLong RL 313 (4294967295) ∈ tblG := gw9 118 (by decide +kernel) (by decide +kernel)
theorem wd1688 : Cond.methodLink RL 315 yX7_write ∈ tblG := gw6 9 (by decide +kernel) (by decide +kernel)
theorem wd1689 : Cond.instanceMethod yX7_write ∈ tblG := gw6 10 (by decide +kernel) (by decide +kernel)
theorem wd1690 : Cond.selects RX7 yX7_write yX7_write ∈ tblG := gw6 11 (by decide +kernel) (by decide +kernel)
theorem wd1691 : Cond.code yX7_write cX7_write 5 (some .int) ∈ tblG := gw6 12 (by decide +kernel) (by decide +kernel)
theorem pl_X7_write : Plain yX7_write 3 := ⟨by decide, by decide, by decide +kernel⟩
theorem lk_L_315 : LkV RL 315 7 yX7_write cX7_write 5 (some .int) 3 := ⟨⟨TX7, 12, rfl⟩, wd1688, wd1689, wd1690, wd207, wd1691, pl_X7_write⟩
theorem wd1692 : Cond.methodLink RL 319 yX8_write ∈ tblG := gw9 107 (by decide +kernel) (by decide +kernel)
theorem wd1693 : Cond.instanceMethod yX8_write ∈ tblG := gw9 108 (by decide +kernel) (by decide +kernel)
theorem wd1694 : Cond.selects RX8 yX8_write yX8_write ∈ tblG := gw9 109 (by decide +kernel) (by decide +kernel)
theorem wd1695 : Cond.code yX8_write cX8_write 5 (some .int) ∈ tblG := gw9 110 (by decide +kernel) (by decide +kernel)
theorem pl_X8_write : Plain yX8_write 3 := ⟨by decide, by decide, by decide +kernel⟩
theorem lk_L_319 : LkV RL 319 8 yX8_write cX8_write 5 (some .int) 3 := ⟨⟨TX8, 41, rfl⟩, wd1692, wd1693, wd1694, wd649, wd1695, pl_X8_write⟩
theorem wd1696 : Cond.methodLink RL 320 yX7_paste ∈ tblG := gw6 21 (by decide +kernel) (by decide +kernel)
theorem wd1697 : Cond.instanceMethod yX7_paste ∈ tblG := gw6 22 (by decide +kernel) (by decide +kernel)
theorem wd1698 : Cond.selects RX7 yX7_paste yX7_paste ∈ tblG := gw6 23 (by decide +kernel) (by decide +kernel)
theorem wd1699 : Cond.code yX7_paste cX7_paste 8 (some .int) ∈ tblG := gw6 24 (by decide +kernel) (by decide +kernel)
theorem pl_X7_paste : Plain yX7_paste 5 := ⟨by decide, by decide, by decide +kernel⟩
theorem lk_L_320 : LkV RL 320 7 yX7_paste cX7_paste 8 (some .int) 5 := ⟨⟨TX7, 12, rfl⟩, wd1696, wd1697, wd1698, wd207, wd1699, pl_X7_paste⟩
theorem wd1700 : Cond.methodLink RL 323 yX8_paste ∈ tblG := gw9 114 (by decide +kernel) (by decide +kernel)
theorem wd1701 : Cond.instanceMethod yX8_paste ∈ tblG := gw9 115 (by decide +kernel) (by decide +kernel)
theorem wd1702 : Cond.selects RX8 yX8_paste yX8_paste ∈ tblG := gw9 116 (by decide +kernel) (by decide +kernel)
theorem wd1703 : Cond.code yX8_paste cX8_paste 7 (some .int) ∈ tblG := gw9 117 (by decide +kernel) (by decide +kernel)
theorem pl_X8_paste : Plain yX8_paste 5 := ⟨by decide, by decide, by decide +kernel⟩
theorem lk_L_323 : LkV RL 323 8 yX8_paste cX8_paste 7 (some .int) 5 := ⟨⟨TX8, 41, rfl⟩, wd1700, wd1701, wd1702, wd649, wd1703, pl_X8_paste⟩
