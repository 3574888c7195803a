theorem dL_law_0 : decode cL_law 0 = .ok (.new 7, 3) := by decide +kernel
theorem dL_law_3 : decode cL_law 3 = .ok (.dup, 1) := by decide +kernel
theorem dL_law_4 : decode cL_law 4 = .ok (.invokespecial 9, 3) := by decide +kernel
theorem dL_law_7 : decode cL_law 7 = .ok (.astore_n 1, 1) := by decide +kernel
theorem dL_law_8 : decode cL_law 8 = .ok (.new 10, 3) := by decide +kernel
theorem dL_law_11 : decode cL_law 11 = .ok (.dup, 1) := by decide +kernel
theorem dL_law_12 : decode cL_law 12 = .ok (.invokespecial 12, 3) := by decide +kernel
theorem dL_law_15 : decode cL_law 15 = .ok (.astore_n 2, 1) := by decide +kernel
theorem dL_law_16 : decode cL_law 16 = .ok (.iconst 0, 1) := by decide +kernel
theorem dL_law_17 : decode cL_law 17 = .ok (.istore_n 3, 1) := by decide +kernel
theorem dL_law_18 : decode cL_law 18 = .ok (.iload_n 3, 1) := by decide +kernel
theorem dL_law_19 : decode cL_law 19 = .ok (.aload_n 0, 1) := by decide +kernel
theorem dL_law_20 : decode cL_law 20 = .ok (.arraylength, 1) := by decide +kernel
theorem dL_law_21 : decode cL_law 21 = .ok (.bipush 6, 2) := by decide +kernel
theorem dL_law_23 : decode cL_law 23 = .ok (.isub, 1) := by decide +kernel
theorem dL_law_24 : decode cL_law 24 = .ok (.if_icmp .gt 2377, 3) := by decide +kernel
theorem dL_law_27 : decode cL_law 27 = .ok (.aload_n 0, 1) := by decide +kernel
theorem dL_law_28 : decode cL_law 28 = .ok (.iload_n 3, 1) := by decide +kernel
theorem dL_law_29 : decode cL_law 29 = .ok (.iaload, 1) := by decide +kernel
theorem dL_law_30 : decode cL_law 30 = .ok (.bipush 127, 2) := by decide +kernel
theorem dL_law_32 : decode cL_law 32 = .ok (.iand, 1) := by decide +kernel
theorem dL_law_33 : decode cL_law 33 = .ok (.tableswitch 2362 0 74 #[315, 378, 401, 414, 437, 460, 483, 516, 539, 572, 605, 638, 671, 694, 717, 750, 773, 796, 819, 842, 865, 888, 911, 944, 967, 990, 1013, 1036, 1049, 1072, 1085, 1118, 1131, 1144, 1167, 1200, 1223, 1236, 1249, 1272, 1295, 1318, 1351, 1374, 1417, 1440, 1463, 1476, 1509, 1522, 1535, 1568, 1601, 1634, 1657, 1680, 1693, 1716, 1749, 1782, 1835, 1879, 1913, 1946, 1979, 1992, 2005, 2038, 2081, 2114, 2137, 2160, 2183, 2226, 2299], 315) := by decide +kernel
theorem dL_law_348 : decode cL_law 348 = .ok (.aload_n 1, 1) := by decide +kernel
theorem dL_law_349 : decode cL_law 349 = .ok (.aload_n 0, 1) := by decide +kernel
theorem dL_law_350 : decode cL_law 350 = .ok (.iload_n 3, 1) := by decide +kernel
theorem dL_law_351 : decode cL_law 351 = .ok (.iconst 1, 1) := by decide +kernel
theorem dL_law_352 : decode cL_law 352 = .ok (.iadd, 1) := by decide +kernel
theorem dL_law_353 : decode cL_law 353 = .ok (.iaload, 1) := by decide +kernel
theorem dL_law_354 : decode cL_law 354 = .ok (.aload_n 0, 1) := by decide +kernel
theorem dL_law_355 : decode cL_law 355 = .ok (.iload_n 3, 1) := by decide +kernel
theorem dL_law_356 : decode cL_law 356 = .ok (.iconst 2, 1) := by decide +kernel
theorem dL_law_357 : decode cL_law 357 = .ok (.iadd, 1) := by decide +kernel
theorem dL_law_358 : decode cL_law 358 = .ok (.iaload, 1) := by decide +kernel
theorem dL_law_359 : decode cL_law 359 = .ok (.aload_n 0, 1) := by decide +kernel
theorem dL_law_360 : decode cL_law 360 = .ok (.iload_n 3, 1) := by decide +kernel
theorem dL_law_361 : decode cL_law 361 = .ok (.iconst 3, 1) := by decide +kernel
theorem dL_law_362 : decode cL_law 362 = .ok (.iadd, 1) := by decide +kernel
theorem dL_law_363 : decode cL_law 363 = .ok (.iaload, 1) := by decide +kernel
theorem dL_law_364 : decode cL_law 364 = .ok (.aload_n 0, 1) := by decide +kernel
theorem dL_law_365 : decode cL_law 365 = .ok (.iload_n 3, 1) := by decide +kernel
theorem dL_law_366 : decode cL_law 366 = .ok (.iconst 4, 1) := by decide +kernel
theorem dL_law_367 : decode cL_law 367 = .ok (.iadd, 1) := by decide +kernel
theorem dL_law_368 : decode cL_law 368 = .ok (.iaload, 1) := by decide +kernel
theorem dL_law_369 : decode cL_law 369 = .ok (.aload_n 0, 1) := by decide +kernel
theorem dL_law_370 : decode cL_law 370 = .ok (.iload_n 3, 1) := by decide +kernel
theorem dL_law_371 : decode cL_law 371 = .ok (.iconst 5, 1) := by decide +kernel
theorem dL_law_372 : decode cL_law 372 = .ok (.iadd, 1) := by decide +kernel
theorem dL_law_373 : decode cL_law 373 = .ok (.iaload, 1) := by decide +kernel
theorem dL_law_374 : decode cL_law 374 = .ok (.invokevirtual 13, 3) := by decide +kernel
theorem dL_law_377 : decode cL_law 377 = .ok (.aload_n 2, 1) := by decide +kernel
theorem dL_law_378 : decode cL_law 378 = .ok (.aload_n 0, 1) := by decide +kernel
theorem dL_law_379 : decode cL_law 379 = .ok (.iload_n 3, 1) := by decide +kernel
theorem dL_law_380 : decode cL_law 380 = .ok (.iconst 1, 1) := by decide +kernel
theorem dL_law_381 : decode cL_law 381 = .ok (.iadd, 1) := by decide +kernel
theorem dL_law_382 : decode cL_law 382 = .ok (.iaload, 1) := by decide +kernel
theorem dL_law_383 : decode cL_law 383 = .ok (.aload_n 0, 1) := by decide +kernel
theorem dL_law_384 : decode cL_law 384 = .ok (.iload_n 3, 1) := by decide +kernel
theorem dL_law_385 : decode cL_law 385 = .ok (.iconst 2, 1) := by decide +kernel
theorem dL_law_386 : decode cL_law 386 = .ok (.iadd, 1) := by decide +kernel
theorem dL_law_387 : decode cL_law 387 = .ok (.iaload, 1) := by decide +kernel
theorem dL_law_388 : decode cL_law 388 = .ok (.aload_n 0, 1) := by decide +kernel
theorem dL_law_389 : decode cL_law 389 = .ok (.iload_n 3, 1) := by decide +kernel
theorem dL_law_390 : decode cL_law 390 = .ok (.iconst 3, 1) := by decide +kernel
theorem dL_law_391 : decode cL_law 391 = .ok (.iadd, 1) := by decide +kernel
theorem dL_law_392 : decode cL_law 392 = .ok (.iaload, 1) := by decide +kernel
theorem dL_law_393 : decode cL_law 393 = .ok (.aload_n 0, 1) := by decide +kernel
theorem dL_law_394 : decode cL_law 394 = .ok (.iload_n 3, 1) := by decide +kernel
theorem dL_law_395 : decode cL_law 395 = .ok (.iconst 4, 1) := by decide +kernel
theorem dL_law_396 : decode cL_law 396 = .ok (.iadd, 1) := by decide +kernel
theorem dL_law_397 : decode cL_law 397 = .ok (.iaload, 1) := by decide +kernel
theorem dL_law_398 : decode cL_law 398 = .ok (.aload_n 0, 1) := by decide +kernel
theorem dL_law_399 : decode cL_law 399 = .ok (.iload_n 3, 1) := by decide +kernel
theorem dL_law_400 : decode cL_law 400 = .ok (.iconst 5, 1) := by decide +kernel
theorem dL_law_401 : decode cL_law 401 = .ok (.iadd, 1) := by decide +kernel
theorem dL_law_402 : decode cL_law 402 = .ok (.iaload, 1) := by decide +kernel
theorem dL_law_403 : decode cL_law 403 = .ok (.invokevirtual 17, 3) := by decide +kernel
theorem dL_law_406 : decode cL_law 406 = .ok (.if_icmp .eq 1989, 3) := by decide +kernel
theorem dL_law_411 : decode cL_law 411 = .ok (.aload_n 1, 1) := by decide +kernel
theorem dL_law_412 : decode cL_law 412 = .ok (.aload_n 0, 1) := by decide +kernel
theorem dL_law_413 : decode cL_law 413 = .ok (.iload_n 3, 1) := by decide +kernel
theorem dL_law_414 : decode cL_law 414 = .ok (.iconst 1, 1) := by decide +kernel
theorem dL_law_415 : decode cL_law 415 = .ok (.iadd, 1) := by decide +kernel
theorem dL_law_416 : decode cL_law 416 = .ok (.iaload, 1) := by decide +kernel
theorem dL_law_417 : decode cL_law 417 = .ok (.invokevirtual 18, 3) := by decide +kernel
theorem dL_law_420 : decode cL_law 420 = .ok (.aload_n 2, 1) := by decide +kernel
theorem dL_law_421 : decode cL_law 421 = .ok (.aload_n 0, 1) := by decide +kernel
theorem dL_law_422 : decode cL_law 422 = .ok (.iload_n 3, 1) := by decide +kernel
theorem dL_law_423 : decode cL_law 423 = .ok (.iconst 1, 1) := by decide +kernel
theorem dL_law_424 : decode cL_law 424 = .ok (.iadd, 1) := by decide +kernel
theorem dL_law_425 : decode cL_law 425 = .ok (.iaload, 1) := by decide +kernel
theorem dL_law_426 : decode cL_law 426 = .ok (.invokevirtual 22, 3) := by decide +kernel
theorem dL_law_429 : decode cL_law 429 = .ok (.if_icmp .eq 1966, 3) := by decide +kernel
theorem dL_law_434 : decode cL_law 434 = .ok (.aload_n 1, 1) := by decide +kernel
theorem dL_law_435 : decode cL_law 435 = .ok (.invokevirtual 23, 3) := by decide +kernel
theorem dL_law_438 : decode cL_law 438 = .ok (.aload_n 2, 1) := by decide +kernel
theorem dL_law_439 : decode cL_law 439 = .ok (.invokevirtual 27, 3) := by decide +kernel
theorem dL_law_442 : decode cL_law 442 = .ok (.if_icmp .eq 1953, 3) := by decide +kernel
theorem dL_law_447 : decode cL_law 447 = .ok (.aload_n 1, 1) := by decide +kernel
theorem dL_law_448 : decode cL_law 448 = .ok (.aload_n 0, 1) := by decide +kernel
theorem dL_law_449 : decode cL_law 449 = .ok (.iload_n 3, 1) := by decide +kernel
theorem dL_law_450 : decode cL_law 450 = .ok (.iconst 1, 1) := by decide +kernel
theorem dL_law_451 : decode cL_law 451 = .ok (.iadd, 1) := by decide +kernel
theorem dL_law_452 : decode cL_law 452 = .ok (.iaload, 1) := by decide +kernel
theorem dL_law_453 : decode cL_law 453 = .ok (.invokevirtual 28, 3) := by decide +kernel
theorem dL_law_456 : decode cL_law 456 = .ok (.aload_n 2, 1) := by decide +kernel
theorem dL_law_457 : decode cL_law 457 = .ok (.aload_n 0, 1) := by decide +kernel
theorem dL_law_458 : decode cL_law 458 = .ok (.iload_n 3, 1) := by decide +kernel
theorem dL_law_459 : decode cL_law 459 = .ok (.iconst 1, 1) := by decide +kernel
theorem dL_law_460 : decode cL_law 460 = .ok (.iadd, 1) := by decide +kernel
theorem dL_law_461 : decode cL_law 461 = .ok (.iaload, 1) := by decide +kernel
theorem dL_law_462 : decode cL_law 462 = .ok (.invokevirtual 31, 3) := by decide +kernel
theorem dL_law_465 : decode cL_law 465 = .ok (.if_icmp .eq 1930, 3) := by decide +kernel
theorem dL_law_470 : decode cL_law 470 = .ok (.aload_n 1, 1) := by decide +kernel
theorem dL_law_471 : decode cL_law 471 = .ok (.aload_n 0, 1) := by decide +kernel
theorem dL_law_472 : decode cL_law 472 = .ok (.iload_n 3, 1) := by decide +kernel
theorem dL_law_473 : decode cL_law 473 = .ok (.iconst 1, 1) := by decide +kernel
theorem dL_law_474 : decode cL_law 474 = .ok (.iadd, 1) := by decide +kernel
theorem dL_law_475 : decode cL_law 475 = .ok (.iaload, 1) := by decide +kernel
theorem dL_law_476 : decode cL_law 476 = .ok (.invokevirtual 32, 3) := by decide +kernel
theorem dL_law_479 : decode cL_law 479 = .ok (.aload_n 2, 1) := by decide +kernel
theorem dL_law_480 : decode cL_law 480 = .ok (.aload_n 0, 1) := by decide +kernel
theorem dL_law_481 : decode cL_law 481 = .ok (.iload_n 3, 1) := by decide +kernel
theorem dL_law_482 : decode cL_law 482 = .ok (.iconst 1, 1) := by decide +kernel
theorem dL_law_483 : decode cL_law 483 = .ok (.iadd, 1) := by decide +kernel
theorem dL_law_484 : decode cL_law 484 = .ok (.iaload, 1) := by decide +kernel
theorem dL_law_485 : decode cL_law 485 = .ok (.invokevirtual 35, 3) := by decide +kernel
theorem dL_law_488 : decode cL_law 488 = .ok (.if_icmp .eq 1907, 3) := by decide +kernel
theorem dL_law_493 : decode cL_law 493 = .ok (.aload_n 1, 1) := by decide +kernel
theorem dL_law_494 : decode cL_law 494 = .ok (.aload_n 0, 1) := by decide +kernel
theorem dL_law_495 : decode cL_law 495 = .ok (.iload_n 3, 1) := by decide +kernel
theorem dL_law_496 : decode cL_law 496 = .ok (.iconst 1, 1) := by decide +kernel
theorem dL_law_497 : decode cL_law 497 = .ok (.iadd, 1) := by decide +kernel
theorem dL_law_498 : decode cL_law 498 = .ok (.iaload, 1) := by decide +kernel
theorem dL_law_499 : decode cL_law 499 = .ok (.invokevirtual 36, 3) := by decide +kernel
theorem dL_law_502 : decode cL_law 502 = .ok (.aload_n 2, 1) := by decide +kernel
theorem dL_law_503 : decode cL_law 503 = .ok (.aload_n 0, 1) := by decide +kernel
theorem dL_law_504 : decode cL_law 504 = .ok (.iload_n 3, 1) := by decide +kernel
theorem dL_law_505 : decode cL_law 505 = .ok (.iconst 1, 1) := by decide +kernel
theorem dL_law_506 : decode cL_law 506 = .ok (.iadd, 1) := by decide +kernel
theorem dL_law_507 : decode cL_law 507 = .ok (.iaload, 1) := by decide +kernel
theorem dL_law_508 : decode cL_law 508 = .ok (.invokevirtual 39, 3) := by decide +kernel
theorem dL_law_511 : decode cL_law 511 = .ok (.if_icmp .eq 1884, 3) := by decide +kernel
theorem dL_law_516 : decode cL_law 516 = .ok (.aload_n 1, 1) := by decide +kernel
theorem dL_law_517 : decode cL_law 517 = .ok (.aload_n 0, 1) := by decide +kernel
theorem dL_law_518 : decode cL_law 518 = .ok (.iload_n 3, 1) := by decide +kernel
theorem dL_law_519 : decode cL_law 519 = .ok (.iconst 1, 1) := by decide +kernel
theorem dL_law_520 : decode cL_law 520 = .ok (.iadd, 1) := by decide +kernel
theorem dL_law_521 : decode cL_law 521 = .ok (.iaload, 1) := by decide +kernel
theorem dL_law_522 : decode cL_law 522 = .ok (.aload_n 0, 1) := by decide +kernel
theorem dL_law_523 : decode cL_law 523 = .ok (.iload_n 3, 1) := by decide +kernel
theorem dL_law_524 : decode cL_law 524 = .ok (.iconst 2, 1) := by decide +kernel
theorem dL_law_525 : decode cL_law 525 = .ok (.iadd, 1) := by decide +kernel
theorem dL_law_526 : decode cL_law 526 = .ok (.iaload, 1) := by decide +kernel
theorem dL_law_527 : decode cL_law 527 = .ok (.invokevirtual 40, 3) := by decide +kernel
theorem dL_law_530 : decode cL_law 530 = .ok (.aload_n 2, 1) := by decide +kernel
theorem dL_law_531 : decode cL_law 531 = .ok (.aload_n 0, 1) := by decide +kernel
theorem dL_law_532 : decode cL_law 532 = .ok (.iload_n 3, 1) := by decide +kernel
theorem dL_law_533 : decode cL_law 533 = .ok (.iconst 1, 1) := by decide +kernel
theorem dL_law_534 : decode cL_law 534 = .ok (.iadd, 1) := by decide +kernel
theorem dL_law_535 : decode cL_law 535 = .ok (.iaload, 1) := by decide +kernel
theorem dL_law_536 : decode cL_law 536 = .ok (.aload_n 0, 1) := by decide +kernel
theorem dL_law_537 : decode cL_law 537 = .ok (.iload_n 3, 1) := by decide +kernel
theorem dL_law_538 : decode cL_law 538 = .ok (.iconst 2, 1) := by decide +kernel
theorem dL_law_539 : decode cL_law 539 = .ok (.iadd, 1) := by decide +kernel
theorem dL_law_540 : decode cL_law 540 = .ok (.iaload, 1) := by decide +kernel
theorem dL_law_541 : decode cL_law 541 = .ok (.invokevirtual 44, 3) := by decide +kernel
theorem dL_law_544 : decode cL_law 544 = .ok (.if_icmp .eq 1851, 3) := by decide +kernel
theorem dL_law_549 : decode cL_law 549 = .ok (.aload_n 1, 1) := by decide +kernel
theorem dL_law_550 : decode cL_law 550 = .ok (.aload_n 0, 1) := by decide +kernel
theorem dL_law_551 : decode cL_law 551 = .ok (.iload_n 3, 1) := by decide +kernel
theorem dL_law_552 : decode cL_law 552 = .ok (.iconst 1, 1) := by decide +kernel
theorem dL_law_553 : decode cL_law 553 = .ok (.iadd, 1) := by decide +kernel
theorem dL_law_554 : decode cL_law 554 = .ok (.iaload, 1) := by decide +kernel
theorem dL_law_555 : decode cL_law 555 = .ok (.invokevirtual 45, 3) := by decide +kernel
theorem dL_law_558 : decode cL_law 558 = .ok (.aload_n 2, 1) := by decide +kernel
theorem dL_law_559 : decode cL_law 559 = .ok (.aload_n 0, 1) := by decide +kernel
theorem dL_law_560 : decode cL_law 560 = .ok (.iload_n 3, 1) := by decide +kernel
theorem dL_law_561 : decode cL_law 561 = .ok (.iconst 1, 1) := by decide +kernel
theorem dL_law_562 : decode cL_law 562 = .ok (.iadd, 1) := by decide +kernel
theorem dL_law_563 : decode cL_law 563 = .ok (.iaload, 1) := by decide +kernel
theorem dL_law_564 : decode cL_law 564 = .ok (.invokevirtual 48, 3) := by decide +kernel
theorem dL_law_567 : decode cL_law 567 = .ok (.if_icmp .eq 1828, 3) := by decide +kernel
theorem dL_law_572 : decode cL_law 572 = .ok (.aload_n 1, 1) := by decide +kernel
theorem dL_law_573 : decode cL_law 573 = .ok (.aload_n 0, 1) := by decide +kernel
theorem dL_law_574 : decode cL_law 574 = .ok (.iload_n 3, 1) := by decide +kernel
theorem dL_law_575 : decode cL_law 575 = .ok (.iconst 1, 1) := by decide +kernel
theorem dL_law_576 : decode cL_law 576 = .ok (.iadd, 1) := by decide +kernel
theorem dL_law_577 : decode cL_law 577 = .ok (.iaload, 1) := by decide +kernel
theorem dL_law_578 : decode cL_law 578 = .ok (.aload_n 0, 1) := by decide +kernel
theorem dL_law_579 : decode cL_law 579 = .ok (.iload_n 3, 1) := by decide +kernel
theorem dL_law_580 : decode cL_law 580 = .ok (.iconst 2, 1) := by decide +kernel
theorem dL_law_581 : decode cL_law 581 = .ok (.iadd, 1) := by decide +kernel
theorem dL_law_582 : decode cL_law 582 = .ok (.iaload, 1) := by decide +kernel
theorem dL_law_583 : decode cL_law 583 = .ok (.invokevirtual 49, 3) := by decide +kernel
theorem dL_law_586 : decode cL_law 586 = .ok (.aload_n 2, 1) := by decide +kernel
theorem dL_law_587 : decode cL_law 587 = .ok (.aload_n 0, 1) := by decide +kernel
theorem dL_law_588 : decode cL_law 588 = .ok (.iload_n 3, 1) := by decide +kernel
theorem dL_law_589 : decode cL_law 589 = .ok (.iconst 1, 1) := by decide +kernel
theorem dL_law_590 : decode cL_law 590 = .ok (.iadd, 1) := by decide +kernel
theorem dL_law_591 : decode cL_law 591 = .ok (.iaload, 1) := by decide +kernel
theorem dL_law_592 : decode cL_law 592 = .ok (.aload_n 0, 1) := by decide +kernel
theorem dL_law_593 : decode cL_law 593 = .ok (.iload_n 3, 1) := by decide +kernel
theorem dL_law_594 : decode cL_law 594 = .ok (.iconst 2, 1) := by decide +kernel
theorem dL_law_595 : decode cL_law 595 = .ok (.iadd, 1) := by decide +kernel
theorem dL_law_596 : decode cL_law 596 = .ok (.iaload, 1) := by decide +kernel
theorem dL_law_597 : decode cL_law 597 = .ok (.invokevirtual 52, 3) := by decide +kernel
theorem dL_law_600 : decode cL_law 600 = .ok (.if_icmp .eq 1795, 3) := by decide +kernel
theorem dL_law_605 : decode cL_law 605 = .ok (.aload_n 1, 1) := by decide +kernel
theorem dL_law_606 : decode cL_law 606 = .ok (.aload_n 0, 1) := by decide +kernel
theorem dL_law_607 : decode cL_law 607 = .ok (.iload_n 3, 1) := by decide +kernel
theorem dL_law_608 : decode cL_law 608 = .ok (.iconst 1, 1) := by decide +kernel
theorem dL_law_609 : decode cL_law 609 = .ok (.iadd, 1) := by decide +kernel
theorem dL_law_610 : decode cL_law 610 = .ok (.iaload, 1) := by decide +kernel
theorem dL_law_611 : decode cL_law 611 = .ok (.aload_n 0, 1) := by decide +kernel
theorem dL_law_612 : decode cL_law 612 = .ok (.iload_n 3, 1) := by decide +kernel
theorem dL_law_613 : decode cL_law 613 = .ok (.iconst 2, 1) := by decide +kernel
theorem dL_law_614 : decode cL_law 614 = .ok (.iadd, 1) := by decide +kernel
theorem dL_law_615 : decode cL_law 615 = .ok (.iaload, 1) := by decide +kernel
theorem dL_law_616 : decode cL_law 616 = .ok (.invokevirtual 53, 3) := by decide +kernel
theorem dL_law_619 : decode cL_law 619 = .ok (.aload_n 2, 1) := by decide +kernel
theorem dL_law_620 : decode cL_law 620 = .ok (.aload_n 0, 1) := by decide +kernel
theorem dL_law_621 : decode cL_law 621 = .ok (.iload_n 3, 1) := by decide +kernel
theorem dL_law_622 : decode cL_law 622 = .ok (.iconst 1, 1) := by decide +kernel
theorem dL_law_623 : decode cL_law 623 = .ok (.iadd, 1) := by decide +kernel
theorem dL_law_624 : decode cL_law 624 = .ok (.iaload, 1) := by decide +kernel
theorem dL_law_625 : decode cL_law 625 = .ok (.aload_n 0, 1) := by decide +kernel
theorem dL_law_626 : decode cL_law 626 = .ok (.iload_n 3, 1) := by decide +kernel
theorem dL_law_627 : decode cL_law 627 = .ok (.iconst 2, 1) := by decide +kernel
theorem dL_law_628 : decode cL_law 628 = .ok (.iadd, 1) := by decide +kernel
theorem dL_law_629 : decode cL_law 629 = .ok (.iaload, 1) := by decide +kernel
theorem dL_law_630 : decode cL_law 630 = .ok (.invokevirtual 56, 3) := by decide +kernel
theorem dL_law_633 : decode cL_law 633 = .ok (.if_icmp .eq 1762, 3) := by decide +kernel
theorem dL_law_638 : decode cL_law 638 = .ok (.aload_n 1, 1) := by decide +kernel
theorem dL_law_639 : decode cL_law 639 = .ok (.aload_n 0, 1) := by decide +kernel
theorem dL_law_640 : decode cL_law 640 = .ok (.iload_n 3, 1) := by decide +kernel
theorem dL_law_641 : decode cL_law 641 = .ok (.iconst 1, 1) := by decide +kernel
theorem dL_law_642 : decode cL_law 642 = .ok (.iadd, 1) := by decide +kernel
theorem dL_law_643 : decode cL_law 643 = .ok (.iaload, 1) := by decide +kernel
theorem dL_law_644 : decode cL_law 644 = .ok (.aload_n 0, 1) := by decide +kernel
theorem dL_law_645 : decode cL_law 645 = .ok (.iload_n 3, 1) := by decide +kernel
theorem dL_law_646 : decode cL_law 646 = .ok (.iconst 2, 1) := by decide +kernel
theorem dL_law_647 : decode cL_law 647 = .ok (.iadd, 1) := by decide +kernel
theorem dL_law_648 : decode cL_law 648 = .ok (.iaload, 1) := by decide +kernel
theorem dL_law_649 : decode cL_law 649 = .ok (.invokevirtual 57, 3) := by decide +kernel
theorem dL_law_652 : decode cL_law 652 = .ok (.aload_n 2, 1) := by decide +kernel
theorem dL_law_653 : decode cL_law 653 = .ok (.aload_n 0, 1) := by decide +kernel
theorem dL_law_654 : decode cL_law 654 = .ok (.iload_n 3, 1) := by decide +kernel
theorem dL_law_655 : decode cL_law 655 = .ok (.iconst 1, 1) := by decide +kernel
theorem dL_law_656 : decode cL_law 656 = .ok (.iadd, 1) := by decide +kernel
theorem dL_law_657 : decode cL_law 657 = .ok (.iaload, 1) := by decide +kernel
theorem dL_law_658 : decode cL_law 658 = .ok (.aload_n 0, 1) := by decide +kernel
theorem dL_law_659 : decode cL_law 659 = .ok (.iload_n 3, 1) := by decide +kernel
theorem dL_law_660 : decode cL_law 660 = .ok (.iconst 2, 1) := by decide +kernel
theorem dL_law_661 : decode cL_law 661 = .ok (.iadd, 1) := by decide +kernel
theorem dL_law_662 : decode cL_law 662 = .ok (.iaload, 1) := by decide +kernel
theorem dL_law_663 : decode cL_law 663 = .ok (.invokevirtual 60, 3) := by decide +kernel
theorem dL_law_666 : decode cL_law 666 = .ok (.if_icmp .eq 1729, 3) := by decide +kernel
theorem dL_law_671 : decode cL_law 671 = .ok (.aload_n 1, 1) := by decide +kernel
theorem dL_law_672 : decode cL_law 672 = .ok (.aload_n 0, 1) := by decide +kernel
theorem dL_law_673 : decode cL_law 673 = .ok (.iload_n 3, 1) := by decide +kernel
theorem dL_law_674 : decode cL_law 674 = .ok (.iconst 1, 1) := by decide +kernel
theorem dL_law_675 : decode cL_law 675 = .ok (.iadd, 1) := by decide +kernel
theorem dL_law_676 : decode cL_law 676 = .ok (.iaload, 1) := by decide +kernel
theorem dL_law_677 : decode cL_law 677 = .ok (.aload_n 0, 1) := by decide +kernel
theorem dL_law_678 : decode cL_law 678 = .ok (.iload_n 3, 1) := by decide +kernel
theorem dL_law_679 : decode cL_law 679 = .ok (.iconst 2, 1) := by decide +kernel
theorem dL_law_680 : decode cL_law 680 = .ok (.iadd, 1) := by decide +kernel
theorem dL_law_681 : decode cL_law 681 = .ok (.iaload, 1) := by decide +kernel
theorem dL_law_682 : decode cL_law 682 = .ok (.invokevirtual 61, 3) := by decide +kernel
theorem dL_law_685 : decode cL_law 685 = .ok (.aload_n 2, 1) := by decide +kernel
theorem dL_law_686 : decode cL_law 686 = .ok (.aload_n 0, 1) := by decide +kernel
theorem dL_law_687 : decode cL_law 687 = .ok (.iload_n 3, 1) := by decide +kernel
theorem dL_law_688 : decode cL_law 688 = .ok (.iconst 1, 1) := by decide +kernel
theorem dL_law_689 : decode cL_law 689 = .ok (.iadd, 1) := by decide +kernel
theorem dL_law_690 : decode cL_law 690 = .ok (.iaload, 1) := by decide +kernel
theorem dL_law_691 : decode cL_law 691 = .ok (.aload_n 0, 1) := by decide +kernel
theorem dL_law_692 : decode cL_law 692 = .ok (.iload_n 3, 1) := by decide +kernel
theorem dL_law_693 : decode cL_law 693 = .ok (.iconst 2, 1) := by decide +kernel
theorem dL_law_694 : decode cL_law 694 = .ok (.iadd, 1) := by decide +kernel
theorem dL_law_695 : decode cL_law 695 = .ok (.iaload, 1) := by decide +kernel
theorem dL_law_696 : decode cL_law 696 = .ok (.invokevirtual 64, 3) := by decide +kernel
theorem dL_law_699 : decode cL_law 699 = .ok (.if_icmp .eq 1696, 3) := by decide +kernel
theorem dL_law_704 : decode cL_law 704 = .ok (.aload_n 1, 1) := by decide +kernel
theorem dL_law_705 : decode cL_law 705 = .ok (.aload_n 0, 1) := by decide +kernel
theorem dL_law_706 : decode cL_law 706 = .ok (.iload_n 3, 1) := by decide +kernel
theorem dL_law_707 : decode cL_law 707 = .ok (.iconst 1, 1) := by decide +kernel
theorem dL_law_708 : decode cL_law 708 = .ok (.iadd, 1) := by decide +kernel
theorem dL_law_709 : decode cL_law 709 = .ok (.iaload, 1) := by decide +kernel
theorem dL_law_710 : decode cL_law 710 = .ok (.invokevirtual 65, 3) := by decide +kernel
theorem dL_law_713 : decode cL_law 713 = .ok (.aload_n 2, 1) := by decide +kernel
theorem dL_law_714 : decode cL_law 714 = .ok (.aload_n 0, 1) := by decide +kernel
theorem dL_law_715 : decode cL_law 715 = .ok (.iload_n 3, 1) := by decide +kernel
theorem dL_law_716 : decode cL_law 716 = .ok (.iconst 1, 1) := by decide +kernel
theorem dL_law_717 : decode cL_law 717 = .ok (.iadd, 1) := by decide +kernel
theorem dL_law_718 : decode cL_law 718 = .ok (.iaload, 1) := by decide +kernel
theorem dL_law_719 : decode cL_law 719 = .ok (.invokevirtual 68, 3) := by decide +kernel
theorem dL_law_722 : decode cL_law 722 = .ok (.if_icmp .eq 1673, 3) := by decide +kernel
theorem dL_law_727 : decode cL_law 727 = .ok (.aload_n 1, 1) := by decide +kernel
theorem dL_law_728 : decode cL_law 728 = .ok (.aload_n 0, 1) := by decide +kernel
theorem dL_law_729 : decode cL_law 729 = .ok (.iload_n 3, 1) := by decide +kernel
theorem dL_law_730 : decode cL_law 730 = .ok (.iconst 1, 1) := by decide +kernel
theorem dL_law_731 : decode cL_law 731 = .ok (.iadd, 1) := by decide +kernel
theorem dL_law_732 : decode cL_law 732 = .ok (.iaload, 1) := by decide +kernel
theorem dL_law_733 : decode cL_law 733 = .ok (.invokevirtual 69, 3) := by decide +kernel
theorem dL_law_736 : decode cL_law 736 = .ok (.aload_n 2, 1) := by decide +kernel
theorem dL_law_737 : decode cL_law 737 = .ok (.aload_n 0, 1) := by decide +kernel
theorem dL_law_738 : decode cL_law 738 = .ok (.iload_n 3, 1) := by decide +kernel
theorem dL_law_739 : decode cL_law 739 = .ok (.iconst 1, 1) := by decide +kernel
theorem dL_law_740 : decode cL_law 740 = .ok (.iadd, 1) := by decide +kernel
theorem dL_law_741 : decode cL_law 741 = .ok (.iaload, 1) := by decide +kernel
theorem dL_law_742 : decode cL_law 742 = .ok (.invokevirtual 72, 3) := by decide +kernel
theorem dL_law_745 : decode cL_law 745 = .ok (.if_icmp .eq 1650, 3) := by decide +kernel
theorem dL_law_750 : decode cL_law 750 = .ok (.aload_n 1, 1) := by decide +kernel
theorem dL_law_751 : decode cL_law 751 = .ok (.aload_n 0, 1) := by decide +kernel
theorem dL_law_752 : decode cL_law 752 = .ok (.iload_n 3, 1) := by decide +kernel
theorem dL_law_753 : decode cL_law 753 = .ok (.iconst 1, 1) := by decide +kernel
theorem dL_law_754 : decode cL_law 754 = .ok (.iadd, 1) := by decide +kernel
theorem dL_law_755 : decode cL_law 755 = .ok (.iaload, 1) := by decide +kernel
theorem dL_law_756 : decode cL_law 756 = .ok (.aload_n 0, 1) := by decide +kernel
theorem dL_law_757 : decode cL_law 757 = .ok (.iload_n 3, 1) := by decide +kernel
theorem dL_law_758 : decode cL_law 758 = .ok (.iconst 2, 1) := by decide +kernel
theorem dL_law_759 : decode cL_law 759 = .ok (.iadd, 1) := by decide +kernel
theorem dL_law_760 : decode cL_law 760 = .ok (.iaload, 1) := by decide +kernel
theorem dL_law_761 : decode cL_law 761 = .ok (.invokevirtual 73, 3) := by decide +kernel
theorem dL_law_764 : decode cL_law 764 = .ok (.aload_n 2, 1) := by decide +kernel
theorem dL_law_765 : decode cL_law 765 = .ok (.aload_n 0, 1) := by decide +kernel
theorem dL_law_766 : decode cL_law 766 = .ok (.iload_n 3, 1) := by decide +kernel
theorem dL_law_767 : decode cL_law 767 = .ok (.iconst 1, 1) := by decide +kernel
theorem dL_law_768 : decode cL_law 768 = .ok (.iadd, 1) := by decide +kernel
theorem dL_law_769 : decode cL_law 769 = .ok (.iaload, 1) := by decide +kernel
theorem dL_law_770 : decode cL_law 770 = .ok (.aload_n 0, 1) := by decide +kernel
theorem dL_law_771 : decode cL_law 771 = .ok (.iload_n 3, 1) := by decide +kernel
theorem dL_law_772 : decode cL_law 772 = .ok (.iconst 2, 1) := by decide +kernel
theorem dL_law_773 : decode cL_law 773 = .ok (.iadd, 1) := by decide +kernel
theorem dL_law_774 : decode cL_law 774 = .ok (.iaload, 1) := by decide +kernel
theorem dL_law_775 : decode cL_law 775 = .ok (.invokevirtual 76, 3) := by decide +kernel
theorem dL_law_778 : decode cL_law 778 = .ok (.if_icmp .eq 1617, 3) := by decide +kernel
theorem dL_law_783 : decode cL_law 783 = .ok (.aload_n 1, 1) := by decide +kernel
theorem dL_law_784 : decode cL_law 784 = .ok (.aload_n 0, 1) := by decide +kernel
theorem dL_law_785 : decode cL_law 785 = .ok (.iload_n 3, 1) := by decide +kernel
theorem dL_law_786 : decode cL_law 786 = .ok (.iconst 1, 1) := by decide +kernel
theorem dL_law_787 : decode cL_law 787 = .ok (.iadd, 1) := by decide +kernel
theorem dL_law_788 : decode cL_law 788 = .ok (.iaload, 1) := by decide +kernel
theorem dL_law_789 : decode cL_law 789 = .ok (.invokevirtual 77, 3) := by decide +kernel
theorem dL_law_792 : decode cL_law 792 = .ok (.aload_n 2, 1) := by decide +kernel
theorem dL_law_793 : decode cL_law 793 = .ok (.aload_n 0, 1) := by decide +kernel
theorem dL_law_794 : decode cL_law 794 = .ok (.iload_n 3, 1) := by decide +kernel
theorem dL_law_795 : decode cL_law 795 = .ok (.iconst 1, 1) := by decide +kernel
theorem dL_law_796 : decode cL_law 796 = .ok (.iadd, 1) := by decide +kernel
theorem dL_law_797 : decode cL_law 797 = .ok (.iaload, 1) := by decide +kernel
theorem dL_law_798 : decode cL_law 798 = .ok (.invokevirtual 80, 3) := by decide +kernel
theorem dL_law_801 : decode cL_law 801 = .ok (.if_icmp .eq 1594, 3) := by decide +kernel
theorem dL_law_806 : decode cL_law 806 = .ok (.aload_n 1, 1) := by decide +kernel
theorem dL_law_807 : decode cL_law 807 = .ok (.aload_n 0, 1) := by decide +kernel
theorem dL_law_808 : decode cL_law 808 = .ok (.iload_n 3, 1) := by decide +kernel
theorem dL_law_809 : decode cL_law 809 = .ok (.iconst 1, 1) := by decide +kernel
theorem dL_law_810 : decode cL_law 810 = .ok (.iadd, 1) := by decide +kernel
theorem dL_law_811 : decode cL_law 811 = .ok (.iaload, 1) := by decide +kernel
theorem dL_law_812 : decode cL_law 812 = .ok (.invokevirtual 81, 3) := by decide +kernel
theorem dL_law_815 : decode cL_law 815 = .ok (.aload_n 2, 1) := by decide +kernel
theorem dL_law_816 : decode cL_law 816 = .ok (.aload_n 0, 1) := by decide +kernel
theorem dL_law_817 : decode cL_law 817 = .ok (.iload_n 3, 1) := by decide +kernel
theorem dL_law_818 : decode cL_law 818 = .ok (.iconst 1, 1) := by decide +kernel
theorem dL_law_819 : decode cL_law 819 = .ok (.iadd, 1) := by decide +kernel
theorem dL_law_820 : decode cL_law 820 = .ok (.iaload, 1) := by decide +kernel
theorem dL_law_821 : decode cL_law 821 = .ok (.invokevirtual 84, 3) := by decide +kernel
theorem dL_law_824 : decode cL_law 824 = .ok (.if_icmp .eq 1571, 3) := by decide +kernel
theorem dL_law_829 : decode cL_law 829 = .ok (.aload_n 1, 1) := by decide +kernel
theorem dL_law_830 : decode cL_law 830 = .ok (.aload_n 0, 1) := by decide +kernel
theorem dL_law_831 : decode cL_law 831 = .ok (.iload_n 3, 1) := by decide +kernel
theorem dL_law_832 : decode cL_law 832 = .ok (.iconst 1, 1) := by decide +kernel
theorem dL_law_833 : decode cL_law 833 = .ok (.iadd, 1) := by decide +kernel
theorem dL_law_834 : decode cL_law 834 = .ok (.iaload, 1) := by decide +kernel
theorem dL_law_835 : decode cL_law 835 = .ok (.invokevirtual 85, 3) := by decide +kernel
theorem dL_law_838 : decode cL_law 838 = .ok (.aload_n 2, 1) := by decide +kernel
theorem dL_law_839 : decode cL_law 839 = .ok (.aload_n 0, 1) := by decide +kernel
theorem dL_law_840 : decode cL_law 840 = .ok (.iload_n 3, 1) := by decide +kernel
theorem dL_law_841 : decode cL_law 841 = .ok (.iconst 1, 1) := by decide +kernel
theorem dL_law_842 : decode cL_law 842 = .ok (.iadd, 1) := by decide +kernel
theorem dL_law_843 : decode cL_law 843 = .ok (.iaload, 1) := by decide +kernel
theorem dL_law_844 : decode cL_law 844 = .ok (.invokevirtual 88, 3) := by decide +kernel
theorem dL_law_847 : decode cL_law 847 = .ok (.if_icmp .eq 1548, 3) := by decide +kernel
theorem dL_law_852 : decode cL_law 852 = .ok (.aload_n 1, 1) := by decide +kernel
theorem dL_law_853 : decode cL_law 853 = .ok (.aload_n 0, 1) := by decide +kernel
theorem dL_law_854 : decode cL_law 854 = .ok (.iload_n 3, 1) := by decide +kernel
theorem dL_law_855 : decode cL_law 855 = .ok (.iconst 1, 1) := by decide +kernel
theorem dL_law_856 : decode cL_law 856 = .ok (.iadd, 1) := by decide +kernel
theorem dL_law_857 : decode cL_law 857 = .ok (.iaload, 1) := by decide +kernel
theorem dL_law_858 : decode cL_law 858 = .ok (.invokevirtual 89, 3) := by decide +kernel
theorem dL_law_861 : decode cL_law 861 = .ok (.aload_n 2, 1) := by decide +kernel
theorem dL_law_862 : decode cL_law 862 = .ok (.aload_n 0, 1) := by decide +kernel
theorem dL_law_863 : decode cL_law 863 = .ok (.iload_n 3, 1) := by decide +kernel
theorem dL_law_864 : decode cL_law 864 = .ok (.iconst 1, 1) := by decide +kernel
theorem dL_law_865 : decode cL_law 865 = .ok (.iadd, 1) := by decide +kernel
theorem dL_law_866 : decode cL_law 866 = .ok (.iaload, 1) := by decide +kernel
theorem dL_law_867 : decode cL_law 867 = .ok (.invokevirtual 92, 3) := by decide +kernel
theorem dL_law_870 : decode cL_law 870 = .ok (.if_icmp .eq 1525, 3) := by decide +kernel
theorem dL_law_875 : decode cL_law 875 = .ok (.aload_n 1, 1) := by decide +kernel
theorem dL_law_876 : decode cL_law 876 = .ok (.aload_n 0, 1) := by decide +kernel
theorem dL_law_877 : decode cL_law 877 = .ok (.iload_n 3, 1) := by decide +kernel
theorem dL_law_878 : decode cL_law 878 = .ok (.iconst 1, 1) := by decide +kernel
theorem dL_law_879 : decode cL_law 879 = .ok (.iadd, 1) := by decide +kernel
theorem dL_law_880 : decode cL_law 880 = .ok (.iaload, 1) := by decide +kernel
theorem dL_law_881 : decode cL_law 881 = .ok (.invokevirtual 93, 3) := by decide +kernel
theorem dL_law_884 : decode cL_law 884 = .ok (.aload_n 2, 1) := by decide +kernel
theorem dL_law_885 : decode cL_law 885 = .ok (.aload_n 0, 1) := by decide +kernel
theorem dL_law_886 : decode cL_law 886 = .ok (.iload_n 3, 1) := by decide +kernel
theorem dL_law_887 : decode cL_law 887 = .ok (.iconst 1, 1) := by decide +kernel
theorem dL_law_888 : decode cL_law 888 = .ok (.iadd, 1) := by decide +kernel
theorem dL_law_889 : decode cL_law 889 = .ok (.iaload, 1) := by decide +kernel
theorem dL_law_890 : decode cL_law 890 = .ok (.invokevirtual 96, 3) := by decide +kernel
theorem dL_law_893 : decode cL_law 893 = .ok (.if_icmp .eq 1502, 3) := by decide +kernel
theorem dL_law_898 : decode cL_law 898 = .ok (.aload_n 1, 1) := by decide +kernel
theorem dL_law_899 : decode cL_law 899 = .ok (.aload_n 0, 1) := by decide +kernel
theorem dL_law_900 : decode cL_law 900 = .ok (.iload_n 3, 1) := by decide +kernel
theorem dL_law_901 : decode cL_law 901 = .ok (.iconst 1, 1) := by decide +kernel
theorem dL_law_902 : decode cL_law 902 = .ok (.iadd, 1) := by decide +kernel
theorem dL_law_903 : decode cL_law 903 = .ok (.iaload, 1) := by decide +kernel
theorem dL_law_904 : decode cL_law 904 = .ok (.invokevirtual 97, 3) := by decide +kernel
theorem dL_law_907 : decode cL_law 907 = .ok (.aload_n 2, 1) := by decide +kernel
theorem dL_law_908 : decode cL_law 908 = .ok (.aload_n 0, 1) := by decide +kernel
theorem dL_law_909 : decode cL_law 909 = .ok (.iload_n 3, 1) := by decide +kernel
theorem dL_law_910 : decode cL_law 910 = .ok (.iconst 1, 1) := by decide +kernel
theorem dL_law_911 : decode cL_law 911 = .ok (.iadd, 1) := by decide +kernel
theorem dL_law_912 : decode cL_law 912 = .ok (.iaload, 1) := by decide +kernel
theorem dL_law_913 : decode cL_law 913 = .ok (.invokevirtual 100, 3) := by decide +kernel
theorem dL_law_916 : decode cL_law 916 = .ok (.if_icmp .eq 1479, 3) := by decide +kernel
theorem dL_law_921 : decode cL_law 921 = .ok (.aload_n 1, 1) := by decide +kernel
theorem dL_law_922 : decode cL_law 922 = .ok (.aload_n 0, 1) := by decide +kernel
theorem dL_law_923 : decode cL_law 923 = .ok (.iload_n 3, 1) := by decide +kernel
theorem dL_law_924 : decode cL_law 924 = .ok (.iconst 1, 1) := by decide +kernel
theorem dL_law_925 : decode cL_law 925 = .ok (.iadd, 1) := by decide +kernel
theorem dL_law_926 : decode cL_law 926 = .ok (.iaload, 1) := by decide +kernel
theorem dL_law_927 : decode cL_law 927 = .ok (.invokevirtual 101, 3) := by decide +kernel
theorem dL_law_930 : decode cL_law 930 = .ok (.aload_n 2, 1) := by decide +kernel
theorem dL_law_931 : decode cL_law 931 = .ok (.aload_n 0, 1) := by decide +kernel
theorem dL_law_932 : decode cL_law 932 = .ok (.iload_n 3, 1) := by decide +kernel
theorem dL_law_933 : decode cL_law 933 = .ok (.iconst 1, 1) := by decide +kernel
theorem dL_law_934 : decode cL_law 934 = .ok (.iadd, 1) := by decide +kernel
theorem dL_law_935 : decode cL_law 935 = .ok (.iaload, 1) := by decide +kernel
theorem dL_law_936 : decode cL_law 936 = .ok (.invokevirtual 104, 3) := by decide +kernel
theorem dL_law_939 : decode cL_law 939 = .ok (.if_icmp .eq 1456, 3) := by decide +kernel
theorem dL_law_944 : decode cL_law 944 = .ok (.aload_n 1, 1) := by decide +kernel
theorem dL_law_945 : decode cL_law 945 = .ok (.aload_n 0, 1) := by decide +kernel
theorem dL_law_946 : decode cL_law 946 = .ok (.iload_n 3, 1) := by decide +kernel
theorem dL_law_947 : decode cL_law 947 = .ok (.iconst 1, 1) := by decide +kernel
theorem dL_law_948 : decode cL_law 948 = .ok (.iadd, 1) := by decide +kernel
theorem dL_law_949 : decode cL_law 949 = .ok (.iaload, 1) := by decide +kernel
theorem dL_law_950 : decode cL_law 950 = .ok (.aload_n 0, 1) := by decide +kernel
theorem dL_law_951 : decode cL_law 951 = .ok (.iload_n 3, 1) := by decide +kernel
theorem dL_law_952 : decode cL_law 952 = .ok (.iconst 2, 1) := by decide +kernel
theorem dL_law_953 : decode cL_law 953 = .ok (.iadd, 1) := by decide +kernel
theorem dL_law_954 : decode cL_law 954 = .ok (.iaload, 1) := by decide +kernel
theorem dL_law_955 : decode cL_law 955 = .ok (.invokevirtual 105, 3) := by decide +kernel
theorem dL_law_958 : decode cL_law 958 = .ok (.aload_n 2, 1) := by decide +kernel
theorem dL_law_959 : decode cL_law 959 = .ok (.aload_n 0, 1) := by decide +kernel
theorem dL_law_960 : decode cL_law 960 = .ok (.iload_n 3, 1) := by decide +kernel
theorem dL_law_961 : decode cL_law 961 = .ok (.iconst 1, 1) := by decide +kernel
theorem dL_law_962 : decode cL_law 962 = .ok (.iadd, 1) := by decide +kernel
theorem dL_law_963 : decode cL_law 963 = .ok (.iaload, 1) := by decide +kernel
theorem dL_law_964 : decode cL_law 964 = .ok (.aload_n 0, 1) := by decide +kernel
theorem dL_law_965 : decode cL_law 965 = .ok (.iload_n 3, 1) := by decide +kernel
theorem dL_law_966 : decode cL_law 966 = .ok (.iconst 2, 1) := by decide +kernel
theorem dL_law_967 : decode cL_law 967 = .ok (.iadd, 1) := by decide +kernel
theorem dL_law_968 : decode cL_law 968 = .ok (.iaload, 1) := by decide +kernel
theorem dL_law_969 : decode cL_law 969 = .ok (.invokevirtual 108, 3) := by decide +kernel
theorem dL_law_972 : decode cL_law 972 = .ok (.if_icmp .eq 1423, 3) := by decide +kernel
theorem dL_law_977 : decode cL_law 977 = .ok (.aload_n 1, 1) := by decide +kernel
theorem dL_law_978 : decode cL_law 978 = .ok (.aload_n 0, 1) := by decide +kernel
theorem dL_law_979 : decode cL_law 979 = .ok (.iload_n 3, 1) := by decide +kernel
theorem dL_law_980 : decode cL_law 980 = .ok (.iconst 1, 1) := by decide +kernel
theorem dL_law_981 : decode cL_law 981 = .ok (.iadd, 1) := by decide +kernel
theorem dL_law_982 : decode cL_law 982 = .ok (.iaload, 1) := by decide +kernel
theorem dL_law_983 : decode cL_law 983 = .ok (.invokevirtual 109, 3) := by decide +kernel
theorem dL_law_986 : decode cL_law 986 = .ok (.aload_n 2, 1) := by decide +kernel
theorem dL_law_987 : decode cL_law 987 = .ok (.aload_n 0, 1) := by decide +kernel
theorem dL_law_988 : decode cL_law 988 = .ok (.iload_n 3, 1) := by decide +kernel
theorem dL_law_989 : decode cL_law 989 = .ok (.iconst 1, 1) := by decide +kernel
theorem dL_law_990 : decode cL_law 990 = .ok (.iadd, 1) := by decide +kernel
theorem dL_law_991 : decode cL_law 991 = .ok (.iaload, 1) := by decide +kernel
theorem dL_law_992 : decode cL_law 992 = .ok (.invokevirtual 112, 3) := by decide +kernel
theorem dL_law_995 : decode cL_law 995 = .ok (.if_icmp .eq 1400, 3) := by decide +kernel
theorem dL_law_1000 : decode cL_law 1000 = .ok (.aload_n 1, 1) := by decide +kernel
theorem dL_law_1001 : decode cL_law 1001 = .ok (.aload_n 0, 1) := by decide +kernel
theorem dL_law_1002 : decode cL_law 1002 = .ok (.iload_n 3, 1) := by decide +kernel
theorem dL_law_1003 : decode cL_law 1003 = .ok (.iconst 1, 1) := by decide +kernel
theorem dL_law_1004 : decode cL_law 1004 = .ok (.iadd, 1) := by decide +kernel
theorem dL_law_1005 : decode cL_law 1005 = .ok (.iaload, 1) := by decide +kernel
theorem dL_law_1006 : decode cL_law 1006 = .ok (.invokevirtual 113, 3) := by decide +kernel
theorem dL_law_1009 : decode cL_law 1009 = .ok (.aload_n 2, 1) := by decide +kernel
theorem dL_law_1010 : decode cL_law 1010 = .ok (.aload_n 0, 1) := by decide +kernel
theorem dL_law_1011 : decode cL_law 1011 = .ok (.iload_n 3, 1) := by decide +kernel
theorem dL_law_1012 : decode cL_law 1012 = .ok (.iconst 1, 1) := by decide +kernel
theorem dL_law_1013 : decode cL_law 1013 = .ok (.iadd, 1) := by decide +kernel
theorem dL_law_1014 : decode cL_law 1014 = .ok (.iaload, 1) := by decide +kernel
theorem dL_law_1015 : decode cL_law 1015 = .ok (.invokevirtual 116, 3) := by decide +kernel
theorem dL_law_1018 : decode cL_law 1018 = .ok (.if_icmp .eq 1377, 3) := by decide +kernel
theorem dL_law_1023 : decode cL_law 1023 = .ok (.aload_n 1, 1) := by decide +kernel
theorem dL_law_1024 : decode cL_law 1024 = .ok (.aload_n 0, 1) := by decide +kernel
theorem dL_law_1025 : decode cL_law 1025 = .ok (.iload_n 3, 1) := by decide +kernel
theorem dL_law_1026 : decode cL_law 1026 = .ok (.iconst 1, 1) := by decide +kernel
theorem dL_law_1027 : decode cL_law 1027 = .ok (.iadd, 1) := by decide +kernel
theorem dL_law_1028 : decode cL_law 1028 = .ok (.iaload, 1) := by decide +kernel
theorem dL_law_1029 : decode cL_law 1029 = .ok (.invokevirtual 117, 3) := by decide +kernel
theorem dL_law_1032 : decode cL_law 1032 = .ok (.aload_n 2, 1) := by decide +kernel
theorem dL_law_1033 : decode cL_law 1033 = .ok (.aload_n 0, 1) := by decide +kernel
theorem dL_law_1034 : decode cL_law 1034 = .ok (.iload_n 3, 1) := by decide +kernel
theorem dL_law_1035 : decode cL_law 1035 = .ok (.iconst 1, 1) := by decide +kernel
theorem dL_law_1036 : decode cL_law 1036 = .ok (.iadd, 1) := by decide +kernel
theorem dL_law_1037 : decode cL_law 1037 = .ok (.iaload, 1) := by decide +kernel
theorem dL_law_1038 : decode cL_law 1038 = .ok (.invokevirtual 120, 3) := by decide +kernel
theorem dL_law_1041 : decode cL_law 1041 = .ok (.if_icmp .eq 1354, 3) := by decide +kernel
theorem dL_law_1046 : decode cL_law 1046 = .ok (.aload_n 1, 1) := by decide +kernel
theorem dL_law_1047 : decode cL_law 1047 = .ok (.aload_n 0, 1) := by decide +kernel
theorem dL_law_1048 : decode cL_law 1048 = .ok (.iload_n 3, 1) := by decide +kernel
theorem dL_law_1049 : decode cL_law 1049 = .ok (.iconst 1, 1) := by decide +kernel
theorem dL_law_1050 : decode cL_law 1050 = .ok (.iadd, 1) := by decide +kernel
theorem dL_law_1051 : decode cL_law 1051 = .ok (.iaload, 1) := by decide +kernel
theorem dL_law_1052 : decode cL_law 1052 = .ok (.invokevirtual 121, 3) := by decide +kernel
theorem dL_law_1055 : decode cL_law 1055 = .ok (.aload_n 2, 1) := by decide +kernel
theorem dL_law_1056 : decode cL_law 1056 = .ok (.aload_n 0, 1) := by decide +kernel
theorem dL_law_1057 : decode cL_law 1057 = .ok (.iload_n 3, 1) := by decide +kernel
theorem dL_law_1058 : decode cL_law 1058 = .ok (.iconst 1, 1) := by decide +kernel
theorem dL_law_1059 : decode cL_law 1059 = .ok (.iadd, 1) := by decide +kernel
theorem dL_law_1060 : decode cL_law 1060 = .ok (.iaload, 1) := by decide +kernel
theorem dL_law_1061 : decode cL_law 1061 = .ok (.invokevirtual 124, 3) := by decide +kernel
theorem dL_law_1064 : decode cL_law 1064 = .ok (.if_icmp .eq 1331, 3) := by decide +kernel
theorem dL_law_1069 : decode cL_law 1069 = .ok (.aload_n 1, 1) := by decide +kernel
theorem dL_law_1070 : decode cL_law 1070 = .ok (.invokevirtual 125, 3) := by decide +kernel
theorem dL_law_1073 : decode cL_law 1073 = .ok (.aload_n 2, 1) := by decide +kernel
theorem dL_law_1074 : decode cL_law 1074 = .ok (.invokevirtual 128, 3) := by decide +kernel
theorem dL_law_1077 : decode cL_law 1077 = .ok (.if_icmp .eq 1318, 3) := by decide +kernel
theorem dL_law_1082 : decode cL_law 1082 = .ok (.aload_n 1, 1) := by decide +kernel
theorem dL_law_1083 : decode cL_law 1083 = .ok (.aload_n 0, 1) := by decide +kernel
theorem dL_law_1084 : decode cL_law 1084 = .ok (.iload_n 3, 1) := by decide +kernel
theorem dL_law_1085 : decode cL_law 1085 = .ok (.iconst 1, 1) := by decide +kernel
theorem dL_law_1086 : decode cL_law 1086 = .ok (.iadd, 1) := by decide +kernel
theorem dL_law_1087 : decode cL_law 1087 = .ok (.iaload, 1) := by decide +kernel
theorem dL_law_1088 : decode cL_law 1088 = .ok (.invokevirtual 129, 3) := by decide +kernel
theorem dL_law_1091 : decode cL_law 1091 = .ok (.aload_n 2, 1) := by decide +kernel
theorem dL_law_1092 : decode cL_law 1092 = .ok (.aload_n 0, 1) := by decide +kernel
theorem dL_law_1093 : decode cL_law 1093 = .ok (.iload_n 3, 1) := by decide +kernel
theorem dL_law_1094 : decode cL_law 1094 = .ok (.iconst 1, 1) := by decide +kernel
theorem dL_law_1095 : decode cL_law 1095 = .ok (.iadd, 1) := by decide +kernel
theorem dL_law_1096 : decode cL_law 1096 = .ok (.iaload, 1) := by decide +kernel
theorem dL_law_1097 : decode cL_law 1097 = .ok (.invokevirtual 132, 3) := by decide +kernel
theorem dL_law_1100 : decode cL_law 1100 = .ok (.if_icmp .eq 1295, 3) := by decide +kernel
theorem dL_law_1105 : decode cL_law 1105 = .ok (.aload_n 1, 1) := by decide +kernel
theorem dL_law_1106 : decode cL_law 1106 = .ok (.invokevirtual 133, 3) := by decide +kernel
theorem dL_law_1109 : decode cL_law 1109 = .ok (.aload_n 2, 1) := by decide +kernel
theorem dL_law_1110 : decode cL_law 1110 = .ok (.invokevirtual 136, 3) := by decide +kernel
theorem dL_law_1113 : decode cL_law 1113 = .ok (.if_icmp .eq 1282, 3) := by decide +kernel
theorem dL_law_1118 : decode cL_law 1118 = .ok (.aload_n 1, 1) := by decide +kernel
theorem dL_law_1119 : decode cL_law 1119 = .ok (.aload_n 0, 1) := by decide +kernel
theorem dL_law_1120 : decode cL_law 1120 = .ok (.iload_n 3, 1) := by decide +kernel
theorem dL_law_1121 : decode cL_law 1121 = .ok (.iconst 1, 1) := by decide +kernel
theorem dL_law_1122 : decode cL_law 1122 = .ok (.iadd, 1) := by decide +kernel
theorem dL_law_1123 : decode cL_law 1123 = .ok (.iaload, 1) := by decide +kernel
theorem dL_law_1124 : decode cL_law 1124 = .ok (.aload_n 0, 1) := by decide +kernel
theorem dL_law_1125 : decode cL_law 1125 = .ok (.iload_n 3, 1) := by decide +kernel
theorem dL_law_1126 : decode cL_law 1126 = .ok (.iconst 2, 1) := by decide +kernel
theorem dL_law_1127 : decode cL_law 1127 = .ok (.iadd, 1) := by decide +kernel
theorem dL_law_1128 : decode cL_law 1128 = .ok (.iaload, 1) := by decide +kernel
theorem dL_law_1129 : decode cL_law 1129 = .ok (.invokevirtual 137, 3) := by decide +kernel
theorem dL_law_1132 : decode cL_law 1132 = .ok (.aload_n 2, 1) := by decide +kernel
theorem dL_law_1133 : decode cL_law 1133 = .ok (.aload_n 0, 1) := by decide +kernel
theorem dL_law_1134 : decode cL_law 1134 = .ok (.iload_n 3, 1) := by decide +kernel
theorem dL_law_1135 : decode cL_law 1135 = .ok (.iconst 1, 1) := by decide +kernel
theorem dL_law_1136 : decode cL_law 1136 = .ok (.iadd, 1) := by decide +kernel
theorem dL_law_1137 : decode cL_law 1137 = .ok (.iaload, 1) := by decide +kernel
theorem dL_law_1138 : decode cL_law 1138 = .ok (.aload_n 0, 1) := by decide +kernel
theorem dL_law_1139 : decode cL_law 1139 = .ok (.iload_n 3, 1) := by decide +kernel
theorem dL_law_1140 : decode cL_law 1140 = .ok (.iconst 2, 1) := by decide +kernel
theorem dL_law_1141 : decode cL_law 1141 = .ok (.iadd, 1) := by decide +kernel
theorem dL_law_1142 : decode cL_law 1142 = .ok (.iaload, 1) := by decide +kernel
theorem dL_law_1143 : decode cL_law 1143 = .ok (.invokevirtual 140, 3) := by decide +kernel
theorem dL_law_1146 : decode cL_law 1146 = .ok (.if_icmp .eq 1249, 3) := by decide +kernel
theorem dL_law_1151 : decode cL_law 1151 = .ok (.aload_n 1, 1) := by decide +kernel
theorem dL_law_1152 : decode cL_law 1152 = .ok (.invokevirtual 141, 3) := by decide +kernel
theorem dL_law_1155 : decode cL_law 1155 = .ok (.aload_n 2, 1) := by decide +kernel
theorem dL_law_1156 : decode cL_law 1156 = .ok (.invokevirtual 144, 3) := by decide +kernel
theorem dL_law_1159 : decode cL_law 1159 = .ok (.if_icmp .eq 1236, 3) := by decide +kernel
theorem dL_law_1164 : decode cL_law 1164 = .ok (.aload_n 1, 1) := by decide +kernel
theorem dL_law_1165 : decode cL_law 1165 = .ok (.invokevirtual 145, 3) := by decide +kernel
theorem dL_law_1168 : decode cL_law 1168 = .ok (.aload_n 2, 1) := by decide +kernel
theorem dL_law_1169 : decode cL_law 1169 = .ok (.invokevirtual 148, 3) := by decide +kernel
theorem dL_law_1172 : decode cL_law 1172 = .ok (.if_icmp .eq 1223, 3) := by decide +kernel
theorem dL_law_1177 : decode cL_law 1177 = .ok (.aload_n 1, 1) := by decide +kernel
theorem dL_law_1178 : decode cL_law 1178 = .ok (.aload_n 0, 1) := by decide +kernel
theorem dL_law_1179 : decode cL_law 1179 = .ok (.iload_n 3, 1) := by decide +kernel
theorem dL_law_1180 : decode cL_law 1180 = .ok (.iconst 1, 1) := by decide +kernel
theorem dL_law_1181 : decode cL_law 1181 = .ok (.iadd, 1) := by decide +kernel
theorem dL_law_1182 : decode cL_law 1182 = .ok (.iaload, 1) := by decide +kernel
theorem dL_law_1183 : decode cL_law 1183 = .ok (.invokevirtual 149, 3) := by decide +kernel
theorem dL_law_1186 : decode cL_law 1186 = .ok (.aload_n 2, 1) := by decide +kernel
theorem dL_law_1187 : decode cL_law 1187 = .ok (.aload_n 0, 1) := by decide +kernel
theorem dL_law_1188 : decode cL_law 1188 = .ok (.iload_n 3, 1) := by decide +kernel
theorem dL_law_1189 : decode cL_law 1189 = .ok (.iconst 1, 1) := by decide +kernel
theorem dL_law_1190 : decode cL_law 1190 = .ok (.iadd, 1) := by decide +kernel
theorem dL_law_1191 : decode cL_law 1191 = .ok (.iaload, 1) := by decide +kernel
theorem dL_law_1192 : decode cL_law 1192 = .ok (.invokevirtual 152, 3) := by decide +kernel
theorem dL_law_1195 : decode cL_law 1195 = .ok (.if_icmp .eq 1200, 3) := by decide +kernel
theorem dL_law_1200 : decode cL_law 1200 = .ok (.aload_n 1, 1) := by decide +kernel
theorem dL_law_1201 : decode cL_law 1201 = .ok (.aload_n 0, 1) := by decide +kernel
theorem dL_law_1202 : decode cL_law 1202 = .ok (.iload_n 3, 1) := by decide +kernel
theorem dL_law_1203 : decode cL_law 1203 = .ok (.iconst 1, 1) := by decide +kernel
theorem dL_law_1204 : decode cL_law 1204 = .ok (.iadd, 1) := by decide +kernel
theorem dL_law_1205 : decode cL_law 1205 = .ok (.iaload, 1) := by decide +kernel
theorem dL_law_1206 : decode cL_law 1206 = .ok (.aload_n 0, 1) := by decide +kernel
theorem dL_law_1207 : decode cL_law 1207 = .ok (.iload_n 3, 1) := by decide +kernel
theorem dL_law_1208 : decode cL_law 1208 = .ok (.iconst 2, 1) := by decide +kernel
theorem dL_law_1209 : decode cL_law 1209 = .ok (.iadd, 1) := by decide +kernel
theorem dL_law_1210 : decode cL_law 1210 = .ok (.iaload, 1) := by decide +kernel
theorem dL_law_1211 : decode cL_law 1211 = .ok (.invokevirtual 153, 3) := by decide +kernel
theorem dL_law_1214 : decode cL_law 1214 = .ok (.aload_n 2, 1) := by decide +kernel
theorem dL_law_1215 : decode cL_law 1215 = .ok (.aload_n 0, 1) := by decide +kernel
theorem dL_law_1216 : decode cL_law 1216 = .ok (.iload_n 3, 1) := by decide +kernel
theorem dL_law_1217 : decode cL_law 1217 = .ok (.iconst 1, 1) := by decide +kernel
theorem dL_law_1218 : decode cL_law 1218 = .ok (.iadd, 1) := by decide +kernel
theorem dL_law_1219 : decode cL_law 1219 = .ok (.iaload, 1) := by decide +kernel
theorem dL_law_1220 : decode cL_law 1220 = .ok (.aload_n 0, 1) := by decide +kernel
theorem dL_law_1221 : decode cL_law 1221 = .ok (.iload_n 3, 1) := by decide +kernel
theorem dL_law_1222 : decode cL_law 1222 = .ok (.iconst 2, 1) := by decide +kernel
theorem dL_law_1223 : decode cL_law 1223 = .ok (.iadd, 1) := by decide +kernel
theorem dL_law_1224 : decode cL_law 1224 = .ok (.iaload, 1) := by decide +kernel
theorem dL_law_1225 : decode cL_law 1225 = .ok (.invokevirtual 156, 3) := by decide +kernel
theorem dL_law_1228 : decode cL_law 1228 = .ok (.if_icmp .eq 1167, 3) := by decide +kernel
theorem dL_law_1233 : decode cL_law 1233 = .ok (.aload_n 1, 1) := by decide +kernel
theorem dL_law_1234 : decode cL_law 1234 = .ok (.aload_n 0, 1) := by decide +kernel
theorem dL_law_1235 : decode cL_law 1235 = .ok (.iload_n 3, 1) := by decide +kernel
theorem dL_law_1236 : decode cL_law 1236 = .ok (.iconst 1, 1) := by decide +kernel
theorem dL_law_1237 : decode cL_law 1237 = .ok (.iadd, 1) := by decide +kernel
theorem dL_law_1238 : decode cL_law 1238 = .ok (.iaload, 1) := by decide +kernel
theorem dL_law_1239 : decode cL_law 1239 = .ok (.invokevirtual 157, 3) := by decide +kernel
theorem dL_law_1242 : decode cL_law 1242 = .ok (.aload_n 2, 1) := by decide +kernel
theorem dL_law_1243 : decode cL_law 1243 = .ok (.aload_n 0, 1) := by decide +kernel
theorem dL_law_1244 : decode cL_law 1244 = .ok (.iload_n 3, 1) := by decide +kernel
theorem dL_law_1245 : decode cL_law 1245 = .ok (.iconst 1, 1) := by decide +kernel
theorem dL_law_1246 : decode cL_law 1246 = .ok (.iadd, 1) := by decide +kernel
theorem dL_law_1247 : decode cL_law 1247 = .ok (.iaload, 1) := by decide +kernel
theorem dL_law_1248 : decode cL_law 1248 = .ok (.invokevirtual 160, 3) := by decide +kernel
theorem dL_law_1251 : decode cL_law 1251 = .ok (.if_icmp .eq 1144, 3) := by decide +kernel
theorem dL_law_1256 : decode cL_law 1256 = .ok (.aload_n 1, 1) := by decide +kernel
theorem dL_law_1257 : decode cL_law 1257 = .ok (.invokevirtual 161, 3) := by decide +kernel
theorem dL_law_1260 : decode cL_law 1260 = .ok (.aload_n 2, 1) := by decide +kernel
theorem dL_law_1261 : decode cL_law 1261 = .ok (.invokevirtual 164, 3) := by decide +kernel
theorem dL_law_1264 : decode cL_law 1264 = .ok (.if_icmp .eq 1131, 3) := by decide +kernel
theorem dL_law_1269 : decode cL_law 1269 = .ok (.aload_n 1, 1) := by decide +kernel
theorem dL_law_1270 : decode cL_law 1270 = .ok (.invokevirtual 165, 3) := by decide +kernel
theorem dL_law_1273 : decode cL_law 1273 = .ok (.aload_n 2, 1) := by decide +kernel
theorem dL_law_1274 : decode cL_law 1274 = .ok (.invokevirtual 168, 3) := by decide +kernel
theorem dL_law_1277 : decode cL_law 1277 = .ok (.if_icmp .eq 1118, 3) := by decide +kernel
theorem dL_law_1282 : decode cL_law 1282 = .ok (.aload_n 1, 1) := by decide +kernel
theorem dL_law_1283 : decode cL_law 1283 = .ok (.aload_n 0, 1) := by decide +kernel
theorem dL_law_1284 : decode cL_law 1284 = .ok (.iload_n 3, 1) := by decide +kernel
theorem dL_law_1285 : decode cL_law 1285 = .ok (.iconst 1, 1) := by decide +kernel
theorem dL_law_1286 : decode cL_law 1286 = .ok (.iadd, 1) := by decide +kernel
theorem dL_law_1287 : decode cL_law 1287 = .ok (.iaload, 1) := by decide +kernel
theorem dL_law_1288 : decode cL_law 1288 = .ok (.invokevirtual 169, 3) := by decide +kernel
theorem dL_law_1291 : decode cL_law 1291 = .ok (.aload_n 2, 1) := by decide +kernel
theorem dL_law_1292 : decode cL_law 1292 = .ok (.aload_n 0, 1) := by decide +kernel
theorem dL_law_1293 : decode cL_law 1293 = .ok (.iload_n 3, 1) := by decide +kernel
theorem dL_law_1294 : decode cL_law 1294 = .ok (.iconst 1, 1) := by decide +kernel
theorem dL_law_1295 : decode cL_law 1295 = .ok (.iadd, 1) := by decide +kernel
theorem dL_law_1296 : decode cL_law 1296 = .ok (.iaload, 1) := by decide +kernel
theorem dL_law_1297 : decode cL_law 1297 = .ok (.invokevirtual 172, 3) := by decide +kernel
theorem dL_law_1300 : decode cL_law 1300 = .ok (.if_icmp .eq 1095, 3) := by decide +kernel
theorem dL_law_1305 : decode cL_law 1305 = .ok (.aload_n 1, 1) := by decide +kernel
theorem dL_law_1306 : decode cL_law 1306 = .ok (.aload_n 0, 1) := by decide +kernel
theorem dL_law_1307 : decode cL_law 1307 = .ok (.iload_n 3, 1) := by decide +kernel
theorem dL_law_1308 : decode cL_law 1308 = .ok (.iconst 1, 1) := by decide +kernel
theorem dL_law_1309 : decode cL_law 1309 = .ok (.iadd, 1) := by decide +kernel
theorem dL_law_1310 : decode cL_law 1310 = .ok (.iaload, 1) := by decide +kernel
theorem dL_law_1311 : decode cL_law 1311 = .ok (.invokevirtual 173, 3) := by decide +kernel
theorem dL_law_1314 : decode cL_law 1314 = .ok (.aload_n 2, 1) := by decide +kernel
theorem dL_law_1315 : decode cL_law 1315 = .ok (.aload_n 0, 1) := by decide +kernel
theorem dL_law_1316 : decode cL_law 1316 = .ok (.iload_n 3, 1) := by decide +kernel
theorem dL_law_1317 : decode cL_law 1317 = .ok (.iconst 1, 1) := by decide +kernel
theorem dL_law_1318 : decode cL_law 1318 = .ok (.iadd, 1) := by decide +kernel
theorem dL_law_1319 : decode cL_law 1319 = .ok (.iaload, 1) := by decide +kernel
theorem dL_law_1320 : decode cL_law 1320 = .ok (.invokevirtual 176, 3) := by decide +kernel
theorem dL_law_1323 : decode cL_law 1323 = .ok (.if_icmp .eq 1072, 3) := by decide +kernel
theorem dL_law_1328 : decode cL_law 1328 = .ok (.aload_n 1, 1) := by decide +kernel
theorem dL_law_1329 : decode cL_law 1329 = .ok (.aload_n 0, 1) := by decide +kernel
theorem dL_law_1330 : decode cL_law 1330 = .ok (.iload_n 3, 1) := by decide +kernel
theorem dL_law_1331 : decode cL_law 1331 = .ok (.iconst 1, 1) := by decide +kernel
theorem dL_law_1332 : decode cL_law 1332 = .ok (.iadd, 1) := by decide +kernel
theorem dL_law_1333 : decode cL_law 1333 = .ok (.iaload, 1) := by decide +kernel
theorem dL_law_1334 : decode cL_law 1334 = .ok (.invokevirtual 177, 3) := by decide +kernel
theorem dL_law_1337 : decode cL_law 1337 = .ok (.aload_n 2, 1) := by decide +kernel
theorem dL_law_1338 : decode cL_law 1338 = .ok (.aload_n 0, 1) := by decide +kernel
theorem dL_law_1339 : decode cL_law 1339 = .ok (.iload_n 3, 1) := by decide +kernel
theorem dL_law_1340 : decode cL_law 1340 = .ok (.iconst 1, 1) := by decide +kernel
theorem dL_law_1341 : decode cL_law 1341 = .ok (.iadd, 1) := by decide +kernel
theorem dL_law_1342 : decode cL_law 1342 = .ok (.iaload, 1) := by decide +kernel
theorem dL_law_1343 : decode cL_law 1343 = .ok (.invokevirtual 180, 3) := by decide +kernel
theorem dL_law_1346 : decode cL_law 1346 = .ok (.if_icmp .eq 1049, 3) := by decide +kernel
theorem dL_law_1351 : decode cL_law 1351 = .ok (.aload_n 1, 1) := by decide +kernel
theorem dL_law_1352 : decode cL_law 1352 = .ok (.aload_n 0, 1) := by decide +kernel
theorem dL_law_1353 : decode cL_law 1353 = .ok (.iload_n 3, 1) := by decide +kernel
theorem dL_law_1354 : decode cL_law 1354 = .ok (.iconst 1, 1) := by decide +kernel
theorem dL_law_1355 : decode cL_law 1355 = .ok (.iadd, 1) := by decide +kernel
theorem dL_law_1356 : decode cL_law 1356 = .ok (.iaload, 1) := by decide +kernel
theorem dL_law_1357 : decode cL_law 1357 = .ok (.aload_n 0, 1) := by decide +kernel
theorem dL_law_1358 : decode cL_law 1358 = .ok (.iload_n 3, 1) := by decide +kernel
theorem dL_law_1359 : decode cL_law 1359 = .ok (.iconst 2, 1) := by decide +kernel
theorem dL_law_1360 : decode cL_law 1360 = .ok (.iadd, 1) := by decide +kernel
theorem dL_law_1361 : decode cL_law 1361 = .ok (.iaload, 1) := by decide +kernel
theorem dL_law_1362 : decode cL_law 1362 = .ok (.invokevirtual 181, 3) := by decide +kernel
theorem dL_law_1365 : decode cL_law 1365 = .ok (.aload_n 2, 1) := by decide +kernel
theorem dL_law_1366 : decode cL_law 1366 = .ok (.aload_n 0, 1) := by decide +kernel
theorem dL_law_1367 : decode cL_law 1367 = .ok (.iload_n 3, 1) := by decide +kernel
theorem dL_law_1368 : decode cL_law 1368 = .ok (.iconst 1, 1) := by decide +kernel
theorem dL_law_1369 : decode cL_law 1369 = .ok (.iadd, 1) := by decide +kernel
theorem dL_law_1370 : decode cL_law 1370 = .ok (.iaload, 1) := by decide +kernel
theorem dL_law_1371 : decode cL_law 1371 = .ok (.aload_n 0, 1) := by decide +kernel
theorem dL_law_1372 : decode cL_law 1372 = .ok (.iload_n 3, 1) := by decide +kernel
theorem dL_law_1373 : decode cL_law 1373 = .ok (.iconst 2, 1) := by decide +kernel
theorem dL_law_1374 : decode cL_law 1374 = .ok (.iadd, 1) := by decide +kernel
theorem dL_law_1375 : decode cL_law 1375 = .ok (.iaload, 1) := by decide +kernel
theorem dL_law_1376 : decode cL_law 1376 = .ok (.invokevirtual 184, 3) := by decide +kernel
theorem dL_law_1379 : decode cL_law 1379 = .ok (.if_icmp .eq 1016, 3) := by decide +kernel
theorem dL_law_1384 : decode cL_law 1384 = .ok (.aload_n 1, 1) := by decide +kernel
theorem dL_law_1385 : decode cL_law 1385 = .ok (.aload_n 0, 1) := by decide +kernel
theorem dL_law_1386 : decode cL_law 1386 = .ok (.iload_n 3, 1) := by decide +kernel
theorem dL_law_1387 : decode cL_law 1387 = .ok (.iconst 1, 1) := by decide +kernel
theorem dL_law_1388 : decode cL_law 1388 = .ok (.iadd, 1) := by decide +kernel
theorem dL_law_1389 : decode cL_law 1389 = .ok (.iaload, 1) := by decide +kernel
theorem dL_law_1390 : decode cL_law 1390 = .ok (.invokevirtual 185, 3) := by decide +kernel
theorem dL_law_1393 : decode cL_law 1393 = .ok (.aload_n 2, 1) := by decide +kernel
theorem dL_law_1394 : decode cL_law 1394 = .ok (.aload_n 0, 1) := by decide +kernel
theorem dL_law_1395 : decode cL_law 1395 = .ok (.iload_n 3, 1) := by decide +kernel
theorem dL_law_1396 : decode cL_law 1396 = .ok (.iconst 1, 1) := by decide +kernel
theorem dL_law_1397 : decode cL_law 1397 = .ok (.iadd, 1) := by decide +kernel
theorem dL_law_1398 : decode cL_law 1398 = .ok (.iaload, 1) := by decide +kernel
theorem dL_law_1399 : decode cL_law 1399 = .ok (.invokevirtual 188, 3) := by decide +kernel
theorem dL_law_1402 : decode cL_law 1402 = .ok (.if_icmp .eq 993, 3) := by decide +kernel
theorem dL_law_1407 : decode cL_law 1407 = .ok (.aload_n 1, 1) := by decide +kernel
theorem dL_law_1408 : decode cL_law 1408 = .ok (.aload_n 0, 1) := by decide +kernel
theorem dL_law_1409 : decode cL_law 1409 = .ok (.iload_n 3, 1) := by decide +kernel
theorem dL_law_1410 : decode cL_law 1410 = .ok (.iconst 1, 1) := by decide +kernel
theorem dL_law_1411 : decode cL_law 1411 = .ok (.iadd, 1) := by decide +kernel
theorem dL_law_1412 : decode cL_law 1412 = .ok (.iaload, 1) := by decide +kernel
theorem dL_law_1413 : decode cL_law 1413 = .ok (.aload_n 0, 1) := by decide +kernel
theorem dL_law_1414 : decode cL_law 1414 = .ok (.iload_n 3, 1) := by decide +kernel
theorem dL_law_1415 : decode cL_law 1415 = .ok (.iconst 2, 1) := by decide +kernel
theorem dL_law_1416 : decode cL_law 1416 = .ok (.iadd, 1) := by decide +kernel
theorem dL_law_1417 : decode cL_law 1417 = .ok (.iaload, 1) := by decide +kernel
theorem dL_law_1418 : decode cL_law 1418 = .ok (.aload_n 0, 1) := by decide +kernel
theorem dL_law_1419 : decode cL_law 1419 = .ok (.iload_n 3, 1) := by decide +kernel
theorem dL_law_1420 : decode cL_law 1420 = .ok (.iconst 3, 1) := by decide +kernel
theorem dL_law_1421 : decode cL_law 1421 = .ok (.iadd, 1) := by decide +kernel
theorem dL_law_1422 : decode cL_law 1422 = .ok (.iaload, 1) := by decide +kernel
theorem dL_law_1423 : decode cL_law 1423 = .ok (.invokevirtual 189, 3) := by decide +kernel
theorem dL_law_1426 : decode cL_law 1426 = .ok (.aload_n 2, 1) := by decide +kernel
theorem dL_law_1427 : decode cL_law 1427 = .ok (.aload_n 0, 1) := by decide +kernel
theorem dL_law_1428 : decode cL_law 1428 = .ok (.iload_n 3, 1) := by decide +kernel
theorem dL_law_1429 : decode cL_law 1429 = .ok (.iconst 1, 1) := by decide +kernel
theorem dL_law_1430 : decode cL_law 1430 = .ok (.iadd, 1) := by decide +kernel
theorem dL_law_1431 : decode cL_law 1431 = .ok (.iaload, 1) := by decide +kernel
theorem dL_law_1432 : decode cL_law 1432 = .ok (.aload_n 0, 1) := by decide +kernel
theorem dL_law_1433 : decode cL_law 1433 = .ok (.iload_n 3, 1) := by decide +kernel
theorem dL_law_1434 : decode cL_law 1434 = .ok (.iconst 2, 1) := by decide +kernel
theorem dL_law_1435 : decode cL_law 1435 = .ok (.iadd, 1) := by decide +kernel
theorem dL_law_1436 : decode cL_law 1436 = .ok (.iaload, 1) := by decide +kernel
theorem dL_law_1437 : decode cL_law 1437 = .ok (.aload_n 0, 1) := by decide +kernel
theorem dL_law_1438 : decode cL_law 1438 = .ok (.iload_n 3, 1) := by decide +kernel
theorem dL_law_1439 : decode cL_law 1439 = .ok (.iconst 3, 1) := by decide +kernel
theorem dL_law_1440 : decode cL_law 1440 = .ok (.iadd, 1) := by decide +kernel
theorem dL_law_1441 : decode cL_law 1441 = .ok (.iaload, 1) := by decide +kernel
theorem dL_law_1442 : decode cL_law 1442 = .ok (.invokevirtual 193, 3) := by decide +kernel
theorem dL_law_1445 : decode cL_law 1445 = .ok (.if_icmp .eq 950, 3) := by decide +kernel
theorem dL_law_1450 : decode cL_law 1450 = .ok (.aload_n 1, 1) := by decide +kernel
theorem dL_law_1451 : decode cL_law 1451 = .ok (.aload_n 0, 1) := by decide +kernel
theorem dL_law_1452 : decode cL_law 1452 = .ok (.iload_n 3, 1) := by decide +kernel
theorem dL_law_1453 : decode cL_law 1453 = .ok (.iconst 1, 1) := by decide +kernel
theorem dL_law_1454 : decode cL_law 1454 = .ok (.iadd, 1) := by decide +kernel
theorem dL_law_1455 : decode cL_law 1455 = .ok (.iaload, 1) := by decide +kernel
theorem dL_law_1456 : decode cL_law 1456 = .ok (.invokevirtual 194, 3) := by decide +kernel
theorem dL_law_1459 : decode cL_law 1459 = .ok (.aload_n 2, 1) := by decide +kernel
theorem dL_law_1460 : decode cL_law 1460 = .ok (.aload_n 0, 1) := by decide +kernel
theorem dL_law_1461 : decode cL_law 1461 = .ok (.iload_n 3, 1) := by decide +kernel
theorem dL_law_1462 : decode cL_law 1462 = .ok (.iconst 1, 1) := by decide +kernel
theorem dL_law_1463 : decode cL_law 1463 = .ok (.iadd, 1) := by decide +kernel
theorem dL_law_1464 : decode cL_law 1464 = .ok (.iaload, 1) := by decide +kernel
theorem dL_law_1465 : decode cL_law 1465 = .ok (.invokevirtual 197, 3) := by decide +kernel
theorem dL_law_1468 : decode cL_law 1468 = .ok (.if_icmp .eq 927, 3) := by decide +kernel
theorem dL_law_1473 : decode cL_law 1473 = .ok (.aload_n 1, 1) := by decide +kernel
theorem dL_law_1474 : decode cL_law 1474 = .ok (.aload_n 0, 1) := by decide +kernel
theorem dL_law_1475 : decode cL_law 1475 = .ok (.iload_n 3, 1) := by decide +kernel
theorem dL_law_1476 : decode cL_law 1476 = .ok (.iconst 1, 1) := by decide +kernel
theorem dL_law_1477 : decode cL_law 1477 = .ok (.iadd, 1) := by decide +kernel
theorem dL_law_1478 : decode cL_law 1478 = .ok (.iaload, 1) := by decide +kernel
theorem dL_law_1479 : decode cL_law 1479 = .ok (.invokevirtual 198, 3) := by decide +kernel
theorem dL_law_1482 : decode cL_law 1482 = .ok (.aload_n 2, 1) := by decide +kernel
theorem dL_law_1483 : decode cL_law 1483 = .ok (.aload_n 0, 1) := by decide +kernel
theorem dL_law_1484 : decode cL_law 1484 = .ok (.iload_n 3, 1) := by decide +kernel
theorem dL_law_1485 : decode cL_law 1485 = .ok (.iconst 1, 1) := by decide +kernel
theorem dL_law_1486 : decode cL_law 1486 = .ok (.iadd, 1) := by decide +kernel
theorem dL_law_1487 : decode cL_law 1487 = .ok (.iaload, 1) := by decide +kernel
theorem dL_law_1488 : decode cL_law 1488 = .ok (.invokevirtual 201, 3) := by decide +kernel
theorem dL_law_1491 : decode cL_law 1491 = .ok (.if_icmp .eq 904, 3) := by decide +kernel
theorem dL_law_1496 : decode cL_law 1496 = .ok (.aload_n 1, 1) := by decide +kernel
theorem dL_law_1497 : decode cL_law 1497 = .ok (.invokevirtual 202, 3) := by decide +kernel
theorem dL_law_1500 : decode cL_law 1500 = .ok (.aload_n 2, 1) := by decide +kernel
theorem dL_law_1501 : decode cL_law 1501 = .ok (.invokevirtual 205, 3) := by decide +kernel
theorem dL_law_1504 : decode cL_law 1504 = .ok (.if_icmp .eq 891, 3) := by decide +kernel
theorem dL_law_1509 : decode cL_law 1509 = .ok (.aload_n 1, 1) := by decide +kernel
theorem dL_law_1510 : decode cL_law 1510 = .ok (.aload_n 0, 1) := by decide +kernel
theorem dL_law_1511 : decode cL_law 1511 = .ok (.iload_n 3, 1) := by decide +kernel
theorem dL_law_1512 : decode cL_law 1512 = .ok (.iconst 1, 1) := by decide +kernel
theorem dL_law_1513 : decode cL_law 1513 = .ok (.iadd, 1) := by decide +kernel
theorem dL_law_1514 : decode cL_law 1514 = .ok (.iaload, 1) := by decide +kernel
theorem dL_law_1515 : decode cL_law 1515 = .ok (.aload_n 0, 1) := by decide +kernel
theorem dL_law_1516 : decode cL_law 1516 = .ok (.iload_n 3, 1) := by decide +kernel
theorem dL_law_1517 : decode cL_law 1517 = .ok (.iconst 2, 1) := by decide +kernel
theorem dL_law_1518 : decode cL_law 1518 = .ok (.iadd, 1) := by decide +kernel
theorem dL_law_1519 : decode cL_law 1519 = .ok (.iaload, 1) := by decide +kernel
theorem dL_law_1520 : decode cL_law 1520 = .ok (.invokevirtual 206, 3) := by decide +kernel
theorem dL_law_1523 : decode cL_law 1523 = .ok (.aload_n 2, 1) := by decide +kernel
theorem dL_law_1524 : decode cL_law 1524 = .ok (.aload_n 0, 1) := by decide +kernel
theorem dL_law_1525 : decode cL_law 1525 = .ok (.iload_n 3, 1) := by decide +kernel
theorem dL_law_1526 : decode cL_law 1526 = .ok (.iconst 1, 1) := by decide +kernel
theorem dL_law_1527 : decode cL_law 1527 = .ok (.iadd, 1) := by decide +kernel
theorem dL_law_1528 : decode cL_law 1528 = .ok (.iaload, 1) := by decide +kernel
theorem dL_law_1529 : decode cL_law 1529 = .ok (.aload_n 0, 1) := by decide +kernel
theorem dL_law_1530 : decode cL_law 1530 = .ok (.iload_n 3, 1) := by decide +kernel
theorem dL_law_1531 : decode cL_law 1531 = .ok (.iconst 2, 1) := by decide +kernel
theorem dL_law_1532 : decode cL_law 1532 = .ok (.iadd, 1) := by decide +kernel
theorem dL_law_1533 : decode cL_law 1533 = .ok (.iaload, 1) := by decide +kernel
theorem dL_law_1534 : decode cL_law 1534 = .ok (.invokevirtual 209, 3) := by decide +kernel
theorem dL_law_1537 : decode cL_law 1537 = .ok (.if_icmp .eq 858, 3) := by decide +kernel
theorem dL_law_1542 : decode cL_law 1542 = .ok (.aload_n 1, 1) := by decide +kernel
theorem dL_law_1543 : decode cL_law 1543 = .ok (.invokevirtual 210, 3) := by decide +kernel
theorem dL_law_1546 : decode cL_law 1546 = .ok (.aload_n 2, 1) := by decide +kernel
theorem dL_law_1547 : decode cL_law 1547 = .ok (.invokevirtual 213, 3) := by decide +kernel
theorem dL_law_1550 : decode cL_law 1550 = .ok (.if_icmp .eq 845, 3) := by decide +kernel
theorem dL_law_1555 : decode cL_law 1555 = .ok (.aload_n 1, 1) := by decide +kernel
theorem dL_law_1556 : decode cL_law 1556 = .ok (.invokevirtual 214, 3) := by decide +kernel
theorem dL_law_1559 : decode cL_law 1559 = .ok (.aload_n 2, 1) := by decide +kernel
theorem dL_law_1560 : decode cL_law 1560 = .ok (.invokevirtual 217, 3) := by decide +kernel
theorem dL_law_1563 : decode cL_law 1563 = .ok (.if_icmp .eq 832, 3) := by decide +kernel
theorem dL_law_1568 : decode cL_law 1568 = .ok (.aload_n 1, 1) := by decide +kernel
theorem dL_law_1569 : decode cL_law 1569 = .ok (.aload_n 0, 1) := by decide +kernel
theorem dL_law_1570 : decode cL_law 1570 = .ok (.iload_n 3, 1) := by decide +kernel
theorem dL_law_1571 : decode cL_law 1571 = .ok (.iconst 1, 1) := by decide +kernel
theorem dL_law_1572 : decode cL_law 1572 = .ok (.iadd, 1) := by decide +kernel
theorem dL_law_1573 : decode cL_law 1573 = .ok (.iaload, 1) := by decide +kernel
theorem dL_law_1574 : decode cL_law 1574 = .ok (.aload_n 0, 1) := by decide +kernel
theorem dL_law_1575 : decode cL_law 1575 = .ok (.iload_n 3, 1) := by decide +kernel
theorem dL_law_1576 : decode cL_law 1576 = .ok (.iconst 2, 1) := by decide +kernel
theorem dL_law_1577 : decode cL_law 1577 = .ok (.iadd, 1) := by decide +kernel
theorem dL_law_1578 : decode cL_law 1578 = .ok (.iaload, 1) := by decide +kernel
theorem dL_law_1579 : decode cL_law 1579 = .ok (.invokevirtual 218, 3) := by decide +kernel
theorem dL_law_1582 : decode cL_law 1582 = .ok (.aload_n 2, 1) := by decide +kernel
theorem dL_law_1583 : decode cL_law 1583 = .ok (.aload_n 0, 1) := by decide +kernel
theorem dL_law_1584 : decode cL_law 1584 = .ok (.iload_n 3, 1) := by decide +kernel
theorem dL_law_1585 : decode cL_law 1585 = .ok (.iconst 1, 1) := by decide +kernel
theorem dL_law_1586 : decode cL_law 1586 = .ok (.iadd, 1) := by decide +kernel
theorem dL_law_1587 : decode cL_law 1587 = .ok (.iaload, 1) := by decide +kernel
theorem dL_law_1588 : decode cL_law 1588 = .ok (.aload_n 0, 1) := by decide +kernel
theorem dL_law_1589 : decode cL_law 1589 = .ok (.iload_n 3, 1) := by decide +kernel
theorem dL_law_1590 : decode cL_law 1590 = .ok (.iconst 2, 1) := by decide +kernel
theorem dL_law_1591 : decode cL_law 1591 = .ok (.iadd, 1) := by decide +kernel
theorem dL_law_1592 : decode cL_law 1592 = .ok (.iaload, 1) := by decide +kernel
theorem dL_law_1593 : decode cL_law 1593 = .ok (.invokevirtual 221, 3) := by decide +kernel
theorem dL_law_1596 : decode cL_law 1596 = .ok (.if_icmp .eq 799, 3) := by decide +kernel
theorem dL_law_1601 : decode cL_law 1601 = .ok (.aload_n 1, 1) := by decide +kernel
theorem dL_law_1602 : decode cL_law 1602 = .ok (.aload_n 0, 1) := by decide +kernel
theorem dL_law_1603 : decode cL_law 1603 = .ok (.iload_n 3, 1) := by decide +kernel
theorem dL_law_1604 : decode cL_law 1604 = .ok (.iconst 1, 1) := by decide +kernel
theorem dL_law_1605 : decode cL_law 1605 = .ok (.iadd, 1) := by decide +kernel
theorem dL_law_1606 : decode cL_law 1606 = .ok (.iaload, 1) := by decide +kernel
theorem dL_law_1607 : decode cL_law 1607 = .ok (.aload_n 0, 1) := by decide +kernel
theorem dL_law_1608 : decode cL_law 1608 = .ok (.iload_n 3, 1) := by decide +kernel
theorem dL_law_1609 : decode cL_law 1609 = .ok (.iconst 2, 1) := by decide +kernel
theorem dL_law_1610 : decode cL_law 1610 = .ok (.iadd, 1) := by decide +kernel
theorem dL_law_1611 : decode cL_law 1611 = .ok (.iaload, 1) := by decide +kernel
theorem dL_law_1612 : decode cL_law 1612 = .ok (.invokevirtual 222, 3) := by decide +kernel
theorem dL_law_1615 : decode cL_law 1615 = .ok (.aload_n 2, 1) := by decide +kernel
theorem dL_law_1616 : decode cL_law 1616 = .ok (.aload_n 0, 1) := by decide +kernel
theorem dL_law_1617 : decode cL_law 1617 = .ok (.iload_n 3, 1) := by decide +kernel
theorem dL_law_1618 : decode cL_law 1618 = .ok (.iconst 1, 1) := by decide +kernel
theorem dL_law_1619 : decode cL_law 1619 = .ok (.iadd, 1) := by decide +kernel
theorem dL_law_1620 : decode cL_law 1620 = .ok (.iaload, 1) := by decide +kernel
theorem dL_law_1621 : decode cL_law 1621 = .ok (.aload_n 0, 1) := by decide +kernel
theorem dL_law_1622 : decode cL_law 1622 = .ok (.iload_n 3, 1) := by decide +kernel
theorem dL_law_1623 : decode cL_law 1623 = .ok (.iconst 2, 1) := by decide +kernel
theorem dL_law_1624 : decode cL_law 1624 = .ok (.iadd, 1) := by decide +kernel
theorem dL_law_1625 : decode cL_law 1625 = .ok (.iaload, 1) := by decide +kernel
theorem dL_law_1626 : decode cL_law 1626 = .ok (.invokevirtual 225, 3) := by decide +kernel
theorem dL_law_1629 : decode cL_law 1629 = .ok (.if_icmp .eq 766, 3) := by decide +kernel
theorem dL_law_1634 : decode cL_law 1634 = .ok (.aload_n 1, 1) := by decide +kernel
theorem dL_law_1635 : decode cL_law 1635 = .ok (.aload_n 0, 1) := by decide +kernel
theorem dL_law_1636 : decode cL_law 1636 = .ok (.iload_n 3, 1) := by decide +kernel
theorem dL_law_1637 : decode cL_law 1637 = .ok (.iconst 1, 1) := by decide +kernel
theorem dL_law_1638 : decode cL_law 1638 = .ok (.iadd, 1) := by decide +kernel
theorem dL_law_1639 : decode cL_law 1639 = .ok (.iaload, 1) := by decide +kernel
theorem dL_law_1640 : decode cL_law 1640 = .ok (.aload_n 0, 1) := by decide +kernel
theorem dL_law_1641 : decode cL_law 1641 = .ok (.iload_n 3, 1) := by decide +kernel
theorem dL_law_1642 : decode cL_law 1642 = .ok (.iconst 2, 1) := by decide +kernel
theorem dL_law_1643 : decode cL_law 1643 = .ok (.iadd, 1) := by decide +kernel
theorem dL_law_1644 : decode cL_law 1644 = .ok (.iaload, 1) := by decide +kernel
theorem dL_law_1645 : decode cL_law 1645 = .ok (.invokevirtual 226, 3) := by decide +kernel
theorem dL_law_1648 : decode cL_law 1648 = .ok (.aload_n 2, 1) := by decide +kernel
theorem dL_law_1649 : decode cL_law 1649 = .ok (.aload_n 0, 1) := by decide +kernel
theorem dL_law_1650 : decode cL_law 1650 = .ok (.iload_n 3, 1) := by decide +kernel
theorem dL_law_1651 : decode cL_law 1651 = .ok (.iconst 1, 1) := by decide +kernel
theorem dL_law_1652 : decode cL_law 1652 = .ok (.iadd, 1) := by decide +kernel
theorem dL_law_1653 : decode cL_law 1653 = .ok (.iaload, 1) := by decide +kernel
theorem dL_law_1654 : decode cL_law 1654 = .ok (.aload_n 0, 1) := by decide +kernel
theorem dL_law_1655 : decode cL_law 1655 = .ok (.iload_n 3, 1) := by decide +kernel
theorem dL_law_1656 : decode cL_law 1656 = .ok (.iconst 2, 1) := by decide +kernel
theorem dL_law_1657 : decode cL_law 1657 = .ok (.iadd, 1) := by decide +kernel
theorem dL_law_1658 : decode cL_law 1658 = .ok (.iaload, 1) := by decide +kernel
theorem dL_law_1659 : decode cL_law 1659 = .ok (.invokevirtual 229, 3) := by decide +kernel
theorem dL_law_1662 : decode cL_law 1662 = .ok (.if_icmp .eq 733, 3) := by decide +kernel
theorem dL_law_1667 : decode cL_law 1667 = .ok (.aload_n 1, 1) := by decide +kernel
theorem dL_law_1668 : decode cL_law 1668 = .ok (.aload_n 0, 1) := by decide +kernel
theorem dL_law_1669 : decode cL_law 1669 = .ok (.iload_n 3, 1) := by decide +kernel
theorem dL_law_1670 : decode cL_law 1670 = .ok (.iconst 1, 1) := by decide +kernel
theorem dL_law_1671 : decode cL_law 1671 = .ok (.iadd, 1) := by decide +kernel
theorem dL_law_1672 : decode cL_law 1672 = .ok (.iaload, 1) := by decide +kernel
theorem dL_law_1673 : decode cL_law 1673 = .ok (.invokevirtual 230, 3) := by decide +kernel
theorem dL_law_1676 : decode cL_law 1676 = .ok (.aload_n 2, 1) := by decide +kernel
theorem dL_law_1677 : decode cL_law 1677 = .ok (.aload_n 0, 1) := by decide +kernel
theorem dL_law_1678 : decode cL_law 1678 = .ok (.iload_n 3, 1) := by decide +kernel
theorem dL_law_1679 : decode cL_law 1679 = .ok (.iconst 1, 1) := by decide +kernel
theorem dL_law_1680 : decode cL_law 1680 = .ok (.iadd, 1) := by decide +kernel
theorem dL_law_1681 : decode cL_law 1681 = .ok (.iaload, 1) := by decide +kernel
theorem dL_law_1682 : decode cL_law 1682 = .ok (.invokevirtual 233, 3) := by decide +kernel
theorem dL_law_1685 : decode cL_law 1685 = .ok (.if_icmp .eq 710, 3) := by decide +kernel
theorem dL_law_1690 : decode cL_law 1690 = .ok (.aload_n 1, 1) := by decide +kernel
theorem dL_law_1691 : decode cL_law 1691 = .ok (.aload_n 0, 1) := by decide +kernel
theorem dL_law_1692 : decode cL_law 1692 = .ok (.iload_n 3, 1) := by decide +kernel
theorem dL_law_1693 : decode cL_law 1693 = .ok (.iconst 1, 1) := by decide +kernel
theorem dL_law_1694 : decode cL_law 1694 = .ok (.iadd, 1) := by decide +kernel
theorem dL_law_1695 : decode cL_law 1695 = .ok (.iaload, 1) := by decide +kernel
theorem dL_law_1696 : decode cL_law 1696 = .ok (.invokevirtual 234, 3) := by decide +kernel
theorem dL_law_1699 : decode cL_law 1699 = .ok (.aload_n 2, 1) := by decide +kernel
theorem dL_law_1700 : decode cL_law 1700 = .ok (.aload_n 0, 1) := by decide +kernel
theorem dL_law_1701 : decode cL_law 1701 = .ok (.iload_n 3, 1) := by decide +kernel
theorem dL_law_1702 : decode cL_law 1702 = .ok (.iconst 1, 1) := by decide +kernel
theorem dL_law_1703 : decode cL_law 1703 = .ok (.iadd, 1) := by decide +kernel
theorem dL_law_1704 : decode cL_law 1704 = .ok (.iaload, 1) := by decide +kernel
theorem dL_law_1705 : decode cL_law 1705 = .ok (.invokevirtual 237, 3) := by decide +kernel
theorem dL_law_1708 : decode cL_law 1708 = .ok (.if_icmp .eq 687, 3) := by decide +kernel
theorem dL_law_1713 : decode cL_law 1713 = .ok (.aload_n 1, 1) := by decide +kernel
theorem dL_law_1714 : decode cL_law 1714 = .ok (.invokevirtual 238, 3) := by decide +kernel
theorem dL_law_1717 : decode cL_law 1717 = .ok (.aload_n 2, 1) := by decide +kernel
theorem dL_law_1718 : decode cL_law 1718 = .ok (.invokevirtual 241, 3) := by decide +kernel
theorem dL_law_1721 : decode cL_law 1721 = .ok (.if_icmp .eq 674, 3) := by decide +kernel
theorem dL_law_1726 : decode cL_law 1726 = .ok (.aload_n 1, 1) := by decide +kernel
theorem dL_law_1727 : decode cL_law 1727 = .ok (.aload_n 0, 1) := by decide +kernel
theorem dL_law_1728 : decode cL_law 1728 = .ok (.iload_n 3, 1) := by decide +kernel
theorem dL_law_1729 : decode cL_law 1729 = .ok (.iconst 1, 1) := by decide +kernel
theorem dL_law_1730 : decode cL_law 1730 = .ok (.iadd, 1) := by decide +kernel
theorem dL_law_1731 : decode cL_law 1731 = .ok (.iaload, 1) := by decide +kernel
theorem dL_law_1732 : decode cL_law 1732 = .ok (.invokevirtual 242, 3) := by decide +kernel
theorem dL_law_1735 : decode cL_law 1735 = .ok (.aload_n 2, 1) := by decide +kernel
theorem dL_law_1736 : decode cL_law 1736 = .ok (.aload_n 0, 1) := by decide +kernel
theorem dL_law_1737 : decode cL_law 1737 = .ok (.iload_n 3, 1) := by decide +kernel
theorem dL_law_1738 : decode cL_law 1738 = .ok (.iconst 1, 1) := by decide +kernel
theorem dL_law_1739 : decode cL_law 1739 = .ok (.iadd, 1) := by decide +kernel
theorem dL_law_1740 : decode cL_law 1740 = .ok (.iaload, 1) := by decide +kernel
theorem dL_law_1741 : decode cL_law 1741 = .ok (.invokevirtual 245, 3) := by decide +kernel
theorem dL_law_1744 : decode cL_law 1744 = .ok (.if_icmp .eq 651, 3) := by decide +kernel
theorem dL_law_1749 : decode cL_law 1749 = .ok (.aload_n 1, 1) := by decide +kernel
theorem dL_law_1750 : decode cL_law 1750 = .ok (.aload_n 0, 1) := by decide +kernel
theorem dL_law_1751 : decode cL_law 1751 = .ok (.iload_n 3, 1) := by decide +kernel
theorem dL_law_1752 : decode cL_law 1752 = .ok (.iconst 1, 1) := by decide +kernel
theorem dL_law_1753 : decode cL_law 1753 = .ok (.iadd, 1) := by decide +kernel
theorem dL_law_1754 : decode cL_law 1754 = .ok (.iaload, 1) := by decide +kernel
theorem dL_law_1755 : decode cL_law 1755 = .ok (.aload_n 0, 1) := by decide +kernel
theorem dL_law_1756 : decode cL_law 1756 = .ok (.iload_n 3, 1) := by decide +kernel
theorem dL_law_1757 : decode cL_law 1757 = .ok (.iconst 2, 1) := by decide +kernel
theorem dL_law_1758 : decode cL_law 1758 = .ok (.iadd, 1) := by decide +kernel
theorem dL_law_1759 : decode cL_law 1759 = .ok (.iaload, 1) := by decide +kernel
theorem dL_law_1760 : decode cL_law 1760 = .ok (.invokevirtual 246, 3) := by decide +kernel
theorem dL_law_1763 : decode cL_law 1763 = .ok (.aload_n 2, 1) := by decide +kernel
theorem dL_law_1764 : decode cL_law 1764 = .ok (.aload_n 0, 1) := by decide +kernel
theorem dL_law_1765 : decode cL_law 1765 = .ok (.iload_n 3, 1) := by decide +kernel
theorem dL_law_1766 : decode cL_law 1766 = .ok (.iconst 1, 1) := by decide +kernel
theorem dL_law_1767 : decode cL_law 1767 = .ok (.iadd, 1) := by decide +kernel
theorem dL_law_1768 : decode cL_law 1768 = .ok (.iaload, 1) := by decide +kernel
theorem dL_law_1769 : decode cL_law 1769 = .ok (.aload_n 0, 1) := by decide +kernel
theorem dL_law_1770 : decode cL_law 1770 = .ok (.iload_n 3, 1) := by decide +kernel
theorem dL_law_1771 : decode cL_law 1771 = .ok (.iconst 2, 1) := by decide +kernel
theorem dL_law_1772 : decode cL_law 1772 = .ok (.iadd, 1) := by decide +kernel
theorem dL_law_1773 : decode cL_law 1773 = .ok (.iaload, 1) := by decide +kernel
theorem dL_law_1774 : decode cL_law 1774 = .ok (.invokevirtual 249, 3) := by decide +kernel
theorem dL_law_1777 : decode cL_law 1777 = .ok (.if_icmp .eq 618, 3) := by decide +kernel
theorem dL_law_1782 : decode cL_law 1782 = .ok (.aload_n 1, 1) := by decide +kernel
theorem dL_law_1783 : decode cL_law 1783 = .ok (.aload_n 0, 1) := by decide +kernel
theorem dL_law_1784 : decode cL_law 1784 = .ok (.iload_n 3, 1) := by decide +kernel
theorem dL_law_1785 : decode cL_law 1785 = .ok (.iconst 1, 1) := by decide +kernel
theorem dL_law_1786 : decode cL_law 1786 = .ok (.iadd, 1) := by decide +kernel
theorem dL_law_1787 : decode cL_law 1787 = .ok (.iaload, 1) := by decide +kernel
theorem dL_law_1788 : decode cL_law 1788 = .ok (.aload_n 0, 1) := by decide +kernel
theorem dL_law_1789 : decode cL_law 1789 = .ok (.iload_n 3, 1) := by decide +kernel
theorem dL_law_1790 : decode cL_law 1790 = .ok (.iconst 2, 1) := by decide +kernel
theorem dL_law_1791 : decode cL_law 1791 = .ok (.iadd, 1) := by decide +kernel
theorem dL_law_1792 : decode cL_law 1792 = .ok (.iaload, 1) := by decide +kernel
theorem dL_law_1793 : decode cL_law 1793 = .ok (.invokevirtual 250, 3) := by decide +kernel
theorem dL_law_1796 : decode cL_law 1796 = .ok (.aload_n 2, 1) := by decide +kernel
theorem dL_law_1797 : decode cL_law 1797 = .ok (.aload_n 0, 1) := by decide +kernel
theorem dL_law_1798 : decode cL_law 1798 = .ok (.iload_n 3, 1) := by decide +kernel
theorem dL_law_1799 : decode cL_law 1799 = .ok (.iconst 1, 1) := by decide +kernel
theorem dL_law_1800 : decode cL_law 1800 = .ok (.iadd, 1) := by decide +kernel
theorem dL_law_1801 : decode cL_law 1801 = .ok (.iaload, 1) := by decide +kernel
theorem dL_law_1802 : decode cL_law 1802 = .ok (.aload_n 0, 1) := by decide +kernel
theorem dL_law_1803 : decode cL_law 1803 = .ok (.iload_n 3, 1) := by decide +kernel
theorem dL_law_1804 : decode cL_law 1804 = .ok (.iconst 2, 1) := by decide +kernel
theorem dL_law_1805 : decode cL_law 1805 = .ok (.iadd, 1) := by decide +kernel
theorem dL_law_1806 : decode cL_law 1806 = .ok (.iaload, 1) := by decide +kernel
theorem dL_law_1807 : decode cL_law 1807 = .ok (.invokevirtual 253, 3) := by decide +kernel
theorem dL_law_1810 : decode cL_law 1810 = .ok (.if_icmp .eq 585, 3) := by decide +kernel
theorem dL_law_1815 : decode cL_law 1815 = .ok (.aload_n 1, 1) := by decide +kernel
theorem dL_law_1816 : decode cL_law 1816 = .ok (.aload_n 0, 1) := by decide +kernel
theorem dL_law_1817 : decode cL_law 1817 = .ok (.iload_n 3, 1) := by decide +kernel
theorem dL_law_1818 : decode cL_law 1818 = .ok (.iconst 1, 1) := by decide +kernel
theorem dL_law_1819 : decode cL_law 1819 = .ok (.iadd, 1) := by decide +kernel
theorem dL_law_1820 : decode cL_law 1820 = .ok (.iaload, 1) := by decide +kernel
theorem dL_law_1821 : decode cL_law 1821 = .ok (.aload_n 0, 1) := by decide +kernel
theorem dL_law_1822 : decode cL_law 1822 = .ok (.iload_n 3, 1) := by decide +kernel
theorem dL_law_1823 : decode cL_law 1823 = .ok (.iconst 2, 1) := by decide +kernel
theorem dL_law_1824 : decode cL_law 1824 = .ok (.iadd, 1) := by decide +kernel
theorem dL_law_1825 : decode cL_law 1825 = .ok (.iaload, 1) := by decide +kernel
theorem dL_law_1826 : decode cL_law 1826 = .ok (.aload_n 0, 1) := by decide +kernel
theorem dL_law_1827 : decode cL_law 1827 = .ok (.iload_n 3, 1) := by decide +kernel
theorem dL_law_1828 : decode cL_law 1828 = .ok (.iconst 3, 1) := by decide +kernel
theorem dL_law_1829 : decode cL_law 1829 = .ok (.iadd, 1) := by decide +kernel
theorem dL_law_1830 : decode cL_law 1830 = .ok (.iaload, 1) := by decide +kernel
theorem dL_law_1831 : decode cL_law 1831 = .ok (.aload_n 0, 1) := by decide +kernel
theorem dL_law_1832 : decode cL_law 1832 = .ok (.iload_n 3, 1) := by decide +kernel
theorem dL_law_1833 : decode cL_law 1833 = .ok (.iconst 4, 1) := by decide +kernel
theorem dL_law_1834 : decode cL_law 1834 = .ok (.iadd, 1) := by decide +kernel
theorem dL_law_1835 : decode cL_law 1835 = .ok (.iaload, 1) := by decide +kernel
theorem dL_law_1836 : decode cL_law 1836 = .ok (.invokevirtual 254, 3) := by decide +kernel
theorem dL_law_1839 : decode cL_law 1839 = .ok (.aload_n 2, 1) := by decide +kernel
theorem dL_law_1840 : decode cL_law 1840 = .ok (.aload_n 0, 1) := by decide +kernel
theorem dL_law_1841 : decode cL_law 1841 = .ok (.iload_n 3, 1) := by decide +kernel
theorem dL_law_1842 : decode cL_law 1842 = .ok (.iconst 1, 1) := by decide +kernel
theorem dL_law_1843 : decode cL_law 1843 = .ok (.iadd, 1) := by decide +kernel
theorem dL_law_1844 : decode cL_law 1844 = .ok (.iaload, 1) := by decide +kernel
theorem dL_law_1845 : decode cL_law 1845 = .ok (.aload_n 0, 1) := by decide +kernel
theorem dL_law_1846 : decode cL_law 1846 = .ok (.iload_n 3, 1) := by decide +kernel
theorem dL_law_1847 : decode cL_law 1847 = .ok (.iconst 2, 1) := by decide +kernel
theorem dL_law_1848 : decode cL_law 1848 = .ok (.iadd, 1) := by decide +kernel
theorem dL_law_1849 : decode cL_law 1849 = .ok (.iaload, 1) := by decide +kernel
theorem dL_law_1850 : decode cL_law 1850 = .ok (.aload_n 0, 1) := by decide +kernel
theorem dL_law_1851 : decode cL_law 1851 = .ok (.iload_n 3, 1) := by decide +kernel
theorem dL_law_1852 : decode cL_law 1852 = .ok (.iconst 3, 1) := by decide +kernel
theorem dL_law_1853 : decode cL_law 1853 = .ok (.iadd, 1) := by decide +kernel
theorem dL_law_1854 : decode cL_law 1854 = .ok (.iaload, 1) := by decide +kernel
theorem dL_law_1855 : decode cL_law 1855 = .ok (.aload_n 0, 1) := by decide +kernel
theorem dL_law_1856 : decode cL_law 1856 = .ok (.iload_n 3, 1) := by decide +kernel
theorem dL_law_1857 : decode cL_law 1857 = .ok (.iconst 4, 1) := by decide +kernel
theorem dL_law_1858 : decode cL_law 1858 = .ok (.iadd, 1) := by decide +kernel
theorem dL_law_1859 : decode cL_law 1859 = .ok (.iaload, 1) := by decide +kernel
theorem dL_law_1860 : decode cL_law 1860 = .ok (.invokevirtual 258, 3) := by decide +kernel
theorem dL_law_1863 : decode cL_law 1863 = .ok (.if_icmp .eq 532, 3) := by decide +kernel
theorem dL_law_1868 : decode cL_law 1868 = .ok (.aload_n 1, 1) := by decide +kernel
theorem dL_law_1869 : decode cL_law 1869 = .ok (.aload_n 0, 1) := by decide +kernel
theorem dL_law_1870 : decode cL_law 1870 = .ok (.iload_n 3, 1) := by decide +kernel
theorem dL_law_1871 : decode cL_law 1871 = .ok (.iconst 1, 1) := by decide +kernel
theorem dL_law_1872 : decode cL_law 1872 = .ok (.iadd, 1) := by decide +kernel
theorem dL_law_1873 : decode cL_law 1873 = .ok (.iaload, 1) := by decide +kernel
theorem dL_law_1874 : decode cL_law 1874 = .ok (.aload_n 0, 1) := by decide +kernel
theorem dL_law_1875 : decode cL_law 1875 = .ok (.iload_n 3, 1) := by decide +kernel
theorem dL_law_1876 : decode cL_law 1876 = .ok (.iconst 2, 1) := by decide +kernel
theorem dL_law_1877 : decode cL_law 1877 = .ok (.iadd, 1) := by decide +kernel
theorem dL_law_1878 : decode cL_law 1878 = .ok (.iaload, 1) := by decide +kernel
theorem dL_law_1879 : decode cL_law 1879 = .ok (.aload_n 0, 1) := by decide +kernel
theorem dL_law_1880 : decode cL_law 1880 = .ok (.iload_n 3, 1) := by decide +kernel
theorem dL_law_1881 : decode cL_law 1881 = .ok (.iconst 3, 1) := by decide +kernel
theorem dL_law_1882 : decode cL_law 1882 = .ok (.iadd, 1) := by decide +kernel
theorem dL_law_1883 : decode cL_law 1883 = .ok (.iaload, 1) := by decide +kernel
theorem dL_law_1884 : decode cL_law 1884 = .ok (.invokevirtual 259, 3) := by decide +kernel
theorem dL_law_1887 : decode cL_law 1887 = .ok (.aload_n 2, 1) := by decide +kernel
theorem dL_law_1888 : decode cL_law 1888 = .ok (.aload_n 0, 1) := by decide +kernel
theorem dL_law_1889 : decode cL_law 1889 = .ok (.iload_n 3, 1) := by decide +kernel
theorem dL_law_1890 : decode cL_law 1890 = .ok (.iconst 1, 1) := by decide +kernel
theorem dL_law_1891 : decode cL_law 1891 = .ok (.iadd, 1) := by decide +kernel
theorem dL_law_1892 : decode cL_law 1892 = .ok (.iaload, 1) := by decide +kernel
theorem dL_law_1893 : decode cL_law 1893 = .ok (.aload_n 0, 1) := by decide +kernel
theorem dL_law_1894 : decode cL_law 1894 = .ok (.iload_n 3, 1) := by decide +kernel
theorem dL_law_1895 : decode cL_law 1895 = .ok (.iconst 2, 1) := by decide +kernel
theorem dL_law_1896 : decode cL_law 1896 = .ok (.iadd, 1) := by decide +kernel
theorem dL_law_1897 : decode cL_law 1897 = .ok (.iaload, 1) := by decide +kernel
theorem dL_law_1898 : decode cL_law 1898 = .ok (.aload_n 0, 1) := by decide +kernel
theorem dL_law_1899 : decode cL_law 1899 = .ok (.iload_n 3, 1) := by decide +kernel
theorem dL_law_1900 : decode cL_law 1900 = .ok (.iconst 3, 1) := by decide +kernel
theorem dL_law_1901 : decode cL_law 1901 = .ok (.iadd, 1) := by decide +kernel
theorem dL_law_1902 : decode cL_law 1902 = .ok (.iaload, 1) := by decide +kernel
theorem dL_law_1903 : decode cL_law 1903 = .ok (.invokevirtual 263, 3) := by decide +kernel
theorem dL_law_1906 : decode cL_law 1906 = .ok (.lcmp, 1) := by decide +kernel
theorem dL_law_1907 : decode cL_law 1907 = .ok (.ifCond .eq 488, 3) := by decide +kernel
theorem dL_law_1912 : decode cL_law 1912 = .ok (.aload_n 1, 1) := by decide +kernel
theorem dL_law_1913 : decode cL_law 1913 = .ok (.aload_n 0, 1) := by decide +kernel
theorem dL_law_1914 : decode cL_law 1914 = .ok (.iload_n 3, 1) := by decide +kernel
theorem dL_law_1915 : decode cL_law 1915 = .ok (.iconst 1, 1) := by decide +kernel
theorem dL_law_1916 : decode cL_law 1916 = .ok (.iadd, 1) := by decide +kernel
theorem dL_law_1917 : decode cL_law 1917 = .ok (.iaload, 1) := by decide +kernel
theorem dL_law_1918 : decode cL_law 1918 = .ok (.aload_n 0, 1) := by decide +kernel
theorem dL_law_1919 : decode cL_law 1919 = .ok (.iload_n 3, 1) := by decide +kernel
theorem dL_law_1920 : decode cL_law 1920 = .ok (.iconst 2, 1) := by decide +kernel
theorem dL_law_1921 : decode cL_law 1921 = .ok (.iadd, 1) := by decide +kernel
theorem dL_law_1922 : decode cL_law 1922 = .ok (.iaload, 1) := by decide +kernel
theorem dL_law_1923 : decode cL_law 1923 = .ok (.invokevirtual 264, 3) := by decide +kernel
theorem dL_law_1926 : decode cL_law 1926 = .ok (.aload_n 2, 1) := by decide +kernel
theorem dL_law_1927 : decode cL_law 1927 = .ok (.aload_n 0, 1) := by decide +kernel
theorem dL_law_1928 : decode cL_law 1928 = .ok (.iload_n 3, 1) := by decide +kernel
theorem dL_law_1929 : decode cL_law 1929 = .ok (.iconst 1, 1) := by decide +kernel
theorem dL_law_1930 : decode cL_law 1930 = .ok (.iadd, 1) := by decide +kernel
theorem dL_law_1931 : decode cL_law 1931 = .ok (.iaload, 1) := by decide +kernel
theorem dL_law_1932 : decode cL_law 1932 = .ok (.aload_n 0, 1) := by decide +kernel
theorem dL_law_1933 : decode cL_law 1933 = .ok (.iload_n 3, 1) := by decide +kernel
theorem dL_law_1934 : decode cL_law 1934 = .ok (.iconst 2, 1) := by decide +kernel
theorem dL_law_1935 : decode cL_law 1935 = .ok (.iadd, 1) := by decide +kernel
theorem dL_law_1936 : decode cL_law 1936 = .ok (.iaload, 1) := by decide +kernel
theorem dL_law_1937 : decode cL_law 1937 = .ok (.invokevirtual 268, 3) := by decide +kernel
theorem dL_law_1940 : decode cL_law 1940 = .ok (.lcmp, 1) := by decide +kernel
theorem dL_law_1941 : decode cL_law 1941 = .ok (.ifCond .eq 454, 3) := by decide +kernel
theorem dL_law_1946 : decode cL_law 1946 = .ok (.aload_n 1, 1) := by decide +kernel
theorem dL_law_1947 : decode cL_law 1947 = .ok (.aload_n 0, 1) := by decide +kernel
theorem dL_law_1948 : decode cL_law 1948 = .ok (.iload_n 3, 1) := by decide +kernel
theorem dL_law_1949 : decode cL_law 1949 = .ok (.iconst 1, 1) := by decide +kernel
theorem dL_law_1950 : decode cL_law 1950 = .ok (.iadd, 1) := by decide +kernel
theorem dL_law_1951 : decode cL_law 1951 = .ok (.iaload, 1) := by decide +kernel
theorem dL_law_1952 : decode cL_law 1952 = .ok (.aload_n 0, 1) := by decide +kernel
theorem dL_law_1953 : decode cL_law 1953 = .ok (.iload_n 3, 1) := by decide +kernel
theorem dL_law_1954 : decode cL_law 1954 = .ok (.iconst 2, 1) := by decide +kernel
theorem dL_law_1955 : decode cL_law 1955 = .ok (.iadd, 1) := by decide +kernel
theorem dL_law_1956 : decode cL_law 1956 = .ok (.iaload, 1) := by decide +kernel
theorem dL_law_1957 : decode cL_law 1957 = .ok (.invokevirtual 269, 3) := by decide +kernel
theorem dL_law_1960 : decode cL_law 1960 = .ok (.aload_n 2, 1) := by decide +kernel
theorem dL_law_1961 : decode cL_law 1961 = .ok (.aload_n 0, 1) := by decide +kernel
theorem dL_law_1962 : decode cL_law 1962 = .ok (.iload_n 3, 1) := by decide +kernel
theorem dL_law_1963 : decode cL_law 1963 = .ok (.iconst 1, 1) := by decide +kernel
theorem dL_law_1964 : decode cL_law 1964 = .ok (.iadd, 1) := by decide +kernel
theorem dL_law_1965 : decode cL_law 1965 = .ok (.iaload, 1) := by decide +kernel
theorem dL_law_1966 : decode cL_law 1966 = .ok (.aload_n 0, 1) := by decide +kernel
theorem dL_law_1967 : decode cL_law 1967 = .ok (.iload_n 3, 1) := by decide +kernel
theorem dL_law_1968 : decode cL_law 1968 = .ok (.iconst 2, 1) := by decide +kernel
theorem dL_law_1969 : decode cL_law 1969 = .ok (.iadd, 1) := by decide +kernel
theorem dL_law_1970 : decode cL_law 1970 = .ok (.iaload, 1) := by decide +kernel
theorem dL_law_1971 : decode cL_law 1971 = .ok (.invokevirtual 272, 3) := by decide +kernel
theorem dL_law_1974 : decode cL_law 1974 = .ok (.if_icmp .eq 421, 3) := by decide +kernel
theorem dL_law_1979 : decode cL_law 1979 = .ok (.aload_n 1, 1) := by decide +kernel
theorem dL_law_1980 : decode cL_law 1980 = .ok (.aload_n 0, 1) := by decide +kernel
theorem dL_law_1981 : decode cL_law 1981 = .ok (.iload_n 3, 1) := by decide +kernel
theorem dL_law_1982 : decode cL_law 1982 = .ok (.iconst 1, 1) := by decide +kernel
theorem dL_law_1983 : decode cL_law 1983 = .ok (.iadd, 1) := by decide +kernel
theorem dL_law_1984 : decode cL_law 1984 = .ok (.iaload, 1) := by decide +kernel
theorem dL_law_1985 : decode cL_law 1985 = .ok (.aload_n 0, 1) := by decide +kernel
theorem dL_law_1986 : decode cL_law 1986 = .ok (.iload_n 3, 1) := by decide +kernel
theorem dL_law_1987 : decode cL_law 1987 = .ok (.iconst 2, 1) := by decide +kernel
theorem dL_law_1988 : decode cL_law 1988 = .ok (.iadd, 1) := by decide +kernel
theorem dL_law_1989 : decode cL_law 1989 = .ok (.iaload, 1) := by decide +kernel
theorem dL_law_1990 : decode cL_law 1990 = .ok (.invokevirtual 273, 3) := by decide +kernel
theorem dL_law_1993 : decode cL_law 1993 = .ok (.aload_n 2, 1) := by decide +kernel
theorem dL_law_1994 : decode cL_law 1994 = .ok (.aload_n 0, 1) := by decide +kernel
theorem dL_law_1995 : decode cL_law 1995 = .ok (.iload_n 3, 1) := by decide +kernel
theorem dL_law_1996 : decode cL_law 1996 = .ok (.iconst 1, 1) := by decide +kernel
theorem dL_law_1997 : decode cL_law 1997 = .ok (.iadd, 1) := by decide +kernel
theorem dL_law_1998 : decode cL_law 1998 = .ok (.iaload, 1) := by decide +kernel
theorem dL_law_1999 : decode cL_law 1999 = .ok (.aload_n 0, 1) := by decide +kernel
theorem dL_law_2000 : decode cL_law 2000 = .ok (.iload_n 3, 1) := by decide +kernel
theorem dL_law_2001 : decode cL_law 2001 = .ok (.iconst 2, 1) := by decide +kernel
theorem dL_law_2002 : decode cL_law 2002 = .ok (.iadd, 1) := by decide +kernel
theorem dL_law_2003 : decode cL_law 2003 = .ok (.iaload, 1) := by decide +kernel
theorem dL_law_2004 : decode cL_law 2004 = .ok (.invokevirtual 276, 3) := by decide +kernel
theorem dL_law_2007 : decode cL_law 2007 = .ok (.if_icmp .eq 388, 3) := by decide +kernel
theorem dL_law_2012 : decode cL_law 2012 = .ok (.aload_n 1, 1) := by decide +kernel
theorem dL_law_2013 : decode cL_law 2013 = .ok (.invokevirtual 277, 3) := by decide +kernel
theorem dL_law_2016 : decode cL_law 2016 = .ok (.aload_n 2, 1) := by decide +kernel
theorem dL_law_2017 : decode cL_law 2017 = .ok (.invokevirtual 280, 3) := by decide +kernel
theorem dL_law_2020 : decode cL_law 2020 = .ok (.if_icmp .eq 375, 3) := by decide +kernel
theorem dL_law_2025 : decode cL_law 2025 = .ok (.aload_n 1, 1) := by decide +kernel
theorem dL_law_2026 : decode cL_law 2026 = .ok (.invokevirtual 281, 3) := by decide +kernel
theorem dL_law_2029 : decode cL_law 2029 = .ok (.aload_n 2, 1) := by decide +kernel
theorem dL_law_2030 : decode cL_law 2030 = .ok (.invokevirtual 284, 3) := by decide +kernel
theorem dL_law_2033 : decode cL_law 2033 = .ok (.if_icmp .eq 362, 3) := by decide +kernel
theorem dL_law_2038 : decode cL_law 2038 = .ok (.aload_n 1, 1) := by decide +kernel
theorem dL_law_2039 : decode cL_law 2039 = .ok (.aload_n 0, 1) := by decide +kernel
theorem dL_law_2040 : decode cL_law 2040 = .ok (.iload_n 3, 1) := by decide +kernel
theorem dL_law_2041 : decode cL_law 2041 = .ok (.iconst 1, 1) := by decide +kernel
theorem dL_law_2042 : decode cL_law 2042 = .ok (.iadd, 1) := by decide +kernel
theorem dL_law_2043 : decode cL_law 2043 = .ok (.iaload, 1) := by decide +kernel
theorem dL_law_2044 : decode cL_law 2044 = .ok (.aload_n 0, 1) := by decide +kernel
theorem dL_law_2045 : decode cL_law 2045 = .ok (.iload_n 3, 1) := by decide +kernel
theorem dL_law_2046 : decode cL_law 2046 = .ok (.iconst 2, 1) := by decide +kernel
theorem dL_law_2047 : decode cL_law 2047 = .ok (.iadd, 1) := by decide +kernel
theorem dL_law_2048 : decode cL_law 2048 = .ok (.iaload, 1) := by decide +kernel
theorem dL_law_2049 : decode cL_law 2049 = .ok (.invokevirtual 285, 3) := by decide +kernel
theorem dL_law_2052 : decode cL_law 2052 = .ok (.aload_n 2, 1) := by decide +kernel
theorem dL_law_2053 : decode cL_law 2053 = .ok (.aload_n 0, 1) := by decide +kernel
theorem dL_law_2054 : decode cL_law 2054 = .ok (.iload_n 3, 1) := by decide +kernel
theorem dL_law_2055 : decode cL_law 2055 = .ok (.iconst 1, 1) := by decide +kernel
theorem dL_law_2056 : decode cL_law 2056 = .ok (.iadd, 1) := by decide +kernel
theorem dL_law_2057 : decode cL_law 2057 = .ok (.iaload, 1) := by decide +kernel
theorem dL_law_2058 : decode cL_law 2058 = .ok (.aload_n 0, 1) := by decide +kernel
theorem dL_law_2059 : decode cL_law 2059 = .ok (.iload_n 3, 1) := by decide +kernel
theorem dL_law_2060 : decode cL_law 2060 = .ok (.iconst 2, 1) := by decide +kernel
theorem dL_law_2061 : decode cL_law 2061 = .ok (.iadd, 1) := by decide +kernel
theorem dL_law_2062 : decode cL_law 2062 = .ok (.iaload, 1) := by decide +kernel
theorem dL_law_2063 : decode cL_law 2063 = .ok (.invokevirtual 288, 3) := by decide +kernel
theorem dL_law_2066 : decode cL_law 2066 = .ok (.if_icmp .eq 329, 3) := by decide +kernel
theorem dL_law_2071 : decode cL_law 2071 = .ok (.aload_n 1, 1) := by decide +kernel
theorem dL_law_2072 : decode cL_law 2072 = .ok (.aload_n 0, 1) := by decide +kernel
theorem dL_law_2073 : decode cL_law 2073 = .ok (.iload_n 3, 1) := by decide +kernel
theorem dL_law_2074 : decode cL_law 2074 = .ok (.iconst 1, 1) := by decide +kernel
theorem dL_law_2075 : decode cL_law 2075 = .ok (.iadd, 1) := by decide +kernel
theorem dL_law_2076 : decode cL_law 2076 = .ok (.iaload, 1) := by decide +kernel
theorem dL_law_2077 : decode cL_law 2077 = .ok (.aload_n 0, 1) := by decide +kernel
theorem dL_law_2078 : decode cL_law 2078 = .ok (.iload_n 3, 1) := by decide +kernel
theorem dL_law_2079 : decode cL_law 2079 = .ok (.iconst 2, 1) := by decide +kernel
theorem dL_law_2080 : decode cL_law 2080 = .ok (.iadd, 1) := by decide +kernel
theorem dL_law_2081 : decode cL_law 2081 = .ok (.iaload, 1) := by decide +kernel
theorem dL_law_2082 : decode cL_law 2082 = .ok (.aload_n 0, 1) := by decide +kernel
theorem dL_law_2083 : decode cL_law 2083 = .ok (.iload_n 3, 1) := by decide +kernel
theorem dL_law_2084 : decode cL_law 2084 = .ok (.iconst 3, 1) := by decide +kernel
theorem dL_law_2085 : decode cL_law 2085 = .ok (.iadd, 1) := by decide +kernel
theorem dL_law_2086 : decode cL_law 2086 = .ok (.iaload, 1) := by decide +kernel
theorem dL_law_2087 : decode cL_law 2087 = .ok (.invokevirtual 289, 3) := by decide +kernel
theorem dL_law_2090 : decode cL_law 2090 = .ok (.aload_n 2, 1) := by decide +kernel
theorem dL_law_2091 : decode cL_law 2091 = .ok (.aload_n 0, 1) := by decide +kernel
theorem dL_law_2092 : decode cL_law 2092 = .ok (.iload_n 3, 1) := by decide +kernel
theorem dL_law_2093 : decode cL_law 2093 = .ok (.iconst 1, 1) := by decide +kernel
theorem dL_law_2094 : decode cL_law 2094 = .ok (.iadd, 1) := by decide +kernel
theorem dL_law_2095 : decode cL_law 2095 = .ok (.iaload, 1) := by decide +kernel
theorem dL_law_2096 : decode cL_law 2096 = .ok (.aload_n 0, 1) := by decide +kernel
theorem dL_law_2097 : decode cL_law 2097 = .ok (.iload_n 3, 1) := by decide +kernel
theorem dL_law_2098 : decode cL_law 2098 = .ok (.iconst 2, 1) := by decide +kernel
theorem dL_law_2099 : decode cL_law 2099 = .ok (.iadd, 1) := by decide +kernel
theorem dL_law_2100 : decode cL_law 2100 = .ok (.iaload, 1) := by decide +kernel
theorem dL_law_2101 : decode cL_law 2101 = .ok (.aload_n 0, 1) := by decide +kernel
theorem dL_law_2102 : decode cL_law 2102 = .ok (.iload_n 3, 1) := by decide +kernel
theorem dL_law_2103 : decode cL_law 2103 = .ok (.iconst 3, 1) := by decide +kernel
theorem dL_law_2104 : decode cL_law 2104 = .ok (.iadd, 1) := by decide +kernel
theorem dL_law_2105 : decode cL_law 2105 = .ok (.iaload, 1) := by decide +kernel
theorem dL_law_2106 : decode cL_law 2106 = .ok (.invokevirtual 292, 3) := by decide +kernel
theorem dL_law_2109 : decode cL_law 2109 = .ok (.if_icmp .eq 286, 3) := by decide +kernel
theorem dL_law_2114 : decode cL_law 2114 = .ok (.aload_n 1, 1) := by decide +kernel
theorem dL_law_2115 : decode cL_law 2115 = .ok (.aload_n 0, 1) := by decide +kernel
theorem dL_law_2116 : decode cL_law 2116 = .ok (.iload_n 3, 1) := by decide +kernel
theorem dL_law_2117 : decode cL_law 2117 = .ok (.iconst 1, 1) := by decide +kernel
theorem dL_law_2118 : decode cL_law 2118 = .ok (.iadd, 1) := by decide +kernel
theorem dL_law_2119 : decode cL_law 2119 = .ok (.iaload, 1) := by decide +kernel
theorem dL_law_2120 : decode cL_law 2120 = .ok (.aload_n 0, 1) := by decide +kernel
theorem dL_law_2121 : decode cL_law 2121 = .ok (.iload_n 3, 1) := by decide +kernel
theorem dL_law_2122 : decode cL_law 2122 = .ok (.iconst 2, 1) := by decide +kernel
theorem dL_law_2123 : decode cL_law 2123 = .ok (.iadd, 1) := by decide +kernel
theorem dL_law_2124 : decode cL_law 2124 = .ok (.iaload, 1) := by decide +kernel
theorem dL_law_2125 : decode cL_law 2125 = .ok (.invokevirtual 293, 3) := by decide +kernel
theorem dL_law_2128 : decode cL_law 2128 = .ok (.aload_n 2, 1) := by decide +kernel
theorem dL_law_2129 : decode cL_law 2129 = .ok (.aload_n 0, 1) := by decide +kernel
theorem dL_law_2130 : decode cL_law 2130 = .ok (.iload_n 3, 1) := by decide +kernel
theorem dL_law_2131 : decode cL_law 2131 = .ok (.iconst 1, 1) := by decide +kernel
theorem dL_law_2132 : decode cL_law 2132 = .ok (.iadd, 1) := by decide +kernel
theorem dL_law_2133 : decode cL_law 2133 = .ok (.iaload, 1) := by decide +kernel
theorem dL_law_2134 : decode cL_law 2134 = .ok (.aload_n 0, 1) := by decide +kernel
theorem dL_law_2135 : decode cL_law 2135 = .ok (.iload_n 3, 1) := by decide +kernel
theorem dL_law_2136 : decode cL_law 2136 = .ok (.iconst 2, 1) := by decide +kernel
theorem dL_law_2137 : decode cL_law 2137 = .ok (.iadd, 1) := by decide +kernel
theorem dL_law_2138 : decode cL_law 2138 = .ok (.iaload, 1) := by decide +kernel
theorem dL_law_2139 : decode cL_law 2139 = .ok (.invokevirtual 296, 3) := by decide +kernel
theorem dL_law_2142 : decode cL_law 2142 = .ok (.if_icmp .eq 253, 3) := by decide +kernel
theorem dL_law_2147 : decode cL_law 2147 = .ok (.aload_n 1, 1) := by decide +kernel
theorem dL_law_2148 : decode cL_law 2148 = .ok (.aload_n 0, 1) := by decide +kernel
theorem dL_law_2149 : decode cL_law 2149 = .ok (.iload_n 3, 1) := by decide +kernel
theorem dL_law_2150 : decode cL_law 2150 = .ok (.iconst 1, 1) := by decide +kernel
theorem dL_law_2151 : decode cL_law 2151 = .ok (.iadd, 1) := by decide +kernel
theorem dL_law_2152 : decode cL_law 2152 = .ok (.iaload, 1) := by decide +kernel
theorem dL_law_2153 : decode cL_law 2153 = .ok (.invokevirtual 297, 3) := by decide +kernel
theorem dL_law_2156 : decode cL_law 2156 = .ok (.aload_n 2, 1) := by decide +kernel
theorem dL_law_2157 : decode cL_law 2157 = .ok (.aload_n 0, 1) := by decide +kernel
theorem dL_law_2158 : decode cL_law 2158 = .ok (.iload_n 3, 1) := by decide +kernel
theorem dL_law_2159 : decode cL_law 2159 = .ok (.iconst 1, 1) := by decide +kernel
theorem dL_law_2160 : decode cL_law 2160 = .ok (.iadd, 1) := by decide +kernel
theorem dL_law_2161 : decode cL_law 2161 = .ok (.iaload, 1) := by decide +kernel
theorem dL_law_2162 : decode cL_law 2162 = .ok (.invokevirtual 300, 3) := by decide +kernel
theorem dL_law_2165 : decode cL_law 2165 = .ok (.if_icmp .eq 230, 3) := by decide +kernel
theorem dL_law_2170 : decode cL_law 2170 = .ok (.aload_n 1, 1) := by decide +kernel
theorem dL_law_2171 : decode cL_law 2171 = .ok (.aload_n 0, 1) := by decide +kernel
theorem dL_law_2172 : decode cL_law 2172 = .ok (.iload_n 3, 1) := by decide +kernel
theorem dL_law_2173 : decode cL_law 2173 = .ok (.iconst 1, 1) := by decide +kernel
theorem dL_law_2174 : decode cL_law 2174 = .ok (.iadd, 1) := by decide +kernel
theorem dL_law_2175 : decode cL_law 2175 = .ok (.iaload, 1) := by decide +kernel
theorem dL_law_2176 : decode cL_law 2176 = .ok (.invokevirtual 301, 3) := by decide +kernel
theorem dL_law_2179 : decode cL_law 2179 = .ok (.aload_n 2, 1) := by decide +kernel
theorem dL_law_2180 : decode cL_law 2180 = .ok (.aload_n 0, 1) := by decide +kernel
theorem dL_law_2181 : decode cL_law 2181 = .ok (.iload_n 3, 1) := by decide +kernel
theorem dL_law_2182 : decode cL_law 2182 = .ok (.iconst 1, 1) := by decide +kernel
theorem dL_law_2183 : decode cL_law 2183 = .ok (.iadd, 1) := by decide +kernel
theorem dL_law_2184 : decode cL_law 2184 = .ok (.iaload, 1) := by decide +kernel
theorem dL_law_2185 : decode cL_law 2185 = .ok (.invokevirtual 304, 3) := by decide +kernel
theorem dL_law_2188 : decode cL_law 2188 = .ok (.if_icmp .eq 207, 3) := by decide +kernel
theorem dL_law_2193 : decode cL_law 2193 = .ok (.aload_n 1, 1) := by decide +kernel
theorem dL_law_2194 : decode cL_law 2194 = .ok (.aload_n 0, 1) := by decide +kernel
theorem dL_law_2195 : decode cL_law 2195 = .ok (.iload_n 3, 1) := by decide +kernel
theorem dL_law_2196 : decode cL_law 2196 = .ok (.iconst 1, 1) := by decide +kernel
theorem dL_law_2197 : decode cL_law 2197 = .ok (.iadd, 1) := by decide +kernel
theorem dL_law_2198 : decode cL_law 2198 = .ok (.iaload, 1) := by decide +kernel
theorem dL_law_2199 : decode cL_law 2199 = .ok (.invokevirtual 305, 3) := by decide +kernel
theorem dL_law_2202 : decode cL_law 2202 = .ok (.aload_n 2, 1) := by decide +kernel
theorem dL_law_2203 : decode cL_law 2203 = .ok (.aload_n 0, 1) := by decide +kernel
theorem dL_law_2204 : decode cL_law 2204 = .ok (.iload_n 3, 1) := by decide +kernel
theorem dL_law_2205 : decode cL_law 2205 = .ok (.iconst 1, 1) := by decide +kernel
theorem dL_law_2206 : decode cL_law 2206 = .ok (.iadd, 1) := by decide +kernel
theorem dL_law_2207 : decode cL_law 2207 = .ok (.iaload, 1) := by decide +kernel
theorem dL_law_2208 : decode cL_law 2208 = .ok (.invokevirtual 308, 3) := by decide +kernel
theorem dL_law_2211 : decode cL_law 2211 = .ok (.if_icmp .eq 184, 3) := by decide +kernel
theorem dL_law_2216 : decode cL_law 2216 = .ok (.aload_n 1, 1) := by decide +kernel
theorem dL_law_2217 : decode cL_law 2217 = .ok (.aload_n 0, 1) := by decide +kernel
theorem dL_law_2218 : decode cL_law 2218 = .ok (.iload_n 3, 1) := by decide +kernel
theorem dL_law_2219 : decode cL_law 2219 = .ok (.iconst 1, 1) := by decide +kernel
theorem dL_law_2220 : decode cL_law 2220 = .ok (.iadd, 1) := by decide +kernel
theorem dL_law_2221 : decode cL_law 2221 = .ok (.iaload, 1) := by decide +kernel
theorem dL_law_2222 : decode cL_law 2222 = .ok (.aload_n 0, 1) := by decide +kernel
theorem dL_law_2223 : decode cL_law 2223 = .ok (.iload_n 3, 1) := by decide +kernel
theorem dL_law_2224 : decode cL_law 2224 = .ok (.iconst 2, 1) := by decide +kernel
theorem dL_law_2225 : decode cL_law 2225 = .ok (.iadd, 1) := by decide +kernel
theorem dL_law_2226 : decode cL_law 2226 = .ok (.iaload, 1) := by decide +kernel
theorem dL_law_2227 : decode cL_law 2227 = .ok (.aload_n 0, 1) := by decide +kernel
theorem dL_law_2228 : decode cL_law 2228 = .ok (.iload_n 3, 1) := by decide +kernel
theorem dL_law_2229 : decode cL_law 2229 = .ok (.iconst 3, 1) := by decide +kernel
theorem dL_law_2230 : decode cL_law 2230 = .ok (.iadd, 1) := by decide +kernel
theorem dL_law_2231 : decode cL_law 2231 = .ok (.iaload, 1) := by decide +kernel
theorem dL_law_2232 : decode cL_law 2232 = .ok (.invokevirtual 309, 3) := by decide +kernel
theorem dL_law_2235 : decode cL_law 2235 = .ok (.aload_n 2, 1) := by decide +kernel
theorem dL_law_2236 : decode cL_law 2236 = .ok (.aload_n 0, 1) := by decide +kernel
theorem dL_law_2237 : decode cL_law 2237 = .ok (.iload_n 3, 1) := by decide +kernel
theorem dL_law_2238 : decode cL_law 2238 = .ok (.iconst 1, 1) := by decide +kernel
theorem dL_law_2239 : decode cL_law 2239 = .ok (.iadd, 1) := by decide +kernel
theorem dL_law_2240 : decode cL_law 2240 = .ok (.iaload, 1) := by decide +kernel
theorem dL_law_2241 : decode cL_law 2241 = .ok (.aload_n 0, 1) := by decide +kernel
theorem dL_law_2242 : decode cL_law 2242 = .ok (.iload_n 3, 1) := by decide +kernel
theorem dL_law_2243 : decode cL_law 2243 = .ok (.iconst 2, 1) := by decide +kernel
theorem dL_law_2244 : decode cL_law 2244 = .ok (.iadd, 1) := by decide +kernel
theorem dL_law_2245 : decode cL_law 2245 = .ok (.iaload, 1) := by decide +kernel
theorem dL_law_2246 : decode cL_law 2246 = .ok (.aload_n 0, 1) := by decide +kernel
theorem dL_law_2247 : decode cL_law 2247 = .ok (.iload_n 3, 1) := by decide +kernel
theorem dL_law_2248 : decode cL_law 2248 = .ok (.iconst 3, 1) := by decide +kernel
theorem dL_law_2249 : decode cL_law 2249 = .ok (.iadd, 1) := by decide +kernel
theorem dL_law_2250 : decode cL_law 2250 = .ok (.iaload, 1) := by decide +kernel
theorem dL_law_2251 : decode cL_law 2251 = .ok (.invokevirtual 312, 3) := by decide +kernel
theorem dL_law_2254 : decode cL_law 2254 = .ok (.if_icmp .eq 141, 3) := by decide +kernel
theorem dL_law_2259 : decode cL_law 2259 = .ok (.aload_n 1, 1) := by decide +kernel
theorem dL_law_2260 : decode cL_law 2260 = .ok (.aload_n 0, 1) := by decide +kernel
theorem dL_law_2261 : decode cL_law 2261 = .ok (.iload_n 3, 1) := by decide +kernel
theorem dL_law_2262 : decode cL_law 2262 = .ok (.iconst 1, 1) := by decide +kernel
theorem dL_law_2263 : decode cL_law 2263 = .ok (.iadd, 1) := by decide +kernel
theorem dL_law_2264 : decode cL_law 2264 = .ok (.iaload, 1) := by decide +kernel
theorem dL_law_2265 : decode cL_law 2265 = .ok (.aload_n 0, 1) := by decide +kernel
theorem dL_law_2266 : decode cL_law 2266 = .ok (.iload_n 3, 1) := by decide +kernel
theorem dL_law_2267 : decode cL_law 2267 = .ok (.iconst 2, 1) := by decide +kernel
theorem dL_law_2268 : decode cL_law 2268 = .ok (.iadd, 1) := by decide +kernel
theorem dL_law_2269 : decode cL_law 2269 = .ok (.iaload, 1) := by decide +kernel
theorem dL_law_2270 : decode cL_law 2270 = .ok (.aload_n 0, 1) := by decide +kernel
theorem dL_law_2271 : decode cL_law 2271 = .ok (.iload_n 3, 1) := by decide +kernel
theorem dL_law_2272 : decode cL_law 2272 = .ok (.iconst 3, 1) := by decide +kernel
theorem dL_law_2273 : decode cL_law 2273 = .ok (.iadd, 1) := by decide +kernel
theorem dL_law_2274 : decode cL_law 2274 = .ok (.iaload, 1) := by decide +kernel
theorem dL_law_2275 : decode cL_law 2275 = .ok (.i2l, 1) := by decide +kernel
theorem dL_law_2276 : decode cL_law 2276 = .ok (.bipush 32, 2) := by decide +kernel
theorem dL_law_2278 : decode cL_law 2278 = .ok (.lshl, 1) := by decide +kernel
theorem dL_law_2279 : decode cL_law 2279 = .ok (.aload_n 0, 1) := by decide +kernel
theorem dL_law_2280 : decode cL_law 2280 = .ok (.iload_n 3, 1) := by decide +kernel
theorem dL_law_2281 : decode cL_law 2281 = .ok (.iconst 4, 1) := by decide +kernel
theorem dL_law_2282 : decode cL_law 2282 = .ok (.iadd, 1) := by decide +kernel
theorem dL_law_2283 : decode cL_law 2283 = .ok (.iaload, 1) := by decide +kernel
theorem dL_law_2284 : decode cL_law 2284 = .ok (.i2l, 1) := by decide +kernel
theorem dL_law_2285 : decode cL_law 2285 = .ok (.ldc2_w 313, 3) := by decide +kernel
theorem dL_law_2288 : decode cL_law 2288 = .ok (.land, 1) := by decide +kernel
theorem dL_law_2289 : decode cL_law 2289 = .ok (.lor, 1) := by decide +kernel
theorem dL_law_2290 : decode cL_law 2290 = .ok (.invokevirtual 315, 3) := by decide +kernel
theorem dL_law_2293 : decode cL_law 2293 = .ok (.aload_n 2, 1) := by decide +kernel
theorem dL_law_2294 : decode cL_law 2294 = .ok (.aload_n 0, 1) := by decide +kernel
theorem dL_law_2295 : decode cL_law 2295 = .ok (.iload_n 3, 1) := by decide +kernel
theorem dL_law_2296 : decode cL_law 2296 = .ok (.iconst 1, 1) := by decide +kernel
theorem dL_law_2297 : decode cL_law 2297 = .ok (.iadd, 1) := by decide +kernel
theorem dL_law_2298 : decode cL_law 2298 = .ok (.iaload, 1) := by decide +kernel
theorem dL_law_2299 : decode cL_law 2299 = .ok (.aload_n 0, 1) := by decide +kernel
theorem dL_law_2300 : decode cL_law 2300 = .ok (.iload_n 3, 1) := by decide +kernel
theorem dL_law_2301 : decode cL_law 2301 = .ok (.iconst 2, 1) := by decide +kernel
theorem dL_law_2302 : decode cL_law 2302 = .ok (.iadd, 1) := by decide +kernel
theorem dL_law_2303 : decode cL_law 2303 = .ok (.iaload, 1) := by decide +kernel
theorem dL_law_2304 : decode cL_law 2304 = .ok (.aload_n 0, 1) := by decide +kernel
theorem dL_law_2305 : decode cL_law 2305 = .ok (.iload_n 3, 1) := by decide +kernel
theorem dL_law_2306 : decode cL_law 2306 = .ok (.iconst 3, 1) := by decide +kernel
theorem dL_law_2307 : decode cL_law 2307 = .ok (.iadd, 1) := by decide +kernel
theorem dL_law_2308 : decode cL_law 2308 = .ok (.iaload, 1) := by decide +kernel
theorem dL_law_2309 : decode cL_law 2309 = .ok (.i2l, 1) := by decide +kernel
theorem dL_law_2310 : decode cL_law 2310 = .ok (.bipush 32, 2) := by decide +kernel
theorem dL_law_2312 : decode cL_law 2312 = .ok (.lshl, 1) := by decide +kernel
theorem dL_law_2313 : decode cL_law 2313 = .ok (.aload_n 0, 1) := by decide +kernel
theorem dL_law_2314 : decode cL_law 2314 = .ok (.iload_n 3, 1) := by decide +kernel
theorem dL_law_2315 : decode cL_law 2315 = .ok (.iconst 4, 1) := by decide +kernel
theorem dL_law_2316 : decode cL_law 2316 = .ok (.iadd, 1) := by decide +kernel
theorem dL_law_2317 : decode cL_law 2317 = .ok (.iaload, 1) := by decide +kernel
theorem dL_law_2318 : decode cL_law 2318 = .ok (.i2l, 1) := by decide +kernel
theorem dL_law_2319 : decode cL_law 2319 = .ok (.ldc2_w 313, 3) := by decide +kernel
theorem dL_law_2322 : decode cL_law 2322 = .ok (.land, 1) := by decide +kernel
theorem dL_law_2323 : decode cL_law 2323 = .ok (.lor, 1) := by decide +kernel
theorem dL_law_2324 : decode cL_law 2324 = .ok (.invokevirtual 319, 3) := by decide +kernel
theorem dL_law_2327 : decode cL_law 2327 = .ok (.if_icmp .eq 68, 3) := by decide +kernel
theorem dL_law_2332 : decode cL_law 2332 = .ok (.aload_n 1, 1) := by decide +kernel
theorem dL_law_2333 : decode cL_law 2333 = .ok (.aload_n 0, 1) := by decide +kernel
theorem dL_law_2334 : decode cL_law 2334 = .ok (.iload_n 3, 1) := by decide +kernel
theorem dL_law_2335 : decode cL_law 2335 = .ok (.iconst 1, 1) := by decide +kernel
theorem dL_law_2336 : decode cL_law 2336 = .ok (.iadd, 1) := by decide +kernel
theorem dL_law_2337 : decode cL_law 2337 = .ok (.iaload, 1) := by decide +kernel
theorem dL_law_2338 : decode cL_law 2338 = .ok (.aload_n 0, 1) := by decide +kernel
theorem dL_law_2339 : decode cL_law 2339 = .ok (.iload_n 3, 1) := by decide +kernel
theorem dL_law_2340 : decode cL_law 2340 = .ok (.iconst 2, 1) := by decide +kernel
theorem dL_law_2341 : decode cL_law 2341 = .ok (.iadd, 1) := by decide +kernel
theorem dL_law_2342 : decode cL_law 2342 = .ok (.iaload, 1) := by decide +kernel
theorem dL_law_2343 : decode cL_law 2343 = .ok (.aload_n 0, 1) := by decide +kernel
theorem dL_law_2344 : decode cL_law 2344 = .ok (.iload_n 3, 1) := by decide +kernel
theorem dL_law_2345 : decode cL_law 2345 = .ok (.iconst 3, 1) := by decide +kernel
theorem dL_law_2346 : decode cL_law 2346 = .ok (.iadd, 1) := by decide +kernel
theorem dL_law_2347 : decode cL_law 2347 = .ok (.iaload, 1) := by decide +kernel
theorem dL_law_2348 : decode cL_law 2348 = .ok (.aload_n 0, 1) := by decide +kernel
theorem dL_law_2349 : decode cL_law 2349 = .ok (.iload_n 3, 1) := by decide +kernel
theorem dL_law_2350 : decode cL_law 2350 = .ok (.iconst 4, 1) := by decide +kernel
theorem dL_law_2351 : decode cL_law 2351 = .ok (.iadd, 1) := by decide +kernel
theorem dL_law_2352 : decode cL_law 2352 = .ok (.iaload, 1) := by decide +kernel
theorem dL_law_2353 : decode cL_law 2353 = .ok (.aload_n 0, 1) := by decide +kernel
theorem dL_law_2354 : decode cL_law 2354 = .ok (.iload_n 3, 1) := by decide +kernel
theorem dL_law_2355 : decode cL_law 2355 = .ok (.iconst 5, 1) := by decide +kernel
theorem dL_law_2356 : decode cL_law 2356 = .ok (.iadd, 1) := by decide +kernel
theorem dL_law_2357 : decode cL_law 2357 = .ok (.iaload, 1) := by decide +kernel
theorem dL_law_2358 : decode cL_law 2358 = .ok (.invokevirtual 320, 3) := by decide +kernel
theorem dL_law_2361 : decode cL_law 2361 = .ok (.aload_n 2, 1) := by decide +kernel
theorem dL_law_2362 : decode cL_law 2362 = .ok (.aload_n 0, 1) := by decide +kernel
theorem dL_law_2363 : decode cL_law 2363 = .ok (.iload_n 3, 1) := by decide +kernel
theorem dL_law_2364 : decode cL_law 2364 = .ok (.iconst 1, 1) := by decide +kernel
theorem dL_law_2365 : decode cL_law 2365 = .ok (.iadd, 1) := by decide +kernel
theorem dL_law_2366 : decode cL_law 2366 = .ok (.iaload, 1) := by decide +kernel
theorem dL_law_2367 : decode cL_law 2367 = .ok (.aload_n 0, 1) := by decide +kernel
theorem dL_law_2368 : decode cL_law 2368 = .ok (.iload_n 3, 1) := by decide +kernel
theorem dL_law_2369 : decode cL_law 2369 = .ok (.iconst 2, 1) := by decide +kernel
theorem dL_law_2370 : decode cL_law 2370 = .ok (.iadd, 1) := by decide +kernel
theorem dL_law_2371 : decode cL_law 2371 = .ok (.iaload, 1) := by decide +kernel
theorem dL_law_2372 : decode cL_law 2372 = .ok (.aload_n 0, 1) := by decide +kernel
theorem dL_law_2373 : decode cL_law 2373 = .ok (.iload_n 3, 1) := by decide +kernel
theorem dL_law_2374 : decode cL_law 2374 = .ok (.iconst 3, 1) := by decide +kernel
theorem dL_law_2375 : decode cL_law 2375 = .ok (.iadd, 1) := by decide +kernel
theorem dL_law_2376 : decode cL_law 2376 = .ok (.iaload, 1) := by decide +kernel
theorem dL_law_2377 : decode cL_law 2377 = .ok (.aload_n 0, 1) := by decide +kernel
theorem dL_law_2378 : decode cL_law 2378 = .ok (.iload_n 3, 1) := by decide +kernel
theorem dL_law_2379 : decode cL_law 2379 = .ok (.iconst 4, 1) := by decide +kernel
theorem dL_law_2380 : decode cL_law 2380 = .ok (.iadd, 1) := by decide +kernel
theorem dL_law_2381 : decode cL_law 2381 = .ok (.iaload, 1) := by decide +kernel
theorem dL_law_2382 : decode cL_law 2382 = .ok (.aload_n 0, 1) := by decide +kernel
theorem dL_law_2383 : decode cL_law 2383 = .ok (.iload_n 3, 1) := by decide +kernel
theorem dL_law_2384 : decode cL_law 2384 = .ok (.iconst 5, 1) := by decide +kernel
theorem dL_law_2385 : decode cL_law 2385 = .ok (.iadd, 1) := by decide +kernel
theorem dL_law_2386 : decode cL_law 2386 = .ok (.iaload, 1) := by decide +kernel
theorem dL_law_2387 : decode cL_law 2387 = .ok (.invokevirtual 323, 3) := by decide +kernel
theorem dL_law_2390 : decode cL_law 2390 = .ok (.if_icmp .eq 5, 3) := by decide +kernel
theorem dL_law_2395 : decode cL_law 2395 = .ok (.iinc 3 6, 3) := by decide +kernel
theorem dL_law_2398 : decode cL_law 2398 = .ok (.goto (-2380), 3) := by decide +kernel
theorem dL_law_2401 : decode cL_law 2401 = .ok (.iconst 1, 1) := by decide +kernel
theorem dL_law_2402 : decode cL_law 2402 = .ok (.ireturn, 1) := by decide +kernel
theorem wd379 : Cond.methodLink RL 13 yX7_feed ∈ tblG := gw2 61 (by decide +kernel) (by decide +kernel)
theorem wd380 : Cond.instanceMethod yX7_feed ∈ tblG := gw2 62 (by decide +kernel) (by decide +kernel)
theorem wd381 : Cond.selects RX7 yX7_feed yX7_feed ∈ tblG := gw2 63 (by decide +kernel) (by decide +kernel)
theorem wd382 : Cond.code yX7_feed cX7_feed 6 (some .int) ∈ tblG := gw2 64 (by decide +kernel) (by decide +kernel)
theorem pl_X7_feed : Plain yX7_feed 5 := ⟨by decide, by decide, by decide +kernel⟩
theorem lk_L_13 : LkV RL 13 7 yX7_feed cX7_feed 6 (some .int) 5 := ⟨⟨TX7, 12, rfl⟩, wd379, wd380, wd381, wd33, wd382, pl_X7_feed⟩
theorem wd383 : Cond.methodLink RL 17 yX8_feed ∈ tblG := gw6 171 (by decide +kernel) (by decide +kernel)
theorem wd384 : Cond.instanceMethod yX8_feed ∈ tblG := gw6 172 (by decide +kernel) (by decide +kernel)
theorem wd385 : Cond.selects RX8 yX8_feed yX8_feed ∈ tblG := gw6 173 (by decide +kernel) (by decide +kernel)
theorem wd386 : Cond.code yX8_feed cX8_feed 7 (some .int) ∈ tblG := gw6 174 (by decide +kernel) (by decide +kernel)
theorem pl_X8_feed : Plain yX8_feed 5 := ⟨by decide, by decide, by decide +kernel⟩
theorem lk_L_17 : LkV RL 17 8 yX8_feed cX8_feed 7 (some .int) 5 := ⟨⟨TX8, 41, rfl⟩, wd383, wd384, wd385, wd238, wd386, pl_X8_feed⟩
theorem wd387 : Cond.methodLink RL 18 yX7_end ∈ tblG := gw2 69 (by decide +kernel) (by decide +kernel)
theorem wd388 : Cond.instanceMethod yX7_end ∈ tblG := gw2 70 (by decide +kernel) (by decide +kernel)
theorem wd389 : Cond.selects RX7 yX7_end yX7_end ∈ tblG := gw2 71 (by decide +kernel) (by decide +kernel)
theorem wd390 : Cond.code yX7_end cX7_end 2 (some .int) ∈ tblG := gw2 72 (by decide +kernel) (by decide +kernel)
theorem pl_X7_end : Plain yX7_end 1 := ⟨by decide, by decide, by decide +kernel⟩
theorem lk_L_18 : LkV RL 18 7 yX7_end cX7_end 2 (some .int) 1 := ⟨⟨TX7, 12, rfl⟩, wd387, wd388, wd389, wd33, wd390, pl_X7_end⟩
theorem wd391 : Cond.methodLink RL 22 yX8_end ∈ tblG := gw6 175 (by decide +kernel) (by decide +kernel)
theorem wd392 : Cond.instanceMethod yX8_end ∈ tblG := gw6 176 (by decide +kernel) (by decide +kernel)
theorem wd393 : Cond.selects RX8 yX8_end yX8_end ∈ tblG := gw6 177 (by decide +kernel) (by decide +kernel)
theorem wd394 : Cond.code yX8_end cX8_end 2 (some .int) ∈ tblG := gw6 178 (by decide +kernel) (by decide +kernel)
theorem pl_X8_end : Plain yX8_end 1 := ⟨by decide, by decide, by decide +kernel⟩
theorem lk_L_22 : LkV RL 22 8 yX8_end cX8_end 2 (some .int) 1 := ⟨⟨TX8, 41, rfl⟩, wd391, wd392, wd393, wd238, wd394, pl_X8_end⟩
theorem wd395 : Cond.methodLink RL 23 yX7_heath ∈ tblG := gw2 73 (by decide +kernel) (by decide +kernel)
theorem wd396 : Cond.instanceMethod yX7_heath ∈ tblG := gw2 74 (by decide +kernel) (by decide +kernel)
theorem wd397 : Cond.selects RX7 yX7_heath yX7_heath ∈ tblG := gw2 75 (by decide +kernel) (by decide +kernel)
theorem wd398 : Cond.code yX7_heath cX7_heath 1 (some .int) ∈ tblG := gw2 76 (by decide +kernel) (by decide +kernel)
theorem pl_X7_heath : Plain yX7_heath 0 := ⟨by decide, by decide, by decide +kernel⟩
theorem lk_L_23 : LkV RL 23 7 yX7_heath cX7_heath 1 (some .int) 0 := ⟨⟨TX7, 12, rfl⟩, wd395, wd396, wd397, wd33, wd398, pl_X7_heath⟩
theorem wd399 : Cond.methodLink RL 27 yX8_heath ∈ tblG := gw6 183 (by decide +kernel) (by decide +kernel)
theorem wd400 : Cond.instanceMethod yX8_heath ∈ tblG := gw6 184 (by decide +kernel) (by decide +kernel)
theorem wd401 : Cond.selects RX8 yX8_heath yX8_heath ∈ tblG := gw6 185 (by decide +kernel) (by decide +kernel)
theorem wd402 : Cond.code yX8_heath cX8_heath 2 (some .int) ∈ tblG := gw6 186 (by decide +kernel) (by decide +kernel)
theorem pl_X8_heath : Plain yX8_heath 0 := ⟨by decide, by decide, by decide +kernel⟩
theorem lk_L_27 : LkV RL 27 8 yX8_heath cX8_heath 2 (some .int) 0 := ⟨⟨TX8, 41, rfl⟩, wd399, wd400, wd401, wd238, wd402, pl_X8_heath⟩
theorem wd403 : Cond.methodLink RL 28 yX7_fault ∈ tblG := gw3 81 (by decide +kernel) (by decide +kernel)
theorem wd404 : Cond.instanceMethod yX7_fault ∈ tblG := gw3 82 (by decide +kernel) (by decide +kernel)
theorem wd405 : Cond.selects RX7 yX7_fault yX7_fault ∈ tblG := gw3 83 (by decide +kernel) (by decide +kernel)
theorem wd406 : Cond.code yX7_fault cX7_fault 2 (some .int) ∈ tblG := gw3 84 (by decide +kernel) (by decide +kernel)
theorem pl_X7_fault : Plain yX7_fault 1 := ⟨by decide, by decide, by decide +kernel⟩
theorem lk_L_28 : LkV RL 28 7 yX7_fault cX7_fault 2 (some .int) 1 := ⟨⟨TX7, 12, rfl⟩, wd403, wd404, wd405, wd33, wd406, pl_X7_fault⟩
theorem wd407 : Cond.methodLink RL 31 yX8_fault ∈ tblG := gw6 179 (by decide +kernel) (by decide +kernel)
theorem wd408 : Cond.instanceMethod yX8_fault ∈ tblG := gw6 180 (by decide +kernel) (by decide +kernel)
theorem wd409 : Cond.selects RX8 yX8_fault yX8_fault ∈ tblG := gw6 181 (by decide +kernel) (by decide +kernel)
theorem wd410 : Cond.code yX8_fault cX8_fault 2 (some .int) ∈ tblG := gw6 182 (by decide +kernel) (by decide +kernel)
theorem pl_X8_fault : Plain yX8_fault 1 := ⟨by decide, by decide, by decide +kernel⟩
theorem lk_L_31 : LkV RL 31 8 yX8_fault cX8_fault 2 (some .int) 1 := ⟨⟨TX8, 41, rfl⟩, wd407, wd408, wd409, wd238, wd410, pl_X8_fault⟩
theorem wd411 : Cond.methodLink RL 32 yX7_room ∈ tblG := gw3 85 (by decide +kernel) (by decide +kernel)
theorem wd412 : Cond.instanceMethod yX7_room ∈ tblG := gw3 86 (by decide +kernel) (by decide +kernel)
theorem wd413 : Cond.selects RX7 yX7_room yX7_room ∈ tblG := gw3 87 (by decide +kernel) (by decide +kernel)
theorem wd414 : Cond.code yX7_room cX7_room 2 (some .int) ∈ tblG := gw3 88 (by decide +kernel) (by decide +kernel)
theorem pl_X7_room : Plain yX7_room 1 := ⟨by decide, by decide, by decide +kernel⟩
theorem lk_L_32 : LkV RL 32 7 yX7_room cX7_room 2 (some .int) 1 := ⟨⟨TX7, 12, rfl⟩, wd411, wd412, wd413, wd33, wd414, pl_X7_room⟩
theorem wd415 : Cond.methodLink RL 35 yX8_room ∈ tblG := gw7 36 (by decide +kernel) (by decide +kernel)
theorem wd416 : Cond.instanceMethod yX8_room ∈ tblG := gw7 37 (by decide +kernel) (by decide +kernel)
theorem wd417 : Cond.selects RX8 yX8_room yX8_room ∈ tblG := gw7 38 (by decide +kernel) (by decide +kernel)
theorem wd418 : Cond.code yX8_room cX8_room 2 (some .int) ∈ tblG := gw7 39 (by decide +kernel) (by decide +kernel)
theorem pl_X8_room : Plain yX8_room 1 := ⟨by decide, by decide, by decide +kernel⟩
theorem lk_L_35 : LkV RL 35 8 yX8_room cX8_room 2 (some .int) 1 := ⟨⟨TX8, 41, rfl⟩, wd415, wd416, wd417, wd238, wd418, pl_X8_room⟩
theorem wd419 : Cond.methodLink RL 36 yX7_roads ∈ tblG := gw3 93 (by decide +kernel) (by decide +kernel)
theorem wd420 : Cond.instanceMethod yX7_roads ∈ tblG := gw3 94 (by decide +kernel) (by decide +kernel)
theorem wd421 : Cond.selects RX7 yX7_roads yX7_roads ∈ tblG := gw3 95 (by decide +kernel) (by decide +kernel)
theorem wd422 : Cond.code yX7_roads cX7_roads 2 (some .int) ∈ tblG := gw3 96 (by decide +kernel) (by decide +kernel)
theorem pl_X7_roads : Plain yX7_roads 1 := ⟨by decide, by decide, by decide +kernel⟩
theorem lk_L_36 : LkV RL 36 7 yX7_roads cX7_roads 2 (some .int) 1 := ⟨⟨TX7, 12, rfl⟩, wd419, wd420, wd421, wd33, wd422, pl_X7_roads⟩
theorem wd423 : Cond.methodLink RL 39 yX8_roads ∈ tblG := gw7 44 (by decide +kernel) (by decide +kernel)
theorem wd424 : Cond.instanceMethod yX8_roads ∈ tblG := gw7 45 (by decide +kernel) (by decide +kernel)
theorem wd425 : Cond.selects RX8 yX8_roads yX8_roads ∈ tblG := gw7 46 (by decide +kernel) (by decide +kernel)
theorem wd426 : Cond.code yX8_roads cX8_roads 2 (some .int) ∈ tblG := gw7 47 (by decide +kernel) (by decide +kernel)
theorem pl_X8_roads : Plain yX8_roads 1 := ⟨by decide, by decide, by decide +kernel⟩
theorem lk_L_39 : LkV RL 39 8 yX8_roads cX8_roads 2 (some .int) 1 := ⟨⟨TX8, 41, rfl⟩, wd423, wd424, wd425, wd238, wd426, pl_X8_roads⟩
theorem wd427 : Cond.methodLink RL 40 yX7_goes ∈ tblG := gw3 101 (by decide +kernel) (by decide +kernel)
theorem wd428 : Cond.instanceMethod yX7_goes ∈ tblG := gw3 102 (by decide +kernel) (by decide +kernel)
theorem wd429 : Cond.selects RX7 yX7_goes yX7_goes ∈ tblG := gw3 103 (by decide +kernel) (by decide +kernel)
theorem wd430 : Cond.code yX7_goes cX7_goes 3 (some .int) ∈ tblG := gw3 104 (by decide +kernel) (by decide +kernel)
theorem pl_X7_goes : Plain yX7_goes 2 := ⟨by decide, by decide, by decide +kernel⟩
theorem lk_L_40 : LkV RL 40 7 yX7_goes cX7_goes 3 (some .int) 2 := ⟨⟨TX7, 12, rfl⟩, wd427, wd428, wd429, wd33, wd430, pl_X7_goes⟩
theorem wd431 : Cond.methodLink RL 44 yX8_goes ∈ tblG := gw7 60 (by decide +kernel) (by decide +kernel)
theorem wd432 : Cond.instanceMethod yX8_goes ∈ tblG := gw7 61 (by decide +kernel) (by decide +kernel)
theorem wd433 : Cond.selects RX8 yX8_goes yX8_goes ∈ tblG := gw7 62 (by decide +kernel) (by decide +kernel)
theorem wd434 : Cond.code yX8_goes cX8_goes 3 (some .int) ∈ tblG := gw7 63 (by decide +kernel) (by decide +kernel)
theorem pl_X8_goes : Plain yX8_goes 2 := ⟨by decide, by decide, by decide +kernel⟩
theorem lk_L_44 : LkV RL 44 8 yX8_goes cX8_goes 3 (some .int) 2 := ⟨⟨TX8, 41, rfl⟩, wd431, wd432, wd433, wd238, wd434, pl_X8_goes⟩
theorem wd435 : Cond.methodLink RL 45 yX7_told ∈ tblG := gw3 106 (by decide +kernel) (by decide +kernel)
theorem wd436 : Cond.instanceMethod yX7_told ∈ tblG := gw3 107 (by decide +kernel) (by decide +kernel)
theorem wd437 : Cond.selects RX7 yX7_told yX7_told ∈ tblG := gw3 108 (by decide +kernel) (by decide +kernel)
theorem wd438 : Cond.code yX7_told cX7_told 2 (some .int) ∈ tblG := gw3 109 (by decide +kernel) (by decide +kernel)
theorem pl_X7_told : Plain yX7_told 1 := ⟨by decide, by decide, by decide +kernel⟩
theorem lk_L_45 : LkV RL 45 7 yX7_told cX7_told 2 (some .int) 1 := ⟨⟨TX7, 12, rfl⟩, wd435, wd436, wd437, wd33, wd438, pl_X7_told⟩
theorem wd439 : Cond.methodLink RL 48 yX8_told ∈ tblG := gw7 68 (by decide +kernel) (by decide +kernel)
theorem wd440 : Cond.instanceMethod yX8_told ∈ tblG := gw7 69 (by decide +kernel) (by decide +kernel)
theorem wd441 : Cond.selects RX8 yX8_told yX8_told ∈ tblG := gw7 70 (by decide +kernel) (by decide +kernel)
theorem wd442 : Cond.code yX8_told cX8_told 2 (some .int) ∈ tblG := gw7 71 (by decide +kernel) (by decide +kernel)
theorem pl_X8_told : Plain yX8_told 1 := ⟨by decide, by decide, by decide +kernel⟩
theorem lk_L_48 : LkV RL 48 8 yX8_told cX8_told 2 (some .int) 1 := ⟨⟨TX8, 41, rfl⟩, wd439, wd440, wd441, wd238, wd442, pl_X8_told⟩
theorem wd443 : Cond.methodLink RL 49 yX7_walker ∈ tblG := gw3 111 (by decide +kernel) (by decide +kernel)
theorem wd444 : Cond.instanceMethod yX7_walker ∈ tblG := gw3 112 (by decide +kernel) (by decide +kernel)
theorem wd445 : Cond.selects RX7 yX7_walker yX7_walker ∈ tblG := gw3 113 (by decide +kernel) (by decide +kernel)
theorem wd446 : Cond.code yX7_walker cX7_walker 3 (some .int) ∈ tblG := gw3 114 (by decide +kernel) (by decide +kernel)
theorem pl_X7_walker : Plain yX7_walker 2 := ⟨by decide, by decide, by decide +kernel⟩
theorem lk_L_49 : LkV RL 49 7 yX7_walker cX7_walker 3 (some .int) 2 := ⟨⟨TX7, 12, rfl⟩, wd443, wd444, wd445, wd33, wd446, pl_X7_walker⟩
theorem wd447 : Cond.methodLink RL 52 yX8_walker ∈ tblG := gw7 76 (by decide +kernel) (by decide +kernel)
theorem wd448 : Cond.instanceMethod yX8_walker ∈ tblG := gw7 77 (by decide +kernel) (by decide +kernel)
theorem wd449 : Cond.selects RX8 yX8_walker yX8_walker ∈ tblG := gw7 78 (by decide +kernel) (by decide +kernel)
theorem wd450 : Cond.code yX8_walker cX8_walker 3 (some .int) ∈ tblG := gw7 79 (by decide +kernel) (by decide +kernel)
theorem pl_X8_walker : Plain yX8_walker 2 := ⟨by decide, by decide, by decide +kernel⟩
theorem lk_L_52 : LkV RL 52 8 yX8_walker cX8_walker 3 (some .int) 2 := ⟨⟨TX8, 41, rfl⟩, wd447, wd448, wd449, wd238, wd450, pl_X8_walker⟩
theorem wd451 : Cond.methodLink RL 53 yX7_at ∈ tblG := gw3 122 (by decide +kernel) (by decide +kernel)
theorem wd452 : Cond.instanceMethod yX7_at ∈ tblG := gw3 123 (by decide +kernel) (by decide +kernel)
theorem wd453 : Cond.selects RX7 yX7_at yX7_at ∈ tblG := gw3 124 (by decide +kernel) (by decide +kernel)
theorem wd454 : Cond.code yX7_at cX7_at 3 (some .int) ∈ tblG := gw3 125 (by decide +kernel) (by decide +kernel)
theorem pl_X7_at : Plain yX7_at 2 := ⟨by decide, by decide, by decide +kernel⟩
theorem lk_L_53 : LkV RL 53 7 yX7_at cX7_at 3 (some .int) 2 := ⟨⟨TX7, 12, rfl⟩, wd451, wd452, wd453, wd33, wd454, pl_X7_at⟩
theorem wd455 : Cond.methodLink RL 56 yX8_at ∈ tblG := gw7 100 (by decide +kernel) (by decide +kernel)
theorem wd456 : Cond.instanceMethod yX8_at ∈ tblG := gw7 101 (by decide +kernel) (by decide +kernel)
theorem wd457 : Cond.selects RX8 yX8_at yX8_at ∈ tblG := gw7 102 (by decide +kernel) (by decide +kernel)
theorem wd458 : Cond.code yX8_at cX8_at 3 (some .int) ∈ tblG := gw7 103 (by decide +kernel) (by decide +kernel)
theorem pl_X8_at : Plain yX8_at 2 := ⟨by decide, by decide, by decide +kernel⟩
theorem lk_L_56 : LkV RL 56 8 yX8_at cX8_at 3 (some .int) 2 := ⟨⟨TX8, 41, rfl⟩, wd455, wd456, wd457, wd238, wd458, pl_X8_at⟩
theorem wd459 : Cond.methodLink RL 57 yX7_arm ∈ tblG := gw3 135 (by decide +kernel) (by decide +kernel)
theorem wd460 : Cond.instanceMethod yX7_arm ∈ tblG := gw3 136 (by decide +kernel) (by decide +kernel)
theorem wd461 : Cond.selects RX7 yX7_arm yX7_arm ∈ tblG := gw3 137 (by decide +kernel) (by decide +kernel)
theorem wd462 : Cond.code yX7_arm cX7_arm 3 (some .int) ∈ tblG := gw3 138 (by decide +kernel) (by decide +kernel)
theorem pl_X7_arm : Plain yX7_arm 2 := ⟨by decide, by decide, by decide +kernel⟩
theorem lk_L_57 : LkV RL 57 7 yX7_arm cX7_arm 3 (some .int) 2 := ⟨⟨TX7, 12, rfl⟩, wd459, wd460, wd461, wd33, wd462, pl_X7_arm⟩
theorem wd463 : Cond.methodLink RL 60 yX8_arm ∈ tblG := gw7 155 (by decide +kernel) (by decide +kernel)
theorem wd464 : Cond.instanceMethod yX8_arm ∈ tblG := gw7 156 (by decide +kernel) (by decide +kernel)
theorem wd465 : Cond.selects RX8 yX8_arm yX8_arm ∈ tblG := gw7 157 (by decide +kernel) (by decide +kernel)
theorem wd466 : Cond.code yX8_arm cX8_arm 3 (some .int) ∈ tblG := gw7 158 (by decide +kernel) (by decide +kernel)
theorem pl_X8_arm : Plain yX8_arm 2 := ⟨by decide, by decide, by decide +kernel⟩
theorem lk_L_60 : LkV RL 60 8 yX8_arm cX8_arm 3 (some .int) 2 := ⟨⟨TX8, 41, rfl⟩, wd463, wd464, wd465, wd238, wd466, pl_X8_arm⟩
theorem wd467 : Cond.methodLink RL 61 yX7_here ∈ tblG := gw3 143 (by decide +kernel) (by decide +kernel)
theorem wd468 : Cond.instanceMethod yX7_here ∈ tblG := gw3 144 (by decide +kernel) (by decide +kernel)
theorem wd469 : Cond.selects RX7 yX7_here yX7_here ∈ tblG := gw3 145 (by decide +kernel) (by decide +kernel)
theorem wd470 : Cond.code yX7_here cX7_here 3 (some .int) ∈ tblG := gw3 146 (by decide +kernel) (by decide +kernel)
theorem pl_X7_here : Plain yX7_here 2 := ⟨by decide, by decide, by decide +kernel⟩
theorem lk_L_61 : LkV RL 61 7 yX7_here cX7_here 3 (some .int) 2 := ⟨⟨TX7, 12, rfl⟩, wd467, wd468, wd469, wd33, wd470, pl_X7_here⟩
theorem wd471 : Cond.methodLink RL 64 yX8_here ∈ tblG := gw7 159 (by decide +kernel) (by decide +kernel)
theorem wd472 : Cond.instanceMethod yX8_here ∈ tblG := gw7 160 (by decide +kernel) (by decide +kernel)
theorem wd473 : Cond.selects RX8 yX8_here yX8_here ∈ tblG := gw7 161 (by decide +kernel) (by decide +kernel)
theorem wd474 : Cond.code yX8_here cX8_here 3 (some .int) ∈ tblG := gw7 162 (by decide +kernel) (by decide +kernel)
theorem pl_X8_here : Plain yX8_here 2 := ⟨by decide, by decide, by decide +kernel⟩
theorem lk_L_64 : LkV RL 64 8 yX8_here cX8_here 3 (some .int) 2 := ⟨⟨TX8, 41, rfl⟩, wd471, wd472, wd473, wd238, wd474, pl_X8_here⟩
theorem wd475 : Cond.methodLink RL 65 yX7_sent ∈ tblG := gw3 157 (by decide +kernel) (by decide +kernel)
theorem wd476 : Cond.instanceMethod yX7_sent ∈ tblG := gw3 158 (by decide +kernel) (by decide +kernel)
theorem wd477 : Cond.selects RX7 yX7_sent yX7_sent ∈ tblG := gw3 159 (by decide +kernel) (by decide +kernel)
theorem wd478 : Cond.code yX7_sent cX7_sent 2 (some .int) ∈ tblG := gw3 160 (by decide +kernel) (by decide +kernel)
theorem pl_X7_sent : Plain yX7_sent 1 := ⟨by decide, by decide, by decide +kernel⟩
theorem lk_L_65 : LkV RL 65 7 yX7_sent cX7_sent 2 (some .int) 1 := ⟨⟨TX7, 12, rfl⟩, wd475, wd476, wd477, wd33, wd478, pl_X7_sent⟩
theorem wd479 : Cond.methodLink RL 68 yX8_sent ∈ tblG := gw7 172 (by decide +kernel) (by decide +kernel)
theorem wd480 : Cond.instanceMethod yX8_sent ∈ tblG := gw7 173 (by decide +kernel) (by decide +kernel)
theorem wd481 : Cond.selects RX8 yX8_sent yX8_sent ∈ tblG := gw7 174 (by decide +kernel) (by decide +kernel)
theorem wd482 : Cond.code yX8_sent cX8_sent 2 (some .int) ∈ tblG := gw7 175 (by decide +kernel) (by decide +kernel)
theorem pl_X8_sent : Plain yX8_sent 1 := ⟨by decide, by decide, by decide +kernel⟩
theorem lk_L_68 : LkV RL 68 8 yX8_sent cX8_sent 2 (some .int) 1 := ⟨⟨TX8, 41, rfl⟩, wd479, wd480, wd481, wd238, wd482, pl_X8_sent⟩
theorem wd483 : Cond.methodLink RL 69 yX7_sends ∈ tblG := gw3 174 (by decide +kernel) (by decide +kernel)
theorem wd484 : Cond.instanceMethod yX7_sends ∈ tblG := gw3 175 (by decide +kernel) (by decide +kernel)
theorem wd485 : Cond.selects RX7 yX7_sends yX7_sends ∈ tblG := gw3 176 (by decide +kernel) (by decide +kernel)
theorem wd486 : Cond.code yX7_sends cX7_sends 2 (some .int) ∈ tblG := gw3 177 (by decide +kernel) (by decide +kernel)
theorem pl_X7_sends : Plain yX7_sends 1 := ⟨by decide, by decide, by decide +kernel⟩
theorem lk_L_69 : LkV RL 69 7 yX7_sends cX7_sends 2 (some .int) 1 := ⟨⟨TX7, 12, rfl⟩, wd483, wd484, wd485, wd33, wd486, pl_X7_sends⟩
theorem wd487 : Cond.methodLink RL 72 yX8_sends ∈ tblG := gw7 180 (by decide +kernel) (by decide +kernel)
theorem wd488 : Cond.instanceMethod yX8_sends ∈ tblG := gw7 181 (by decide +kernel) (by decide +kernel)
theorem wd489 : Cond.selects RX8 yX8_sends yX8_sends ∈ tblG := gw7 182 (by decide +kernel) (by decide +kernel)
theorem wd490 : Cond.code yX8_sends cX8_sends 2 (some .int) ∈ tblG := gw7 183 (by decide +kernel) (by decide +kernel)
theorem pl_X8_sends : Plain yX8_sends 1 := ⟨by decide, by decide, by decide +kernel⟩
theorem lk_L_72 : LkV RL 72 8 yX8_sends cX8_sends 2 (some .int) 1 := ⟨⟨TX8, 41, rfl⟩, wd487, wd488, wd489, wd238, wd490, pl_X8_sends⟩
theorem wd491 : Cond.methodLink RL 73 yX7_used ∈ tblG := gw3 186 (by decide +kernel) (by decide +kernel)
theorem wd492 : Cond.instanceMethod yX7_used ∈ tblG := gw3 187 (by decide +kernel) (by decide +kernel)
theorem wd493 : Cond.selects RX7 yX7_used yX7_used ∈ tblG := gw3 188 (by decide +kernel) (by decide +kernel)
theorem wd494 : Cond.code yX7_used cX7_used 3 (some .int) ∈ tblG := gw3 189 (by decide +kernel) (by decide +kernel)
theorem pl_X7_used : Plain yX7_used 2 := ⟨by decide, by decide, by decide +kernel⟩
theorem lk_L_73 : LkV RL 73 7 yX7_used cX7_used 3 (some .int) 2 := ⟨⟨TX7, 12, rfl⟩, wd491, wd492, wd493, wd33, wd494, pl_X7_used⟩
theorem wd495 : Cond.methodLink RL 76 yX8_used ∈ tblG := gw7 192 (by decide +kernel) (by decide +kernel)
theorem wd496 : Cond.instanceMethod yX8_used ∈ tblG := gw7 193 (by decide +kernel) (by decide +kernel)
theorem wd497 : Cond.selects RX8 yX8_used yX8_used ∈ tblG := gw7 194 (by decide +kernel) (by decide +kernel)
theorem wd498 : Cond.code yX8_used cX8_used 3 (some .int) ∈ tblG := gw7 195 (by decide +kernel) (by decide +kernel)
theorem pl_X8_used : Plain yX8_used 2 := ⟨by decide, by decide, by decide +kernel⟩
theorem lk_L_76 : LkV RL 76 8 yX8_used cX8_used 3 (some .int) 2 := ⟨⟨TX8, 41, rfl⟩, wd495, wd496, wd497, wd238, wd498, pl_X8_used⟩
theorem wd499 : Cond.methodLink RL 77 yX7_walks ∈ tblG := gw3 191 (by decide +kernel) (by decide +kernel)
theorem wd500 : Cond.instanceMethod yX7_walks ∈ tblG := gw3 192 (by decide +kernel) (by decide +kernel)
theorem wd501 : Cond.selects RX7 yX7_walks yX7_walks ∈ tblG := gw3 193 (by decide +kernel) (by decide +kernel)
theorem wd502 : Cond.code yX7_walks cX7_walks 2 (some .int) ∈ tblG := gw3 194 (by decide +kernel) (by decide +kernel)
theorem pl_X7_walks : Plain yX7_walks 1 := ⟨by decide, by decide, by decide +kernel⟩
theorem lk_L_77 : LkV RL 77 7 yX7_walks cX7_walks 2 (some .int) 1 := ⟨⟨TX7, 12, rfl⟩, wd499, wd500, wd501, wd33, wd502, pl_X7_walks⟩
theorem wd503 : Cond.methodLink RL 80 yX8_walks ∈ tblG := gw7 196 (by decide +kernel) (by decide +kernel)
theorem wd504 : Cond.instanceMethod yX8_walks ∈ tblG := gw7 197 (by decide +kernel) (by decide +kernel)
theorem wd505 : Cond.selects RX8 yX8_walks yX8_walks ∈ tblG := gw7 198 (by decide +kernel) (by decide +kernel)
theorem wd506 : Cond.code yX8_walks cX8_walks 2 (some .int) ∈ tblG := gw7 199 (by decide +kernel) (by decide +kernel)
theorem pl_X8_walks : Plain yX8_walks 1 := ⟨by decide, by decide, by decide +kernel⟩
theorem lk_L_80 : LkV RL 80 8 yX8_walks cX8_walks 2 (some .int) 1 := ⟨⟨TX8, 41, rfl⟩, wd503, wd504, wd505, wd238, wd506, pl_X8_walks⟩
theorem wd507 : Cond.methodLink RL 81 yX7_home ∈ tblG := gw3 199 (by decide +kernel) (by decide +kernel)
theorem wd508 : Cond.instanceMethod yX7_home ∈ tblG := gw3 200 (by decide +kernel) (by decide +kernel)
theorem wd509 : Cond.selects RX7 yX7_home yX7_home ∈ tblG := gw3 201 (by decide +kernel) (by decide +kernel)
theorem wd510 : Cond.code yX7_home cX7_home 2 (some .int) ∈ tblG := gw3 202 (by decide +kernel) (by decide +kernel)
theorem pl_X7_home : Plain yX7_home 1 := ⟨by decide, by decide, by decide +kernel⟩
theorem lk_L_81 : LkV RL 81 7 yX7_home cX7_home 2 (some .int) 1 := ⟨⟨TX7, 12, rfl⟩, wd507, wd508, wd509, wd33, wd510, pl_X7_home⟩
theorem wd511 : Cond.methodLink RL 84 yX8_home ∈ tblG := gw7 204 (by decide +kernel) (by decide +kernel)
theorem wd512 : Cond.instanceMethod yX8_home ∈ tblG := gw7 205 (by decide +kernel) (by decide +kernel)
theorem wd513 : Cond.selects RX8 yX8_home yX8_home ∈ tblG := gw7 206 (by decide +kernel) (by decide +kernel)
theorem wd514 : Cond.code yX8_home cX8_home 2 (some .int) ∈ tblG := gw7 207 (by decide +kernel) (by decide +kernel)
theorem pl_X8_home : Plain yX8_home 1 := ⟨by decide, by decide, by decide +kernel⟩
theorem lk_L_84 : LkV RL 84 8 yX8_home cX8_home 2 (some .int) 1 := ⟨⟨TX8, 41, rfl⟩, wd511, wd512, wd513, wd238, wd514, pl_X8_home⟩
theorem wd515 : Cond.methodLink RL 85 yX7_inn ∈ tblG := gw3 207 (by decide +kernel) (by decide +kernel)
theorem wd516 : Cond.instanceMethod yX7_inn ∈ tblG := gw3 208 (by decide +kernel) (by decide +kernel)
theorem wd517 : Cond.selects RX7 yX7_inn yX7_inn ∈ tblG := gw3 209 (by decide +kernel) (by decide +kernel)
theorem wd518 : Cond.code yX7_inn cX7_inn 3 (some .int) ∈ tblG := gw3 210 (by decide +kernel) (by decide +kernel)
theorem pl_X7_inn : Plain yX7_inn 1 := ⟨by decide, by decide, by decide +kernel⟩
theorem lk_L_85 : LkV RL 85 7 yX7_inn cX7_inn 3 (some .int) 1 := ⟨⟨TX7, 12, rfl⟩, wd515, wd516, wd517, wd33, wd518, pl_X7_inn⟩
theorem wd519 : Cond.methodLink RL 88 yX8_inn ∈ tblG := gw7 216 (by decide +kernel) (by decide +kernel)
theorem wd520 : Cond.instanceMethod yX8_inn ∈ tblG := gw7 217 (by decide +kernel) (by decide +kernel)
theorem wd521 : Cond.selects RX8 yX8_inn yX8_inn ∈ tblG := gw7 218 (by decide +kernel) (by decide +kernel)
theorem wd522 : Cond.code yX8_inn cX8_inn 2 (some .int) ∈ tblG := gw7 219 (by decide +kernel) (by decide +kernel)
theorem pl_X8_inn : Plain yX8_inn 1 := ⟨by decide, by decide, by decide +kernel⟩
theorem lk_L_88 : LkV RL 88 8 yX8_inn cX8_inn 2 (some .int) 1 := ⟨⟨TX8, 41, rfl⟩, wd519, wd520, wd521, wd238, wd522, pl_X8_inn⟩
theorem wd523 : Cond.methodLink RL 89 yX7_trail ∈ tblG := gw3 211 (by decide +kernel) (by decide +kernel)
theorem wd524 : Cond.instanceMethod yX7_trail ∈ tblG := gw3 212 (by decide +kernel) (by decide +kernel)
theorem wd525 : Cond.selects RX7 yX7_trail yX7_trail ∈ tblG := gw3 213 (by decide +kernel) (by decide +kernel)
theorem wd526 : Cond.code yX7_trail cX7_trail 2 (some .int) ∈ tblG := gw3 214 (by decide +kernel) (by decide +kernel)
theorem pl_X7_trail : Plain yX7_trail 1 := ⟨by decide, by decide, by decide +kernel⟩
theorem lk_L_89 : LkV RL 89 7 yX7_trail cX7_trail 2 (some .int) 1 := ⟨⟨TX7, 12, rfl⟩, wd523, wd524, wd525, wd33, wd526, pl_X7_trail⟩
theorem wd527 : Cond.methodLink RL 92 yX8_trail ∈ tblG := gw7 220 (by decide +kernel) (by decide +kernel)
theorem wd528 : Cond.instanceMethod yX8_trail ∈ tblG := gw7 221 (by decide +kernel) (by decide +kernel)
theorem wd529 : Cond.selects RX8 yX8_trail yX8_trail ∈ tblG := gw7 222 (by decide +kernel) (by decide +kernel)
theorem wd530 : Cond.code yX8_trail cX8_trail 2 (some .int) ∈ tblG := gw7 223 (by decide +kernel) (by decide +kernel)
theorem pl_X8_trail : Plain yX8_trail 1 := ⟨by decide, by decide, by decide +kernel⟩
theorem lk_L_92 : LkV RL 92 8 yX8_trail cX8_trail 2 (some .int) 1 := ⟨⟨TX8, 41, rfl⟩, wd527, wd528, wd529, wd238, wd530, pl_X8_trail⟩
theorem wd531 : Cond.methodLink RL 93 yX7_again ∈ tblG := gw3 223 (by decide +kernel) (by decide +kernel)
theorem wd532 : Cond.instanceMethod yX7_again ∈ tblG := gw3 224 (by decide +kernel) (by decide +kernel)
theorem wd533 : Cond.selects RX7 yX7_again yX7_again ∈ tblG := gw3 225 (by decide +kernel) (by decide +kernel)
theorem wd534 : Cond.code yX7_again cX7_again 2 (some .int) ∈ tblG := gw3 226 (by decide +kernel) (by decide +kernel)
theorem pl_X7_again : Plain yX7_again 1 := ⟨by decide, by decide, by decide +kernel⟩
theorem lk_L_93 : LkV RL 93 7 yX7_again cX7_again 2 (some .int) 1 := ⟨⟨TX7, 12, rfl⟩, wd531, wd532, wd533, wd33, wd534, pl_X7_again⟩
theorem wd535 : Cond.methodLink RL 96 yX8_again ∈ tblG := gw7 229 (by decide +kernel) (by decide +kernel)
theorem wd536 : Cond.instanceMethod yX8_again ∈ tblG := gw7 230 (by decide +kernel) (by decide +kernel)
theorem wd537 : Cond.selects RX8 yX8_again yX8_again ∈ tblG := gw7 231 (by decide +kernel) (by decide +kernel)
theorem wd538 : Cond.code yX8_again cX8_again 5 (some .int) ∈ tblG := gw7 232 (by decide +kernel) (by decide +kernel)
theorem pl_X8_again : Plain yX8_again 1 := ⟨by decide, by decide, by decide +kernel⟩
theorem lk_L_96 : LkV RL 96 8 yX8_again cX8_again 5 (some .int) 1 := ⟨⟨TX8, 41, rfl⟩, wd535, wd536, wd537, wd238, wd538, pl_X8_again⟩
theorem wd539 : Cond.methodLink RL 97 yX7_lingers ∈ tblG := gw3 231 (by decide +kernel) (by decide +kernel)
theorem wd540 : Cond.instanceMethod yX7_lingers ∈ tblG := gw3 232 (by decide +kernel) (by decide +kernel)
theorem wd541 : Cond.selects RX7 yX7_lingers yX7_lingers ∈ tblG := gw3 233 (by decide +kernel) (by decide +kernel)
theorem wd542 : Cond.code yX7_lingers cX7_lingers 2 (some .int) ∈ tblG := gw3 234 (by decide +kernel) (by decide +kernel)
theorem pl_X7_lingers : Plain yX7_lingers 1 := ⟨by decide, by decide, by decide +kernel⟩
theorem lk_L_97 : LkV RL 97 7 yX7_lingers cX7_lingers 2 (some .int) 1 := ⟨⟨TX7, 12, rfl⟩, wd539, wd540, wd541, wd33, wd542, pl_X7_lingers⟩
theorem wd543 : Cond.methodLink RL 100 yX8_lingers ∈ tblG := gw7 233 (by decide +kernel) (by decide +kernel)
theorem wd544 : Cond.instanceMethod yX8_lingers ∈ tblG := gw7 234 (by decide +kernel) (by decide +kernel)
theorem wd545 : Cond.selects RX8 yX8_lingers yX8_lingers ∈ tblG := gw7 235 (by decide +kernel) (by decide +kernel)
theorem wd546 : Cond.code yX8_lingers cX8_lingers 4 (some .int) ∈ tblG := gw7 236 (by decide +kernel) (by decide +kernel)
theorem pl_X8_lingers : Plain yX8_lingers 1 := ⟨by decide, by decide, by decide +kernel⟩
theorem lk_L_100 : LkV RL 100 8 yX8_lingers cX8_lingers 4 (some .int) 1 := ⟨⟨TX8, 41, rfl⟩, wd543, wd544, wd545, wd238, wd546, pl_X8_lingers⟩
theorem wd547 : Cond.methodLink RL 101 yX7_doors ∈ tblG := gw3 239 (by decide +kernel) (by decide +kernel)
theorem wd548 : Cond.instanceMethod yX7_doors ∈ tblG := gw4 0 (by decide +kernel) (by decide +kernel)
theorem wd549 : Cond.selects RX7 yX7_doors yX7_doors ∈ tblG := gw4 1 (by decide +kernel) (by decide +kernel)
theorem wd550 : Cond.code yX7_doors cX7_doors 2 (some .int) ∈ tblG := gw4 2 (by decide +kernel) (by decide +kernel)
theorem pl_X7_doors : Plain yX7_doors 1 := ⟨by decide, by decide, by decide +kernel⟩
theorem lk_L_101 : LkV RL 101 7 yX7_doors cX7_doors 2 (some .int) 1 := ⟨⟨TX7, 12, rfl⟩, wd547, wd548, wd549, wd33, wd550, pl_X7_doors⟩
theorem wd551 : Cond.methodLink RL 104 yX8_doors ∈ tblG := gw7 88 (by decide +kernel) (by decide +kernel)
theorem wd552 : Cond.instanceMethod yX8_doors ∈ tblG := gw7 89 (by decide +kernel) (by decide +kernel)
theorem wd553 : Cond.selects RX8 yX8_doors yX8_doors ∈ tblG := gw7 90 (by decide +kernel) (by decide +kernel)
theorem wd554 : Cond.code yX8_doors cX8_doors 4 (some .int) ∈ tblG := gw7 91 (by decide +kernel) (by decide +kernel)
theorem pl_X8_doors : Plain yX8_doors 1 := ⟨by decide, by decide, by decide +kernel⟩
theorem lk_L_104 : LkV RL 104 8 yX8_doors cX8_doors 4 (some .int) 1 := ⟨⟨TX8, 41, rfl⟩, wd551, wd552, wd553, wd238, wd554, pl_X8_doors⟩
theorem wd555 : Cond.methodLink RL 105 yX7_guests ∈ tblG := gw4 8 (by decide +kernel) (by decide +kernel)
theorem wd556 : Cond.instanceMethod yX7_guests ∈ tblG := gw4 9 (by decide +kernel) (by decide +kernel)
theorem wd557 : Cond.selects RX7 yX7_guests yX7_guests ∈ tblG := gw4 10 (by decide +kernel) (by decide +kernel)
theorem wd558 : Cond.code yX7_guests cX7_guests 3 (some .int) ∈ tblG := gw4 11 (by decide +kernel) (by decide +kernel)
theorem pl_X7_guests : Plain yX7_guests 2 := ⟨by decide, by decide, by decide +kernel⟩
theorem lk_L_105 : LkV RL 105 7 yX7_guests cX7_guests 3 (some .int) 2 := ⟨⟨TX7, 12, rfl⟩, wd555, wd556, wd557, wd33, wd558, pl_X7_guests⟩
theorem wd559 : Cond.methodLink RL 108 yX8_guests ∈ tblG := gw7 237 (by decide +kernel) (by decide +kernel)
theorem wd560 : Cond.instanceMethod yX8_guests ∈ tblG := gw7 238 (by decide +kernel) (by decide +kernel)
theorem wd561 : Cond.selects RX8 yX8_guests yX8_guests ∈ tblG := gw7 239 (by decide +kernel) (by decide +kernel)
theorem wd562 : Cond.code yX8_guests cX8_guests 3 (some .int) ∈ tblG := gw8 0 (by decide +kernel) (by decide +kernel)
theorem pl_X8_guests : Plain yX8_guests 2 := ⟨by decide, by decide, by decide +kernel⟩
theorem lk_L_108 : LkV RL 108 8 yX8_guests cX8_guests 3 (some .int) 2 := ⟨⟨TX8, 41, rfl⟩, wd559, wd560, wd561, wd238, wd562, pl_X8_guests⟩
theorem wd563 : Cond.methodLink RL 109 yX7_full ∈ tblG := gw4 23 (by decide +kernel) (by decide +kernel)
theorem wd564 : Cond.instanceMethod yX7_full ∈ tblG := gw4 24 (by decide +kernel) (by decide +kernel)
theorem wd565 : Cond.selects RX7 yX7_full yX7_full ∈ tblG := gw4 25 (by decide +kernel) (by decide +kernel)
theorem wd566 : Cond.code yX7_full cX7_full 2 (some .int) ∈ tblG := gw4 26 (by decide +kernel) (by decide +kernel)
theorem pl_X7_full : Plain yX7_full 1 := ⟨by decide, by decide, by decide +kernel⟩
theorem lk_L_109 : LkV RL 109 7 yX7_full cX7_full 2 (some .int) 1 := ⟨⟨TX7, 12, rfl⟩, wd563, wd564, wd565, wd33, wd566, pl_X7_full⟩
theorem wd567 : Cond.methodLink RL 112 yX8_full ∈ tblG := gw8 8 (by decide +kernel) (by decide +kernel)
theorem wd568 : Cond.instanceMethod yX8_full ∈ tblG := gw8 9 (by decide +kernel) (by decide +kernel)
theorem wd569 : Cond.selects RX8 yX8_full yX8_full ∈ tblG := gw8 10 (by decide +kernel) (by decide +kernel)
theorem wd570 : Cond.code yX8_full cX8_full 3 (some .int) ∈ tblG := gw8 11 (by decide +kernel) (by decide +kernel)
theorem pl_X8_full : Plain yX8_full 1 := ⟨by decide, by decide, by decide +kernel⟩
theorem lk_L_112 : LkV RL 112 8 yX8_full cX8_full 3 (some .int) 1 := ⟨⟨TX8, 41, rfl⟩, wd567, wd568, wd569, wd238, wd570, pl_X8_full⟩
theorem wd571 : Cond.methodLink RL 113 yX7_refuses ∈ tblG := gw4 32 (by decide +kernel) (by decide +kernel)
theorem wd572 : Cond.instanceMethod yX7_refuses ∈ tblG := gw4 33 (by decide +kernel) (by decide +kernel)
theorem wd573 : Cond.selects RX7 yX7_refuses yX7_refuses ∈ tblG := gw4 34 (by decide +kernel) (by decide +kernel)
theorem wd574 : Cond.code yX7_refuses cX7_refuses 2 (some .int) ∈ tblG := gw4 35 (by decide +kernel) (by decide +kernel)
theorem pl_X7_refuses : Plain yX7_refuses 1 := ⟨by decide, by decide, by decide +kernel⟩
theorem lk_L_113 : LkV RL 113 7 yX7_refuses cX7_refuses 2 (some .int) 1 := ⟨⟨TX7, 12, rfl⟩, wd571, wd572, wd573, wd33, wd574, pl_X7_refuses⟩
theorem wd575 : Cond.methodLink RL 116 yX8_refuses ∈ tblG := gw8 12 (by decide +kernel) (by decide +kernel)
theorem wd576 : Cond.instanceMethod yX8_refuses ∈ tblG := gw8 13 (by decide +kernel) (by decide +kernel)
theorem wd577 : Cond.selects RX8 yX8_refuses yX8_refuses ∈ tblG := gw8 14 (by decide +kernel) (by decide +kernel)
theorem wd578 : Cond.code yX8_refuses cX8_refuses 2 (some .int) ∈ tblG := gw8 15 (by decide +kernel) (by decide +kernel)
theorem pl_X8_refuses : Plain yX8_refuses 1 := ⟨by decide, by decide, by decide +kernel⟩
theorem lk_L_116 : LkV RL 116 8 yX8_refuses cX8_refuses 2 (some .int) 1 := ⟨⟨TX8, 41, rfl⟩, wd575, wd576, wd577, wd238, wd578, pl_X8_refuses⟩
theorem wd579 : Cond.methodLink RL 117 yX7_inside ∈ tblG := gw4 44 (by decide +kernel) (by decide +kernel)
theorem wd580 : Cond.instanceMethod yX7_inside ∈ tblG := gw4 45 (by decide +kernel) (by decide +kernel)
theorem wd581 : Cond.selects RX7 yX7_inside yX7_inside ∈ tblG := gw4 46 (by decide +kernel) (by decide +kernel)
theorem wd582 : Cond.code yX7_inside cX7_inside 2 (some .int) ∈ tblG := gw4 47 (by decide +kernel) (by decide +kernel)
theorem pl_X7_inside : Plain yX7_inside 1 := ⟨by decide, by decide, by decide +kernel⟩
theorem lk_L_117 : LkV RL 117 7 yX7_inside cX7_inside 2 (some .int) 1 := ⟨⟨TX7, 12, rfl⟩, wd579, wd580, wd581, wd33, wd582, pl_X7_inside⟩
theorem wd583 : Cond.methodLink RL 120 yX8_inside ∈ tblG := gw8 16 (by decide +kernel) (by decide +kernel)
theorem wd584 : Cond.instanceMethod yX8_inside ∈ tblG := gw8 17 (by decide +kernel) (by decide +kernel)
theorem wd585 : Cond.selects RX8 yX8_inside yX8_inside ∈ tblG := gw8 18 (by decide +kernel) (by decide +kernel)
theorem wd586 : Cond.code yX8_inside cX8_inside 2 (some .int) ∈ tblG := gw8 19 (by decide +kernel) (by decide +kernel)
theorem pl_X8_inside : Plain yX8_inside 1 := ⟨by decide, by decide, by decide +kernel⟩
theorem lk_L_120 : LkV RL 120 8 yX8_inside cX8_inside 2 (some .int) 1 := ⟨⟨TX8, 41, rfl⟩, wd583, wd584, wd585, wd238, wd586, pl_X8_inside⟩
theorem wd587 : Cond.methodLink RL 121 yX7_outside ∈ tblG := gw4 52 (by decide +kernel) (by decide +kernel)
theorem wd588 : Cond.instanceMethod yX7_outside ∈ tblG := gw4 53 (by decide +kernel) (by decide +kernel)
theorem wd589 : Cond.selects RX7 yX7_outside yX7_outside ∈ tblG := gw4 54 (by decide +kernel) (by decide +kernel)
theorem wd590 : Cond.code yX7_outside cX7_outside 2 (some .int) ∈ tblG := gw4 55 (by decide +kernel) (by decide +kernel)
theorem pl_X7_outside : Plain yX7_outside 1 := ⟨by decide, by decide, by decide +kernel⟩
theorem lk_L_121 : LkV RL 121 7 yX7_outside cX7_outside 2 (some .int) 1 := ⟨⟨TX7, 12, rfl⟩, wd587, wd588, wd589, wd33, wd590, pl_X7_outside⟩
theorem wd591 : Cond.methodLink RL 124 yX8_outside ∈ tblG := gw8 24 (by decide +kernel) (by decide +kernel)
theorem wd592 : Cond.instanceMethod yX8_outside ∈ tblG := gw8 25 (by decide +kernel) (by decide +kernel)
theorem wd593 : Cond.selects RX8 yX8_outside yX8_outside ∈ tblG := gw8 26 (by decide +kernel) (by decide +kernel)
theorem wd594 : Cond.code yX8_outside cX8_outside 4 (some .int) ∈ tblG := gw8 27 (by decide +kernel) (by decide +kernel)
theorem pl_X8_outside : Plain yX8_outside 1 := ⟨by decide, by decide, by decide +kernel⟩
theorem lk_L_124 : LkV RL 124 8 yX8_outside cX8_outside 4 (some .int) 1 := ⟨⟨TX8, 41, rfl⟩, wd591, wd592, wd593, wd238, wd594, pl_X8_outside⟩
theorem wd595 : Cond.methodLink RL 125 yX7_done ∈ tblG := gw4 60 (by decide +kernel) (by decide +kernel)
theorem wd596 : Cond.instanceMethod yX7_done ∈ tblG := gw4 61 (by decide +kernel) (by decide +kernel)
theorem wd597 : Cond.selects RX7 yX7_done yX7_done ∈ tblG := gw4 62 (by decide +kernel) (by decide +kernel)
theorem wd598 : Cond.code yX7_done cX7_done 1 (some .int) ∈ tblG := gw4 63 (by decide +kernel) (by decide +kernel)
theorem pl_X7_done : Plain yX7_done 0 := ⟨by decide, by decide, by decide +kernel⟩
theorem lk_L_125 : LkV RL 125 7 yX7_done cX7_done 1 (some .int) 0 := ⟨⟨TX7, 12, rfl⟩, wd595, wd596, wd597, wd33, wd598, pl_X7_done⟩
theorem wd599 : Cond.methodLink RL 128 yX8_done ∈ tblG := gw8 28 (by decide +kernel) (by decide +kernel)
theorem wd600 : Cond.instanceMethod yX8_done ∈ tblG := gw8 29 (by decide +kernel) (by decide +kernel)
theorem wd601 : Cond.selects RX8 yX8_done yX8_done ∈ tblG := gw8 30 (by decide +kernel) (by decide +kernel)
theorem wd602 : Cond.code yX8_done cX8_done 2 (some .int) ∈ tblG := gw8 31 (by decide +kernel) (by decide +kernel)
theorem pl_X8_done : Plain yX8_done 0 := ⟨by decide, by decide, by decide +kernel⟩
theorem lk_L_128 : LkV RL 128 8 yX8_done cX8_done 2 (some .int) 0 := ⟨⟨TX8, 41, rfl⟩, wd599, wd600, wd601, wd238, wd602, pl_X8_done⟩
theorem wd603 : Cond.methodLink RL 129 yX7_crowd ∈ tblG := gw4 70 (by decide +kernel) (by decide +kernel)
theorem wd604 : Cond.instanceMethod yX7_crowd ∈ tblG := gw4 71 (by decide +kernel) (by decide +kernel)
theorem wd605 : Cond.selects RX7 yX7_crowd yX7_crowd ∈ tblG := gw4 72 (by decide +kernel) (by decide +kernel)
theorem wd606 : Cond.code yX7_crowd cX7_crowd 2 (some .int) ∈ tblG := gw4 73 (by decide +kernel) (by decide +kernel)
theorem pl_X7_crowd : Plain yX7_crowd 1 := ⟨by decide, by decide, by decide +kernel⟩
theorem lk_L_129 : LkV RL 129 7 yX7_crowd cX7_crowd 2 (some .int) 1 := ⟨⟨TX7, 12, rfl⟩, wd603, wd604, wd605, wd33, wd606, pl_X7_crowd⟩
theorem wd607 : Cond.methodLink RL 132 yX8_crowd ∈ tblG := gw8 32 (by decide +kernel) (by decide +kernel)
theorem wd608 : Cond.instanceMethod yX8_crowd ∈ tblG := gw8 33 (by decide +kernel) (by decide +kernel)
theorem wd609 : Cond.selects RX8 yX8_crowd yX8_crowd ∈ tblG := gw8 34 (by decide +kernel) (by decide +kernel)
theorem wd610 : Cond.code yX8_crowd cX8_crowd 4 (some .int) ∈ tblG := gw8 35 (by decide +kernel) (by decide +kernel)
theorem pl_X8_crowd : Plain yX8_crowd 1 := ⟨by decide, by decide, by decide +kernel⟩
theorem lk_L_132 : LkV RL 132 8 yX8_crowd cX8_crowd 4 (some .int) 1 := ⟨⟨TX8, 41, rfl⟩, wd607, wd608, wd609, wd238, wd610, pl_X8_crowd⟩
theorem wd611 : Cond.methodLink RL 133 yX7_armless ∈ tblG := gw4 81 (by decide +kernel) (by decide +kernel)
theorem wd612 : Cond.instanceMethod yX7_armless ∈ tblG := gw4 82 (by decide +kernel) (by decide +kernel)
theorem wd613 : Cond.selects RX7 yX7_armless yX7_armless ∈ tblG := gw4 83 (by decide +kernel) (by decide +kernel)
theorem wd614 : Cond.code yX7_armless cX7_armless 1 (some .int) ∈ tblG := gw4 84 (by decide +kernel) (by decide +kernel)
theorem pl_X7_armless : Plain yX7_armless 0 := ⟨by decide, by decide, by decide +kernel⟩
theorem lk_L_133 : LkV RL 133 7 yX7_armless cX7_armless 1 (some .int) 0 := ⟨⟨TX7, 12, rfl⟩, wd611, wd612, wd613, wd33, wd614, pl_X7_armless⟩
theorem wd615 : Cond.methodLink RL 136 yX8_armless ∈ tblG := gw7 92 (by decide +kernel) (by decide +kernel)
theorem wd616 : Cond.instanceMethod yX8_armless ∈ tblG := gw7 93 (by decide +kernel) (by decide +kernel)
theorem wd617 : Cond.selects RX8 yX8_armless yX8_armless ∈ tblG := gw7 94 (by decide +kernel) (by decide +kernel)
theorem wd618 : Cond.code yX8_armless cX8_armless 3 (some .int) ∈ tblG := gw7 95 (by decide +kernel) (by decide +kernel)
theorem pl_X8_armless : Plain yX8_armless 0 := ⟨by decide, by decide, by decide +kernel⟩
theorem lk_L_136 : LkV RL 136 8 yX8_armless cX8_armless 3 (some .int) 0 := ⟨⟨TX8, 41, rfl⟩, wd615, wd616, wd617, wd238, wd618, pl_X8_armless⟩
theorem wd619 : Cond.methodLink RL 137 yX7_meet ∈ tblG := gw4 90 (by decide +kernel) (by decide +kernel)
theorem wd620 : Cond.instanceMethod yX7_meet ∈ tblG := gw4 91 (by decide +kernel) (by decide +kernel)
theorem wd621 : Cond.selects RX7 yX7_meet yX7_meet ∈ tblG := gw4 92 (by decide +kernel) (by decide +kernel)
theorem wd622 : Cond.code yX7_meet cX7_meet 3 (some .int) ∈ tblG := gw4 93 (by decide +kernel) (by decide +kernel)
theorem pl_X7_meet : Plain yX7_meet 2 := ⟨by decide, by decide, by decide +kernel⟩
theorem lk_L_137 : LkV RL 137 7 yX7_meet cX7_meet 3 (some .int) 2 := ⟨⟨TX7, 12, rfl⟩, wd619, wd620, wd621, wd33, wd622, pl_X7_meet⟩
theorem wd623 : Cond.methodLink RL 140 yX8_meet ∈ tblG := gw8 37 (by decide +kernel) (by decide +kernel)
theorem wd624 : Cond.instanceMethod yX8_meet ∈ tblG := gw8 38 (by decide +kernel) (by decide +kernel)
theorem wd625 : Cond.selects RX8 yX8_meet yX8_meet ∈ tblG := gw8 39 (by decide +kernel) (by decide +kernel)
theorem wd626 : Cond.code yX8_meet cX8_meet 4 (some .int) ∈ tblG := gw8 40 (by decide +kernel) (by decide +kernel)
theorem pl_X8_meet : Plain yX8_meet 2 := ⟨by decide, by decide, by decide +kernel⟩
theorem lk_L_140 : LkV RL 140 8 yX8_meet cX8_meet 4 (some .int) 2 := ⟨⟨TX8, 41, rfl⟩, wd623, wd624, wd625, wd238, wd626, pl_X8_meet⟩
theorem wd627 : Cond.methodLink RL 141 yX7_busy ∈ tblG := gw4 102 (by decide +kernel) (by decide +kernel)
theorem wd628 : Cond.instanceMethod yX7_busy ∈ tblG := gw4 103 (by decide +kernel) (by decide +kernel)
theorem wd629 : Cond.selects RX7 yX7_busy yX7_busy ∈ tblG := gw4 104 (by decide +kernel) (by decide +kernel)
theorem wd630 : Cond.code yX7_busy cX7_busy 5 (some .int) ∈ tblG := gw4 105 (by decide +kernel) (by decide +kernel)
theorem pl_X7_busy : Plain yX7_busy 0 := ⟨by decide, by decide, by decide +kernel⟩
theorem lk_L_141 : LkV RL 141 7 yX7_busy cX7_busy 5 (some .int) 0 := ⟨⟨TX7, 12, rfl⟩, wd627, wd628, wd629, wd33, wd630, pl_X7_busy⟩
theorem wd631 : Cond.methodLink RL 144 yX8_busy ∈ tblG := gw8 45 (by decide +kernel) (by decide +kernel)
theorem wd632 : Cond.instanceMethod yX8_busy ∈ tblG := gw8 46 (by decide +kernel) (by decide +kernel)
theorem wd633 : Cond.selects RX8 yX8_busy yX8_busy ∈ tblG := gw8 47 (by decide +kernel) (by decide +kernel)
theorem wd634 : Cond.code yX8_busy cX8_busy 3 (some .int) ∈ tblG := gw8 48 (by decide +kernel) (by decide +kernel)
theorem pl_X8_busy : Plain yX8_busy 0 := ⟨by decide, by decide, by decide +kernel⟩
theorem lk_L_144 : LkV RL 144 8 yX8_busy cX8_busy 3 (some .int) 0 := ⟨⟨TX8, 41, rfl⟩, wd631, wd632, wd633, wd238, wd634, pl_X8_busy⟩
theorem wd635 : Cond.methodLink RL 145 yX7_idle ∈ tblG := gw4 106 (by decide +kernel) (by decide +kernel)
theorem wd636 : Cond.instanceMethod yX7_idle ∈ tblG := gw4 107 (by decide +kernel) (by decide +kernel)
theorem wd637 : Cond.selects RX7 yX7_idle yX7_idle ∈ tblG := gw4 108 (by decide +kernel) (by decide +kernel)
theorem wd638 : Cond.code yX7_idle cX7_idle 3 (some .int) ∈ tblG := gw4 109 (by decide +kernel) (by decide +kernel)
theorem pl_X7_idle : Plain yX7_idle 0 := ⟨by decide, by decide, by decide +kernel⟩
theorem lk_L_145 : LkV RL 145 7 yX7_idle cX7_idle 3 (some .int) 0 := ⟨⟨TX7, 12, rfl⟩, wd635, wd636, wd637, wd33, wd638, pl_X7_idle⟩
theorem wd639 : Cond.methodLink RL 148 yX8_idle ∈ tblG := gw8 49 (by decide +kernel) (by decide +kernel)
theorem wd640 : Cond.instanceMethod yX8_idle ∈ tblG := gw8 50 (by decide +kernel) (by decide +kernel)
theorem wd641 : Cond.selects RX8 yX8_idle yX8_idle ∈ tblG := gw8 51 (by decide +kernel) (by decide +kernel)
theorem wd642 : Cond.code yX8_idle cX8_idle 3 (some .int) ∈ tblG := gw8 52 (by decide +kernel) (by decide +kernel)
theorem pl_X8_idle : Plain yX8_idle 0 := ⟨by decide, by decide, by decide +kernel⟩
theorem lk_L_148 : LkV RL 148 8 yX8_idle cX8_idle 3 (some .int) 0 := ⟨⟨TX8, 41, rfl⟩, wd639, wd640, wd641, wd238, wd642, pl_X8_idle⟩
theorem wd643 : Cond.methodLink RL 149 yX7_reach ∈ tblG := gw4 110 (by decide +kernel) (by decide +kernel)
theorem wd644 : Cond.instanceMethod yX7_reach ∈ tblG := gw4 111 (by decide +kernel) (by decide +kernel)
theorem wd645 : Cond.selects RX7 yX7_reach yX7_reach ∈ tblG := gw4 112 (by decide +kernel) (by decide +kernel)
theorem wd646 : Cond.code yX7_reach cX7_reach 2 (some .int) ∈ tblG := gw4 113 (by decide +kernel) (by decide +kernel)
theorem pl_X7_reach : Plain yX7_reach 1 := ⟨by decide, by decide, by decide +kernel⟩
theorem lk_L_149 : LkV RL 149 7 yX7_reach cX7_reach 2 (some .int) 1 := ⟨⟨TX7, 12, rfl⟩, wd643, wd644, wd645, wd33, wd646, pl_X7_reach⟩
theorem wd647 : Cond.methodLink RL 152 yX8_reach ∈ tblG := gw8 53 (by decide +kernel) (by decide +kernel)
theorem wd648 : Cond.instanceMethod yX8_reach ∈ tblG := gw8 54 (by decide +kernel) (by decide +kernel)
theorem wd649 : Cond.selects RX8 yX8_reach yX8_reach ∈ tblG := gw8 55 (by decide +kernel) (by decide +kernel)
theorem wd650 : Cond.code yX8_reach cX8_reach 4 (some .int) ∈ tblG := gw8 56 (by decide +kernel) (by decide +kernel)
theorem pl_X8_reach : Plain yX8_reach 1 := ⟨by decide, by decide, by decide +kernel⟩
theorem lk_L_152 : LkV RL 152 8 yX8_reach cX8_reach 4 (some .int) 1 := ⟨⟨TX8, 41, rfl⟩, wd647, wd648, wd649, wd238, wd650, pl_X8_reach⟩
theorem wd651 : Cond.methodLink RL 153 yX7_far ∈ tblG := gw4 122 (by decide +kernel) (by decide +kernel)
theorem wd652 : Cond.instanceMethod yX7_far ∈ tblG := gw4 123 (by decide +kernel) (by decide +kernel)
theorem wd653 : Cond.selects RX7 yX7_far yX7_far ∈ tblG := gw4 124 (by decide +kernel) (by decide +kernel)
theorem wd654 : Cond.code yX7_far cX7_far 3 (some .int) ∈ tblG := gw4 125 (by decide +kernel) (by decide +kernel)
theorem pl_X7_far : Plain yX7_far 2 := ⟨by decide, by decide, by decide +kernel⟩
theorem lk_L_153 : LkV RL 153 7 yX7_far cX7_far 3 (some .int) 2 := ⟨⟨TX7, 12, rfl⟩, wd651, wd652, wd653, wd33, wd654, pl_X7_far⟩
theorem wd655 : Cond.methodLink RL 156 yX8_far ∈ tblG := gw8 61 (by decide +kernel) (by decide +kernel)
theorem wd656 : Cond.instanceMethod yX8_far ∈ tblG := gw8 62 (by decide +kernel) (by decide +kernel)
theorem wd657 : Cond.selects RX8 yX8_far yX8_far ∈ tblG := gw8 63 (by decide +kernel) (by decide +kernel)
theorem wd658 : Cond.code yX8_far cX8_far 5 (some .int) ∈ tblG := gw8 64 (by decide +kernel) (by decide +kernel)
theorem pl_X8_far : Plain yX8_far 2 := ⟨by decide, by decide, by decide +kernel⟩
theorem lk_L_156 : LkV RL 156 8 yX8_far cX8_far 5 (some .int) 2 := ⟨⟨TX8, 41, rfl⟩, wd655, wd656, wd657, wd238, wd658, pl_X8_far⟩
theorem wd659 : Cond.methodLink RL 157 yX7_setting ∈ tblG := gw4 130 (by decide +kernel) (by decide +kernel)
theorem wd660 : Cond.instanceMethod yX7_setting ∈ tblG := gw4 131 (by decide +kernel) (by decide +kernel)
theorem wd661 : Cond.selects RX7 yX7_setting yX7_setting ∈ tblG := gw4 132 (by decide +kernel) (by decide +kernel)
theorem wd662 : Cond.code yX7_setting cX7_setting 2 (some .int) ∈ tblG := gw4 133 (by decide +kernel) (by decide +kernel)
theorem pl_X7_setting : Plain yX7_setting 1 := ⟨by decide, by decide, by decide +kernel⟩
theorem lk_L_157 : LkV RL 157 7 yX7_setting cX7_setting 2 (some .int) 1 := ⟨⟨TX7, 12, rfl⟩, wd659, wd660, wd661, wd33, wd662, pl_X7_setting⟩
theorem wd663 : Cond.methodLink RL 160 yX8_setting ∈ tblG := gw8 65 (by decide +kernel) (by decide +kernel)
theorem wd664 : Cond.instanceMethod yX8_setting ∈ tblG := gw8 66 (by decide +kernel) (by decide +kernel)
theorem wd665 : Cond.selects RX8 yX8_setting yX8_setting ∈ tblG := gw8 67 (by decide +kernel) (by decide +kernel)
theorem wd666 : Cond.code yX8_setting cX8_setting 2 (some .int) ∈ tblG := gw8 68 (by decide +kernel) (by decide +kernel)
theorem pl_X8_setting : Plain yX8_setting 1 := ⟨by decide, by decide, by decide +kernel⟩
theorem lk_L_160 : LkV RL 160 8 yX8_setting cX8_setting 2 (some .int) 1 := ⟨⟨TX8, 41, rfl⟩, wd663, wd664, wd665, wd238, wd666, pl_X8_setting⟩
theorem wd667 : Cond.methodLink RL 161 yX7_settings ∈ tblG := gw4 142 (by decide +kernel) (by decide +kernel)
theorem wd668 : Cond.instanceMethod yX7_settings ∈ tblG := gw4 143 (by decide +kernel) (by decide +kernel)
theorem wd669 : Cond.selects RX7 yX7_settings yX7_settings ∈ tblG := gw4 144 (by decide +kernel) (by decide +kernel)
theorem wd670 : Cond.code yX7_settings cX7_settings 1 (some .int) ∈ tblG := gw4 145 (by decide +kernel) (by decide +kernel)
theorem pl_X7_settings : Plain yX7_settings 0 := ⟨by decide, by decide, by decide +kernel⟩
theorem lk_L_161 : LkV RL 161 7 yX7_settings cX7_settings 1 (some .int) 0 := ⟨⟨TX7, 12, rfl⟩, wd667, wd668, wd669, wd33, wd670, pl_X7_settings⟩
theorem wd671 : Cond.methodLink RL 164 yX8_settings ∈ tblG := gw8 81 (by decide +kernel) (by decide +kernel)
theorem wd672 : Cond.instanceMethod yX8_settings ∈ tblG := gw8 82 (by decide +kernel) (by decide +kernel)
theorem wd673 : Cond.selects RX8 yX8_settings yX8_settings ∈ tblG := gw8 83 (by decide +kernel) (by decide +kernel)
theorem wd674 : Cond.code yX8_settings cX8_settings 1 (some .int) ∈ tblG := gw8 84 (by decide +kernel) (by decide +kernel)
theorem pl_X8_settings : Plain yX8_settings 0 := ⟨by decide, by decide, by decide +kernel⟩
theorem lk_L_164 : LkV RL 164 8 yX8_settings cX8_settings 1 (some .int) 0 := ⟨⟨TX8, 41, rfl⟩, wd671, wd672, wd673, wd238, wd674, pl_X8_settings⟩
theorem wd675 : Cond.methodLink RL 165 yX7_same ∈ tblG := gw4 150 (by decide +kernel) (by decide +kernel)
theorem wd676 : Cond.instanceMethod yX7_same ∈ tblG := gw4 151 (by decide +kernel) (by decide +kernel)
theorem wd677 : Cond.selects RX7 yX7_same yX7_same ∈ tblG := gw4 152 (by decide +kernel) (by decide +kernel)
theorem wd678 : Cond.code yX7_same cX7_same 3 (some .int) ∈ tblG := gw4 153 (by decide +kernel) (by decide +kernel)
theorem pl_X7_same : Plain yX7_same 0 := ⟨by decide, by decide, by decide +kernel⟩
theorem lk_L_165 : LkV RL 165 7 yX7_same cX7_same 3 (some .int) 0 := ⟨⟨TX7, 12, rfl⟩, wd675, wd676, wd677, wd33, wd678, pl_X7_same⟩
theorem wd679 : Cond.methodLink RL 168 yX8_same ∈ tblG := gw8 89 (by decide +kernel) (by decide +kernel)
theorem wd680 : Cond.instanceMethod yX8_same ∈ tblG := gw8 90 (by decide +kernel) (by decide +kernel)
theorem wd681 : Cond.selects RX8 yX8_same yX8_same ∈ tblG := gw8 91 (by decide +kernel) (by decide +kernel)
theorem wd682 : Cond.code yX8_same cX8_same 2 (some .int) ∈ tblG := gw8 92 (by decide +kernel) (by decide +kernel)
theorem pl_X8_same : Plain yX8_same 0 := ⟨by decide, by decide, by decide +kernel⟩
theorem lk_L_168 : LkV RL 168 8 yX8_same cX8_same 2 (some .int) 0 := ⟨⟨TX8, 41, rfl⟩, wd679, wd680, wd681, wd238, wd682, pl_X8_same⟩
theorem wd683 : Cond.methodLink RL 169 yX7_alone ∈ tblG := gw4 154 (by decide +kernel) (by decide +kernel)
theorem wd684 : Cond.instanceMethod yX7_alone ∈ tblG := gw4 155 (by decide +kernel) (by decide +kernel)
theorem wd685 : Cond.selects RX7 yX7_alone yX7_alone ∈ tblG := gw4 156 (by decide +kernel) (by decide +kernel)
theorem wd686 : Cond.code yX7_alone cX7_alone 2 (some .int) ∈ tblG := gw4 157 (by decide +kernel) (by decide +kernel)
theorem pl_X7_alone : Plain yX7_alone 1 := ⟨by decide, by decide, by decide +kernel⟩
theorem lk_L_169 : LkV RL 169 7 yX7_alone cX7_alone 2 (some .int) 1 := ⟨⟨TX7, 12, rfl⟩, wd683, wd684, wd685, wd33, wd686, pl_X7_alone⟩
theorem wd687 : Cond.methodLink RL 172 yX8_alone ∈ tblG := gw8 117 (by decide +kernel) (by decide +kernel)
theorem wd688 : Cond.instanceMethod yX8_alone ∈ tblG := gw8 118 (by decide +kernel) (by decide +kernel)
theorem wd689 : Cond.selects RX8 yX8_alone yX8_alone ∈ tblG := gw8 119 (by decide +kernel) (by decide +kernel)
theorem wd690 : Cond.code yX8_alone cX8_alone 2 (some .int) ∈ tblG := gw8 120 (by decide +kernel) (by decide +kernel)
theorem pl_X8_alone : Plain yX8_alone 1 := ⟨by decide, by decide, by decide +kernel⟩
theorem lk_L_172 : LkV RL 172 8 yX8_alone cX8_alone 2 (some .int) 1 := ⟨⟨TX8, 41, rfl⟩, wd687, wd688, wd689, wd238, wd690, pl_X8_alone⟩
theorem wd691 : Cond.methodLink RL 173 yX7_steps ∈ tblG := gw4 170 (by decide +kernel) (by decide +kernel)
theorem wd692 : Cond.instanceMethod yX7_steps ∈ tblG := gw4 171 (by decide +kernel) (by decide +kernel)
theorem wd693 : Cond.selects RX7 yX7_steps yX7_steps ∈ tblG := gw4 172 (by decide +kernel) (by decide +kernel)
theorem wd694 : Cond.code yX7_steps cX7_steps 2 (some .int) ∈ tblG := gw4 173 (by decide +kernel) (by decide +kernel)
theorem pl_X7_steps : Plain yX7_steps 1 := ⟨by decide, by decide, by decide +kernel⟩
theorem lk_L_173 : LkV RL 173 7 yX7_steps cX7_steps 2 (some .int) 1 := ⟨⟨TX7, 12, rfl⟩, wd691, wd692, wd693, wd33, wd694, pl_X7_steps⟩
theorem wd695 : Cond.methodLink RL 176 yX8_steps ∈ tblG := gw8 129 (by decide +kernel) (by decide +kernel)
theorem wd696 : Cond.instanceMethod yX8_steps ∈ tblG := gw8 130 (by decide +kernel) (by decide +kernel)
theorem wd697 : Cond.selects RX8 yX8_steps yX8_steps ∈ tblG := gw8 131 (by decide +kernel) (by decide +kernel)
theorem wd698 : Cond.code yX8_steps cX8_steps 2 (some .int) ∈ tblG := gw8 132 (by decide +kernel) (by decide +kernel)
theorem pl_X8_steps : Plain yX8_steps 1 := ⟨by decide, by decide, by decide +kernel⟩
theorem lk_L_176 : LkV RL 176 8 yX8_steps cX8_steps 2 (some .int) 1 := ⟨⟨TX8, 41, rfl⟩, wd695, wd696, wd697, wd238, wd698, pl_X8_steps⟩
theorem wd699 : Cond.methodLink RL 177 yX7_behind ∈ tblG := gw4 174 (by decide +kernel) (by decide +kernel)
theorem wd700 : Cond.instanceMethod yX7_behind ∈ tblG := gw4 175 (by decide +kernel) (by decide +kernel)
theorem wd701 : Cond.selects RX7 yX7_behind yX7_behind ∈ tblG := gw4 176 (by decide +kernel) (by decide +kernel)
theorem wd702 : Cond.code yX7_behind cX7_behind 2 (some .int) ∈ tblG := gw4 177 (by decide +kernel) (by decide +kernel)
theorem pl_X7_behind : Plain yX7_behind 1 := ⟨by decide, by decide, by decide +kernel⟩
theorem lk_L_177 : LkV RL 177 7 yX7_behind cX7_behind 2 (some .int) 1 := ⟨⟨TX7, 12, rfl⟩, wd699, wd700, wd701, wd33, wd702, pl_X7_behind⟩
theorem wd703 : Cond.methodLink RL 180 yX8_behind ∈ tblG := gw8 133 (by decide +kernel) (by decide +kernel)
theorem wd704 : Cond.instanceMethod yX8_behind ∈ tblG := gw8 134 (by decide +kernel) (by decide +kernel)
theorem wd705 : Cond.selects RX8 yX8_behind yX8_behind ∈ tblG := gw8 135 (by decide +kernel) (by decide +kernel)
theorem wd706 : Cond.code yX8_behind cX8_behind 2 (some .int) ∈ tblG := gw8 136 (by decide +kernel) (by decide +kernel)
theorem pl_X8_behind : Plain yX8_behind 1 := ⟨by decide, by decide, by decide +kernel⟩
theorem lk_L_180 : LkV RL 180 8 yX8_behind cX8_behind 2 (some .int) 1 := ⟨⟨TX8, 41, rfl⟩, wd703, wd704, wd705, wd238, wd706, pl_X8_behind⟩
theorem wd707 : Cond.methodLink RL 181 yX7_nth ∈ tblG := gw4 183 (by decide +kernel) (by decide +kernel)
theorem wd708 : Cond.instanceMethod yX7_nth ∈ tblG := gw4 184 (by decide +kernel) (by decide +kernel)
theorem wd709 : Cond.selects RX7 yX7_nth yX7_nth ∈ tblG := gw4 185 (by decide +kernel) (by decide +kernel)
theorem wd710 : Cond.code yX7_nth cX7_nth 5 (some .int) ∈ tblG := gw4 186 (by decide +kernel) (by decide +kernel)
theorem pl_X7_nth : Plain yX7_nth 2 := ⟨by decide, by decide, by decide +kernel⟩
theorem lk_L_181 : LkV RL 181 7 yX7_nth cX7_nth 5 (some .int) 2 := ⟨⟨TX7, 12, rfl⟩, wd707, wd708, wd709, wd33, wd710, pl_X7_nth⟩
theorem wd711 : Cond.methodLink RL 184 yX8_nth ∈ tblG := gw8 141 (by decide +kernel) (by decide +kernel)
theorem wd712 : Cond.instanceMethod yX8_nth ∈ tblG := gw8 142 (by decide +kernel) (by decide +kernel)
theorem wd713 : Cond.selects RX8 yX8_nth yX8_nth ∈ tblG := gw8 143 (by decide +kernel) (by decide +kernel)
theorem wd714 : Cond.code yX8_nth cX8_nth 5 (some .int) ∈ tblG := gw8 144 (by decide +kernel) (by decide +kernel)
theorem pl_X8_nth : Plain yX8_nth 2 := ⟨by decide, by decide, by decide +kernel⟩
theorem lk_L_184 : LkV RL 184 8 yX8_nth cX8_nth 5 (some .int) 2 := ⟨⟨TX8, 41, rfl⟩, wd711, wd712, wd713, wd238, wd714, pl_X8_nth⟩
theorem wd715 : Cond.methodLink RL 185 yX7_round ∈ tblG := gw4 190 (by decide +kernel) (by decide +kernel)
theorem wd716 : Cond.instanceMethod yX7_round ∈ tblG := gw4 191 (by decide +kernel) (by decide +kernel)
theorem wd717 : Cond.selects RX7 yX7_round yX7_round ∈ tblG := gw4 192 (by decide +kernel) (by decide +kernel)
theorem wd718 : Cond.code yX7_round cX7_round 4 (some .int) ∈ tblG := gw4 193 (by decide +kernel) (by decide +kernel)
theorem pl_X7_round : Plain yX7_round 1 := ⟨by decide, by decide, by decide +kernel⟩
theorem lk_L_185 : LkV RL 185 7 yX7_round cX7_round 4 (some .int) 1 := ⟨⟨TX7, 12, rfl⟩, wd715, wd716, wd717, wd33, wd718, pl_X7_round⟩
theorem wd719 : Cond.methodLink RL 188 yX8_round ∈ tblG := gw8 146 (by decide +kernel) (by decide +kernel)
theorem wd720 : Cond.instanceMethod yX8_round ∈ tblG := gw8 147 (by decide +kernel) (by decide +kernel)
theorem wd721 : Cond.selects RX8 yX8_round yX8_round ∈ tblG := gw8 148 (by decide +kernel) (by decide +kernel)
theorem wd722 : Cond.code yX8_round cX8_round 4 (some .int) ∈ tblG := gw8 149 (by decide +kernel) (by decide +kernel)
theorem pl_X8_round : Plain yX8_round 1 := ⟨by decide, by decide, by decide +kernel⟩
theorem lk_L_188 : LkV RL 188 8 yX8_round cX8_round 4 (some .int) 1 := ⟨⟨TX8, 41, rfl⟩, wd719, wd720, wd721, wd238, wd722, pl_X8_round⟩
theorem wd723 : Cond.methodLink RL 189 yX7_houses ∈ tblG := gw4 194 (by decide +kernel) (by decide +kernel)
theorem wd724 : Cond.instanceMethod yX7_houses ∈ tblG := gw4 195 (by decide +kernel) (by decide +kernel)
theorem wd725 : Cond.selects RX7 yX7_houses yX7_houses ∈ tblG := gw4 196 (by decide +kernel) (by decide +kernel)
theorem wd726 : Cond.code yX7_houses cX7_houses 7 (some .int) ∈ tblG := gw4 197 (by decide +kernel) (by decide +kernel)
theorem pl_X7_houses : Plain yX7_houses 3 := ⟨by decide, by decide, by decide +kernel⟩
theorem lk_L_189 : LkV RL 189 7 yX7_houses cX7_houses 7 (some .int) 3 := ⟨⟨TX7, 12, rfl⟩, wd723, wd724, wd725, wd33, wd726, pl_X7_houses⟩
theorem wd727 : Cond.methodLink RL 193 yX8_houses ∈ tblG := gw8 150 (by decide +kernel) (by decide +kernel)
theorem wd728 : Cond.instanceMethod yX8_houses ∈ tblG := gw8 151 (by decide +kernel) (by decide +kernel)
theorem wd729 : Cond.selects RX8 yX8_houses yX8_houses ∈ tblG := gw8 152 (by decide +kernel) (by decide +kernel)
theorem wd730 : Cond.code yX8_houses cX8_houses 7 (some .int) ∈ tblG := gw8 153 (by decide +kernel) (by decide +kernel)
theorem pl_X8_houses : Plain yX8_houses 3 := ⟨by decide, by decide, by decide +kernel⟩
theorem lk_L_193 : LkV RL 193 8 yX8_houses cX8_houses 7 (some .int) 3 := ⟨⟨TX8, 41, rfl⟩, wd727, wd728, wd729, wd238, wd730, pl_X8_houses⟩
theorem wd731 : Cond.methodLink RL 194 yX7_tree ∈ tblG := gw4 198 (by decide +kernel) (by decide +kernel)
theorem wd732 : Cond.instanceMethod yX7_tree ∈ tblG := gw4 199 (by decide +kernel) (by decide +kernel)
theorem wd733 : Cond.selects RX7 yX7_tree yX7_tree ∈ tblG := gw4 200 (by decide +kernel) (by decide +kernel)
theorem wd734 : Cond.code yX7_tree cX7_tree 2 (some .int) ∈ tblG := gw4 201 (by decide +kernel) (by decide +kernel)
theorem pl_X7_tree : Plain yX7_tree 1 := ⟨by decide, by decide, by decide +kernel⟩
theorem lk_L_194 : LkV RL 194 7 yX7_tree cX7_tree 2 (some .int) 1 := ⟨⟨TX7, 12, rfl⟩, wd731, wd732, wd733, wd33, wd734, pl_X7_tree⟩
theorem wd735 : Cond.methodLink RL 197 yX8_tree ∈ tblG := gw8 93 (by decide +kernel) (by decide +kernel)
theorem wd736 : Cond.instanceMethod yX8_tree ∈ tblG := gw8 94 (by decide +kernel) (by decide +kernel)
theorem wd737 : Cond.selects RX8 yX8_tree yX8_tree ∈ tblG := gw8 95 (by decide +kernel) (by decide +kernel)
theorem wd738 : Cond.code yX8_tree cX8_tree 2 (some .int) ∈ tblG := gw8 96 (by decide +kernel) (by decide +kernel)
theorem pl_X8_tree : Plain yX8_tree 1 := ⟨by decide, by decide, by decide +kernel⟩
theorem lk_L_197 : LkV RL 197 8 yX8_tree cX8_tree 2 (some .int) 1 := ⟨⟨TX8, 41, rfl⟩, wd735, wd736, wd737, wd238, wd738, pl_X8_tree⟩
theorem wd739 : Cond.methodLink RL 198 yX7_ring ∈ tblG := gw4 210 (by decide +kernel) (by decide +kernel)
theorem wd740 : Cond.instanceMethod yX7_ring ∈ tblG := gw4 211 (by decide +kernel) (by decide +kernel)
theorem wd741 : Cond.selects RX7 yX7_ring yX7_ring ∈ tblG := gw4 212 (by decide +kernel) (by decide +kernel)
theorem wd742 : Cond.code yX7_ring cX7_ring 2 (some .int) ∈ tblG := gw4 213 (by decide +kernel) (by decide +kernel)
theorem pl_X7_ring : Plain yX7_ring 1 := ⟨by decide, by decide, by decide +kernel⟩
theorem lk_L_198 : LkV RL 198 7 yX7_ring cX7_ring 2 (some .int) 1 := ⟨⟨TX7, 12, rfl⟩, wd739, wd740, wd741, wd33, wd742, pl_X7_ring⟩
theorem wd743 : Cond.methodLink RL 201 yX8_ring ∈ tblG := gw8 109 (by decide +kernel) (by decide +kernel)
theorem wd744 : Cond.instanceMethod yX8_ring ∈ tblG := gw8 110 (by decide +kernel) (by decide +kernel)
theorem wd745 : Cond.selects RX8 yX8_ring yX8_ring ∈ tblG := gw8 111 (by decide +kernel) (by decide +kernel)
theorem wd746 : Cond.code yX8_ring cX8_ring 6 (some .int) ∈ tblG := gw8 112 (by decide +kernel) (by decide +kernel)
theorem pl_X8_ring : Plain yX8_ring 1 := ⟨by decide, by decide, by decide +kernel⟩
theorem lk_L_201 : LkV RL 201 8 yX8_ring cX8_ring 6 (some .int) 1 := ⟨⟨TX8, 41, rfl⟩, wd743, wd744, wd745, wd238, wd746, pl_X8_ring⟩
theorem wd747 : Cond.methodLink RL 202 yX7_trees ∈ tblG := gw4 222 (by decide +kernel) (by decide +kernel)
theorem wd748 : Cond.instanceMethod yX7_trees ∈ tblG := gw4 223 (by decide +kernel) (by decide +kernel)
theorem wd749 : Cond.selects RX7 yX7_trees yX7_trees ∈ tblG := gw4 224 (by decide +kernel) (by decide +kernel)
theorem wd750 : Cond.code yX7_trees cX7_trees 4 (some .int) ∈ tblG := gw4 225 (by decide +kernel) (by decide +kernel)
theorem pl_X7_trees : Plain yX7_trees 0 := ⟨by decide, by decide, by decide +kernel⟩
theorem lk_L_202 : LkV RL 202 7 yX7_trees cX7_trees 4 (some .int) 0 := ⟨⟨TX7, 12, rfl⟩, wd747, wd748, wd749, wd33, wd750, pl_X7_trees⟩
theorem wd751 : Cond.methodLink RL 205 yX8_trees ∈ tblG := gw8 113 (by decide +kernel) (by decide +kernel)
theorem wd752 : Cond.instanceMethod yX8_trees ∈ tblG := gw8 114 (by decide +kernel) (by decide +kernel)
theorem wd753 : Cond.selects RX8 yX8_trees yX8_trees ∈ tblG := gw8 115 (by decide +kernel) (by decide +kernel)
theorem wd754 : Cond.code yX8_trees cX8_trees 7 (some .int) ∈ tblG := gw8 116 (by decide +kernel) (by decide +kernel)
theorem pl_X8_trees : Plain yX8_trees 0 := ⟨by decide, by decide, by decide +kernel⟩
theorem lk_L_205 : LkV RL 205 8 yX8_trees cX8_trees 7 (some .int) 0 := ⟨⟨TX8, 41, rfl⟩, wd751, wd752, wd753, wd238, wd754, pl_X8_trees⟩
theorem wd755 : Cond.methodLink RL 206 yX7_point ∈ tblG := gw4 230 (by decide +kernel) (by decide +kernel)
theorem wd756 : Cond.instanceMethod yX7_point ∈ tblG := gw4 231 (by decide +kernel) (by decide +kernel)
theorem wd757 : Cond.selects RX7 yX7_point yX7_point ∈ tblG := gw4 232 (by decide +kernel) (by decide +kernel)
theorem wd758 : Cond.code yX7_point cX7_point 8 (some .int) ∈ tblG := gw4 233 (by decide +kernel) (by decide +kernel)
theorem pl_X7_point : Plain yX7_point 2 := ⟨by decide, by decide, by decide +kernel⟩
theorem lk_L_206 : LkV RL 206 7 yX7_point cX7_point 8 (some .int) 2 := ⟨⟨TX7, 12, rfl⟩, wd755, wd756, wd757, wd33, wd758, pl_X7_point⟩
theorem wd759 : Cond.methodLink RL 209 yX8_point ∈ tblG := gw8 154 (by decide +kernel) (by decide +kernel)
theorem wd760 : Cond.instanceMethod yX8_point ∈ tblG := gw8 155 (by decide +kernel) (by decide +kernel)
theorem wd761 : Cond.selects RX8 yX8_point yX8_point ∈ tblG := gw8 156 (by decide +kernel) (by decide +kernel)
theorem wd762 : Cond.code yX8_point cX8_point 7 (some .int) ∈ tblG := gw8 157 (by decide +kernel) (by decide +kernel)
theorem pl_X8_point : Plain yX8_point 2 := ⟨by decide, by decide, by decide +kernel⟩
theorem lk_L_209 : LkV RL 209 8 yX8_point cX8_point 7 (some .int) 2 := ⟨⟨TX8, 41, rfl⟩, wd759, wd760, wd761, wd238, wd762, pl_X8_point⟩
theorem wd763 : Cond.methodLink RL 210 yX7_best ∈ tblG := gw5 6 (by decide +kernel) (by decide +kernel)
theorem wd764 : Cond.instanceMethod yX7_best ∈ tblG := gw5 7 (by decide +kernel) (by decide +kernel)
theorem wd765 : Cond.selects RX7 yX7_best yX7_best ∈ tblG := gw5 8 (by decide +kernel) (by decide +kernel)
theorem wd766 : Cond.code yX7_best cX7_best 6 (some .int) ∈ tblG := gw5 9 (by decide +kernel) (by decide +kernel)
theorem pl_X7_best : Plain yX7_best 0 := ⟨by decide, by decide, by decide +kernel⟩
theorem lk_L_210 : LkV RL 210 7 yX7_best cX7_best 6 (some .int) 0 := ⟨⟨TX7, 12, rfl⟩, wd763, wd764, wd765, wd33, wd766, pl_X7_best⟩
theorem wd767 : Cond.methodLink RL 213 yX8_best ∈ tblG := gw8 163 (by decide +kernel) (by decide +kernel)
theorem wd768 : Cond.instanceMethod yX8_best ∈ tblG := gw8 164 (by decide +kernel) (by decide +kernel)
theorem wd769 : Cond.selects RX8 yX8_best yX8_best ∈ tblG := gw8 165 (by decide +kernel) (by decide +kernel)
theorem wd770 : Cond.code yX8_best cX8_best 5 (some .int) ∈ tblG := gw8 166 (by decide +kernel) (by decide +kernel)
theorem pl_X8_best : Plain yX8_best 0 := ⟨by decide, by decide, by decide +kernel⟩
theorem lk_L_213 : LkV RL 213 8 yX8_best cX8_best 5 (some .int) 0 := ⟨⟨TX8, 41, rfl⟩, wd767, wd768, wd769, wd238, wd770, pl_X8_best⟩
theorem wd771 : Cond.methodLink RL 214 yX7_crowds ∈ tblG := gw5 11 (by decide +kernel) (by decide +kernel)
theorem wd772 : Cond.instanceMethod yX7_crowds ∈ tblG := gw5 12 (by decide +kernel) (by decide +kernel)
theorem wd773 : Cond.selects RX7 yX7_crowds yX7_crowds ∈ tblG := gw5 13 (by decide +kernel) (by decide +kernel)
theorem wd774 : Cond.code yX7_crowds cX7_crowds 7 (some .int) ∈ tblG := gw5 14 (by decide +kernel) (by decide +kernel)
theorem pl_X7_crowds : Plain yX7_crowds 0 := ⟨by decide, by decide, by decide +kernel⟩
theorem lk_L_214 : LkV RL 214 7 yX7_crowds cX7_crowds 7 (some .int) 0 := ⟨⟨TX7, 12, rfl⟩, wd771, wd772, wd773, wd33, wd774, pl_X7_crowds⟩
theorem wd775 : Cond.methodLink RL 217 yX8_crowds ∈ tblG := gw8 171 (by decide +kernel) (by decide +kernel)
theorem wd776 : Cond.instanceMethod yX8_crowds ∈ tblG := gw8 172 (by decide +kernel) (by decide +kernel)
theorem wd777 : Cond.selects RX8 yX8_crowds yX8_crowds ∈ tblG := gw8 173 (by decide +kernel) (by decide +kernel)
theorem wd778 : Cond.code yX8_crowds cX8_crowds 6 (some .int) ∈ tblG := gw8 174 (by decide +kernel) (by decide +kernel)
theorem pl_X8_crowds : Plain yX8_crowds 0 := ⟨by decide, by decide, by decide +kernel⟩
theorem lk_L_217 : LkV RL 217 8 yX8_crowds cX8_crowds 6 (some .int) 0 := ⟨⟨TX8, 41, rfl⟩, wd775, wd776, wd777, wd238, wd778, pl_X8_crowds⟩
theorem wd779 : Cond.methodLink RL 218 yX7_may ∈ tblG := gw5 19 (by decide +kernel) (by decide +kernel)
theorem wd780 : Cond.instanceMethod yX7_may ∈ tblG := gw5 20 (by decide +kernel) (by decide +kernel)
theorem wd781 : Cond.selects RX7 yX7_may yX7_may ∈ tblG := gw5 21 (by decide +kernel) (by decide +kernel)
theorem wd782 : Cond.code yX7_may cX7_may 4 (some .int) ∈ tblG := gw5 22 (by decide +kernel) (by decide +kernel)
theorem pl_X7_may : Plain yX7_may 2 := ⟨by decide, by decide, by decide +kernel⟩
theorem lk_L_218 : LkV RL 218 7 yX7_may cX7_may 4 (some .int) 2 := ⟨⟨TX7, 12, rfl⟩, wd779, wd780, wd781, wd33, wd782, pl_X7_may⟩
theorem wd783 : Cond.methodLink RL 221 yX8_may ∈ tblG := gw8 175 (by decide +kernel) (by decide +kernel)
theorem wd784 : Cond.instanceMethod yX8_may ∈ tblG := gw8 176 (by decide +kernel) (by decide +kernel)
theorem wd785 : Cond.selects RX8 yX8_may yX8_may ∈ tblG := gw8 177 (by decide +kernel) (by decide +kernel)
theorem wd786 : Cond.code yX8_may cX8_may 4 (some .int) ∈ tblG := gw8 178 (by decide +kernel) (by decide +kernel)
theorem pl_X8_may : Plain yX8_may 2 := ⟨by decide, by decide, by decide +kernel⟩
theorem lk_L_221 : LkV RL 221 8 yX8_may cX8_may 4 (some .int) 2 := ⟨⟨TX8, 41, rfl⟩, wd783, wd784, wd785, wd238, wd786, pl_X8_may⟩
theorem wd787 : Cond.methodLink RL 222 yX7_ask ∈ tblG := gw5 45 (by decide +kernel) (by decide +kernel)
theorem wd788 : Cond.instanceMethod yX7_ask ∈ tblG := gw5 46 (by decide +kernel) (by decide +kernel)
theorem wd789 : Cond.selects RX7 yX7_ask yX7_ask ∈ tblG := gw5 47 (by decide +kernel) (by decide +kernel)
theorem wd790 : Cond.code yX7_ask cX7_ask 4 (some .int) ∈ tblG := gw5 48 (by decide +kernel) (by decide +kernel)
theorem pl_X7_ask : Plain yX7_ask 2 := ⟨by decide, by decide, by decide +kernel⟩
theorem lk_L_222 : LkV RL 222 7 yX7_ask cX7_ask 4 (some .int) 2 := ⟨⟨TX7, 12, rfl⟩, wd787, wd788, wd789, wd33, wd790, pl_X7_ask⟩
theorem wd791 : Cond.methodLink RL 225 yX8_ask ∈ tblG := gw8 207 (by decide +kernel) (by decide +kernel)
theorem wd792 : Cond.instanceMethod yX8_ask ∈ tblG := gw8 208 (by decide +kernel) (by decide +kernel)
theorem wd793 : Cond.selects RX8 yX8_ask yX8_ask ∈ tblG := gw8 209 (by decide +kernel) (by decide +kernel)
theorem wd794 : Cond.code yX8_ask cX8_ask 4 (some .int) ∈ tblG := gw8 210 (by decide +kernel) (by decide +kernel)
theorem pl_X8_ask : Plain yX8_ask 2 := ⟨by decide, by decide, by decide +kernel⟩
theorem lk_L_225 : LkV RL 225 8 yX8_ask cX8_ask 4 (some .int) 2 := ⟨⟨TX8, 41, rfl⟩, wd791, wd792, wd793, wd238, wd794, pl_X8_ask⟩
theorem wd795 : Cond.methodLink RL 226 yX7_leaves ∈ tblG := gw5 62 (by decide +kernel) (by decide +kernel)
theorem wd796 : Cond.instanceMethod yX7_leaves ∈ tblG := gw5 63 (by decide +kernel) (by decide +kernel)
theorem wd797 : Cond.selects RX7 yX7_leaves yX7_leaves ∈ tblG := gw5 64 (by decide +kernel) (by decide +kernel)
theorem wd798 : Cond.code yX7_leaves cX7_leaves 6 (some .int) ∈ tblG := gw5 65 (by decide +kernel) (by decide +kernel)
theorem pl_X7_leaves : Plain yX7_leaves 2 := ⟨by decide, by decide, by decide +kernel⟩
theorem lk_L_226 : LkV RL 226 7 yX7_leaves cX7_leaves 6 (some .int) 2 := ⟨⟨TX7, 12, rfl⟩, wd795, wd796, wd797, wd33, wd798, pl_X7_leaves⟩
theorem wd799 : Cond.methodLink RL 229 yX8_leaves ∈ tblG := gw8 219 (by decide +kernel) (by decide +kernel)
theorem wd800 : Cond.instanceMethod yX8_leaves ∈ tblG := gw8 220 (by decide +kernel) (by decide +kernel)
theorem wd801 : Cond.selects RX8 yX8_leaves yX8_leaves ∈ tblG := gw8 221 (by decide +kernel) (by decide +kernel)
theorem wd802 : Cond.code yX8_leaves cX8_leaves 4 (some .int) ∈ tblG := gw8 222 (by decide +kernel) (by decide +kernel)
theorem pl_X8_leaves : Plain yX8_leaves 2 := ⟨by decide, by decide, by decide +kernel⟩
theorem lk_L_229 : LkV RL 229 8 yX8_leaves cX8_leaves 4 (some .int) 2 := ⟨⟨TX8, 41, rfl⟩, wd799, wd800, wd801, wd238, wd802, pl_X8_leaves⟩
theorem wd803 : Cond.methodLink RL 230 yX7_laws ∈ tblG := gw5 66 (by decide +kernel) (by decide +kernel)
theorem wd804 : Cond.instanceMethod yX7_laws ∈ tblG := gw5 67 (by decide +kernel) (by decide +kernel)
theorem wd805 : Cond.selects RX7 yX7_laws yX7_laws ∈ tblG := gw5 68 (by decide +kernel) (by decide +kernel)
theorem wd806 : Cond.code yX7_laws cX7_laws 5 (some .int) ∈ tblG := gw5 69 (by decide +kernel) (by decide +kernel)
theorem pl_X7_laws : Plain yX7_laws 1 := ⟨by decide, by decide, by decide +kernel⟩
theorem lk_L_230 : LkV RL 230 7 yX7_laws cX7_laws 5 (some .int) 1 := ⟨⟨TX7, 12, rfl⟩, wd803, wd804, wd805, wd33, wd806, pl_X7_laws⟩
theorem wd807 : Cond.methodLink RL 233 yX8_laws ∈ tblG := gw8 223 (by decide +kernel) (by decide +kernel)
theorem wd808 : Cond.instanceMethod yX8_laws ∈ tblG := gw8 224 (by decide +kernel) (by decide +kernel)
theorem wd809 : Cond.selects RX8 yX8_laws yX8_laws ∈ tblG := gw8 225 (by decide +kernel) (by decide +kernel)
theorem wd810 : Cond.code yX8_laws cX8_laws 4 (some .int) ∈ tblG := gw8 226 (by decide +kernel) (by decide +kernel)
theorem pl_X8_laws : Plain yX8_laws 1 := ⟨by decide, by decide, by decide +kernel⟩
theorem lk_L_233 : LkV RL 233 8 yX8_laws cX8_laws 4 (some .int) 1 := ⟨⟨TX8, 41, rfl⟩, wd807, wd808, wd809, wd238, wd810, pl_X8_laws⟩
theorem wd811 : Cond.methodLink RL 234 yX7_by ∈ tblG := gw5 74 (by decide +kernel) (by decide +kernel)
theorem wd812 : Cond.instanceMethod yX7_by ∈ tblG := gw5 75 (by decide +kernel) (by decide +kernel)
theorem wd813 : Cond.selects RX7 yX7_by yX7_by ∈ tblG := gw5 76 (by decide +kernel) (by decide +kernel)
theorem wd814 : Cond.code yX7_by cX7_by 2 (some .int) ∈ tblG := gw5 77 (by decide +kernel) (by decide +kernel)
theorem pl_X7_by : Plain yX7_by 1 := ⟨by decide, by decide, by decide +kernel⟩
theorem lk_L_234 : LkV RL 234 7 yX7_by cX7_by 2 (some .int) 1 := ⟨⟨TX7, 12, rfl⟩, wd811, wd812, wd813, wd33, wd814, pl_X7_by⟩
theorem wd815 : Cond.methodLink RL 237 yX8_by ∈ tblG := gw8 227 (by decide +kernel) (by decide +kernel)
theorem wd816 : Cond.instanceMethod yX8_by ∈ tblG := gw8 228 (by decide +kernel) (by decide +kernel)
theorem wd817 : Cond.selects RX8 yX8_by yX8_by ∈ tblG := gw8 229 (by decide +kernel) (by decide +kernel)
theorem wd818 : Cond.code yX8_by cX8_by 2 (some .int) ∈ tblG := gw8 230 (by decide +kernel) (by decide +kernel)
theorem pl_X8_by : Plain yX8_by 1 := ⟨by decide, by decide, by decide +kernel⟩
theorem lk_L_237 : LkV RL 237 8 yX8_by cX8_by 2 (some .int) 1 := ⟨⟨TX8, 41, rfl⟩, wd815, wd816, wd817, wd238, wd818, pl_X8_by⟩
theorem wd819 : Cond.methodLink RL 238 yX7_law ∈ tblG := gw5 78 (by decide +kernel) (by decide +kernel)
theorem wd820 : Cond.instanceMethod yX7_law ∈ tblG := gw5 79 (by decide +kernel) (by decide +kernel)
theorem wd821 : Cond.selects RX7 yX7_law yX7_law ∈ tblG := gw5 80 (by decide +kernel) (by decide +kernel)
theorem wd822 : Cond.code yX7_law cX7_law 5 (some .int) ∈ tblG := gw5 81 (by decide +kernel) (by decide +kernel)
theorem pl_X7_law : Plain yX7_law 0 := ⟨by decide, by decide, by decide +kernel⟩
theorem lk_L_238 : LkV RL 238 7 yX7_law cX7_law 5 (some .int) 0 := ⟨⟨TX7, 12, rfl⟩, wd819, wd820, wd821, wd33, wd822, pl_X7_law⟩
theorem wd823 : Cond.methodLink RL 241 yX8_law ∈ tblG := gw8 235 (by decide +kernel) (by decide +kernel)
theorem wd824 : Cond.instanceMethod yX8_law ∈ tblG := gw8 236 (by decide +kernel) (by decide +kernel)
theorem wd825 : Cond.selects RX8 yX8_law yX8_law ∈ tblG := gw8 237 (by decide +kernel) (by decide +kernel)
theorem wd826 : Cond.code yX8_law cX8_law 3 (some .int) ∈ tblG := gw8 238 (by decide +kernel) (by decide +kernel)
theorem pl_X8_law : Plain yX8_law 0 := ⟨by decide, by decide, by decide +kernel⟩
theorem lk_L_241 : LkV RL 241 8 yX8_law cX8_law 3 (some .int) 0 := ⟨⟨TX8, 41, rfl⟩, wd823, wd824, wd825, wd238, wd826, pl_X8_law⟩
theorem wd827 : Cond.methodLink RL 242 yX7_worth ∈ tblG := gw5 82 (by decide +kernel) (by decide +kernel)
theorem wd828 : Cond.instanceMethod yX7_worth ∈ tblG := gw5 83 (by decide +kernel) (by decide +kernel)
theorem wd829 : Cond.selects RX7 yX7_worth yX7_worth ∈ tblG := gw5 84 (by decide +kernel) (by decide +kernel)
theorem wd830 : Cond.code yX7_worth cX7_worth 2 (some .int) ∈ tblG := gw5 85 (by decide +kernel) (by decide +kernel)
theorem pl_X7_worth : Plain yX7_worth 1 := ⟨by decide, by decide, by decide +kernel⟩
theorem lk_L_242 : LkV RL 242 7 yX7_worth cX7_worth 2 (some .int) 1 := ⟨⟨TX7, 12, rfl⟩, wd827, wd828, wd829, wd33, wd830, pl_X7_worth⟩
theorem wd831 : Cond.methodLink RL 245 yX8_worth ∈ tblG := gw8 239 (by decide +kernel) (by decide +kernel)
theorem wd832 : Cond.instanceMethod yX8_worth ∈ tblG := gw9 0 (by decide +kernel) (by decide +kernel)
theorem wd833 : Cond.selects RX8 yX8_worth yX8_worth ∈ tblG := gw9 1 (by decide +kernel) (by decide +kernel)
theorem wd834 : Cond.code yX8_worth cX8_worth 2 (some .int) ∈ tblG := gw9 2 (by decide +kernel) (by decide +kernel)
theorem pl_X8_worth : Plain yX8_worth 1 := ⟨by decide, by decide, by decide +kernel⟩
theorem lk_L_245 : LkV RL 245 8 yX8_worth cX8_worth 2 (some .int) 1 := ⟨⟨TX8, 41, rfl⟩, wd831, wd832, wd833, wd238, wd834, pl_X8_worth⟩
theorem wd835 : Cond.methodLink RL 246 yX7_share ∈ tblG := gw5 90 (by decide +kernel) (by decide +kernel)
theorem wd836 : Cond.instanceMethod yX7_share ∈ tblG := gw5 91 (by decide +kernel) (by decide +kernel)
theorem wd837 : Cond.selects RX7 yX7_share yX7_share ∈ tblG := gw5 92 (by decide +kernel) (by decide +kernel)
theorem wd838 : Cond.code yX7_share cX7_share 7 (some .int) ∈ tblG := gw5 93 (by decide +kernel) (by decide +kernel)
theorem pl_X7_share : Plain yX7_share 2 := ⟨by decide, by decide, by decide +kernel⟩
theorem lk_L_246 : LkV RL 246 7 yX7_share cX7_share 7 (some .int) 2 := ⟨⟨TX7, 12, rfl⟩, wd835, wd836, wd837, wd33, wd838, pl_X7_share⟩
theorem wd839 : Cond.methodLink RL 249 yX8_share ∈ tblG := gw9 11 (by decide +kernel) (by decide +kernel)
theorem wd840 : Cond.instanceMethod yX8_share ∈ tblG := gw9 12 (by decide +kernel) (by decide +kernel)
theorem wd841 : Cond.selects RX8 yX8_share yX8_share ∈ tblG := gw9 13 (by decide +kernel) (by decide +kernel)
theorem wd842 : Cond.code yX8_share cX8_share 7 (some .int) ∈ tblG := gw9 14 (by decide +kernel) (by decide +kernel)
theorem pl_X8_share : Plain yX8_share 2 := ⟨by decide, by decide, by decide +kernel⟩
theorem lk_L_249 : LkV RL 249 8 yX8_share cX8_share 7 (some .int) 2 := ⟨⟨TX8, 41, rfl⟩, wd839, wd840, wd841, wd238, wd842, pl_X8_share⟩
theorem wd843 : Cond.methodLink RL 250 yX7_rests ∈ tblG := gw5 109 (by decide +kernel) (by decide +kernel)
theorem wd844 : Cond.instanceMethod yX7_rests ∈ tblG := gw5 110 (by decide +kernel) (by decide +kernel)
theorem wd845 : Cond.selects RX7 yX7_rests yX7_rests ∈ tblG := gw5 111 (by decide +kernel) (by decide +kernel)
theorem wd846 : Cond.code yX7_rests cX7_rests 9 (some .int) ∈ tblG := gw5 112 (by decide +kernel) (by decide +kernel)
theorem pl_X7_rests : Plain yX7_rests 2 := ⟨by decide, by decide, by decide +kernel⟩
theorem lk_L_250 : LkV RL 250 7 yX7_rests cX7_rests 9 (some .int) 2 := ⟨⟨TX7, 12, rfl⟩, wd843, wd844, wd845, wd33, wd846, pl_X7_rests⟩
theorem wd847 : Cond.methodLink RL 253 yX8_rests ∈ tblG := gw9 25 (by decide +kernel) (by decide +kernel)
theorem wd848 : Cond.instanceMethod yX8_rests ∈ tblG := gw9 26 (by decide +kernel) (by decide +kernel)
theorem wd849 : Cond.selects RX8 yX8_rests yX8_rests ∈ tblG := gw9 27 (by decide +kernel) (by decide +kernel)
theorem wd850 : Cond.code yX8_rests cX8_rests 8 (some .int) ∈ tblG := gw9 28 (by decide +kernel) (by decide +kernel)
theorem pl_X8_rests : Plain yX8_rests 2 := ⟨by decide, by decide, by decide +kernel⟩
theorem lk_L_253 : LkV RL 253 8 yX8_rests cX8_rests 8 (some .int) 2 := ⟨⟨TX8, 41, rfl⟩, wd847, wd848, wd849, wd238, wd850, pl_X8_rests⟩
theorem wd851 : Cond.methodLink RL 254 yX7_gets ∈ tblG := gw5 117 (by decide +kernel) (by decide +kernel)
theorem wd852 : Cond.instanceMethod yX7_gets ∈ tblG := gw5 118 (by decide +kernel) (by decide +kernel)
theorem wd853 : Cond.selects RX7 yX7_gets yX7_gets ∈ tblG := gw5 119 (by decide +kernel) (by decide +kernel)
theorem wd854 : Cond.code yX7_gets cX7_gets 5 (some .int) ∈ tblG := gw5 120 (by decide +kernel) (by decide +kernel)
theorem pl_X7_gets : Plain yX7_gets 4 := ⟨by decide, by decide, by decide +kernel⟩
theorem lk_L_254 : LkV RL 254 7 yX7_gets cX7_gets 5 (some .int) 4 := ⟨⟨TX7, 12, rfl⟩, wd851, wd852, wd853, wd33, wd854, pl_X7_gets⟩
theorem wd855 : Cond.methodLink RL 258 yX8_gets ∈ tblG := gw9 33 (by decide +kernel) (by decide +kernel)
theorem wd856 : Cond.instanceMethod yX8_gets ∈ tblG := gw9 34 (by decide +kernel) (by decide +kernel)
theorem wd857 : Cond.selects RX8 yX8_gets yX8_gets ∈ tblG := gw9 35 (by decide +kernel) (by decide +kernel)
theorem wd858 : Cond.code yX8_gets cX8_gets 5 (some .int) ∈ tblG := gw9 36 (by decide +kernel) (by decide +kernel)
theorem pl_X8_gets : Plain yX8_gets 4 := ⟨by decide, by decide, by decide +kernel⟩
theorem lk_L_258 : LkV RL 258 8 yX8_gets cX8_gets 5 (some .int) 4 := ⟨⟨TX8, 41, rfl⟩, wd855, wd856, wd857, wd238, wd858, pl_X8_gets⟩
theorem wd859 : Cond.methodLink RL 259 yX7_chance ∈ tblG := gw5 121 (by decide +kernel) (by decide +kernel)
theorem wd860 : Cond.instanceMethod yX7_chance ∈ tblG := gw5 122 (by decide +kernel) (by decide +kernel)
theorem wd861 : Cond.selects RX7 yX7_chance yX7_chance ∈ tblG := gw5 123 (by decide +kernel) (by decide +kernel)
theorem wd862 : Cond.code yX7_chance cX7_chance 4 (some .long) ∈ tblG := gw5 124 (by decide +kernel) (by decide +kernel)
theorem pl_X7_chance : Plain yX7_chance 3 := ⟨by decide, by decide, by decide +kernel⟩
theorem lk_L_259 : LkV RL 259 7 yX7_chance cX7_chance 4 (some .long) 3 := ⟨⟨TX7, 12, rfl⟩, wd859, wd860, wd861, wd33, wd862, pl_X7_chance⟩
theorem wd863 : Cond.methodLink RL 263 yX8_chance ∈ tblG := gw9 37 (by decide +kernel) (by decide +kernel)
theorem wd864 : Cond.instanceMethod yX8_chance ∈ tblG := gw9 38 (by decide +kernel) (by decide +kernel)
theorem wd865 : Cond.selects RX8 yX8_chance yX8_chance ∈ tblG := gw9 39 (by decide +kernel) (by decide +kernel)
theorem wd866 : Cond.code yX8_chance cX8_chance 4 (some .long) ∈ tblG := gw9 40 (by decide +kernel) (by decide +kernel)
theorem pl_X8_chance : Plain yX8_chance 3 := ⟨by decide, by decide, by decide +kernel⟩
theorem lk_L_263 : LkV RL 263 8 yX8_chance cX8_chance 4 (some .long) 3 := ⟨⟨TX8, 41, rfl⟩, wd863, wd864, wd865, wd238, wd866, pl_X8_chance⟩
theorem wd867 : Cond.methodLink RL 264 yX7_mean ∈ tblG := gw5 149 (by decide +kernel) (by decide +kernel)
theorem wd868 : Cond.instanceMethod yX7_mean ∈ tblG := gw5 150 (by decide +kernel) (by decide +kernel)
theorem wd869 : Cond.selects RX7 yX7_mean yX7_mean ∈ tblG := gw5 151 (by decide +kernel) (by decide +kernel)
theorem wd870 : Cond.code yX7_mean cX7_mean 6 (some .long) ∈ tblG := gw5 152 (by decide +kernel) (by decide +kernel)
theorem pl_X7_mean : Plain yX7_mean 2 := ⟨by decide, by decide, by decide +kernel⟩
theorem lk_L_264 : LkV RL 264 7 yX7_mean cX7_mean 6 (some .long) 2 := ⟨⟨TX7, 12, rfl⟩, wd867, wd868, wd869, wd33, wd870, pl_X7_mean⟩
theorem wd871 : Cond.methodLink RL 268 yX8_mean ∈ tblG := gw9 50 (by decide +kernel) (by decide +kernel)
theorem wd872 : Cond.instanceMethod yX8_mean ∈ tblG := gw9 51 (by decide +kernel) (by decide +kernel)
theorem wd873 : Cond.selects RX8 yX8_mean yX8_mean ∈ tblG := gw9 52 (by decide +kernel) (by decide +kernel)
theorem wd874 : Cond.code yX8_mean cX8_mean 3 (some .long) ∈ tblG := gw9 53 (by decide +kernel) (by decide +kernel)
theorem pl_X8_mean : Plain yX8_mean 2 := ⟨by decide, by decide, by decide +kernel⟩
theorem lk_L_268 : LkV RL 268 8 yX8_mean cX8_mean 3 (some .long) 2 := ⟨⟨TX8, 41, rfl⟩, wd871, wd872, wd873, wd238, wd874, pl_X8_mean⟩
theorem wd875 : Cond.methodLink RL 269 yX7_twists ∈ tblG := gw5 153 (by decide +kernel) (by decide +kernel)
theorem wd876 : Cond.instanceMethod yX7_twists ∈ tblG := gw5 154 (by decide +kernel) (by decide +kernel)
theorem wd877 : Cond.selects RX7 yX7_twists yX7_twists ∈ tblG := gw5 155 (by decide +kernel) (by decide +kernel)
theorem wd878 : Cond.code yX7_twists cX7_twists 3 (some .int) ∈ tblG := gw5 156 (by decide +kernel) (by decide +kernel)
theorem pl_X7_twists : Plain yX7_twists 2 := ⟨by decide, by decide, by decide +kernel⟩
theorem lk_L_269 : LkV RL 269 7 yX7_twists cX7_twists 3 (some .int) 2 := ⟨⟨TX7, 12, rfl⟩, wd875, wd876, wd877, wd33, wd878, pl_X7_twists⟩
theorem wd879 : Cond.methodLink RL 272 yX8_twists ∈ tblG := gw9 54 (by decide +kernel) (by decide +kernel)
theorem wd880 : Cond.instanceMethod yX8_twists ∈ tblG := gw9 55 (by decide +kernel) (by decide +kernel)
theorem wd881 : Cond.selects RX8 yX8_twists yX8_twists ∈ tblG := gw9 56 (by decide +kernel) (by decide +kernel)
theorem wd882 : Cond.code yX8_twists cX8_twists 3 (some .int) ∈ tblG := gw9 57 (by decide +kernel) (by decide +kernel)
theorem pl_X8_twists : Plain yX8_twists 2 := ⟨by decide, by decide, by decide +kernel⟩
theorem lk_L_272 : LkV RL 272 8 yX8_twists cX8_twists 3 (some .int) 2 := ⟨⟨TX8, 41, rfl⟩, wd879, wd880, wd881, wd238, wd882, pl_X8_twists⟩
theorem wd883 : Cond.methodLink RL 273 yX7_holds ∈ tblG := gw5 161 (by decide +kernel) (by decide +kernel)
theorem wd884 : Cond.instanceMethod yX7_holds ∈ tblG := gw5 162 (by decide +kernel) (by decide +kernel)
theorem wd885 : Cond.selects RX7 yX7_holds yX7_holds ∈ tblG := gw5 163 (by decide +kernel) (by decide +kernel)
theorem wd886 : Cond.code yX7_holds cX7_holds 3 (some .int) ∈ tblG := gw5 164 (by decide +kernel) (by decide +kernel)
theorem pl_X7_holds : Plain yX7_holds 2 := ⟨by decide, by decide, by decide +kernel⟩
theorem lk_L_273 : LkV RL 273 7 yX7_holds cX7_holds 3 (some .int) 2 := ⟨⟨TX7, 12, rfl⟩, wd883, wd884, wd885, wd33, wd886, pl_X7_holds⟩
theorem wd887 : Cond.methodLink RL 276 yX8_holds ∈ tblG := gw9 62 (by decide +kernel) (by decide +kernel)
theorem wd888 : Cond.instanceMethod yX8_holds ∈ tblG := gw9 63 (by decide +kernel) (by decide +kernel)
theorem wd889 : Cond.selects RX8 yX8_holds yX8_holds ∈ tblG := gw9 64 (by decide +kernel) (by decide +kernel)
theorem wd890 : Cond.code yX8_holds cX8_holds 3 (some .int) ∈ tblG := gw9 65 (by decide +kernel) (by decide +kernel)
theorem pl_X8_holds : Plain yX8_holds 2 := ⟨by decide, by decide, by decide +kernel⟩
theorem lk_L_276 : LkV RL 276 8 yX8_holds cX8_holds 3 (some .int) 2 := ⟨⟨TX8, 41, rfl⟩, wd887, wd888, wd889, wd238, wd890, pl_X8_holds⟩
theorem wd891 : Cond.methodLink RL 277 yX7_undo ∈ tblG := gw5 165 (by decide +kernel) (by decide +kernel)
theorem wd892 : Cond.instanceMethod yX7_undo ∈ tblG := gw5 166 (by decide +kernel) (by decide +kernel)
theorem wd893 : Cond.selects RX7 yX7_undo yX7_undo ∈ tblG := gw5 167 (by decide +kernel) (by decide +kernel)
theorem wd894 : Cond.code yX7_undo cX7_undo 1 (some .int) ∈ tblG := gw5 168 (by decide +kernel) (by decide +kernel)
theorem pl_X7_undo : Plain yX7_undo 0 := ⟨by decide, by decide, by decide +kernel⟩
theorem lk_L_277 : LkV RL 277 7 yX7_undo cX7_undo 1 (some .int) 0 := ⟨⟨TX7, 12, rfl⟩, wd891, wd892, wd893, wd33, wd894, pl_X7_undo⟩
theorem wd895 : Cond.methodLink RL 280 yX8_undo ∈ tblG := gw9 66 (by decide +kernel) (by decide +kernel)
theorem wd896 : Cond.instanceMethod yX8_undo ∈ tblG := gw9 67 (by decide +kernel) (by decide +kernel)
theorem wd897 : Cond.selects RX8 yX8_undo yX8_undo ∈ tblG := gw9 68 (by decide +kernel) (by decide +kernel)
theorem wd898 : Cond.code yX8_undo cX8_undo 1 (some .int) ∈ tblG := gw9 69 (by decide +kernel) (by decide +kernel)
theorem pl_X8_undo : Plain yX8_undo 0 := ⟨by decide, by decide, by decide +kernel⟩
theorem lk_L_280 : LkV RL 280 8 yX8_undo cX8_undo 1 (some .int) 0 := ⟨⟨TX8, 41, rfl⟩, wd895, wd896, wd897, wd238, wd898, pl_X8_undo⟩
theorem wd899 : Cond.methodLink RL 281 yX7_anew ∈ tblG := gw5 173 (by decide +kernel) (by decide +kernel)
theorem wd900 : Cond.instanceMethod yX7_anew ∈ tblG := gw5 174 (by decide +kernel) (by decide +kernel)
theorem wd901 : Cond.selects RX7 yX7_anew yX7_anew ∈ tblG := gw5 175 (by decide +kernel) (by decide +kernel)
theorem wd902 : Cond.code yX7_anew cX7_anew 2 (some .int) ∈ tblG := gw5 176 (by decide +kernel) (by decide +kernel)
theorem pl_X7_anew : Plain yX7_anew 0 := ⟨by decide, by decide, by decide +kernel⟩
theorem lk_L_281 : LkV RL 281 7 yX7_anew cX7_anew 2 (some .int) 0 := ⟨⟨TX7, 12, rfl⟩, wd899, wd900, wd901, wd33, wd902, pl_X7_anew⟩
theorem wd903 : Cond.methodLink RL 284 yX8_anew ∈ tblG := gw9 70 (by decide +kernel) (by decide +kernel)
theorem wd904 : Cond.instanceMethod yX8_anew ∈ tblG := gw9 71 (by decide +kernel) (by decide +kernel)
theorem wd905 : Cond.selects RX8 yX8_anew yX8_anew ∈ tblG := gw9 72 (by decide +kernel) (by decide +kernel)
theorem wd906 : Cond.code yX8_anew cX8_anew 2 (some .int) ∈ tblG := gw9 73 (by decide +kernel) (by decide +kernel)
theorem pl_X8_anew : Plain yX8_anew 0 := ⟨by decide, by decide, by decide +kernel⟩
theorem lk_L_284 : LkV RL 284 8 yX8_anew cX8_anew 2 (some .int) 0 := ⟨⟨TX8, 41, rfl⟩, wd903, wd904, wd905, wd238, wd906, pl_X8_anew⟩
theorem wd907 : Cond.methodLink RL 285 yX7_drawn ∈ tblG := gw5 178 (by decide +kernel) (by decide +kernel)
theorem wd908 : Cond.instanceMethod yX7_drawn ∈ tblG := gw5 179 (by decide +kernel) (by decide +kernel)
theorem wd909 : Cond.selects RX7 yX7_drawn yX7_drawn ∈ tblG := gw5 180 (by decide +kernel) (by decide +kernel)
theorem wd910 : Cond.code yX7_drawn cX7_drawn 4 (some .int) ∈ tblG := gw5 181 (by decide +kernel) (by decide +kernel)
theorem pl_X7_drawn : Plain yX7_drawn 2 := ⟨by decide, by decide, by decide +kernel⟩
theorem lk_L_285 : LkV RL 285 7 yX7_drawn cX7_drawn 4 (some .int) 2 := ⟨⟨TX7, 12, rfl⟩, wd907, wd908, wd909, wd33, wd910, pl_X7_drawn⟩
theorem wd911 : Cond.methodLink RL 288 yX8_drawn ∈ tblG := gw9 74 (by decide +kernel) (by decide +kernel)
theorem wd912 : Cond.instanceMethod yX8_drawn ∈ tblG := gw9 75 (by decide +kernel) (by decide +kernel)
theorem wd913 : Cond.selects RX8 yX8_drawn yX8_drawn ∈ tblG := gw9 76 (by decide +kernel) (by decide +kernel)
theorem wd914 : Cond.code yX8_drawn cX8_drawn 3 (some .int) ∈ tblG := gw9 77 (by decide +kernel) (by decide +kernel)
theorem pl_X8_drawn : Plain yX8_drawn 2 := ⟨by decide, by decide, by decide +kernel⟩
theorem lk_L_288 : LkV RL 288 8 yX8_drawn cX8_drawn 3 (some .int) 2 := ⟨⟨TX8, 41, rfl⟩, wd911, wd912, wd913, wd238, wd914, pl_X8_drawn⟩
theorem wd915 : Cond.methodLink RL 289 yX7_luck ∈ tblG := gw5 198 (by decide +kernel) (by decide +kernel)
theorem wd916 : Cond.instanceMethod yX7_luck ∈ tblG := gw5 199 (by decide +kernel) (by decide +kernel)
theorem wd917 : Cond.selects RX7 yX7_luck yX7_luck ∈ tblG := gw5 200 (by decide +kernel) (by decide +kernel)
theorem wd918 : Cond.code yX7_luck cX7_luck 6 (some .int) ∈ tblG := gw5 201 (by decide +kernel) (by decide +kernel)
theorem pl_X7_luck : Plain yX7_luck 3 := ⟨by decide, by decide, by decide +kernel⟩
theorem lk_L_289 : LkV RL 289 7 yX7_luck cX7_luck 6 (some .int) 3 := ⟨⟨TX7, 12, rfl⟩, wd915, wd916, wd917, wd33, wd918, pl_X7_luck⟩
theorem wd919 : Cond.methodLink RL 292 yX8_luck ∈ tblG := gw9 90 (by decide +kernel) (by decide +kernel)
theorem wd920 : Cond.instanceMethod yX8_luck ∈ tblG := gw9 91 (by decide +kernel) (by decide +kernel)
theorem wd921 : Cond.selects RX8 yX8_luck yX8_luck ∈ tblG := gw9 92 (by decide +kernel) (by decide +kernel)
theorem wd922 : Cond.code yX8_luck cX8_luck 6 (some .int) ∈ tblG := gw9 93 (by decide +kernel) (by decide +kernel)
theorem pl_X8_luck : Plain yX8_luck 3 := ⟨by decide, by decide, by decide +kernel⟩
theorem lk_L_292 : LkV RL 292 8 yX8_luck cX8_luck 6 (some .int) 3 := ⟨⟨TX8, 41, rfl⟩, wd919, wd920, wd921, wd238, wd922, pl_X8_luck⟩
theorem wd923 : Cond.methodLink RL 293 yX7_rate ∈ tblG := gw5 202 (by decide +kernel) (by decide +kernel)
theorem wd924 : Cond.instanceMethod yX7_rate ∈ tblG := gw5 203 (by decide +kernel) (by decide +kernel)
theorem wd925 : Cond.selects RX7 yX7_rate yX7_rate ∈ tblG := gw5 204 (by decide +kernel) (by decide +kernel)
theorem wd926 : Cond.code yX7_rate cX7_rate 4 (some .int) ∈ tblG := gw5 205 (by decide +kernel) (by decide +kernel)
theorem pl_X7_rate : Plain yX7_rate 2 := ⟨by decide, by decide, by decide +kernel⟩
theorem lk_L_293 : LkV RL 293 7 yX7_rate cX7_rate 4 (some .int) 2 := ⟨⟨TX7, 12, rfl⟩, wd923, wd924, wd925, wd33, wd926, pl_X7_rate⟩
theorem wd927 : Cond.methodLink RL 296 yX8_rate ∈ tblG := gw9 94 (by decide +kernel) (by decide +kernel)
theorem wd928 : Cond.instanceMethod yX8_rate ∈ tblG := gw9 95 (by decide +kernel) (by decide +kernel)
theorem wd929 : Cond.selects RX8 yX8_rate yX8_rate ∈ tblG := gw9 96 (by decide +kernel) (by decide +kernel)
theorem wd930 : Cond.code yX8_rate cX8_rate 4 (some .int) ∈ tblG := gw9 97 (by decide +kernel) (by decide +kernel)
theorem pl_X8_rate : Plain yX8_rate 2 := ⟨by decide, by decide, by decide +kernel⟩
theorem lk_L_296 : LkV RL 296 8 yX8_rate cX8_rate 4 (some .int) 2 := ⟨⟨TX8, 41, rfl⟩, wd927, wd928, wd929, wd238, wd930, pl_X8_rate⟩
theorem wd931 : Cond.methodLink RL 297 yX7_count ∈ tblG := gw5 206 (by decide +kernel) (by decide +kernel)
theorem wd932 : Cond.instanceMethod yX7_count ∈ tblG := gw5 207 (by decide +kernel) (by decide +kernel)
theorem wd933 : Cond.selects RX7 yX7_count yX7_count ∈ tblG := gw5 208 (by decide +kernel) (by decide +kernel)
theorem wd934 : Cond.code yX7_count cX7_count 2 (some .int) ∈ tblG := gw5 209 (by decide +kernel) (by decide +kernel)
theorem pl_X7_count : Plain yX7_count 1 := ⟨by decide, by decide, by decide +kernel⟩
theorem lk_L_297 : LkV RL 297 7 yX7_count cX7_count 2 (some .int) 1 := ⟨⟨TX7, 12, rfl⟩, wd931, wd932, wd933, wd33, wd934, pl_X7_count⟩
theorem wd935 : Cond.methodLink RL 300 yX8_count ∈ tblG := gw9 99 (by decide +kernel) (by decide +kernel)
theorem wd936 : Cond.instanceMethod yX8_count ∈ tblG := gw9 100 (by decide +kernel) (by decide +kernel)
theorem wd937 : Cond.selects RX8 yX8_count yX8_count ∈ tblG := gw9 101 (by decide +kernel) (by decide +kernel)
theorem wd938 : Cond.code yX8_count cX8_count 4 (some .int) ∈ tblG := gw9 102 (by decide +kernel) (by decide +kernel)
theorem pl_X8_count : Plain yX8_count 1 := ⟨by decide, by decide, by decide +kernel⟩
theorem lk_L_300 : LkV RL 300 8 yX8_count cX8_count 4 (some .int) 1 := ⟨⟨TX8, 41, rfl⟩, wd935, wd936, wd937, wd238, wd938, pl_X8_count⟩
theorem wd939 : Cond.methodLink RL 301 yX7_image ∈ tblG := gw5 214 (by decide +kernel) (by decide +kernel)
theorem wd940 : Cond.instanceMethod yX7_image ∈ tblG := gw5 215 (by decide +kernel) (by decide +kernel)
theorem wd941 : Cond.selects RX7 yX7_image yX7_image ∈ tblG := gw5 216 (by decide +kernel) (by decide +kernel)
theorem wd942 : Cond.code yX7_image cX7_image 2 (some .int) ∈ tblG := gw5 217 (by decide +kernel) (by decide +kernel)
theorem pl_X7_image : Plain yX7_image 1 := ⟨by decide, by decide, by decide +kernel⟩
theorem lk_L_301 : LkV RL 301 7 yX7_image cX7_image 2 (some .int) 1 := ⟨⟨TX7, 12, rfl⟩, wd939, wd940, wd941, wd33, wd942, pl_X7_image⟩
theorem wd943 : Cond.methodLink RL 304 yX8_image ∈ tblG := gw6 159 (by decide +kernel) (by decide +kernel)
theorem wd944 : Cond.instanceMethod yX8_image ∈ tblG := gw6 160 (by decide +kernel) (by decide +kernel)
theorem wd945 : Cond.selects RX8 yX8_image yX8_image ∈ tblG := gw6 161 (by decide +kernel) (by decide +kernel)
theorem wd946 : Cond.code yX8_image cX8_image 3 (some .int) ∈ tblG := gw6 162 (by decide +kernel) (by decide +kernel)
theorem pl_X8_image : Plain yX8_image 1 := ⟨by decide, by decide, by decide +kernel⟩
theorem lk_L_304 : LkV RL 304 8 yX8_image cX8_image 3 (some .int) 1 := ⟨⟨TX8, 41, rfl⟩, wd943, wd944, wd945, wd238, wd946, pl_X8_image⟩
theorem wd947 : Cond.methodLink RL 305 yX7_back ∈ tblG := gw5 218 (by decide +kernel) (by decide +kernel)
theorem wd948 : Cond.instanceMethod yX7_back ∈ tblG := gw5 219 (by decide +kernel) (by decide +kernel)
theorem wd949 : Cond.selects RX7 yX7_back yX7_back ∈ tblG := gw5 220 (by decide +kernel) (by decide +kernel)
theorem wd950 : Cond.code yX7_back cX7_back 2 (some .int) ∈ tblG := gw5 221 (by decide +kernel) (by decide +kernel)
theorem pl_X7_back : Plain yX7_back 1 := ⟨by decide, by decide, by decide +kernel⟩
theorem lk_L_305 : LkV RL 305 7 yX7_back cX7_back 2 (some .int) 1 := ⟨⟨TX7, 12, rfl⟩, wd947, wd948, wd949, wd33, wd950, pl_X7_back⟩
theorem wd951 : Cond.methodLink RL 308 yX8_back ∈ tblG := gw6 167 (by decide +kernel) (by decide +kernel)
theorem wd952 : Cond.instanceMethod yX8_back ∈ tblG := gw6 168 (by decide +kernel) (by decide +kernel)
theorem wd953 : Cond.selects RX8 yX8_back yX8_back ∈ tblG := gw6 169 (by decide +kernel) (by decide +kernel)
theorem wd954 : Cond.code yX8_back cX8_back 3 (some .int) ∈ tblG := gw6 170 (by decide +kernel) (by decide +kernel)
theorem pl_X8_back : Plain yX8_back 1 := ⟨by decide, by decide, by decide +kernel⟩
theorem lk_L_308 : LkV RL 308 8 yX8_back cX8_back 3 (some .int) 1 := ⟨⟨TX8, 41, rfl⟩, wd951, wd952, wd953, wd238, wd954, pl_X8_back⟩
theorem wd955 : Cond.methodLink RL 309 yX7_row ∈ tblG := gw5 222 (by decide +kernel) (by decide +kernel)
theorem wd956 : Cond.instanceMethod yX7_row ∈ tblG := gw5 223 (by decide +kernel) (by decide +kernel)
theorem wd957 : Cond.selects RX7 yX7_row yX7_row ∈ tblG := gw5 224 (by decide +kernel) (by decide +kernel)
theorem wd958 : Cond.code yX7_row cX7_row 4 (some .int) ∈ tblG := gw5 225 (by decide +kernel) (by decide +kernel)
theorem pl_X7_row : Plain yX7_row 3 := ⟨by decide, by decide, by decide +kernel⟩
theorem lk_L_309 : LkV RL 309 7 yX7_row cX7_row 4 (some .int) 3 := ⟨⟨TX7, 12, rfl⟩, wd955, wd956, wd957, wd33, wd958, pl_X7_row⟩
theorem wd959 : Cond.methodLink RL 312 yX8_row ∈ tblG := gw9 103 (by decide +kernel) (by decide +kernel)
theorem wd960 : Cond.instanceMethod yX8_row ∈ tblG := gw9 104 (by decide +kernel) (by decide +kernel)
theorem wd961 : Cond.selects RX8 yX8_row yX8_row ∈ tblG := gw9 105 (by decide +kernel) (by decide +kernel)
theorem wd962 : Cond.code yX8_row cX8_row 5 (some .int) ∈ tblG := gw9 106 (by decide +kernel) (by decide +kernel)
theorem pl_X8_row : Plain yX8_row 3 := ⟨by decide, by decide, by decide +kernel⟩
theorem lk_L_312 : LkV RL 312 8 yX8_row cX8_row 5 (some .int) 3 := ⟨⟨TX8, 41, rfl⟩, wd959, wd960, wd961, wd238, wd962, pl_X8_row⟩
theorem wd963 : Cond.constantLong RL 313 (4294967295) ∈ tblG := gw9 118 (by decide +kernel) (by decide +kernel)
theorem wd964 : Cond.methodLink RL 315 yX7_write ∈ tblG := gw6 9 (by decide +kernel) (by decide +kernel)
theorem wd965 : Cond.instanceMethod yX7_write ∈ tblG := gw6 10 (by decide +kernel) (by decide +kernel)
theorem wd966 : Cond.selects RX7 yX7_write yX7_write ∈ tblG := gw6 11 (by decide +kernel) (by decide +kernel)
theorem wd967 : Cond.code yX7_write cX7_write 5 (some .int) ∈ tblG := gw6 12 (by decide +kernel) (by decide +kernel)
theorem pl_X7_write : Plain yX7_write 3 := ⟨by decide, by decide, by decide +kernel⟩
theorem lk_L_315 : LkV RL 315 7 yX7_write cX7_write 5 (some .int) 3 := ⟨⟨TX7, 12, rfl⟩, wd964, wd965, wd966, wd33, wd967, pl_X7_write⟩
theorem wd968 : Cond.methodLink RL 319 yX8_write ∈ tblG := gw9 107 (by decide +kernel) (by decide +kernel)
theorem wd969 : Cond.instanceMethod yX8_write ∈ tblG := gw9 108 (by decide +kernel) (by decide +kernel)
theorem wd970 : Cond.selects RX8 yX8_write yX8_write ∈ tblG := gw9 109 (by decide +kernel) (by decide +kernel)
theorem wd971 : Cond.code yX8_write cX8_write 5 (some .int) ∈ tblG := gw9 110 (by decide +kernel) (by decide +kernel)
theorem pl_X8_write : Plain yX8_write 3 := ⟨by decide, by decide, by decide +kernel⟩
theorem lk_L_319 : LkV RL 319 8 yX8_write cX8_write 5 (some .int) 3 := ⟨⟨TX8, 41, rfl⟩, wd968, wd969, wd970, wd238, wd971, pl_X8_write⟩
theorem wd972 : Cond.methodLink RL 320 yX7_paste ∈ tblG := gw6 21 (by decide +kernel) (by decide +kernel)
theorem wd973 : Cond.instanceMethod yX7_paste ∈ tblG := gw6 22 (by decide +kernel) (by decide +kernel)
theorem wd974 : Cond.selects RX7 yX7_paste yX7_paste ∈ tblG := gw6 23 (by decide +kernel) (by decide +kernel)
theorem wd975 : Cond.code yX7_paste cX7_paste 8 (some .int) ∈ tblG := gw6 24 (by decide +kernel) (by decide +kernel)
theorem pl_X7_paste : Plain yX7_paste 5 := ⟨by decide, by decide, by decide +kernel⟩
theorem lk_L_320 : LkV RL 320 7 yX7_paste cX7_paste 8 (some .int) 5 := ⟨⟨TX7, 12, rfl⟩, wd972, wd973, wd974, wd33, wd975, pl_X7_paste⟩
theorem wd976 : Cond.methodLink RL 323 yX8_paste ∈ tblG := gw9 114 (by decide +kernel) (by decide +kernel)
theorem wd977 : Cond.instanceMethod yX8_paste ∈ tblG := gw9 115 (by decide +kernel) (by decide +kernel)
theorem wd978 : Cond.selects RX8 yX8_paste yX8_paste ∈ tblG := gw9 116 (by decide +kernel) (by decide +kernel)
theorem wd979 : Cond.code yX8_paste cX8_paste 7 (some .int) ∈ tblG := gw9 117 (by decide +kernel) (by decide +kernel)
theorem pl_X8_paste : Plain yX8_paste 5 := ⟨by decide, by decide, by decide +kernel⟩
theorem lk_L_323 : LkV RL 323 8 yX8_paste cX8_paste 7 (some .int) 5 := ⟨⟨TX8, 41, rfl⟩, wd976, wd977, wd978, wd238, wd979, pl_X8_paste⟩
theorem wd980 : Cond.classLink RL 7 RX7 ∈ tblG := gw1 18 (by decide +kernel) (by decide +kernel)
theorem wd981 : Cond.instantiable RX7 12 ∈ tblG := gw1 19 (by decide +kernel) (by decide +kernel)
theorem wd982 : Cond.classLink RL 10 RX8 ∈ tblG := gw6 29 (by decide +kernel) (by decide +kernel)
theorem wd983 : Cond.instantiable RX8 41 ∈ tblG := gw6 30 (by decide +kernel) (by decide +kernel)
theorem wd984 : Cond.methodLink RL 9 yX7_init ∈ tblG := gw1 20 (by decide +kernel) (by decide +kernel)
theorem wd985 : Cond.instanceMethod yX7_init ∈ tblG := gw1 21 (by decide +kernel) (by decide +kernel)
theorem wd986 : Cond.code yX7_init cX7_init 1 none ∈ tblG := gw1 22 (by decide +kernel) (by decide +kernel)
theorem pl_X7_init : Plain yX7_init 0 := ⟨by decide, by decide, by decide +kernel⟩
theorem lk_L_9 : LkI RL 9 yX7_init cX7_init 1 0 := ⟨Or.inl wd984, rfl, wd985, wd33, wd986, pl_X7_init⟩
theorem wd987 : Cond.methodLink RL 12 yX8_init ∈ tblG := gw6 31 (by decide +kernel) (by decide +kernel)
theorem wd988 : Cond.instanceMethod yX8_init ∈ tblG := gw6 32 (by decide +kernel) (by decide +kernel)
theorem wd989 : Cond.code yX8_init cX8_init 1 none ∈ tblG := gw6 33 (by decide +kernel) (by decide +kernel)
theorem pl_X8_init : Plain yX8_init 0 := ⟨by decide, by decide, by decide +kernel⟩
theorem lk_L_12 : LkI RL 12 yX8_init cX8_init 1 0 := ⟨Or.inl wd987, rfl, wd988, wd238, wd989, pl_X8_init⟩
theorem g_sld {p : Program} {l : Launch} {e : Env} {s : State} {m : MethodId} {args : Array Value} {below : List Frame} {meth : Method} {c : Code} {own : String} {cc : ByteArray} {nL : Nat} {G : va_G} {cy : Nat → ClassId} {A : Nat → Prop} {R : Room} {cells slots : Nat} {Q : State → Prop} {L : List Nat} {M : Nat → va_E} {pc : Nat} {lv : List (Nat × Value)} {st : List Value} (C : Cx p s m args meth c own cc nL G cy A) {b Ln : Nat} {xs : Nat → Int32} {i v : Int32} (hX : va_X b Ln xs s s.heap) (hbl : b < s.heap.size) (hbA : ¬ A b) (hin : vp_in i Ln) (hv : xs i.toNatClampNeg = v) (hd : decode cc pc = .ok (.iaload, 1)) (k : Go p l e R s m args below meth c nL G A cells slots Q L M (pc + 1) lv (.int v :: st)) : Go p l e R s m args below meth c nL G A cells slots Q L M pc lv (.int i :: .ref b :: st) := by
  subst hv
  exact fun H locs ls hP hD hS hl => va_sld C.1 C.2.1 hX hbl hbA hS hin hd (k H locs ls hP hD hS hl)
theorem g_slen {p : Program} {l : Launch} {e : Env} {s : State} {m : MethodId} {args : Array Value} {below : List Frame} {meth : Method} {c : Code} {own : String} {cc : ByteArray} {nL : Nat} {G : va_G} {cy : Nat → ClassId} {A : Nat → Prop} {R : Room} {cells slots : Nat} {Q : State → Prop} {L : List Nat} {M : Nat → va_E} {pc : Nat} {lv : List (Nat × Value)} {st : List Value} (C : Cx p s m args meth c own cc nL G cy A) {b Ln : Nat} {xs : Nat → Int32} {v : Int32} (hX : va_X b Ln xs s s.heap) (hbl : b < s.heap.size) (hbA : ¬ A b) (hv : Int32.ofNat Ln = v) (hd : decode cc pc = .ok (.arraylength, 1)) (k : Go p l e R s m args below meth c nL G A cells slots Q L M (pc + 1) lv (.int v :: st)) : Go p l e R s m args below meth c nL G A cells slots Q L M pc lv (.ref b :: st) := by
  subst hv
  exact fun H locs ls hP hD hS hl => va_slen C.1 C.2.1 hX hbl hbA hS hd (k H locs ls hP hD hS hl)
set_option maxHeartbeats 4000000 in
set_option maxRecDepth 100000 in
theorem lc_0 {p : Program} {l : Launch} {e : Env} {s : State} {m : MethodId} {below : List Frame} {meth : Method} {c : Code} {G : va_G} {cy : Nat → ClassId} {A : Nat → Prop} {Q : State → Prop} {b : Nat} {xs : Nat → Int32} {a bm : Nat → Nat} {L : List Nat} {M : Nat → va_E} (C : Cx p s m #[Value.ref b] meth c RL cL_law 4 G cy A) (hX : va_X b 6 xs s s.heap) (hbl : b < s.heap.size) (hbA : ¬ A b) (F : FW L M (flC cy a ++ flM cy bm 0 (fun _ => 0))) (tail : ∀ (L : List Nat) (M : Nat → va_E), Go p l e room_1 s m #[Value.ref b] below meth c 4 G A 200 20000 Q L M 2395 [(3, .int 0), (2, .ref (bm 0)), (1, .ref (a 0)), (0, .ref b)] []) : Go p l e room_1 s m #[Value.ref b] below meth c 4 G A 68 5738 Q L M 348 [(3, .int 0), (2, .ref (bm 0)), (1, .ref (a 0)), (0, .ref b)] [] := by
  refine g_aload_n C dL_law_348 rfl (j := 2) rfl ?_
  refine g_aload_n C dL_law_349 rfl (j := 3) rfl ?_
  refine g_iload_n C dL_law_350 rfl (j := 0) rfl ?_
  refine g_iconst C dL_law_351 (v := 1) (by decide) ?_
  refine g_iadd C dL_law_352 ?_
  refine Go.top (v := .int 1) (by decide) ?_
  refine g_sld C hX hbl hbA (vp_in_iff.mpr (by decide)) (v := xs 1) rfl dL_law_353 ?_
  refine g_aload_n C dL_law_354 rfl (j := 3) rfl ?_
  refine g_iload_n C dL_law_355 rfl (j := 0) rfl ?_
  refine g_iconst C dL_law_356 (v := 2) (by decide) ?_
  refine g_iadd C dL_law_357 ?_
  refine Go.top (v := .int 2) (by decide) ?_
  refine g_sld C hX hbl hbA (vp_in_iff.mpr (by decide)) (v := xs 2) rfl dL_law_358 ?_
  refine g_aload_n C dL_law_359 rfl (j := 3) rfl ?_
  refine g_iload_n C dL_law_360 rfl (j := 0) rfl ?_
  refine g_iconst C dL_law_361 (v := 3) (by decide) ?_
  refine g_iadd C dL_law_362 ?_
  refine Go.top (v := .int 3) (by decide) ?_
  refine g_sld C hX hbl hbA (vp_in_iff.mpr (by decide)) (v := xs 3) rfl dL_law_363 ?_
  refine g_aload_n C dL_law_364 rfl (j := 3) rfl ?_
  refine g_iload_n C dL_law_365 rfl (j := 0) rfl ?_
  refine g_iconst C dL_law_366 (v := 4) (by decide) ?_
  refine g_iadd C dL_law_367 ?_
  refine Go.top (v := .int 4) (by decide) ?_
  refine g_sld C hX hbl hbA (vp_in_iff.mpr (by decide)) (v := xs 4) rfl dL_law_368 ?_
  refine g_aload_n C dL_law_369 rfl (j := 3) rfl ?_
  refine g_iload_n C dL_law_370 rfl (j := 0) rfl ?_
  refine g_iconst C dL_law_371 (v := 5) (by decide) ?_
  refine g_iadd C dL_law_372 ?_
  refine Go.top (v := .int 5) (by decide) ?_
  refine g_sld C hX hbl hbA (vp_in_iff.mpr (by decide)) (v := xs 5) rfl dL_law_373 ?_
  refine g_callVI C (c_X7_feed l G F (xs 1) (xs 2) (xs 3) (xs 4) (xs 5)) lk_L_13 (F.mem 0 rfl) (F.at 0 rfl) rfl rfl dL_law_374 (Nat.le_of_ble_eq_true rfl) ⟨by decide, by decide⟩ ⟨by decide, by decide⟩ (fun r1 L M hp => ?_)
  obtain ⟨r1_, F⟩ := hp
  subst r1_
  refine g_aload_n C dL_law_377 rfl (j := 1) rfl ?_
  refine g_aload_n C dL_law_378 rfl (j := 3) rfl ?_
  refine g_iload_n C dL_law_379 rfl (j := 0) rfl ?_
  refine g_iconst C dL_law_380 (v := 1) (by decide) ?_
  refine g_iadd C dL_law_381 ?_
  refine Go.top (v := .int 1) (by decide) ?_
  refine g_sld C hX hbl hbA (vp_in_iff.mpr (by decide)) (v := xs 1) rfl dL_law_382 ?_
  refine g_aload_n C dL_law_383 rfl (j := 3) rfl ?_
  refine g_iload_n C dL_law_384 rfl (j := 0) rfl ?_
  refine g_iconst C dL_law_385 (v := 2) (by decide) ?_
  refine g_iadd C dL_law_386 ?_
  refine Go.top (v := .int 2) (by decide) ?_
  refine g_sld C hX hbl hbA (vp_in_iff.mpr (by decide)) (v := xs 2) rfl dL_law_387 ?_
  refine g_aload_n C dL_law_388 rfl (j := 3) rfl ?_
  refine g_iload_n C dL_law_389 rfl (j := 0) rfl ?_
  refine g_iconst C dL_law_390 (v := 3) (by decide) ?_
  refine g_iadd C dL_law_391 ?_
  refine Go.top (v := .int 3) (by decide) ?_
  refine g_sld C hX hbl hbA (vp_in_iff.mpr (by decide)) (v := xs 3) rfl dL_law_392 ?_
  refine g_aload_n C dL_law_393 rfl (j := 3) rfl ?_
  refine g_iload_n C dL_law_394 rfl (j := 0) rfl ?_
  refine g_iconst C dL_law_395 (v := 4) (by decide) ?_
  refine g_iadd C dL_law_396 ?_
  refine Go.top (v := .int 4) (by decide) ?_
  refine g_sld C hX hbl hbA (vp_in_iff.mpr (by decide)) (v := xs 4) rfl dL_law_397 ?_
  refine g_aload_n C dL_law_398 rfl (j := 3) rfl ?_
  refine g_iload_n C dL_law_399 rfl (j := 0) rfl ?_
  refine g_iconst C dL_law_400 (v := 5) (by decide) ?_
  refine g_iadd C dL_law_401 ?_
  refine Go.top (v := .int 5) (by decide) ?_
  refine g_sld C hX hbl hbA (vp_in_iff.mpr (by decide)) (v := xs 5) rfl dL_law_402 ?_
  refine g_callVI C (c_X8_feed l G F (xs 1) (xs 2) (xs 3) (xs 4) (xs 5)) lk_L_17 (F.mem 0 rfl) (F.at 0 rfl) rfl rfl dL_law_403 (Nat.le_of_ble_eq_true rfl) ⟨by decide, by decide⟩ ⟨by decide, by decide⟩ (fun r2 L M hp => ?_)
  subst hp
  refine g_icmp_eq C dL_law_406 (tgt := 2395) (by decide) (fun _ => ?_) (fun q => absurd (by decide) q)
  refine g_widen (k1 := 200) (k2 := 20000) (by decide) (by decide) ?_
  exact tail L M
set_option maxHeartbeats 4000000 in
set_option maxRecDepth 100000 in
theorem lc_1 {p : Program} {l : Launch} {e : Env} {s : State} {m : MethodId} {below : List Frame} {meth : Method} {c : Code} {G : va_G} {cy : Nat → ClassId} {A : Nat → Prop} {Q : State → Prop} {b : Nat} {xs : Nat → Int32} {a bm : Nat → Nat} {L : List Nat} {M : Nat → va_E} (C : Cx p s m #[Value.ref b] meth c RL cL_law 4 G cy A) (hX : va_X b 6 xs s s.heap) (hbl : b < s.heap.size) (hbA : ¬ A b) (F : FW L M (flC cy a ++ flM cy bm 0 (fun _ => 0))) (tail : ∀ (L : List Nat) (M : Nat → va_E), Go p l e room_1 s m #[Value.ref b] below meth c 4 G A 200 20000 Q L M 2395 [(3, .int 0), (2, .ref (bm 0)), (1, .ref (a 0)), (0, .ref b)] []) : Go p l e room_1 s m #[Value.ref b] below meth c 4 G A 68 5738 Q L M 411 [(3, .int 0), (2, .ref (bm 0)), (1, .ref (a 0)), (0, .ref b)] [] := by
  refine g_aload_n C dL_law_411 rfl (j := 2) rfl ?_
  refine g_aload_n C dL_law_412 rfl (j := 3) rfl ?_
  refine g_iload_n C dL_law_413 rfl (j := 0) rfl ?_
  refine g_iconst C dL_law_414 (v := 1) (by decide) ?_
  refine g_iadd C dL_law_415 ?_
  refine Go.top (v := .int 1) (by decide) ?_
  refine g_sld C hX hbl hbA (vp_in_iff.mpr (by decide)) (v := xs 1) rfl dL_law_416 ?_
  refine g_callVI C (c_X7_end l G F (xs 1)) lk_L_18 (F.mem 0 rfl) (F.at 0 rfl) rfl rfl dL_law_417 (Nat.le_of_ble_eq_true rfl) ⟨by decide, by decide⟩ ⟨by decide, by decide⟩ (fun r1 L M hp => ?_)
  obtain ⟨r1_, F⟩ := hp
  subst r1_
  refine g_aload_n C dL_law_420 rfl (j := 1) rfl ?_
  refine g_aload_n C dL_law_421 rfl (j := 3) rfl ?_
  refine g_iload_n C dL_law_422 rfl (j := 0) rfl ?_
  refine g_iconst C dL_law_423 (v := 1) (by decide) ?_
  refine g_iadd C dL_law_424 ?_
  refine Go.top (v := .int 1) (by decide) ?_
  refine g_sld C hX hbl hbA (vp_in_iff.mpr (by decide)) (v := xs 1) rfl dL_law_425 ?_
  refine g_callVI C (c_X8_end l G F (xs 1)) lk_L_22 (F.mem 0 rfl) (F.at 0 rfl) rfl rfl dL_law_426 (Nat.le_of_ble_eq_true rfl) ⟨by decide, by decide⟩ ⟨by decide, by decide⟩ (fun r2 L M hp => ?_)
  subst hp
  refine g_icmp_eq C dL_law_429 (tgt := 2395) (by decide) (fun _ => ?_) (fun q => absurd rfl q)
  refine g_widen (k1 := 200) (k2 := 20000) (by decide) (by decide) ?_
  exact tail L M
set_option maxHeartbeats 4000000 in
set_option maxRecDepth 100000 in
theorem lc_2 {p : Program} {l : Launch} {e : Env} {s : State} {m : MethodId} {below : List Frame} {meth : Method} {c : Code} {G : va_G} {cy : Nat → ClassId} {A : Nat → Prop} {Q : State → Prop} {b : Nat} {xs : Nat → Int32} {a bm : Nat → Nat} {L : List Nat} {M : Nat → va_E} (C : Cx p s m #[Value.ref b] meth c RL cL_law 4 G cy A) (hX : va_X b 6 xs s s.heap) (hbl : b < s.heap.size) (hbA : ¬ A b) (F : FW L M (flC cy a ++ flM cy bm 0 (fun _ => 0))) (tail : ∀ (L : List Nat) (M : Nat → va_E), Go p l e room_1 s m #[Value.ref b] below meth c 4 G A 200 20000 Q L M 2395 [(3, .int 0), (2, .ref (bm 0)), (1, .ref (a 0)), (0, .ref b)] []) : Go p l e room_1 s m #[Value.ref b] below meth c 4 G A 68 5738 Q L M 434 [(3, .int 0), (2, .ref (bm 0)), (1, .ref (a 0)), (0, .ref b)] [] := by
  refine g_aload_n C dL_law_434 rfl (j := 2) rfl ?_
  refine g_callVI C (c_X7_heath l G F ) lk_L_23 (F.mem 0 rfl) (F.at 0 rfl) rfl rfl dL_law_435 (Nat.le_of_ble_eq_true rfl) ⟨by decide, by decide⟩ ⟨by decide, by decide⟩ (fun r1 L M hp => ?_)
  obtain ⟨r1_, F⟩ := hp
  subst r1_
  have F := F.right
  refine g_aload_n C dL_law_438 rfl (j := 1) rfl ?_
  refine g_callVI C (c_X8_heath l G F ) lk_L_27 (F.mem 0 rfl) (F.at 0 rfl) rfl rfl dL_law_439 (Nat.le_of_ble_eq_true rfl) ⟨by decide, by decide⟩ ⟨by decide, by decide⟩ (fun r2 L M hp => ?_)
  subst hp
  refine g_icmp_eq C dL_law_442 (tgt := 2395) (by decide) (fun _ => ?_) (fun q => absurd (by decide) q)
  refine g_widen (k1 := 200) (k2 := 20000) (by decide) (by decide) ?_
  exact tail L M
set_option maxHeartbeats 4000000 in
set_option maxRecDepth 100000 in
theorem lc_3 {p : Program} {l : Launch} {e : Env} {s : State} {m : MethodId} {below : List Frame} {meth : Method} {c : Code} {G : va_G} {cy : Nat → ClassId} {A : Nat → Prop} {Q : State → Prop} {b : Nat} {xs : Nat → Int32} {a bm : Nat → Nat} {L : List Nat} {M : Nat → va_E} (C : Cx p s m #[Value.ref b] meth c RL cL_law 4 G cy A) (hX : va_X b 6 xs s s.heap) (hbl : b < s.heap.size) (hbA : ¬ A b) (F : FW L M (flC cy a ++ flM cy bm 0 (fun _ => 0))) (tail : ∀ (L : List Nat) (M : Nat → va_E), Go p l e room_1 s m #[Value.ref b] below meth c 4 G A 200 20000 Q L M 2395 [(3, .int 0), (2, .ref (bm 0)), (1, .ref (a 0)), (0, .ref b)] []) : Go p l e room_1 s m #[Value.ref b] below meth c 4 G A 68 5738 Q L M 447 [(3, .int 0), (2, .ref (bm 0)), (1, .ref (a 0)), (0, .ref b)] [] := by
  refine g_aload_n C dL_law_447 rfl (j := 2) rfl ?_
  refine g_aload_n C dL_law_448 rfl (j := 3) rfl ?_
  refine g_iload_n C dL_law_449 rfl (j := 0) rfl ?_
  refine g_iconst C dL_law_450 (v := 1) (by decide) ?_
  refine g_iadd C dL_law_451 ?_
  refine Go.top (v := .int 1) (by decide) ?_
  refine g_sld C hX hbl hbA (vp_in_iff.mpr (by decide)) (v := xs 1) rfl dL_law_452 ?_
  refine g_callVI C (c_X7_fault l G F (xs 1)) lk_L_28 (F.mem 0 rfl) (F.at 0 rfl) rfl rfl dL_law_453 (Nat.le_of_ble_eq_true rfl) ⟨by decide, by decide⟩ ⟨by decide, by decide⟩ (fun r1 L M hp => ?_)
  obtain ⟨r1_, F⟩ := hp
  subst r1_
  refine g_aload_n C dL_law_456 rfl (j := 1) rfl ?_
  refine g_aload_n C dL_law_457 rfl (j := 3) rfl ?_
  refine g_iload_n C dL_law_458 rfl (j := 0) rfl ?_
  refine g_iconst C dL_law_459 (v := 1) (by decide) ?_
  refine g_iadd C dL_law_460 ?_
  refine Go.top (v := .int 1) (by decide) ?_
  refine g_sld C hX hbl hbA (vp_in_iff.mpr (by decide)) (v := xs 1) rfl dL_law_461 ?_
  refine g_callVI C (c_X8_fault l G F (xs 1)) lk_L_31 (F.mem 0 rfl) (F.at 0 rfl) rfl rfl dL_law_462 (Nat.le_of_ble_eq_true rfl) ⟨by decide, by decide⟩ ⟨by decide, by decide⟩ (fun r2 L M hp => ?_)
  subst hp
  refine g_icmp_eq C dL_law_465 (tgt := 2395) (by decide) (fun _ => ?_) (fun q => absurd rfl q)
  refine g_widen (k1 := 200) (k2 := 20000) (by decide) (by decide) ?_
  exact tail L M
set_option maxHeartbeats 4000000 in
set_option maxRecDepth 100000 in
theorem lc_4 {p : Program} {l : Launch} {e : Env} {s : State} {m : MethodId} {below : List Frame} {meth : Method} {c : Code} {G : va_G} {cy : Nat → ClassId} {A : Nat → Prop} {Q : State → Prop} {b : Nat} {xs : Nat → Int32} {a bm : Nat → Nat} {L : List Nat} {M : Nat → va_E} (C : Cx p s m #[Value.ref b] meth c RL cL_law 4 G cy A) (hX : va_X b 6 xs s s.heap) (hbl : b < s.heap.size) (hbA : ¬ A b) (F : FW L M (flC cy a ++ flM cy bm 0 (fun _ => 0))) (tail : ∀ (L : List Nat) (M : Nat → va_E), Go p l e room_1 s m #[Value.ref b] below meth c 4 G A 200 20000 Q L M 2395 [(3, .int 0), (2, .ref (bm 0)), (1, .ref (a 0)), (0, .ref b)] []) : Go p l e room_1 s m #[Value.ref b] below meth c 4 G A 68 5738 Q L M 470 [(3, .int 0), (2, .ref (bm 0)), (1, .ref (a 0)), (0, .ref b)] [] := by
  refine g_aload_n C dL_law_470 rfl (j := 2) rfl ?_
  refine g_aload_n C dL_law_471 rfl (j := 3) rfl ?_
  refine g_iload_n C dL_law_472 rfl (j := 0) rfl ?_
  refine g_iconst C dL_law_473 (v := 1) (by decide) ?_
  refine g_iadd C dL_law_474 ?_
  refine Go.top (v := .int 1) (by decide) ?_
  refine g_sld C hX hbl hbA (vp_in_iff.mpr (by decide)) (v := xs 1) rfl dL_law_475 ?_
  refine g_callVI C (c_X7_room l G F (xs 1)) lk_L_32 (F.mem 0 rfl) (F.at 0 rfl) rfl rfl dL_law_476 (Nat.le_of_ble_eq_true rfl) ⟨by decide, by decide⟩ ⟨by decide, by decide⟩ (fun r1 L M hp => ?_)
  obtain ⟨r1_, F⟩ := hp
  subst r1_
  have F := F.right
  refine g_aload_n C dL_law_479 rfl (j := 1) rfl ?_
  refine g_aload_n C dL_law_480 rfl (j := 3) rfl ?_
  refine g_iload_n C dL_law_481 rfl (j := 0) rfl ?_
  refine g_iconst C dL_law_482 (v := 1) (by decide) ?_
  refine g_iadd C dL_law_483 ?_
  refine Go.top (v := .int 1) (by decide) ?_
  refine g_sld C hX hbl hbA (vp_in_iff.mpr (by decide)) (v := xs 1) rfl dL_law_484 ?_
  refine g_callVI C (c_X8_room l G F (xs 1)) lk_L_35 (F.mem 0 rfl) (F.at 0 rfl) rfl rfl dL_law_485 (Nat.le_of_ble_eq_true rfl) ⟨by decide, by decide⟩ ⟨by decide, by decide⟩ (fun r2 L M hp => ?_)
  subst hp
  refine g_icmp_eq C dL_law_488 (tgt := 2395) (by decide) (fun _ => ?_) (fun q => absurd (by decide) q)
  refine g_widen (k1 := 200) (k2 := 20000) (by decide) (by decide) ?_
  exact tail L M
set_option maxHeartbeats 4000000 in
set_option maxRecDepth 100000 in
theorem lc_5 {p : Program} {l : Launch} {e : Env} {s : State} {m : MethodId} {below : List Frame} {meth : Method} {c : Code} {G : va_G} {cy : Nat → ClassId} {A : Nat → Prop} {Q : State → Prop} {b : Nat} {xs : Nat → Int32} {a bm : Nat → Nat} {L : List Nat} {M : Nat → va_E} (C : Cx p s m #[Value.ref b] meth c RL cL_law 4 G cy A) (hX : va_X b 6 xs s s.heap) (hbl : b < s.heap.size) (hbA : ¬ A b) (F : FW L M (flC cy a ++ flM cy bm 0 (fun _ => 0))) (tail : ∀ (L : List Nat) (M : Nat → va_E), Go p l e room_1 s m #[Value.ref b] below meth c 4 G A 200 20000 Q L M 2395 [(3, .int 0), (2, .ref (bm 0)), (1, .ref (a 0)), (0, .ref b)] []) : Go p l e room_1 s m #[Value.ref b] below meth c 4 G A 68 5738 Q L M 493 [(3, .int 0), (2, .ref (bm 0)), (1, .ref (a 0)), (0, .ref b)] [] := by
  refine g_aload_n C dL_law_493 rfl (j := 2) rfl ?_
  refine g_aload_n C dL_law_494 rfl (j := 3) rfl ?_
  refine g_iload_n C dL_law_495 rfl (j := 0) rfl ?_
  refine g_iconst C dL_law_496 (v := 1) (by decide) ?_
  refine g_iadd C dL_law_497 ?_
  refine Go.top (v := .int 1) (by decide) ?_
  refine g_sld C hX hbl hbA (vp_in_iff.mpr (by decide)) (v := xs 1) rfl dL_law_498 ?_
  refine g_callVI C (c_X7_roads l G F (xs 1)) lk_L_36 (F.mem 0 rfl) (F.at 0 rfl) rfl rfl dL_law_499 (Nat.le_of_ble_eq_true rfl) ⟨by decide, by decide⟩ ⟨by decide, by decide⟩ (fun r1 L M hp => ?_)
  obtain ⟨r1_, F⟩ := hp
  subst r1_
  have F := F.right
  refine g_aload_n C dL_law_502 rfl (j := 1) rfl ?_
  refine g_aload_n C dL_law_503 rfl (j := 3) rfl ?_
  refine g_iload_n C dL_law_504 rfl (j := 0) rfl ?_
  refine g_iconst C dL_law_505 (v := 1) (by decide) ?_
  refine g_iadd C dL_law_506 ?_
  refine Go.top (v := .int 1) (by decide) ?_
  refine g_sld C hX hbl hbA (vp_in_iff.mpr (by decide)) (v := xs 1) rfl dL_law_507 ?_
  refine g_callVI C (c_X8_roads l G F (xs 1)) lk_L_39 (F.mem 0 rfl) (F.at 0 rfl) rfl rfl dL_law_508 (Nat.le_of_ble_eq_true rfl) ⟨by decide, by decide⟩ ⟨by decide, by decide⟩ (fun r2 L M hp => ?_)
  subst hp
  refine g_icmp_eq C dL_law_511 (tgt := 2395) (by decide) (fun _ => ?_) (fun q => absurd (by decide) q)
  refine g_widen (k1 := 200) (k2 := 20000) (by decide) (by decide) ?_
  exact tail L M
set_option maxHeartbeats 4000000 in
set_option maxRecDepth 100000 in
theorem lc_6 {p : Program} {l : Launch} {e : Env} {s : State} {m : MethodId} {below : List Frame} {meth : Method} {c : Code} {G : va_G} {cy : Nat → ClassId} {A : Nat → Prop} {Q : State → Prop} {b : Nat} {xs : Nat → Int32} {a bm : Nat → Nat} {L : List Nat} {M : Nat → va_E} (C : Cx p s m #[Value.ref b] meth c RL cL_law 4 G cy A) (hX : va_X b 6 xs s s.heap) (hbl : b < s.heap.size) (hbA : ¬ A b) (F : FW L M (flC cy a ++ flM cy bm 0 (fun _ => 0))) (tail : ∀ (L : List Nat) (M : Nat → va_E), Go p l e room_1 s m #[Value.ref b] below meth c 4 G A 200 20000 Q L M 2395 [(3, .int 0), (2, .ref (bm 0)), (1, .ref (a 0)), (0, .ref b)] []) : Go p l e room_1 s m #[Value.ref b] below meth c 4 G A 68 5738 Q L M 516 [(3, .int 0), (2, .ref (bm 0)), (1, .ref (a 0)), (0, .ref b)] [] := by
  refine g_aload_n C dL_law_516 rfl (j := 2) rfl ?_
  refine g_aload_n C dL_law_517 rfl (j := 3) rfl ?_
  refine g_iload_n C dL_law_518 rfl (j := 0) rfl ?_
  refine g_iconst C dL_law_519 (v := 1) (by decide) ?_
  refine g_iadd C dL_law_520 ?_
  refine Go.top (v := .int 1) (by decide) ?_
  refine g_sld C hX hbl hbA (vp_in_iff.mpr (by decide)) (v := xs 1) rfl dL_law_521 ?_
  refine g_aload_n C dL_law_522 rfl (j := 3) rfl ?_
  refine g_iload_n C dL_law_523 rfl (j := 0) rfl ?_
  refine g_iconst C dL_law_524 (v := 2) (by decide) ?_
  refine g_iadd C dL_law_525 ?_
  refine Go.top (v := .int 2) (by decide) ?_
  refine g_sld C hX hbl hbA (vp_in_iff.mpr (by decide)) (v := xs 2) rfl dL_law_526 ?_
  refine g_callVI C (c_X7_goes l G F (xs 1) (xs 2)) lk_L_40 (F.mem 0 rfl) (F.at 0 rfl) rfl rfl dL_law_527 (Nat.le_of_ble_eq_true rfl) ⟨by decide, by decide⟩ ⟨by decide, by decide⟩ (fun r1 L M hp => ?_)
  obtain ⟨r1_, F⟩ := hp
  subst r1_
  have F := F.right
  refine g_aload_n C dL_law_530 rfl (j := 1) rfl ?_
  refine g_aload_n C dL_law_531 rfl (j := 3) rfl ?_
  refine g_iload_n C dL_law_532 rfl (j := 0) rfl ?_
  refine g_iconst C dL_law_533 (v := 1) (by decide) ?_
  refine g_iadd C dL_law_534 ?_
  refine Go.top (v := .int 1) (by decide) ?_
  refine g_sld C hX hbl hbA (vp_in_iff.mpr (by decide)) (v := xs 1) rfl dL_law_535 ?_
  refine g_aload_n C dL_law_536 rfl (j := 3) rfl ?_
  refine g_iload_n C dL_law_537 rfl (j := 0) rfl ?_
  refine g_iconst C dL_law_538 (v := 2) (by decide) ?_
  refine g_iadd C dL_law_539 ?_
  refine Go.top (v := .int 2) (by decide) ?_
  refine g_sld C hX hbl hbA (vp_in_iff.mpr (by decide)) (v := xs 2) rfl dL_law_540 ?_
  refine g_callVI C (c_X8_goes l G F (xs 1) (xs 2)) lk_L_44 (F.mem 0 rfl) (F.at 0 rfl) rfl rfl dL_law_541 (Nat.le_of_ble_eq_true rfl) ⟨by decide, by decide⟩ ⟨by decide, by decide⟩ (fun r2 L M hp => ?_)
  subst hp
  refine g_icmp_eq C dL_law_544 (tgt := 2395) (by decide) (fun _ => ?_) (fun q => absurd (by decide) q)
  refine g_widen (k1 := 200) (k2 := 20000) (by decide) (by decide) ?_
  exact tail L M
set_option maxHeartbeats 4000000 in
set_option maxRecDepth 100000 in
theorem lc_7 {p : Program} {l : Launch} {e : Env} {s : State} {m : MethodId} {below : List Frame} {meth : Method} {c : Code} {G : va_G} {cy : Nat → ClassId} {A : Nat → Prop} {Q : State → Prop} {b : Nat} {xs : Nat → Int32} {a bm : Nat → Nat} {L : List Nat} {M : Nat → va_E} (C : Cx p s m #[Value.ref b] meth c RL cL_law 4 G cy A) (hX : va_X b 6 xs s s.heap) (hbl : b < s.heap.size) (hbA : ¬ A b) (F : FW L M (flC cy a ++ flM cy bm 0 (fun _ => 0))) (tail : ∀ (L : List Nat) (M : Nat → va_E), Go p l e room_1 s m #[Value.ref b] below meth c 4 G A 200 20000 Q L M 2395 [(3, .int 0), (2, .ref (bm 0)), (1, .ref (a 0)), (0, .ref b)] []) : Go p l e room_1 s m #[Value.ref b] below meth c 4 G A 68 5738 Q L M 549 [(3, .int 0), (2, .ref (bm 0)), (1, .ref (a 0)), (0, .ref b)] [] := by
  refine g_aload_n C dL_law_549 rfl (j := 2) rfl ?_
  refine g_aload_n C dL_law_550 rfl (j := 3) rfl ?_
  refine g_iload_n C dL_law_551 rfl (j := 0) rfl ?_
  refine g_iconst C dL_law_552 (v := 1) (by decide) ?_
  refine g_iadd C dL_law_553 ?_
  refine Go.top (v := .int 1) (by decide) ?_
  refine g_sld C hX hbl hbA (vp_in_iff.mpr (by decide)) (v := xs 1) rfl dL_law_554 ?_
  refine g_callVI C (c_X7_told l G F (xs 1)) lk_L_45 (F.mem 0 rfl) (F.at 0 rfl) rfl rfl dL_law_555 (Nat.le_of_ble_eq_true rfl) ⟨by decide, by decide⟩ ⟨by decide, by decide⟩ (fun r1 L M hp => ?_)
  obtain ⟨r1_, F⟩ := hp
  subst r1_
  have F := F.right
  refine g_aload_n C dL_law_558 rfl (j := 1) rfl ?_
  refine g_aload_n C dL_law_559 rfl (j := 3) rfl ?_
  refine g_iload_n C dL_law_560 rfl (j := 0) rfl ?_
  refine g_iconst C dL_law_561 (v := 1) (by decide) ?_
  refine g_iadd C dL_law_562 ?_
  refine Go.top (v := .int 1) (by decide) ?_
  refine g_sld C hX hbl hbA (vp_in_iff.mpr (by decide)) (v := xs 1) rfl dL_law_563 ?_
  refine g_callVI C (c_X8_told l G F (xs 1)) lk_L_48 (F.mem 0 rfl) (F.at 0 rfl) rfl rfl dL_law_564 (Nat.le_of_ble_eq_true rfl) ⟨by decide, by decide⟩ ⟨by decide, by decide⟩ (fun r2 L M hp => ?_)
  subst hp
  refine g_icmp_eq C dL_law_567 (tgt := 2395) (by decide) (fun _ => ?_) (fun q => absurd (by decide) q)
  refine g_widen (k1 := 200) (k2 := 20000) (by decide) (by decide) ?_
  exact tail L M
set_option maxHeartbeats 4000000 in
set_option maxRecDepth 100000 in
theorem lc_8 {p : Program} {l : Launch} {e : Env} {s : State} {m : MethodId} {below : List Frame} {meth : Method} {c : Code} {G : va_G} {cy : Nat → ClassId} {A : Nat → Prop} {Q : State → Prop} {b : Nat} {xs : Nat → Int32} {a bm : Nat → Nat} {L : List Nat} {M : Nat → va_E} (C : Cx p s m #[Value.ref b] meth c RL cL_law 4 G cy A) (hX : va_X b 6 xs s s.heap) (hbl : b < s.heap.size) (hbA : ¬ A b) (F : FW L M (flC cy a ++ flM cy bm 0 (fun _ => 0))) (tail : ∀ (L : List Nat) (M : Nat → va_E), Go p l e room_1 s m #[Value.ref b] below meth c 4 G A 200 20000 Q L M 2395 [(3, .int 0), (2, .ref (bm 0)), (1, .ref (a 0)), (0, .ref b)] []) : Go p l e room_1 s m #[Value.ref b] below meth c 4 G A 68 5738 Q L M 572 [(3, .int 0), (2, .ref (bm 0)), (1, .ref (a 0)), (0, .ref b)] [] := by
  refine g_aload_n C dL_law_572 rfl (j := 2) rfl ?_
  refine g_aload_n C dL_law_573 rfl (j := 3) rfl ?_
  refine g_iload_n C dL_law_574 rfl (j := 0) rfl ?_
  refine g_iconst C dL_law_575 (v := 1) (by decide) ?_
  refine g_iadd C dL_law_576 ?_
  refine Go.top (v := .int 1) (by decide) ?_
  refine g_sld C hX hbl hbA (vp_in_iff.mpr (by decide)) (v := xs 1) rfl dL_law_577 ?_
  refine g_aload_n C dL_law_578 rfl (j := 3) rfl ?_
  refine g_iload_n C dL_law_579 rfl (j := 0) rfl ?_
  refine g_iconst C dL_law_580 (v := 2) (by decide) ?_
  refine g_iadd C dL_law_581 ?_
  refine Go.top (v := .int 2) (by decide) ?_
  refine g_sld C hX hbl hbA (vp_in_iff.mpr (by decide)) (v := xs 2) rfl dL_law_582 ?_
  refine g_callVI C (c_X7_walker l G F (xs 1) (xs 2)) lk_L_49 (F.mem 0 rfl) (F.at 0 rfl) rfl rfl dL_law_583 (Nat.le_of_ble_eq_true rfl) ⟨by decide, by decide⟩ ⟨by decide, by decide⟩ (fun r1 L M hp => ?_)
  obtain ⟨r1_, F⟩ := hp
  subst r1_
  have F := F.right
  refine g_aload_n C dL_law_586 rfl (j := 1) rfl ?_
  refine g_aload_n C dL_law_587 rfl (j := 3) rfl ?_
  refine g_iload_n C dL_law_588 rfl (j := 0) rfl ?_
  refine g_iconst C dL_law_589 (v := 1) (by decide) ?_
  refine g_iadd C dL_law_590 ?_
  refine Go.top (v := .int 1) (by decide) ?_
  refine g_sld C hX hbl hbA (vp_in_iff.mpr (by decide)) (v := xs 1) rfl dL_law_591 ?_
  refine g_aload_n C dL_law_592 rfl (j := 3) rfl ?_
  refine g_iload_n C dL_law_593 rfl (j := 0) rfl ?_
  refine g_iconst C dL_law_594 (v := 2) (by decide) ?_
  refine g_iadd C dL_law_595 ?_
  refine Go.top (v := .int 2) (by decide) ?_
  refine g_sld C hX hbl hbA (vp_in_iff.mpr (by decide)) (v := xs 2) rfl dL_law_596 ?_
  refine g_callVI C (c_X8_walker l G F (xs 1) (xs 2)) lk_L_52 (F.mem 0 rfl) (F.at 0 rfl) rfl rfl dL_law_597 (Nat.le_of_ble_eq_true rfl) ⟨by decide, by decide⟩ ⟨by decide, by decide⟩ (fun r2 L M hp => ?_)
  subst hp
  refine g_icmp_eq C dL_law_600 (tgt := 2395) (by decide) (fun _ => ?_) (fun q => absurd (by decide) q)
  refine g_widen (k1 := 200) (k2 := 20000) (by decide) (by decide) ?_
  exact tail L M
set_option maxHeartbeats 4000000 in
set_option maxRecDepth 100000 in
theorem lc_9 {p : Program} {l : Launch} {e : Env} {s : State} {m : MethodId} {below : List Frame} {meth : Method} {c : Code} {G : va_G} {cy : Nat → ClassId} {A : Nat → Prop} {Q : State → Prop} {b : Nat} {xs : Nat → Int32} {a bm : Nat → Nat} {L : List Nat} {M : Nat → va_E} (C : Cx p s m #[Value.ref b] meth c RL cL_law 4 G cy A) (hX : va_X b 6 xs s s.heap) (hbl : b < s.heap.size) (hbA : ¬ A b) (F : FW L M (flC cy a ++ flM cy bm 0 (fun _ => 0))) (tail : ∀ (L : List Nat) (M : Nat → va_E), Go p l e room_1 s m #[Value.ref b] below meth c 4 G A 200 20000 Q L M 2395 [(3, .int 0), (2, .ref (bm 0)), (1, .ref (a 0)), (0, .ref b)] []) : Go p l e room_1 s m #[Value.ref b] below meth c 4 G A 68 5738 Q L M 605 [(3, .int 0), (2, .ref (bm 0)), (1, .ref (a 0)), (0, .ref b)] [] := by
  refine g_aload_n C dL_law_605 rfl (j := 2) rfl ?_
  refine g_aload_n C dL_law_606 rfl (j := 3) rfl ?_
  refine g_iload_n C dL_law_607 rfl (j := 0) rfl ?_
  refine g_iconst C dL_law_608 (v := 1) (by decide) ?_
  refine g_iadd C dL_law_609 ?_
  refine Go.top (v := .int 1) (by decide) ?_
  refine g_sld C hX hbl hbA (vp_in_iff.mpr (by decide)) (v := xs 1) rfl dL_law_610 ?_
  refine g_aload_n C dL_law_611 rfl (j := 3) rfl ?_
  refine g_iload_n C dL_law_612 rfl (j := 0) rfl ?_
  refine g_iconst C dL_law_613 (v := 2) (by decide) ?_
  refine g_iadd C dL_law_614 ?_
  refine Go.top (v := .int 2) (by decide) ?_
  refine g_sld C hX hbl hbA (vp_in_iff.mpr (by decide)) (v := xs 2) rfl dL_law_615 ?_
  refine g_callVI C (c_X7_at l G F (xs 1) (xs 2)) lk_L_53 (F.mem 0 rfl) (F.at 0 rfl) rfl rfl dL_law_616 (Nat.le_of_ble_eq_true rfl) ⟨by decide, by decide⟩ ⟨by decide, by decide⟩ (fun r1 L M hp => ?_)
  obtain ⟨r1_, F⟩ := hp
  subst r1_
  have F := F.right
  refine g_aload_n C dL_law_619 rfl (j := 1) rfl ?_
  refine g_aload_n C dL_law_620 rfl (j := 3) rfl ?_
  refine g_iload_n C dL_law_621 rfl (j := 0) rfl ?_
  refine g_iconst C dL_law_622 (v := 1) (by decide) ?_
  refine g_iadd C dL_law_623 ?_
  refine Go.top (v := .int 1) (by decide) ?_
  refine g_sld C hX hbl hbA (vp_in_iff.mpr (by decide)) (v := xs 1) rfl dL_law_624 ?_
  refine g_aload_n C dL_law_625 rfl (j := 3) rfl ?_
  refine g_iload_n C dL_law_626 rfl (j := 0) rfl ?_
  refine g_iconst C dL_law_627 (v := 2) (by decide) ?_
  refine g_iadd C dL_law_628 ?_
  refine Go.top (v := .int 2) (by decide) ?_
  refine g_sld C hX hbl hbA (vp_in_iff.mpr (by decide)) (v := xs 2) rfl dL_law_629 ?_
  refine g_callVI C (c_X8_at l G F (xs 1) (xs 2)) lk_L_56 (F.mem 0 rfl) (F.at 0 rfl) rfl rfl dL_law_630 (Nat.le_of_ble_eq_true rfl) ⟨by decide, by decide⟩ ⟨by decide, by decide⟩ (fun r2 L M hp => ?_)
  subst hp
  refine g_icmp_eq C dL_law_633 (tgt := 2395) (by decide) (fun _ => ?_) (fun q => absurd (by decide) q)
  refine g_widen (k1 := 200) (k2 := 20000) (by decide) (by decide) ?_
  exact tail L M
set_option maxHeartbeats 4000000 in
set_option maxRecDepth 100000 in
theorem lc_10 {p : Program} {l : Launch} {e : Env} {s : State} {m : MethodId} {below : List Frame} {meth : Method} {c : Code} {G : va_G} {cy : Nat → ClassId} {A : Nat → Prop} {Q : State → Prop} {b : Nat} {xs : Nat → Int32} {a bm : Nat → Nat} {L : List Nat} {M : Nat → va_E} (C : Cx p s m #[Value.ref b] meth c RL cL_law 4 G cy A) (hX : va_X b 6 xs s s.heap) (hbl : b < s.heap.size) (hbA : ¬ A b) (F : FW L M (flC cy a ++ flM cy bm 0 (fun _ => 0))) (tail : ∀ (L : List Nat) (M : Nat → va_E), Go p l e room_1 s m #[Value.ref b] below meth c 4 G A 200 20000 Q L M 2395 [(3, .int 0), (2, .ref (bm 0)), (1, .ref (a 0)), (0, .ref b)] []) : Go p l e room_1 s m #[Value.ref b] below meth c 4 G A 68 5738 Q L M 638 [(3, .int 0), (2, .ref (bm 0)), (1, .ref (a 0)), (0, .ref b)] [] := by
  refine g_aload_n C dL_law_638 rfl (j := 2) rfl ?_
  refine g_aload_n C dL_law_639 rfl (j := 3) rfl ?_
  refine g_iload_n C dL_law_640 rfl (j := 0) rfl ?_
  refine g_iconst C dL_law_641 (v := 1) (by decide) ?_
  refine g_iadd C dL_law_642 ?_
  refine Go.top (v := .int 1) (by decide) ?_
  refine g_sld C hX hbl hbA (vp_in_iff.mpr (by decide)) (v := xs 1) rfl dL_law_643 ?_
  refine g_aload_n C dL_law_644 rfl (j := 3) rfl ?_
  refine g_iload_n C dL_law_645 rfl (j := 0) rfl ?_
  refine g_iconst C dL_law_646 (v := 2) (by decide) ?_
  refine g_iadd C dL_law_647 ?_
  refine Go.top (v := .int 2) (by decide) ?_
  refine g_sld C hX hbl hbA (vp_in_iff.mpr (by decide)) (v := xs 2) rfl dL_law_648 ?_
  refine g_callVI C (c_X7_arm l G F (xs 1) (xs 2)) lk_L_57 (F.mem 0 rfl) (F.at 0 rfl) rfl rfl dL_law_649 (Nat.le_of_ble_eq_true rfl) ⟨by decide, by decide⟩ ⟨by decide, by decide⟩ (fun r1 L M hp => ?_)
  obtain ⟨r1_, F⟩ := hp
  subst r1_
  have F := F.right
  refine g_aload_n C dL_law_652 rfl (j := 1) rfl ?_
  refine g_aload_n C dL_law_653 rfl (j := 3) rfl ?_
  refine g_iload_n C dL_law_654 rfl (j := 0) rfl ?_
  refine g_iconst C dL_law_655 (v := 1) (by decide) ?_
  refine g_iadd C dL_law_656 ?_
  refine Go.top (v := .int 1) (by decide) ?_
  refine g_sld C hX hbl hbA (vp_in_iff.mpr (by decide)) (v := xs 1) rfl dL_law_657 ?_
  refine g_aload_n C dL_law_658 rfl (j := 3) rfl ?_
  refine g_iload_n C dL_law_659 rfl (j := 0) rfl ?_
  refine g_iconst C dL_law_660 (v := 2) (by decide) ?_
  refine g_iadd C dL_law_661 ?_
  refine Go.top (v := .int 2) (by decide) ?_
  refine g_sld C hX hbl hbA (vp_in_iff.mpr (by decide)) (v := xs 2) rfl dL_law_662 ?_
  refine g_callVI C (c_X8_arm l G F (xs 1) (xs 2)) lk_L_60 (F.mem 0 rfl) (F.at 0 rfl) rfl rfl dL_law_663 (Nat.le_of_ble_eq_true rfl) ⟨by decide, by decide⟩ ⟨by decide, by decide⟩ (fun r2 L M hp => ?_)
  subst hp
  refine g_icmp_eq C dL_law_666 (tgt := 2395) (by decide) (fun _ => ?_) (fun q => absurd (by decide) q)
  refine g_widen (k1 := 200) (k2 := 20000) (by decide) (by decide) ?_
  exact tail L M
set_option maxHeartbeats 4000000 in
set_option maxRecDepth 100000 in
theorem lc_11 {p : Program} {l : Launch} {e : Env} {s : State} {m : MethodId} {below : List Frame} {meth : Method} {c : Code} {G : va_G} {cy : Nat → ClassId} {A : Nat → Prop} {Q : State → Prop} {b : Nat} {xs : Nat → Int32} {a bm : Nat → Nat} {L : List Nat} {M : Nat → va_E} (C : Cx p s m #[Value.ref b] meth c RL cL_law 4 G cy A) (hX : va_X b 6 xs s s.heap) (hbl : b < s.heap.size) (hbA : ¬ A b) (F : FW L M (flC cy a ++ flM cy bm 0 (fun _ => 0))) (tail : ∀ (L : List Nat) (M : Nat → va_E), Go p l e room_1 s m #[Value.ref b] below meth c 4 G A 200 20000 Q L M 2395 [(3, .int 0), (2, .ref (bm 0)), (1, .ref (a 0)), (0, .ref b)] []) : Go p l e room_1 s m #[Value.ref b] below meth c 4 G A 68 5738 Q L M 671 [(3, .int 0), (2, .ref (bm 0)), (1, .ref (a 0)), (0, .ref b)] [] := by
  refine g_aload_n C dL_law_671 rfl (j := 2) rfl ?_
  refine g_aload_n C dL_law_672 rfl (j := 3) rfl ?_
  refine g_iload_n C dL_law_673 rfl (j := 0) rfl ?_
  refine g_iconst C dL_law_674 (v := 1) (by decide) ?_
  refine g_iadd C dL_law_675 ?_
  refine Go.top (v := .int 1) (by decide) ?_
  refine g_sld C hX hbl hbA (vp_in_iff.mpr (by decide)) (v := xs 1) rfl dL_law_676 ?_
  refine g_aload_n C dL_law_677 rfl (j := 3) rfl ?_
  refine g_iload_n C dL_law_678 rfl (j := 0) rfl ?_
  refine g_iconst C dL_law_679 (v := 2) (by decide) ?_
  refine g_iadd C dL_law_680 ?_
  refine Go.top (v := .int 2) (by decide) ?_
  refine g_sld C hX hbl hbA (vp_in_iff.mpr (by decide)) (v := xs 2) rfl dL_law_681 ?_
  refine g_callVI C (c_X7_here l G F (xs 1) (xs 2)) lk_L_61 (F.mem 0 rfl) (F.at 0 rfl) rfl rfl dL_law_682 (Nat.le_of_ble_eq_true rfl) ⟨by decide, by decide⟩ ⟨by decide, by decide⟩ (fun r1 L M hp => ?_)
  obtain ⟨r1_, F⟩ := hp
  subst r1_
  have F := F.right
  refine g_aload_n C dL_law_685 rfl (j := 1) rfl ?_
  refine g_aload_n C dL_law_686 rfl (j := 3) rfl ?_
  refine g_iload_n C dL_law_687 rfl (j := 0) rfl ?_
  refine g_iconst C dL_law_688 (v := 1) (by decide) ?_
  refine g_iadd C dL_law_689 ?_
  refine Go.top (v := .int 1) (by decide) ?_
  refine g_sld C hX hbl hbA (vp_in_iff.mpr (by decide)) (v := xs 1) rfl dL_law_690 ?_
  refine g_aload_n C dL_law_691 rfl (j := 3) rfl ?_
  refine g_iload_n C dL_law_692 rfl (j := 0) rfl ?_
  refine g_iconst C dL_law_693 (v := 2) (by decide) ?_
  refine g_iadd C dL_law_694 ?_
  refine Go.top (v := .int 2) (by decide) ?_
  refine g_sld C hX hbl hbA (vp_in_iff.mpr (by decide)) (v := xs 2) rfl dL_law_695 ?_
  refine g_callVI C (c_X8_here l G F (xs 1) (xs 2)) lk_L_64 (F.mem 0 rfl) (F.at 0 rfl) rfl rfl dL_law_696 (Nat.le_of_ble_eq_true rfl) ⟨by decide, by decide⟩ ⟨by decide, by decide⟩ (fun r2 L M hp => ?_)
  subst hp
  refine g_icmp_eq C dL_law_699 (tgt := 2395) (by decide) (fun _ => ?_) (fun q => absurd (by decide) q)
  refine g_widen (k1 := 200) (k2 := 20000) (by decide) (by decide) ?_
  exact tail L M
set_option maxHeartbeats 4000000 in
set_option maxRecDepth 100000 in
theorem lc_12 {p : Program} {l : Launch} {e : Env} {s : State} {m : MethodId} {below : List Frame} {meth : Method} {c : Code} {G : va_G} {cy : Nat → ClassId} {A : Nat → Prop} {Q : State → Prop} {b : Nat} {xs : Nat → Int32} {a bm : Nat → Nat} {L : List Nat} {M : Nat → va_E} (C : Cx p s m #[Value.ref b] meth c RL cL_law 4 G cy A) (hX : va_X b 6 xs s s.heap) (hbl : b < s.heap.size) (hbA : ¬ A b) (F : FW L M (flC cy a ++ flM cy bm 0 (fun _ => 0))) (tail : ∀ (L : List Nat) (M : Nat → va_E), Go p l e room_1 s m #[Value.ref b] below meth c 4 G A 200 20000 Q L M 2395 [(3, .int 0), (2, .ref (bm 0)), (1, .ref (a 0)), (0, .ref b)] []) : Go p l e room_1 s m #[Value.ref b] below meth c 4 G A 68 5738 Q L M 704 [(3, .int 0), (2, .ref (bm 0)), (1, .ref (a 0)), (0, .ref b)] [] := by
  refine g_aload_n C dL_law_704 rfl (j := 2) rfl ?_
  refine g_aload_n C dL_law_705 rfl (j := 3) rfl ?_
  refine g_iload_n C dL_law_706 rfl (j := 0) rfl ?_
  refine g_iconst C dL_law_707 (v := 1) (by decide) ?_
  refine g_iadd C dL_law_708 ?_
  refine Go.top (v := .int 1) (by decide) ?_
  refine g_sld C hX hbl hbA (vp_in_iff.mpr (by decide)) (v := xs 1) rfl dL_law_709 ?_
  refine g_callVI C (c_X7_sent l G F (xs 1)) lk_L_65 (F.mem 0 rfl) (F.at 0 rfl) rfl rfl dL_law_710 (Nat.le_of_ble_eq_true rfl) ⟨by decide, by decide⟩ ⟨by decide, by decide⟩ (fun r1 L M hp => ?_)
  obtain ⟨r1_, F⟩ := hp
  subst r1_
  have F := F.right
  refine g_aload_n C dL_law_713 rfl (j := 1) rfl ?_
  refine g_aload_n C dL_law_714 rfl (j := 3) rfl ?_
  refine g_iload_n C dL_law_715 rfl (j := 0) rfl ?_
  refine g_iconst C dL_law_716 (v := 1) (by decide) ?_
  refine g_iadd C dL_law_717 ?_
  refine Go.top (v := .int 1) (by decide) ?_
  refine g_sld C hX hbl hbA (vp_in_iff.mpr (by decide)) (v := xs 1) rfl dL_law_718 ?_
  refine g_callVI C (c_X8_sent l G F (xs 1)) lk_L_68 (F.mem 0 rfl) (F.at 0 rfl) rfl rfl dL_law_719 (Nat.le_of_ble_eq_true rfl) ⟨by decide, by decide⟩ ⟨by decide, by decide⟩ (fun r2 L M hp => ?_)
  subst hp
  refine g_icmp_eq C dL_law_722 (tgt := 2395) (by decide) (fun _ => ?_) (fun q => absurd (by decide) q)
  refine g_widen (k1 := 200) (k2 := 20000) (by decide) (by decide) ?_
  exact tail L M
set_option maxHeartbeats 4000000 in
set_option maxRecDepth 100000 in
theorem lc_13 {p : Program} {l : Launch} {e : Env} {s : State} {m : MethodId} {below : List Frame} {meth : Method} {c : Code} {G : va_G} {cy : Nat → ClassId} {A : Nat → Prop} {Q : State → Prop} {b : Nat} {xs : Nat → Int32} {a bm : Nat → Nat} {L : List Nat} {M : Nat → va_E} (C : Cx p s m #[Value.ref b] meth c RL cL_law 4 G cy A) (hX : va_X b 6 xs s s.heap) (hbl : b < s.heap.size) (hbA : ¬ A b) (F : FW L M (flC cy a ++ flM cy bm 0 (fun _ => 0))) (tail : ∀ (L : List Nat) (M : Nat → va_E), Go p l e room_1 s m #[Value.ref b] below meth c 4 G A 200 20000 Q L M 2395 [(3, .int 0), (2, .ref (bm 0)), (1, .ref (a 0)), (0, .ref b)] []) : Go p l e room_1 s m #[Value.ref b] below meth c 4 G A 68 5738 Q L M 727 [(3, .int 0), (2, .ref (bm 0)), (1, .ref (a 0)), (0, .ref b)] [] := by
  refine g_aload_n C dL_law_727 rfl (j := 2) rfl ?_
  refine g_aload_n C dL_law_728 rfl (j := 3) rfl ?_
  refine g_iload_n C dL_law_729 rfl (j := 0) rfl ?_
  refine g_iconst C dL_law_730 (v := 1) (by decide) ?_
  refine g_iadd C dL_law_731 ?_
  refine Go.top (v := .int 1) (by decide) ?_
  refine g_sld C hX hbl hbA (vp_in_iff.mpr (by decide)) (v := xs 1) rfl dL_law_732 ?_
  refine g_callVI C (c_X7_sends l G F (xs 1)) lk_L_69 (F.mem 0 rfl) (F.at 0 rfl) rfl rfl dL_law_733 (Nat.le_of_ble_eq_true rfl) ⟨by decide, by decide⟩ ⟨by decide, by decide⟩ (fun r1 L M hp => ?_)
  obtain ⟨r1_, F⟩ := hp
  subst r1_
  have F := F.right
  refine g_aload_n C dL_law_736 rfl (j := 1) rfl ?_
  refine g_aload_n C dL_law_737 rfl (j := 3) rfl ?_
  refine g_iload_n C dL_law_738 rfl (j := 0) rfl ?_
  refine g_iconst C dL_law_739 (v := 1) (by decide) ?_
  refine g_iadd C dL_law_740 ?_
  refine Go.top (v := .int 1) (by decide) ?_
  refine g_sld C hX hbl hbA (vp_in_iff.mpr (by decide)) (v := xs 1) rfl dL_law_741 ?_
  refine g_callVI C (c_X8_sends l G F (xs 1)) lk_L_72 (F.mem 0 rfl) (F.at 0 rfl) rfl rfl dL_law_742 (Nat.le_of_ble_eq_true rfl) ⟨by decide, by decide⟩ ⟨by decide, by decide⟩ (fun r2 L M hp => ?_)
  subst hp
  refine g_icmp_eq C dL_law_745 (tgt := 2395) (by decide) (fun _ => ?_) (fun q => absurd (by decide) q)
  refine g_widen (k1 := 200) (k2 := 20000) (by decide) (by decide) ?_
  exact tail L M
set_option maxHeartbeats 4000000 in
set_option maxRecDepth 100000 in
theorem lc_14 {p : Program} {l : Launch} {e : Env} {s : State} {m : MethodId} {below : List Frame} {meth : Method} {c : Code} {G : va_G} {cy : Nat → ClassId} {A : Nat → Prop} {Q : State → Prop} {b : Nat} {xs : Nat → Int32} {a bm : Nat → Nat} {L : List Nat} {M : Nat → va_E} (C : Cx p s m #[Value.ref b] meth c RL cL_law 4 G cy A) (hX : va_X b 6 xs s s.heap) (hbl : b < s.heap.size) (hbA : ¬ A b) (F : FW L M (flC cy a ++ flM cy bm 0 (fun _ => 0))) (tail : ∀ (L : List Nat) (M : Nat → va_E), Go p l e room_1 s m #[Value.ref b] below meth c 4 G A 200 20000 Q L M 2395 [(3, .int 0), (2, .ref (bm 0)), (1, .ref (a 0)), (0, .ref b)] []) : Go p l e room_1 s m #[Value.ref b] below meth c 4 G A 68 5738 Q L M 750 [(3, .int 0), (2, .ref (bm 0)), (1, .ref (a 0)), (0, .ref b)] [] := by
  refine g_aload_n C dL_law_750 rfl (j := 2) rfl ?_
  refine g_aload_n C dL_law_751 rfl (j := 3) rfl ?_
  refine g_iload_n C dL_law_752 rfl (j := 0) rfl ?_
  refine g_iconst C dL_law_753 (v := 1) (by decide) ?_
  refine g_iadd C dL_law_754 ?_
  refine Go.top (v := .int 1) (by decide) ?_
  refine g_sld C hX hbl hbA (vp_in_iff.mpr (by decide)) (v := xs 1) rfl dL_law_755 ?_
  refine g_aload_n C dL_law_756 rfl (j := 3) rfl ?_
  refine g_iload_n C dL_law_757 rfl (j := 0) rfl ?_
  refine g_iconst C dL_law_758 (v := 2) (by decide) ?_
  refine g_iadd C dL_law_759 ?_
  refine Go.top (v := .int 2) (by decide) ?_
  refine g_sld C hX hbl hbA (vp_in_iff.mpr (by decide)) (v := xs 2) rfl dL_law_760 ?_
  refine g_callVI C (c_X7_used l G F (xs 1) (xs 2)) lk_L_73 (F.mem 0 rfl) (F.at 0 rfl) rfl rfl dL_law_761 (Nat.le_of_ble_eq_true rfl) ⟨by decide, by decide⟩ ⟨by decide, by decide⟩ (fun r1 L M hp => ?_)
  obtain ⟨r1_, F⟩ := hp
  subst r1_
  have F := F.right
  refine g_aload_n C dL_law_764 rfl (j := 1) rfl ?_
  refine g_aload_n C dL_law_765 rfl (j := 3) rfl ?_
  refine g_iload_n C dL_law_766 rfl (j := 0) rfl ?_
  refine g_iconst C dL_law_767 (v := 1) (by decide) ?_
  refine g_iadd C dL_law_768 ?_
  refine Go.top (v := .int 1) (by decide) ?_
  refine g_sld C hX hbl hbA (vp_in_iff.mpr (by decide)) (v := xs 1) rfl dL_law_769 ?_
  refine g_aload_n C dL_law_770 rfl (j := 3) rfl ?_
  refine g_iload_n C dL_law_771 rfl (j := 0) rfl ?_
  refine g_iconst C dL_law_772 (v := 2) (by decide) ?_
  refine g_iadd C dL_law_773 ?_
  refine Go.top (v := .int 2) (by decide) ?_
  refine g_sld C hX hbl hbA (vp_in_iff.mpr (by decide)) (v := xs 2) rfl dL_law_774 ?_
  refine g_callVI C (c_X8_used l G F (xs 1) (xs 2)) lk_L_76 (F.mem 0 rfl) (F.at 0 rfl) rfl rfl dL_law_775 (Nat.le_of_ble_eq_true rfl) ⟨by decide, by decide⟩ ⟨by decide, by decide⟩ (fun r2 L M hp => ?_)
  subst hp
  refine g_icmp_eq C dL_law_778 (tgt := 2395) (by decide) (fun _ => ?_) (fun q => absurd (by decide) q)
  refine g_widen (k1 := 200) (k2 := 20000) (by decide) (by decide) ?_
  exact tail L M
set_option maxHeartbeats 4000000 in
set_option maxRecDepth 100000 in
theorem lc_15 {p : Program} {l : Launch} {e : Env} {s : State} {m : MethodId} {below : List Frame} {meth : Method} {c : Code} {G : va_G} {cy : Nat → ClassId} {A : Nat → Prop} {Q : State → Prop} {b : Nat} {xs : Nat → Int32} {a bm : Nat → Nat} {L : List Nat} {M : Nat → va_E} (C : Cx p s m #[Value.ref b] meth c RL cL_law 4 G cy A) (hX : va_X b 6 xs s s.heap) (hbl : b < s.heap.size) (hbA : ¬ A b) (F : FW L M (flC cy a ++ flM cy bm 0 (fun _ => 0))) (tail : ∀ (L : List Nat) (M : Nat → va_E), Go p l e room_1 s m #[Value.ref b] below meth c 4 G A 200 20000 Q L M 2395 [(3, .int 0), (2, .ref (bm 0)), (1, .ref (a 0)), (0, .ref b)] []) : Go p l e room_1 s m #[Value.ref b] below meth c 4 G A 68 5738 Q L M 783 [(3, .int 0), (2, .ref (bm 0)), (1, .ref (a 0)), (0, .ref b)] [] := by
  refine g_aload_n C dL_law_783 rfl (j := 2) rfl ?_
  refine g_aload_n C dL_law_784 rfl (j := 3) rfl ?_
  refine g_iload_n C dL_law_785 rfl (j := 0) rfl ?_
  refine g_iconst C dL_law_786 (v := 1) (by decide) ?_
  refine g_iadd C dL_law_787 ?_
  refine Go.top (v := .int 1) (by decide) ?_
  refine g_sld C hX hbl hbA (vp_in_iff.mpr (by decide)) (v := xs 1) rfl dL_law_788 ?_
  refine g_callVI C (c_X7_walks l G F (xs 1)) lk_L_77 (F.mem 0 rfl) (F.at 0 rfl) rfl rfl dL_law_789 (Nat.le_of_ble_eq_true rfl) ⟨by decide, by decide⟩ ⟨by decide, by decide⟩ (fun r1 L M hp => ?_)
  obtain ⟨r1_, F⟩ := hp
  subst r1_
  have F := F.right
  refine g_aload_n C dL_law_792 rfl (j := 1) rfl ?_
  refine g_aload_n C dL_law_793 rfl (j := 3) rfl ?_
  refine g_iload_n C dL_law_794 rfl (j := 0) rfl ?_
  refine g_iconst C dL_law_795 (v := 1) (by decide) ?_
  refine g_iadd C dL_law_796 ?_
  refine Go.top (v := .int 1) (by decide) ?_
  refine g_sld C hX hbl hbA (vp_in_iff.mpr (by decide)) (v := xs 1) rfl dL_law_797 ?_
  refine g_callVI C (c_X8_walks l G F (xs 1)) lk_L_80 (F.mem 0 rfl) (F.at 0 rfl) rfl rfl dL_law_798 (Nat.le_of_ble_eq_true rfl) ⟨by decide, by decide⟩ ⟨by decide, by decide⟩ (fun r2 L M hp => ?_)
  subst hp
  refine g_icmp_eq C dL_law_801 (tgt := 2395) (by decide) (fun _ => ?_) (fun q => absurd (by decide) q)
  refine g_widen (k1 := 200) (k2 := 20000) (by decide) (by decide) ?_
  exact tail L M
set_option maxHeartbeats 4000000 in
set_option maxRecDepth 100000 in
theorem lc_16 {p : Program} {l : Launch} {e : Env} {s : State} {m : MethodId} {below : List Frame} {meth : Method} {c : Code} {G : va_G} {cy : Nat → ClassId} {A : Nat → Prop} {Q : State → Prop} {b : Nat} {xs : Nat → Int32} {a bm : Nat → Nat} {L : List Nat} {M : Nat → va_E} (C : Cx p s m #[Value.ref b] meth c RL cL_law 4 G cy A) (hX : va_X b 6 xs s s.heap) (hbl : b < s.heap.size) (hbA : ¬ A b) (F : FW L M (flC cy a ++ flM cy bm 0 (fun _ => 0))) (tail : ∀ (L : List Nat) (M : Nat → va_E), Go p l e room_1 s m #[Value.ref b] below meth c 4 G A 200 20000 Q L M 2395 [(3, .int 0), (2, .ref (bm 0)), (1, .ref (a 0)), (0, .ref b)] []) : Go p l e room_1 s m #[Value.ref b] below meth c 4 G A 68 5738 Q L M 806 [(3, .int 0), (2, .ref (bm 0)), (1, .ref (a 0)), (0, .ref b)] [] := by
  refine g_aload_n C dL_law_806 rfl (j := 2) rfl ?_
  refine g_aload_n C dL_law_807 rfl (j := 3) rfl ?_
  refine g_iload_n C dL_law_808 rfl (j := 0) rfl ?_
  refine g_iconst C dL_law_809 (v := 1) (by decide) ?_
  refine g_iadd C dL_law_810 ?_
  refine Go.top (v := .int 1) (by decide) ?_
  refine g_sld C hX hbl hbA (vp_in_iff.mpr (by decide)) (v := xs 1) rfl dL_law_811 ?_
  refine g_callVI C (c_X7_home l G F (xs 1)) lk_L_81 (F.mem 0 rfl) (F.at 0 rfl) rfl rfl dL_law_812 (Nat.le_of_ble_eq_true rfl) ⟨by decide, by decide⟩ ⟨by decide, by decide⟩ (fun r1 L M hp => ?_)
  obtain ⟨r1_, F⟩ := hp
  subst r1_
  have F := F.right
  refine g_aload_n C dL_law_815 rfl (j := 1) rfl ?_
  refine g_aload_n C dL_law_816 rfl (j := 3) rfl ?_
  refine g_iload_n C dL_law_817 rfl (j := 0) rfl ?_
  refine g_iconst C dL_law_818 (v := 1) (by decide) ?_
  refine g_iadd C dL_law_819 ?_
  refine Go.top (v := .int 1) (by decide) ?_
  refine g_sld C hX hbl hbA (vp_in_iff.mpr (by decide)) (v := xs 1) rfl dL_law_820 ?_
  refine g_callVI C (c_X8_home l G F (xs 1)) lk_L_84 (F.mem 0 rfl) (F.at 0 rfl) rfl rfl dL_law_821 (Nat.le_of_ble_eq_true rfl) ⟨by decide, by decide⟩ ⟨by decide, by decide⟩ (fun r2 L M hp => ?_)
  subst hp
  refine g_icmp_eq C dL_law_824 (tgt := 2395) (by decide) (fun _ => ?_) (fun q => absurd (by decide) q)
  refine g_widen (k1 := 200) (k2 := 20000) (by decide) (by decide) ?_
  exact tail L M
set_option maxHeartbeats 4000000 in
set_option maxRecDepth 100000 in
theorem lc_17 {p : Program} {l : Launch} {e : Env} {s : State} {m : MethodId} {below : List Frame} {meth : Method} {c : Code} {G : va_G} {cy : Nat → ClassId} {A : Nat → Prop} {Q : State → Prop} {b : Nat} {xs : Nat → Int32} {a bm : Nat → Nat} {L : List Nat} {M : Nat → va_E} (C : Cx p s m #[Value.ref b] meth c RL cL_law 4 G cy A) (hX : va_X b 6 xs s s.heap) (hbl : b < s.heap.size) (hbA : ¬ A b) (F : FW L M (flC cy a ++ flM cy bm 0 (fun _ => 0))) (tail : ∀ (L : List Nat) (M : Nat → va_E), Go p l e room_1 s m #[Value.ref b] below meth c 4 G A 200 20000 Q L M 2395 [(3, .int 0), (2, .ref (bm 0)), (1, .ref (a 0)), (0, .ref b)] []) : Go p l e room_1 s m #[Value.ref b] below meth c 4 G A 68 5738 Q L M 829 [(3, .int 0), (2, .ref (bm 0)), (1, .ref (a 0)), (0, .ref b)] [] := by
  refine g_aload_n C dL_law_829 rfl (j := 2) rfl ?_
  refine g_aload_n C dL_law_830 rfl (j := 3) rfl ?_
  refine g_iload_n C dL_law_831 rfl (j := 0) rfl ?_
  refine g_iconst C dL_law_832 (v := 1) (by decide) ?_
  refine g_iadd C dL_law_833 ?_
  refine Go.top (v := .int 1) (by decide) ?_
  refine g_sld C hX hbl hbA (vp_in_iff.mpr (by decide)) (v := xs 1) rfl dL_law_834 ?_
  refine g_callVI C (c_X7_inn l G F (xs 1)) lk_L_85 (F.mem 0 rfl) (F.at 0 rfl) rfl rfl dL_law_835 (Nat.le_of_ble_eq_true rfl) ⟨by decide, by decide⟩ ⟨by decide, by decide⟩ (fun r1 L M hp => ?_)
  obtain ⟨r1_, F⟩ := hp
  subst r1_
  have F := F.right
  refine g_aload_n C dL_law_838 rfl (j := 1) rfl ?_
  refine g_aload_n C dL_law_839 rfl (j := 3) rfl ?_
  refine g_iload_n C dL_law_840 rfl (j := 0) rfl ?_
  refine g_iconst C dL_law_841 (v := 1) (by decide) ?_
  refine g_iadd C dL_law_842 ?_
  refine Go.top (v := .int 1) (by decide) ?_
  refine g_sld C hX hbl hbA (vp_in_iff.mpr (by decide)) (v := xs 1) rfl dL_law_843 ?_
  refine g_callVI C (c_X8_inn l G F (xs 1)) lk_L_88 (F.mem 0 rfl) (F.at 0 rfl) rfl rfl dL_law_844 (Nat.le_of_ble_eq_true rfl) ⟨by decide, by decide⟩ ⟨by decide, by decide⟩ (fun r2 L M hp => ?_)
  subst hp
  refine g_icmp_eq C dL_law_847 (tgt := 2395) (by decide) (fun _ => ?_) (fun q => absurd (by decide) q)
  refine g_widen (k1 := 200) (k2 := 20000) (by decide) (by decide) ?_
  exact tail L M
set_option maxHeartbeats 4000000 in
set_option maxRecDepth 100000 in
theorem lc_18 {p : Program} {l : Launch} {e : Env} {s : State} {m : MethodId} {below : List Frame} {meth : Method} {c : Code} {G : va_G} {cy : Nat → ClassId} {A : Nat → Prop} {Q : State → Prop} {b : Nat} {xs : Nat → Int32} {a bm : Nat → Nat} {L : List Nat} {M : Nat → va_E} (C : Cx p s m #[Value.ref b] meth c RL cL_law 4 G cy A) (hX : va_X b 6 xs s s.heap) (hbl : b < s.heap.size) (hbA : ¬ A b) (F : FW L M (flC cy a ++ flM cy bm 0 (fun _ => 0))) (tail : ∀ (L : List Nat) (M : Nat → va_E), Go p l e room_1 s m #[Value.ref b] below meth c 4 G A 200 20000 Q L M 2395 [(3, .int 0), (2, .ref (bm 0)), (1, .ref (a 0)), (0, .ref b)] []) : Go p l e room_1 s m #[Value.ref b] below meth c 4 G A 68 5738 Q L M 852 [(3, .int 0), (2, .ref (bm 0)), (1, .ref (a 0)), (0, .ref b)] [] := by
  refine g_aload_n C dL_law_852 rfl (j := 2) rfl ?_
  refine g_aload_n C dL_law_853 rfl (j := 3) rfl ?_
  refine g_iload_n C dL_law_854 rfl (j := 0) rfl ?_
  refine g_iconst C dL_law_855 (v := 1) (by decide) ?_
  refine g_iadd C dL_law_856 ?_
  refine Go.top (v := .int 1) (by decide) ?_
  refine g_sld C hX hbl hbA (vp_in_iff.mpr (by decide)) (v := xs 1) rfl dL_law_857 ?_
  refine g_callVI C (c_X7_trail l G F (xs 1)) lk_L_89 (F.mem 0 rfl) (F.at 0 rfl) rfl rfl dL_law_858 (Nat.le_of_ble_eq_true rfl) ⟨by decide, by decide⟩ ⟨by decide, by decide⟩ (fun r1 L M hp => ?_)
  obtain ⟨r1_, F⟩ := hp
  subst r1_
  have F := F.right
  refine g_aload_n C dL_law_861 rfl (j := 1) rfl ?_
  refine g_aload_n C dL_law_862 rfl (j := 3) rfl ?_
  refine g_iload_n C dL_law_863 rfl (j := 0) rfl ?_
  refine g_iconst C dL_law_864 (v := 1) (by decide) ?_
  refine g_iadd C dL_law_865 ?_
  refine Go.top (v := .int 1) (by decide) ?_
  refine g_sld C hX hbl hbA (vp_in_iff.mpr (by decide)) (v := xs 1) rfl dL_law_866 ?_
  refine g_callVI C (c_X8_trail l G F (xs 1)) lk_L_92 (F.mem 0 rfl) (F.at 0 rfl) rfl rfl dL_law_867 (Nat.le_of_ble_eq_true rfl) ⟨by decide, by decide⟩ ⟨by decide, by decide⟩ (fun r2 L M hp => ?_)
  subst hp
  refine g_icmp_eq C dL_law_870 (tgt := 2395) (by decide) (fun _ => ?_) (fun q => absurd (by decide) q)
  refine g_widen (k1 := 200) (k2 := 20000) (by decide) (by decide) ?_
  exact tail L M
set_option maxHeartbeats 4000000 in
set_option maxRecDepth 100000 in
theorem lc_19 {p : Program} {l : Launch} {e : Env} {s : State} {m : MethodId} {below : List Frame} {meth : Method} {c : Code} {G : va_G} {cy : Nat → ClassId} {A : Nat → Prop} {Q : State → Prop} {b : Nat} {xs : Nat → Int32} {a bm : Nat → Nat} {L : List Nat} {M : Nat → va_E} (C : Cx p s m #[Value.ref b] meth c RL cL_law 4 G cy A) (hX : va_X b 6 xs s s.heap) (hbl : b < s.heap.size) (hbA : ¬ A b) (F : FW L M (flC cy a ++ flM cy bm 0 (fun _ => 0))) (tail : ∀ (L : List Nat) (M : Nat → va_E), Go p l e room_1 s m #[Value.ref b] below meth c 4 G A 200 20000 Q L M 2395 [(3, .int 0), (2, .ref (bm 0)), (1, .ref (a 0)), (0, .ref b)] []) : Go p l e room_1 s m #[Value.ref b] below meth c 4 G A 68 5738 Q L M 875 [(3, .int 0), (2, .ref (bm 0)), (1, .ref (a 0)), (0, .ref b)] [] := by
  refine g_aload_n C dL_law_875 rfl (j := 2) rfl ?_
  refine g_aload_n C dL_law_876 rfl (j := 3) rfl ?_
  refine g_iload_n C dL_law_877 rfl (j := 0) rfl ?_
  refine g_iconst C dL_law_878 (v := 1) (by decide) ?_
  refine g_iadd C dL_law_879 ?_
  refine Go.top (v := .int 1) (by decide) ?_
  refine g_sld C hX hbl hbA (vp_in_iff.mpr (by decide)) (v := xs 1) rfl dL_law_880 ?_
  refine g_callVI C (c_X7_again l G F (xs 1)) lk_L_93 (F.mem 0 rfl) (F.at 0 rfl) rfl rfl dL_law_881 (Nat.le_of_ble_eq_true rfl) ⟨by decide, by decide⟩ ⟨by decide, by decide⟩ (fun r1 L M hp => ?_)
  obtain ⟨r1_, F⟩ := hp
  subst r1_
  have F := F.right
  refine g_aload_n C dL_law_884 rfl (j := 1) rfl ?_
  refine g_aload_n C dL_law_885 rfl (j := 3) rfl ?_
  refine g_iload_n C dL_law_886 rfl (j := 0) rfl ?_
  refine g_iconst C dL_law_887 (v := 1) (by decide) ?_
  refine g_iadd C dL_law_888 ?_
  refine Go.top (v := .int 1) (by decide) ?_
  refine g_sld C hX hbl hbA (vp_in_iff.mpr (by decide)) (v := xs 1) rfl dL_law_889 ?_
  refine g_callVI C (c_X8_again l G F (xs 1)) lk_L_96 (F.mem 0 rfl) (F.at 0 rfl) rfl rfl dL_law_890 (Nat.le_of_ble_eq_true rfl) ⟨by decide, by decide⟩ ⟨by decide, by decide⟩ (fun r2 L M hp => ?_)
  subst hp
  refine g_icmp_eq C dL_law_893 (tgt := 2395) (by decide) (fun _ => ?_) (fun q => absurd (by decide) q)
  refine g_widen (k1 := 200) (k2 := 20000) (by decide) (by decide) ?_
  exact tail L M
set_option maxHeartbeats 4000000 in
set_option maxRecDepth 100000 in
theorem lc_20 {p : Program} {l : Launch} {e : Env} {s : State} {m : MethodId} {below : List Frame} {meth : Method} {c : Code} {G : va_G} {cy : Nat → ClassId} {A : Nat → Prop} {Q : State → Prop} {b : Nat} {xs : Nat → Int32} {a bm : Nat → Nat} {L : List Nat} {M : Nat → va_E} (C : Cx p s m #[Value.ref b] meth c RL cL_law 4 G cy A) (hX : va_X b 6 xs s s.heap) (hbl : b < s.heap.size) (hbA : ¬ A b) (F : FW L M (flC cy a ++ flM cy bm 0 (fun _ => 0))) (tail : ∀ (L : List Nat) (M : Nat → va_E), Go p l e room_1 s m #[Value.ref b] below meth c 4 G A 200 20000 Q L M 2395 [(3, .int 0), (2, .ref (bm 0)), (1, .ref (a 0)), (0, .ref b)] []) : Go p l e room_1 s m #[Value.ref b] below meth c 4 G A 68 5738 Q L M 898 [(3, .int 0), (2, .ref (bm 0)), (1, .ref (a 0)), (0, .ref b)] [] := by
  refine g_aload_n C dL_law_898 rfl (j := 2) rfl ?_
  refine g_aload_n C dL_law_899 rfl (j := 3) rfl ?_
  refine g_iload_n C dL_law_900 rfl (j := 0) rfl ?_
  refine g_iconst C dL_law_901 (v := 1) (by decide) ?_
  refine g_iadd C dL_law_902 ?_
  refine Go.top (v := .int 1) (by decide) ?_
  refine g_sld C hX hbl hbA (vp_in_iff.mpr (by decide)) (v := xs 1) rfl dL_law_903 ?_
  refine g_callVI C (c_X7_lingers l G F (xs 1)) lk_L_97 (F.mem 0 rfl) (F.at 0 rfl) rfl rfl dL_law_904 (Nat.le_of_ble_eq_true rfl) ⟨by decide, by decide⟩ ⟨by decide, by decide⟩ (fun r1 L M hp => ?_)
  obtain ⟨r1_, F⟩ := hp
  subst r1_
  have F := F.right
  refine g_aload_n C dL_law_907 rfl (j := 1) rfl ?_
  refine g_aload_n C dL_law_908 rfl (j := 3) rfl ?_
  refine g_iload_n C dL_law_909 rfl (j := 0) rfl ?_
  refine g_iconst C dL_law_910 (v := 1) (by decide) ?_
  refine g_iadd C dL_law_911 ?_
  refine Go.top (v := .int 1) (by decide) ?_
  refine g_sld C hX hbl hbA (vp_in_iff.mpr (by decide)) (v := xs 1) rfl dL_law_912 ?_
  refine g_callVI C (c_X8_lingers l G F (xs 1)) lk_L_100 (F.mem 0 rfl) (F.at 0 rfl) rfl rfl dL_law_913 (Nat.le_of_ble_eq_true rfl) ⟨by decide, by decide⟩ ⟨by decide, by decide⟩ (fun r2 L M hp => ?_)
  subst hp
  refine g_icmp_eq C dL_law_916 (tgt := 2395) (by decide) (fun _ => ?_) (fun q => absurd (by decide) q)
  refine g_widen (k1 := 200) (k2 := 20000) (by decide) (by decide) ?_
  exact tail L M
set_option maxHeartbeats 4000000 in
set_option maxRecDepth 100000 in
theorem lc_21 {p : Program} {l : Launch} {e : Env} {s : State} {m : MethodId} {below : List Frame} {meth : Method} {c : Code} {G : va_G} {cy : Nat → ClassId} {A : Nat → Prop} {Q : State → Prop} {b : Nat} {xs : Nat → Int32} {a bm : Nat → Nat} {L : List Nat} {M : Nat → va_E} (C : Cx p s m #[Value.ref b] meth c RL cL_law 4 G cy A) (hX : va_X b 6 xs s s.heap) (hbl : b < s.heap.size) (hbA : ¬ A b) (F : FW L M (flC cy a ++ flM cy bm 0 (fun _ => 0))) (tail : ∀ (L : List Nat) (M : Nat → va_E), Go p l e room_1 s m #[Value.ref b] below meth c 4 G A 200 20000 Q L M 2395 [(3, .int 0), (2, .ref (bm 0)), (1, .ref (a 0)), (0, .ref b)] []) : Go p l e room_1 s m #[Value.ref b] below meth c 4 G A 68 5738 Q L M 921 [(3, .int 0), (2, .ref (bm 0)), (1, .ref (a 0)), (0, .ref b)] [] := by
  refine g_aload_n C dL_law_921 rfl (j := 2) rfl ?_
  refine g_aload_n C dL_law_922 rfl (j := 3) rfl ?_
  refine g_iload_n C dL_law_923 rfl (j := 0) rfl ?_
  refine g_iconst C dL_law_924 (v := 1) (by decide) ?_
  refine g_iadd C dL_law_925 ?_
  refine Go.top (v := .int 1) (by decide) ?_
  refine g_sld C hX hbl hbA (vp_in_iff.mpr (by decide)) (v := xs 1) rfl dL_law_926 ?_
  refine g_callVI C (c_X7_doors l G F (xs 1)) lk_L_101 (F.mem 0 rfl) (F.at 0 rfl) rfl rfl dL_law_927 (Nat.le_of_ble_eq_true rfl) ⟨by decide, by decide⟩ ⟨by decide, by decide⟩ (fun r1 L M hp => ?_)
  obtain ⟨r1_, F⟩ := hp
  subst r1_
  have F := F.right
  refine g_aload_n C dL_law_930 rfl (j := 1) rfl ?_
  refine g_aload_n C dL_law_931 rfl (j := 3) rfl ?_
  refine g_iload_n C dL_law_932 rfl (j := 0) rfl ?_
  refine g_iconst C dL_law_933 (v := 1) (by decide) ?_
  refine g_iadd C dL_law_934 ?_
  refine Go.top (v := .int 1) (by decide) ?_
  refine g_sld C hX hbl hbA (vp_in_iff.mpr (by decide)) (v := xs 1) rfl dL_law_935 ?_
  refine g_callVI C (c_X8_doors l G F (xs 1)) lk_L_104 (F.mem 0 rfl) (F.at 0 rfl) rfl rfl dL_law_936 (Nat.le_of_ble_eq_true rfl) ⟨by decide, by decide⟩ ⟨by decide, by decide⟩ (fun r2 L M hp => ?_)
  subst hp
  refine g_icmp_eq C dL_law_939 (tgt := 2395) (by decide) (fun _ => ?_) (fun q => absurd (by decide) q)
  refine g_widen (k1 := 200) (k2 := 20000) (by decide) (by decide) ?_
  exact tail L M
set_option maxHeartbeats 4000000 in
set_option maxRecDepth 100000 in
theorem lc_22 {p : Program} {l : Launch} {e : Env} {s : State} {m : MethodId} {below : List Frame} {meth : Method} {c : Code} {G : va_G} {cy : Nat → ClassId} {A : Nat → Prop} {Q : State → Prop} {b : Nat} {xs : Nat → Int32} {a bm : Nat → Nat} {L : List Nat} {M : Nat → va_E} (C : Cx p s m #[Value.ref b] meth c RL cL_law 4 G cy A) (hX : va_X b 6 xs s s.heap) (hbl : b < s.heap.size) (hbA : ¬ A b) (F : FW L M (flC cy a ++ flM cy bm 0 (fun _ => 0))) (tail : ∀ (L : List Nat) (M : Nat → va_E), Go p l e room_1 s m #[Value.ref b] below meth c 4 G A 200 20000 Q L M 2395 [(3, .int 0), (2, .ref (bm 0)), (1, .ref (a 0)), (0, .ref b)] []) : Go p l e room_1 s m #[Value.ref b] below meth c 4 G A 68 5738 Q L M 944 [(3, .int 0), (2, .ref (bm 0)), (1, .ref (a 0)), (0, .ref b)] [] := by
  refine g_aload_n C dL_law_944 rfl (j := 2) rfl ?_
  refine g_aload_n C dL_law_945 rfl (j := 3) rfl ?_
  refine g_iload_n C dL_law_946 rfl (j := 0) rfl ?_
  refine g_iconst C dL_law_947 (v := 1) (by decide) ?_
  refine g_iadd C dL_law_948 ?_
  refine Go.top (v := .int 1) (by decide) ?_
  refine g_sld C hX hbl hbA (vp_in_iff.mpr (by decide)) (v := xs 1) rfl dL_law_949 ?_
  refine g_aload_n C dL_law_950 rfl (j := 3) rfl ?_
  refine g_iload_n C dL_law_951 rfl (j := 0) rfl ?_
  refine g_iconst C dL_law_952 (v := 2) (by decide) ?_
  refine g_iadd C dL_law_953 ?_
  refine Go.top (v := .int 2) (by decide) ?_
  refine g_sld C hX hbl hbA (vp_in_iff.mpr (by decide)) (v := xs 2) rfl dL_law_954 ?_
  refine g_callVI C (c_X7_guests l G F (xs 1) (xs 2)) lk_L_105 (F.mem 0 rfl) (F.at 0 rfl) rfl rfl dL_law_955 (Nat.le_of_ble_eq_true rfl) ⟨by decide, by decide⟩ ⟨by decide, by decide⟩ (fun r1 L M hp => ?_)
  obtain ⟨r1_, F⟩ := hp
  subst r1_
  have F := F.right
  refine g_aload_n C dL_law_958 rfl (j := 1) rfl ?_
  refine g_aload_n C dL_law_959 rfl (j := 3) rfl ?_
  refine g_iload_n C dL_law_960 rfl (j := 0) rfl ?_
  refine g_iconst C dL_law_961 (v := 1) (by decide) ?_
  refine g_iadd C dL_law_962 ?_
  refine Go.top (v := .int 1) (by decide) ?_
  refine g_sld C hX hbl hbA (vp_in_iff.mpr (by decide)) (v := xs 1) rfl dL_law_963 ?_
  refine g_aload_n C dL_law_964 rfl (j := 3) rfl ?_
  refine g_iload_n C dL_law_965 rfl (j := 0) rfl ?_
  refine g_iconst C dL_law_966 (v := 2) (by decide) ?_
  refine g_iadd C dL_law_967 ?_
  refine Go.top (v := .int 2) (by decide) ?_
  refine g_sld C hX hbl hbA (vp_in_iff.mpr (by decide)) (v := xs 2) rfl dL_law_968 ?_
  refine g_callVI C (c_X8_guests l G F (xs 1) (xs 2)) lk_L_108 (F.mem 0 rfl) (F.at 0 rfl) rfl rfl dL_law_969 (Nat.le_of_ble_eq_true rfl) ⟨by decide, by decide⟩ ⟨by decide, by decide⟩ (fun r2 L M hp => ?_)
  subst hp
  refine g_icmp_eq C dL_law_972 (tgt := 2395) (by decide) (fun _ => ?_) (fun q => absurd (by decide) q)
  refine g_widen (k1 := 200) (k2 := 20000) (by decide) (by decide) ?_
  exact tail L M
set_option maxHeartbeats 4000000 in
set_option maxRecDepth 100000 in
theorem lc_23 {p : Program} {l : Launch} {e : Env} {s : State} {m : MethodId} {below : List Frame} {meth : Method} {c : Code} {G : va_G} {cy : Nat → ClassId} {A : Nat → Prop} {Q : State → Prop} {b : Nat} {xs : Nat → Int32} {a bm : Nat → Nat} {L : List Nat} {M : Nat → va_E} (C : Cx p s m #[Value.ref b] meth c RL cL_law 4 G cy A) (hX : va_X b 6 xs s s.heap) (hbl : b < s.heap.size) (hbA : ¬ A b) (F : FW L M (flC cy a ++ flM cy bm 0 (fun _ => 0))) (tail : ∀ (L : List Nat) (M : Nat → va_E), Go p l e room_1 s m #[Value.ref b] below meth c 4 G A 200 20000 Q L M 2395 [(3, .int 0), (2, .ref (bm 0)), (1, .ref (a 0)), (0, .ref b)] []) : Go p l e room_1 s m #[Value.ref b] below meth c 4 G A 68 5738 Q L M 977 [(3, .int 0), (2, .ref (bm 0)), (1, .ref (a 0)), (0, .ref b)] [] := by
  refine g_aload_n C dL_law_977 rfl (j := 2) rfl ?_
  refine g_aload_n C dL_law_978 rfl (j := 3) rfl ?_
  refine g_iload_n C dL_law_979 rfl (j := 0) rfl ?_
  refine g_iconst C dL_law_980 (v := 1) (by decide) ?_
  refine g_iadd C dL_law_981 ?_
  refine Go.top (v := .int 1) (by decide) ?_
  refine g_sld C hX hbl hbA (vp_in_iff.mpr (by decide)) (v := xs 1) rfl dL_law_982 ?_
  refine g_callVI C (c_X7_full l G F (xs 1)) lk_L_109 (F.mem 0 rfl) (F.at 0 rfl) rfl rfl dL_law_983 (Nat.le_of_ble_eq_true rfl) ⟨by decide, by decide⟩ ⟨by decide, by decide⟩ (fun r1 L M hp => ?_)
  obtain ⟨r1_, F⟩ := hp
  subst r1_
  have F := F.right
  refine g_aload_n C dL_law_986 rfl (j := 1) rfl ?_
  refine g_aload_n C dL_law_987 rfl (j := 3) rfl ?_
  refine g_iload_n C dL_law_988 rfl (j := 0) rfl ?_
  refine g_iconst C dL_law_989 (v := 1) (by decide) ?_
  refine g_iadd C dL_law_990 ?_
  refine Go.top (v := .int 1) (by decide) ?_
  refine g_sld C hX hbl hbA (vp_in_iff.mpr (by decide)) (v := xs 1) rfl dL_law_991 ?_
  refine g_callVI C (c_X8_full l G F (xs 1)) lk_L_112 (F.mem 0 rfl) (F.at 0 rfl) rfl rfl dL_law_992 (Nat.le_of_ble_eq_true rfl) ⟨by decide, by decide⟩ ⟨by decide, by decide⟩ (fun r2 L M hp => ?_)
  subst hp
  refine g_icmp_eq C dL_law_995 (tgt := 2395) (by decide) (fun _ => ?_) (fun q => absurd (by decide) q)
  refine g_widen (k1 := 200) (k2 := 20000) (by decide) (by decide) ?_
  exact tail L M
set_option maxHeartbeats 4000000 in
set_option maxRecDepth 100000 in
theorem lc_24 {p : Program} {l : Launch} {e : Env} {s : State} {m : MethodId} {below : List Frame} {meth : Method} {c : Code} {G : va_G} {cy : Nat → ClassId} {A : Nat → Prop} {Q : State → Prop} {b : Nat} {xs : Nat → Int32} {a bm : Nat → Nat} {L : List Nat} {M : Nat → va_E} (C : Cx p s m #[Value.ref b] meth c RL cL_law 4 G cy A) (hX : va_X b 6 xs s s.heap) (hbl : b < s.heap.size) (hbA : ¬ A b) (F : FW L M (flC cy a ++ flM cy bm 0 (fun _ => 0))) (tail : ∀ (L : List Nat) (M : Nat → va_E), Go p l e room_1 s m #[Value.ref b] below meth c 4 G A 200 20000 Q L M 2395 [(3, .int 0), (2, .ref (bm 0)), (1, .ref (a 0)), (0, .ref b)] []) : Go p l e room_1 s m #[Value.ref b] below meth c 4 G A 68 5738 Q L M 1000 [(3, .int 0), (2, .ref (bm 0)), (1, .ref (a 0)), (0, .ref b)] [] := by
  refine g_aload_n C dL_law_1000 rfl (j := 2) rfl ?_
  refine g_aload_n C dL_law_1001 rfl (j := 3) rfl ?_
  refine g_iload_n C dL_law_1002 rfl (j := 0) rfl ?_
  refine g_iconst C dL_law_1003 (v := 1) (by decide) ?_
  refine g_iadd C dL_law_1004 ?_
  refine Go.top (v := .int 1) (by decide) ?_
  refine g_sld C hX hbl hbA (vp_in_iff.mpr (by decide)) (v := xs 1) rfl dL_law_1005 ?_
  refine g_callVI C (c_X7_refuses l G F (xs 1)) lk_L_113 (F.mem 0 rfl) (F.at 0 rfl) rfl rfl dL_law_1006 (Nat.le_of_ble_eq_true rfl) ⟨by decide, by decide⟩ ⟨by decide, by decide⟩ (fun r1 L M hp => ?_)
  obtain ⟨r1_, F⟩ := hp
  subst r1_
  have F := F.right
  refine g_aload_n C dL_law_1009 rfl (j := 1) rfl ?_
  refine g_aload_n C dL_law_1010 rfl (j := 3) rfl ?_
  refine g_iload_n C dL_law_1011 rfl (j := 0) rfl ?_
  refine g_iconst C dL_law_1012 (v := 1) (by decide) ?_
  refine g_iadd C dL_law_1013 ?_
  refine Go.top (v := .int 1) (by decide) ?_
  refine g_sld C hX hbl hbA (vp_in_iff.mpr (by decide)) (v := xs 1) rfl dL_law_1014 ?_
  refine g_callVI C (c_X8_refuses l G F (xs 1)) lk_L_116 (F.mem 0 rfl) (F.at 0 rfl) rfl rfl dL_law_1015 (Nat.le_of_ble_eq_true rfl) ⟨by decide, by decide⟩ ⟨by decide, by decide⟩ (fun r2 L M hp => ?_)
  subst hp
  refine g_icmp_eq C dL_law_1018 (tgt := 2395) (by decide) (fun _ => ?_) (fun q => absurd (by decide) q)
  refine g_widen (k1 := 200) (k2 := 20000) (by decide) (by decide) ?_
  exact tail L M
set_option maxHeartbeats 4000000 in
set_option maxRecDepth 100000 in
theorem lc_25 {p : Program} {l : Launch} {e : Env} {s : State} {m : MethodId} {below : List Frame} {meth : Method} {c : Code} {G : va_G} {cy : Nat → ClassId} {A : Nat → Prop} {Q : State → Prop} {b : Nat} {xs : Nat → Int32} {a bm : Nat → Nat} {L : List Nat} {M : Nat → va_E} (C : Cx p s m #[Value.ref b] meth c RL cL_law 4 G cy A) (hX : va_X b 6 xs s s.heap) (hbl : b < s.heap.size) (hbA : ¬ A b) (F : FW L M (flC cy a ++ flM cy bm 0 (fun _ => 0))) (tail : ∀ (L : List Nat) (M : Nat → va_E), Go p l e room_1 s m #[Value.ref b] below meth c 4 G A 200 20000 Q L M 2395 [(3, .int 0), (2, .ref (bm 0)), (1, .ref (a 0)), (0, .ref b)] []) : Go p l e room_1 s m #[Value.ref b] below meth c 4 G A 68 5738 Q L M 1023 [(3, .int 0), (2, .ref (bm 0)), (1, .ref (a 0)), (0, .ref b)] [] := by
  refine g_aload_n C dL_law_1023 rfl (j := 2) rfl ?_
  refine g_aload_n C dL_law_1024 rfl (j := 3) rfl ?_
  refine g_iload_n C dL_law_1025 rfl (j := 0) rfl ?_
  refine g_iconst C dL_law_1026 (v := 1) (by decide) ?_
  refine g_iadd C dL_law_1027 ?_
  refine Go.top (v := .int 1) (by decide) ?_
  refine g_sld C hX hbl hbA (vp_in_iff.mpr (by decide)) (v := xs 1) rfl dL_law_1028 ?_
  refine g_callVI C (c_X7_inside l G F (xs 1)) lk_L_117 (F.mem 0 rfl) (F.at 0 rfl) rfl rfl dL_law_1029 (Nat.le_of_ble_eq_true rfl) ⟨by decide, by decide⟩ ⟨by decide, by decide⟩ (fun r1 L M hp => ?_)
  obtain ⟨r1_, F⟩ := hp
  subst r1_
  have F := F.right
  refine g_aload_n C dL_law_1032 rfl (j := 1) rfl ?_
  refine g_aload_n C dL_law_1033 rfl (j := 3) rfl ?_
  refine g_iload_n C dL_law_1034 rfl (j := 0) rfl ?_
  refine g_iconst C dL_law_1035 (v := 1) (by decide) ?_
  refine g_iadd C dL_law_1036 ?_
  refine Go.top (v := .int 1) (by decide) ?_
  refine g_sld C hX hbl hbA (vp_in_iff.mpr (by decide)) (v := xs 1) rfl dL_law_1037 ?_
  refine g_callVI C (c_X8_inside l G F (xs 1)) lk_L_120 (F.mem 0 rfl) (F.at 0 rfl) rfl rfl dL_law_1038 (Nat.le_of_ble_eq_true rfl) ⟨by decide, by decide⟩ ⟨by decide, by decide⟩ (fun r2 L M hp => ?_)
  subst hp
  refine g_icmp_eq C dL_law_1041 (tgt := 2395) (by decide) (fun _ => ?_) (fun q => absurd (by decide) q)
  refine g_widen (k1 := 200) (k2 := 20000) (by decide) (by decide) ?_
  exact tail L M
set_option maxHeartbeats 4000000 in
set_option maxRecDepth 100000 in
theorem lc_26 {p : Program} {l : Launch} {e : Env} {s : State} {m : MethodId} {below : List Frame} {meth : Method} {c : Code} {G : va_G} {cy : Nat → ClassId} {A : Nat → Prop} {Q : State → Prop} {b : Nat} {xs : Nat → Int32} {a bm : Nat → Nat} {L : List Nat} {M : Nat → va_E} (C : Cx p s m #[Value.ref b] meth c RL cL_law 4 G cy A) (hX : va_X b 6 xs s s.heap) (hbl : b < s.heap.size) (hbA : ¬ A b) (F : FW L M (flC cy a ++ flM cy bm 0 (fun _ => 0))) (tail : ∀ (L : List Nat) (M : Nat → va_E), Go p l e room_1 s m #[Value.ref b] below meth c 4 G A 200 20000 Q L M 2395 [(3, .int 0), (2, .ref (bm 0)), (1, .ref (a 0)), (0, .ref b)] []) : Go p l e room_1 s m #[Value.ref b] below meth c 4 G A 68 5738 Q L M 1046 [(3, .int 0), (2, .ref (bm 0)), (1, .ref (a 0)), (0, .ref b)] [] := by
  refine g_aload_n C dL_law_1046 rfl (j := 2) rfl ?_
  refine g_aload_n C dL_law_1047 rfl (j := 3) rfl ?_
  refine g_iload_n C dL_law_1048 rfl (j := 0) rfl ?_
  refine g_iconst C dL_law_1049 (v := 1) (by decide) ?_
  refine g_iadd C dL_law_1050 ?_
  refine Go.top (v := .int 1) (by decide) ?_
  refine g_sld C hX hbl hbA (vp_in_iff.mpr (by decide)) (v := xs 1) rfl dL_law_1051 ?_
  refine g_callVI C (c_X7_outside l G F (xs 1)) lk_L_121 (F.mem 0 rfl) (F.at 0 rfl) rfl rfl dL_law_1052 (Nat.le_of_ble_eq_true rfl) ⟨by decide, by decide⟩ ⟨by decide, by decide⟩ (fun r1 L M hp => ?_)
  obtain ⟨r1_, F⟩ := hp
  subst r1_
  have F := F.right
  refine g_aload_n C dL_law_1055 rfl (j := 1) rfl ?_
  refine g_aload_n C dL_law_1056 rfl (j := 3) rfl ?_
  refine g_iload_n C dL_law_1057 rfl (j := 0) rfl ?_
  refine g_iconst C dL_law_1058 (v := 1) (by decide) ?_
  refine g_iadd C dL_law_1059 ?_
  refine Go.top (v := .int 1) (by decide) ?_
  refine g_sld C hX hbl hbA (vp_in_iff.mpr (by decide)) (v := xs 1) rfl dL_law_1060 ?_
  refine g_callVI C (c_X8_outside l G F (xs 1)) lk_L_124 (F.mem 0 rfl) (F.at 0 rfl) rfl rfl dL_law_1061 (Nat.le_of_ble_eq_true rfl) ⟨by decide, by decide⟩ ⟨by decide, by decide⟩ (fun r2 L M hp => ?_)
  subst hp
  refine g_icmp_eq C dL_law_1064 (tgt := 2395) (by decide) (fun _ => ?_) (fun q => absurd (by decide) q)
  refine g_widen (k1 := 200) (k2 := 20000) (by decide) (by decide) ?_
  exact tail L M
set_option maxHeartbeats 4000000 in
set_option maxRecDepth 100000 in
theorem lc_27 {p : Program} {l : Launch} {e : Env} {s : State} {m : MethodId} {below : List Frame} {meth : Method} {c : Code} {G : va_G} {cy : Nat → ClassId} {A : Nat → Prop} {Q : State → Prop} {b : Nat} {xs : Nat → Int32} {a bm : Nat → Nat} {L : List Nat} {M : Nat → va_E} (C : Cx p s m #[Value.ref b] meth c RL cL_law 4 G cy A) (hX : va_X b 6 xs s s.heap) (hbl : b < s.heap.size) (hbA : ¬ A b) (F : FW L M (flC cy a ++ flM cy bm 0 (fun _ => 0))) (tail : ∀ (L : List Nat) (M : Nat → va_E), Go p l e room_1 s m #[Value.ref b] below meth c 4 G A 200 20000 Q L M 2395 [(3, .int 0), (2, .ref (bm 0)), (1, .ref (a 0)), (0, .ref b)] []) : Go p l e room_1 s m #[Value.ref b] below meth c 4 G A 68 5738 Q L M 1069 [(3, .int 0), (2, .ref (bm 0)), (1, .ref (a 0)), (0, .ref b)] [] := by
  refine g_aload_n C dL_law_1069 rfl (j := 2) rfl ?_
  refine g_callVI C (c_X7_done l G F ) lk_L_125 (F.mem 0 rfl) (F.at 0 rfl) rfl rfl dL_law_1070 (Nat.le_of_ble_eq_true rfl) ⟨by decide, by decide⟩ ⟨by decide, by decide⟩ (fun r1 L M hp => ?_)
  obtain ⟨r1_, F⟩ := hp
  subst r1_
  have F := F.right
  refine g_aload_n C dL_law_1073 rfl (j := 1) rfl ?_
  refine g_callVI C (c_X8_done l G F ) lk_L_128 (F.mem 0 rfl) (F.at 0 rfl) rfl rfl dL_law_1074 (Nat.le_of_ble_eq_true rfl) ⟨by decide, by decide⟩ ⟨by decide, by decide⟩ (fun r2 L M hp => ?_)
  subst hp
  refine g_icmp_eq C dL_law_1077 (tgt := 2395) (by decide) (fun _ => ?_) (fun q => absurd (by decide) q)
  refine g_widen (k1 := 200) (k2 := 20000) (by decide) (by decide) ?_
  exact tail L M
set_option maxHeartbeats 4000000 in
set_option maxRecDepth 100000 in
theorem lc_28 {p : Program} {l : Launch} {e : Env} {s : State} {m : MethodId} {below : List Frame} {meth : Method} {c : Code} {G : va_G} {cy : Nat → ClassId} {A : Nat → Prop} {Q : State → Prop} {b : Nat} {xs : Nat → Int32} {a bm : Nat → Nat} {L : List Nat} {M : Nat → va_E} (C : Cx p s m #[Value.ref b] meth c RL cL_law 4 G cy A) (hX : va_X b 6 xs s s.heap) (hbl : b < s.heap.size) (hbA : ¬ A b) (F : FW L M (flC cy a ++ flM cy bm 0 (fun _ => 0))) (tail : ∀ (L : List Nat) (M : Nat → va_E), Go p l e room_1 s m #[Value.ref b] below meth c 4 G A 200 20000 Q L M 2395 [(3, .int 0), (2, .ref (bm 0)), (1, .ref (a 0)), (0, .ref b)] []) : Go p l e room_1 s m #[Value.ref b] below meth c 4 G A 68 5738 Q L M 1082 [(3, .int 0), (2, .ref (bm 0)), (1, .ref (a 0)), (0, .ref b)] [] := by
  refine g_aload_n C dL_law_1082 rfl (j := 2) rfl ?_
  refine g_aload_n C dL_law_1083 rfl (j := 3) rfl ?_
  refine g_iload_n C dL_law_1084 rfl (j := 0) rfl ?_
  refine g_iconst C dL_law_1085 (v := 1) (by decide) ?_
  refine g_iadd C dL_law_1086 ?_
  refine Go.top (v := .int 1) (by decide) ?_
  refine g_sld C hX hbl hbA (vp_in_iff.mpr (by decide)) (v := xs 1) rfl dL_law_1087 ?_
  refine g_callVI C (c_X7_crowd l G F (xs 1)) lk_L_129 (F.mem 0 rfl) (F.at 0 rfl) rfl rfl dL_law_1088 (Nat.le_of_ble_eq_true rfl) ⟨by decide, by decide⟩ ⟨by decide, by decide⟩ (fun r1 L M hp => ?_)
  obtain ⟨r1_, F⟩ := hp
  subst r1_
  have F := F.right
  refine g_aload_n C dL_law_1091 rfl (j := 1) rfl ?_
  refine g_aload_n C dL_law_1092 rfl (j := 3) rfl ?_
  refine g_iload_n C dL_law_1093 rfl (j := 0) rfl ?_
  refine g_iconst C dL_law_1094 (v := 1) (by decide) ?_
  refine g_iadd C dL_law_1095 ?_
  refine Go.top (v := .int 1) (by decide) ?_
  refine g_sld C hX hbl hbA (vp_in_iff.mpr (by decide)) (v := xs 1) rfl dL_law_1096 ?_
  refine g_callVI C (c_X8_crowd l G F (xs 1)) lk_L_132 (F.mem 0 rfl) (F.at 0 rfl) rfl rfl dL_law_1097 (Nat.le_of_ble_eq_true rfl) ⟨by decide, by decide⟩ ⟨by decide, by decide⟩ (fun r2 L M hp => ?_)
  subst hp
  refine g_icmp_eq C dL_law_1100 (tgt := 2395) (by decide) (fun _ => ?_) (fun q => absurd (by decide) q)
  refine g_widen (k1 := 200) (k2 := 20000) (by decide) (by decide) ?_
  exact tail L M
set_option maxHeartbeats 4000000 in
set_option maxRecDepth 100000 in
theorem lc_29 {p : Program} {l : Launch} {e : Env} {s : State} {m : MethodId} {below : List Frame} {meth : Method} {c : Code} {G : va_G} {cy : Nat → ClassId} {A : Nat → Prop} {Q : State → Prop} {b : Nat} {xs : Nat → Int32} {a bm : Nat → Nat} {L : List Nat} {M : Nat → va_E} (C : Cx p s m #[Value.ref b] meth c RL cL_law 4 G cy A) (hX : va_X b 6 xs s s.heap) (hbl : b < s.heap.size) (hbA : ¬ A b) (F : FW L M (flC cy a ++ flM cy bm 0 (fun _ => 0))) (tail : ∀ (L : List Nat) (M : Nat → va_E), Go p l e room_1 s m #[Value.ref b] below meth c 4 G A 200 20000 Q L M 2395 [(3, .int 0), (2, .ref (bm 0)), (1, .ref (a 0)), (0, .ref b)] []) : Go p l e room_1 s m #[Value.ref b] below meth c 4 G A 68 5738 Q L M 1105 [(3, .int 0), (2, .ref (bm 0)), (1, .ref (a 0)), (0, .ref b)] [] := by
  refine g_aload_n C dL_law_1105 rfl (j := 2) rfl ?_
  refine g_callVI C (c_X7_armless l G F ) lk_L_133 (F.mem 0 rfl) (F.at 0 rfl) rfl rfl dL_law_1106 (Nat.le_of_ble_eq_true rfl) ⟨by decide, by decide⟩ ⟨by decide, by decide⟩ (fun r1 L M hp => ?_)
  obtain ⟨r1_, F⟩ := hp
  subst r1_
  have F := F.right
  refine g_aload_n C dL_law_1109 rfl (j := 1) rfl ?_
  refine g_callVI C (c_X8_armless l G F ) lk_L_136 (F.mem 0 rfl) (F.at 0 rfl) rfl rfl dL_law_1110 (Nat.le_of_ble_eq_true rfl) ⟨by decide, by decide⟩ ⟨by decide, by decide⟩ (fun r2 L M hp => ?_)
  subst hp
  refine g_icmp_eq C dL_law_1113 (tgt := 2395) (by decide) (fun _ => ?_) (fun q => absurd (by decide) q)
  refine g_widen (k1 := 200) (k2 := 20000) (by decide) (by decide) ?_
  exact tail L M
set_option maxHeartbeats 4000000 in
set_option maxRecDepth 100000 in
theorem lc_30 {p : Program} {l : Launch} {e : Env} {s : State} {m : MethodId} {below : List Frame} {meth : Method} {c : Code} {G : va_G} {cy : Nat → ClassId} {A : Nat → Prop} {Q : State → Prop} {b : Nat} {xs : Nat → Int32} {a bm : Nat → Nat} {L : List Nat} {M : Nat → va_E} (C : Cx p s m #[Value.ref b] meth c RL cL_law 4 G cy A) (hX : va_X b 6 xs s s.heap) (hbl : b < s.heap.size) (hbA : ¬ A b) (F : FW L M (flC cy a ++ flM cy bm 0 (fun _ => 0))) (tail : ∀ (L : List Nat) (M : Nat → va_E), Go p l e room_1 s m #[Value.ref b] below meth c 4 G A 200 20000 Q L M 2395 [(3, .int 0), (2, .ref (bm 0)), (1, .ref (a 0)), (0, .ref b)] []) : Go p l e room_1 s m #[Value.ref b] below meth c 4 G A 68 5738 Q L M 1118 [(3, .int 0), (2, .ref (bm 0)), (1, .ref (a 0)), (0, .ref b)] [] := by
  refine g_aload_n C dL_law_1118 rfl (j := 2) rfl ?_
  refine g_aload_n C dL_law_1119 rfl (j := 3) rfl ?_
  refine g_iload_n C dL_law_1120 rfl (j := 0) rfl ?_
  refine g_iconst C dL_law_1121 (v := 1) (by decide) ?_
  refine g_iadd C dL_law_1122 ?_
  refine Go.top (v := .int 1) (by decide) ?_
  refine g_sld C hX hbl hbA (vp_in_iff.mpr (by decide)) (v := xs 1) rfl dL_law_1123 ?_
  refine g_aload_n C dL_law_1124 rfl (j := 3) rfl ?_
  refine g_iload_n C dL_law_1125 rfl (j := 0) rfl ?_
  refine g_iconst C dL_law_1126 (v := 2) (by decide) ?_
  refine g_iadd C dL_law_1127 ?_
  refine Go.top (v := .int 2) (by decide) ?_
  refine g_sld C hX hbl hbA (vp_in_iff.mpr (by decide)) (v := xs 2) rfl dL_law_1128 ?_
  refine g_callVI C (c_X7_meet l G F (xs 1) (xs 2)) lk_L_137 (F.mem 0 rfl) (F.at 0 rfl) rfl rfl dL_law_1129 (Nat.le_of_ble_eq_true rfl) ⟨by decide, by decide⟩ ⟨by decide, by decide⟩ (fun r1 L M hp => ?_)
  obtain ⟨r1_, F⟩ := hp
  subst r1_
  have F := F.right
  refine g_aload_n C dL_law_1132 rfl (j := 1) rfl ?_
  refine g_aload_n C dL_law_1133 rfl (j := 3) rfl ?_
  refine g_iload_n C dL_law_1134 rfl (j := 0) rfl ?_
  refine g_iconst C dL_law_1135 (v := 1) (by decide) ?_
  refine g_iadd C dL_law_1136 ?_
  refine Go.top (v := .int 1) (by decide) ?_
  refine g_sld C hX hbl hbA (vp_in_iff.mpr (by decide)) (v := xs 1) rfl dL_law_1137 ?_
  refine g_aload_n C dL_law_1138 rfl (j := 3) rfl ?_
  refine g_iload_n C dL_law_1139 rfl (j := 0) rfl ?_
  refine g_iconst C dL_law_1140 (v := 2) (by decide) ?_
  refine g_iadd C dL_law_1141 ?_
  refine Go.top (v := .int 2) (by decide) ?_
  refine g_sld C hX hbl hbA (vp_in_iff.mpr (by decide)) (v := xs 2) rfl dL_law_1142 ?_
  refine g_callVI C (c_X8_meet l G F (xs 1) (xs 2)) lk_L_140 (F.mem 0 rfl) (F.at 0 rfl) rfl rfl dL_law_1143 (Nat.le_of_ble_eq_true rfl) ⟨by decide, by decide⟩ ⟨by decide, by decide⟩ (fun r2 L M hp => ?_)
  subst hp
  refine g_icmp_eq C dL_law_1146 (tgt := 2395) (by decide) (fun _ => ?_) (fun q => absurd (by decide) q)
  refine g_widen (k1 := 200) (k2 := 20000) (by decide) (by decide) ?_
  exact tail L M
set_option maxHeartbeats 4000000 in
set_option maxRecDepth 100000 in
theorem lc_31 {p : Program} {l : Launch} {e : Env} {s : State} {m : MethodId} {below : List Frame} {meth : Method} {c : Code} {G : va_G} {cy : Nat → ClassId} {A : Nat → Prop} {Q : State → Prop} {b : Nat} {xs : Nat → Int32} {a bm : Nat → Nat} {L : List Nat} {M : Nat → va_E} (C : Cx p s m #[Value.ref b] meth c RL cL_law 4 G cy A) (hX : va_X b 6 xs s s.heap) (hbl : b < s.heap.size) (hbA : ¬ A b) (F : FW L M (flC cy a ++ flM cy bm 0 (fun _ => 0))) (tail : ∀ (L : List Nat) (M : Nat → va_E), Go p l e room_1 s m #[Value.ref b] below meth c 4 G A 200 20000 Q L M 2395 [(3, .int 0), (2, .ref (bm 0)), (1, .ref (a 0)), (0, .ref b)] []) : Go p l e room_1 s m #[Value.ref b] below meth c 4 G A 68 5738 Q L M 1151 [(3, .int 0), (2, .ref (bm 0)), (1, .ref (a 0)), (0, .ref b)] [] := by
  refine g_aload_n C dL_law_1151 rfl (j := 2) rfl ?_
  refine g_callVI C (c_X7_busy l G F ) lk_L_141 (F.mem 0 rfl) (F.at 0 rfl) rfl rfl dL_law_1152 (Nat.le_of_ble_eq_true rfl) ⟨by decide, by decide⟩ ⟨by decide, by decide⟩ (fun r1 L M hp => ?_)
  obtain ⟨r1_, F⟩ := hp
  subst r1_
  have F := F.right
  refine g_aload_n C dL_law_1155 rfl (j := 1) rfl ?_
  refine g_callVI C (c_X8_busy l G F ) lk_L_144 (F.mem 0 rfl) (F.at 0 rfl) rfl rfl dL_law_1156 (Nat.le_of_ble_eq_true rfl) ⟨by decide, by decide⟩ ⟨by decide, by decide⟩ (fun r2 L M hp => ?_)
  subst hp
  refine g_icmp_eq C dL_law_1159 (tgt := 2395) (by decide) (fun _ => ?_) (fun q => absurd (by decide) q)
  refine g_widen (k1 := 200) (k2 := 20000) (by decide) (by decide) ?_
  exact tail L M
set_option maxHeartbeats 4000000 in
set_option maxRecDepth 100000 in
theorem lc_32 {p : Program} {l : Launch} {e : Env} {s : State} {m : MethodId} {below : List Frame} {meth : Method} {c : Code} {G : va_G} {cy : Nat → ClassId} {A : Nat → Prop} {Q : State → Prop} {b : Nat} {xs : Nat → Int32} {a bm : Nat → Nat} {L : List Nat} {M : Nat → va_E} (C : Cx p s m #[Value.ref b] meth c RL cL_law 4 G cy A) (hX : va_X b 6 xs s s.heap) (hbl : b < s.heap.size) (hbA : ¬ A b) (F : FW L M (flC cy a ++ flM cy bm 0 (fun _ => 0))) (tail : ∀ (L : List Nat) (M : Nat → va_E), Go p l e room_1 s m #[Value.ref b] below meth c 4 G A 200 20000 Q L M 2395 [(3, .int 0), (2, .ref (bm 0)), (1, .ref (a 0)), (0, .ref b)] []) : Go p l e room_1 s m #[Value.ref b] below meth c 4 G A 68 5738 Q L M 1164 [(3, .int 0), (2, .ref (bm 0)), (1, .ref (a 0)), (0, .ref b)] [] := by
  refine g_aload_n C dL_law_1164 rfl (j := 2) rfl ?_
  refine g_callVI C (c_X7_idle l G F ) lk_L_145 (F.mem 0 rfl) (F.at 0 rfl) rfl rfl dL_law_1165 (Nat.le_of_ble_eq_true rfl) ⟨by decide, by decide⟩ ⟨by decide, by decide⟩ (fun r1 L M hp => ?_)
  obtain ⟨r1_, F⟩ := hp
  subst r1_
  have F := F.right
  refine g_aload_n C dL_law_1168 rfl (j := 1) rfl ?_
  refine g_callVI C (c_X8_idle l G F ) lk_L_148 (F.mem 0 rfl) (F.at 0 rfl) rfl rfl dL_law_1169 (Nat.le_of_ble_eq_true rfl) ⟨by decide, by decide⟩ ⟨by decide, by decide⟩ (fun r2 L M hp => ?_)
  subst hp
  refine g_icmp_eq C dL_law_1172 (tgt := 2395) (by decide) (fun _ => ?_) (fun q => absurd (by decide) q)
  refine g_widen (k1 := 200) (k2 := 20000) (by decide) (by decide) ?_
  exact tail L M
set_option maxHeartbeats 4000000 in
set_option maxRecDepth 100000 in
theorem lc_33 {p : Program} {l : Launch} {e : Env} {s : State} {m : MethodId} {below : List Frame} {meth : Method} {c : Code} {G : va_G} {cy : Nat → ClassId} {A : Nat → Prop} {Q : State → Prop} {b : Nat} {xs : Nat → Int32} {a bm : Nat → Nat} {L : List Nat} {M : Nat → va_E} (C : Cx p s m #[Value.ref b] meth c RL cL_law 4 G cy A) (hX : va_X b 6 xs s s.heap) (hbl : b < s.heap.size) (hbA : ¬ A b) (F : FW L M (flC cy a ++ flM cy bm 0 (fun _ => 0))) (tail : ∀ (L : List Nat) (M : Nat → va_E), Go p l e room_1 s m #[Value.ref b] below meth c 4 G A 200 20000 Q L M 2395 [(3, .int 0), (2, .ref (bm 0)), (1, .ref (a 0)), (0, .ref b)] []) : Go p l e room_1 s m #[Value.ref b] below meth c 4 G A 68 5738 Q L M 1177 [(3, .int 0), (2, .ref (bm 0)), (1, .ref (a 0)), (0, .ref b)] [] := by
  refine g_aload_n C dL_law_1177 rfl (j := 2) rfl ?_
  refine g_aload_n C dL_law_1178 rfl (j := 3) rfl ?_
  refine g_iload_n C dL_law_1179 rfl (j := 0) rfl ?_
  refine g_iconst C dL_law_1180 (v := 1) (by decide) ?_
  refine g_iadd C dL_law_1181 ?_
  refine Go.top (v := .int 1) (by decide) ?_
  refine g_sld C hX hbl hbA (vp_in_iff.mpr (by decide)) (v := xs 1) rfl dL_law_1182 ?_
  refine g_callVI C (c_X7_reach l G F (xs 1)) lk_L_149 (F.mem 0 rfl) (F.at 0 rfl) rfl rfl dL_law_1183 (Nat.le_of_ble_eq_true rfl) ⟨by decide, by decide⟩ ⟨by decide, by decide⟩ (fun r1 L M hp => ?_)
  obtain ⟨r1_, F⟩ := hp
  subst r1_
  have F := F.right
  refine g_aload_n C dL_law_1186 rfl (j := 1) rfl ?_
  refine g_aload_n C dL_law_1187 rfl (j := 3) rfl ?_
  refine g_iload_n C dL_law_1188 rfl (j := 0) rfl ?_
  refine g_iconst C dL_law_1189 (v := 1) (by decide) ?_
  refine g_iadd C dL_law_1190 ?_
  refine Go.top (v := .int 1) (by decide) ?_
  refine g_sld C hX hbl hbA (vp_in_iff.mpr (by decide)) (v := xs 1) rfl dL_law_1191 ?_
  refine g_callVI C (c_X8_reach l G F (xs 1)) lk_L_152 (F.mem 0 rfl) (F.at 0 rfl) rfl rfl dL_law_1192 (Nat.le_of_ble_eq_true rfl) ⟨by decide, by decide⟩ ⟨by decide, by decide⟩ (fun r2 L M hp => ?_)
  subst hp
  refine g_icmp_eq C dL_law_1195 (tgt := 2395) (by decide) (fun _ => ?_) (fun q => absurd (by decide) q)
  refine g_widen (k1 := 200) (k2 := 20000) (by decide) (by decide) ?_
  exact tail L M
set_option maxHeartbeats 4000000 in
set_option maxRecDepth 100000 in
theorem lc_34 {p : Program} {l : Launch} {e : Env} {s : State} {m : MethodId} {below : List Frame} {meth : Method} {c : Code} {G : va_G} {cy : Nat → ClassId} {A : Nat → Prop} {Q : State → Prop} {b : Nat} {xs : Nat → Int32} {a bm : Nat → Nat} {L : List Nat} {M : Nat → va_E} (C : Cx p s m #[Value.ref b] meth c RL cL_law 4 G cy A) (hX : va_X b 6 xs s s.heap) (hbl : b < s.heap.size) (hbA : ¬ A b) (F : FW L M (flC cy a ++ flM cy bm 0 (fun _ => 0))) (tail : ∀ (L : List Nat) (M : Nat → va_E), Go p l e room_1 s m #[Value.ref b] below meth c 4 G A 200 20000 Q L M 2395 [(3, .int 0), (2, .ref (bm 0)), (1, .ref (a 0)), (0, .ref b)] []) : Go p l e room_1 s m #[Value.ref b] below meth c 4 G A 68 5738 Q L M 1200 [(3, .int 0), (2, .ref (bm 0)), (1, .ref (a 0)), (0, .ref b)] [] := by
  refine g_aload_n C dL_law_1200 rfl (j := 2) rfl ?_
  refine g_aload_n C dL_law_1201 rfl (j := 3) rfl ?_
  refine g_iload_n C dL_law_1202 rfl (j := 0) rfl ?_
  refine g_iconst C dL_law_1203 (v := 1) (by decide) ?_
  refine g_iadd C dL_law_1204 ?_
  refine Go.top (v := .int 1) (by decide) ?_
  refine g_sld C hX hbl hbA (vp_in_iff.mpr (by decide)) (v := xs 1) rfl dL_law_1205 ?_
  refine g_aload_n C dL_law_1206 rfl (j := 3) rfl ?_
  refine g_iload_n C dL_law_1207 rfl (j := 0) rfl ?_
  refine g_iconst C dL_law_1208 (v := 2) (by decide) ?_
  refine g_iadd C dL_law_1209 ?_
  refine Go.top (v := .int 2) (by decide) ?_
  refine g_sld C hX hbl hbA (vp_in_iff.mpr (by decide)) (v := xs 2) rfl dL_law_1210 ?_
  refine g_callVI C (c_X7_far l G F (xs 1) (xs 2)) lk_L_153 (F.mem 0 rfl) (F.at 0 rfl) rfl rfl dL_law_1211 (Nat.le_of_ble_eq_true rfl) ⟨by decide, by decide⟩ ⟨by decide, by decide⟩ (fun r1 L M hp => ?_)
  obtain ⟨r1_, F⟩ := hp
  subst r1_
  have F := F.right
  refine g_aload_n C dL_law_1214 rfl (j := 1) rfl ?_
  refine g_aload_n C dL_law_1215 rfl (j := 3) rfl ?_
  refine g_iload_n C dL_law_1216 rfl (j := 0) rfl ?_
  refine g_iconst C dL_law_1217 (v := 1) (by decide) ?_
  refine g_iadd C dL_law_1218 ?_
  refine Go.top (v := .int 1) (by decide) ?_
  refine g_sld C hX hbl hbA (vp_in_iff.mpr (by decide)) (v := xs 1) rfl dL_law_1219 ?_
  refine g_aload_n C dL_law_1220 rfl (j := 3) rfl ?_
  refine g_iload_n C dL_law_1221 rfl (j := 0) rfl ?_
  refine g_iconst C dL_law_1222 (v := 2) (by decide) ?_
  refine g_iadd C dL_law_1223 ?_
  refine Go.top (v := .int 2) (by decide) ?_
  refine g_sld C hX hbl hbA (vp_in_iff.mpr (by decide)) (v := xs 2) rfl dL_law_1224 ?_
  refine g_callVI C (c_X8_far l G F (xs 1) (xs 2)) lk_L_156 (F.mem 0 rfl) (F.at 0 rfl) rfl rfl dL_law_1225 (Nat.le_of_ble_eq_true rfl) ⟨by decide, by decide⟩ ⟨by decide, by decide⟩ (fun r2 L M hp => ?_)
  subst hp
  refine g_icmp_eq C dL_law_1228 (tgt := 2395) (by decide) (fun _ => ?_) (fun q => absurd (by decide) q)
  refine g_widen (k1 := 200) (k2 := 20000) (by decide) (by decide) ?_
  exact tail L M
set_option maxHeartbeats 4000000 in
set_option maxRecDepth 100000 in
theorem lc_35 {p : Program} {l : Launch} {e : Env} {s : State} {m : MethodId} {below : List Frame} {meth : Method} {c : Code} {G : va_G} {cy : Nat → ClassId} {A : Nat → Prop} {Q : State → Prop} {b : Nat} {xs : Nat → Int32} {a bm : Nat → Nat} {L : List Nat} {M : Nat → va_E} (C : Cx p s m #[Value.ref b] meth c RL cL_law 4 G cy A) (hX : va_X b 6 xs s s.heap) (hbl : b < s.heap.size) (hbA : ¬ A b) (F : FW L M (flC cy a ++ flM cy bm 0 (fun _ => 0))) (tail : ∀ (L : List Nat) (M : Nat → va_E), Go p l e room_1 s m #[Value.ref b] below meth c 4 G A 200 20000 Q L M 2395 [(3, .int 0), (2, .ref (bm 0)), (1, .ref (a 0)), (0, .ref b)] []) : Go p l e room_1 s m #[Value.ref b] below meth c 4 G A 68 5738 Q L M 1233 [(3, .int 0), (2, .ref (bm 0)), (1, .ref (a 0)), (0, .ref b)] [] := by
  refine g_aload_n C dL_law_1233 rfl (j := 2) rfl ?_
  refine g_aload_n C dL_law_1234 rfl (j := 3) rfl ?_
  refine g_iload_n C dL_law_1235 rfl (j := 0) rfl ?_
  refine g_iconst C dL_law_1236 (v := 1) (by decide) ?_
  refine g_iadd C dL_law_1237 ?_
  refine Go.top (v := .int 1) (by decide) ?_
  refine g_sld C hX hbl hbA (vp_in_iff.mpr (by decide)) (v := xs 1) rfl dL_law_1238 ?_
  refine g_callVI C (c_X7_setting l G F (xs 1)) lk_L_157 (F.mem 0 rfl) (F.at 0 rfl) rfl rfl dL_law_1239 (Nat.le_of_ble_eq_true rfl) ⟨by decide, by decide⟩ ⟨by decide, by decide⟩ (fun r1 L M hp => ?_)
  obtain ⟨r1_, F⟩ := hp
  subst r1_
  have F := F.right
  refine g_aload_n C dL_law_1242 rfl (j := 1) rfl ?_
  refine g_aload_n C dL_law_1243 rfl (j := 3) rfl ?_
  refine g_iload_n C dL_law_1244 rfl (j := 0) rfl ?_
  refine g_iconst C dL_law_1245 (v := 1) (by decide) ?_
  refine g_iadd C dL_law_1246 ?_
  refine Go.top (v := .int 1) (by decide) ?_
  refine g_sld C hX hbl hbA (vp_in_iff.mpr (by decide)) (v := xs 1) rfl dL_law_1247 ?_
  refine g_callVI C (c_X8_setting l G F (xs 1)) lk_L_160 (F.mem 0 rfl) (F.at 0 rfl) rfl rfl dL_law_1248 (Nat.le_of_ble_eq_true rfl) ⟨by decide, by decide⟩ ⟨by decide, by decide⟩ (fun r2 L M hp => ?_)
  subst hp
  refine g_icmp_eq C dL_law_1251 (tgt := 2395) (by decide) (fun _ => ?_) (fun q => absurd (by decide) q)
  refine g_widen (k1 := 200) (k2 := 20000) (by decide) (by decide) ?_
  exact tail L M
set_option maxHeartbeats 4000000 in
set_option maxRecDepth 100000 in
theorem lc_36 {p : Program} {l : Launch} {e : Env} {s : State} {m : MethodId} {below : List Frame} {meth : Method} {c : Code} {G : va_G} {cy : Nat → ClassId} {A : Nat → Prop} {Q : State → Prop} {b : Nat} {xs : Nat → Int32} {a bm : Nat → Nat} {L : List Nat} {M : Nat → va_E} (C : Cx p s m #[Value.ref b] meth c RL cL_law 4 G cy A) (hX : va_X b 6 xs s s.heap) (hbl : b < s.heap.size) (hbA : ¬ A b) (F : FW L M (flC cy a ++ flM cy bm 0 (fun _ => 0))) (tail : ∀ (L : List Nat) (M : Nat → va_E), Go p l e room_1 s m #[Value.ref b] below meth c 4 G A 200 20000 Q L M 2395 [(3, .int 0), (2, .ref (bm 0)), (1, .ref (a 0)), (0, .ref b)] []) : Go p l e room_1 s m #[Value.ref b] below meth c 4 G A 68 5738 Q L M 1256 [(3, .int 0), (2, .ref (bm 0)), (1, .ref (a 0)), (0, .ref b)] [] := by
  refine g_aload_n C dL_law_1256 rfl (j := 2) rfl ?_
  refine g_callVI C (c_X7_settings l G F ) lk_L_161 (F.mem 0 rfl) (F.at 0 rfl) rfl rfl dL_law_1257 (Nat.le_of_ble_eq_true rfl) ⟨by decide, by decide⟩ ⟨by decide, by decide⟩ (fun r1 L M hp => ?_)
  obtain ⟨r1_, F⟩ := hp
  subst r1_
  have F := F.right
  refine g_aload_n C dL_law_1260 rfl (j := 1) rfl ?_
  refine g_callVI C (c_X8_settings l G F ) lk_L_164 (F.mem 0 rfl) (F.at 0 rfl) rfl rfl dL_law_1261 (Nat.le_of_ble_eq_true rfl) ⟨by decide, by decide⟩ ⟨by decide, by decide⟩ (fun r2 L M hp => ?_)
  subst hp
  refine g_icmp_eq C dL_law_1264 (tgt := 2395) (by decide) (fun _ => ?_) (fun q => absurd (by decide) q)
  refine g_widen (k1 := 200) (k2 := 20000) (by decide) (by decide) ?_
  exact tail L M
set_option maxHeartbeats 4000000 in
set_option maxRecDepth 100000 in
theorem lc_37 {p : Program} {l : Launch} {e : Env} {s : State} {m : MethodId} {below : List Frame} {meth : Method} {c : Code} {G : va_G} {cy : Nat → ClassId} {A : Nat → Prop} {Q : State → Prop} {b : Nat} {xs : Nat → Int32} {a bm : Nat → Nat} {L : List Nat} {M : Nat → va_E} (C : Cx p s m #[Value.ref b] meth c RL cL_law 4 G cy A) (hX : va_X b 6 xs s s.heap) (hbl : b < s.heap.size) (hbA : ¬ A b) (F : FW L M (flC cy a ++ flM cy bm 0 (fun _ => 0))) (tail : ∀ (L : List Nat) (M : Nat → va_E), Go p l e room_1 s m #[Value.ref b] below meth c 4 G A 200 20000 Q L M 2395 [(3, .int 0), (2, .ref (bm 0)), (1, .ref (a 0)), (0, .ref b)] []) : Go p l e room_1 s m #[Value.ref b] below meth c 4 G A 68 5738 Q L M 1269 [(3, .int 0), (2, .ref (bm 0)), (1, .ref (a 0)), (0, .ref b)] [] := by
  refine g_aload_n C dL_law_1269 rfl (j := 2) rfl ?_
  refine g_callVI C (c_X7_same l G F ) lk_L_165 (F.mem 0 rfl) (F.at 0 rfl) rfl rfl dL_law_1270 (Nat.le_of_ble_eq_true rfl) ⟨by decide, by decide⟩ ⟨by decide, by decide⟩ (fun r1 L M hp => ?_)
  obtain ⟨r1_, F⟩ := hp
  subst r1_
  have F := F.right
  refine g_aload_n C dL_law_1273 rfl (j := 1) rfl ?_
  refine g_callVI C (c_X8_same l G F ) lk_L_168 (F.mem 0 rfl) (F.at 0 rfl) rfl rfl dL_law_1274 (Nat.le_of_ble_eq_true rfl) ⟨by decide, by decide⟩ ⟨by decide, by decide⟩ (fun r2 L M hp => ?_)
  subst hp
  refine g_icmp_eq C dL_law_1277 (tgt := 2395) (by decide) (fun _ => ?_) (fun q => absurd (by decide) q)
  refine g_widen (k1 := 200) (k2 := 20000) (by decide) (by decide) ?_
  exact tail L M
set_option maxHeartbeats 4000000 in
set_option maxRecDepth 100000 in
theorem lc_38 {p : Program} {l : Launch} {e : Env} {s : State} {m : MethodId} {below : List Frame} {meth : Method} {c : Code} {G : va_G} {cy : Nat → ClassId} {A : Nat → Prop} {Q : State → Prop} {b : Nat} {xs : Nat → Int32} {a bm : Nat → Nat} {L : List Nat} {M : Nat → va_E} (C : Cx p s m #[Value.ref b] meth c RL cL_law 4 G cy A) (hX : va_X b 6 xs s s.heap) (hbl : b < s.heap.size) (hbA : ¬ A b) (F : FW L M (flC cy a ++ flM cy bm 0 (fun _ => 0))) (tail : ∀ (L : List Nat) (M : Nat → va_E), Go p l e room_1 s m #[Value.ref b] below meth c 4 G A 200 20000 Q L M 2395 [(3, .int 0), (2, .ref (bm 0)), (1, .ref (a 0)), (0, .ref b)] []) : Go p l e room_1 s m #[Value.ref b] below meth c 4 G A 68 5738 Q L M 1282 [(3, .int 0), (2, .ref (bm 0)), (1, .ref (a 0)), (0, .ref b)] [] := by
  refine g_aload_n C dL_law_1282 rfl (j := 2) rfl ?_
  refine g_aload_n C dL_law_1283 rfl (j := 3) rfl ?_
  refine g_iload_n C dL_law_1284 rfl (j := 0) rfl ?_
  refine g_iconst C dL_law_1285 (v := 1) (by decide) ?_
  refine g_iadd C dL_law_1286 ?_
  refine Go.top (v := .int 1) (by decide) ?_
  refine g_sld C hX hbl hbA (vp_in_iff.mpr (by decide)) (v := xs 1) rfl dL_law_1287 ?_
  refine g_callVI C (c_X7_alone l G F (xs 1)) lk_L_169 (F.mem 0 rfl) (F.at 0 rfl) rfl rfl dL_law_1288 (Nat.le_of_ble_eq_true rfl) ⟨by decide, by decide⟩ ⟨by decide, by decide⟩ (fun r1 L M hp => ?_)
  obtain ⟨r1_, F⟩ := hp
  subst r1_
  have F := F.right
  refine g_aload_n C dL_law_1291 rfl (j := 1) rfl ?_
  refine g_aload_n C dL_law_1292 rfl (j := 3) rfl ?_
  refine g_iload_n C dL_law_1293 rfl (j := 0) rfl ?_
  refine g_iconst C dL_law_1294 (v := 1) (by decide) ?_
  refine g_iadd C dL_law_1295 ?_
  refine Go.top (v := .int 1) (by decide) ?_
  refine g_sld C hX hbl hbA (vp_in_iff.mpr (by decide)) (v := xs 1) rfl dL_law_1296 ?_
  refine g_callVI C (c_X8_alone l G F (xs 1)) lk_L_172 (F.mem 0 rfl) (F.at 0 rfl) rfl rfl dL_law_1297 (Nat.le_of_ble_eq_true rfl) ⟨by decide, by decide⟩ ⟨by decide, by decide⟩ (fun r2 L M hp => ?_)
  subst hp
  refine g_icmp_eq C dL_law_1300 (tgt := 2395) (by decide) (fun _ => ?_) (fun q => absurd (by decide) q)
  refine g_widen (k1 := 200) (k2 := 20000) (by decide) (by decide) ?_
  exact tail L M
set_option maxHeartbeats 4000000 in
set_option maxRecDepth 100000 in
theorem lc_39 {p : Program} {l : Launch} {e : Env} {s : State} {m : MethodId} {below : List Frame} {meth : Method} {c : Code} {G : va_G} {cy : Nat → ClassId} {A : Nat → Prop} {Q : State → Prop} {b : Nat} {xs : Nat → Int32} {a bm : Nat → Nat} {L : List Nat} {M : Nat → va_E} (C : Cx p s m #[Value.ref b] meth c RL cL_law 4 G cy A) (hX : va_X b 6 xs s s.heap) (hbl : b < s.heap.size) (hbA : ¬ A b) (F : FW L M (flC cy a ++ flM cy bm 0 (fun _ => 0))) (tail : ∀ (L : List Nat) (M : Nat → va_E), Go p l e room_1 s m #[Value.ref b] below meth c 4 G A 200 20000 Q L M 2395 [(3, .int 0), (2, .ref (bm 0)), (1, .ref (a 0)), (0, .ref b)] []) : Go p l e room_1 s m #[Value.ref b] below meth c 4 G A 68 5738 Q L M 1305 [(3, .int 0), (2, .ref (bm 0)), (1, .ref (a 0)), (0, .ref b)] [] := by
  refine g_aload_n C dL_law_1305 rfl (j := 2) rfl ?_
  refine g_aload_n C dL_law_1306 rfl (j := 3) rfl ?_
  refine g_iload_n C dL_law_1307 rfl (j := 0) rfl ?_
  refine g_iconst C dL_law_1308 (v := 1) (by decide) ?_
  refine g_iadd C dL_law_1309 ?_
  refine Go.top (v := .int 1) (by decide) ?_
  refine g_sld C hX hbl hbA (vp_in_iff.mpr (by decide)) (v := xs 1) rfl dL_law_1310 ?_
  refine g_callVI C (c_X7_steps l G F (xs 1)) lk_L_173 (F.mem 0 rfl) (F.at 0 rfl) rfl rfl dL_law_1311 (Nat.le_of_ble_eq_true rfl) ⟨by decide, by decide⟩ ⟨by decide, by decide⟩ (fun r1 L M hp => ?_)
  obtain ⟨r1_, F⟩ := hp
  subst r1_
  have F := F.right
  refine g_aload_n C dL_law_1314 rfl (j := 1) rfl ?_
  refine g_aload_n C dL_law_1315 rfl (j := 3) rfl ?_
  refine g_iload_n C dL_law_1316 rfl (j := 0) rfl ?_
  refine g_iconst C dL_law_1317 (v := 1) (by decide) ?_
  refine g_iadd C dL_law_1318 ?_
  refine Go.top (v := .int 1) (by decide) ?_
  refine g_sld C hX hbl hbA (vp_in_iff.mpr (by decide)) (v := xs 1) rfl dL_law_1319 ?_
  refine g_callVI C (c_X8_steps l G F (xs 1)) lk_L_176 (F.mem 0 rfl) (F.at 0 rfl) rfl rfl dL_law_1320 (Nat.le_of_ble_eq_true rfl) ⟨by decide, by decide⟩ ⟨by decide, by decide⟩ (fun r2 L M hp => ?_)
  subst hp
  refine g_icmp_eq C dL_law_1323 (tgt := 2395) (by decide) (fun _ => ?_) (fun q => absurd (by decide) q)
  refine g_widen (k1 := 200) (k2 := 20000) (by decide) (by decide) ?_
  exact tail L M
set_option maxHeartbeats 4000000 in
set_option maxRecDepth 100000 in
theorem lc_40 {p : Program} {l : Launch} {e : Env} {s : State} {m : MethodId} {below : List Frame} {meth : Method} {c : Code} {G : va_G} {cy : Nat → ClassId} {A : Nat → Prop} {Q : State → Prop} {b : Nat} {xs : Nat → Int32} {a bm : Nat → Nat} {L : List Nat} {M : Nat → va_E} (C : Cx p s m #[Value.ref b] meth c RL cL_law 4 G cy A) (hX : va_X b 6 xs s s.heap) (hbl : b < s.heap.size) (hbA : ¬ A b) (F : FW L M (flC cy a ++ flM cy bm 0 (fun _ => 0))) (tail : ∀ (L : List Nat) (M : Nat → va_E), Go p l e room_1 s m #[Value.ref b] below meth c 4 G A 200 20000 Q L M 2395 [(3, .int 0), (2, .ref (bm 0)), (1, .ref (a 0)), (0, .ref b)] []) : Go p l e room_1 s m #[Value.ref b] below meth c 4 G A 68 5738 Q L M 1328 [(3, .int 0), (2, .ref (bm 0)), (1, .ref (a 0)), (0, .ref b)] [] := by
  refine g_aload_n C dL_law_1328 rfl (j := 2) rfl ?_
  refine g_aload_n C dL_law_1329 rfl (j := 3) rfl ?_
  refine g_iload_n C dL_law_1330 rfl (j := 0) rfl ?_
  refine g_iconst C dL_law_1331 (v := 1) (by decide) ?_
  refine g_iadd C dL_law_1332 ?_
  refine Go.top (v := .int 1) (by decide) ?_
  refine g_sld C hX hbl hbA (vp_in_iff.mpr (by decide)) (v := xs 1) rfl dL_law_1333 ?_
  refine g_callVI C (c_X7_behind l G F (xs 1)) lk_L_177 (F.mem 0 rfl) (F.at 0 rfl) rfl rfl dL_law_1334 (Nat.le_of_ble_eq_true rfl) ⟨by decide, by decide⟩ ⟨by decide, by decide⟩ (fun r1 L M hp => ?_)
  obtain ⟨r1_, F⟩ := hp
  subst r1_
  have F := F.right
  refine g_aload_n C dL_law_1337 rfl (j := 1) rfl ?_
  refine g_aload_n C dL_law_1338 rfl (j := 3) rfl ?_
  refine g_iload_n C dL_law_1339 rfl (j := 0) rfl ?_
  refine g_iconst C dL_law_1340 (v := 1) (by decide) ?_
  refine g_iadd C dL_law_1341 ?_
  refine Go.top (v := .int 1) (by decide) ?_
  refine g_sld C hX hbl hbA (vp_in_iff.mpr (by decide)) (v := xs 1) rfl dL_law_1342 ?_
  refine g_callVI C (c_X8_behind l G F (xs 1)) lk_L_180 (F.mem 0 rfl) (F.at 0 rfl) rfl rfl dL_law_1343 (Nat.le_of_ble_eq_true rfl) ⟨by decide, by decide⟩ ⟨by decide, by decide⟩ (fun r2 L M hp => ?_)
  subst hp
  refine g_icmp_eq C dL_law_1346 (tgt := 2395) (by decide) (fun _ => ?_) (fun q => absurd (by decide) q)
  refine g_widen (k1 := 200) (k2 := 20000) (by decide) (by decide) ?_
  exact tail L M
set_option maxHeartbeats 4000000 in
set_option maxRecDepth 100000 in
theorem lc_41 {p : Program} {l : Launch} {e : Env} {s : State} {m : MethodId} {below : List Frame} {meth : Method} {c : Code} {G : va_G} {cy : Nat → ClassId} {A : Nat → Prop} {Q : State → Prop} {b : Nat} {xs : Nat → Int32} {a bm : Nat → Nat} {L : List Nat} {M : Nat → va_E} (C : Cx p s m #[Value.ref b] meth c RL cL_law 4 G cy A) (hX : va_X b 6 xs s s.heap) (hbl : b < s.heap.size) (hbA : ¬ A b) (F : FW L M (flC cy a ++ flM cy bm 0 (fun _ => 0))) (tail : ∀ (L : List Nat) (M : Nat → va_E), Go p l e room_1 s m #[Value.ref b] below meth c 4 G A 200 20000 Q L M 2395 [(3, .int 0), (2, .ref (bm 0)), (1, .ref (a 0)), (0, .ref b)] []) : Go p l e room_1 s m #[Value.ref b] below meth c 4 G A 68 5738 Q L M 1351 [(3, .int 0), (2, .ref (bm 0)), (1, .ref (a 0)), (0, .ref b)] [] := by
  refine g_aload_n C dL_law_1351 rfl (j := 2) rfl ?_
  refine g_aload_n C dL_law_1352 rfl (j := 3) rfl ?_
  refine g_iload_n C dL_law_1353 rfl (j := 0) rfl ?_
  refine g_iconst C dL_law_1354 (v := 1) (by decide) ?_
  refine g_iadd C dL_law_1355 ?_
  refine Go.top (v := .int 1) (by decide) ?_
  refine g_sld C hX hbl hbA (vp_in_iff.mpr (by decide)) (v := xs 1) rfl dL_law_1356 ?_
  refine g_aload_n C dL_law_1357 rfl (j := 3) rfl ?_
  refine g_iload_n C dL_law_1358 rfl (j := 0) rfl ?_
  refine g_iconst C dL_law_1359 (v := 2) (by decide) ?_
  refine g_iadd C dL_law_1360 ?_
  refine Go.top (v := .int 2) (by decide) ?_
  refine g_sld C hX hbl hbA (vp_in_iff.mpr (by decide)) (v := xs 2) rfl dL_law_1361 ?_
  refine g_callVI C (c_X7_nth l G F (xs 1) (xs 2)) lk_L_181 (F.mem 0 rfl) (F.at 0 rfl) rfl rfl dL_law_1362 (Nat.le_of_ble_eq_true rfl) ⟨by decide, by decide⟩ ⟨by decide, by decide⟩ (fun r1 L M hp => ?_)
  obtain ⟨r1_, F⟩ := hp
  subst r1_
  have F := F.right
  refine g_aload_n C dL_law_1365 rfl (j := 1) rfl ?_
  refine g_aload_n C dL_law_1366 rfl (j := 3) rfl ?_
  refine g_iload_n C dL_law_1367 rfl (j := 0) rfl ?_
  refine g_iconst C dL_law_1368 (v := 1) (by decide) ?_
  refine g_iadd C dL_law_1369 ?_
  refine Go.top (v := .int 1) (by decide) ?_
  refine g_sld C hX hbl hbA (vp_in_iff.mpr (by decide)) (v := xs 1) rfl dL_law_1370 ?_
  refine g_aload_n C dL_law_1371 rfl (j := 3) rfl ?_
  refine g_iload_n C dL_law_1372 rfl (j := 0) rfl ?_
  refine g_iconst C dL_law_1373 (v := 2) (by decide) ?_
  refine g_iadd C dL_law_1374 ?_
  refine Go.top (v := .int 2) (by decide) ?_
  refine g_sld C hX hbl hbA (vp_in_iff.mpr (by decide)) (v := xs 2) rfl dL_law_1375 ?_
  refine g_callVI C (c_X8_nth l G F (xs 1) (xs 2)) lk_L_184 (F.mem 0 rfl) (F.at 0 rfl) rfl rfl dL_law_1376 (Nat.le_of_ble_eq_true rfl) ⟨by decide, by decide⟩ ⟨by decide, by decide⟩ (fun r2 L M hp => ?_)
  subst hp
  refine g_icmp_eq C dL_law_1379 (tgt := 2395) (by decide) (fun _ => ?_) (fun q => absurd (by decide) q)
  refine g_widen (k1 := 200) (k2 := 20000) (by decide) (by decide) ?_
  exact tail L M
set_option maxHeartbeats 4000000 in
set_option maxRecDepth 100000 in
theorem lc_42 {p : Program} {l : Launch} {e : Env} {s : State} {m : MethodId} {below : List Frame} {meth : Method} {c : Code} {G : va_G} {cy : Nat → ClassId} {A : Nat → Prop} {Q : State → Prop} {b : Nat} {xs : Nat → Int32} {a bm : Nat → Nat} {L : List Nat} {M : Nat → va_E} (C : Cx p s m #[Value.ref b] meth c RL cL_law 4 G cy A) (hX : va_X b 6 xs s s.heap) (hbl : b < s.heap.size) (hbA : ¬ A b) (F : FW L M (flC cy a ++ flM cy bm 0 (fun _ => 0))) (tail : ∀ (L : List Nat) (M : Nat → va_E), Go p l e room_1 s m #[Value.ref b] below meth c 4 G A 200 20000 Q L M 2395 [(3, .int 0), (2, .ref (bm 0)), (1, .ref (a 0)), (0, .ref b)] []) : Go p l e room_1 s m #[Value.ref b] below meth c 4 G A 68 5738 Q L M 1384 [(3, .int 0), (2, .ref (bm 0)), (1, .ref (a 0)), (0, .ref b)] [] := by
  refine g_aload_n C dL_law_1384 rfl (j := 2) rfl ?_
  refine g_aload_n C dL_law_1385 rfl (j := 3) rfl ?_
  refine g_iload_n C dL_law_1386 rfl (j := 0) rfl ?_
  refine g_iconst C dL_law_1387 (v := 1) (by decide) ?_
  refine g_iadd C dL_law_1388 ?_
  refine Go.top (v := .int 1) (by decide) ?_
  refine g_sld C hX hbl hbA (vp_in_iff.mpr (by decide)) (v := xs 1) rfl dL_law_1389 ?_
  refine g_callVI C (c_X7_round l G F (xs 1)) lk_L_185 (F.mem 0 rfl) (F.at 0 rfl) rfl rfl dL_law_1390 (Nat.le_of_ble_eq_true rfl) ⟨by decide, by decide⟩ ⟨by decide, by decide⟩ (fun r1 L M hp => ?_)
  obtain ⟨r1_, F⟩ := hp
  subst r1_
  have F := F.right
  refine g_aload_n C dL_law_1393 rfl (j := 1) rfl ?_
  refine g_aload_n C dL_law_1394 rfl (j := 3) rfl ?_
  refine g_iload_n C dL_law_1395 rfl (j := 0) rfl ?_
  refine g_iconst C dL_law_1396 (v := 1) (by decide) ?_
  refine g_iadd C dL_law_1397 ?_
  refine Go.top (v := .int 1) (by decide) ?_
  refine g_sld C hX hbl hbA (vp_in_iff.mpr (by decide)) (v := xs 1) rfl dL_law_1398 ?_
  refine g_callVI C (c_X8_round l G F (xs 1)) lk_L_188 (F.mem 0 rfl) (F.at 0 rfl) rfl rfl dL_law_1399 (Nat.le_of_ble_eq_true rfl) ⟨by decide, by decide⟩ ⟨by decide, by decide⟩ (fun r2 L M hp => ?_)
  subst hp
  refine g_icmp_eq C dL_law_1402 (tgt := 2395) (by decide) (fun _ => ?_) (fun q => absurd (by decide) q)
  refine g_widen (k1 := 200) (k2 := 20000) (by decide) (by decide) ?_
  exact tail L M
set_option maxHeartbeats 4000000 in
set_option maxRecDepth 100000 in
theorem lc_43 {p : Program} {l : Launch} {e : Env} {s : State} {m : MethodId} {below : List Frame} {meth : Method} {c : Code} {G : va_G} {cy : Nat → ClassId} {A : Nat → Prop} {Q : State → Prop} {b : Nat} {xs : Nat → Int32} {a bm : Nat → Nat} {L : List Nat} {M : Nat → va_E} (C : Cx p s m #[Value.ref b] meth c RL cL_law 4 G cy A) (hX : va_X b 6 xs s s.heap) (hbl : b < s.heap.size) (hbA : ¬ A b) (F : FW L M (flC cy a ++ flM cy bm 0 (fun _ => 0))) (tail : ∀ (L : List Nat) (M : Nat → va_E), Go p l e room_1 s m #[Value.ref b] below meth c 4 G A 200 20000 Q L M 2395 [(3, .int 0), (2, .ref (bm 0)), (1, .ref (a 0)), (0, .ref b)] []) : Go p l e room_1 s m #[Value.ref b] below meth c 4 G A 68 5738 Q L M 1407 [(3, .int 0), (2, .ref (bm 0)), (1, .ref (a 0)), (0, .ref b)] [] := by
  refine g_aload_n C dL_law_1407 rfl (j := 2) rfl ?_
  refine g_aload_n C dL_law_1408 rfl (j := 3) rfl ?_
  refine g_iload_n C dL_law_1409 rfl (j := 0) rfl ?_
  refine g_iconst C dL_law_1410 (v := 1) (by decide) ?_
  refine g_iadd C dL_law_1411 ?_
  refine Go.top (v := .int 1) (by decide) ?_
  refine g_sld C hX hbl hbA (vp_in_iff.mpr (by decide)) (v := xs 1) rfl dL_law_1412 ?_
  refine g_aload_n C dL_law_1413 rfl (j := 3) rfl ?_
  refine g_iload_n C dL_law_1414 rfl (j := 0) rfl ?_
  refine g_iconst C dL_law_1415 (v := 2) (by decide) ?_
  refine g_iadd C dL_law_1416 ?_
  refine Go.top (v := .int 2) (by decide) ?_
  refine g_sld C hX hbl hbA (vp_in_iff.mpr (by decide)) (v := xs 2) rfl dL_law_1417 ?_
  refine g_aload_n C dL_law_1418 rfl (j := 3) rfl ?_
  refine g_iload_n C dL_law_1419 rfl (j := 0) rfl ?_
  refine g_iconst C dL_law_1420 (v := 3) (by decide) ?_
  refine g_iadd C dL_law_1421 ?_
  refine Go.top (v := .int 3) (by decide) ?_
  refine g_sld C hX hbl hbA (vp_in_iff.mpr (by decide)) (v := xs 3) rfl dL_law_1422 ?_
  refine g_callVI C (c_X7_houses l G F (xs 1) (xs 2) (xs 3)) lk_L_189 (F.mem 0 rfl) (F.at 0 rfl) rfl rfl dL_law_1423 (Nat.le_of_ble_eq_true rfl) ⟨by decide, by decide⟩ ⟨by decide, by decide⟩ (fun r1 L M hp => ?_)
  obtain ⟨r1_, F⟩ := hp
  subst r1_
  have F := F.right
  refine g_aload_n C dL_law_1426 rfl (j := 1) rfl ?_
  refine g_aload_n C dL_law_1427 rfl (j := 3) rfl ?_
  refine g_iload_n C dL_law_1428 rfl (j := 0) rfl ?_
  refine g_iconst C dL_law_1429 (v := 1) (by decide) ?_
  refine g_iadd C dL_law_1430 ?_
  refine Go.top (v := .int 1) (by decide) ?_
  refine g_sld C hX hbl hbA (vp_in_iff.mpr (by decide)) (v := xs 1) rfl dL_law_1431 ?_
  refine g_aload_n C dL_law_1432 rfl (j := 3) rfl ?_
  refine g_iload_n C dL_law_1433 rfl (j := 0) rfl ?_
  refine g_iconst C dL_law_1434 (v := 2) (by decide) ?_
  refine g_iadd C dL_law_1435 ?_
  refine Go.top (v := .int 2) (by decide) ?_
  refine g_sld C hX hbl hbA (vp_in_iff.mpr (by decide)) (v := xs 2) rfl dL_law_1436 ?_
  refine g_aload_n C dL_law_1437 rfl (j := 3) rfl ?_
  refine g_iload_n C dL_law_1438 rfl (j := 0) rfl ?_
  refine g_iconst C dL_law_1439 (v := 3) (by decide) ?_
  refine g_iadd C dL_law_1440 ?_
  refine Go.top (v := .int 3) (by decide) ?_
  refine g_sld C hX hbl hbA (vp_in_iff.mpr (by decide)) (v := xs 3) rfl dL_law_1441 ?_
  refine g_callVI C (c_X8_houses l G F (xs 1) (xs 2) (xs 3)) lk_L_193 (F.mem 0 rfl) (F.at 0 rfl) rfl rfl dL_law_1442 (Nat.le_of_ble_eq_true rfl) ⟨by decide, by decide⟩ ⟨by decide, by decide⟩ (fun r2 L M hp => ?_)
  subst hp
  refine g_icmp_eq C dL_law_1445 (tgt := 2395) (by decide) (fun _ => ?_) (fun q => absurd (by decide) q)
  refine g_widen (k1 := 200) (k2 := 20000) (by decide) (by decide) ?_
  exact tail L M
set_option maxHeartbeats 4000000 in
set_option maxRecDepth 100000 in
theorem lc_44 {p : Program} {l : Launch} {e : Env} {s : State} {m : MethodId} {below : List Frame} {meth : Method} {c : Code} {G : va_G} {cy : Nat → ClassId} {A : Nat → Prop} {Q : State → Prop} {b : Nat} {xs : Nat → Int32} {a bm : Nat → Nat} {L : List Nat} {M : Nat → va_E} (C : Cx p s m #[Value.ref b] meth c RL cL_law 4 G cy A) (hX : va_X b 6 xs s s.heap) (hbl : b < s.heap.size) (hbA : ¬ A b) (F : FW L M (flC cy a ++ flM cy bm 0 (fun _ => 0))) (tail : ∀ (L : List Nat) (M : Nat → va_E), Go p l e room_1 s m #[Value.ref b] below meth c 4 G A 200 20000 Q L M 2395 [(3, .int 0), (2, .ref (bm 0)), (1, .ref (a 0)), (0, .ref b)] []) : Go p l e room_1 s m #[Value.ref b] below meth c 4 G A 68 5738 Q L M 1450 [(3, .int 0), (2, .ref (bm 0)), (1, .ref (a 0)), (0, .ref b)] [] := by
  refine g_aload_n C dL_law_1450 rfl (j := 2) rfl ?_
  refine g_aload_n C dL_law_1451 rfl (j := 3) rfl ?_
  refine g_iload_n C dL_law_1452 rfl (j := 0) rfl ?_
  refine g_iconst C dL_law_1453 (v := 1) (by decide) ?_
  refine g_iadd C dL_law_1454 ?_
  refine Go.top (v := .int 1) (by decide) ?_
  refine g_sld C hX hbl hbA (vp_in_iff.mpr (by decide)) (v := xs 1) rfl dL_law_1455 ?_
  refine g_callVI C (c_X7_tree l G F (xs 1)) lk_L_194 (F.mem 0 rfl) (F.at 0 rfl) rfl rfl dL_law_1456 (Nat.le_of_ble_eq_true rfl) ⟨by decide, by decide⟩ ⟨by decide, by decide⟩ (fun r1 L M hp => ?_)
  obtain ⟨r1_, F⟩ := hp
  subst r1_
  have F := F.right
  refine g_aload_n C dL_law_1459 rfl (j := 1) rfl ?_
  refine g_aload_n C dL_law_1460 rfl (j := 3) rfl ?_
  refine g_iload_n C dL_law_1461 rfl (j := 0) rfl ?_
  refine g_iconst C dL_law_1462 (v := 1) (by decide) ?_
  refine g_iadd C dL_law_1463 ?_
  refine Go.top (v := .int 1) (by decide) ?_
  refine g_sld C hX hbl hbA (vp_in_iff.mpr (by decide)) (v := xs 1) rfl dL_law_1464 ?_
  refine g_callVI C (c_X8_tree l G F (xs 1)) lk_L_197 (F.mem 0 rfl) (F.at 0 rfl) rfl rfl dL_law_1465 (Nat.le_of_ble_eq_true rfl) ⟨by decide, by decide⟩ ⟨by decide, by decide⟩ (fun r2 L M hp => ?_)
  subst hp
  refine g_icmp_eq C dL_law_1468 (tgt := 2395) (by decide) (fun _ => ?_) (fun q => absurd (by decide) q)
  refine g_widen (k1 := 200) (k2 := 20000) (by decide) (by decide) ?_
  exact tail L M
set_option maxHeartbeats 4000000 in
set_option maxRecDepth 100000 in
theorem lc_45 {p : Program} {l : Launch} {e : Env} {s : State} {m : MethodId} {below : List Frame} {meth : Method} {c : Code} {G : va_G} {cy : Nat → ClassId} {A : Nat → Prop} {Q : State → Prop} {b : Nat} {xs : Nat → Int32} {a bm : Nat → Nat} {L : List Nat} {M : Nat → va_E} (C : Cx p s m #[Value.ref b] meth c RL cL_law 4 G cy A) (hX : va_X b 6 xs s s.heap) (hbl : b < s.heap.size) (hbA : ¬ A b) (F : FW L M (flC cy a ++ flM cy bm 0 (fun _ => 0))) (tail : ∀ (L : List Nat) (M : Nat → va_E), Go p l e room_1 s m #[Value.ref b] below meth c 4 G A 200 20000 Q L M 2395 [(3, .int 0), (2, .ref (bm 0)), (1, .ref (a 0)), (0, .ref b)] []) : Go p l e room_1 s m #[Value.ref b] below meth c 4 G A 68 5738 Q L M 1473 [(3, .int 0), (2, .ref (bm 0)), (1, .ref (a 0)), (0, .ref b)] [] := by
  refine g_aload_n C dL_law_1473 rfl (j := 2) rfl ?_
  refine g_aload_n C dL_law_1474 rfl (j := 3) rfl ?_
  refine g_iload_n C dL_law_1475 rfl (j := 0) rfl ?_
  refine g_iconst C dL_law_1476 (v := 1) (by decide) ?_
  refine g_iadd C dL_law_1477 ?_
  refine Go.top (v := .int 1) (by decide) ?_
  refine g_sld C hX hbl hbA (vp_in_iff.mpr (by decide)) (v := xs 1) rfl dL_law_1478 ?_
  refine g_callVI C (c_X7_ring l G F (xs 1)) lk_L_198 (F.mem 0 rfl) (F.at 0 rfl) rfl rfl dL_law_1479 (Nat.le_of_ble_eq_true rfl) ⟨by decide, by decide⟩ ⟨by decide, by decide⟩ (fun r1 L M hp => ?_)
  obtain ⟨r1_, F⟩ := hp
  subst r1_
  have F := F.right
  refine g_aload_n C dL_law_1482 rfl (j := 1) rfl ?_
  refine g_aload_n C dL_law_1483 rfl (j := 3) rfl ?_
  refine g_iload_n C dL_law_1484 rfl (j := 0) rfl ?_
  refine g_iconst C dL_law_1485 (v := 1) (by decide) ?_
  refine g_iadd C dL_law_1486 ?_
  refine Go.top (v := .int 1) (by decide) ?_
  refine g_sld C hX hbl hbA (vp_in_iff.mpr (by decide)) (v := xs 1) rfl dL_law_1487 ?_
  refine g_callVI C (c_X8_ring l G F (xs 1)) lk_L_201 (F.mem 0 rfl) (F.at 0 rfl) rfl rfl dL_law_1488 (Nat.le_of_ble_eq_true rfl) ⟨by decide, by decide⟩ ⟨by decide, by decide⟩ (fun r2 L M hp => ?_)
  subst hp
  refine g_icmp_eq C dL_law_1491 (tgt := 2395) (by decide) (fun _ => ?_) (fun q => absurd (by decide) q)
  refine g_widen (k1 := 200) (k2 := 20000) (by decide) (by decide) ?_
  exact tail L M
set_option maxHeartbeats 4000000 in
set_option maxRecDepth 100000 in
theorem lc_46 {p : Program} {l : Launch} {e : Env} {s : State} {m : MethodId} {below : List Frame} {meth : Method} {c : Code} {G : va_G} {cy : Nat → ClassId} {A : Nat → Prop} {Q : State → Prop} {b : Nat} {xs : Nat → Int32} {a bm : Nat → Nat} {L : List Nat} {M : Nat → va_E} (C : Cx p s m #[Value.ref b] meth c RL cL_law 4 G cy A) (hX : va_X b 6 xs s s.heap) (hbl : b < s.heap.size) (hbA : ¬ A b) (F : FW L M (flC cy a ++ flM cy bm 0 (fun _ => 0))) (tail : ∀ (L : List Nat) (M : Nat → va_E), Go p l e room_1 s m #[Value.ref b] below meth c 4 G A 200 20000 Q L M 2395 [(3, .int 0), (2, .ref (bm 0)), (1, .ref (a 0)), (0, .ref b)] []) : Go p l e room_1 s m #[Value.ref b] below meth c 4 G A 68 5738 Q L M 1496 [(3, .int 0), (2, .ref (bm 0)), (1, .ref (a 0)), (0, .ref b)] [] := by
  refine g_aload_n C dL_law_1496 rfl (j := 2) rfl ?_
  refine g_callVI C (c_X7_trees l G F ) lk_L_202 (F.mem 0 rfl) (F.at 0 rfl) rfl rfl dL_law_1497 (Nat.le_of_ble_eq_true rfl) ⟨by decide, by decide⟩ ⟨by decide, by decide⟩ (fun r1 L M hp => ?_)
  obtain ⟨r1_, F⟩ := hp
  subst r1_
  have F := F.right
  refine g_aload_n C dL_law_1500 rfl (j := 1) rfl ?_
  refine g_callVI C (c_X8_trees l G F ) lk_L_205 (F.mem 0 rfl) (F.at 0 rfl) rfl rfl dL_law_1501 (Nat.le_of_ble_eq_true rfl) ⟨by decide, by decide⟩ ⟨by decide, by decide⟩ (fun r2 L M hp => ?_)
  subst hp
  refine g_icmp_eq C dL_law_1504 (tgt := 2395) (by decide) (fun _ => ?_) (fun q => absurd (by decide) q)
  refine g_widen (k1 := 200) (k2 := 20000) (by decide) (by decide) ?_
  exact tail L M
set_option maxHeartbeats 4000000 in
set_option maxRecDepth 100000 in
theorem lc_47 {p : Program} {l : Launch} {e : Env} {s : State} {m : MethodId} {below : List Frame} {meth : Method} {c : Code} {G : va_G} {cy : Nat → ClassId} {A : Nat → Prop} {Q : State → Prop} {b : Nat} {xs : Nat → Int32} {a bm : Nat → Nat} {L : List Nat} {M : Nat → va_E} (C : Cx p s m #[Value.ref b] meth c RL cL_law 4 G cy A) (hX : va_X b 6 xs s s.heap) (hbl : b < s.heap.size) (hbA : ¬ A b) (F : FW L M (flC cy a ++ flM cy bm 0 (fun _ => 0))) (tail : ∀ (L : List Nat) (M : Nat → va_E), Go p l e room_1 s m #[Value.ref b] below meth c 4 G A 200 20000 Q L M 2395 [(3, .int 0), (2, .ref (bm 0)), (1, .ref (a 0)), (0, .ref b)] []) : Go p l e room_1 s m #[Value.ref b] below meth c 4 G A 68 5738 Q L M 1509 [(3, .int 0), (2, .ref (bm 0)), (1, .ref (a 0)), (0, .ref b)] [] := by
  refine g_aload_n C dL_law_1509 rfl (j := 2) rfl ?_
  refine g_aload_n C dL_law_1510 rfl (j := 3) rfl ?_
  refine g_iload_n C dL_law_1511 rfl (j := 0) rfl ?_
  refine g_iconst C dL_law_1512 (v := 1) (by decide) ?_
  refine g_iadd C dL_law_1513 ?_
  refine Go.top (v := .int 1) (by decide) ?_
  refine g_sld C hX hbl hbA (vp_in_iff.mpr (by decide)) (v := xs 1) rfl dL_law_1514 ?_
  refine g_aload_n C dL_law_1515 rfl (j := 3) rfl ?_
  refine g_iload_n C dL_law_1516 rfl (j := 0) rfl ?_
  refine g_iconst C dL_law_1517 (v := 2) (by decide) ?_
  refine g_iadd C dL_law_1518 ?_
  refine Go.top (v := .int 2) (by decide) ?_
  refine g_sld C hX hbl hbA (vp_in_iff.mpr (by decide)) (v := xs 2) rfl dL_law_1519 ?_
  refine g_callVI C (c_X7_point l G F (xs 1) (xs 2)) lk_L_206 (F.mem 0 rfl) (F.at 0 rfl) rfl rfl dL_law_1520 (Nat.le_of_ble_eq_true rfl) ⟨by decide, by decide⟩ ⟨by decide, by decide⟩ (fun r1 L M hp => ?_)
  obtain ⟨r1_, F⟩ := hp
  subst r1_
  have F := F.right
  refine g_aload_n C dL_law_1523 rfl (j := 1) rfl ?_
  refine g_aload_n C dL_law_1524 rfl (j := 3) rfl ?_
  refine g_iload_n C dL_law_1525 rfl (j := 0) rfl ?_
  refine g_iconst C dL_law_1526 (v := 1) (by decide) ?_
  refine g_iadd C dL_law_1527 ?_
  refine Go.top (v := .int 1) (by decide) ?_
  refine g_sld C hX hbl hbA (vp_in_iff.mpr (by decide)) (v := xs 1) rfl dL_law_1528 ?_
  refine g_aload_n C dL_law_1529 rfl (j := 3) rfl ?_
  refine g_iload_n C dL_law_1530 rfl (j := 0) rfl ?_
  refine g_iconst C dL_law_1531 (v := 2) (by decide) ?_
  refine g_iadd C dL_law_1532 ?_
  refine Go.top (v := .int 2) (by decide) ?_
  refine g_sld C hX hbl hbA (vp_in_iff.mpr (by decide)) (v := xs 2) rfl dL_law_1533 ?_
  refine g_callVI C (c_X8_point l G F (xs 1) (xs 2)) lk_L_209 (F.mem 0 rfl) (F.at 0 rfl) rfl rfl dL_law_1534 (Nat.le_of_ble_eq_true rfl) ⟨by decide, by decide⟩ ⟨by decide, by decide⟩ (fun r2 L M hp => ?_)
  subst hp
  refine g_icmp_eq C dL_law_1537 (tgt := 2395) (by decide) (fun _ => ?_) (fun q => absurd (by decide) q)
  refine g_widen (k1 := 200) (k2 := 20000) (by decide) (by decide) ?_
  exact tail L M
set_option maxHeartbeats 4000000 in
set_option maxRecDepth 100000 in
theorem lc_48 {p : Program} {l : Launch} {e : Env} {s : State} {m : MethodId} {below : List Frame} {meth : Method} {c : Code} {G : va_G} {cy : Nat → ClassId} {A : Nat → Prop} {Q : State → Prop} {b : Nat} {xs : Nat → Int32} {a bm : Nat → Nat} {L : List Nat} {M : Nat → va_E} (C : Cx p s m #[Value.ref b] meth c RL cL_law 4 G cy A) (hX : va_X b 6 xs s s.heap) (hbl : b < s.heap.size) (hbA : ¬ A b) (F : FW L M (flC cy a ++ flM cy bm 0 (fun _ => 0))) (tail : ∀ (L : List Nat) (M : Nat → va_E), Go p l e room_1 s m #[Value.ref b] below meth c 4 G A 200 20000 Q L M 2395 [(3, .int 0), (2, .ref (bm 0)), (1, .ref (a 0)), (0, .ref b)] []) : Go p l e room_1 s m #[Value.ref b] below meth c 4 G A 68 5738 Q L M 1542 [(3, .int 0), (2, .ref (bm 0)), (1, .ref (a 0)), (0, .ref b)] [] := by
  refine g_aload_n C dL_law_1542 rfl (j := 2) rfl ?_
  refine g_callVI C (c_X7_best l G F ) lk_L_210 (F.mem 0 rfl) (F.at 0 rfl) rfl rfl dL_law_1543 (Nat.le_of_ble_eq_true rfl) ⟨by decide, by decide⟩ ⟨by decide, by decide⟩ (fun r1 L M hp => ?_)
  obtain ⟨r1_, F⟩ := hp
  subst r1_
  have F := F.right
  refine g_aload_n C dL_law_1546 rfl (j := 1) rfl ?_
  refine g_callVI C (c_X8_best l G F ) lk_L_213 (F.mem 0 rfl) (F.at 0 rfl) rfl rfl dL_law_1547 (Nat.le_of_ble_eq_true rfl) ⟨by decide, by decide⟩ ⟨by decide, by decide⟩ (fun r2 L M hp => ?_)
  subst hp
  refine g_icmp_eq C dL_law_1550 (tgt := 2395) (by decide) (fun _ => ?_) (fun q => absurd (by decide) q)
  refine g_widen (k1 := 200) (k2 := 20000) (by decide) (by decide) ?_
  exact tail L M
set_option maxHeartbeats 4000000 in
set_option maxRecDepth 100000 in
theorem lc_49 {p : Program} {l : Launch} {e : Env} {s : State} {m : MethodId} {below : List Frame} {meth : Method} {c : Code} {G : va_G} {cy : Nat → ClassId} {A : Nat → Prop} {Q : State → Prop} {b : Nat} {xs : Nat → Int32} {a bm : Nat → Nat} {L : List Nat} {M : Nat → va_E} (C : Cx p s m #[Value.ref b] meth c RL cL_law 4 G cy A) (hX : va_X b 6 xs s s.heap) (hbl : b < s.heap.size) (hbA : ¬ A b) (F : FW L M (flC cy a ++ flM cy bm 0 (fun _ => 0))) (tail : ∀ (L : List Nat) (M : Nat → va_E), Go p l e room_1 s m #[Value.ref b] below meth c 4 G A 200 20000 Q L M 2395 [(3, .int 0), (2, .ref (bm 0)), (1, .ref (a 0)), (0, .ref b)] []) : Go p l e room_1 s m #[Value.ref b] below meth c 4 G A 68 5738 Q L M 1555 [(3, .int 0), (2, .ref (bm 0)), (1, .ref (a 0)), (0, .ref b)] [] := by
  refine g_aload_n C dL_law_1555 rfl (j := 2) rfl ?_
  refine g_callVI C (c_X7_crowds l G F ) lk_L_214 (F.mem 0 rfl) (F.at 0 rfl) rfl rfl dL_law_1556 (Nat.le_of_ble_eq_true rfl) ⟨by decide, by decide⟩ ⟨by decide, by decide⟩ (fun r1 L M hp => ?_)
  obtain ⟨r1_, F⟩ := hp
  subst r1_
  have F := F.right
  refine g_aload_n C dL_law_1559 rfl (j := 1) rfl ?_
  refine g_callVI C (c_X8_crowds l G F ) lk_L_217 (F.mem 0 rfl) (F.at 0 rfl) rfl rfl dL_law_1560 (Nat.le_of_ble_eq_true rfl) ⟨by decide, by decide⟩ ⟨by decide, by decide⟩ (fun r2 L M hp => ?_)
  subst hp
  refine g_icmp_eq C dL_law_1563 (tgt := 2395) (by decide) (fun _ => ?_) (fun q => absurd (by decide) q)
  refine g_widen (k1 := 200) (k2 := 20000) (by decide) (by decide) ?_
  exact tail L M
set_option maxHeartbeats 4000000 in
set_option maxRecDepth 100000 in
theorem lc_50 {p : Program} {l : Launch} {e : Env} {s : State} {m : MethodId} {below : List Frame} {meth : Method} {c : Code} {G : va_G} {cy : Nat → ClassId} {A : Nat → Prop} {Q : State → Prop} {b : Nat} {xs : Nat → Int32} {a bm : Nat → Nat} {L : List Nat} {M : Nat → va_E} (C : Cx p s m #[Value.ref b] meth c RL cL_law 4 G cy A) (hX : va_X b 6 xs s s.heap) (hbl : b < s.heap.size) (hbA : ¬ A b) (F : FW L M (flC cy a ++ flM cy bm 0 (fun _ => 0))) (tail : ∀ (L : List Nat) (M : Nat → va_E), Go p l e room_1 s m #[Value.ref b] below meth c 4 G A 200 20000 Q L M 2395 [(3, .int 0), (2, .ref (bm 0)), (1, .ref (a 0)), (0, .ref b)] []) : Go p l e room_1 s m #[Value.ref b] below meth c 4 G A 68 5738 Q L M 1568 [(3, .int 0), (2, .ref (bm 0)), (1, .ref (a 0)), (0, .ref b)] [] := by
  refine g_aload_n C dL_law_1568 rfl (j := 2) rfl ?_
  refine g_aload_n C dL_law_1569 rfl (j := 3) rfl ?_
  refine g_iload_n C dL_law_1570 rfl (j := 0) rfl ?_
  refine g_iconst C dL_law_1571 (v := 1) (by decide) ?_
  refine g_iadd C dL_law_1572 ?_
  refine Go.top (v := .int 1) (by decide) ?_
  refine g_sld C hX hbl hbA (vp_in_iff.mpr (by decide)) (v := xs 1) rfl dL_law_1573 ?_
  refine g_aload_n C dL_law_1574 rfl (j := 3) rfl ?_
  refine g_iload_n C dL_law_1575 rfl (j := 0) rfl ?_
  refine g_iconst C dL_law_1576 (v := 2) (by decide) ?_
  refine g_iadd C dL_law_1577 ?_
  refine Go.top (v := .int 2) (by decide) ?_
  refine g_sld C hX hbl hbA (vp_in_iff.mpr (by decide)) (v := xs 2) rfl dL_law_1578 ?_
  refine g_callVI C (c_X7_may l G F (xs 1) (xs 2)) lk_L_218 (F.mem 0 rfl) (F.at 0 rfl) rfl rfl dL_law_1579 (Nat.le_of_ble_eq_true rfl) ⟨by decide, by decide⟩ ⟨by decide, by decide⟩ (fun r1 L M hp => ?_)
  obtain ⟨r1_, F⟩ := hp
  subst r1_
  have F := F.right
  refine g_aload_n C dL_law_1582 rfl (j := 1) rfl ?_
  refine g_aload_n C dL_law_1583 rfl (j := 3) rfl ?_
  refine g_iload_n C dL_law_1584 rfl (j := 0) rfl ?_
  refine g_iconst C dL_law_1585 (v := 1) (by decide) ?_
  refine g_iadd C dL_law_1586 ?_
  refine Go.top (v := .int 1) (by decide) ?_
  refine g_sld C hX hbl hbA (vp_in_iff.mpr (by decide)) (v := xs 1) rfl dL_law_1587 ?_
  refine g_aload_n C dL_law_1588 rfl (j := 3) rfl ?_
  refine g_iload_n C dL_law_1589 rfl (j := 0) rfl ?_
  refine g_iconst C dL_law_1590 (v := 2) (by decide) ?_
  refine g_iadd C dL_law_1591 ?_
  refine Go.top (v := .int 2) (by decide) ?_
  refine g_sld C hX hbl hbA (vp_in_iff.mpr (by decide)) (v := xs 2) rfl dL_law_1592 ?_
  refine g_callVI C (c_X8_may l G F (xs 1) (xs 2)) lk_L_221 (F.mem 0 rfl) (F.at 0 rfl) rfl rfl dL_law_1593 (Nat.le_of_ble_eq_true rfl) ⟨by decide, by decide⟩ ⟨by decide, by decide⟩ (fun r2 L M hp => ?_)
  subst hp
  refine g_icmp_eq C dL_law_1596 (tgt := 2395) (by decide) (fun _ => ?_) (fun q => absurd (by decide) q)
  refine g_widen (k1 := 200) (k2 := 20000) (by decide) (by decide) ?_
  exact tail L M
set_option maxHeartbeats 4000000 in
set_option maxRecDepth 100000 in
theorem lc_51 {p : Program} {l : Launch} {e : Env} {s : State} {m : MethodId} {below : List Frame} {meth : Method} {c : Code} {G : va_G} {cy : Nat → ClassId} {A : Nat → Prop} {Q : State → Prop} {b : Nat} {xs : Nat → Int32} {a bm : Nat → Nat} {L : List Nat} {M : Nat → va_E} (C : Cx p s m #[Value.ref b] meth c RL cL_law 4 G cy A) (hX : va_X b 6 xs s s.heap) (hbl : b < s.heap.size) (hbA : ¬ A b) (F : FW L M (flC cy a ++ flM cy bm 0 (fun _ => 0))) (tail : ∀ (L : List Nat) (M : Nat → va_E), Go p l e room_1 s m #[Value.ref b] below meth c 4 G A 200 20000 Q L M 2395 [(3, .int 0), (2, .ref (bm 0)), (1, .ref (a 0)), (0, .ref b)] []) : Go p l e room_1 s m #[Value.ref b] below meth c 4 G A 68 5738 Q L M 1601 [(3, .int 0), (2, .ref (bm 0)), (1, .ref (a 0)), (0, .ref b)] [] := by
  refine g_aload_n C dL_law_1601 rfl (j := 2) rfl ?_
  refine g_aload_n C dL_law_1602 rfl (j := 3) rfl ?_
  refine g_iload_n C dL_law_1603 rfl (j := 0) rfl ?_
  refine g_iconst C dL_law_1604 (v := 1) (by decide) ?_
  refine g_iadd C dL_law_1605 ?_
  refine Go.top (v := .int 1) (by decide) ?_
  refine g_sld C hX hbl hbA (vp_in_iff.mpr (by decide)) (v := xs 1) rfl dL_law_1606 ?_
  refine g_aload_n C dL_law_1607 rfl (j := 3) rfl ?_
  refine g_iload_n C dL_law_1608 rfl (j := 0) rfl ?_
  refine g_iconst C dL_law_1609 (v := 2) (by decide) ?_
  refine g_iadd C dL_law_1610 ?_
  refine Go.top (v := .int 2) (by decide) ?_
  refine g_sld C hX hbl hbA (vp_in_iff.mpr (by decide)) (v := xs 2) rfl dL_law_1611 ?_
  refine g_callVI C (c_X7_ask l G F (xs 1) (xs 2)) lk_L_222 (F.mem 0 rfl) (F.at 0 rfl) rfl rfl dL_law_1612 (Nat.le_of_ble_eq_true rfl) ⟨by decide, by decide⟩ ⟨by decide, by decide⟩ (fun r1 L M hp => ?_)
  obtain ⟨r1_, F⟩ := hp
  subst r1_
  have F := F.right
  refine g_aload_n C dL_law_1615 rfl (j := 1) rfl ?_
  refine g_aload_n C dL_law_1616 rfl (j := 3) rfl ?_
  refine g_iload_n C dL_law_1617 rfl (j := 0) rfl ?_
  refine g_iconst C dL_law_1618 (v := 1) (by decide) ?_
  refine g_iadd C dL_law_1619 ?_
  refine Go.top (v := .int 1) (by decide) ?_
  refine g_sld C hX hbl hbA (vp_in_iff.mpr (by decide)) (v := xs 1) rfl dL_law_1620 ?_
  refine g_aload_n C dL_law_1621 rfl (j := 3) rfl ?_
  refine g_iload_n C dL_law_1622 rfl (j := 0) rfl ?_
  refine g_iconst C dL_law_1623 (v := 2) (by decide) ?_
  refine g_iadd C dL_law_1624 ?_
  refine Go.top (v := .int 2) (by decide) ?_
  refine g_sld C hX hbl hbA (vp_in_iff.mpr (by decide)) (v := xs 2) rfl dL_law_1625 ?_
  refine g_callVI C (c_X8_ask l G F (xs 1) (xs 2)) lk_L_225 (F.mem 0 rfl) (F.at 0 rfl) rfl rfl dL_law_1626 (Nat.le_of_ble_eq_true rfl) ⟨by decide, by decide⟩ ⟨by decide, by decide⟩ (fun r2 L M hp => ?_)
  subst hp
  refine g_icmp_eq C dL_law_1629 (tgt := 2395) (by decide) (fun _ => ?_) (fun q => absurd (by decide) q)
  refine g_widen (k1 := 200) (k2 := 20000) (by decide) (by decide) ?_
  exact tail L M
set_option maxHeartbeats 4000000 in
set_option maxRecDepth 100000 in
theorem lc_52 {p : Program} {l : Launch} {e : Env} {s : State} {m : MethodId} {below : List Frame} {meth : Method} {c : Code} {G : va_G} {cy : Nat → ClassId} {A : Nat → Prop} {Q : State → Prop} {b : Nat} {xs : Nat → Int32} {a bm : Nat → Nat} {L : List Nat} {M : Nat → va_E} (C : Cx p s m #[Value.ref b] meth c RL cL_law 4 G cy A) (hX : va_X b 6 xs s s.heap) (hbl : b < s.heap.size) (hbA : ¬ A b) (F : FW L M (flC cy a ++ flM cy bm 0 (fun _ => 0))) (tail : ∀ (L : List Nat) (M : Nat → va_E), Go p l e room_1 s m #[Value.ref b] below meth c 4 G A 200 20000 Q L M 2395 [(3, .int 0), (2, .ref (bm 0)), (1, .ref (a 0)), (0, .ref b)] []) : Go p l e room_1 s m #[Value.ref b] below meth c 4 G A 68 5738 Q L M 1634 [(3, .int 0), (2, .ref (bm 0)), (1, .ref (a 0)), (0, .ref b)] [] := by
  refine g_aload_n C dL_law_1634 rfl (j := 2) rfl ?_
  refine g_aload_n C dL_law_1635 rfl (j := 3) rfl ?_
  refine g_iload_n C dL_law_1636 rfl (j := 0) rfl ?_
  refine g_iconst C dL_law_1637 (v := 1) (by decide) ?_
  refine g_iadd C dL_law_1638 ?_
  refine Go.top (v := .int 1) (by decide) ?_
  refine g_sld C hX hbl hbA (vp_in_iff.mpr (by decide)) (v := xs 1) rfl dL_law_1639 ?_
  refine g_aload_n C dL_law_1640 rfl (j := 3) rfl ?_
  refine g_iload_n C dL_law_1641 rfl (j := 0) rfl ?_
  refine g_iconst C dL_law_1642 (v := 2) (by decide) ?_
  refine g_iadd C dL_law_1643 ?_
  refine Go.top (v := .int 2) (by decide) ?_
  refine g_sld C hX hbl hbA (vp_in_iff.mpr (by decide)) (v := xs 2) rfl dL_law_1644 ?_
  refine g_callVI C (c_X7_leaves l G F (xs 1) (xs 2)) lk_L_226 (F.mem 0 rfl) (F.at 0 rfl) rfl rfl dL_law_1645 (Nat.le_of_ble_eq_true rfl) ⟨by decide, by decide⟩ ⟨by decide, by decide⟩ (fun r1 L M hp => ?_)
  obtain ⟨r1_, F⟩ := hp
  subst r1_
  have F := F.right
  refine g_aload_n C dL_law_1648 rfl (j := 1) rfl ?_
  refine g_aload_n C dL_law_1649 rfl (j := 3) rfl ?_
  refine g_iload_n C dL_law_1650 rfl (j := 0) rfl ?_
  refine g_iconst C dL_law_1651 (v := 1) (by decide) ?_
  refine g_iadd C dL_law_1652 ?_
  refine Go.top (v := .int 1) (by decide) ?_
  refine g_sld C hX hbl hbA (vp_in_iff.mpr (by decide)) (v := xs 1) rfl dL_law_1653 ?_
  refine g_aload_n C dL_law_1654 rfl (j := 3) rfl ?_
  refine g_iload_n C dL_law_1655 rfl (j := 0) rfl ?_
  refine g_iconst C dL_law_1656 (v := 2) (by decide) ?_
  refine g_iadd C dL_law_1657 ?_
  refine Go.top (v := .int 2) (by decide) ?_
  refine g_sld C hX hbl hbA (vp_in_iff.mpr (by decide)) (v := xs 2) rfl dL_law_1658 ?_
  refine g_callVI C (c_X8_leaves l G F (xs 1) (xs 2)) lk_L_229 (F.mem 0 rfl) (F.at 0 rfl) rfl rfl dL_law_1659 (Nat.le_of_ble_eq_true rfl) ⟨by decide, by decide⟩ ⟨by decide, by decide⟩ (fun r2 L M hp => ?_)
  subst hp
  refine g_icmp_eq C dL_law_1662 (tgt := 2395) (by decide) (fun _ => ?_) (fun q => absurd (by decide) q)
  refine g_widen (k1 := 200) (k2 := 20000) (by decide) (by decide) ?_
  exact tail L M
set_option maxHeartbeats 4000000 in
set_option maxRecDepth 100000 in
theorem lc_53 {p : Program} {l : Launch} {e : Env} {s : State} {m : MethodId} {below : List Frame} {meth : Method} {c : Code} {G : va_G} {cy : Nat → ClassId} {A : Nat → Prop} {Q : State → Prop} {b : Nat} {xs : Nat → Int32} {a bm : Nat → Nat} {L : List Nat} {M : Nat → va_E} (C : Cx p s m #[Value.ref b] meth c RL cL_law 4 G cy A) (hX : va_X b 6 xs s s.heap) (hbl : b < s.heap.size) (hbA : ¬ A b) (F : FW L M (flC cy a ++ flM cy bm 0 (fun _ => 0))) (tail : ∀ (L : List Nat) (M : Nat → va_E), Go p l e room_1 s m #[Value.ref b] below meth c 4 G A 200 20000 Q L M 2395 [(3, .int 0), (2, .ref (bm 0)), (1, .ref (a 0)), (0, .ref b)] []) : Go p l e room_1 s m #[Value.ref b] below meth c 4 G A 68 5738 Q L M 1667 [(3, .int 0), (2, .ref (bm 0)), (1, .ref (a 0)), (0, .ref b)] [] := by
  refine g_aload_n C dL_law_1667 rfl (j := 2) rfl ?_
  refine g_aload_n C dL_law_1668 rfl (j := 3) rfl ?_
  refine g_iload_n C dL_law_1669 rfl (j := 0) rfl ?_
  refine g_iconst C dL_law_1670 (v := 1) (by decide) ?_
  refine g_iadd C dL_law_1671 ?_
  refine Go.top (v := .int 1) (by decide) ?_
  refine g_sld C hX hbl hbA (vp_in_iff.mpr (by decide)) (v := xs 1) rfl dL_law_1672 ?_
  refine g_callVI C (c_X7_laws l G F (xs 1)) lk_L_230 (F.mem 0 rfl) (F.at 0 rfl) rfl rfl dL_law_1673 (Nat.le_of_ble_eq_true rfl) ⟨by decide, by decide⟩ ⟨by decide, by decide⟩ (fun r1 L M hp => ?_)
  obtain ⟨r1_, F⟩ := hp
  subst r1_
  have F := F.right
  refine g_aload_n C dL_law_1676 rfl (j := 1) rfl ?_
  refine g_aload_n C dL_law_1677 rfl (j := 3) rfl ?_
  refine g_iload_n C dL_law_1678 rfl (j := 0) rfl ?_
  refine g_iconst C dL_law_1679 (v := 1) (by decide) ?_
  refine g_iadd C dL_law_1680 ?_
  refine Go.top (v := .int 1) (by decide) ?_
  refine g_sld C hX hbl hbA (vp_in_iff.mpr (by decide)) (v := xs 1) rfl dL_law_1681 ?_
  refine g_callVI C (c_X8_laws l G F (xs 1)) lk_L_233 (F.mem 0 rfl) (F.at 0 rfl) rfl rfl dL_law_1682 (Nat.le_of_ble_eq_true rfl) ⟨by decide, by decide⟩ ⟨by decide, by decide⟩ (fun r2 L M hp => ?_)
  subst hp
  refine g_icmp_eq C dL_law_1685 (tgt := 2395) (by decide) (fun _ => ?_) (fun q => absurd (by decide) q)
  refine g_widen (k1 := 200) (k2 := 20000) (by decide) (by decide) ?_
  exact tail L M
set_option maxHeartbeats 4000000 in
set_option maxRecDepth 100000 in
theorem lc_54 {p : Program} {l : Launch} {e : Env} {s : State} {m : MethodId} {below : List Frame} {meth : Method} {c : Code} {G : va_G} {cy : Nat → ClassId} {A : Nat → Prop} {Q : State → Prop} {b : Nat} {xs : Nat → Int32} {a bm : Nat → Nat} {L : List Nat} {M : Nat → va_E} (C : Cx p s m #[Value.ref b] meth c RL cL_law 4 G cy A) (hX : va_X b 6 xs s s.heap) (hbl : b < s.heap.size) (hbA : ¬ A b) (F : FW L M (flC cy a ++ flM cy bm 0 (fun _ => 0))) (tail : ∀ (L : List Nat) (M : Nat → va_E), Go p l e room_1 s m #[Value.ref b] below meth c 4 G A 200 20000 Q L M 2395 [(3, .int 0), (2, .ref (bm 0)), (1, .ref (a 0)), (0, .ref b)] []) : Go p l e room_1 s m #[Value.ref b] below meth c 4 G A 68 5738 Q L M 1690 [(3, .int 0), (2, .ref (bm 0)), (1, .ref (a 0)), (0, .ref b)] [] := by
  refine g_aload_n C dL_law_1690 rfl (j := 2) rfl ?_
  refine g_aload_n C dL_law_1691 rfl (j := 3) rfl ?_
  refine g_iload_n C dL_law_1692 rfl (j := 0) rfl ?_
  refine g_iconst C dL_law_1693 (v := 1) (by decide) ?_
  refine g_iadd C dL_law_1694 ?_
  refine Go.top (v := .int 1) (by decide) ?_
  refine g_sld C hX hbl hbA (vp_in_iff.mpr (by decide)) (v := xs 1) rfl dL_law_1695 ?_
  refine g_callVI C (c_X7_by l G F (xs 1)) lk_L_234 (F.mem 0 rfl) (F.at 0 rfl) rfl rfl dL_law_1696 (Nat.le_of_ble_eq_true rfl) ⟨by decide, by decide⟩ ⟨by decide, by decide⟩ (fun r1 L M hp => ?_)
  obtain ⟨r1_, F⟩ := hp
  subst r1_
  have F := F.right
  refine g_aload_n C dL_law_1699 rfl (j := 1) rfl ?_
  refine g_aload_n C dL_law_1700 rfl (j := 3) rfl ?_
  refine g_iload_n C dL_law_1701 rfl (j := 0) rfl ?_
  refine g_iconst C dL_law_1702 (v := 1) (by decide) ?_
  refine g_iadd C dL_law_1703 ?_
  refine Go.top (v := .int 1) (by decide) ?_
  refine g_sld C hX hbl hbA (vp_in_iff.mpr (by decide)) (v := xs 1) rfl dL_law_1704 ?_
  refine g_callVI C (c_X8_by l G F (xs 1)) lk_L_237 (F.mem 0 rfl) (F.at 0 rfl) rfl rfl dL_law_1705 (Nat.le_of_ble_eq_true rfl) ⟨by decide, by decide⟩ ⟨by decide, by decide⟩ (fun r2 L M hp => ?_)
  subst hp
  refine g_icmp_eq C dL_law_1708 (tgt := 2395) (by decide) (fun _ => ?_) (fun q => absurd (by decide) q)
  refine g_widen (k1 := 200) (k2 := 20000) (by decide) (by decide) ?_
  exact tail L M
set_option maxHeartbeats 4000000 in
set_option maxRecDepth 100000 in
theorem lc_55 {p : Program} {l : Launch} {e : Env} {s : State} {m : MethodId} {below : List Frame} {meth : Method} {c : Code} {G : va_G} {cy : Nat → ClassId} {A : Nat → Prop} {Q : State → Prop} {b : Nat} {xs : Nat → Int32} {a bm : Nat → Nat} {L : List Nat} {M : Nat → va_E} (C : Cx p s m #[Value.ref b] meth c RL cL_law 4 G cy A) (hX : va_X b 6 xs s s.heap) (hbl : b < s.heap.size) (hbA : ¬ A b) (F : FW L M (flC cy a ++ flM cy bm 0 (fun _ => 0))) (tail : ∀ (L : List Nat) (M : Nat → va_E), Go p l e room_1 s m #[Value.ref b] below meth c 4 G A 200 20000 Q L M 2395 [(3, .int 0), (2, .ref (bm 0)), (1, .ref (a 0)), (0, .ref b)] []) : Go p l e room_1 s m #[Value.ref b] below meth c 4 G A 68 5738 Q L M 1713 [(3, .int 0), (2, .ref (bm 0)), (1, .ref (a 0)), (0, .ref b)] [] := by
  refine g_aload_n C dL_law_1713 rfl (j := 2) rfl ?_
  refine g_callVI C (c_X7_law l G F ) lk_L_238 (F.mem 0 rfl) (F.at 0 rfl) rfl rfl dL_law_1714 (Nat.le_of_ble_eq_true rfl) ⟨by decide, by decide⟩ ⟨by decide, by decide⟩ (fun r1 L M hp => ?_)
  obtain ⟨r1_, F⟩ := hp
  subst r1_
  have F := F.right
  refine g_aload_n C dL_law_1717 rfl (j := 1) rfl ?_
  refine g_callVI C (c_X8_law l G F ) lk_L_241 (F.mem 0 rfl) (F.at 0 rfl) rfl rfl dL_law_1718 (Nat.le_of_ble_eq_true rfl) ⟨by decide, by decide⟩ ⟨by decide, by decide⟩ (fun r2 L M hp => ?_)
  subst hp
  refine g_icmp_eq C dL_law_1721 (tgt := 2395) (by decide) (fun _ => ?_) (fun q => absurd (by decide) q)
  refine g_widen (k1 := 200) (k2 := 20000) (by decide) (by decide) ?_
  exact tail L M
set_option maxHeartbeats 4000000 in
set_option maxRecDepth 100000 in
theorem lc_56 {p : Program} {l : Launch} {e : Env} {s : State} {m : MethodId} {below : List Frame} {meth : Method} {c : Code} {G : va_G} {cy : Nat → ClassId} {A : Nat → Prop} {Q : State → Prop} {b : Nat} {xs : Nat → Int32} {a bm : Nat → Nat} {L : List Nat} {M : Nat → va_E} (C : Cx p s m #[Value.ref b] meth c RL cL_law 4 G cy A) (hX : va_X b 6 xs s s.heap) (hbl : b < s.heap.size) (hbA : ¬ A b) (F : FW L M (flC cy a ++ flM cy bm 0 (fun _ => 0))) (tail : ∀ (L : List Nat) (M : Nat → va_E), Go p l e room_1 s m #[Value.ref b] below meth c 4 G A 200 20000 Q L M 2395 [(3, .int 0), (2, .ref (bm 0)), (1, .ref (a 0)), (0, .ref b)] []) : Go p l e room_1 s m #[Value.ref b] below meth c 4 G A 68 5738 Q L M 1726 [(3, .int 0), (2, .ref (bm 0)), (1, .ref (a 0)), (0, .ref b)] [] := by
  refine g_aload_n C dL_law_1726 rfl (j := 2) rfl ?_
  refine g_aload_n C dL_law_1727 rfl (j := 3) rfl ?_
  refine g_iload_n C dL_law_1728 rfl (j := 0) rfl ?_
  refine g_iconst C dL_law_1729 (v := 1) (by decide) ?_
  refine g_iadd C dL_law_1730 ?_
  refine Go.top (v := .int 1) (by decide) ?_
  refine g_sld C hX hbl hbA (vp_in_iff.mpr (by decide)) (v := xs 1) rfl dL_law_1731 ?_
  refine g_callVI C (c_X7_worth l G F (xs 1)) lk_L_242 (F.mem 0 rfl) (F.at 0 rfl) rfl rfl dL_law_1732 (Nat.le_of_ble_eq_true rfl) ⟨by decide, by decide⟩ ⟨by decide, by decide⟩ (fun r1 L M hp => ?_)
  obtain ⟨r1_, F⟩ := hp
  subst r1_
  have F := F.right
  refine g_aload_n C dL_law_1735 rfl (j := 1) rfl ?_
  refine g_aload_n C dL_law_1736 rfl (j := 3) rfl ?_
  refine g_iload_n C dL_law_1737 rfl (j := 0) rfl ?_
  refine g_iconst C dL_law_1738 (v := 1) (by decide) ?_
  refine g_iadd C dL_law_1739 ?_
  refine Go.top (v := .int 1) (by decide) ?_
  refine g_sld C hX hbl hbA (vp_in_iff.mpr (by decide)) (v := xs 1) rfl dL_law_1740 ?_
  refine g_callVI C (c_X8_worth l G F (xs 1)) lk_L_245 (F.mem 0 rfl) (F.at 0 rfl) rfl rfl dL_law_1741 (Nat.le_of_ble_eq_true rfl) ⟨by decide, by decide⟩ ⟨by decide, by decide⟩ (fun r2 L M hp => ?_)
  subst hp
  refine g_icmp_eq C dL_law_1744 (tgt := 2395) (by decide) (fun _ => ?_) (fun q => absurd (by decide) q)
  refine g_widen (k1 := 200) (k2 := 20000) (by decide) (by decide) ?_
  exact tail L M
set_option maxHeartbeats 4000000 in
set_option maxRecDepth 100000 in
theorem lc_57 {p : Program} {l : Launch} {e : Env} {s : State} {m : MethodId} {below : List Frame} {meth : Method} {c : Code} {G : va_G} {cy : Nat → ClassId} {A : Nat → Prop} {Q : State → Prop} {b : Nat} {xs : Nat → Int32} {a bm : Nat → Nat} {L : List Nat} {M : Nat → va_E} (C : Cx p s m #[Value.ref b] meth c RL cL_law 4 G cy A) (hX : va_X b 6 xs s s.heap) (hbl : b < s.heap.size) (hbA : ¬ A b) (F : FW L M (flC cy a ++ flM cy bm 0 (fun _ => 0))) (tail : ∀ (L : List Nat) (M : Nat → va_E), Go p l e room_1 s m #[Value.ref b] below meth c 4 G A 200 20000 Q L M 2395 [(3, .int 0), (2, .ref (bm 0)), (1, .ref (a 0)), (0, .ref b)] []) : Go p l e room_1 s m #[Value.ref b] below meth c 4 G A 68 5738 Q L M 1749 [(3, .int 0), (2, .ref (bm 0)), (1, .ref (a 0)), (0, .ref b)] [] := by
  refine g_aload_n C dL_law_1749 rfl (j := 2) rfl ?_
  refine g_aload_n C dL_law_1750 rfl (j := 3) rfl ?_
  refine g_iload_n C dL_law_1751 rfl (j := 0) rfl ?_
  refine g_iconst C dL_law_1752 (v := 1) (by decide) ?_
  refine g_iadd C dL_law_1753 ?_
  refine Go.top (v := .int 1) (by decide) ?_
  refine g_sld C hX hbl hbA (vp_in_iff.mpr (by decide)) (v := xs 1) rfl dL_law_1754 ?_
  refine g_aload_n C dL_law_1755 rfl (j := 3) rfl ?_
  refine g_iload_n C dL_law_1756 rfl (j := 0) rfl ?_
  refine g_iconst C dL_law_1757 (v := 2) (by decide) ?_
  refine g_iadd C dL_law_1758 ?_
  refine Go.top (v := .int 2) (by decide) ?_
  refine g_sld C hX hbl hbA (vp_in_iff.mpr (by decide)) (v := xs 2) rfl dL_law_1759 ?_
  refine g_callVI C (c_X7_share l G F (xs 1) (xs 2)) lk_L_246 (F.mem 0 rfl) (F.at 0 rfl) rfl rfl dL_law_1760 (Nat.le_of_ble_eq_true rfl) ⟨by decide, by decide⟩ ⟨by decide, by decide⟩ (fun r1 L M hp => ?_)
  obtain ⟨r1_, F⟩ := hp
  subst r1_
  have F := F.right
  refine g_aload_n C dL_law_1763 rfl (j := 1) rfl ?_
  refine g_aload_n C dL_law_1764 rfl (j := 3) rfl ?_
  refine g_iload_n C dL_law_1765 rfl (j := 0) rfl ?_
  refine g_iconst C dL_law_1766 (v := 1) (by decide) ?_
  refine g_iadd C dL_law_1767 ?_
  refine Go.top (v := .int 1) (by decide) ?_
  refine g_sld C hX hbl hbA (vp_in_iff.mpr (by decide)) (v := xs 1) rfl dL_law_1768 ?_
  refine g_aload_n C dL_law_1769 rfl (j := 3) rfl ?_
  refine g_iload_n C dL_law_1770 rfl (j := 0) rfl ?_
  refine g_iconst C dL_law_1771 (v := 2) (by decide) ?_
  refine g_iadd C dL_law_1772 ?_
  refine Go.top (v := .int 2) (by decide) ?_
  refine g_sld C hX hbl hbA (vp_in_iff.mpr (by decide)) (v := xs 2) rfl dL_law_1773 ?_
  refine g_callVI C (c_X8_share l G F (xs 1) (xs 2)) lk_L_249 (F.mem 0 rfl) (F.at 0 rfl) rfl rfl dL_law_1774 (Nat.le_of_ble_eq_true rfl) ⟨by decide, by decide⟩ ⟨by decide, by decide⟩ (fun r2 L M hp => ?_)
  subst hp
  refine g_icmp_eq C dL_law_1777 (tgt := 2395) (by decide) (fun _ => ?_) (fun q => absurd (by decide) q)
  refine g_widen (k1 := 200) (k2 := 20000) (by decide) (by decide) ?_
  exact tail L M
set_option maxHeartbeats 4000000 in
set_option maxRecDepth 100000 in
theorem lc_58 {p : Program} {l : Launch} {e : Env} {s : State} {m : MethodId} {below : List Frame} {meth : Method} {c : Code} {G : va_G} {cy : Nat → ClassId} {A : Nat → Prop} {Q : State → Prop} {b : Nat} {xs : Nat → Int32} {a bm : Nat → Nat} {L : List Nat} {M : Nat → va_E} (C : Cx p s m #[Value.ref b] meth c RL cL_law 4 G cy A) (hX : va_X b 6 xs s s.heap) (hbl : b < s.heap.size) (hbA : ¬ A b) (F : FW L M (flC cy a ++ flM cy bm 0 (fun _ => 0))) (tail : ∀ (L : List Nat) (M : Nat → va_E), Go p l e room_1 s m #[Value.ref b] below meth c 4 G A 200 20000 Q L M 2395 [(3, .int 0), (2, .ref (bm 0)), (1, .ref (a 0)), (0, .ref b)] []) : Go p l e room_1 s m #[Value.ref b] below meth c 4 G A 68 5738 Q L M 1782 [(3, .int 0), (2, .ref (bm 0)), (1, .ref (a 0)), (0, .ref b)] [] := by
  refine g_aload_n C dL_law_1782 rfl (j := 2) rfl ?_
  refine g_aload_n C dL_law_1783 rfl (j := 3) rfl ?_
  refine g_iload_n C dL_law_1784 rfl (j := 0) rfl ?_
  refine g_iconst C dL_law_1785 (v := 1) (by decide) ?_
  refine g_iadd C dL_law_1786 ?_
  refine Go.top (v := .int 1) (by decide) ?_
  refine g_sld C hX hbl hbA (vp_in_iff.mpr (by decide)) (v := xs 1) rfl dL_law_1787 ?_
  refine g_aload_n C dL_law_1788 rfl (j := 3) rfl ?_
  refine g_iload_n C dL_law_1789 rfl (j := 0) rfl ?_
  refine g_iconst C dL_law_1790 (v := 2) (by decide) ?_
  refine g_iadd C dL_law_1791 ?_
  refine Go.top (v := .int 2) (by decide) ?_
  refine g_sld C hX hbl hbA (vp_in_iff.mpr (by decide)) (v := xs 2) rfl dL_law_1792 ?_
  refine g_callVI C (c_X7_rests l G F (xs 1) (xs 2)) lk_L_250 (F.mem 0 rfl) (F.at 0 rfl) rfl rfl dL_law_1793 (Nat.le_of_ble_eq_true rfl) ⟨by decide, by decide⟩ ⟨by decide, by decide⟩ (fun r1 L M hp => ?_)
  obtain ⟨r1_, F⟩ := hp
  subst r1_
  have F := F.right
  refine g_aload_n C dL_law_1796 rfl (j := 1) rfl ?_
  refine g_aload_n C dL_law_1797 rfl (j := 3) rfl ?_
  refine g_iload_n C dL_law_1798 rfl (j := 0) rfl ?_
  refine g_iconst C dL_law_1799 (v := 1) (by decide) ?_
  refine g_iadd C dL_law_1800 ?_
  refine Go.top (v := .int 1) (by decide) ?_
  refine g_sld C hX hbl hbA (vp_in_iff.mpr (by decide)) (v := xs 1) rfl dL_law_1801 ?_
  refine g_aload_n C dL_law_1802 rfl (j := 3) rfl ?_
  refine g_iload_n C dL_law_1803 rfl (j := 0) rfl ?_
  refine g_iconst C dL_law_1804 (v := 2) (by decide) ?_
  refine g_iadd C dL_law_1805 ?_
  refine Go.top (v := .int 2) (by decide) ?_
  refine g_sld C hX hbl hbA (vp_in_iff.mpr (by decide)) (v := xs 2) rfl dL_law_1806 ?_
  refine g_callVI C (c_X8_rests l G F (xs 1) (xs 2)) lk_L_253 (F.mem 0 rfl) (F.at 0 rfl) rfl rfl dL_law_1807 (Nat.le_of_ble_eq_true rfl) ⟨by decide, by decide⟩ ⟨by decide, by decide⟩ (fun r2 L M hp => ?_)
  subst hp
  refine g_icmp_eq C dL_law_1810 (tgt := 2395) (by decide) (fun _ => ?_) (fun q => absurd (by decide) q)
  refine g_widen (k1 := 200) (k2 := 20000) (by decide) (by decide) ?_
  exact tail L M
set_option maxHeartbeats 4000000 in
set_option maxRecDepth 100000 in
theorem lc_59 {p : Program} {l : Launch} {e : Env} {s : State} {m : MethodId} {below : List Frame} {meth : Method} {c : Code} {G : va_G} {cy : Nat → ClassId} {A : Nat → Prop} {Q : State → Prop} {b : Nat} {xs : Nat → Int32} {a bm : Nat → Nat} {L : List Nat} {M : Nat → va_E} (C : Cx p s m #[Value.ref b] meth c RL cL_law 4 G cy A) (hX : va_X b 6 xs s s.heap) (hbl : b < s.heap.size) (hbA : ¬ A b) (F : FW L M (flC cy a ++ flM cy bm 0 (fun _ => 0))) (tail : ∀ (L : List Nat) (M : Nat → va_E), Go p l e room_1 s m #[Value.ref b] below meth c 4 G A 200 20000 Q L M 2395 [(3, .int 0), (2, .ref (bm 0)), (1, .ref (a 0)), (0, .ref b)] []) : Go p l e room_1 s m #[Value.ref b] below meth c 4 G A 68 5738 Q L M 1815 [(3, .int 0), (2, .ref (bm 0)), (1, .ref (a 0)), (0, .ref b)] [] := by
  refine g_aload_n C dL_law_1815 rfl (j := 2) rfl ?_
  refine g_aload_n C dL_law_1816 rfl (j := 3) rfl ?_
  refine g_iload_n C dL_law_1817 rfl (j := 0) rfl ?_
  refine g_iconst C dL_law_1818 (v := 1) (by decide) ?_
  refine g_iadd C dL_law_1819 ?_
  refine Go.top (v := .int 1) (by decide) ?_
  refine g_sld C hX hbl hbA (vp_in_iff.mpr (by decide)) (v := xs 1) rfl dL_law_1820 ?_
  refine g_aload_n C dL_law_1821 rfl (j := 3) rfl ?_
  refine g_iload_n C dL_law_1822 rfl (j := 0) rfl ?_
  refine g_iconst C dL_law_1823 (v := 2) (by decide) ?_
  refine g_iadd C dL_law_1824 ?_
  refine Go.top (v := .int 2) (by decide) ?_
  refine g_sld C hX hbl hbA (vp_in_iff.mpr (by decide)) (v := xs 2) rfl dL_law_1825 ?_
  refine g_aload_n C dL_law_1826 rfl (j := 3) rfl ?_
  refine g_iload_n C dL_law_1827 rfl (j := 0) rfl ?_
  refine g_iconst C dL_law_1828 (v := 3) (by decide) ?_
  refine g_iadd C dL_law_1829 ?_
  refine Go.top (v := .int 3) (by decide) ?_
  refine g_sld C hX hbl hbA (vp_in_iff.mpr (by decide)) (v := xs 3) rfl dL_law_1830 ?_
  refine g_aload_n C dL_law_1831 rfl (j := 3) rfl ?_
  refine g_iload_n C dL_law_1832 rfl (j := 0) rfl ?_
  refine g_iconst C dL_law_1833 (v := 4) (by decide) ?_
  refine g_iadd C dL_law_1834 ?_
  refine Go.top (v := .int 4) (by decide) ?_
  refine g_sld C hX hbl hbA (vp_in_iff.mpr (by decide)) (v := xs 4) rfl dL_law_1835 ?_
  refine g_callVI C (c_X7_gets l G F (xs 1) (xs 2) (xs 3) (xs 4)) lk_L_254 (F.mem 0 rfl) (F.at 0 rfl) rfl rfl dL_law_1836 (Nat.le_of_ble_eq_true rfl) ⟨by decide, by decide⟩ ⟨by decide, by decide⟩ (fun r1 L M hp => ?_)
  obtain ⟨r1_, F⟩ := hp
  subst r1_
  have F := F.right
  refine g_aload_n C dL_law_1839 rfl (j := 1) rfl ?_
  refine g_aload_n C dL_law_1840 rfl (j := 3) rfl ?_
  refine g_iload_n C dL_law_1841 rfl (j := 0) rfl ?_
  refine g_iconst C dL_law_1842 (v := 1) (by decide) ?_
  refine g_iadd C dL_law_1843 ?_
  refine Go.top (v := .int 1) (by decide) ?_
  refine g_sld C hX hbl hbA (vp_in_iff.mpr (by decide)) (v := xs 1) rfl dL_law_1844 ?_
  refine g_aload_n C dL_law_1845 rfl (j := 3) rfl ?_
  refine g_iload_n C dL_law_1846 rfl (j := 0) rfl ?_
  refine g_iconst C dL_law_1847 (v := 2) (by decide) ?_
  refine g_iadd C dL_law_1848 ?_
  refine Go.top (v := .int 2) (by decide) ?_
  refine g_sld C hX hbl hbA (vp_in_iff.mpr (by decide)) (v := xs 2) rfl dL_law_1849 ?_
  refine g_aload_n C dL_law_1850 rfl (j := 3) rfl ?_
  refine g_iload_n C dL_law_1851 rfl (j := 0) rfl ?_
  refine g_iconst C dL_law_1852 (v := 3) (by decide) ?_
  refine g_iadd C dL_law_1853 ?_
  refine Go.top (v := .int 3) (by decide) ?_
  refine g_sld C hX hbl hbA (vp_in_iff.mpr (by decide)) (v := xs 3) rfl dL_law_1854 ?_
  refine g_aload_n C dL_law_1855 rfl (j := 3) rfl ?_
  refine g_iload_n C dL_law_1856 rfl (j := 0) rfl ?_
  refine g_iconst C dL_law_1857 (v := 4) (by decide) ?_
  refine g_iadd C dL_law_1858 ?_
  refine Go.top (v := .int 4) (by decide) ?_
  refine g_sld C hX hbl hbA (vp_in_iff.mpr (by decide)) (v := xs 4) rfl dL_law_1859 ?_
  refine g_callVI C (c_X8_gets l G F (xs 1) (xs 2) (xs 3) (xs 4)) lk_L_258 (F.mem 0 rfl) (F.at 0 rfl) rfl rfl dL_law_1860 (Nat.le_of_ble_eq_true rfl) ⟨by decide, by decide⟩ ⟨by decide, by decide⟩ (fun r2 L M hp => ?_)
  subst hp
  refine g_icmp_eq C dL_law_1863 (tgt := 2395) (by decide) (fun _ => ?_) (fun q => absurd (by decide) q)
  refine g_widen (k1 := 200) (k2 := 20000) (by decide) (by decide) ?_
  exact tail L M
set_option maxHeartbeats 4000000 in
set_option maxRecDepth 100000 in
theorem lc_60 {p : Program} {l : Launch} {e : Env} {s : State} {m : MethodId} {below : List Frame} {meth : Method} {c : Code} {G : va_G} {cy : Nat → ClassId} {A : Nat → Prop} {Q : State → Prop} {b : Nat} {xs : Nat → Int32} {a bm : Nat → Nat} {L : List Nat} {M : Nat → va_E} (C : Cx p s m #[Value.ref b] meth c RL cL_law 4 G cy A) (hX : va_X b 6 xs s s.heap) (hbl : b < s.heap.size) (hbA : ¬ A b) (F : FW L M (flC cy a ++ flM cy bm 0 (fun _ => 0))) (tail : ∀ (L : List Nat) (M : Nat → va_E), Go p l e room_1 s m #[Value.ref b] below meth c 4 G A 200 20000 Q L M 2395 [(3, .int 0), (2, .ref (bm 0)), (1, .ref (a 0)), (0, .ref b)] []) : Go p l e room_1 s m #[Value.ref b] below meth c 4 G A 68 5738 Q L M 1868 [(3, .int 0), (2, .ref (bm 0)), (1, .ref (a 0)), (0, .ref b)] [] := by
  refine g_aload_n C dL_law_1868 rfl (j := 2) rfl ?_
  refine g_aload_n C dL_law_1869 rfl (j := 3) rfl ?_
  refine g_iload_n C dL_law_1870 rfl (j := 0) rfl ?_
  refine g_iconst C dL_law_1871 (v := 1) (by decide) ?_
  refine g_iadd C dL_law_1872 ?_
  refine Go.top (v := .int 1) (by decide) ?_
  refine g_sld C hX hbl hbA (vp_in_iff.mpr (by decide)) (v := xs 1) rfl dL_law_1873 ?_
  refine g_aload_n C dL_law_1874 rfl (j := 3) rfl ?_
  refine g_iload_n C dL_law_1875 rfl (j := 0) rfl ?_
  refine g_iconst C dL_law_1876 (v := 2) (by decide) ?_
  refine g_iadd C dL_law_1877 ?_
  refine Go.top (v := .int 2) (by decide) ?_
  refine g_sld C hX hbl hbA (vp_in_iff.mpr (by decide)) (v := xs 2) rfl dL_law_1878 ?_
  refine g_aload_n C dL_law_1879 rfl (j := 3) rfl ?_
  refine g_iload_n C dL_law_1880 rfl (j := 0) rfl ?_
  refine g_iconst C dL_law_1881 (v := 3) (by decide) ?_
  refine g_iadd C dL_law_1882 ?_
  refine Go.top (v := .int 3) (by decide) ?_
  refine g_sld C hX hbl hbA (vp_in_iff.mpr (by decide)) (v := xs 3) rfl dL_law_1883 ?_
  refine g_callVJ C (c_X7_chance l G F (xs 1) (xs 2) (xs 3)) lk_L_259 (F.mem 0 rfl) (F.at 0 rfl) rfl rfl dL_law_1884 (Nat.le_of_ble_eq_true rfl) ⟨by decide, by decide⟩ ⟨by decide, by decide⟩ (fun r1 L M hp => ?_)
  obtain ⟨r1_, F⟩ := hp
  subst r1_
  have F := F.right
  refine g_aload_n C dL_law_1887 rfl (j := 1) rfl ?_
  refine g_aload_n C dL_law_1888 rfl (j := 3) rfl ?_
  refine g_iload_n C dL_law_1889 rfl (j := 0) rfl ?_
  refine g_iconst C dL_law_1890 (v := 1) (by decide) ?_
  refine g_iadd C dL_law_1891 ?_
  refine Go.top (v := .int 1) (by decide) ?_
  refine g_sld C hX hbl hbA (vp_in_iff.mpr (by decide)) (v := xs 1) rfl dL_law_1892 ?_
  refine g_aload_n C dL_law_1893 rfl (j := 3) rfl ?_
  refine g_iload_n C dL_law_1894 rfl (j := 0) rfl ?_
  refine g_iconst C dL_law_1895 (v := 2) (by decide) ?_
  refine g_iadd C dL_law_1896 ?_
  refine Go.top (v := .int 2) (by decide) ?_
  refine g_sld C hX hbl hbA (vp_in_iff.mpr (by decide)) (v := xs 2) rfl dL_law_1897 ?_
  refine g_aload_n C dL_law_1898 rfl (j := 3) rfl ?_
  refine g_iload_n C dL_law_1899 rfl (j := 0) rfl ?_
  refine g_iconst C dL_law_1900 (v := 3) (by decide) ?_
  refine g_iadd C dL_law_1901 ?_
  refine Go.top (v := .int 3) (by decide) ?_
  refine g_sld C hX hbl hbA (vp_in_iff.mpr (by decide)) (v := xs 3) rfl dL_law_1902 ?_
  refine g_callVJ C (c_X8_chance l G F (xs 1) (xs 2) (xs 3)) lk_L_263 (F.mem 0 rfl) (F.at 0 rfl) rfl rfl dL_law_1903 (Nat.le_of_ble_eq_true rfl) ⟨by decide, by decide⟩ ⟨by decide, by decide⟩ (fun r2 L M hp => ?_)
  subst hp
  refine g_lcmp C dL_law_1906 ?_
  refine Go.top (v := .int (0)) (by decide) ?_
  refine g_if_eq C dL_law_1907 (tgt := 2395) (by decide) (fun _ => ?_) (fun q => absurd (by decide) q)
  refine g_widen (k1 := 200) (k2 := 20000) (by decide) (by decide) ?_
  exact tail L M
set_option maxHeartbeats 4000000 in
set_option maxRecDepth 100000 in
theorem lc_61 {p : Program} {l : Launch} {e : Env} {s : State} {m : MethodId} {below : List Frame} {meth : Method} {c : Code} {G : va_G} {cy : Nat → ClassId} {A : Nat → Prop} {Q : State → Prop} {b : Nat} {xs : Nat → Int32} {a bm : Nat → Nat} {L : List Nat} {M : Nat → va_E} (C : Cx p s m #[Value.ref b] meth c RL cL_law 4 G cy A) (hX : va_X b 6 xs s s.heap) (hbl : b < s.heap.size) (hbA : ¬ A b) (F : FW L M (flC cy a ++ flM cy bm 0 (fun _ => 0))) (tail : ∀ (L : List Nat) (M : Nat → va_E), Go p l e room_1 s m #[Value.ref b] below meth c 4 G A 200 20000 Q L M 2395 [(3, .int 0), (2, .ref (bm 0)), (1, .ref (a 0)), (0, .ref b)] []) : Go p l e room_1 s m #[Value.ref b] below meth c 4 G A 68 5738 Q L M 1912 [(3, .int 0), (2, .ref (bm 0)), (1, .ref (a 0)), (0, .ref b)] [] := by
  refine g_aload_n C dL_law_1912 rfl (j := 2) rfl ?_
  refine g_aload_n C dL_law_1913 rfl (j := 3) rfl ?_
  refine g_iload_n C dL_law_1914 rfl (j := 0) rfl ?_
  refine g_iconst C dL_law_1915 (v := 1) (by decide) ?_
  refine g_iadd C dL_law_1916 ?_
  refine Go.top (v := .int 1) (by decide) ?_
  refine g_sld C hX hbl hbA (vp_in_iff.mpr (by decide)) (v := xs 1) rfl dL_law_1917 ?_
  refine g_aload_n C dL_law_1918 rfl (j := 3) rfl ?_
  refine g_iload_n C dL_law_1919 rfl (j := 0) rfl ?_
  refine g_iconst C dL_law_1920 (v := 2) (by decide) ?_
  refine g_iadd C dL_law_1921 ?_
  refine Go.top (v := .int 2) (by decide) ?_
  refine g_sld C hX hbl hbA (vp_in_iff.mpr (by decide)) (v := xs 2) rfl dL_law_1922 ?_
  refine g_callVJ C (c_X7_mean l G F (xs 1) (xs 2)) lk_L_264 (F.mem 0 rfl) (F.at 0 rfl) rfl rfl dL_law_1923 (Nat.le_of_ble_eq_true rfl) ⟨by decide, by decide⟩ ⟨by decide, by decide⟩ (fun r1 L M hp => ?_)
  obtain ⟨r1_, F⟩ := hp
  subst r1_
  have F := F.right
  refine g_aload_n C dL_law_1926 rfl (j := 1) rfl ?_
  refine g_aload_n C dL_law_1927 rfl (j := 3) rfl ?_
  refine g_iload_n C dL_law_1928 rfl (j := 0) rfl ?_
  refine g_iconst C dL_law_1929 (v := 1) (by decide) ?_
  refine g_iadd C dL_law_1930 ?_
  refine Go.top (v := .int 1) (by decide) ?_
  refine g_sld C hX hbl hbA (vp_in_iff.mpr (by decide)) (v := xs 1) rfl dL_law_1931 ?_
  refine g_aload_n C dL_law_1932 rfl (j := 3) rfl ?_
  refine g_iload_n C dL_law_1933 rfl (j := 0) rfl ?_
  refine g_iconst C dL_law_1934 (v := 2) (by decide) ?_
  refine g_iadd C dL_law_1935 ?_
  refine Go.top (v := .int 2) (by decide) ?_
  refine g_sld C hX hbl hbA (vp_in_iff.mpr (by decide)) (v := xs 2) rfl dL_law_1936 ?_
  refine g_callVJ C (c_X8_mean l G F (xs 1) (xs 2)) lk_L_268 (F.mem 0 rfl) (F.at 0 rfl) rfl rfl dL_law_1937 (Nat.le_of_ble_eq_true rfl) ⟨by decide, by decide⟩ ⟨by decide, by decide⟩ (fun r2 L M hp => ?_)
  subst hp
  refine g_lcmp C dL_law_1940 ?_
  refine Go.top (v := .int (0)) (by decide) ?_
  refine g_if_eq C dL_law_1941 (tgt := 2395) (by decide) (fun _ => ?_) (fun q => absurd (by decide) q)
  refine g_widen (k1 := 200) (k2 := 20000) (by decide) (by decide) ?_
  exact tail L M
set_option maxHeartbeats 4000000 in
set_option maxRecDepth 100000 in
theorem lc_62 {p : Program} {l : Launch} {e : Env} {s : State} {m : MethodId} {below : List Frame} {meth : Method} {c : Code} {G : va_G} {cy : Nat → ClassId} {A : Nat → Prop} {Q : State → Prop} {b : Nat} {xs : Nat → Int32} {a bm : Nat → Nat} {L : List Nat} {M : Nat → va_E} (C : Cx p s m #[Value.ref b] meth c RL cL_law 4 G cy A) (hX : va_X b 6 xs s s.heap) (hbl : b < s.heap.size) (hbA : ¬ A b) (F : FW L M (flC cy a ++ flM cy bm 0 (fun _ => 0))) (tail : ∀ (L : List Nat) (M : Nat → va_E), Go p l e room_1 s m #[Value.ref b] below meth c 4 G A 200 20000 Q L M 2395 [(3, .int 0), (2, .ref (bm 0)), (1, .ref (a 0)), (0, .ref b)] []) : Go p l e room_1 s m #[Value.ref b] below meth c 4 G A 68 5738 Q L M 1946 [(3, .int 0), (2, .ref (bm 0)), (1, .ref (a 0)), (0, .ref b)] [] := by
  refine g_aload_n C dL_law_1946 rfl (j := 2) rfl ?_
  refine g_aload_n C dL_law_1947 rfl (j := 3) rfl ?_
  refine g_iload_n C dL_law_1948 rfl (j := 0) rfl ?_
  refine g_iconst C dL_law_1949 (v := 1) (by decide) ?_
  refine g_iadd C dL_law_1950 ?_
  refine Go.top (v := .int 1) (by decide) ?_
  refine g_sld C hX hbl hbA (vp_in_iff.mpr (by decide)) (v := xs 1) rfl dL_law_1951 ?_
  refine g_aload_n C dL_law_1952 rfl (j := 3) rfl ?_
  refine g_iload_n C dL_law_1953 rfl (j := 0) rfl ?_
  refine g_iconst C dL_law_1954 (v := 2) (by decide) ?_
  refine g_iadd C dL_law_1955 ?_
  refine Go.top (v := .int 2) (by decide) ?_
  refine g_sld C hX hbl hbA (vp_in_iff.mpr (by decide)) (v := xs 2) rfl dL_law_1956 ?_
  refine g_callVI C (c_X7_twists l G F (xs 1) (xs 2)) lk_L_269 (F.mem 0 rfl) (F.at 0 rfl) rfl rfl dL_law_1957 (Nat.le_of_ble_eq_true rfl) ⟨by decide, by decide⟩ ⟨by decide, by decide⟩ (fun r1 L M hp => ?_)
  obtain ⟨r1_, F⟩ := hp
  subst r1_
  have F := F.right
  refine g_aload_n C dL_law_1960 rfl (j := 1) rfl ?_
  refine g_aload_n C dL_law_1961 rfl (j := 3) rfl ?_
  refine g_iload_n C dL_law_1962 rfl (j := 0) rfl ?_
  refine g_iconst C dL_law_1963 (v := 1) (by decide) ?_
  refine g_iadd C dL_law_1964 ?_
  refine Go.top (v := .int 1) (by decide) ?_
  refine g_sld C hX hbl hbA (vp_in_iff.mpr (by decide)) (v := xs 1) rfl dL_law_1965 ?_
  refine g_aload_n C dL_law_1966 rfl (j := 3) rfl ?_
  refine g_iload_n C dL_law_1967 rfl (j := 0) rfl ?_
  refine g_iconst C dL_law_1968 (v := 2) (by decide) ?_
  refine g_iadd C dL_law_1969 ?_
  refine Go.top (v := .int 2) (by decide) ?_
  refine g_sld C hX hbl hbA (vp_in_iff.mpr (by decide)) (v := xs 2) rfl dL_law_1970 ?_
  refine g_callVI C (c_X8_twists l G F (xs 1) (xs 2)) lk_L_272 (F.mem 0 rfl) (F.at 0 rfl) rfl rfl dL_law_1971 (Nat.le_of_ble_eq_true rfl) ⟨by decide, by decide⟩ ⟨by decide, by decide⟩ (fun r2 L M hp => ?_)
  subst hp
  refine g_icmp_eq C dL_law_1974 (tgt := 2395) (by decide) (fun _ => ?_) (fun q => absurd (by decide) q)
  refine g_widen (k1 := 200) (k2 := 20000) (by decide) (by decide) ?_
  exact tail L M
set_option maxHeartbeats 4000000 in
set_option maxRecDepth 100000 in
theorem lc_63 {p : Program} {l : Launch} {e : Env} {s : State} {m : MethodId} {below : List Frame} {meth : Method} {c : Code} {G : va_G} {cy : Nat → ClassId} {A : Nat → Prop} {Q : State → Prop} {b : Nat} {xs : Nat → Int32} {a bm : Nat → Nat} {L : List Nat} {M : Nat → va_E} (C : Cx p s m #[Value.ref b] meth c RL cL_law 4 G cy A) (hX : va_X b 6 xs s s.heap) (hbl : b < s.heap.size) (hbA : ¬ A b) (F : FW L M (flC cy a ++ flM cy bm 0 (fun _ => 0))) (tail : ∀ (L : List Nat) (M : Nat → va_E), Go p l e room_1 s m #[Value.ref b] below meth c 4 G A 200 20000 Q L M 2395 [(3, .int 0), (2, .ref (bm 0)), (1, .ref (a 0)), (0, .ref b)] []) : Go p l e room_1 s m #[Value.ref b] below meth c 4 G A 68 5738 Q L M 1979 [(3, .int 0), (2, .ref (bm 0)), (1, .ref (a 0)), (0, .ref b)] [] := by
  refine g_aload_n C dL_law_1979 rfl (j := 2) rfl ?_
  refine g_aload_n C dL_law_1980 rfl (j := 3) rfl ?_
  refine g_iload_n C dL_law_1981 rfl (j := 0) rfl ?_
  refine g_iconst C dL_law_1982 (v := 1) (by decide) ?_
  refine g_iadd C dL_law_1983 ?_
  refine Go.top (v := .int 1) (by decide) ?_
  refine g_sld C hX hbl hbA (vp_in_iff.mpr (by decide)) (v := xs 1) rfl dL_law_1984 ?_
  refine g_aload_n C dL_law_1985 rfl (j := 3) rfl ?_
  refine g_iload_n C dL_law_1986 rfl (j := 0) rfl ?_
  refine g_iconst C dL_law_1987 (v := 2) (by decide) ?_
  refine g_iadd C dL_law_1988 ?_
  refine Go.top (v := .int 2) (by decide) ?_
  refine g_sld C hX hbl hbA (vp_in_iff.mpr (by decide)) (v := xs 2) rfl dL_law_1989 ?_
  refine g_callVI C (c_X7_holds l G F (xs 1) (xs 2)) lk_L_273 (F.mem 0 rfl) (F.at 0 rfl) rfl rfl dL_law_1990 (Nat.le_of_ble_eq_true rfl) ⟨by decide, by decide⟩ ⟨by decide, by decide⟩ (fun r1 L M hp => ?_)
  obtain ⟨r1_, F⟩ := hp
  subst r1_
  have F := F.right
  refine g_aload_n C dL_law_1993 rfl (j := 1) rfl ?_
  refine g_aload_n C dL_law_1994 rfl (j := 3) rfl ?_
  refine g_iload_n C dL_law_1995 rfl (j := 0) rfl ?_
  refine g_iconst C dL_law_1996 (v := 1) (by decide) ?_
  refine g_iadd C dL_law_1997 ?_
  refine Go.top (v := .int 1) (by decide) ?_
  refine g_sld C hX hbl hbA (vp_in_iff.mpr (by decide)) (v := xs 1) rfl dL_law_1998 ?_
  refine g_aload_n C dL_law_1999 rfl (j := 3) rfl ?_
  refine g_iload_n C dL_law_2000 rfl (j := 0) rfl ?_
  refine g_iconst C dL_law_2001 (v := 2) (by decide) ?_
  refine g_iadd C dL_law_2002 ?_
  refine Go.top (v := .int 2) (by decide) ?_
  refine g_sld C hX hbl hbA (vp_in_iff.mpr (by decide)) (v := xs 2) rfl dL_law_2003 ?_
  refine g_callVI C (c_X8_holds l G F (xs 1) (xs 2)) lk_L_276 (F.mem 0 rfl) (F.at 0 rfl) rfl rfl dL_law_2004 (Nat.le_of_ble_eq_true rfl) ⟨by decide, by decide⟩ ⟨by decide, by decide⟩ (fun r2 L M hp => ?_)
  subst hp
  refine g_icmp_eq C dL_law_2007 (tgt := 2395) (by decide) (fun _ => ?_) (fun q => absurd (by decide) q)
  refine g_widen (k1 := 200) (k2 := 20000) (by decide) (by decide) ?_
  exact tail L M
set_option maxHeartbeats 4000000 in
set_option maxRecDepth 100000 in
theorem lc_64 {p : Program} {l : Launch} {e : Env} {s : State} {m : MethodId} {below : List Frame} {meth : Method} {c : Code} {G : va_G} {cy : Nat → ClassId} {A : Nat → Prop} {Q : State → Prop} {b : Nat} {xs : Nat → Int32} {a bm : Nat → Nat} {L : List Nat} {M : Nat → va_E} (C : Cx p s m #[Value.ref b] meth c RL cL_law 4 G cy A) (hX : va_X b 6 xs s s.heap) (hbl : b < s.heap.size) (hbA : ¬ A b) (F : FW L M (flC cy a ++ flM cy bm 0 (fun _ => 0))) (tail : ∀ (L : List Nat) (M : Nat → va_E), Go p l e room_1 s m #[Value.ref b] below meth c 4 G A 200 20000 Q L M 2395 [(3, .int 0), (2, .ref (bm 0)), (1, .ref (a 0)), (0, .ref b)] []) : Go p l e room_1 s m #[Value.ref b] below meth c 4 G A 68 5738 Q L M 2012 [(3, .int 0), (2, .ref (bm 0)), (1, .ref (a 0)), (0, .ref b)] [] := by
  refine g_aload_n C dL_law_2012 rfl (j := 2) rfl ?_
  refine g_callVI C (c_X7_undo l G F ) lk_L_277 (F.mem 0 rfl) (F.at 0 rfl) rfl rfl dL_law_2013 (Nat.le_of_ble_eq_true rfl) ⟨by decide, by decide⟩ ⟨by decide, by decide⟩ (fun r1 L M hp => ?_)
  obtain ⟨r1_, F⟩ := hp
  subst r1_
  have F := F.right
  refine g_aload_n C dL_law_2016 rfl (j := 1) rfl ?_
  refine g_callVI C (c_X8_undo l G F ) lk_L_280 (F.mem 0 rfl) (F.at 0 rfl) rfl rfl dL_law_2017 (Nat.le_of_ble_eq_true rfl) ⟨by decide, by decide⟩ ⟨by decide, by decide⟩ (fun r2 L M hp => ?_)
  subst hp
  refine g_icmp_eq C dL_law_2020 (tgt := 2395) (by decide) (fun _ => ?_) (fun q => absurd (by decide) q)
  refine g_widen (k1 := 200) (k2 := 20000) (by decide) (by decide) ?_
  exact tail L M
set_option maxHeartbeats 4000000 in
set_option maxRecDepth 100000 in
theorem lc_65 {p : Program} {l : Launch} {e : Env} {s : State} {m : MethodId} {below : List Frame} {meth : Method} {c : Code} {G : va_G} {cy : Nat → ClassId} {A : Nat → Prop} {Q : State → Prop} {b : Nat} {xs : Nat → Int32} {a bm : Nat → Nat} {L : List Nat} {M : Nat → va_E} (C : Cx p s m #[Value.ref b] meth c RL cL_law 4 G cy A) (hX : va_X b 6 xs s s.heap) (hbl : b < s.heap.size) (hbA : ¬ A b) (F : FW L M (flC cy a ++ flM cy bm 0 (fun _ => 0))) (tail : ∀ (L : List Nat) (M : Nat → va_E), Go p l e room_1 s m #[Value.ref b] below meth c 4 G A 200 20000 Q L M 2395 [(3, .int 0), (2, .ref (bm 0)), (1, .ref (a 0)), (0, .ref b)] []) : Go p l e room_1 s m #[Value.ref b] below meth c 4 G A 68 5738 Q L M 2025 [(3, .int 0), (2, .ref (bm 0)), (1, .ref (a 0)), (0, .ref b)] [] := by
  refine g_aload_n C dL_law_2025 rfl (j := 2) rfl ?_
  refine g_callVI C (c_X7_anew l G F ) lk_L_281 (F.mem 0 rfl) (F.at 0 rfl) rfl rfl dL_law_2026 (Nat.le_of_ble_eq_true rfl) ⟨by decide, by decide⟩ ⟨by decide, by decide⟩ (fun r1 L M hp => ?_)
  obtain ⟨r1_, F⟩ := hp
  subst r1_
  have F := F.right
  refine g_aload_n C dL_law_2029 rfl (j := 1) rfl ?_
  refine g_callVI C (c_X8_anew l G F ) lk_L_284 (F.mem 0 rfl) (F.at 0 rfl) rfl rfl dL_law_2030 (Nat.le_of_ble_eq_true rfl) ⟨by decide, by decide⟩ ⟨by decide, by decide⟩ (fun r2 L M hp => ?_)
  subst hp
  refine g_icmp_eq C dL_law_2033 (tgt := 2395) (by decide) (fun _ => ?_) (fun q => absurd (by decide) q)
  refine g_widen (k1 := 200) (k2 := 20000) (by decide) (by decide) ?_
  exact tail L M
set_option maxHeartbeats 4000000 in
set_option maxRecDepth 100000 in
theorem lc_66 {p : Program} {l : Launch} {e : Env} {s : State} {m : MethodId} {below : List Frame} {meth : Method} {c : Code} {G : va_G} {cy : Nat → ClassId} {A : Nat → Prop} {Q : State → Prop} {b : Nat} {xs : Nat → Int32} {a bm : Nat → Nat} {L : List Nat} {M : Nat → va_E} (C : Cx p s m #[Value.ref b] meth c RL cL_law 4 G cy A) (hX : va_X b 6 xs s s.heap) (hbl : b < s.heap.size) (hbA : ¬ A b) (F : FW L M (flC cy a ++ flM cy bm 0 (fun _ => 0))) (tail : ∀ (L : List Nat) (M : Nat → va_E), Go p l e room_1 s m #[Value.ref b] below meth c 4 G A 200 20000 Q L M 2395 [(3, .int 0), (2, .ref (bm 0)), (1, .ref (a 0)), (0, .ref b)] []) : Go p l e room_1 s m #[Value.ref b] below meth c 4 G A 68 5738 Q L M 2038 [(3, .int 0), (2, .ref (bm 0)), (1, .ref (a 0)), (0, .ref b)] [] := by
  refine g_aload_n C dL_law_2038 rfl (j := 2) rfl ?_
  refine g_aload_n C dL_law_2039 rfl (j := 3) rfl ?_
  refine g_iload_n C dL_law_2040 rfl (j := 0) rfl ?_
  refine g_iconst C dL_law_2041 (v := 1) (by decide) ?_
  refine g_iadd C dL_law_2042 ?_
  refine Go.top (v := .int 1) (by decide) ?_
  refine g_sld C hX hbl hbA (vp_in_iff.mpr (by decide)) (v := xs 1) rfl dL_law_2043 ?_
  refine g_aload_n C dL_law_2044 rfl (j := 3) rfl ?_
  refine g_iload_n C dL_law_2045 rfl (j := 0) rfl ?_
  refine g_iconst C dL_law_2046 (v := 2) (by decide) ?_
  refine g_iadd C dL_law_2047 ?_
  refine Go.top (v := .int 2) (by decide) ?_
  refine g_sld C hX hbl hbA (vp_in_iff.mpr (by decide)) (v := xs 2) rfl dL_law_2048 ?_
  refine g_callVI C (c_X7_drawn l G F (xs 1) (xs 2)) lk_L_285 (F.mem 0 rfl) (F.at 0 rfl) rfl rfl dL_law_2049 (Nat.le_of_ble_eq_true rfl) ⟨by decide, by decide⟩ ⟨by decide, by decide⟩ (fun r1 L M hp => ?_)
  obtain ⟨r1_, F⟩ := hp
  subst r1_
  have F := F.right
  refine g_aload_n C dL_law_2052 rfl (j := 1) rfl ?_
  refine g_aload_n C dL_law_2053 rfl (j := 3) rfl ?_
  refine g_iload_n C dL_law_2054 rfl (j := 0) rfl ?_
  refine g_iconst C dL_law_2055 (v := 1) (by decide) ?_
  refine g_iadd C dL_law_2056 ?_
  refine Go.top (v := .int 1) (by decide) ?_
  refine g_sld C hX hbl hbA (vp_in_iff.mpr (by decide)) (v := xs 1) rfl dL_law_2057 ?_
  refine g_aload_n C dL_law_2058 rfl (j := 3) rfl ?_
  refine g_iload_n C dL_law_2059 rfl (j := 0) rfl ?_
  refine g_iconst C dL_law_2060 (v := 2) (by decide) ?_
  refine g_iadd C dL_law_2061 ?_
  refine Go.top (v := .int 2) (by decide) ?_
  refine g_sld C hX hbl hbA (vp_in_iff.mpr (by decide)) (v := xs 2) rfl dL_law_2062 ?_
  refine g_callVI C (c_X8_drawn l G F (xs 1) (xs 2)) lk_L_288 (F.mem 0 rfl) (F.at 0 rfl) rfl rfl dL_law_2063 (Nat.le_of_ble_eq_true rfl) ⟨by decide, by decide⟩ ⟨by decide, by decide⟩ (fun r2 L M hp => ?_)
  subst hp
  refine g_icmp_eq C dL_law_2066 (tgt := 2395) (by decide) (fun _ => ?_) (fun q => absurd (by decide) q)
  refine g_widen (k1 := 200) (k2 := 20000) (by decide) (by decide) ?_
  exact tail L M
set_option maxHeartbeats 4000000 in
set_option maxRecDepth 100000 in
theorem lc_67 {p : Program} {l : Launch} {e : Env} {s : State} {m : MethodId} {below : List Frame} {meth : Method} {c : Code} {G : va_G} {cy : Nat → ClassId} {A : Nat → Prop} {Q : State → Prop} {b : Nat} {xs : Nat → Int32} {a bm : Nat → Nat} {L : List Nat} {M : Nat → va_E} (C : Cx p s m #[Value.ref b] meth c RL cL_law 4 G cy A) (hX : va_X b 6 xs s s.heap) (hbl : b < s.heap.size) (hbA : ¬ A b) (F : FW L M (flC cy a ++ flM cy bm 0 (fun _ => 0))) (tail : ∀ (L : List Nat) (M : Nat → va_E), Go p l e room_1 s m #[Value.ref b] below meth c 4 G A 200 20000 Q L M 2395 [(3, .int 0), (2, .ref (bm 0)), (1, .ref (a 0)), (0, .ref b)] []) : Go p l e room_1 s m #[Value.ref b] below meth c 4 G A 68 5738 Q L M 2071 [(3, .int 0), (2, .ref (bm 0)), (1, .ref (a 0)), (0, .ref b)] [] := by
  refine g_aload_n C dL_law_2071 rfl (j := 2) rfl ?_
  refine g_aload_n C dL_law_2072 rfl (j := 3) rfl ?_
  refine g_iload_n C dL_law_2073 rfl (j := 0) rfl ?_
  refine g_iconst C dL_law_2074 (v := 1) (by decide) ?_
  refine g_iadd C dL_law_2075 ?_
  refine Go.top (v := .int 1) (by decide) ?_
  refine g_sld C hX hbl hbA (vp_in_iff.mpr (by decide)) (v := xs 1) rfl dL_law_2076 ?_
  refine g_aload_n C dL_law_2077 rfl (j := 3) rfl ?_
  refine g_iload_n C dL_law_2078 rfl (j := 0) rfl ?_
  refine g_iconst C dL_law_2079 (v := 2) (by decide) ?_
  refine g_iadd C dL_law_2080 ?_
  refine Go.top (v := .int 2) (by decide) ?_
  refine g_sld C hX hbl hbA (vp_in_iff.mpr (by decide)) (v := xs 2) rfl dL_law_2081 ?_
  refine g_aload_n C dL_law_2082 rfl (j := 3) rfl ?_
  refine g_iload_n C dL_law_2083 rfl (j := 0) rfl ?_
  refine g_iconst C dL_law_2084 (v := 3) (by decide) ?_
  refine g_iadd C dL_law_2085 ?_
  refine Go.top (v := .int 3) (by decide) ?_
  refine g_sld C hX hbl hbA (vp_in_iff.mpr (by decide)) (v := xs 3) rfl dL_law_2086 ?_
  refine g_callVI C (c_X7_luck l G F (xs 1) (xs 2) (xs 3)) lk_L_289 (F.mem 0 rfl) (F.at 0 rfl) rfl rfl dL_law_2087 (Nat.le_of_ble_eq_true rfl) ⟨by decide, by decide⟩ ⟨by decide, by decide⟩ (fun r1 L M hp => ?_)
  obtain ⟨r1_, F⟩ := hp
  subst r1_
  have F := F.right
  refine g_aload_n C dL_law_2090 rfl (j := 1) rfl ?_
  refine g_aload_n C dL_law_2091 rfl (j := 3) rfl ?_
  refine g_iload_n C dL_law_2092 rfl (j := 0) rfl ?_
  refine g_iconst C dL_law_2093 (v := 1) (by decide) ?_
  refine g_iadd C dL_law_2094 ?_
  refine Go.top (v := .int 1) (by decide) ?_
  refine g_sld C hX hbl hbA (vp_in_iff.mpr (by decide)) (v := xs 1) rfl dL_law_2095 ?_
  refine g_aload_n C dL_law_2096 rfl (j := 3) rfl ?_
  refine g_iload_n C dL_law_2097 rfl (j := 0) rfl ?_
  refine g_iconst C dL_law_2098 (v := 2) (by decide) ?_
  refine g_iadd C dL_law_2099 ?_
  refine Go.top (v := .int 2) (by decide) ?_
  refine g_sld C hX hbl hbA (vp_in_iff.mpr (by decide)) (v := xs 2) rfl dL_law_2100 ?_
  refine g_aload_n C dL_law_2101 rfl (j := 3) rfl ?_
  refine g_iload_n C dL_law_2102 rfl (j := 0) rfl ?_
  refine g_iconst C dL_law_2103 (v := 3) (by decide) ?_
  refine g_iadd C dL_law_2104 ?_
  refine Go.top (v := .int 3) (by decide) ?_
  refine g_sld C hX hbl hbA (vp_in_iff.mpr (by decide)) (v := xs 3) rfl dL_law_2105 ?_
  refine g_callVI C (c_X8_luck l G F (xs 1) (xs 2) (xs 3)) lk_L_292 (F.mem 0 rfl) (F.at 0 rfl) rfl rfl dL_law_2106 (Nat.le_of_ble_eq_true rfl) ⟨by decide, by decide⟩ ⟨by decide, by decide⟩ (fun r2 L M hp => ?_)
  subst hp
  refine g_icmp_eq C dL_law_2109 (tgt := 2395) (by decide) (fun _ => ?_) (fun q => absurd (by decide) q)
  refine g_widen (k1 := 200) (k2 := 20000) (by decide) (by decide) ?_
  exact tail L M
set_option maxHeartbeats 4000000 in
set_option maxRecDepth 100000 in
theorem lc_68 {p : Program} {l : Launch} {e : Env} {s : State} {m : MethodId} {below : List Frame} {meth : Method} {c : Code} {G : va_G} {cy : Nat → ClassId} {A : Nat → Prop} {Q : State → Prop} {b : Nat} {xs : Nat → Int32} {a bm : Nat → Nat} {L : List Nat} {M : Nat → va_E} (C : Cx p s m #[Value.ref b] meth c RL cL_law 4 G cy A) (hX : va_X b 6 xs s s.heap) (hbl : b < s.heap.size) (hbA : ¬ A b) (F : FW L M (flC cy a ++ flM cy bm 0 (fun _ => 0))) (tail : ∀ (L : List Nat) (M : Nat → va_E), Go p l e room_1 s m #[Value.ref b] below meth c 4 G A 200 20000 Q L M 2395 [(3, .int 0), (2, .ref (bm 0)), (1, .ref (a 0)), (0, .ref b)] []) : Go p l e room_1 s m #[Value.ref b] below meth c 4 G A 68 5738 Q L M 2114 [(3, .int 0), (2, .ref (bm 0)), (1, .ref (a 0)), (0, .ref b)] [] := by
  refine g_aload_n C dL_law_2114 rfl (j := 2) rfl ?_
  refine g_aload_n C dL_law_2115 rfl (j := 3) rfl ?_
  refine g_iload_n C dL_law_2116 rfl (j := 0) rfl ?_
  refine g_iconst C dL_law_2117 (v := 1) (by decide) ?_
  refine g_iadd C dL_law_2118 ?_
  refine Go.top (v := .int 1) (by decide) ?_
  refine g_sld C hX hbl hbA (vp_in_iff.mpr (by decide)) (v := xs 1) rfl dL_law_2119 ?_
  refine g_aload_n C dL_law_2120 rfl (j := 3) rfl ?_
  refine g_iload_n C dL_law_2121 rfl (j := 0) rfl ?_
  refine g_iconst C dL_law_2122 (v := 2) (by decide) ?_
  refine g_iadd C dL_law_2123 ?_
  refine Go.top (v := .int 2) (by decide) ?_
  refine g_sld C hX hbl hbA (vp_in_iff.mpr (by decide)) (v := xs 2) rfl dL_law_2124 ?_
  refine g_callVI C (c_X7_rate l G F (xs 1) (xs 2)) lk_L_293 (F.mem 0 rfl) (F.at 0 rfl) rfl rfl dL_law_2125 (Nat.le_of_ble_eq_true rfl) ⟨by decide, by decide⟩ ⟨by decide, by decide⟩ (fun r1 L M hp => ?_)
  obtain ⟨r1_, F⟩ := hp
  subst r1_
  have F := F.right
  refine g_aload_n C dL_law_2128 rfl (j := 1) rfl ?_
  refine g_aload_n C dL_law_2129 rfl (j := 3) rfl ?_
  refine g_iload_n C dL_law_2130 rfl (j := 0) rfl ?_
  refine g_iconst C dL_law_2131 (v := 1) (by decide) ?_
  refine g_iadd C dL_law_2132 ?_
  refine Go.top (v := .int 1) (by decide) ?_
  refine g_sld C hX hbl hbA (vp_in_iff.mpr (by decide)) (v := xs 1) rfl dL_law_2133 ?_
  refine g_aload_n C dL_law_2134 rfl (j := 3) rfl ?_
  refine g_iload_n C dL_law_2135 rfl (j := 0) rfl ?_
  refine g_iconst C dL_law_2136 (v := 2) (by decide) ?_
  refine g_iadd C dL_law_2137 ?_
  refine Go.top (v := .int 2) (by decide) ?_
  refine g_sld C hX hbl hbA (vp_in_iff.mpr (by decide)) (v := xs 2) rfl dL_law_2138 ?_
  refine g_callVI C (c_X8_rate l G F (xs 1) (xs 2)) lk_L_296 (F.mem 0 rfl) (F.at 0 rfl) rfl rfl dL_law_2139 (Nat.le_of_ble_eq_true rfl) ⟨by decide, by decide⟩ ⟨by decide, by decide⟩ (fun r2 L M hp => ?_)
  subst hp
  refine g_icmp_eq C dL_law_2142 (tgt := 2395) (by decide) (fun _ => ?_) (fun q => absurd (by decide) q)
  refine g_widen (k1 := 200) (k2 := 20000) (by decide) (by decide) ?_
  exact tail L M
set_option maxHeartbeats 4000000 in
set_option maxRecDepth 100000 in
theorem lc_69 {p : Program} {l : Launch} {e : Env} {s : State} {m : MethodId} {below : List Frame} {meth : Method} {c : Code} {G : va_G} {cy : Nat → ClassId} {A : Nat → Prop} {Q : State → Prop} {b : Nat} {xs : Nat → Int32} {a bm : Nat → Nat} {L : List Nat} {M : Nat → va_E} (C : Cx p s m #[Value.ref b] meth c RL cL_law 4 G cy A) (hX : va_X b 6 xs s s.heap) (hbl : b < s.heap.size) (hbA : ¬ A b) (F : FW L M (flC cy a ++ flM cy bm 0 (fun _ => 0))) (tail : ∀ (L : List Nat) (M : Nat → va_E), Go p l e room_1 s m #[Value.ref b] below meth c 4 G A 200 20000 Q L M 2395 [(3, .int 0), (2, .ref (bm 0)), (1, .ref (a 0)), (0, .ref b)] []) : Go p l e room_1 s m #[Value.ref b] below meth c 4 G A 68 5738 Q L M 2147 [(3, .int 0), (2, .ref (bm 0)), (1, .ref (a 0)), (0, .ref b)] [] := by
  refine g_aload_n C dL_law_2147 rfl (j := 2) rfl ?_
  refine g_aload_n C dL_law_2148 rfl (j := 3) rfl ?_
  refine g_iload_n C dL_law_2149 rfl (j := 0) rfl ?_
  refine g_iconst C dL_law_2150 (v := 1) (by decide) ?_
  refine g_iadd C dL_law_2151 ?_
  refine Go.top (v := .int 1) (by decide) ?_
  refine g_sld C hX hbl hbA (vp_in_iff.mpr (by decide)) (v := xs 1) rfl dL_law_2152 ?_
  refine g_callVI C (c_X7_count l G F (xs 1)) lk_L_297 (F.mem 0 rfl) (F.at 0 rfl) rfl rfl dL_law_2153 (Nat.le_of_ble_eq_true rfl) ⟨by decide, by decide⟩ ⟨by decide, by decide⟩ (fun r1 L M hp => ?_)
  obtain ⟨r1_, F⟩ := hp
  subst r1_
  refine g_aload_n C dL_law_2156 rfl (j := 1) rfl ?_
  refine g_aload_n C dL_law_2157 rfl (j := 3) rfl ?_
  refine g_iload_n C dL_law_2158 rfl (j := 0) rfl ?_
  refine g_iconst C dL_law_2159 (v := 1) (by decide) ?_
  refine g_iadd C dL_law_2160 ?_
  refine Go.top (v := .int 1) (by decide) ?_
  refine g_sld C hX hbl hbA (vp_in_iff.mpr (by decide)) (v := xs 1) rfl dL_law_2161 ?_
  refine g_callVI C (c_X8_count l G F (xs 1)) lk_L_300 (F.mem 0 rfl) (F.at 0 rfl) rfl rfl dL_law_2162 (Nat.le_of_ble_eq_true rfl) ⟨by decide, by decide⟩ ⟨by decide, by decide⟩ (fun r2 L M hp => ?_)
  subst hp
  refine g_icmp_eq C dL_law_2165 (tgt := 2395) (by decide) (fun _ => ?_) (fun q => absurd rfl q)
  refine g_widen (k1 := 200) (k2 := 20000) (by decide) (by decide) ?_
  exact tail L M
set_option maxHeartbeats 4000000 in
set_option maxRecDepth 100000 in
theorem lc_70 {p : Program} {l : Launch} {e : Env} {s : State} {m : MethodId} {below : List Frame} {meth : Method} {c : Code} {G : va_G} {cy : Nat → ClassId} {A : Nat → Prop} {Q : State → Prop} {b : Nat} {xs : Nat → Int32} {a bm : Nat → Nat} {L : List Nat} {M : Nat → va_E} (C : Cx p s m #[Value.ref b] meth c RL cL_law 4 G cy A) (hX : va_X b 6 xs s s.heap) (hbl : b < s.heap.size) (hbA : ¬ A b) (F : FW L M (flC cy a ++ flM cy bm 0 (fun _ => 0))) (tail : ∀ (L : List Nat) (M : Nat → va_E), Go p l e room_1 s m #[Value.ref b] below meth c 4 G A 200 20000 Q L M 2395 [(3, .int 0), (2, .ref (bm 0)), (1, .ref (a 0)), (0, .ref b)] []) : Go p l e room_1 s m #[Value.ref b] below meth c 4 G A 68 5738 Q L M 2170 [(3, .int 0), (2, .ref (bm 0)), (1, .ref (a 0)), (0, .ref b)] [] := by
  refine g_aload_n C dL_law_2170 rfl (j := 2) rfl ?_
  refine g_aload_n C dL_law_2171 rfl (j := 3) rfl ?_
  refine g_iload_n C dL_law_2172 rfl (j := 0) rfl ?_
  refine g_iconst C dL_law_2173 (v := 1) (by decide) ?_
  refine g_iadd C dL_law_2174 ?_
  refine Go.top (v := .int 1) (by decide) ?_
  refine g_sld C hX hbl hbA (vp_in_iff.mpr (by decide)) (v := xs 1) rfl dL_law_2175 ?_
  refine g_callVI C (c_X7_image l G F (xs 1)) lk_L_301 (F.mem 0 rfl) (F.at 0 rfl) rfl rfl dL_law_2176 (Nat.le_of_ble_eq_true rfl) ⟨by decide, by decide⟩ ⟨by decide, by decide⟩ (fun r1 L M hp => ?_)
  obtain ⟨r1_, F⟩ := hp
  subst r1_
  refine g_widen (k1 := 78) (k2 := 6089) (by decide) (by decide) ?_
  refine g_aload_n C dL_law_2179 rfl (j := 1) rfl ?_
  refine g_aload_n C dL_law_2180 rfl (j := 3) rfl ?_
  refine g_iload_n C dL_law_2181 rfl (j := 0) rfl ?_
  refine g_iconst C dL_law_2182 (v := 1) (by decide) ?_
  refine g_iadd C dL_law_2183 ?_
  refine Go.top (v := .int 1) (by decide) ?_
  refine g_sld C hX hbl hbA (vp_in_iff.mpr (by decide)) (v := xs 1) rfl dL_law_2184 ?_
  refine g_callVI C (c_X8_image l G F (xs 1)) lk_L_304 (F.mem 0 rfl) (F.at 0 rfl) rfl rfl dL_law_2185 (Nat.le_of_ble_eq_true rfl) ⟨by decide, by decide⟩ ⟨by decide, by decide⟩ (fun r2 L M hp => ?_)
  subst hp
  refine g_icmp_eq C dL_law_2188 (tgt := 2395) (by decide) (fun _ => ?_) (fun q => absurd rfl q)
  refine g_widen (k1 := 200) (k2 := 20000) (by decide) (by decide) ?_
  exact tail L M
set_option maxHeartbeats 4000000 in
set_option maxRecDepth 100000 in
theorem lc_71 {p : Program} {l : Launch} {e : Env} {s : State} {m : MethodId} {below : List Frame} {meth : Method} {c : Code} {G : va_G} {cy : Nat → ClassId} {A : Nat → Prop} {Q : State → Prop} {b : Nat} {xs : Nat → Int32} {a bm : Nat → Nat} {L : List Nat} {M : Nat → va_E} (C : Cx p s m #[Value.ref b] meth c RL cL_law 4 G cy A) (hX : va_X b 6 xs s s.heap) (hbl : b < s.heap.size) (hbA : ¬ A b) (F : FW L M (flC cy a ++ flM cy bm 0 (fun _ => 0))) (tail : ∀ (L : List Nat) (M : Nat → va_E), Go p l e room_1 s m #[Value.ref b] below meth c 4 G A 200 20000 Q L M 2395 [(3, .int 0), (2, .ref (bm 0)), (1, .ref (a 0)), (0, .ref b)] []) : Go p l e room_1 s m #[Value.ref b] below meth c 4 G A 68 5738 Q L M 2193 [(3, .int 0), (2, .ref (bm 0)), (1, .ref (a 0)), (0, .ref b)] [] := by
  refine g_aload_n C dL_law_2193 rfl (j := 2) rfl ?_
  refine g_aload_n C dL_law_2194 rfl (j := 3) rfl ?_
  refine g_iload_n C dL_law_2195 rfl (j := 0) rfl ?_
  refine g_iconst C dL_law_2196 (v := 1) (by decide) ?_
  refine g_iadd C dL_law_2197 ?_
  refine Go.top (v := .int 1) (by decide) ?_
  refine g_sld C hX hbl hbA (vp_in_iff.mpr (by decide)) (v := xs 1) rfl dL_law_2198 ?_
  refine g_callVI C (c_X7_back l G F (xs 1)) lk_L_305 (F.mem 0 rfl) (F.at 0 rfl) rfl rfl dL_law_2199 (Nat.le_of_ble_eq_true rfl) ⟨by decide, by decide⟩ ⟨by decide, by decide⟩ (fun r1 L M hp => ?_)
  obtain ⟨r1_, F⟩ := hp
  subst r1_
  refine g_aload_n C dL_law_2202 rfl (j := 1) rfl ?_
  refine g_aload_n C dL_law_2203 rfl (j := 3) rfl ?_
  refine g_iload_n C dL_law_2204 rfl (j := 0) rfl ?_
  refine g_iconst C dL_law_2205 (v := 1) (by decide) ?_
  refine g_iadd C dL_law_2206 ?_
  refine Go.top (v := .int 1) (by decide) ?_
  refine g_sld C hX hbl hbA (vp_in_iff.mpr (by decide)) (v := xs 1) rfl dL_law_2207 ?_
  refine g_callVI C (c_X8_back l G F (xs 1)) lk_L_308 (F.mem 0 rfl) (F.at 0 rfl) rfl rfl dL_law_2208 (Nat.le_of_ble_eq_true rfl) ⟨by decide, by decide⟩ ⟨by decide, by decide⟩ (fun r2 L M hp => ?_)
  subst hp
  refine g_icmp_eq C dL_law_2211 (tgt := 2395) (by decide) (fun _ => ?_) (fun q => absurd rfl q)
  refine g_widen (k1 := 200) (k2 := 20000) (by decide) (by decide) ?_
  exact tail L M
set_option maxHeartbeats 4000000 in
set_option maxRecDepth 100000 in
theorem lc_72 {p : Program} {l : Launch} {e : Env} {s : State} {m : MethodId} {below : List Frame} {meth : Method} {c : Code} {G : va_G} {cy : Nat → ClassId} {A : Nat → Prop} {Q : State → Prop} {b : Nat} {xs : Nat → Int32} {a bm : Nat → Nat} {L : List Nat} {M : Nat → va_E} (C : Cx p s m #[Value.ref b] meth c RL cL_law 4 G cy A) (hX : va_X b 6 xs s s.heap) (hbl : b < s.heap.size) (hbA : ¬ A b) (F : FW L M (flC cy a ++ flM cy bm 0 (fun _ => 0))) (tail : ∀ (L : List Nat) (M : Nat → va_E), Go p l e room_1 s m #[Value.ref b] below meth c 4 G A 200 20000 Q L M 2395 [(3, .int 0), (2, .ref (bm 0)), (1, .ref (a 0)), (0, .ref b)] []) : Go p l e room_1 s m #[Value.ref b] below meth c 4 G A 68 5738 Q L M 2216 [(3, .int 0), (2, .ref (bm 0)), (1, .ref (a 0)), (0, .ref b)] [] := by
  refine g_aload_n C dL_law_2216 rfl (j := 2) rfl ?_
  refine g_aload_n C dL_law_2217 rfl (j := 3) rfl ?_
  refine g_iload_n C dL_law_2218 rfl (j := 0) rfl ?_
  refine g_iconst C dL_law_2219 (v := 1) (by decide) ?_
  refine g_iadd C dL_law_2220 ?_
  refine Go.top (v := .int 1) (by decide) ?_
  refine g_sld C hX hbl hbA (vp_in_iff.mpr (by decide)) (v := xs 1) rfl dL_law_2221 ?_
  refine g_aload_n C dL_law_2222 rfl (j := 3) rfl ?_
  refine g_iload_n C dL_law_2223 rfl (j := 0) rfl ?_
  refine g_iconst C dL_law_2224 (v := 2) (by decide) ?_
  refine g_iadd C dL_law_2225 ?_
  refine Go.top (v := .int 2) (by decide) ?_
  refine g_sld C hX hbl hbA (vp_in_iff.mpr (by decide)) (v := xs 2) rfl dL_law_2226 ?_
  refine g_aload_n C dL_law_2227 rfl (j := 3) rfl ?_
  refine g_iload_n C dL_law_2228 rfl (j := 0) rfl ?_
  refine g_iconst C dL_law_2229 (v := 3) (by decide) ?_
  refine g_iadd C dL_law_2230 ?_
  refine Go.top (v := .int 3) (by decide) ?_
  refine g_sld C hX hbl hbA (vp_in_iff.mpr (by decide)) (v := xs 3) rfl dL_law_2231 ?_
  refine g_callVI C (c_X7_row l G F (xs 1) (xs 2) (xs 3)) lk_L_309 (F.mem 0 rfl) (F.at 0 rfl) rfl rfl dL_law_2232 (Nat.le_of_ble_eq_true rfl) ⟨by decide, by decide⟩ ⟨by decide, by decide⟩ (fun r1 L M hp => ?_)
  obtain ⟨r1_, F⟩ := hp
  subst r1_
  refine g_widen (k1 := 70) (k2 := 5801) (by decide) (by decide) ?_
  refine g_aload_n C dL_law_2235 rfl (j := 1) rfl ?_
  refine g_aload_n C dL_law_2236 rfl (j := 3) rfl ?_
  refine g_iload_n C dL_law_2237 rfl (j := 0) rfl ?_
  refine g_iconst C dL_law_2238 (v := 1) (by decide) ?_
  refine g_iadd C dL_law_2239 ?_
  refine Go.top (v := .int 1) (by decide) ?_
  refine g_sld C hX hbl hbA (vp_in_iff.mpr (by decide)) (v := xs 1) rfl dL_law_2240 ?_
  refine g_aload_n C dL_law_2241 rfl (j := 3) rfl ?_
  refine g_iload_n C dL_law_2242 rfl (j := 0) rfl ?_
  refine g_iconst C dL_law_2243 (v := 2) (by decide) ?_
  refine g_iadd C dL_law_2244 ?_
  refine Go.top (v := .int 2) (by decide) ?_
  refine g_sld C hX hbl hbA (vp_in_iff.mpr (by decide)) (v := xs 2) rfl dL_law_2245 ?_
  refine g_aload_n C dL_law_2246 rfl (j := 3) rfl ?_
  refine g_iload_n C dL_law_2247 rfl (j := 0) rfl ?_
  refine g_iconst C dL_law_2248 (v := 3) (by decide) ?_
  refine g_iadd C dL_law_2249 ?_
  refine Go.top (v := .int 3) (by decide) ?_
  refine g_sld C hX hbl hbA (vp_in_iff.mpr (by decide)) (v := xs 3) rfl dL_law_2250 ?_
  refine g_callVI C (c_X8_row l G F (xs 1) (xs 2) (xs 3)) lk_L_312 (F.mem 0 rfl) (F.at 0 rfl) rfl rfl dL_law_2251 (Nat.le_of_ble_eq_true rfl) ⟨by decide, by decide⟩ ⟨by decide, by decide⟩ (fun r2 L M hp => ?_)
  subst hp
  refine g_icmp_eq C dL_law_2254 (tgt := 2395) (by decide) (fun _ => ?_) (fun q => absurd rfl q)
  refine g_widen (k1 := 200) (k2 := 20000) (by decide) (by decide) ?_
  exact tail L M
set_option maxHeartbeats 4000000 in
set_option maxRecDepth 100000 in
theorem lc_73 {p : Program} {l : Launch} {e : Env} {s : State} {m : MethodId} {below : List Frame} {meth : Method} {c : Code} {G : va_G} {cy : Nat → ClassId} {A : Nat → Prop} {Q : State → Prop} {b : Nat} {xs : Nat → Int32} {a bm : Nat → Nat} {L : List Nat} {M : Nat → va_E} (C : Cx p s m #[Value.ref b] meth c RL cL_law 4 G cy A) (hX : va_X b 6 xs s s.heap) (hbl : b < s.heap.size) (hbA : ¬ A b) (F : FW L M (flC cy a ++ flM cy bm 0 (fun _ => 0))) (tail : ∀ (L : List Nat) (M : Nat → va_E), Go p l e room_1 s m #[Value.ref b] below meth c 4 G A 200 20000 Q L M 2395 [(3, .int 0), (2, .ref (bm 0)), (1, .ref (a 0)), (0, .ref b)] []) : Go p l e room_1 s m #[Value.ref b] below meth c 4 G A 68 5738 Q L M 2259 [(3, .int 0), (2, .ref (bm 0)), (1, .ref (a 0)), (0, .ref b)] [] := by
  refine g_aload_n C dL_law_2259 rfl (j := 2) rfl ?_
  refine g_aload_n C dL_law_2260 rfl (j := 3) rfl ?_
  refine g_iload_n C dL_law_2261 rfl (j := 0) rfl ?_
  refine g_iconst C dL_law_2262 (v := 1) (by decide) ?_
  refine g_iadd C dL_law_2263 ?_
  refine Go.top (v := .int 1) (by decide) ?_
  refine g_sld C hX hbl hbA (vp_in_iff.mpr (by decide)) (v := xs 1) rfl dL_law_2264 ?_
  refine g_aload_n C dL_law_2265 rfl (j := 3) rfl ?_
  refine g_iload_n C dL_law_2266 rfl (j := 0) rfl ?_
  refine g_iconst C dL_law_2267 (v := 2) (by decide) ?_
  refine g_iadd C dL_law_2268 ?_
  refine Go.top (v := .int 2) (by decide) ?_
  refine g_sld C hX hbl hbA (vp_in_iff.mpr (by decide)) (v := xs 2) rfl dL_law_2269 ?_
  refine g_aload_n C dL_law_2270 rfl (j := 3) rfl ?_
  refine g_iload_n C dL_law_2271 rfl (j := 0) rfl ?_
  refine g_iconst C dL_law_2272 (v := 3) (by decide) ?_
  refine g_iadd C dL_law_2273 ?_
  refine Go.top (v := .int 3) (by decide) ?_
  refine g_sld C hX hbl hbA (vp_in_iff.mpr (by decide)) (v := xs 3) rfl dL_law_2274 ?_
  refine g_i2l C dL_law_2275 (v := (xs 3).toInt64) rfl ?_
  refine g_bipush C dL_law_2276 (v := 32) (by decide) ?_
  refine g_lshl C dL_law_2278 rfl ?_
  refine g_aload_n C dL_law_2279 rfl (j := 3) rfl ?_
  refine g_iload_n C dL_law_2280 rfl (j := 0) rfl ?_
  refine g_iconst C dL_law_2281 (v := 4) (by decide) ?_
  refine g_iadd C dL_law_2282 ?_
  refine Go.top (v := .int 4) (by decide) ?_
  refine g_sld C hX hbl hbA (vp_in_iff.mpr (by decide)) (v := xs 4) rfl dL_law_2283 ?_
  refine g_i2l C dL_law_2284 (v := (xs 4).toInt64) rfl ?_
  refine g_ldc2 C (v := 4294967295) wd963 dL_law_2285 ?_
  refine g_land C dL_law_2288 ?_
  refine g_lor C dL_law_2289 ?_
  refine g_callVI C (c_X7_write l G F (xs 1) (xs 2) _) lk_L_315 (F.mem 0 rfl) (F.at 0 rfl) rfl rfl dL_law_2290 (Nat.le_of_ble_eq_true rfl) ⟨by decide, by decide⟩ ⟨by decide, by decide⟩ (fun r1 L M hp => ?_)
  obtain ⟨r1_, F⟩ := hp
  subst r1_
  refine g_aload_n C dL_law_2293 rfl (j := 1) rfl ?_
  refine g_aload_n C dL_law_2294 rfl (j := 3) rfl ?_
  refine g_iload_n C dL_law_2295 rfl (j := 0) rfl ?_
  refine g_iconst C dL_law_2296 (v := 1) (by decide) ?_
  refine g_iadd C dL_law_2297 ?_
  refine Go.top (v := .int 1) (by decide) ?_
  refine g_sld C hX hbl hbA (vp_in_iff.mpr (by decide)) (v := xs 1) rfl dL_law_2298 ?_
  refine g_aload_n C dL_law_2299 rfl (j := 3) rfl ?_
  refine g_iload_n C dL_law_2300 rfl (j := 0) rfl ?_
  refine g_iconst C dL_law_2301 (v := 2) (by decide) ?_
  refine g_iadd C dL_law_2302 ?_
  refine Go.top (v := .int 2) (by decide) ?_
  refine g_sld C hX hbl hbA (vp_in_iff.mpr (by decide)) (v := xs 2) rfl dL_law_2303 ?_
  refine g_aload_n C dL_law_2304 rfl (j := 3) rfl ?_
  refine g_iload_n C dL_law_2305 rfl (j := 0) rfl ?_
  refine g_iconst C dL_law_2306 (v := 3) (by decide) ?_
  refine g_iadd C dL_law_2307 ?_
  refine Go.top (v := .int 3) (by decide) ?_
  refine g_sld C hX hbl hbA (vp_in_iff.mpr (by decide)) (v := xs 3) rfl dL_law_2308 ?_
  refine g_i2l C dL_law_2309 (v := (xs 3).toInt64) rfl ?_
  refine g_bipush C dL_law_2310 (v := 32) (by decide) ?_
  refine g_lshl C dL_law_2312 rfl ?_
  refine g_aload_n C dL_law_2313 rfl (j := 3) rfl ?_
  refine g_iload_n C dL_law_2314 rfl (j := 0) rfl ?_
  refine g_iconst C dL_law_2315 (v := 4) (by decide) ?_
  refine g_iadd C dL_law_2316 ?_
  refine Go.top (v := .int 4) (by decide) ?_
  refine g_sld C hX hbl hbA (vp_in_iff.mpr (by decide)) (v := xs 4) rfl dL_law_2317 ?_
  refine g_i2l C dL_law_2318 (v := (xs 4).toInt64) rfl ?_
  refine g_ldc2 C (v := 4294967295) wd963 dL_law_2319 ?_
  refine g_land C dL_law_2322 ?_
  refine g_lor C dL_law_2323 ?_
  refine g_callVI C (c_X8_write l G F (xs 1) (xs 2) _) lk_L_319 (F.mem 0 rfl) (F.at 0 rfl) rfl rfl dL_law_2324 (Nat.le_of_ble_eq_true rfl) ⟨by decide, by decide⟩ ⟨by decide, by decide⟩ (fun r2 L M hp => ?_)
  subst hp
  refine g_icmp_eq C dL_law_2327 (tgt := 2395) (by decide) (fun _ => ?_) (fun q => absurd rfl q)
  refine g_widen (k1 := 200) (k2 := 20000) (by decide) (by decide) ?_
  exact tail L M
set_option maxHeartbeats 4000000 in
set_option maxRecDepth 100000 in
theorem lc_74 {p : Program} {l : Launch} {e : Env} {s : State} {m : MethodId} {below : List Frame} {meth : Method} {c : Code} {G : va_G} {cy : Nat → ClassId} {A : Nat → Prop} {Q : State → Prop} {b : Nat} {xs : Nat → Int32} {a bm : Nat → Nat} {L : List Nat} {M : Nat → va_E} (C : Cx p s m #[Value.ref b] meth c RL cL_law 4 G cy A) (hX : va_X b 6 xs s s.heap) (hbl : b < s.heap.size) (hbA : ¬ A b) (F : FW L M (flC cy a ++ flM cy bm 0 (fun _ => 0))) (tail : ∀ (L : List Nat) (M : Nat → va_E), Go p l e room_1 s m #[Value.ref b] below meth c 4 G A 200 20000 Q L M 2395 [(3, .int 0), (2, .ref (bm 0)), (1, .ref (a 0)), (0, .ref b)] []) : Go p l e room_1 s m #[Value.ref b] below meth c 4 G A 68 5738 Q L M 2332 [(3, .int 0), (2, .ref (bm 0)), (1, .ref (a 0)), (0, .ref b)] [] := by
  refine g_aload_n C dL_law_2332 rfl (j := 2) rfl ?_
  refine g_aload_n C dL_law_2333 rfl (j := 3) rfl ?_
  refine g_iload_n C dL_law_2334 rfl (j := 0) rfl ?_
  refine g_iconst C dL_law_2335 (v := 1) (by decide) ?_
  refine g_iadd C dL_law_2336 ?_
  refine Go.top (v := .int 1) (by decide) ?_
  refine g_sld C hX hbl hbA (vp_in_iff.mpr (by decide)) (v := xs 1) rfl dL_law_2337 ?_
  refine g_aload_n C dL_law_2338 rfl (j := 3) rfl ?_
  refine g_iload_n C dL_law_2339 rfl (j := 0) rfl ?_
  refine g_iconst C dL_law_2340 (v := 2) (by decide) ?_
  refine g_iadd C dL_law_2341 ?_
  refine Go.top (v := .int 2) (by decide) ?_
  refine g_sld C hX hbl hbA (vp_in_iff.mpr (by decide)) (v := xs 2) rfl dL_law_2342 ?_
  refine g_aload_n C dL_law_2343 rfl (j := 3) rfl ?_
  refine g_iload_n C dL_law_2344 rfl (j := 0) rfl ?_
  refine g_iconst C dL_law_2345 (v := 3) (by decide) ?_
  refine g_iadd C dL_law_2346 ?_
  refine Go.top (v := .int 3) (by decide) ?_
  refine g_sld C hX hbl hbA (vp_in_iff.mpr (by decide)) (v := xs 3) rfl dL_law_2347 ?_
  refine g_aload_n C dL_law_2348 rfl (j := 3) rfl ?_
  refine g_iload_n C dL_law_2349 rfl (j := 0) rfl ?_
  refine g_iconst C dL_law_2350 (v := 4) (by decide) ?_
  refine g_iadd C dL_law_2351 ?_
  refine Go.top (v := .int 4) (by decide) ?_
  refine g_sld C hX hbl hbA (vp_in_iff.mpr (by decide)) (v := xs 4) rfl dL_law_2352 ?_
  refine g_aload_n C dL_law_2353 rfl (j := 3) rfl ?_
  refine g_iload_n C dL_law_2354 rfl (j := 0) rfl ?_
  refine g_iconst C dL_law_2355 (v := 5) (by decide) ?_
  refine g_iadd C dL_law_2356 ?_
  refine Go.top (v := .int 5) (by decide) ?_
  refine g_sld C hX hbl hbA (vp_in_iff.mpr (by decide)) (v := xs 5) rfl dL_law_2357 ?_
  refine g_callVI C (c_X7_paste l G F (xs 1) (xs 2) (xs 3) (xs 4) (xs 5)) lk_L_320 (F.mem 0 rfl) (F.at 0 rfl) rfl rfl dL_law_2358 (Nat.le_of_ble_eq_true rfl) ⟨by decide, by decide⟩ ⟨by decide, by decide⟩ (fun r1 L M hp => ?_)
  obtain ⟨r1_, F⟩ := hp
  subst r1_
  refine g_aload_n C dL_law_2361 rfl (j := 1) rfl ?_
  refine g_aload_n C dL_law_2362 rfl (j := 3) rfl ?_
  refine g_iload_n C dL_law_2363 rfl (j := 0) rfl ?_
  refine g_iconst C dL_law_2364 (v := 1) (by decide) ?_
  refine g_iadd C dL_law_2365 ?_
  refine Go.top (v := .int 1) (by decide) ?_
  refine g_sld C hX hbl hbA (vp_in_iff.mpr (by decide)) (v := xs 1) rfl dL_law_2366 ?_
  refine g_aload_n C dL_law_2367 rfl (j := 3) rfl ?_
  refine g_iload_n C dL_law_2368 rfl (j := 0) rfl ?_
  refine g_iconst C dL_law_2369 (v := 2) (by decide) ?_
  refine g_iadd C dL_law_2370 ?_
  refine Go.top (v := .int 2) (by decide) ?_
  refine g_sld C hX hbl hbA (vp_in_iff.mpr (by decide)) (v := xs 2) rfl dL_law_2371 ?_
  refine g_aload_n C dL_law_2372 rfl (j := 3) rfl ?_
  refine g_iload_n C dL_law_2373 rfl (j := 0) rfl ?_
  refine g_iconst C dL_law_2374 (v := 3) (by decide) ?_
  refine g_iadd C dL_law_2375 ?_
  refine Go.top (v := .int 3) (by decide) ?_
  refine g_sld C hX hbl hbA (vp_in_iff.mpr (by decide)) (v := xs 3) rfl dL_law_2376 ?_
  refine g_aload_n C dL_law_2377 rfl (j := 3) rfl ?_
  refine g_iload_n C dL_law_2378 rfl (j := 0) rfl ?_
  refine g_iconst C dL_law_2379 (v := 4) (by decide) ?_
  refine g_iadd C dL_law_2380 ?_
  refine Go.top (v := .int 4) (by decide) ?_
  refine g_sld C hX hbl hbA (vp_in_iff.mpr (by decide)) (v := xs 4) rfl dL_law_2381 ?_
  refine g_aload_n C dL_law_2382 rfl (j := 3) rfl ?_
  refine g_iload_n C dL_law_2383 rfl (j := 0) rfl ?_
  refine g_iconst C dL_law_2384 (v := 5) (by decide) ?_
  refine g_iadd C dL_law_2385 ?_
  refine Go.top (v := .int 5) (by decide) ?_
  refine g_sld C hX hbl hbA (vp_in_iff.mpr (by decide)) (v := xs 5) rfl dL_law_2386 ?_
  refine g_callVI C (c_X8_paste l G F (xs 1) (xs 2) (xs 3) (xs 4) (xs 5)) lk_L_323 (F.mem 0 rfl) (F.at 0 rfl) rfl rfl dL_law_2387 (Nat.le_of_ble_eq_true rfl) ⟨by decide, by decide⟩ ⟨by decide, by decide⟩ (fun r2 L M hp => ?_)
  subst hp
  refine g_icmp_eq C dL_law_2390 (tgt := 2395) (by decide) (fun _ => ?_) (fun q => absurd rfl q)
  refine g_widen (k1 := 200) (k2 := 20000) (by decide) (by decide) ?_
  exact tail L M
