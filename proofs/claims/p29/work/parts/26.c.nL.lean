theorem dL_holds_332 : decode cL_holds 332 = .ok (.iload 9, 2) := by decide +kernel
theorem dL_holds_334 : decode cL_holds 334 = .ok (.iconst 3, 1) := by decide +kernel
theorem dL_holds_335 : decode cL_holds 335 = .ok (.invokevirtual 19, 3) := by decide +kernel
theorem dL_holds_338 : decode cL_holds 338 = .ok (.istore 11, 2) := by decide +kernel
theorem dL_holds_340 : decode cL_holds 340 = .ok (.aload_n 0, 1) := by decide +kernel
theorem dL_holds_341 : decode cL_holds 341 = .ok (.iload 11, 2) := by decide +kernel
theorem dL_holds_343 : decode cL_holds 343 = .ok (.iconst 5, 1) := by decide +kernel
theorem dL_holds_344 : decode cL_holds 344 = .ok (.invokevirtual 40, 3) := by decide +kernel
theorem dL_holds_347 : decode cL_holds 347 = .ok (.istore 12, 2) := by decide +kernel
theorem dL_holds_349 : decode cL_holds 349 = .ok (.iconst 0, 1) := by decide +kernel
theorem dL_holds_350 : decode cL_holds 350 = .ok (.istore 13, 2) := by decide +kernel
theorem dL_holds_352 : decode cL_holds 352 = .ok (.iconst 0, 1) := by decide +kernel
theorem dL_holds_353 : decode cL_holds 353 = .ok (.istore 14, 2) := by decide +kernel
theorem dL_holds_355 : decode cL_holds 355 = .ok (.iconst 0, 1) := by decide +kernel
theorem dL_holds_356 : decode cL_holds 356 = .ok (.istore 15, 2) := by decide +kernel
theorem dL_holds_358 : decode cL_holds 358 = .ok (.iload 15, 2) := by decide +kernel
theorem dL_holds_360 : decode cL_holds 360 = .ok (.iload_n 2, 1) := by decide +kernel
theorem dL_holds_361 : decode cL_holds 361 = .ok (.if_icmp .ge 67, 3) := by decide +kernel
theorem dL_holds_364 : decode cL_holds 364 = .ok (.iload 13, 2) := by decide +kernel
theorem dL_holds_366 : decode cL_holds 366 = .ok (.aload_n 0, 1) := by decide +kernel
theorem dL_holds_367 : decode cL_holds 367 = .ok (.iload 15, 2) := by decide +kernel
theorem dL_holds_369 : decode cL_holds 369 = .ok (.iconst 3, 1) := by decide +kernel
theorem dL_holds_370 : decode cL_holds 370 = .ok (.invokevirtual 19, 3) := by decide +kernel
theorem dL_holds_373 : decode cL_holds 373 = .ok (.iload 11, 2) := by decide +kernel
theorem dL_holds_375 : decode cL_holds 375 = .ok (.if_icmp .ne 14, 3) := by decide +kernel
theorem dL_holds_378 : decode cL_holds 378 = .ok (.aload_n 0, 1) := by decide +kernel
theorem dL_holds_379 : decode cL_holds 379 = .ok (.iload 15, 2) := by decide +kernel
theorem dL_holds_381 : decode cL_holds 381 = .ok (.iload 9, 2) := by decide +kernel
theorem dL_holds_383 : decode cL_holds 383 = .ok (.invokestatic 43, 3) := by decide +kernel
theorem dL_holds_386 : decode cL_holds 386 = .ok (.goto 4, 3) := by decide +kernel
theorem dL_holds_389 : decode cL_holds 389 = .ok (.iconst 0, 1) := by decide +kernel
theorem dL_holds_390 : decode cL_holds 390 = .ok (.iadd, 1) := by decide +kernel
theorem dL_holds_391 : decode cL_holds 391 = .ok (.istore 13, 2) := by decide +kernel
theorem dL_holds_393 : decode cL_holds 393 = .ok (.iload 14, 2) := by decide +kernel
theorem dL_holds_395 : decode cL_holds 395 = .ok (.aload_n 0, 1) := by decide +kernel
theorem dL_holds_396 : decode cL_holds 396 = .ok (.iload 15, 2) := by decide +kernel
theorem dL_holds_398 : decode cL_holds 398 = .ok (.iconst 3, 1) := by decide +kernel
theorem dL_holds_399 : decode cL_holds 399 = .ok (.invokevirtual 19, 3) := by decide +kernel
theorem dL_holds_402 : decode cL_holds 402 = .ok (.iload 11, 2) := by decide +kernel
theorem dL_holds_404 : decode cL_holds 404 = .ok (.if_icmp .ne 14, 3) := by decide +kernel
theorem dL_holds_407 : decode cL_holds 407 = .ok (.aload_n 0, 1) := by decide +kernel
theorem dL_holds_408 : decode cL_holds 408 = .ok (.iload 15, 2) := by decide +kernel
theorem dL_holds_410 : decode cL_holds 410 = .ok (.iload 12, 2) := by decide +kernel
theorem dL_holds_412 : decode cL_holds 412 = .ok (.invokestatic 43, 3) := by decide +kernel
theorem dL_holds_415 : decode cL_holds 415 = .ok (.goto 4, 3) := by decide +kernel
theorem dL_holds_418 : decode cL_holds 418 = .ok (.iconst 0, 1) := by decide +kernel
theorem dL_holds_419 : decode cL_holds 419 = .ok (.iadd, 1) := by decide +kernel
theorem dL_holds_420 : decode cL_holds 420 = .ok (.istore 14, 2) := by decide +kernel
theorem dL_holds_422 : decode cL_holds 422 = .ok (.iinc 15 1, 3) := by decide +kernel
theorem dL_holds_425 : decode cL_holds 425 = .ok (.goto (-67), 3) := by decide +kernel
theorem dL_holds_428 : decode cL_holds 428 = .ok (.aload_n 0, 1) := by decide +kernel
theorem dL_holds_429 : decode cL_holds 429 = .ok (.iload 9, 2) := by decide +kernel
theorem dL_holds_431 : decode cL_holds 431 = .ok (.iload 10, 2) := by decide +kernel
theorem dL_holds_433 : decode cL_holds 433 = .ok (.invokestatic 43, 3) := by decide +kernel
theorem dL_holds_436 : decode cL_holds 436 = .ok (.aload_n 0, 1) := by decide +kernel
theorem dL_holds_437 : decode cL_holds 437 = .ok (.bipush 8, 2) := by decide +kernel
theorem dL_holds_439 : decode cL_holds 439 = .ok (.invokevirtual 13, 3) := by decide +kernel
theorem dL_holds_442 : decode cL_holds 442 = .ok (.if_icmp .gt 7, 3) := by decide +kernel
theorem dL_holds_445 : decode cL_holds 445 = .ok (.iconst 1, 1) := by decide +kernel
theorem dL_holds_446 : decode cL_holds 446 = .ok (.goto 4, 3) := by decide +kernel
theorem dL_holds_449 : decode cL_holds 449 = .ok (.iconst 0, 1) := by decide +kernel
theorem dL_holds_450 : decode cL_holds 450 = .ok (.istore 15, 2) := by decide +kernel
theorem dL_holds_452 : decode cL_holds 452 = .ok (.iload 15, 2) := by decide +kernel
theorem dL_holds_454 : decode cL_holds 454 = .ok (.ifCond .eq 15, 3) := by decide +kernel
theorem dL_holds_457 : decode cL_holds 457 = .ok (.aload_n 0, 1) := by decide +kernel
theorem dL_holds_458 : decode cL_holds 458 = .ok (.iload 10, 2) := by decide +kernel
theorem dL_holds_460 : decode cL_holds 460 = .ok (.iconst 3, 1) := by decide +kernel
theorem dL_holds_461 : decode cL_holds 461 = .ok (.invokevirtual 19, 3) := by decide +kernel
theorem dL_holds_464 : decode cL_holds 464 = .ok (.iload 11, 2) := by decide +kernel
theorem dL_holds_466 : decode cL_holds 466 = .ok (.if_icmp .ne 106, 3) := by decide +kernel
theorem dL_holds_469 : decode cL_holds 469 = .ok (.iload 9, 2) := by decide +kernel
theorem dL_holds_471 : decode cL_holds 471 = .ok (.iload 10, 2) := by decide +kernel
theorem dL_holds_473 : decode cL_holds 473 = .ok (.if_icmp .eq 18, 3) := by decide +kernel
theorem dL_holds_476 : decode cL_holds 476 = .ok (.iload 15, 2) := by decide +kernel
theorem dL_holds_478 : decode cL_holds 478 = .ok (.ifCond .eq 13, 3) := by decide +kernel
theorem dL_holds_481 : decode cL_holds 481 = .ok (.aload_n 0, 1) := by decide +kernel
theorem dL_holds_482 : decode cL_holds 482 = .ok (.iload 9, 2) := by decide +kernel
theorem dL_holds_484 : decode cL_holds 484 = .ok (.iconst 5, 1) := by decide +kernel
theorem dL_holds_485 : decode cL_holds 485 = .ok (.invokevirtual 19, 3) := by decide +kernel
theorem dL_holds_488 : decode cL_holds 488 = .ok (.ifCond .le 84, 3) := by decide +kernel
theorem dL_holds_491 : decode cL_holds 491 = .ok (.iload 14, 2) := by decide +kernel
theorem dL_holds_493 : decode cL_holds 493 = .ok (.iload 13, 2) := by decide +kernel
theorem dL_holds_495 : decode cL_holds 495 = .ok (.if_icmp .gt 77, 3) := by decide +kernel
theorem dL_holds_498 : decode cL_holds 498 = .ok (.aload_n 0, 1) := by decide +kernel
theorem dL_holds_499 : decode cL_holds 499 = .ok (.iload 10, 2) := by decide +kernel
theorem dL_holds_501 : decode cL_holds 501 = .ok (.iconst 3, 1) := by decide +kernel
theorem dL_holds_502 : decode cL_holds 502 = .ok (.invokevirtual 19, 3) := by decide +kernel
theorem dL_holds_505 : decode cL_holds 505 = .ok (.iload 11, 2) := by decide +kernel
theorem dL_holds_507 : decode cL_holds 507 = .ok (.if_icmp .ne 22, 3) := by decide +kernel
theorem dL_holds_510 : decode cL_holds 510 = .ok (.aload_n 0, 1) := by decide +kernel
theorem dL_holds_511 : decode cL_holds 511 = .ok (.iload 9, 2) := by decide +kernel
theorem dL_holds_513 : decode cL_holds 513 = .ok (.iload 10, 2) := by decide +kernel
theorem dL_holds_515 : decode cL_holds 515 = .ok (.invokestatic 43, 3) := by decide +kernel
theorem dL_holds_518 : decode cL_holds 518 = .ok (.aload_n 0, 1) := by decide +kernel
theorem dL_holds_519 : decode cL_holds 519 = .ok (.iload 11, 2) := by decide +kernel
theorem dL_holds_521 : decode cL_holds 521 = .ok (.bipush 6, 2) := by decide +kernel
theorem dL_holds_523 : decode cL_holds 523 = .ok (.invokevirtual 40, 3) := by decide +kernel
theorem dL_holds_526 : decode cL_holds 526 = .ok (.if_icmp .gt 46, 3) := by decide +kernel
theorem dL_holds_529 : decode cL_holds 529 = .ok (.aload_n 0, 1) := by decide +kernel
theorem dL_holds_530 : decode cL_holds 530 = .ok (.iload 9, 2) := by decide +kernel
theorem dL_holds_532 : decode cL_holds 532 = .ok (.iconst 4, 1) := by decide +kernel
theorem dL_holds_533 : decode cL_holds 533 = .ok (.invokevirtual 19, 3) := by decide +kernel
theorem dL_holds_536 : decode cL_holds 536 = .ok (.bipush (-5), 2) := by decide +kernel
theorem dL_holds_538 : decode cL_holds 538 = .ok (.if_icmp .eq 18, 3) := by decide +kernel
theorem dL_holds_541 : decode cL_holds 541 = .ok (.aload_n 0, 1) := by decide +kernel
theorem dL_holds_542 : decode cL_holds 542 = .ok (.aload_n 0, 1) := by decide +kernel
theorem dL_holds_543 : decode cL_holds 543 = .ok (.iload 9, 2) := by decide +kernel
theorem dL_holds_545 : decode cL_holds 545 = .ok (.iconst 4, 1) := by decide +kernel
theorem dL_holds_546 : decode cL_holds 546 = .ok (.invokevirtual 19, 3) := by decide +kernel
theorem dL_holds_549 : decode cL_holds 549 = .ok (.iconst 0, 1) := by decide +kernel
theorem dL_holds_550 : decode cL_holds 550 = .ok (.invokevirtual 26, 3) := by decide +kernel
theorem dL_holds_553 : decode cL_holds 553 = .ok (.ifCond .le 19, 3) := by decide +kernel
theorem dL_holds_556 : decode cL_holds 556 = .ok (.aload_n 0, 1) := by decide +kernel
theorem dL_holds_557 : decode cL_holds 557 = .ok (.iload 11, 2) := by decide +kernel
theorem dL_holds_559 : decode cL_holds 559 = .ok (.iconst 1, 1) := by decide +kernel
theorem dL_holds_560 : decode cL_holds 560 = .ok (.invokevirtual 40, 3) := by decide +kernel
theorem dL_holds_563 : decode cL_holds 563 = .ok (.iload 9, 2) := by decide +kernel
theorem dL_holds_565 : decode cL_holds 565 = .ok (.if_icmp .gt 7, 3) := by decide +kernel
theorem dL_holds_568 : decode cL_holds 568 = .ok (.iconst 1, 1) := by decide +kernel
theorem dL_holds_569 : decode cL_holds 569 = .ok (.goto 4, 3) := by decide +kernel
theorem dL_holds_572 : decode cL_holds 572 = .ok (.iconst 0, 1) := by decide +kernel
theorem dL_holds_573 : decode cL_holds 573 = .ok (.istore 8, 2) := by decide +kernel
theorem dL_holds_575 : decode cL_holds 575 = .ok (.iload 8, 2) := by decide +kernel
theorem dL_holds_577 : decode cL_holds 577 = .ok (.ifCond .eq 69, 3) := by decide +kernel
theorem dL_holds_580 : decode cL_holds 580 = .ok (.iload 5, 2) := by decide +kernel
theorem dL_holds_582 : decode cL_holds 582 = .ok (.aload_n 0, 1) := by decide +kernel
theorem dL_holds_583 : decode cL_holds 583 = .ok (.iconst 3, 1) := by decide +kernel
theorem dL_holds_584 : decode cL_holds 584 = .ok (.invokevirtual 13, 3) := by decide +kernel
theorem dL_holds_587 : decode cL_holds 587 = .ok (.if_icmp .ne 59, 3) := by decide +kernel
theorem dL_holds_590 : decode cL_holds 590 = .ok (.iload 7, 2) := by decide +kernel
theorem dL_holds_592 : decode cL_holds 592 = .ok (.aload_n 0, 1) := by decide +kernel
theorem dL_holds_593 : decode cL_holds 593 = .ok (.iconst 4, 1) := by decide +kernel
theorem dL_holds_594 : decode cL_holds 594 = .ok (.invokevirtual 13, 3) := by decide +kernel
theorem dL_holds_597 : decode cL_holds 597 = .ok (.if_icmp .ne 49, 3) := by decide +kernel
theorem dL_holds_600 : decode cL_holds 600 = .ok (.iload 6, 2) := by decide +kernel
theorem dL_holds_602 : decode cL_holds 602 = .ok (.aload_n 0, 1) := by decide +kernel
theorem dL_holds_603 : decode cL_holds 603 = .ok (.bipush 6, 2) := by decide +kernel
theorem dL_holds_605 : decode cL_holds 605 = .ok (.invokevirtual 13, 3) := by decide +kernel
theorem dL_holds_608 : decode cL_holds 608 = .ok (.if_icmp .ne 38, 3) := by decide +kernel
theorem dL_holds_611 : decode cL_holds 611 = .ok (.aload_n 0, 1) := by decide +kernel
theorem dL_holds_612 : decode cL_holds 612 = .ok (.iload_n 2, 1) := by decide +kernel
theorem dL_holds_613 : decode cL_holds 613 = .ok (.iconst 0, 1) := by decide +kernel
theorem dL_holds_614 : decode cL_holds 614 = .ok (.invokevirtual 19, 3) := by decide +kernel
theorem dL_holds_617 : decode cL_holds 617 = .ok (.iconst (-1), 1) := by decide +kernel
theorem dL_holds_618 : decode cL_holds 618 = .ok (.if_icmp .ne 28, 3) := by decide +kernel
theorem dL_holds_621 : decode cL_holds 621 = .ok (.aload_n 0, 1) := by decide +kernel
theorem dL_holds_622 : decode cL_holds 622 = .ok (.iload_n 3, 1) := by decide +kernel
theorem dL_holds_623 : decode cL_holds 623 = .ok (.iconst 0, 1) := by decide +kernel
theorem dL_holds_624 : decode cL_holds 624 = .ok (.invokevirtual 40, 3) := by decide +kernel
theorem dL_holds_627 : decode cL_holds 627 = .ok (.iconst (-1), 1) := by decide +kernel
theorem dL_holds_628 : decode cL_holds 628 = .ok (.if_icmp .ne 18, 3) := by decide +kernel
theorem dL_holds_631 : decode cL_holds 631 = .ok (.aload_n 0, 1) := by decide +kernel
theorem dL_holds_632 : decode cL_holds 632 = .ok (.iload 4, 2) := by decide +kernel
theorem dL_holds_634 : decode cL_holds 634 = .ok (.iconst 0, 1) := by decide +kernel
theorem dL_holds_635 : decode cL_holds 635 = .ok (.invokevirtual 26, 3) := by decide +kernel
theorem dL_holds_638 : decode cL_holds 638 = .ok (.iconst (-1), 1) := by decide +kernel
theorem dL_holds_639 : decode cL_holds 639 = .ok (.if_icmp .ne 7, 3) := by decide +kernel
theorem dL_holds_642 : decode cL_holds 642 = .ok (.iconst 1, 1) := by decide +kernel
theorem dL_holds_643 : decode cL_holds 643 = .ok (.goto 4, 3) := by decide +kernel
theorem dL_holds_646 : decode cL_holds 646 = .ok (.iconst 0, 1) := by decide +kernel
theorem dL_holds_647 : decode cL_holds 647 = .ok (.ireturn, 1) := by decide +kernel
theorem dL_would_0 : decode cL_would 0 = .ok (.iload_n 1, 1) := by decide +kernel
theorem dL_would_1 : decode cL_would 1 = .ok (.bipush 22, 2) := by decide +kernel
theorem dL_would_3 : decode cL_would 3 = .ok (.invokestatic 37, 3) := by decide +kernel
theorem dL_would_6 : decode cL_would 6 = .ok (.istore_n 2, 1) := by decide +kernel
theorem dL_would_7 : decode cL_would 7 = .ok (.aload_n 0, 1) := by decide +kernel
theorem dL_would_8 : decode cL_would 8 = .ok (.iload_n 2, 1) := by decide +kernel
theorem dL_would_9 : decode cL_would 9 = .ok (.invokevirtual 47, 3) := by decide +kernel
theorem dL_would_12 : decode cL_would 12 = .ok (.istore_n 3, 1) := by decide +kernel
theorem dL_would_13 : decode cL_would 13 = .ok (.iload_n 1, 1) := by decide +kernel
