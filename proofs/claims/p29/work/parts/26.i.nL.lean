theorem dL_themes_309 : decode cL_themes 309 = .ok (.iconst 1, 1) := by decide +kernel
theorem dL_themes_310 : decode cL_themes 310 = .ok (.iadd, 1) := by decide +kernel
theorem dL_themes_311 : decode cL_themes 311 = .ok (.invokestatic 37, 3) := by decide +kernel
theorem dL_themes_314 : decode cL_themes 314 = .ok (.istore 7, 2) := by decide +kernel
theorem dL_themes_316 : decode cL_themes 316 = .ok (.iload_n 2, 1) := by decide +kernel
theorem dL_themes_317 : decode cL_themes 317 = .ok (.bipush 12, 2) := by decide +kernel
theorem dL_themes_319 : decode cL_themes 319 = .ok (.ishr, 1) := by decide +kernel
theorem dL_themes_320 : decode cL_themes 320 = .ok (.iconst 4, 1) := by decide +kernel
theorem dL_themes_321 : decode cL_themes 321 = .ok (.invokestatic 37, 3) := by decide +kernel
theorem dL_themes_324 : decode cL_themes 324 = .ok (.ifCond .ne 8, 3) := by decide +kernel
theorem dL_themes_327 : decode cL_themes 327 = .ok (.bipush (-5), 2) := by decide +kernel
theorem dL_themes_329 : decode cL_themes 329 = .ok (.goto 5, 3) := by decide +kernel
theorem dL_themes_332 : decode cL_themes 332 = .ok (.iload 4, 2) := by decide +kernel
theorem dL_themes_334 : decode cL_themes 334 = .ok (.istore 8, 2) := by decide +kernel
theorem dL_themes_336 : decode cL_themes 336 = .ok (.iload 7, 2) := by decide +kernel
theorem dL_themes_338 : decode cL_themes 338 = .ok (.aload_n 0, 1) := by decide +kernel
theorem dL_themes_339 : decode cL_themes 339 = .ok (.iconst 0, 1) := by decide +kernel
theorem dL_themes_340 : decode cL_themes 340 = .ok (.invokevirtual 13, 3) := by decide +kernel
theorem dL_themes_343 : decode cL_themes 343 = .ok (.if_icmp .eq 9, 3) := by decide +kernel
theorem dL_themes_346 : decode cL_themes 346 = .ok (.iload 8, 2) := by decide +kernel
theorem dL_themes_348 : decode cL_themes 348 = .ok (.iload_n 3, 1) := by decide +kernel
theorem dL_themes_349 : decode cL_themes 349 = .ok (.if_icmp .ne 7, 3) := by decide +kernel
theorem dL_themes_352 : decode cL_themes 352 = .ok (.iconst 1, 1) := by decide +kernel
theorem dL_themes_353 : decode cL_themes 353 = .ok (.goto 4, 3) := by decide +kernel
theorem dL_themes_356 : decode cL_themes 356 = .ok (.iconst 0, 1) := by decide +kernel
theorem dL_themes_357 : decode cL_themes 357 = .ok (.istore 9, 2) := by decide +kernel
theorem dL_themes_359 : decode cL_themes 359 = .ok (.iload 9, 2) := by decide +kernel
theorem dL_themes_361 : decode cL_themes 361 = .ok (.ifCond .eq 7, 3) := by decide +kernel
theorem dL_themes_364 : decode cL_themes 364 = .ok (.iconst 0, 1) := by decide +kernel
theorem dL_themes_365 : decode cL_themes 365 = .ok (.goto 10, 3) := by decide +kernel
theorem dL_themes_368 : decode cL_themes 368 = .ok (.aload_n 0, 1) := by decide +kernel
theorem dL_themes_369 : decode cL_themes 369 = .ok (.iload 7, 2) := by decide +kernel
theorem dL_themes_371 : decode cL_themes 371 = .ok (.iconst 4, 1) := by decide +kernel
theorem dL_themes_372 : decode cL_themes 372 = .ok (.invokevirtual 19, 3) := by decide +kernel
theorem dL_themes_375 : decode cL_themes 375 = .ok (.istore 10, 2) := by decide +kernel
theorem dL_themes_377 : decode cL_themes 377 = .ok (.aload_n 0, 1) := by decide +kernel
theorem dL_themes_378 : decode cL_themes 378 = .ok (.iload 7, 2) := by decide +kernel
theorem dL_themes_380 : decode cL_themes 380 = .ok (.iload 8, 2) := by decide +kernel
theorem dL_themes_382 : decode cL_themes 382 = .ok (.invokevirtual 91, 3) := by decide +kernel
theorem dL_themes_385 : decode cL_themes 385 = .ok (.istore 11, 2) := by decide +kernel
theorem dL_themes_387 : decode cL_themes 387 = .ok (.iload 9, 2) := by decide +kernel
theorem dL_themes_389 : decode cL_themes 389 = .ok (.ifCond .eq 17, 3) := by decide +kernel
theorem dL_themes_392 : decode cL_themes 392 = .ok (.iload 11, 2) := by decide +kernel
theorem dL_themes_394 : decode cL_themes 394 = .ok (.iconst (-1), 1) := by decide +kernel
theorem dL_themes_395 : decode cL_themes 395 = .ok (.if_icmp .ne 7, 3) := by decide +kernel
theorem dL_themes_398 : decode cL_themes 398 = .ok (.iconst 1, 1) := by decide +kernel
theorem dL_themes_399 : decode cL_themes 399 = .ok (.goto 84, 3) := by decide +kernel
theorem dL_themes_402 : decode cL_themes 402 = .ok (.iconst 0, 1) := by decide +kernel
theorem dL_themes_403 : decode cL_themes 403 = .ok (.goto 80, 3) := by decide +kernel
theorem dL_themes_406 : decode cL_themes 406 = .ok (.iload 10, 2) := by decide +kernel
theorem dL_themes_408 : decode cL_themes 408 = .ok (.iload 8, 2) := by decide +kernel
theorem dL_themes_410 : decode cL_themes 410 = .ok (.if_icmp .ne 18, 3) := by decide +kernel
theorem dL_themes_413 : decode cL_themes 413 = .ok (.iload 11, 2) := by decide +kernel
theorem dL_themes_415 : decode cL_themes 415 = .ok (.bipush (-5), 2) := by decide +kernel
theorem dL_themes_417 : decode cL_themes 417 = .ok (.if_icmp .ne 7, 3) := by decide +kernel
theorem dL_themes_420 : decode cL_themes 420 = .ok (.iconst 1, 1) := by decide +kernel
theorem dL_themes_421 : decode cL_themes 421 = .ok (.goto 62, 3) := by decide +kernel
theorem dL_themes_424 : decode cL_themes 424 = .ok (.iconst 0, 1) := by decide +kernel
theorem dL_themes_425 : decode cL_themes 425 = .ok (.goto 58, 3) := by decide +kernel
theorem dL_themes_428 : decode cL_themes 428 = .ok (.iload 11, 2) := by decide +kernel
theorem dL_themes_430 : decode cL_themes 430 = .ok (.aload_n 0, 1) := by decide +kernel
theorem dL_themes_431 : decode cL_themes 431 = .ok (.iconst 2, 1) := by decide +kernel
theorem dL_themes_432 : decode cL_themes 432 = .ok (.invokevirtual 13, 3) := by decide +kernel
theorem dL_themes_435 : decode cL_themes 435 = .ok (.if_icmp .ne 47, 3) := by decide +kernel
theorem dL_themes_438 : decode cL_themes 438 = .ok (.iload 8, 2) := by decide +kernel
theorem dL_themes_440 : decode cL_themes 440 = .ok (.bipush (-5), 2) := by decide +kernel
theorem dL_themes_442 : decode cL_themes 442 = .ok (.if_icmp .ne 18, 3) := by decide +kernel
theorem dL_themes_445 : decode cL_themes 445 = .ok (.aload_n 0, 1) := by decide +kernel
theorem dL_themes_446 : decode cL_themes 446 = .ok (.iload 7, 2) := by decide +kernel
theorem dL_themes_448 : decode cL_themes 448 = .ok (.iconst 4, 1) := by decide +kernel
theorem dL_themes_449 : decode cL_themes 449 = .ok (.invokevirtual 19, 3) := by decide +kernel
theorem dL_themes_452 : decode cL_themes 452 = .ok (.bipush (-5), 2) := by decide +kernel
theorem dL_themes_454 : decode cL_themes 454 = .ok (.if_icmp .ne 28, 3) := by decide +kernel
theorem dL_themes_457 : decode cL_themes 457 = .ok (.goto 13, 3) := by decide +kernel
theorem dL_themes_460 : decode cL_themes 460 = .ok (.aload_n 0, 1) := by decide +kernel
theorem dL_themes_461 : decode cL_themes 461 = .ok (.iload 7, 2) := by decide +kernel
theorem dL_themes_463 : decode cL_themes 463 = .ok (.iconst 4, 1) := by decide +kernel
theorem dL_themes_464 : decode cL_themes 464 = .ok (.invokevirtual 19, 3) := by decide +kernel
theorem dL_themes_467 : decode cL_themes 467 = .ok (.ifCond .lt 15, 3) := by decide +kernel
theorem dL_themes_470 : decode cL_themes 470 = .ok (.iload 11, 2) := by decide +kernel
theorem dL_themes_472 : decode cL_themes 472 = .ok (.iload_n 3, 1) := by decide +kernel
theorem dL_themes_473 : decode cL_themes 473 = .ok (.iconst 1, 1) := by decide +kernel
theorem dL_themes_474 : decode cL_themes 474 = .ok (.isub, 1) := by decide +kernel
theorem dL_themes_475 : decode cL_themes 475 = .ok (.if_icmp .lt 7, 3) := by decide +kernel
theorem dL_themes_478 : decode cL_themes 478 = .ok (.iconst 1, 1) := by decide +kernel
theorem dL_themes_479 : decode cL_themes 479 = .ok (.goto 4, 3) := by decide +kernel
theorem dL_themes_482 : decode cL_themes 482 = .ok (.iconst 0, 1) := by decide +kernel
theorem dL_themes_483 : decode cL_themes 483 = .ok (.ireturn, 1) := by decide +kernel
theorem dL_themes_484 : decode cL_themes 484 = .ok (.iload_n 2, 1) := by decide +kernel
theorem dL_themes_485 : decode cL_themes 485 = .ok (.bipush 7, 2) := by decide +kernel
theorem dL_themes_487 : decode cL_themes 487 = .ok (.ishr, 1) := by decide +kernel
theorem dL_themes_488 : decode cL_themes 488 = .ok (.bipush 12, 2) := by decide +kernel
theorem dL_themes_490 : decode cL_themes 490 = .ok (.invokestatic 37, 3) := by decide +kernel
theorem dL_themes_493 : decode cL_themes 493 = .ok (.iconst 1, 1) := by decide +kernel
theorem dL_themes_494 : decode cL_themes 494 = .ok (.isub, 1) := by decide +kernel
theorem dL_themes_495 : decode cL_themes 495 = .ok (.istore 7, 2) := by decide +kernel
theorem dL_themes_497 : decode cL_themes 497 = .ok (.iload 7, 2) := by decide +kernel
theorem dL_themes_499 : decode cL_themes 499 = .ok (.ifCond .ge 8, 3) := by decide +kernel
theorem dL_themes_502 : decode cL_themes 502 = .ok (.bipush (-5), 2) := by decide +kernel
theorem dL_themes_504 : decode cL_themes 504 = .ok (.goto 5, 3) := by decide +kernel
theorem dL_themes_507 : decode cL_themes 507 = .ok (.iload 7, 2) := by decide +kernel
theorem dL_themes_509 : decode cL_themes 509 = .ok (.istore 8, 2) := by decide +kernel
theorem dL_themes_511 : decode cL_themes 511 = .ok (.iload 6, 2) := by decide +kernel
theorem dL_themes_513 : decode cL_themes 513 = .ok (.ifCond .ne 10, 3) := by decide +kernel
theorem dL_themes_516 : decode cL_themes 516 = .ok (.iload 5, 2) := by decide +kernel
theorem dL_themes_518 : decode cL_themes 518 = .ok (.bipush 6, 2) := by decide +kernel
theorem dL_themes_520 : decode cL_themes 520 = .ok (.if_icmp .ne 7, 3) := by decide +kernel
theorem dL_themes_523 : decode cL_themes 523 = .ok (.iconst 1, 1) := by decide +kernel
theorem dL_themes_524 : decode cL_themes 524 = .ok (.goto 4, 3) := by decide +kernel
theorem dL_themes_527 : decode cL_themes 527 = .ok (.iconst 0, 1) := by decide +kernel
theorem dL_themes_528 : decode cL_themes 528 = .ok (.istore 9, 2) := by decide +kernel
theorem dL_themes_530 : decode cL_themes 530 = .ok (.iload 9, 2) := by decide +kernel
theorem dL_themes_532 : decode cL_themes 532 = .ok (.ifCond .ne 15, 3) := by decide +kernel
theorem dL_themes_535 : decode cL_themes 535 = .ok (.iload 7, 2) := by decide +kernel
theorem dL_themes_537 : decode cL_themes 537 = .ok (.ifCond .lt 10, 3) := by decide +kernel
theorem dL_themes_540 : decode cL_themes 540 = .ok (.iload 7, 2) := by decide +kernel
theorem dL_themes_542 : decode cL_themes 542 = .ok (.bipush 10, 2) := by decide +kernel
theorem dL_themes_544 : decode cL_themes 544 = .ok (.if_icmp .ne 7, 3) := by decide +kernel
theorem dL_themes_547 : decode cL_themes 547 = .ok (.iconst 0, 1) := by decide +kernel
theorem dL_themes_548 : decode cL_themes 548 = .ok (.goto 11, 3) := by decide +kernel
theorem dL_themes_551 : decode cL_themes 551 = .ok (.aload_n 0, 1) := by decide +kernel
theorem dL_themes_552 : decode cL_themes 552 = .ok (.iload 4, 2) := by decide +kernel
theorem dL_themes_554 : decode cL_themes 554 = .ok (.iload 7, 2) := by decide +kernel
theorem dL_themes_556 : decode cL_themes 556 = .ok (.invokevirtual 29, 3) := by decide +kernel
theorem dL_themes_559 : decode cL_themes 559 = .ok (.istore 10, 2) := by decide +kernel
theorem dL_themes_561 : decode cL_themes 561 = .ok (.iload 6, 2) := by decide +kernel
theorem dL_themes_563 : decode cL_themes 563 = .ok (.ifCond .eq 7, 3) := by decide +kernel
theorem dL_themes_566 : decode cL_themes 566 = .ok (.iconst 0, 1) := by decide +kernel
theorem dL_themes_567 : decode cL_themes 567 = .ok (.goto 10, 3) := by decide +kernel
theorem dL_themes_570 : decode cL_themes 570 = .ok (.aload_n 0, 1) := by decide +kernel
theorem dL_themes_571 : decode cL_themes 571 = .ok (.iload 4, 2) := by decide +kernel
theorem dL_themes_573 : decode cL_themes 573 = .ok (.iconst 5, 1) := by decide +kernel
theorem dL_themes_574 : decode cL_themes 574 = .ok (.invokevirtual 26, 3) := by decide +kernel
theorem dL_themes_577 : decode cL_themes 577 = .ok (.istore 11, 2) := by decide +kernel
theorem dL_themes_579 : decode cL_themes 579 = .ok (.aload_n 0, 1) := by decide +kernel
theorem dL_themes_580 : decode cL_themes 580 = .ok (.iload 5, 2) := by decide +kernel
theorem dL_themes_582 : decode cL_themes 582 = .ok (.iload 4, 2) := by decide +kernel
theorem dL_themes_584 : decode cL_themes 584 = .ok (.iload 8, 2) := by decide +kernel
theorem dL_themes_586 : decode cL_themes 586 = .ok (.invokevirtual 94, 3) := by decide +kernel
theorem dL_themes_589 : decode cL_themes 589 = .ok (.istore 12, 2) := by decide +kernel
theorem dL_themes_591 : decode cL_themes 591 = .ok (.iload 9, 2) := by decide +kernel
theorem dL_themes_593 : decode cL_themes 593 = .ok (.ifCond .eq 17, 3) := by decide +kernel
theorem dL_themes_596 : decode cL_themes 596 = .ok (.iload 12, 2) := by decide +kernel
theorem dL_themes_598 : decode cL_themes 598 = .ok (.iconst (-1), 1) := by decide +kernel
theorem dL_themes_599 : decode cL_themes 599 = .ok (.if_icmp .ne 7, 3) := by decide +kernel
theorem dL_themes_602 : decode cL_themes 602 = .ok (.iconst 1, 1) := by decide +kernel
theorem dL_themes_603 : decode cL_themes 603 = .ok (.goto 127, 3) := by decide +kernel
theorem dL_themes_606 : decode cL_themes 606 = .ok (.iconst 0, 1) := by decide +kernel
theorem dL_themes_607 : decode cL_themes 607 = .ok (.goto 123, 3) := by decide +kernel
theorem dL_themes_610 : decode cL_themes 610 = .ok (.iload 7, 2) := by decide +kernel
theorem dL_themes_612 : decode cL_themes 612 = .ok (.bipush 10, 2) := by decide +kernel
theorem dL_themes_614 : decode cL_themes 614 = .ok (.if_icmp .ne 18, 3) := by decide +kernel
theorem dL_themes_617 : decode cL_themes 617 = .ok (.iload 12, 2) := by decide +kernel
theorem dL_themes_619 : decode cL_themes 619 = .ok (.bipush (-2), 2) := by decide +kernel
theorem dL_themes_621 : decode cL_themes 621 = .ok (.if_icmp .ne 7, 3) := by decide +kernel
theorem dL_themes_624 : decode cL_themes 624 = .ok (.iconst 1, 1) := by decide +kernel
theorem dL_themes_625 : decode cL_themes 625 = .ok (.goto 105, 3) := by decide +kernel
theorem dL_themes_628 : decode cL_themes 628 = .ok (.iconst 0, 1) := by decide +kernel
theorem dL_themes_629 : decode cL_themes 629 = .ok (.goto 101, 3) := by decide +kernel
theorem dL_themes_632 : decode cL_themes 632 = .ok (.iload 12, 2) := by decide +kernel
theorem dL_themes_634 : decode cL_themes 634 = .ok (.bipush (-5), 2) := by decide +kernel
theorem dL_themes_636 : decode cL_themes 636 = .ok (.if_icmp .ne 23, 3) := by decide +kernel
theorem dL_themes_639 : decode cL_themes 639 = .ok (.iload 11, 2) := by decide +kernel
theorem dL_themes_641 : decode cL_themes 641 = .ok (.aload_n 0, 1) := by decide +kernel
theorem dL_themes_642 : decode cL_themes 642 = .ok (.iload 4, 2) := by decide +kernel
theorem dL_themes_644 : decode cL_themes 644 = .ok (.iconst 5, 1) := by decide +kernel
theorem dL_themes_645 : decode cL_themes 645 = .ok (.invokevirtual 26, 3) := by decide +kernel
theorem dL_themes_648 : decode cL_themes 648 = .ok (.if_icmp .ne 7, 3) := by decide +kernel
theorem dL_themes_651 : decode cL_themes 651 = .ok (.iconst 1, 1) := by decide +kernel
theorem dL_themes_652 : decode cL_themes 652 = .ok (.goto 78, 3) := by decide +kernel
