theorem dL_notes_254 : decode cL_notes 254 = .ok (.goto 18, 3) := by decide +kernel
theorem dL_notes_257 : decode cL_notes 257 = .ok (.iload 9, 2) := by decide +kernel
theorem dL_notes_259 : decode cL_notes 259 = .ok (.ifCond .eq 8, 3) := by decide +kernel
theorem dL_notes_262 : decode cL_notes 262 = .ok (.bipush (-5), 2) := by decide +kernel
theorem dL_notes_264 : decode cL_notes 264 = .ok (.goto 8, 3) := by decide +kernel
theorem dL_notes_267 : decode cL_notes 267 = .ok (.aload_n 0, 1) := by decide +kernel
theorem dL_notes_268 : decode cL_notes 268 = .ok (.iconst 1, 1) := by decide +kernel
theorem dL_notes_269 : decode cL_notes 269 = .ok (.invokevirtual 13, 3) := by decide +kernel
theorem dL_notes_272 : decode cL_notes 272 = .ok (.if_icmp .ne 36, 3) := by decide +kernel
theorem dL_notes_275 : decode cL_notes 275 = .ok (.iload 10, 2) := by decide +kernel
theorem dL_notes_277 : decode cL_notes 277 = .ok (.ifCond .lt 27, 3) := by decide +kernel
theorem dL_notes_280 : decode cL_notes 280 = .ok (.aload_n 0, 1) := by decide +kernel
theorem dL_notes_281 : decode cL_notes 281 = .ok (.iload 4, 2) := by decide +kernel
theorem dL_notes_283 : decode cL_notes 283 = .ok (.iconst 0, 1) := by decide +kernel
theorem dL_notes_284 : decode cL_notes 284 = .ok (.invokevirtual 19, 3) := by decide +kernel
theorem dL_notes_287 : decode cL_notes 287 = .ok (.iload 6, 2) := by decide +kernel
theorem dL_notes_289 : decode cL_notes 289 = .ok (.if_icmp .ne 19, 3) := by decide +kernel
theorem dL_notes_292 : decode cL_notes 292 = .ok (.aload_n 0, 1) := by decide +kernel
theorem dL_notes_293 : decode cL_notes 293 = .ok (.iload 4, 2) := by decide +kernel
theorem dL_notes_295 : decode cL_notes 295 = .ok (.iconst 1, 1) := by decide +kernel
theorem dL_notes_296 : decode cL_notes 296 = .ok (.invokevirtual 19, 3) := by decide +kernel
theorem dL_notes_299 : decode cL_notes 299 = .ok (.iload 7, 2) := by decide +kernel
theorem dL_notes_301 : decode cL_notes 301 = .ok (.if_icmp .ne 7, 3) := by decide +kernel
theorem dL_notes_304 : decode cL_notes 304 = .ok (.iconst 1, 1) := by decide +kernel
theorem dL_notes_305 : decode cL_notes 305 = .ok (.goto 4, 3) := by decide +kernel
theorem dL_notes_308 : decode cL_notes 308 = .ok (.iconst 0, 1) := by decide +kernel
theorem dL_notes_309 : decode cL_notes 309 = .ok (.ireturn, 1) := by decide +kernel
theorem dL_notes_310 : decode cL_notes 310 = .ok (.iload_n 1, 1) := by decide +kernel
theorem dL_notes_311 : decode cL_notes 311 = .ok (.bipush 6, 2) := by decide +kernel
theorem dL_notes_313 : decode cL_notes 313 = .ok (.if_icmp .ne 67, 3) := by decide +kernel
theorem dL_notes_316 : decode cL_notes 316 = .ok (.iload 5, 2) := by decide +kernel
theorem dL_notes_318 : decode cL_notes 318 = .ok (.ifCond .eq 7, 3) := by decide +kernel
theorem dL_notes_321 : decode cL_notes 321 = .ok (.iconst 0, 1) := by decide +kernel
theorem dL_notes_322 : decode cL_notes 322 = .ok (.goto 10, 3) := by decide +kernel
theorem dL_notes_325 : decode cL_notes 325 = .ok (.aload_n 0, 1) := by decide +kernel
theorem dL_notes_326 : decode cL_notes 326 = .ok (.iload 4, 2) := by decide +kernel
theorem dL_notes_328 : decode cL_notes 328 = .ok (.iconst 2, 1) := by decide +kernel
theorem dL_notes_329 : decode cL_notes 329 = .ok (.invokevirtual 19, 3) := by decide +kernel
theorem dL_notes_332 : decode cL_notes 332 = .ok (.istore 9, 2) := by decide +kernel
theorem dL_notes_334 : decode cL_notes 334 = .ok (.aload_n 0, 1) := by decide +kernel
theorem dL_notes_335 : decode cL_notes 335 = .ok (.iload 4, 2) := by decide +kernel
theorem dL_notes_337 : decode cL_notes 337 = .ok (.invokevirtual 79, 3) := by decide +kernel
theorem dL_notes_340 : decode cL_notes 340 = .ok (.iload 5, 2) := by decide +kernel
theorem dL_notes_342 : decode cL_notes 342 = .ok (.ifCond .eq 7, 3) := by decide +kernel
theorem dL_notes_345 : decode cL_notes 345 = .ok (.iconst (-1), 1) := by decide +kernel
theorem dL_notes_346 : decode cL_notes 346 = .ok (.goto 5, 3) := by decide +kernel
theorem dL_notes_349 : decode cL_notes 349 = .ok (.iload 9, 2) := by decide +kernel
theorem dL_notes_351 : decode cL_notes 351 = .ok (.if_icmp .ne 27, 3) := by decide +kernel
theorem dL_notes_354 : decode cL_notes 354 = .ok (.aload_n 0, 1) := by decide +kernel
theorem dL_notes_355 : decode cL_notes 355 = .ok (.iconst 0, 1) := by decide +kernel
theorem dL_notes_356 : decode cL_notes 356 = .ok (.invokevirtual 13, 3) := by decide +kernel
theorem dL_notes_359 : decode cL_notes 359 = .ok (.iload_n 3, 1) := by decide +kernel
theorem dL_notes_360 : decode cL_notes 360 = .ok (.iload 5, 2) := by decide +kernel
theorem dL_notes_362 : decode cL_notes 362 = .ok (.ifCond .eq 7, 3) := by decide +kernel
theorem dL_notes_365 : decode cL_notes 365 = .ok (.iconst 0, 1) := by decide +kernel
theorem dL_notes_366 : decode cL_notes 366 = .ok (.goto 4, 3) := by decide +kernel
theorem dL_notes_369 : decode cL_notes 369 = .ok (.iconst 1, 1) := by decide +kernel
theorem dL_notes_370 : decode cL_notes 370 = .ok (.isub, 1) := by decide +kernel
theorem dL_notes_371 : decode cL_notes 371 = .ok (.if_icmp .ne 7, 3) := by decide +kernel
theorem dL_notes_374 : decode cL_notes 374 = .ok (.iconst 1, 1) := by decide +kernel
theorem dL_notes_375 : decode cL_notes 375 = .ok (.goto 4, 3) := by decide +kernel
theorem dL_notes_378 : decode cL_notes 378 = .ok (.iconst 0, 1) := by decide +kernel
theorem dL_notes_379 : decode cL_notes 379 = .ok (.ireturn, 1) := by decide +kernel
theorem dL_notes_380 : decode cL_notes 380 = .ok (.aload_n 0, 1) := by decide +kernel
theorem dL_notes_381 : decode cL_notes 381 = .ok (.iconst 1, 1) := by decide +kernel
theorem dL_notes_382 : decode cL_notes 382 = .ok (.invokevirtual 13, 3) := by decide +kernel
theorem dL_notes_385 : decode cL_notes 385 = .ok (.istore 9, 2) := by decide +kernel
theorem dL_notes_387 : decode cL_notes 387 = .ok (.iload_n 2, 1) := by decide +kernel
theorem dL_notes_388 : decode cL_notes 388 = .ok (.iload 9, 2) := by decide +kernel
theorem dL_notes_390 : decode cL_notes 390 = .ok (.iconst 1, 1) := by decide +kernel
theorem dL_notes_391 : decode cL_notes 391 = .ok (.iadd, 1) := by decide +kernel
theorem dL_notes_392 : decode cL_notes 392 = .ok (.invokestatic 37, 3) := by decide +kernel
theorem dL_notes_395 : decode cL_notes 395 = .ok (.istore 10, 2) := by decide +kernel
theorem dL_notes_397 : decode cL_notes 397 = .ok (.iload_n 2, 1) := by decide +kernel
theorem dL_notes_398 : decode cL_notes 398 = .ok (.iconst 5, 1) := by decide +kernel
theorem dL_notes_399 : decode cL_notes 399 = .ok (.ishr, 1) := by decide +kernel
theorem dL_notes_400 : decode cL_notes 400 = .ok (.bipush 9, 2) := by decide +kernel
theorem dL_notes_402 : decode cL_notes 402 = .ok (.invokestatic 37, 3) := by decide +kernel
theorem dL_notes_405 : decode cL_notes 405 = .ok (.iconst 4, 1) := by decide +kernel
theorem dL_notes_406 : decode cL_notes 406 = .ok (.isub, 1) := by decide +kernel
theorem dL_notes_407 : decode cL_notes 407 = .ok (.istore 11, 2) := by decide +kernel
theorem dL_notes_409 : decode cL_notes 409 = .ok (.iload_n 2, 1) := by decide +kernel
theorem dL_notes_410 : decode cL_notes 410 = .ok (.bipush 9, 2) := by decide +kernel
theorem dL_notes_412 : decode cL_notes 412 = .ok (.ishr, 1) := by decide +kernel
theorem dL_notes_413 : decode cL_notes 413 = .ok (.bipush 9, 2) := by decide +kernel
theorem dL_notes_415 : decode cL_notes 415 = .ok (.invokestatic 37, 3) := by decide +kernel
theorem dL_notes_418 : decode cL_notes 418 = .ok (.iconst 4, 1) := by decide +kernel
theorem dL_notes_419 : decode cL_notes 419 = .ok (.isub, 1) := by decide +kernel
theorem dL_notes_420 : decode cL_notes 420 = .ok (.istore 12, 2) := by decide +kernel
theorem dL_notes_422 : decode cL_notes 422 = .ok (.iload 10, 2) := by decide +kernel
theorem dL_notes_424 : decode cL_notes 424 = .ok (.iload 9, 2) := by decide +kernel
theorem dL_notes_426 : decode cL_notes 426 = .ok (.if_icmp .ne 7, 3) := by decide +kernel
theorem dL_notes_429 : decode cL_notes 429 = .ok (.iconst 0, 1) := by decide +kernel
theorem dL_notes_430 : decode cL_notes 430 = .ok (.goto 10, 3) := by decide +kernel
theorem dL_notes_433 : decode cL_notes 433 = .ok (.aload_n 0, 1) := by decide +kernel
theorem dL_notes_434 : decode cL_notes 434 = .ok (.iload 10, 2) := by decide +kernel
theorem dL_notes_436 : decode cL_notes 436 = .ok (.iconst 1, 1) := by decide +kernel
theorem dL_notes_437 : decode cL_notes 437 = .ok (.invokevirtual 40, 3) := by decide +kernel
theorem dL_notes_440 : decode cL_notes 440 = .ok (.istore 13, 2) := by decide +kernel
theorem dL_notes_442 : decode cL_notes 442 = .ok (.iload 10, 2) := by decide +kernel
theorem dL_notes_444 : decode cL_notes 444 = .ok (.iload 9, 2) := by decide +kernel
theorem dL_notes_446 : decode cL_notes 446 = .ok (.if_icmp .ne 7, 3) := by decide +kernel
theorem dL_notes_449 : decode cL_notes 449 = .ok (.iconst 0, 1) := by decide +kernel
theorem dL_notes_450 : decode cL_notes 450 = .ok (.goto 10, 3) := by decide +kernel
theorem dL_notes_453 : decode cL_notes 453 = .ok (.aload_n 0, 1) := by decide +kernel
theorem dL_notes_454 : decode cL_notes 454 = .ok (.iload 13, 2) := by decide +kernel
theorem dL_notes_456 : decode cL_notes 456 = .ok (.iconst 0, 1) := by decide +kernel
theorem dL_notes_457 : decode cL_notes 457 = .ok (.invokevirtual 19, 3) := by decide +kernel
theorem dL_notes_460 : decode cL_notes 460 = .ok (.istore 14, 2) := by decide +kernel
theorem dL_notes_462 : decode cL_notes 462 = .ok (.iload 10, 2) := by decide +kernel
theorem dL_notes_464 : decode cL_notes 464 = .ok (.iload 9, 2) := by decide +kernel
theorem dL_notes_466 : decode cL_notes 466 = .ok (.if_icmp .ne 7, 3) := by decide +kernel
theorem dL_notes_469 : decode cL_notes 469 = .ok (.iconst 0, 1) := by decide +kernel
theorem dL_notes_470 : decode cL_notes 470 = .ok (.goto 11, 3) := by decide +kernel
theorem dL_notes_473 : decode cL_notes 473 = .ok (.aload_n 0, 1) := by decide +kernel
theorem dL_notes_474 : decode cL_notes 474 = .ok (.iload 10, 2) := by decide +kernel
theorem dL_notes_476 : decode cL_notes 476 = .ok (.bipush 6, 2) := by decide +kernel
theorem dL_notes_478 : decode cL_notes 478 = .ok (.invokevirtual 40, 3) := by decide +kernel
theorem dL_notes_481 : decode cL_notes 481 = .ok (.istore 15, 2) := by decide +kernel
theorem dL_notes_483 : decode cL_notes 483 = .ok (.aload_n 0, 1) := by decide +kernel
theorem dL_notes_484 : decode cL_notes 484 = .ok (.iload 10, 2) := by decide +kernel
theorem dL_notes_486 : decode cL_notes 486 = .ok (.iload 11, 2) := by decide +kernel
theorem dL_notes_488 : decode cL_notes 488 = .ok (.iload 12, 2) := by decide +kernel
theorem dL_notes_490 : decode cL_notes 490 = .ok (.invokevirtual 82, 3) := by decide +kernel
theorem dL_notes_493 : decode cL_notes 493 = .ok (.istore 16, 2) := by decide +kernel
theorem dL_notes_495 : decode cL_notes 495 = .ok (.iload 10, 2) := by decide +kernel
theorem dL_notes_497 : decode cL_notes 497 = .ok (.iload 9, 2) := by decide +kernel
theorem dL_notes_499 : decode cL_notes 499 = .ok (.if_icmp .ne 17, 3) := by decide +kernel
theorem dL_notes_502 : decode cL_notes 502 = .ok (.iload 16, 2) := by decide +kernel
theorem dL_notes_504 : decode cL_notes 504 = .ok (.iconst (-1), 1) := by decide +kernel
theorem dL_notes_505 : decode cL_notes 505 = .ok (.if_icmp .ne 7, 3) := by decide +kernel
theorem dL_notes_508 : decode cL_notes 508 = .ok (.iconst 1, 1) := by decide +kernel
theorem dL_notes_509 : decode cL_notes 509 = .ok (.goto 89, 3) := by decide +kernel
theorem dL_notes_512 : decode cL_notes 512 = .ok (.iconst 0, 1) := by decide +kernel
theorem dL_notes_513 : decode cL_notes 513 = .ok (.goto 85, 3) := by decide +kernel
theorem dL_notes_516 : decode cL_notes 516 = .ok (.iload 16, 2) := by decide +kernel
theorem dL_notes_518 : decode cL_notes 518 = .ok (.bipush (-4), 2) := by decide +kernel
theorem dL_notes_520 : decode cL_notes 520 = .ok (.if_icmp .eq 73, 3) := by decide +kernel
theorem dL_notes_523 : decode cL_notes 523 = .ok (.iload 11, 2) := by decide +kernel
theorem dL_notes_525 : decode cL_notes 525 = .ok (.ifCond .ne 18, 3) := by decide +kernel
theorem dL_notes_528 : decode cL_notes 528 = .ok (.iload 12, 2) := by decide +kernel
theorem dL_notes_530 : decode cL_notes 530 = .ok (.ifCond .ne 13, 3) := by decide +kernel
theorem dL_notes_533 : decode cL_notes 533 = .ok (.iload 16, 2) := by decide +kernel
theorem dL_notes_535 : decode cL_notes 535 = .ok (.bipush (-5), 2) := by decide +kernel
theorem dL_notes_537 : decode cL_notes 537 = .ok (.if_icmp .ne 60, 3) := by decide +kernel
theorem dL_notes_540 : decode cL_notes 540 = .ok (.goto 53, 3) := by decide +kernel
theorem dL_notes_543 : decode cL_notes 543 = .ok (.iload 16, 2) := by decide +kernel
theorem dL_notes_545 : decode cL_notes 545 = .ok (.aload_n 0, 1) := by decide +kernel
theorem dL_notes_546 : decode cL_notes 546 = .ok (.iconst 1, 1) := by decide +kernel
theorem dL_notes_547 : decode cL_notes 547 = .ok (.invokevirtual 13, 3) := by decide +kernel
theorem dL_notes_550 : decode cL_notes 550 = .ok (.if_icmp .ne 47, 3) := by decide +kernel
theorem dL_notes_553 : decode cL_notes 553 = .ok (.iload 16, 2) := by decide +kernel
theorem dL_notes_555 : decode cL_notes 555 = .ok (.iload 9, 2) := by decide +kernel
theorem dL_notes_557 : decode cL_notes 557 = .ok (.if_icmp .gt 40, 3) := by decide +kernel
theorem dL_notes_560 : decode cL_notes 560 = .ok (.aload_n 0, 1) := by decide +kernel
theorem dL_notes_561 : decode cL_notes 561 = .ok (.iload 13, 2) := by decide +kernel
theorem dL_notes_563 : decode cL_notes 563 = .ok (.iconst 0, 1) := by decide +kernel
theorem dL_notes_564 : decode cL_notes 564 = .ok (.invokevirtual 19, 3) := by decide +kernel
theorem dL_notes_567 : decode cL_notes 567 = .ok (.iload 14, 2) := by decide +kernel
theorem dL_notes_569 : decode cL_notes 569 = .ok (.iload 11, 2) := by decide +kernel
theorem dL_notes_571 : decode cL_notes 571 = .ok (.iadd, 1) := by decide +kernel
theorem dL_notes_572 : decode cL_notes 572 = .ok (.if_icmp .ne 25, 3) := by decide +kernel
theorem dL_notes_575 : decode cL_notes 575 = .ok (.aload_n 0, 1) := by decide +kernel
theorem dL_notes_576 : decode cL_notes 576 = .ok (.aload_n 0, 1) := by decide +kernel
theorem dL_notes_577 : decode cL_notes 577 = .ok (.iload 13, 2) := by decide +kernel
theorem dL_notes_579 : decode cL_notes 579 = .ok (.iconst 3, 1) := by decide +kernel
theorem dL_notes_580 : decode cL_notes 580 = .ok (.invokevirtual 19, 3) := by decide +kernel
theorem dL_notes_583 : decode cL_notes 583 = .ok (.bipush 6, 2) := by decide +kernel
theorem dL_notes_585 : decode cL_notes 585 = .ok (.invokevirtual 40, 3) := by decide +kernel
theorem dL_notes_588 : decode cL_notes 588 = .ok (.iload 15, 2) := by decide +kernel
