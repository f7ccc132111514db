theorem dL_law_304 : decode cL_law 304 = .ok (.bipush 30, 2) := by decide +kernel
theorem dL_law_306 : decode cL_law 306 = .ok (.iaload, 1) := by decide +kernel
theorem dL_law_307 : decode cL_law 307 = .ok (.istore 11, 2) := by decide +kernel
theorem dL_law_309 : decode cL_law 309 = .ok (.aload_n 1, 1) := by decide +kernel
theorem dL_law_310 : decode cL_law 310 = .ok (.iload 13, 2) := by decide +kernel
theorem dL_law_312 : decode cL_law 312 = .ok (.iload 14, 2) := by decide +kernel
theorem dL_law_314 : decode cL_law 314 = .ok (.invokevirtual 88, 3) := by decide +kernel
theorem dL_law_317 : decode cL_law 317 = .ok (.istore 12, 2) := by decide +kernel
theorem dL_law_319 : decode cL_law 319 = .ok (.goto 266, 3) := by decide +kernel
theorem dL_law_322 : decode cL_law 322 = .ok (.iload 8, 2) := by decide +kernel
theorem dL_law_324 : decode cL_law 324 = .ok (.iconst 4, 1) := by decide +kernel
theorem dL_law_325 : decode cL_law 325 = .ok (.if_icmp .ne 93, 3) := by decide +kernel
theorem dL_law_328 : decode cL_law 328 = .ok (.aload 4, 2) := by decide +kernel
theorem dL_law_330 : decode cL_law 330 = .ok (.bipush 30, 2) := by decide +kernel
theorem dL_law_332 : decode cL_law 332 = .ok (.iaload, 1) := by decide +kernel
theorem dL_law_333 : decode cL_law 333 = .ok (.ifCond .le 85, 3) := by decide +kernel
theorem dL_law_336 : decode cL_law 336 = .ok (.iload 7, 2) := by decide +kernel
theorem dL_law_338 : decode cL_law 338 = .ok (.iconst 3, 1) := by decide +kernel
theorem dL_law_339 : decode cL_law 339 = .ok (.ishr, 1) := by decide +kernel
theorem dL_law_340 : decode cL_law 340 = .ok (.aload 4, 2) := by decide +kernel
theorem dL_law_342 : decode cL_law 342 = .ok (.bipush 30, 2) := by decide +kernel
theorem dL_law_344 : decode cL_law 344 = .ok (.iaload, 1) := by decide +kernel
theorem dL_law_345 : decode cL_law 345 = .ok (.invokestatic 9, 3) := by decide +kernel
theorem dL_law_348 : decode cL_law 348 = .ok (.istore 13, 2) := by decide +kernel
theorem dL_law_350 : decode cL_law 350 = .ok (.aload 4, 2) := by decide +kernel
theorem dL_law_352 : decode cL_law 352 = .ok (.bipush 31, 2) := by decide +kernel
theorem dL_law_354 : decode cL_law 354 = .ok (.iload 13, 2) := by decide +kernel
theorem dL_law_356 : decode cL_law 356 = .ok (.iadd, 1) := by decide +kernel
theorem dL_law_357 : decode cL_law 357 = .ok (.iaload, 1) := by decide +kernel
theorem dL_law_358 : decode cL_law 358 = .ok (.istore 11, 2) := by decide +kernel
theorem dL_law_360 : decode cL_law 360 = .ok (.iload 13, 2) := by decide +kernel
theorem dL_law_362 : decode cL_law 362 = .ok (.istore 14, 2) := by decide +kernel
theorem dL_law_364 : decode cL_law 364 = .ok (.iload 14, 2) := by decide +kernel
theorem dL_law_366 : decode cL_law 366 = .ok (.aload 4, 2) := by decide +kernel
theorem dL_law_368 : decode cL_law 368 = .ok (.bipush 30, 2) := by decide +kernel
theorem dL_law_370 : decode cL_law 370 = .ok (.iaload, 1) := by decide +kernel
theorem dL_law_371 : decode cL_law 371 = .ok (.iconst 1, 1) := by decide +kernel
theorem dL_law_372 : decode cL_law 372 = .ok (.isub, 1) := by decide +kernel
theorem dL_law_373 : decode cL_law 373 = .ok (.if_icmp .ge 25, 3) := by decide +kernel
theorem dL_law_376 : decode cL_law 376 = .ok (.aload 4, 2) := by decide +kernel
theorem dL_law_378 : decode cL_law 378 = .ok (.bipush 31, 2) := by decide +kernel
theorem dL_law_380 : decode cL_law 380 = .ok (.iload 14, 2) := by decide +kernel
theorem dL_law_382 : decode cL_law 382 = .ok (.iadd, 1) := by decide +kernel
theorem dL_law_383 : decode cL_law 383 = .ok (.aload 4, 2) := by decide +kernel
theorem dL_law_385 : decode cL_law 385 = .ok (.bipush 32, 2) := by decide +kernel
theorem dL_law_387 : decode cL_law 387 = .ok (.iload 14, 2) := by decide +kernel
theorem dL_law_389 : decode cL_law 389 = .ok (.iadd, 1) := by decide +kernel
theorem dL_law_390 : decode cL_law 390 = .ok (.iaload, 1) := by decide +kernel
theorem dL_law_391 : decode cL_law 391 = .ok (.iastore, 1) := by decide +kernel
theorem dL_law_392 : decode cL_law 392 = .ok (.iinc 14 1, 3) := by decide +kernel
theorem dL_law_395 : decode cL_law 395 = .ok (.goto (-31), 3) := by decide +kernel
theorem dL_law_398 : decode cL_law 398 = .ok (.aload 4, 2) := by decide +kernel
theorem dL_law_400 : decode cL_law 400 = .ok (.bipush 30, 2) := by decide +kernel
theorem dL_law_402 : decode cL_law 402 = .ok (.dup2, 1) := by decide +kernel
theorem dL_law_403 : decode cL_law 403 = .ok (.iaload, 1) := by decide +kernel
theorem dL_law_404 : decode cL_law 404 = .ok (.iconst 1, 1) := by decide +kernel
theorem dL_law_405 : decode cL_law 405 = .ok (.isub, 1) := by decide +kernel
theorem dL_law_406 : decode cL_law 406 = .ok (.iastore, 1) := by decide +kernel
theorem dL_law_407 : decode cL_law 407 = .ok (.aload_n 1, 1) := by decide +kernel
theorem dL_law_408 : decode cL_law 408 = .ok (.iload 13, 2) := by decide +kernel
theorem dL_law_410 : decode cL_law 410 = .ok (.invokevirtual 91, 3) := by decide +kernel
theorem dL_law_413 : decode cL_law 413 = .ok (.istore 12, 2) := by decide +kernel
theorem dL_law_415 : decode cL_law 415 = .ok (.goto 170, 3) := by decide +kernel
theorem dL_law_418 : decode cL_law 418 = .ok (.iload 8, 2) := by decide +kernel
theorem dL_law_420 : decode cL_law 420 = .ok (.bipush 7, 2) := by decide +kernel
theorem dL_law_422 : decode cL_law 422 = .ok (.if_icmp .ge 80, 3) := by decide +kernel
theorem dL_law_425 : decode cL_law 425 = .ok (.iload 7, 2) := by decide +kernel
theorem dL_law_427 : decode cL_law 427 = .ok (.iconst 3, 1) := by decide +kernel
theorem dL_law_428 : decode cL_law 428 = .ok (.ishr, 1) := by decide +kernel
theorem dL_law_429 : decode cL_law 429 = .ok (.bipush 26, 2) := by decide +kernel
theorem dL_law_431 : decode cL_law 431 = .ok (.invokestatic 9, 3) := by decide +kernel
theorem dL_law_434 : decode cL_law 434 = .ok (.istore 13, 2) := by decide +kernel
theorem dL_law_436 : decode cL_law 436 = .ok (.iload 7, 2) := by decide +kernel
theorem dL_law_438 : decode cL_law 438 = .ok (.bipush 9, 2) := by decide +kernel
theorem dL_law_440 : decode cL_law 440 = .ok (.ishr, 1) := by decide +kernel
theorem dL_law_441 : decode cL_law 441 = .ok (.bipush 6, 2) := by decide +kernel
theorem dL_law_443 : decode cL_law 443 = .ok (.invokestatic 9, 3) := by decide +kernel
theorem dL_law_446 : decode cL_law 446 = .ok (.istore 14, 2) := by decide +kernel
theorem dL_law_448 : decode cL_law 448 = .ok (.aload 4, 2) := by decide +kernel
theorem dL_law_450 : decode cL_law 450 = .ok (.iload 13, 2) := by decide +kernel
theorem dL_law_452 : decode cL_law 452 = .ok (.iaload, 1) := by decide +kernel
theorem dL_law_453 : decode cL_law 453 = .ok (.iload 14, 2) := by decide +kernel
theorem dL_law_455 : decode cL_law 455 = .ok (.if_icmp .eq 7, 3) := by decide +kernel
theorem dL_law_458 : decode cL_law 458 = .ok (.iconst 1, 1) := by decide +kernel
theorem dL_law_459 : decode cL_law 459 = .ok (.goto 4, 3) := by decide +kernel
theorem dL_law_462 : decode cL_law 462 = .ok (.iconst 0, 1) := by decide +kernel
theorem dL_law_463 : decode cL_law 463 = .ok (.istore 10, 2) := by decide +kernel
theorem dL_law_465 : decode cL_law 465 = .ok (.iload 10, 2) := by decide +kernel
theorem dL_law_467 : decode cL_law 467 = .ok (.ifCond .eq 11, 3) := by decide +kernel
theorem dL_law_470 : decode cL_law 470 = .ok (.aload 4, 2) := by decide +kernel
theorem dL_law_472 : decode cL_law 472 = .ok (.iload 13, 2) := by decide +kernel
theorem dL_law_474 : decode cL_law 474 = .ok (.iaload, 1) := by decide +kernel
theorem dL_law_475 : decode cL_law 475 = .ok (.goto 5, 3) := by decide +kernel
theorem dL_law_478 : decode cL_law 478 = .ok (.bipush (-2), 2) := by decide +kernel
theorem dL_law_480 : decode cL_law 480 = .ok (.istore 11, 2) := by decide +kernel
theorem dL_law_482 : decode cL_law 482 = .ok (.aload 4, 2) := by decide +kernel
theorem dL_law_484 : decode cL_law 484 = .ok (.iload 13, 2) := by decide +kernel
theorem dL_law_486 : decode cL_law 486 = .ok (.iload 14, 2) := by decide +kernel
theorem dL_law_488 : decode cL_law 488 = .ok (.iastore, 1) := by decide +kernel
theorem dL_law_489 : decode cL_law 489 = .ok (.aload_n 1, 1) := by decide +kernel
theorem dL_law_490 : decode cL_law 490 = .ok (.iload 13, 2) := by decide +kernel
theorem dL_law_492 : decode cL_law 492 = .ok (.iload 14, 2) := by decide +kernel
theorem dL_law_494 : decode cL_law 494 = .ok (.invokevirtual 94, 3) := by decide +kernel
theorem dL_law_497 : decode cL_law 497 = .ok (.istore 12, 2) := by decide +kernel
theorem dL_law_499 : decode cL_law 499 = .ok (.goto 86, 3) := by decide +kernel
theorem dL_law_502 : decode cL_law 502 = .ok (.iload 7, 2) := by decide +kernel
theorem dL_law_504 : decode cL_law 504 = .ok (.iconst 3, 1) := by decide +kernel
theorem dL_law_505 : decode cL_law 505 = .ok (.ishr, 1) := by decide +kernel
theorem dL_law_506 : decode cL_law 506 = .ok (.aload_n 2, 1) := by decide +kernel
theorem dL_law_507 : decode cL_law 507 = .ok (.iconst 0, 1) := by decide +kernel
theorem dL_law_508 : decode cL_law 508 = .ok (.iaload, 1) := by decide +kernel
theorem dL_law_509 : decode cL_law 509 = .ok (.invokestatic 9, 3) := by decide +kernel
theorem dL_law_512 : decode cL_law 512 = .ok (.istore 13, 2) := by decide +kernel
theorem dL_law_514 : decode cL_law 514 = .ok (.iload 7, 2) := by decide +kernel
theorem dL_law_516 : decode cL_law 516 = .ok (.bipush 9, 2) := by decide +kernel
theorem dL_law_518 : decode cL_law 518 = .ok (.ishr, 1) := by decide +kernel
theorem dL_law_519 : decode cL_law 519 = .ok (.iconst 4, 1) := by decide +kernel
theorem dL_law_520 : decode cL_law 520 = .ok (.invokestatic 9, 3) := by decide +kernel
theorem dL_law_523 : decode cL_law 523 = .ok (.istore 14, 2) := by decide +kernel
theorem dL_law_525 : decode cL_law 525 = .ok (.aload 4, 2) := by decide +kernel
theorem dL_law_527 : decode cL_law 527 = .ok (.bipush 26, 2) := by decide +kernel
theorem dL_law_529 : decode cL_law 529 = .ok (.iload 13, 2) := by decide +kernel
theorem dL_law_531 : decode cL_law 531 = .ok (.iadd, 1) := by decide +kernel
theorem dL_law_532 : decode cL_law 532 = .ok (.iaload, 1) := by decide +kernel
theorem dL_law_533 : decode cL_law 533 = .ok (.iload 14, 2) := by decide +kernel
theorem dL_law_535 : decode cL_law 535 = .ok (.if_icmp .eq 7, 3) := by decide +kernel
theorem dL_law_538 : decode cL_law 538 = .ok (.iconst 1, 1) := by decide +kernel
theorem dL_law_539 : decode cL_law 539 = .ok (.goto 4, 3) := by decide +kernel
theorem dL_law_542 : decode cL_law 542 = .ok (.iconst 0, 1) := by decide +kernel
theorem dL_law_543 : decode cL_law 543 = .ok (.istore 10, 2) := by decide +kernel
theorem dL_law_545 : decode cL_law 545 = .ok (.iload 10, 2) := by decide +kernel
theorem dL_law_547 : decode cL_law 547 = .ok (.ifCond .eq 14, 3) := by decide +kernel
theorem dL_law_550 : decode cL_law 550 = .ok (.aload 4, 2) := by decide +kernel
theorem dL_law_552 : decode cL_law 552 = .ok (.bipush 26, 2) := by decide +kernel
theorem dL_law_554 : decode cL_law 554 = .ok (.iload 13, 2) := by decide +kernel
theorem dL_law_556 : decode cL_law 556 = .ok (.iadd, 1) := by decide +kernel
theorem dL_law_557 : decode cL_law 557 = .ok (.iaload, 1) := by decide +kernel
theorem dL_law_558 : decode cL_law 558 = .ok (.goto 5, 3) := by decide +kernel
theorem dL_law_561 : decode cL_law 561 = .ok (.bipush (-2), 2) := by decide +kernel
theorem dL_law_563 : decode cL_law 563 = .ok (.istore 11, 2) := by decide +kernel
theorem dL_law_565 : decode cL_law 565 = .ok (.aload 4, 2) := by decide +kernel
theorem dL_law_567 : decode cL_law 567 = .ok (.bipush 26, 2) := by decide +kernel
theorem dL_law_569 : decode cL_law 569 = .ok (.iload 13, 2) := by decide +kernel
theorem dL_law_571 : decode cL_law 571 = .ok (.iadd, 1) := by decide +kernel
theorem dL_law_572 : decode cL_law 572 = .ok (.iload 14, 2) := by decide +kernel
theorem dL_law_574 : decode cL_law 574 = .ok (.iastore, 1) := by decide +kernel
theorem dL_law_575 : decode cL_law 575 = .ok (.aload_n 1, 1) := by decide +kernel
theorem dL_law_576 : decode cL_law 576 = .ok (.iload 13, 2) := by decide +kernel
theorem dL_law_578 : decode cL_law 578 = .ok (.iload 14, 2) := by decide +kernel
theorem dL_law_580 : decode cL_law 580 = .ok (.invokevirtual 97, 3) := by decide +kernel
theorem dL_law_583 : decode cL_law 583 = .ok (.istore 12, 2) := by decide +kernel
theorem dL_law_585 : decode cL_law 585 = .ok (.iload 10, 2) := by decide +kernel
theorem dL_law_587 : decode cL_law 587 = .ok (.ifCond .eq 17, 3) := by decide +kernel
theorem dL_law_590 : decode cL_law 590 = .ok (.iload 9, 2) := by decide +kernel
theorem dL_law_592 : decode cL_law 592 = .ok (.bipush 8, 2) := by decide +kernel
theorem dL_law_594 : decode cL_law 594 = .ok (.if_icmp .ge 10, 3) := by decide +kernel
theorem dL_law_597 : decode cL_law 597 = .ok (.iload 9, 2) := by decide +kernel
theorem dL_law_599 : decode cL_law 599 = .ok (.iconst 1, 1) := by decide +kernel
theorem dL_law_600 : decode cL_law 600 = .ok (.iadd, 1) := by decide +kernel
theorem dL_law_601 : decode cL_law 601 = .ok (.goto 5, 3) := by decide +kernel
theorem dL_law_604 : decode cL_law 604 = .ok (.iload 9, 2) := by decide +kernel
theorem dL_law_606 : decode cL_law 606 = .ok (.istore 9, 2) := by decide +kernel
theorem dL_law_608 : decode cL_law 608 = .ok (.iload 12, 2) := by decide +kernel
theorem dL_law_610 : decode cL_law 610 = .ok (.iload 11, 2) := by decide +kernel
theorem dL_law_612 : decode cL_law 612 = .ok (.if_icmp .ne 23, 3) := by decide +kernel
theorem dL_law_615 : decode cL_law 615 = .ok (.aload_n 1, 1) := by decide +kernel
theorem dL_law_616 : decode cL_law 616 = .ok (.aload_n 2, 1) := by decide +kernel
theorem dL_law_617 : decode cL_law 617 = .ok (.aload 4, 2) := by decide +kernel
theorem dL_law_619 : decode cL_law 619 = .ok (.invokestatic 100, 3) := by decide +kernel
theorem dL_law_622 : decode cL_law 622 = .ok (.ifCond .eq 13, 3) := by decide +kernel
theorem dL_law_625 : decode cL_law 625 = .ok (.aload_n 1, 1) := by decide +kernel
theorem dL_law_626 : decode cL_law 626 = .ok (.iconst 4, 1) := by decide +kernel
theorem dL_law_627 : decode cL_law 627 = .ok (.invokevirtual 72, 3) := by decide +kernel
theorem dL_law_630 : decode cL_law 630 = .ok (.iload 9, 2) := by decide +kernel
theorem dL_law_632 : decode cL_law 632 = .ok (.if_icmp .eq 5, 3) := by decide +kernel
theorem dL_law_635 : decode cL_law 635 = .ok (.iconst 0, 1) := by decide +kernel
theorem dL_law_636 : decode cL_law 636 = .ok (.ireturn, 1) := by decide +kernel
theorem dL_law_637 : decode cL_law 637 = .ok (.iload 7, 2) := by decide +kernel
theorem dL_law_639 : decode cL_law 639 = .ok (.bipush 14, 2) := by decide +kernel
theorem dL_law_641 : decode cL_law 641 = .ok (.ishr, 1) := by decide +kernel
theorem dL_law_642 : decode cL_law 642 = .ok (.iconst 5, 1) := by decide +kernel
theorem dL_law_643 : decode cL_law 643 = .ok (.invokestatic 9, 3) := by decide +kernel
theorem dL_law_646 : decode cL_law 646 = .ok (.ifCond .ne 31, 3) := by decide +kernel
theorem dL_law_649 : decode cL_law 649 = .ok (.iload 10, 2) := by decide +kernel
theorem dL_law_651 : decode cL_law 651 = .ok (.ifCond .eq 26, 3) := by decide +kernel
theorem dL_law_654 : decode cL_law 654 = .ok (.aload_n 1, 1) := by decide +kernel
theorem dL_law_655 : decode cL_law 655 = .ok (.invokevirtual 104, 3) := by decide +kernel
theorem dL_law_658 : decode cL_law 658 = .ok (.iload 9, 2) := by decide +kernel
theorem dL_law_660 : decode cL_law 660 = .ok (.iconst 1, 1) := by decide +kernel
theorem dL_law_661 : decode cL_law 661 = .ok (.isub, 1) := by decide +kernel
theorem dL_law_662 : decode cL_law 662 = .ok (.if_icmp .ne 13, 3) := by decide +kernel
theorem dL_law_665 : decode cL_law 665 = .ok (.aload_n 1, 1) := by decide +kernel
theorem dL_law_666 : decode cL_law 666 = .ok (.aload_n 2, 1) := by decide +kernel
theorem dL_law_667 : decode cL_law 667 = .ok (.aload 5, 2) := by decide +kernel
theorem dL_law_669 : decode cL_law 669 = .ok (.invokestatic 100, 3) := by decide +kernel
theorem dL_law_672 : decode cL_law 672 = .ok (.ifCond .ne 5, 3) := by decide +kernel
theorem dL_law_675 : decode cL_law 675 = .ok (.iconst 0, 1) := by decide +kernel
theorem dL_law_676 : decode cL_law 676 = .ok (.ireturn, 1) := by decide +kernel
theorem dL_law_677 : decode cL_law 677 = .ok (.iinc 6 1, 3) := by decide +kernel
theorem dL_law_680 : decode cL_law 680 = .ok (.goto (-623), 3) := by decide +kernel
theorem dL_law_683 : decode cL_law 683 = .ok (.aload_n 1, 1) := by decide +kernel
theorem dL_law_684 : decode cL_law 684 = .ok (.iconst 5, 1) := by decide +kernel
theorem dL_law_685 : decode cL_law 685 = .ok (.invokevirtual 72, 3) := by decide +kernel
theorem dL_law_688 : decode cL_law 688 = .ok (.ifCond .ne 7, 3) := by decide +kernel
theorem dL_law_691 : decode cL_law 691 = .ok (.iconst 1, 1) := by decide +kernel
theorem dL_law_692 : decode cL_law 692 = .ok (.goto 4, 3) := by decide +kernel
theorem dL_law_695 : decode cL_law 695 = .ok (.iconst 0, 1) := by decide +kernel
theorem dL_law_696 : decode cL_law 696 = .ok (.ireturn, 1) := by decide +kernel
