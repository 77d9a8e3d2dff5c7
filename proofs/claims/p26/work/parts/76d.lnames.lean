theorem dL_isSo_320 : decode cL_isSo 320 = .ok (.iinc 15 1, 3) := by decide +kernel
theorem dL_isSo_323 : decode cL_isSo 323 = .ok (.goto (-70), 3) := by decide +kernel
theorem dL_isSo_326 : decode cL_isSo 326 = .ok (.iload 12, 2) := by decide +kernel
theorem dL_isSo_328 : decode cL_isSo 328 = .ok (.iload 14, 2) := by decide +kernel
theorem dL_isSo_330 : decode cL_isSo 330 = .ok (.ifCond .eq 10, 3) := by decide +kernel
theorem dL_isSo_333 : decode cL_isSo 333 = .ok (.iload 13, 2) := by decide +kernel
theorem dL_isSo_335 : decode cL_isSo 335 = .ok (.iconst 1, 1) := by decide +kernel
theorem dL_isSo_336 : decode cL_isSo 336 = .ok (.iadd, 1) := by decide +kernel
theorem dL_isSo_337 : decode cL_isSo 337 = .ok (.goto 5, 3) := by decide +kernel
theorem dL_isSo_340 : decode cL_isSo 340 = .ok (.bipush (-5), 2) := by decide +kernel
theorem dL_isSo_342 : decode cL_isSo 342 = .ok (.if_icmp .eq 5, 3) := by decide +kernel
theorem dL_isSo_345 : decode cL_isSo 345 = .ok (.iconst 0, 1) := by decide +kernel
theorem dL_isSo_346 : decode cL_isSo 346 = .ok (.ireturn, 1) := by decide +kernel
theorem dL_isSo_347 : decode cL_isSo 347 = .ok (.iload 12, 2) := by decide +kernel
theorem dL_isSo_349 : decode cL_isSo 349 = .ok (.iload 9, 2) := by decide +kernel
theorem dL_isSo_351 : decode cL_isSo 351 = .ok (.if_icmp .le 8, 3) := by decide +kernel
theorem dL_isSo_354 : decode cL_isSo 354 = .ok (.iload 12, 2) := by decide +kernel
theorem dL_isSo_356 : decode cL_isSo 356 = .ok (.goto 5, 3) := by decide +kernel
theorem dL_isSo_359 : decode cL_isSo 359 = .ok (.iload 9, 2) := by decide +kernel
theorem dL_isSo_361 : decode cL_isSo 361 = .ok (.istore 9, 2) := by decide +kernel
theorem dL_isSo_363 : decode cL_isSo 363 = .ok (.iload 4, 2) := by decide +kernel
theorem dL_isSo_365 : decode cL_isSo 365 = .ok (.aload_n 2, 1) := by decide +kernel
theorem dL_isSo_366 : decode cL_isSo 366 = .ok (.iload 10, 2) := by decide +kernel
theorem dL_isSo_368 : decode cL_isSo 368 = .ok (.iaload, 1) := by decide +kernel
theorem dL_isSo_369 : decode cL_isSo 369 = .ok (.invokestatic 56, 3) := by decide +kernel
theorem dL_isSo_372 : decode cL_isSo 372 = .ok (.iadd, 1) := by decide +kernel
theorem dL_isSo_373 : decode cL_isSo 373 = .ok (.istore 4, 2) := by decide +kernel
theorem dL_isSo_375 : decode cL_isSo 375 = .ok (.iload 5, 2) := by decide +kernel
theorem dL_isSo_377 : decode cL_isSo 377 = .ok (.iload 11, 2) := by decide +kernel
theorem dL_isSo_379 : decode cL_isSo 379 = .ok (.ifCond .le 7, 3) := by decide +kernel
theorem dL_isSo_382 : decode cL_isSo 382 = .ok (.iconst 1, 1) := by decide +kernel
theorem dL_isSo_383 : decode cL_isSo 383 = .ok (.goto 4, 3) := by decide +kernel
theorem dL_isSo_386 : decode cL_isSo 386 = .ok (.iconst 0, 1) := by decide +kernel
theorem dL_isSo_387 : decode cL_isSo 387 = .ok (.iadd, 1) := by decide +kernel
theorem dL_isSo_388 : decode cL_isSo 388 = .ok (.istore 5, 2) := by decide +kernel
theorem dL_isSo_390 : decode cL_isSo 390 = .ok (.iload 11, 2) := by decide +kernel
theorem dL_isSo_392 : decode cL_isSo 392 = .ok (.ifCond .le 20, 3) := by decide +kernel
theorem dL_isSo_395 : decode cL_isSo 395 = .ok (.iload 6, 2) := by decide +kernel
theorem dL_isSo_397 : decode cL_isSo 397 = .ok (.ifCond .lt 10, 3) := by decide +kernel
theorem dL_isSo_400 : decode cL_isSo 400 = .ok (.iload 11, 2) := by decide +kernel
theorem dL_isSo_402 : decode cL_isSo 402 = .ok (.iload 6, 2) := by decide +kernel
theorem dL_isSo_404 : decode cL_isSo 404 = .ok (.if_icmp .ge 8, 3) := by decide +kernel
theorem dL_isSo_407 : decode cL_isSo 407 = .ok (.iload 11, 2) := by decide +kernel
theorem dL_isSo_409 : decode cL_isSo 409 = .ok (.goto 5, 3) := by decide +kernel
theorem dL_isSo_412 : decode cL_isSo 412 = .ok (.iload 6, 2) := by decide +kernel
theorem dL_isSo_414 : decode cL_isSo 414 = .ok (.istore 6, 2) := by decide +kernel
theorem dL_isSo_416 : decode cL_isSo 416 = .ok (.iload 7, 2) := by decide +kernel
theorem dL_isSo_418 : decode cL_isSo 418 = .ok (.aload_n 1, 1) := by decide +kernel
theorem dL_isSo_419 : decode cL_isSo 419 = .ok (.iload 10, 2) := by decide +kernel
theorem dL_isSo_421 : decode cL_isSo 421 = .ok (.invokestatic 32, 3) := by decide +kernel
theorem dL_isSo_424 : decode cL_isSo 424 = .ok (.iadd, 1) := by decide +kernel
theorem dL_isSo_425 : decode cL_isSo 425 = .ok (.istore 7, 2) := by decide +kernel
theorem dL_isSo_427 : decode cL_isSo 427 = .ok (.iload 8, 2) := by decide +kernel
theorem dL_isSo_429 : decode cL_isSo 429 = .ok (.aload_n 0, 1) := by decide +kernel
theorem dL_isSo_430 : decode cL_isSo 430 = .ok (.aload_n 0, 1) := by decide +kernel
theorem dL_isSo_431 : decode cL_isSo 431 = .ok (.iload 10, 2) := by decide +kernel
theorem dL_isSo_433 : decode cL_isSo 433 = .ok (.invokevirtual 15, 3) := by decide +kernel
theorem dL_isSo_436 : decode cL_isSo 436 = .ok (.bipush 7, 2) := by decide +kernel
theorem dL_isSo_438 : decode cL_isSo 438 = .ok (.invokevirtual 53, 3) := by decide +kernel
theorem dL_isSo_441 : decode cL_isSo 441 = .ok (.iadd, 1) := by decide +kernel
theorem dL_isSo_442 : decode cL_isSo 442 = .ok (.istore 8, 2) := by decide +kernel
theorem dL_isSo_444 : decode cL_isSo 444 = .ok (.iinc 10 1, 3) := by decide +kernel
theorem dL_isSo_447 : decode cL_isSo 447 = .ok (.goto (-254), 3) := by decide +kernel
theorem dL_isSo_450 : decode cL_isSo 450 = .ok (.aload_n 0, 1) := by decide +kernel
theorem dL_isSo_451 : decode cL_isSo 451 = .ok (.aload_n 1, 1) := by decide +kernel
theorem dL_isSo_452 : decode cL_isSo 452 = .ok (.aload_n 2, 1) := by decide +kernel
theorem dL_isSo_453 : decode cL_isSo 453 = .ok (.iload_n 3, 1) := by decide +kernel
theorem dL_isSo_454 : decode cL_isSo 454 = .ok (.iconst 0, 1) := by decide +kernel
theorem dL_isSo_455 : decode cL_isSo 455 = .ok (.iconst 1, 1) := by decide +kernel
theorem dL_isSo_456 : decode cL_isSo 456 = .ok (.invokestatic 67, 3) := by decide +kernel
theorem dL_isSo_459 : decode cL_isSo 459 = .ok (.istore 10, 2) := by decide +kernel
theorem dL_isSo_461 : decode cL_isSo 461 = .ok (.iconst 0, 1) := by decide +kernel
theorem dL_isSo_462 : decode cL_isSo 462 = .ok (.istore 11, 2) := by decide +kernel
theorem dL_isSo_464 : decode cL_isSo 464 = .ok (.iload 11, 2) := by decide +kernel
theorem dL_isSo_466 : decode cL_isSo 466 = .ok (.iload_n 3, 1) := by decide +kernel
theorem dL_isSo_467 : decode cL_isSo 467 = .ok (.if_icmp .ge 119, 3) := by decide +kernel
theorem dL_isSo_470 : decode cL_isSo 470 = .ok (.iload 10, 2) := by decide +kernel
theorem dL_isSo_472 : decode cL_isSo 472 = .ok (.ifCond .lt 114, 3) := by decide +kernel
theorem dL_isSo_475 : decode cL_isSo 475 = .ok (.bipush (-5), 2) := by decide +kernel
theorem dL_isSo_477 : decode cL_isSo 477 = .ok (.istore 12, 2) := by decide +kernel
theorem dL_isSo_479 : decode cL_isSo 479 = .ok (.iload_n 3, 1) := by decide +kernel
theorem dL_isSo_480 : decode cL_isSo 480 = .ok (.iconst 1, 1) := by decide +kernel
theorem dL_isSo_481 : decode cL_isSo 481 = .ok (.isub, 1) := by decide +kernel
theorem dL_isSo_482 : decode cL_isSo 482 = .ok (.istore 13, 2) := by decide +kernel
theorem dL_isSo_484 : decode cL_isSo 484 = .ok (.iload 13, 2) := by decide +kernel
theorem dL_isSo_486 : decode cL_isSo 486 = .ok (.ifCond .lt 49, 3) := by decide +kernel
theorem dL_isSo_489 : decode cL_isSo 489 = .ok (.iload 10, 2) := by decide +kernel
theorem dL_isSo_491 : decode cL_isSo 491 = .ok (.iload 11, 2) := by decide +kernel
theorem dL_isSo_493 : decode cL_isSo 493 = .ok (.ishr, 1) := by decide +kernel
theorem dL_isSo_494 : decode cL_isSo 494 = .ok (.iconst 1, 1) := by decide +kernel
theorem dL_isSo_495 : decode cL_isSo 495 = .ok (.iand, 1) := by decide +kernel
theorem dL_isSo_496 : decode cL_isSo 496 = .ok (.ifCond .ne 29, 3) := by decide +kernel
theorem dL_isSo_499 : decode cL_isSo 499 = .ok (.aload_n 2, 1) := by decide +kernel
theorem dL_isSo_500 : decode cL_isSo 500 = .ok (.iload 11, 2) := by decide +kernel
theorem dL_isSo_502 : decode cL_isSo 502 = .ok (.iaload, 1) := by decide +kernel
theorem dL_isSo_503 : decode cL_isSo 503 = .ok (.iload 10, 2) := by decide +kernel
theorem dL_isSo_505 : decode cL_isSo 505 = .ok (.iconst (-1), 1) := by decide +kernel
theorem dL_isSo_506 : decode cL_isSo 506 = .ok (.ixor, 1) := by decide +kernel
theorem dL_isSo_507 : decode cL_isSo 507 = .ok (.iand, 1) := by decide +kernel
theorem dL_isSo_508 : decode cL_isSo 508 = .ok (.iconst 1, 1) := by decide +kernel
theorem dL_isSo_509 : decode cL_isSo 509 = .ok (.iload 13, 2) := by decide +kernel
theorem dL_isSo_511 : decode cL_isSo 511 = .ok (.ishl, 1) := by decide +kernel
theorem dL_isSo_512 : decode cL_isSo 512 = .ok (.iand, 1) := by decide +kernel
theorem dL_isSo_513 : decode cL_isSo 513 = .ok (.ifCond .eq 12, 3) := by decide +kernel
theorem dL_isSo_516 : decode cL_isSo 516 = .ok (.aload_n 0, 1) := by decide +kernel
theorem dL_isSo_517 : decode cL_isSo 517 = .ok (.iload 13, 2) := by decide +kernel
theorem dL_isSo_519 : decode cL_isSo 519 = .ok (.invokevirtual 15, 3) := by decide +kernel
theorem dL_isSo_522 : decode cL_isSo 522 = .ok (.goto 5, 3) := by decide +kernel
theorem dL_isSo_525 : decode cL_isSo 525 = .ok (.iload 12, 2) := by decide +kernel
theorem dL_isSo_527 : decode cL_isSo 527 = .ok (.istore 12, 2) := by decide +kernel
theorem dL_isSo_529 : decode cL_isSo 529 = .ok (.iinc 13 (-1), 3) := by decide +kernel
theorem dL_isSo_532 : decode cL_isSo 532 = .ok (.goto (-48), 3) := by decide +kernel
theorem dL_isSo_535 : decode cL_isSo 535 = .ok (.aload_n 0, 1) := by decide +kernel
theorem dL_isSo_536 : decode cL_isSo 536 = .ok (.aload_n 0, 1) := by decide +kernel
theorem dL_isSo_537 : decode cL_isSo 537 = .ok (.iload 11, 2) := by decide +kernel
theorem dL_isSo_539 : decode cL_isSo 539 = .ok (.invokevirtual 15, 3) := by decide +kernel
theorem dL_isSo_542 : decode cL_isSo 542 = .ok (.invokevirtual 70, 3) := by decide +kernel
theorem dL_isSo_545 : decode cL_isSo 545 = .ok (.iload 12, 2) := by decide +kernel
theorem dL_isSo_547 : decode cL_isSo 547 = .ok (.if_icmp .ne 31, 3) := by decide +kernel
theorem dL_isSo_550 : decode cL_isSo 550 = .ok (.aload_n 0, 1) := by decide +kernel
theorem dL_isSo_551 : decode cL_isSo 551 = .ok (.aload_n 0, 1) := by decide +kernel
theorem dL_isSo_552 : decode cL_isSo 552 = .ok (.iload 11, 2) := by decide +kernel
theorem dL_isSo_554 : decode cL_isSo 554 = .ok (.invokevirtual 15, 3) := by decide +kernel
theorem dL_isSo_557 : decode cL_isSo 557 = .ok (.invokevirtual 73, 3) := by decide +kernel
theorem dL_isSo_560 : decode cL_isSo 560 = .ok (.aload_n 0, 1) := by decide +kernel
theorem dL_isSo_561 : decode cL_isSo 561 = .ok (.aload_n 1, 1) := by decide +kernel
theorem dL_isSo_562 : decode cL_isSo 562 = .ok (.aload_n 2, 1) := by decide +kernel
theorem dL_isSo_563 : decode cL_isSo 563 = .ok (.iload_n 3, 1) := by decide +kernel
theorem dL_isSo_564 : decode cL_isSo 564 = .ok (.iconst 1, 1) := by decide +kernel
theorem dL_isSo_565 : decode cL_isSo 565 = .ok (.iload 11, 2) := by decide +kernel
theorem dL_isSo_567 : decode cL_isSo 567 = .ok (.ishl, 1) := by decide +kernel
theorem dL_isSo_568 : decode cL_isSo 568 = .ok (.iconst 0, 1) := by decide +kernel
theorem dL_isSo_569 : decode cL_isSo 569 = .ok (.invokestatic 67, 3) := by decide +kernel
theorem dL_isSo_572 : decode cL_isSo 572 = .ok (.invokestatic 56, 3) := by decide +kernel
theorem dL_isSo_575 : decode cL_isSo 575 = .ok (.if_icmp .eq 5, 3) := by decide +kernel
theorem dL_isSo_578 : decode cL_isSo 578 = .ok (.iconst 0, 1) := by decide +kernel
theorem dL_isSo_579 : decode cL_isSo 579 = .ok (.ireturn, 1) := by decide +kernel
theorem dL_isSo_580 : decode cL_isSo 580 = .ok (.iinc 11 1, 3) := by decide +kernel
theorem dL_isSo_583 : decode cL_isSo 583 = .ok (.goto (-119), 3) := by decide +kernel
theorem dL_isSo_586 : decode cL_isSo 586 = .ok (.iload 10, 2) := by decide +kernel
theorem dL_isSo_588 : decode cL_isSo 588 = .ok (.ifCond .lt 128, 3) := by decide +kernel
theorem dL_isSo_591 : decode cL_isSo 591 = .ok (.aload_n 0, 1) := by decide +kernel
theorem dL_isSo_592 : decode cL_isSo 592 = .ok (.iconst 2, 1) := by decide +kernel
theorem dL_isSo_593 : decode cL_isSo 593 = .ok (.invokevirtual 9, 3) := by decide +kernel
theorem dL_isSo_596 : decode cL_isSo 596 = .ok (.iload 4, 2) := by decide +kernel
theorem dL_isSo_598 : decode cL_isSo 598 = .ok (.if_icmp .ne 118, 3) := by decide +kernel
theorem dL_isSo_601 : decode cL_isSo 601 = .ok (.aload_n 0, 1) := by decide +kernel
theorem dL_isSo_602 : decode cL_isSo 602 = .ok (.iconst 3, 1) := by decide +kernel
theorem dL_isSo_603 : decode cL_isSo 603 = .ok (.invokevirtual 9, 3) := by decide +kernel
theorem dL_isSo_606 : decode cL_isSo 606 = .ok (.iload 10, 2) := by decide +kernel
theorem dL_isSo_608 : decode cL_isSo 608 = .ok (.invokestatic 56, 3) := by decide +kernel
theorem dL_isSo_611 : decode cL_isSo 611 = .ok (.if_icmp .ne 105, 3) := by decide +kernel
theorem dL_isSo_614 : decode cL_isSo 614 = .ok (.aload_n 0, 1) := by decide +kernel
theorem dL_isSo_615 : decode cL_isSo 615 = .ok (.iconst 4, 1) := by decide +kernel
theorem dL_isSo_616 : decode cL_isSo 616 = .ok (.invokevirtual 9, 3) := by decide +kernel
theorem dL_isSo_619 : decode cL_isSo 619 = .ok (.iload 5, 2) := by decide +kernel
theorem dL_isSo_621 : decode cL_isSo 621 = .ok (.if_icmp .ne 95, 3) := by decide +kernel
theorem dL_isSo_624 : decode cL_isSo 624 = .ok (.aload_n 0, 1) := by decide +kernel
theorem dL_isSo_625 : decode cL_isSo 625 = .ok (.iconst 5, 1) := by decide +kernel
theorem dL_isSo_626 : decode cL_isSo 626 = .ok (.invokevirtual 9, 3) := by decide +kernel
theorem dL_isSo_629 : decode cL_isSo 629 = .ok (.iload 6, 2) := by decide +kernel
theorem dL_isSo_631 : decode cL_isSo 631 = .ok (.if_icmp .ne 85, 3) := by decide +kernel
theorem dL_isSo_634 : decode cL_isSo 634 = .ok (.aload_n 0, 1) := by decide +kernel
theorem dL_isSo_635 : decode cL_isSo 635 = .ok (.bipush 6, 2) := by decide +kernel
theorem dL_isSo_637 : decode cL_isSo 637 = .ok (.invokevirtual 9, 3) := by decide +kernel
theorem dL_isSo_640 : decode cL_isSo 640 = .ok (.iload 9, 2) := by decide +kernel
theorem dL_isSo_642 : decode cL_isSo 642 = .ok (.if_icmp .ne 74, 3) := by decide +kernel
theorem dL_isSo_645 : decode cL_isSo 645 = .ok (.aload_n 0, 1) := by decide +kernel
theorem dL_isSo_646 : decode cL_isSo 646 = .ok (.bipush 8, 2) := by decide +kernel
theorem dL_isSo_648 : decode cL_isSo 648 = .ok (.invokevirtual 9, 3) := by decide +kernel
theorem dL_isSo_651 : decode cL_isSo 651 = .ok (.iload 7, 2) := by decide +kernel
theorem dL_isSo_653 : decode cL_isSo 653 = .ok (.if_icmp .ne 63, 3) := by decide +kernel
theorem dL_isSo_656 : decode cL_isSo 656 = .ok (.aload_n 0, 1) := by decide +kernel
theorem dL_isSo_657 : decode cL_isSo 657 = .ok (.bipush 9, 2) := by decide +kernel
theorem dL_isSo_659 : decode cL_isSo 659 = .ok (.invokevirtual 9, 3) := by decide +kernel
theorem dL_isSo_662 : decode cL_isSo 662 = .ok (.iload 8, 2) := by decide +kernel
theorem dL_isSo_664 : decode cL_isSo 664 = .ok (.if_icmp .ne 52, 3) := by decide +kernel
theorem dL_isSo_667 : decode cL_isSo 667 = .ok (.aload_n 0, 1) := by decide +kernel
theorem dL_isSo_668 : decode cL_isSo 668 = .ok (.iload_n 3, 1) := by decide +kernel
theorem dL_isSo_669 : decode cL_isSo 669 = .ok (.invokevirtual 15, 3) := by decide +kernel
theorem dL_isSo_672 : decode cL_isSo 672 = .ok (.bipush (-5), 2) := by decide +kernel
theorem dL_isSo_674 : decode cL_isSo 674 = .ok (.if_icmp .ne 42, 3) := by decide +kernel
theorem dL_isSo_677 : decode cL_isSo 677 = .ok (.aload_n 0, 1) := by decide +kernel
theorem dL_isSo_678 : decode cL_isSo 678 = .ok (.iconst (-1), 1) := by decide +kernel
theorem dL_isSo_679 : decode cL_isSo 679 = .ok (.invokevirtual 15, 3) := by decide +kernel
theorem dL_isSo_682 : decode cL_isSo 682 = .ok (.bipush (-2), 2) := by decide +kernel
theorem dL_isSo_684 : decode cL_isSo 684 = .ok (.if_icmp .ne 32, 3) := by decide +kernel
theorem dL_isSo_687 : decode cL_isSo 687 = .ok (.iload 5, 2) := by decide +kernel
theorem dL_isSo_689 : decode cL_isSo 689 = .ok (.ifCond .gt 12, 3) := by decide +kernel
theorem dL_isSo_692 : decode cL_isSo 692 = .ok (.aload_n 0, 1) := by decide +kernel
theorem dL_isSo_693 : decode cL_isSo 693 = .ok (.iconst 3, 1) := by decide +kernel
theorem dL_isSo_694 : decode cL_isSo 694 = .ok (.invokevirtual 9, 3) := by decide +kernel
theorem dL_isSo_697 : decode cL_isSo 697 = .ok (.iload_n 3, 1) := by decide +kernel
theorem dL_isSo_698 : decode cL_isSo 698 = .ok (.if_icmp .ne 18, 3) := by decide +kernel
theorem dL_isSo_701 : decode cL_isSo 701 = .ok (.aload_n 0, 1) := by decide +kernel
theorem dL_isSo_702 : decode cL_isSo 702 = .ok (.bipush 13, 2) := by decide +kernel
theorem dL_isSo_704 : decode cL_isSo 704 = .ok (.invokevirtual 9, 3) := by decide +kernel
theorem dL_isSo_707 : decode cL_isSo 707 = .ok (.bipush (-2), 2) := by decide +kernel
theorem dL_isSo_709 : decode cL_isSo 709 = .ok (.if_icmp .ne 7, 3) := by decide +kernel
theorem dL_isSo_712 : decode cL_isSo 712 = .ok (.iconst 1, 1) := by decide +kernel
theorem dL_isSo_713 : decode cL_isSo 713 = .ok (.goto 4, 3) := by decide +kernel
theorem dL_isSo_716 : decode cL_isSo 716 = .ok (.iconst 0, 1) := by decide +kernel
theorem dL_isSo_717 : decode cL_isSo 717 = .ok (.ireturn, 1) := by decide +kernel
set_option maxRecDepth 20000 in
theorem ggL_act_X5_total : GoodIn wsL_act wsX5_total := goodIn_r _ [5, 6, 7, 8, 9, 10, 11, 12, 13, 14, 15, 16, 17, 18, 4, 19, 20, 21, 22, 23, 24, 25, 26, 27, 28, 29, 30, 31, 32, 33, 34, 35, 36, 37, 38, 39, 40, 41, 42, 43, 44, 45, 46, 47, 48, 49, 50, 51, 52, 53, 54, 55, 56, 57, 58, 59, 60, 61, 62, 63, 64, 65, 66, 67, 68, 69, 70, 71, 72, 73, 74, 75, 76, 77, 78, 79, 80, 81, 82, 83, 84, 85, 86, 87, 88, 89, 90, 91, 92, 93, 94, 95, 96, 97, 98, 99, 100, 101, 102, 103, 104, 105, 106, 107, 108, 109, 110, 111, 112, 113, 114, 115, 116, 117, 118, 119, 120, 121, 122, 123, 124, 125, 126, 127, 128, 129, 130, 131, 132, 133, 134, 135, 136, 137, 138, 139, 140, 141, 142, 143, 144, 145, 146, 147, 148, 149, 150, 151, 152, 153, 154, 155, 156, 157, 158, 159, 160, 161, 162, 163, 164, 165, 166, 167, 168, 169, 170, 171, 172, 173, 324, 325, 326, 327, 328, 329, 330, 331, 332, 333, 334, 335, 336, 337, 338, 339, 340, 341, 342, 343, 344, 345, 346, 347, 348, 349, 350, 351, 352, 353] (by decide +kernel) (by decide +kernel)
set_option maxRecDepth 20000 in
theorem gL_act_X5_total : GoodIn wsL_act (wsV RL 9 RX5 yX5_total wsX5_total) := goodIn_app (goodIn_of _ (by decide +kernel)) ggL_act_X5_total
set_option maxRecDepth 20000 in
theorem ggL_act_L_low : GoodIn wsL_act wsL_low := goodIn_r _ [177, 178] (by decide +kernel) (by decide +kernel)
set_option maxRecDepth 20000 in
theorem gL_act_L_low : GoodIn wsL_act (va_wsS RL 76 yL_low wsL_low) := goodIn_app (goodIn_of _ (by decide +kernel)) ggL_act_L_low
set_option maxRecDepth 20000 in
theorem ggL_act_X5_box : GoodIn wsL_act wsX5_box := goodIn_r _ [182, 6, 7, 183, 184, 324, 325, 326, 327, 328, 329, 330, 331, 332, 333, 334, 335, 336, 337, 351, 352, 353] (by decide +kernel) (by decide +kernel)
set_option maxRecDepth 20000 in
theorem gL_act_X5_box : GoodIn wsL_act (wsV RL 15 RX5 yX5_box wsX5_box) := goodIn_app (goodIn_of _ (by decide +kernel)) ggL_act_X5_box
set_option maxRecDepth 20000 in
theorem ggL_act_X5_remove : GoodIn wsL_act wsX5_remove := goodIn_r _ [188, 6, 183, 189, 190, 191, 192, 79, 193, 146, 82, 194, 195, 88, 89, 36, 90, 91, 92, 93, 94, 39, 38, 196, 197, 198, 199, 200, 201, 81, 202, 203, 204, 205, 206, 207, 54, 55, 56, 208, 209, 210, 211, 212, 213, 214, 4, 215, 12, 216, 217, 218, 219, 220, 221, 222, 223, 224, 225, 226, 227, 324, 325, 326, 327, 328, 329, 330, 331, 332, 333, 334, 335, 336, 337, 351, 352, 353, 345, 346] (by decide +kernel) (by decide +kernel)
set_option maxRecDepth 20000 in
theorem gL_act_X5_remove : GoodIn wsL_act (wsV RL 79 RX5 yX5_remove wsX5_remove) := goodIn_app (goodIn_of _ (by decide +kernel)) ggL_act_X5_remove
set_option maxRecDepth 20000 in
theorem ggL_act_X5_add : GoodIn wsL_act wsX5_add := goodIn_r _ [231, 189, 6, 196, 197, 198, 79, 199, 146, 200, 201, 81, 82, 202, 203, 204, 36, 205, 206, 38, 207, 54, 55, 56, 39, 232, 233, 234, 4, 235, 236, 237, 238, 239, 240, 241, 242, 243, 244, 245, 246, 247, 248, 161, 162, 163, 164, 249, 250, 251, 252, 253, 254, 255, 256, 194, 257, 212, 213, 214, 215, 12, 216, 217, 218, 219, 220, 221, 222, 223, 224, 225, 226, 227, 324, 325, 326, 327, 328, 329, 330, 331, 332, 333, 334, 335, 336, 337, 351, 352, 353, 345, 346] (by decide +kernel) (by decide +kernel)
set_option maxRecDepth 20000 in
theorem gL_act_X5_add : GoodIn wsL_act (wsV RL 82 RX5 yX5_add wsX5_add) := goodIn_app (goodIn_of _ (by decide +kernel)) ggL_act_X5_add
set_option maxRecDepth 20000 in
theorem ggL_act_X5_move : GoodIn wsL_act wsX5_move := goodIn_r _ [261, 6, 189, 183, 262, 263, 190, 191, 192, 79, 193, 146, 82, 194, 264, 265, 4, 266, 196, 197, 198, 199, 200, 201, 81, 202, 203, 204, 36, 205, 206, 38, 207, 54, 55, 56, 39, 267, 268, 269, 270, 241, 242, 243, 244, 245, 246, 247, 248, 161, 162, 163, 164, 212, 213, 214, 215, 12, 216, 217, 218, 219, 220, 221, 222, 223, 224, 225, 226, 227, 324, 325, 326, 327, 328, 329, 330, 331, 332, 333, 334, 335, 336, 337, 351, 352, 353, 345, 346] (by decide +kernel) (by decide +kernel)
set_option maxRecDepth 20000 in
theorem gL_act_X5_move : GoodIn wsL_act (wsV RL 86 RX5 yX5_move wsX5_move) := goodIn_app (goodIn_of _ (by decide +kernel)) ggL_act_X5_move
set_option maxRecDepth 20000 in
theorem ggL_act_X5_fall : GoodIn wsL_act wsX5_fall := goodIn_r _ [274, 6, 183, 262, 189, 190, 191, 192, 79, 193, 146, 82, 194, 275, 276, 277, 278, 156, 279, 100, 101, 102, 157, 158, 159, 36, 160, 39, 38, 161, 162, 163, 164, 196, 197, 198, 199, 200, 201, 81, 202, 203, 204, 205, 206, 207, 54, 55, 56, 267, 268, 269, 270, 212, 213, 214, 4, 215, 12, 216, 217, 218, 219, 220, 221, 222, 223, 224, 225, 226, 227, 324, 325, 326, 327, 328, 329, 330, 331, 332, 333, 334, 335, 336, 337, 351, 352, 353, 345, 346] (by decide +kernel) (by decide +kernel)
set_option maxRecDepth 20000 in
theorem gL_act_X5_fall : GoodIn wsL_act (wsV RL 90 RX5 yX5_fall wsX5_fall) := goodIn_app (goodIn_of _ (by decide +kernel)) ggL_act_X5_fall
set_option maxRecDepth 20000 in
theorem ggL_act_X5_split : GoodIn wsL_act wsX5_split := goodIn_r _ [283, 6, 183, 262, 263, 189, 190, 191, 192, 79, 193, 146, 82, 194, 264, 265, 4, 266, 249, 250, 251, 252, 196, 197, 198, 199, 200, 201, 81, 202, 203, 204, 36, 205, 206, 38, 207, 54, 55, 56, 39, 284, 285, 286, 287, 155, 156, 288, 254, 255, 256, 257, 212, 213, 214, 215, 12, 216, 217, 218, 219, 220, 221, 222, 223, 224, 225, 226, 227, 324, 325, 326, 327, 328, 329, 330, 331, 332, 333, 334, 335, 336, 337, 351, 352, 353, 345, 346] (by decide +kernel) (by decide +kernel)
set_option maxRecDepth 20000 in
theorem gL_act_X5_split : GoodIn wsL_act (wsV RL 93 RX5 yX5_split wsX5_split) := goodIn_app (goodIn_of _ (by decide +kernel)) ggL_act_X5_split
set_option maxRecDepth 20000 in
theorem ggL_act_X5_breakRing : GoodIn wsL_act wsX5_breakRing := goodIn_r _ [292, 189, 6, 196, 197, 198, 79, 199, 146, 200, 201, 81, 82, 202, 203, 204, 36, 205, 206, 38, 207, 54, 55, 56, 39, 293, 294, 295, 4, 296, 20, 183, 262, 21, 22, 23, 24, 25, 26, 27, 28, 29, 30, 31, 32, 33, 34, 35, 37, 40, 41, 42, 43, 44, 45, 46, 47, 48, 49, 50, 51, 52, 53, 57, 58, 59, 60, 61, 62, 63, 64, 65, 66, 67, 68, 69, 70, 71, 72, 73, 74, 75, 76, 77, 78, 80, 83, 84, 85, 86, 87, 88, 89, 90, 91, 92, 93, 94, 95, 96, 97, 98, 99, 100, 101, 102, 297, 298, 299, 300, 122, 123, 124, 125, 301, 302, 303, 304, 305, 306, 249, 250, 251, 252, 284, 285, 286, 287, 155, 156, 288, 254, 255, 256, 194, 257, 212, 213, 214, 215, 12, 216, 217, 218, 219, 220, 221, 222, 223, 224, 225, 226, 227, 324, 325, 326, 327, 328, 329, 330, 331, 332, 333, 334, 335, 336, 337, 351, 352, 353, 338, 339, 340, 341, 342, 343, 344, 345, 346] (by decide +kernel) (by decide +kernel)
set_option maxRecDepth 20000 in
theorem gL_act_X5_breakRing : GoodIn wsL_act (wsV RL 96 RX5 yX5_breakRing wsX5_breakRing) := goodIn_app (goodIn_of _ (by decide +kernel)) ggL_act_X5_breakRing
set_option maxRecDepth 20000 in
theorem ggL_act_X5_turn : GoodIn wsL_act wsX5_turn := goodIn_r _ [310, 6, 7, 189, 20, 311, 196, 197, 198, 79, 199, 146, 200, 201, 81, 82, 202, 203, 204, 36, 205, 206, 38, 207, 54, 55, 56, 39, 312, 313, 314, 315, 155, 156, 21, 22, 23, 24, 25, 26, 27, 28, 29, 30, 31, 32, 33, 34, 35, 37, 40, 41, 42, 43, 44, 45, 46, 47, 48, 49, 50, 51, 52, 53, 57, 58, 59, 60, 61, 62, 63, 64, 65, 66, 67, 68, 69, 70, 71, 72, 73, 74, 75, 76, 77, 78, 80, 83, 84, 85, 86, 87, 88, 89, 90, 91, 92, 93, 94, 95, 96, 97, 98, 99, 100, 101, 102, 316, 317, 318, 319, 111, 112, 113, 114, 115, 116, 117, 212, 213, 214, 4, 215, 12, 216, 217, 218, 219, 220, 221, 222, 223, 224, 225, 226, 227, 324, 325, 326, 327, 328, 329, 330, 331, 332, 333, 334, 335, 336, 337, 351, 352, 353, 338, 339, 340, 341, 342, 343, 344, 345, 346] (by decide +kernel) (by decide +kernel)
set_option maxRecDepth 20000 in
theorem gL_act_X5_turn : GoodIn wsL_act (wsV RL 100 RX5 yX5_turn wsX5_turn) := goodIn_app (goodIn_of _ (by decide +kernel)) ggL_act_X5_turn
set_option maxRecDepth 20000 in
theorem ggL_act_X5_set : GoodIn wsL_act wsX5_set := goodIn_r _ [323, 6, 11, 189, 196, 197, 198, 79, 199, 146, 200, 201, 81, 82, 202, 203, 204, 36, 205, 206, 38, 207, 54, 55, 56, 39, 212, 213, 214, 4, 215, 12, 216, 217, 218, 219, 220, 221, 222, 223, 224, 225, 226, 227, 324, 325, 326, 327, 328, 329, 330, 331, 332, 333, 334, 335, 336, 337, 351, 352, 353, 345, 346] (by decide +kernel) (by decide +kernel)
set_option maxRecDepth 20000 in
theorem gL_act_X5_set : GoodIn wsL_act (wsV RL 103 RX5 yX5_set wsX5_set) := goodIn_app (goodIn_of _ (by decide +kernel)) ggL_act_X5_set
theorem dL_act_0 : decode cL_act 0 = .ok (.aload_n 0, 1) := by decide +kernel
theorem dL_act_1 : decode cL_act 1 = .ok (.iconst 0, 1) := by decide +kernel
theorem dL_act_2 : decode cL_act 2 = .ok (.invokevirtual 9, 3) := by decide +kernel
theorem dL_act_5 : decode cL_act 5 = .ok (.istore_n 3, 1) := by decide +kernel
theorem dL_act_6 : decode cL_act 6 = .ok (.iload_n 3, 1) := by decide +kernel
theorem dL_act_7 : decode cL_act 7 = .ok (.ifCond .ne 7, 3) := by decide +kernel
theorem dL_act_10 : decode cL_act 10 = .ok (.iconst 0, 1) := by decide +kernel
theorem dL_act_11 : decode cL_act 11 = .ok (.goto 12, 3) := by decide +kernel
theorem dL_act_14 : decode cL_act 14 = .ok (.aload_n 0, 1) := by decide +kernel
theorem dL_act_15 : decode cL_act 15 = .ok (.iload_n 2, 1) := by decide +kernel
theorem dL_act_16 : decode cL_act 16 = .ok (.iload_n 3, 1) := by decide +kernel
theorem dL_act_17 : decode cL_act 17 = .ok (.invokestatic 76, 3) := by decide +kernel
theorem dL_act_20 : decode cL_act 20 = .ok (.invokevirtual 15, 3) := by decide +kernel
theorem dL_act_23 : decode cL_act 23 = .ok (.istore 4, 2) := by decide +kernel
theorem dL_act_25 : decode cL_act 25 = .ok (.iload_n 2, 1) := by decide +kernel
theorem dL_act_26 : decode cL_act 26 = .ok (.iconst 4, 1) := by decide +kernel
theorem dL_act_27 : decode cL_act 27 = .ok (.ishr, 1) := by decide +kernel
theorem dL_act_28 : decode cL_act 28 = .ok (.iconst 3, 1) := by decide +kernel
theorem dL_act_29 : decode cL_act 29 = .ok (.invokestatic 76, 3) := by decide +kernel
theorem dL_act_32 : decode cL_act 32 = .ok (.istore 5, 2) := by decide +kernel
theorem dL_act_34 : decode cL_act 34 = .ok (.iload_n 1, 1) := by decide +kernel
theorem dL_act_35 : decode cL_act 35 = .ok (.bipush 12, 2) := by decide +kernel
theorem dL_act_37 : decode cL_act 37 = .ok (.invokestatic 76, 3) := by decide +kernel
theorem dL_act_40 : decode cL_act 40 = .ok (.tableswitch 261 0 10 #[60, 60, 60, 60, 174, 181, 181, 201, 208, 241, 256], 60) := by decide +kernel
theorem dL_act_100 : decode cL_act 100 = .ok (.iload_n 1, 1) := by decide +kernel
theorem dL_act_101 : decode cL_act 101 = .ok (.iconst 4, 1) := by decide +kernel
theorem dL_act_102 : decode cL_act 102 = .ok (.ishr, 1) := by decide +kernel
theorem dL_act_103 : decode cL_act 103 = .ok (.iconst 4, 1) := by decide +kernel
theorem dL_act_104 : decode cL_act 104 = .ok (.invokestatic 76, 3) := by decide +kernel
theorem dL_act_107 : decode cL_act 107 = .ok (.istore 6, 2) := by decide +kernel
theorem dL_act_109 : decode cL_act 109 = .ok (.iload_n 3, 1) := by decide +kernel
theorem dL_act_110 : decode cL_act 110 = .ok (.bipush 10, 2) := by decide +kernel
theorem dL_act_112 : decode cL_act 112 = .ok (.if_icmp .ne 12, 3) := by decide +kernel
theorem dL_act_115 : decode cL_act 115 = .ok (.aload_n 0, 1) := by decide +kernel
theorem dL_act_116 : decode cL_act 116 = .ok (.iload 4, 2) := by decide +kernel
theorem dL_act_118 : decode cL_act 118 = .ok (.invokevirtual 79, 3) := by decide +kernel
theorem dL_act_121 : decode cL_act 121 = .ok (.goto 92, 3) := by decide +kernel
theorem dL_act_124 : decode cL_act 124 = .ok (.aload_n 0, 1) := by decide +kernel
theorem dL_act_125 : decode cL_act 125 = .ok (.iload_n 2, 1) := by decide +kernel
theorem dL_act_126 : decode cL_act 126 = .ok (.bipush 7, 2) := by decide +kernel
theorem dL_act_128 : decode cL_act 128 = .ok (.invokestatic 76, 3) := by decide +kernel
theorem dL_act_131 : decode cL_act 131 = .ok (.iload_n 2, 1) := by decide +kernel
theorem dL_act_132 : decode cL_act 132 = .ok (.iconst 3, 1) := by decide +kernel
theorem dL_act_133 : decode cL_act 133 = .ok (.ishr, 1) := by decide +kernel
theorem dL_act_134 : decode cL_act 134 = .ok (.bipush 7, 2) := by decide +kernel
theorem dL_act_136 : decode cL_act 136 = .ok (.invokestatic 76, 3) := by decide +kernel
theorem dL_act_139 : decode cL_act 139 = .ok (.iload_n 2, 1) := by decide +kernel
theorem dL_act_140 : decode cL_act 140 = .ok (.bipush 6, 2) := by decide +kernel
theorem dL_act_142 : decode cL_act 142 = .ok (.ishr, 1) := by decide +kernel
theorem dL_act_143 : decode cL_act 143 = .ok (.bipush 7, 2) := by decide +kernel
theorem dL_act_145 : decode cL_act 145 = .ok (.invokestatic 76, 3) := by decide +kernel
theorem dL_act_148 : decode cL_act 148 = .ok (.iload 6, 2) := by decide +kernel
theorem dL_act_150 : decode cL_act 150 = .ok (.ifCond .ne 8, 3) := by decide +kernel
theorem dL_act_153 : decode cL_act 153 = .ok (.bipush 8, 2) := by decide +kernel
theorem dL_act_155 : decode cL_act 155 = .ok (.goto 13, 3) := by decide +kernel
theorem dL_act_158 : decode cL_act 158 = .ok (.iconst 1, 1) := by decide +kernel
theorem dL_act_159 : decode cL_act 159 = .ok (.iload_n 2, 1) := by decide +kernel
theorem dL_act_160 : decode cL_act 160 = .ok (.bipush 9, 2) := by decide +kernel
theorem dL_act_162 : decode cL_act 162 = .ok (.ishr, 1) := by decide +kernel
theorem dL_act_163 : decode cL_act 163 = .ok (.iconst 3, 1) := by decide +kernel
theorem dL_act_164 : decode cL_act 164 = .ok (.invokestatic 76, 3) := by decide +kernel
theorem dL_act_167 : decode cL_act 167 = .ok (.iadd, 1) := by decide +kernel
theorem dL_act_168 : decode cL_act 168 = .ok (.iload 6, 2) := by decide +kernel
theorem dL_act_170 : decode cL_act 170 = .ok (.iconst 1, 1) := by decide +kernel
theorem dL_act_171 : decode cL_act 171 = .ok (.if_icmp .ne 8, 3) := by decide +kernel
theorem dL_act_174 : decode cL_act 174 = .ok (.bipush 8, 2) := by decide +kernel
theorem dL_act_176 : decode cL_act 176 = .ok (.goto 13, 3) := by decide +kernel
theorem dL_act_179 : decode cL_act 179 = .ok (.iconst 1, 1) := by decide +kernel
theorem dL_act_180 : decode cL_act 180 = .ok (.iload_n 2, 1) := by decide +kernel
theorem dL_act_181 : decode cL_act 181 = .ok (.bipush 11, 2) := by decide +kernel
theorem dL_act_183 : decode cL_act 183 = .ok (.ishr, 1) := by decide +kernel
theorem dL_act_184 : decode cL_act 184 = .ok (.iconst 3, 1) := by decide +kernel
theorem dL_act_185 : decode cL_act 185 = .ok (.invokestatic 76, 3) := by decide +kernel
theorem dL_act_188 : decode cL_act 188 = .ok (.iadd, 1) := by decide +kernel
theorem dL_act_189 : decode cL_act 189 = .ok (.iload 6, 2) := by decide +kernel
theorem dL_act_191 : decode cL_act 191 = .ok (.iconst 2, 1) := by decide +kernel
theorem dL_act_192 : decode cL_act 192 = .ok (.if_icmp .ne 8, 3) := by decide +kernel
theorem dL_act_195 : decode cL_act 195 = .ok (.bipush 8, 2) := by decide +kernel
theorem dL_act_197 : decode cL_act 197 = .ok (.goto 13, 3) := by decide +kernel
theorem dL_act_200 : decode cL_act 200 = .ok (.iconst 1, 1) := by decide +kernel
theorem dL_act_201 : decode cL_act 201 = .ok (.iload_n 2, 1) := by decide +kernel
theorem dL_act_202 : decode cL_act 202 = .ok (.bipush 13, 2) := by decide +kernel
theorem dL_act_204 : decode cL_act 204 = .ok (.ishr, 1) := by decide +kernel
theorem dL_act_205 : decode cL_act 205 = .ok (.iconst 3, 1) := by decide +kernel
theorem dL_act_206 : decode cL_act 206 = .ok (.invokestatic 76, 3) := by decide +kernel
theorem dL_act_209 : decode cL_act 209 = .ok (.iadd, 1) := by decide +kernel
theorem dL_act_210 : decode cL_act 210 = .ok (.invokevirtual 82, 3) := by decide +kernel
theorem dL_act_213 : decode cL_act 213 = .ok (.ireturn, 1) := by decide +kernel
theorem dL_act_214 : decode cL_act 214 = .ok (.aload_n 0, 1) := by decide +kernel
theorem dL_act_215 : decode cL_act 215 = .ok (.iload 4, 2) := by decide +kernel
theorem dL_act_217 : decode cL_act 217 = .ok (.invokevirtual 79, 3) := by decide +kernel
theorem dL_act_220 : decode cL_act 220 = .ok (.ireturn, 1) := by decide +kernel
theorem dL_act_221 : decode cL_act 221 = .ok (.aload_n 0, 1) := by decide +kernel
theorem dL_act_222 : decode cL_act 222 = .ok (.iload 4, 2) := by decide +kernel
theorem dL_act_224 : decode cL_act 224 = .ok (.iload 5, 2) := by decide +kernel
theorem dL_act_226 : decode cL_act 226 = .ok (.iload_n 2, 1) := by decide +kernel
theorem dL_act_227 : decode cL_act 227 = .ok (.bipush 6, 2) := by decide +kernel
theorem dL_act_229 : decode cL_act 229 = .ok (.ishr, 1) := by decide +kernel
theorem dL_act_230 : decode cL_act 230 = .ok (.bipush 9, 2) := by decide +kernel
theorem dL_act_232 : decode cL_act 232 = .ok (.invokestatic 76, 3) := by decide +kernel
theorem dL_act_235 : decode cL_act 235 = .ok (.iconst 4, 1) := by decide +kernel
theorem dL_act_236 : decode cL_act 236 = .ok (.isub, 1) := by decide +kernel
theorem dL_act_237 : decode cL_act 237 = .ok (.invokevirtual 86, 3) := by decide +kernel
theorem dL_act_240 : decode cL_act 240 = .ok (.ireturn, 1) := by decide +kernel
theorem dL_act_241 : decode cL_act 241 = .ok (.aload_n 0, 1) := by decide +kernel
theorem dL_act_242 : decode cL_act 242 = .ok (.iload 4, 2) := by decide +kernel
theorem dL_act_244 : decode cL_act 244 = .ok (.invokevirtual 90, 3) := by decide +kernel
theorem dL_act_247 : decode cL_act 247 = .ok (.ireturn, 1) := by decide +kernel
theorem dL_act_248 : decode cL_act 248 = .ok (.iload_n 3, 1) := by decide +kernel
theorem dL_act_249 : decode cL_act 249 = .ok (.bipush 10, 2) := by decide +kernel
theorem dL_act_251 : decode cL_act 251 = .ok (.if_icmp .ne 12, 3) := by decide +kernel
theorem dL_act_254 : decode cL_act 254 = .ok (.aload_n 0, 1) := by decide +kernel
theorem dL_act_255 : decode cL_act 255 = .ok (.iload 4, 2) := by decide +kernel
theorem dL_act_257 : decode cL_act 257 = .ok (.invokevirtual 90, 3) := by decide +kernel
theorem dL_act_260 : decode cL_act 260 = .ok (.goto 20, 3) := by decide +kernel
theorem dL_act_263 : decode cL_act 263 = .ok (.aload_n 0, 1) := by decide +kernel
theorem dL_act_264 : decode cL_act 264 = .ok (.iload 4, 2) := by decide +kernel
theorem dL_act_266 : decode cL_act 266 = .ok (.iload 5, 2) := by decide +kernel
theorem dL_act_268 : decode cL_act 268 = .ok (.iload_n 2, 1) := by decide +kernel
theorem dL_act_269 : decode cL_act 269 = .ok (.bipush 6, 2) := by decide +kernel
theorem dL_act_271 : decode cL_act 271 = .ok (.ishr, 1) := by decide +kernel
theorem dL_act_272 : decode cL_act 272 = .ok (.bipush 14, 2) := by decide +kernel
theorem dL_act_274 : decode cL_act 274 = .ok (.invokestatic 76, 3) := by decide +kernel
theorem dL_act_277 : decode cL_act 277 = .ok (.invokevirtual 93, 3) := by decide +kernel
theorem dL_act_280 : decode cL_act 280 = .ok (.ireturn, 1) := by decide +kernel
theorem dL_act_281 : decode cL_act 281 = .ok (.iload_n 3, 1) := by decide +kernel
theorem dL_act_282 : decode cL_act 282 = .ok (.bipush 10, 2) := by decide +kernel
theorem dL_act_284 : decode cL_act 284 = .ok (.if_icmp .ne 7, 3) := by decide +kernel
theorem dL_act_287 : decode cL_act 287 = .ok (.iconst 0, 1) := by decide +kernel
theorem dL_act_288 : decode cL_act 288 = .ok (.goto 7, 3) := by decide +kernel
theorem dL_act_291 : decode cL_act 291 = .ok (.aload_n 0, 1) := by decide +kernel
theorem dL_act_292 : decode cL_act 292 = .ok (.invokevirtual 96, 3) := by decide +kernel
theorem dL_act_295 : decode cL_act 295 = .ok (.ireturn, 1) := by decide +kernel
theorem dL_act_296 : decode cL_act 296 = .ok (.aload_n 0, 1) := by decide +kernel
theorem dL_act_297 : decode cL_act 297 = .ok (.invokevirtual 100, 3) := by decide +kernel
theorem dL_act_300 : decode cL_act 300 = .ok (.ireturn, 1) := by decide +kernel
theorem dL_act_301 : decode cL_act 301 = .ok (.aload_n 0, 1) := by decide +kernel
theorem dL_act_302 : decode cL_act 302 = .ok (.iconst 0, 1) := by decide +kernel
theorem dL_act_303 : decode cL_act 303 = .ok (.iload_n 2, 1) := by decide +kernel
theorem dL_act_304 : decode cL_act 304 = .ok (.iconst 3, 1) := by decide +kernel
theorem dL_act_305 : decode cL_act 305 = .ok (.invokestatic 76, 3) := by decide +kernel
theorem dL_act_308 : decode cL_act 308 = .ok (.invokevirtual 103, 3) := by decide +kernel
theorem dL_act_311 : decode cL_act 311 = .ok (.ireturn, 1) := by decide +kernel
