theorem d_Model_wide_438 : decode prog_12_method_17_code 438 = .ok (.bipush 22, 2) := by decide +kernel
theorem d_Model_wide_440 : decode prog_12_method_17_code 440 = .ok (.invokestatic 93, 3) := by decide +kernel
theorem d_Model_wide_443 : decode prog_12_method_17_code 443 = .ok (.ixor, 1) := by decide +kernel
theorem d_Model_wide_444 : decode prog_12_method_17_code 444 = .ok (.aload_n 0, 1) := by decide +kernel
theorem d_Model_wide_445 : decode prog_12_method_17_code 445 = .ok (.getfield 35, 3) := by decide +kernel
theorem d_Model_wide_448 : decode prog_12_method_17_code 448 = .ok (.iconst 0, 1) := by decide +kernel
theorem d_Model_wide_449 : decode prog_12_method_17_code 449 = .ok (.iaload, 1) := by decide +kernel
theorem d_Model_wide_450 : decode prog_12_method_17_code 450 = .ok (.aload_n 0, 1) := by decide +kernel
theorem d_Model_wide_451 : decode prog_12_method_17_code 451 = .ok (.getfield 35, 3) := by decide +kernel
theorem d_Model_wide_454 : decode prog_12_method_17_code 454 = .ok (.iconst 1, 1) := by decide +kernel
theorem d_Model_wide_455 : decode prog_12_method_17_code 455 = .ok (.iaload, 1) := by decide +kernel
theorem d_Model_wide_456 : decode prog_12_method_17_code 456 = .ok (.iand, 1) := by decide +kernel
theorem d_Model_wide_457 : decode prog_12_method_17_code 457 = .ok (.aload_n 0, 1) := by decide +kernel
theorem d_Model_wide_458 : decode prog_12_method_17_code 458 = .ok (.getfield 35, 3) := by decide +kernel
theorem d_Model_wide_461 : decode prog_12_method_17_code 461 = .ok (.iconst 0, 1) := by decide +kernel
theorem d_Model_wide_462 : decode prog_12_method_17_code 462 = .ok (.iaload, 1) := by decide +kernel
theorem d_Model_wide_463 : decode prog_12_method_17_code 463 = .ok (.aload_n 0, 1) := by decide +kernel
theorem d_Model_wide_464 : decode prog_12_method_17_code 464 = .ok (.getfield 35, 3) := by decide +kernel
theorem d_Model_wide_467 : decode prog_12_method_17_code 467 = .ok (.iconst 2, 1) := by decide +kernel
theorem d_Model_wide_468 : decode prog_12_method_17_code 468 = .ok (.iaload, 1) := by decide +kernel
theorem d_Model_wide_469 : decode prog_12_method_17_code 469 = .ok (.iand, 1) := by decide +kernel
theorem d_Model_wide_470 : decode prog_12_method_17_code 470 = .ok (.ixor, 1) := by decide +kernel
theorem d_Model_wide_471 : decode prog_12_method_17_code 471 = .ok (.aload_n 0, 1) := by decide +kernel
theorem d_Model_wide_472 : decode prog_12_method_17_code 472 = .ok (.getfield 35, 3) := by decide +kernel
theorem d_Model_wide_475 : decode prog_12_method_17_code 475 = .ok (.iconst 1, 1) := by decide +kernel
theorem d_Model_wide_476 : decode prog_12_method_17_code 476 = .ok (.iaload, 1) := by decide +kernel
theorem d_Model_wide_477 : decode prog_12_method_17_code 477 = .ok (.aload_n 0, 1) := by decide +kernel
theorem d_Model_wide_478 : decode prog_12_method_17_code 478 = .ok (.getfield 35, 3) := by decide +kernel
theorem d_Model_wide_481 : decode prog_12_method_17_code 481 = .ok (.iconst 2, 1) := by decide +kernel
theorem d_Model_wide_482 : decode prog_12_method_17_code 482 = .ok (.iaload, 1) := by decide +kernel
theorem d_Model_wide_483 : decode prog_12_method_17_code 483 = .ok (.iand, 1) := by decide +kernel
theorem d_Model_wide_484 : decode prog_12_method_17_code 484 = .ok (.ixor, 1) := by decide +kernel
theorem d_Model_wide_485 : decode prog_12_method_17_code 485 = .ok (.iadd, 1) := by decide +kernel
theorem d_Model_wide_486 : decode prog_12_method_17_code 486 = .ok (.istore 6, 2) := by decide +kernel
theorem d_Model_wide_488 : decode prog_12_method_17_code 488 = .ok (.bipush 7, 2) := by decide +kernel
theorem d_Model_wide_490 : decode prog_12_method_17_code 490 = .ok (.istore 7, 2) := by decide +kernel
theorem d_Model_wide_492 : decode prog_12_method_17_code 492 = .ok (.iload 7, 2) := by decide +kernel
theorem d_Model_wide_494 : decode prog_12_method_17_code 494 = .ok (.ifCond .le 25, 3) := by decide +kernel
theorem d_Model_wide_497 : decode prog_12_method_17_code 497 = .ok (.aload_n 0, 1) := by decide +kernel
theorem d_Model_wide_498 : decode prog_12_method_17_code 498 = .ok (.getfield 35, 3) := by decide +kernel
theorem d_Model_wide_501 : decode prog_12_method_17_code 501 = .ok (.iload 7, 2) := by decide +kernel
theorem d_Model_wide_503 : decode prog_12_method_17_code 503 = .ok (.aload_n 0, 1) := by decide +kernel
theorem d_Model_wide_504 : decode prog_12_method_17_code 504 = .ok (.getfield 35, 3) := by decide +kernel
theorem d_Model_wide_507 : decode prog_12_method_17_code 507 = .ok (.iload 7, 2) := by decide +kernel
theorem d_Model_wide_509 : decode prog_12_method_17_code 509 = .ok (.iconst 1, 1) := by decide +kernel
theorem d_Model_wide_510 : decode prog_12_method_17_code 510 = .ok (.isub, 1) := by decide +kernel
theorem d_Model_wide_511 : decode prog_12_method_17_code 511 = .ok (.iaload, 1) := by decide +kernel
theorem d_Model_wide_512 : decode prog_12_method_17_code 512 = .ok (.iastore, 1) := by decide +kernel
theorem d_Model_wide_513 : decode prog_12_method_17_code 513 = .ok (.iinc 7 (-1), 3) := by decide +kernel
theorem d_Model_wide_516 : decode prog_12_method_17_code 516 = .ok (.goto (-24), 3) := by decide +kernel
theorem d_Model_wide_519 : decode prog_12_method_17_code 519 = .ok (.aload_n 0, 1) := by decide +kernel
theorem d_Model_wide_520 : decode prog_12_method_17_code 520 = .ok (.getfield 35, 3) := by decide +kernel
theorem d_Model_wide_523 : decode prog_12_method_17_code 523 = .ok (.iconst 4, 1) := by decide +kernel
theorem d_Model_wide_524 : decode prog_12_method_17_code 524 = .ok (.aload_n 0, 1) := by decide +kernel
theorem d_Model_wide_525 : decode prog_12_method_17_code 525 = .ok (.getfield 35, 3) := by decide +kernel
theorem d_Model_wide_528 : decode prog_12_method_17_code 528 = .ok (.iconst 4, 1) := by decide +kernel
theorem d_Model_wide_529 : decode prog_12_method_17_code 529 = .ok (.iaload, 1) := by decide +kernel
theorem d_Model_wide_530 : decode prog_12_method_17_code 530 = .ok (.iload 5, 2) := by decide +kernel
theorem d_Model_wide_532 : decode prog_12_method_17_code 532 = .ok (.iadd, 1) := by decide +kernel
theorem d_Model_wide_533 : decode prog_12_method_17_code 533 = .ok (.iastore, 1) := by decide +kernel
theorem d_Model_wide_534 : decode prog_12_method_17_code 534 = .ok (.aload_n 0, 1) := by decide +kernel
theorem d_Model_wide_535 : decode prog_12_method_17_code 535 = .ok (.getfield 35, 3) := by decide +kernel
theorem d_Model_wide_538 : decode prog_12_method_17_code 538 = .ok (.iconst 0, 1) := by decide +kernel
theorem d_Model_wide_539 : decode prog_12_method_17_code 539 = .ok (.iload 5, 2) := by decide +kernel
theorem d_Model_wide_541 : decode prog_12_method_17_code 541 = .ok (.iload 6, 2) := by decide +kernel
theorem d_Model_wide_543 : decode prog_12_method_17_code 543 = .ok (.iadd, 1) := by decide +kernel
theorem d_Model_wide_544 : decode prog_12_method_17_code 544 = .ok (.iastore, 1) := by decide +kernel
theorem d_Model_wide_545 : decode prog_12_method_17_code 545 = .ok (.iinc 4 1, 3) := by decide +kernel
theorem d_Model_wide_548 : decode prog_12_method_17_code 548 = .ok (.goto (-236), 3) := by decide +kernel
theorem d_Model_wide_551 : decode prog_12_method_17_code 551 = .ok (.iconst 0, 1) := by decide +kernel
theorem d_Model_wide_552 : decode prog_12_method_17_code 552 = .ok (.istore 4, 2) := by decide +kernel
theorem d_Model_wide_554 : decode prog_12_method_17_code 554 = .ok (.iload 4, 2) := by decide +kernel
theorem d_Model_wide_556 : decode prog_12_method_17_code 556 = .ok (.bipush 8, 2) := by decide +kernel
theorem d_Model_wide_558 : decode prog_12_method_17_code 558 = .ok (.if_icmp .ge 31, 3) := by decide +kernel
theorem d_Model_wide_561 : decode prog_12_method_17_code 561 = .ok (.aload_n 0, 1) := by decide +kernel
theorem d_Model_wide_562 : decode prog_12_method_17_code 562 = .ok (.getfield 32, 3) := by decide +kernel
theorem d_Model_wide_565 : decode prog_12_method_17_code 565 = .ok (.iload 4, 2) := by decide +kernel
theorem d_Model_wide_567 : decode prog_12_method_17_code 567 = .ok (.aload_n 0, 1) := by decide +kernel
theorem d_Model_wide_568 : decode prog_12_method_17_code 568 = .ok (.getfield 32, 3) := by decide +kernel
theorem d_Model_wide_571 : decode prog_12_method_17_code 571 = .ok (.iload 4, 2) := by decide +kernel
theorem d_Model_wide_573 : decode prog_12_method_17_code 573 = .ok (.iaload, 1) := by decide +kernel
theorem d_Model_wide_574 : decode prog_12_method_17_code 574 = .ok (.aload_n 0, 1) := by decide +kernel
theorem d_Model_wide_575 : decode prog_12_method_17_code 575 = .ok (.getfield 35, 3) := by decide +kernel
theorem d_Model_wide_578 : decode prog_12_method_17_code 578 = .ok (.iload 4, 2) := by decide +kernel
theorem d_Model_wide_580 : decode prog_12_method_17_code 580 = .ok (.iaload, 1) := by decide +kernel
theorem d_Model_wide_581 : decode prog_12_method_17_code 581 = .ok (.iadd, 1) := by decide +kernel
theorem d_Model_wide_582 : decode prog_12_method_17_code 582 = .ok (.iastore, 1) := by decide +kernel
theorem d_Model_wide_583 : decode prog_12_method_17_code 583 = .ok (.iinc 4 1, 3) := by decide +kernel
theorem d_Model_wide_586 : decode prog_12_method_17_code 586 = .ok (.goto (-32), 3) := by decide +kernel
theorem d_Model_wide_589 : decode prog_12_method_17_code 589 = .ok (.iinc 3 1, 3) := by decide +kernel
theorem d_Model_wide_592 : decode prog_12_method_17_code 592 = .ok (.goto (-517), 3) := by decide +kernel
theorem d_Model_wide_595 : decode prog_12_method_17_code 595 = .ok (.aload_n 0, 1) := by decide +kernel
theorem d_Model_wide_596 : decode prog_12_method_17_code 596 = .ok (.getfield 13, 3) := by decide +kernel
theorem d_Model_wide_599 : decode prog_12_method_17_code 599 = .ok (.iload_n 1, 1) := by decide +kernel
theorem d_Model_wide_600 : decode prog_12_method_17_code 600 = .ok (.bipush 32, 2) := by decide +kernel
theorem d_Model_wide_602 : decode prog_12_method_17_code 602 = .ok (.iastore, 1) := by decide +kernel
theorem d_Model_wide_603 : decode prog_12_method_17_code 603 = .ok (.iconst 0, 1) := by decide +kernel
theorem d_Model_wide_604 : decode prog_12_method_17_code 604 = .ok (.istore_n 3, 1) := by decide +kernel
theorem d_Model_wide_605 : decode prog_12_method_17_code 605 = .ok (.iload_n 3, 1) := by decide +kernel
theorem d_Model_wide_606 : decode prog_12_method_17_code 606 = .ok (.bipush 32, 2) := by decide +kernel
theorem d_Model_wide_608 : decode prog_12_method_17_code 608 = .ok (.if_icmp .ge 42, 3) := by decide +kernel
theorem d_Model_wide_611 : decode prog_12_method_17_code 611 = .ok (.aload_n 0, 1) := by decide +kernel
theorem d_Model_wide_612 : decode prog_12_method_17_code 612 = .ok (.getfield 7, 3) := by decide +kernel
theorem d_Model_wide_615 : decode prog_12_method_17_code 615 = .ok (.bipush 120, 2) := by decide +kernel
theorem d_Model_wide_617 : decode prog_12_method_17_code 617 = .ok (.iload_n 1, 1) := by decide +kernel
theorem d_Model_wide_618 : decode prog_12_method_17_code 618 = .ok (.imul, 1) := by decide +kernel
theorem d_Model_wide_619 : decode prog_12_method_17_code 619 = .ok (.iload_n 3, 1) := by decide +kernel
theorem d_Model_wide_620 : decode prog_12_method_17_code 620 = .ok (.iadd, 1) := by decide +kernel
theorem d_Model_wide_621 : decode prog_12_method_17_code 621 = .ok (.aload_n 0, 1) := by decide +kernel
theorem d_Model_wide_622 : decode prog_12_method_17_code 622 = .ok (.getfield 32, 3) := by decide +kernel
theorem d_Model_wide_625 : decode prog_12_method_17_code 625 = .ok (.iload_n 3, 1) := by decide +kernel
theorem d_Model_wide_626 : decode prog_12_method_17_code 626 = .ok (.iconst 4, 1) := by decide +kernel
theorem d_Model_wide_627 : decode prog_12_method_17_code 627 = .ok (.idiv, 1) := by decide +kernel
theorem d_Model_wide_628 : decode prog_12_method_17_code 628 = .ok (.iaload, 1) := by decide +kernel
theorem d_Model_wide_629 : decode prog_12_method_17_code 629 = .ok (.bipush 24, 2) := by decide +kernel
theorem d_Model_wide_631 : decode prog_12_method_17_code 631 = .ok (.bipush 8, 2) := by decide +kernel
theorem d_Model_wide_633 : decode prog_12_method_17_code 633 = .ok (.iload_n 3, 1) := by decide +kernel
theorem d_Model_wide_634 : decode prog_12_method_17_code 634 = .ok (.iconst 4, 1) := by decide +kernel
theorem d_Model_wide_635 : decode prog_12_method_17_code 635 = .ok (.irem, 1) := by decide +kernel
theorem d_Model_wide_636 : decode prog_12_method_17_code 636 = .ok (.imul, 1) := by decide +kernel
theorem d_Model_wide_637 : decode prog_12_method_17_code 637 = .ok (.isub, 1) := by decide +kernel
theorem d_Model_wide_638 : decode prog_12_method_17_code 638 = .ok (.iushr, 1) := by decide +kernel
theorem d_Model_wide_639 : decode prog_12_method_17_code 639 = .ok (.sipush 255, 3) := by decide +kernel
theorem d_Model_wide_642 : decode prog_12_method_17_code 642 = .ok (.iand, 1) := by decide +kernel
theorem d_Model_wide_643 : decode prog_12_method_17_code 643 = .ok (.iastore, 1) := by decide +kernel
theorem d_Model_wide_644 : decode prog_12_method_17_code 644 = .ok (.iinc 3 1, 3) := by decide +kernel
theorem d_Model_wide_647 : decode prog_12_method_17_code 647 = .ok (.goto (-42), 3) := by decide +kernel
theorem d_Model_wide_650 : decode prog_12_method_17_code 650 = .ok (.return_, 1) := by decide +kernel
theorem d_Model_digest_0 : decode prog_12_method_34_code 0 = .ok (.aload_n 0, 1) := by decide +kernel
theorem d_Model_digest_1 : decode prog_12_method_34_code 1 = .ok (.iconst 1, 1) := by decide +kernel
theorem d_Model_digest_2 : decode prog_12_method_34_code 2 = .ok (.invokevirtual 67, 3) := by decide +kernel
theorem d_Model_digest_5 : decode prog_12_method_34_code 5 = .ok (.ifCond .ne 4, 3) := by decide +kernel
theorem d_Model_digest_8 : decode prog_12_method_34_code 8 = .ok (.return_, 1) := by decide +kernel
theorem d_Model_digest_9 : decode prog_12_method_34_code 9 = .ok (.iload_n 1, 1) := by decide +kernel
theorem d_Model_digest_10 : decode prog_12_method_34_code 10 = .ok (.sipush 166, 3) := by decide +kernel
theorem d_Model_digest_13 : decode prog_12_method_34_code 13 = .ok (.if_icmp .eq 12, 3) := by decide +kernel
theorem d_Model_digest_16 : decode prog_12_method_34_code 16 = .ok (.aload_n 0, 1) := by decide +kernel
theorem d_Model_digest_17 : decode prog_12_method_34_code 17 = .ok (.aload_n 0, 1) := by decide +kernel
theorem d_Model_digest_18 : decode prog_12_method_34_code 18 = .ok (.iconst 0, 1) := by decide +kernel
theorem d_Model_digest_19 : decode prog_12_method_34_code 19 = .ok (.invokevirtual 71, 3) := by decide +kernel
theorem d_Model_digest_22 : decode prog_12_method_34_code 22 = .ok (.invokevirtual 185, 3) := by decide +kernel
theorem d_Model_digest_25 : decode prog_12_method_34_code 25 = .ok (.iload_n 1, 1) := by decide +kernel
theorem d_Model_digest_26 : decode prog_12_method_34_code 26 = .ok (.sipush 166, 3) := by decide +kernel
theorem d_Model_digest_29 : decode prog_12_method_34_code 29 = .ok (.if_icmp .eq 10, 3) := by decide +kernel
theorem d_Model_digest_32 : decode prog_12_method_34_code 32 = .ok (.iload_n 1, 1) := by decide +kernel
theorem d_Model_digest_33 : decode prog_12_method_34_code 33 = .ok (.sipush 169, 3) := by decide +kernel
theorem d_Model_digest_36 : decode prog_12_method_34_code 36 = .ok (.if_icmp .ne 12, 3) := by decide +kernel
theorem d_Model_digest_39 : decode prog_12_method_34_code 39 = .ok (.aload_n 0, 1) := by decide +kernel
theorem d_Model_digest_40 : decode prog_12_method_34_code 40 = .ok (.aload_n 0, 1) := by decide +kernel
theorem d_Model_digest_41 : decode prog_12_method_34_code 41 = .ok (.iconst 0, 1) := by decide +kernel
theorem d_Model_digest_42 : decode prog_12_method_34_code 42 = .ok (.invokevirtual 71, 3) := by decide +kernel
theorem d_Model_digest_45 : decode prog_12_method_34_code 45 = .ok (.invokevirtual 188, 3) := by decide +kernel
theorem d_Model_digest_48 : decode prog_12_method_34_code 48 = .ok (.iload_n 1, 1) := by decide +kernel
theorem d_Model_digest_49 : decode prog_12_method_34_code 49 = .ok (.sipush 170, 3) := by decide +kernel
theorem d_Model_digest_52 : decode prog_12_method_34_code 52 = .ok (.if_icmp .ne 12, 3) := by decide +kernel
theorem d_Model_digest_55 : decode prog_12_method_34_code 55 = .ok (.aload_n 0, 1) := by decide +kernel
theorem d_Model_digest_56 : decode prog_12_method_34_code 56 = .ok (.aload_n 0, 1) := by decide +kernel
theorem d_Model_digest_57 : decode prog_12_method_34_code 57 = .ok (.iconst 0, 1) := by decide +kernel
theorem d_Model_digest_58 : decode prog_12_method_34_code 58 = .ok (.invokevirtual 71, 3) := by decide +kernel
theorem d_Model_digest_61 : decode prog_12_method_34_code 61 = .ok (.invokevirtual 185, 3) := by decide +kernel
theorem d_Model_digest_64 : decode prog_12_method_34_code 64 = .ok (.return_, 1) := by decide +kernel
theorem d_Model_fit_0 : decode prog_12_method_21_code 0 = .ok (.aload_n 0, 1) := by decide +kernel
theorem d_Model_fit_1 : decode prog_12_method_21_code 1 = .ok (.dup, 1) := by decide +kernel
theorem d_Model_fit_2 : decode prog_12_method_21_code 2 = .ok (.getfield 133, 3) := by decide +kernel
theorem d_Model_fit_5 : decode prog_12_method_21_code 5 = .ok (.iconst 1, 1) := by decide +kernel
theorem d_Model_fit_6 : decode prog_12_method_21_code 6 = .ok (.iadd, 1) := by decide +kernel
theorem d_Model_fit_7 : decode prog_12_method_21_code 7 = .ok (.putfield 133, 3) := by decide +kernel
theorem d_Model_fit_10 : decode prog_12_method_21_code 10 = .ok (.aload_n 0, 1) := by decide +kernel
theorem d_Model_fit_11 : decode prog_12_method_21_code 11 = .ok (.getfield 13, 3) := by decide +kernel
theorem d_Model_fit_14 : decode prog_12_method_21_code 14 = .ok (.iload_n 1, 1) := by decide +kernel
theorem d_Model_fit_15 : decode prog_12_method_21_code 15 = .ok (.iaload, 1) := by decide +kernel
theorem d_Model_fit_16 : decode prog_12_method_21_code 16 = .ok (.ifCond .eq 12, 3) := by decide +kernel
theorem d_Model_fit_19 : decode prog_12_method_21_code 19 = .ok (.aload_n 0, 1) := by decide +kernel
theorem d_Model_fit_20 : decode prog_12_method_21_code 20 = .ok (.getfield 13, 3) := by decide +kernel
theorem d_Model_fit_23 : decode prog_12_method_21_code 23 = .ok (.iload_n 2, 1) := by decide +kernel
theorem d_Model_fit_24 : decode prog_12_method_21_code 24 = .ok (.iaload, 1) := by decide +kernel
theorem d_Model_fit_25 : decode prog_12_method_21_code 25 = .ok (.ifCond .ne 5, 3) := by decide +kernel
theorem d_Model_fit_28 : decode prog_12_method_21_code 28 = .ok (.iconst 0, 1) := by decide +kernel
theorem d_Model_fit_29 : decode prog_12_method_21_code 29 = .ok (.ireturn, 1) := by decide +kernel
theorem d_Model_fit_30 : decode prog_12_method_21_code 30 = .ok (.aload_n 0, 1) := by decide +kernel
theorem d_Model_fit_31 : decode prog_12_method_21_code 31 = .ok (.getfield 43, 3) := by decide +kernel
theorem d_Model_fit_34 : decode prog_12_method_21_code 34 = .ok (.aload_n 0, 1) := by decide +kernel
theorem d_Model_fit_35 : decode prog_12_method_21_code 35 = .ok (.getfield 7, 3) := by decide +kernel
theorem d_Model_fit_38 : decode prog_12_method_21_code 38 = .ok (.bipush 120, 2) := by decide +kernel
theorem d_Model_fit_40 : decode prog_12_method_21_code 40 = .ok (.iload_n 1, 1) := by decide +kernel
theorem d_Model_fit_41 : decode prog_12_method_21_code 41 = .ok (.imul, 1) := by decide +kernel
theorem d_Model_fit_42 : decode prog_12_method_21_code 42 = .ok (.iaload, 1) := by decide +kernel
theorem d_Model_fit_43 : decode prog_12_method_21_code 43 = .ok (.aload_n 0, 1) := by decide +kernel
theorem d_Model_fit_44 : decode prog_12_method_21_code 44 = .ok (.getfield 7, 3) := by decide +kernel
theorem d_Model_fit_47 : decode prog_12_method_21_code 47 = .ok (.bipush 120, 2) := by decide +kernel
theorem d_Model_fit_49 : decode prog_12_method_21_code 49 = .ok (.iload_n 2, 1) := by decide +kernel
theorem d_Model_fit_50 : decode prog_12_method_21_code 50 = .ok (.imul, 1) := by decide +kernel
theorem d_Model_fit_51 : decode prog_12_method_21_code 51 = .ok (.aload_n 0, 1) := by decide +kernel
theorem d_Model_fit_52 : decode prog_12_method_21_code 52 = .ok (.getfield 13, 3) := by decide +kernel
theorem d_Model_fit_55 : decode prog_12_method_21_code 55 = .ok (.iload_n 2, 1) := by decide +kernel
theorem d_Model_fit_56 : decode prog_12_method_21_code 56 = .ok (.iaload, 1) := by decide +kernel
theorem d_Model_fit_57 : decode prog_12_method_21_code 57 = .ok (.iadd, 1) := by decide +kernel
theorem d_Model_fit_58 : decode prog_12_method_21_code 58 = .ok (.iconst 1, 1) := by decide +kernel
theorem d_Model_fit_59 : decode prog_12_method_21_code 59 = .ok (.isub, 1) := by decide +kernel
theorem d_Model_fit_60 : decode prog_12_method_21_code 60 = .ok (.iaload, 1) := by decide +kernel
theorem d_Model_fit_61 : decode prog_12_method_21_code 61 = .ok (.imul, 1) := by decide +kernel
theorem d_Model_fit_62 : decode prog_12_method_21_code 62 = .ok (.i2l, 1) := by decide +kernel
theorem d_Model_fit_63 : decode prog_12_method_21_code 63 = .ok (.ladd, 1) := by decide +kernel
theorem d_Model_fit_64 : decode prog_12_method_21_code 64 = .ok (.aload_n 0, 1) := by decide +kernel
theorem d_Model_fit_65 : decode prog_12_method_21_code 65 = .ok (.getfield 7, 3) := by decide +kernel
theorem d_Model_fit_68 : decode prog_12_method_21_code 68 = .ok (.bipush 120, 2) := by decide +kernel
theorem d_Model_fit_70 : decode prog_12_method_21_code 70 = .ok (.iload_n 1, 1) := by decide +kernel
theorem d_Model_fit_71 : decode prog_12_method_21_code 71 = .ok (.imul, 1) := by decide +kernel
theorem d_Model_fit_72 : decode prog_12_method_21_code 72 = .ok (.aload_n 0, 1) := by decide +kernel
theorem d_Model_fit_73 : decode prog_12_method_21_code 73 = .ok (.getfield 13, 3) := by decide +kernel
theorem d_Model_fit_76 : decode prog_12_method_21_code 76 = .ok (.iload_n 1, 1) := by decide +kernel
theorem d_Model_fit_77 : decode prog_12_method_21_code 77 = .ok (.iaload, 1) := by decide +kernel
theorem d_Model_fit_78 : decode prog_12_method_21_code 78 = .ok (.iadd, 1) := by decide +kernel
theorem d_Model_fit_79 : decode prog_12_method_21_code 79 = .ok (.iconst 1, 1) := by decide +kernel
theorem d_Model_fit_80 : decode prog_12_method_21_code 80 = .ok (.isub, 1) := by decide +kernel
theorem d_Model_fit_81 : decode prog_12_method_21_code 81 = .ok (.iaload, 1) := by decide +kernel
theorem d_Model_fit_82 : decode prog_12_method_21_code 82 = .ok (.i2l, 1) := by decide +kernel
theorem d_Model_fit_83 : decode prog_12_method_21_code 83 = .ok (.ladd, 1) := by decide +kernel
theorem d_Model_fit_84 : decode prog_12_method_21_code 84 = .ok (.lstore_n 3, 1) := by decide +kernel
theorem d_Model_fit_85 : decode prog_12_method_21_code 85 = .ok (.lload_n 3, 1) := by decide +kernel
theorem d_Model_fit_86 : decode prog_12_method_21_code 86 = .ok (.ldc2_w 136, 3) := by decide +kernel
theorem d_Model_fit_89 : decode prog_12_method_21_code 89 = .ok (.lrem, 1) := by decide +kernel
theorem d_Model_fit_90 : decode prog_12_method_21_code 90 = .ok (.lconst 0, 1) := by decide +kernel
theorem d_Model_fit_91 : decode prog_12_method_21_code 91 = .ok (.lcmp, 1) := by decide +kernel
theorem d_Model_fit_92 : decode prog_12_method_21_code 92 = .ok (.ifCond .ne 7, 3) := by decide +kernel
theorem d_Model_fit_95 : decode prog_12_method_21_code 95 = .ok (.iconst 1, 1) := by decide +kernel
theorem d_Model_fit_96 : decode prog_12_method_21_code 96 = .ok (.goto 4, 3) := by decide +kernel
theorem d_Model_fit_99 : decode prog_12_method_21_code 99 = .ok (.iconst 0, 1) := by decide +kernel
theorem d_Model_fit_100 : decode prog_12_method_21_code 100 = .ok (.ireturn, 1) := by decide +kernel
theorem d_Model_one_0 : decode prog_12_method_22_code 0 = .ok (.aload_n 0, 1) := by decide +kernel
theorem d_Model_one_1 : decode prog_12_method_22_code 1 = .ok (.iconst 2, 1) := by decide +kernel
theorem d_Model_one_2 : decode prog_12_method_22_code 2 = .ok (.invokevirtual 67, 3) := by decide +kernel
theorem d_Model_one_5 : decode prog_12_method_22_code 5 = .ok (.ifCond .ne 4, 3) := by decide +kernel
theorem d_Model_one_8 : decode prog_12_method_22_code 8 = .ok (.return_, 1) := by decide +kernel
theorem d_Model_one_9 : decode prog_12_method_22_code 9 = .ok (.aload_n 0, 1) := by decide +kernel
theorem d_Model_one_10 : decode prog_12_method_22_code 10 = .ok (.aload_n 0, 1) := by decide +kernel
theorem d_Model_one_11 : decode prog_12_method_22_code 11 = .ok (.iconst 1, 1) := by decide +kernel
theorem d_Model_one_12 : decode prog_12_method_22_code 12 = .ok (.invokevirtual 71, 3) := by decide +kernel
theorem d_Model_one_15 : decode prog_12_method_22_code 15 = .ok (.aload_n 0, 1) := by decide +kernel
theorem d_Model_one_16 : decode prog_12_method_22_code 16 = .ok (.iconst 0, 1) := by decide +kernel
theorem d_Model_one_17 : decode prog_12_method_22_code 17 = .ok (.invokevirtual 71, 3) := by decide +kernel
theorem d_Model_one_20 : decode prog_12_method_22_code 20 = .ok (.invokevirtual 138, 3) := by decide +kernel
theorem d_Model_one_23 : decode prog_12_method_22_code 23 = .ok (.istore_n 2, 1) := by decide +kernel
theorem d_Model_one_24 : decode prog_12_method_22_code 24 = .ok (.aload_n 0, 1) := by decide +kernel
theorem d_Model_one_25 : decode prog_12_method_22_code 25 = .ok (.dup, 1) := by decide +kernel
theorem d_Model_one_26 : decode prog_12_method_22_code 26 = .ok (.getfield 47, 3) := by decide +kernel
theorem d_Model_one_29 : decode prog_12_method_22_code 29 = .ok (.iconst 2, 1) := by decide +kernel
theorem d_Model_one_30 : decode prog_12_method_22_code 30 = .ok (.isub, 1) := by decide +kernel
theorem d_Model_one_31 : decode prog_12_method_22_code 31 = .ok (.putfield 47, 3) := by decide +kernel
theorem d_Model_one_34 : decode prog_12_method_22_code 34 = .ok (.aload_n 0, 1) := by decide +kernel
theorem d_Model_one_35 : decode prog_12_method_22_code 35 = .ok (.iload_n 2, 1) := by decide +kernel
theorem d_Model_one_36 : decode prog_12_method_22_code 36 = .ok (.invokevirtual 142, 3) := by decide +kernel
theorem d_Model_one_39 : decode prog_12_method_22_code 39 = .ok (.iload_n 1, 1) := by decide +kernel
theorem d_Model_one_40 : decode prog_12_method_22_code 40 = .ok (.ifCond .eq 7, 3) := by decide +kernel
theorem d_Model_one_43 : decode prog_12_method_22_code 43 = .ok (.aload_n 0, 1) := by decide +kernel
theorem d_Model_one_44 : decode prog_12_method_22_code 44 = .ok (.invokevirtual 146, 3) := by decide +kernel
theorem d_Model_one_47 : decode prog_12_method_22_code 47 = .ok (.return_, 1) := by decide +kernel
theorem d_Model_several_0 : decode prog_12_method_23_code 0 = .ok (.aload_n 0, 1) := by decide +kernel
theorem d_Model_several_1 : decode prog_12_method_23_code 1 = .ok (.iconst 0, 1) := by decide +kernel
theorem d_Model_several_2 : decode prog_12_method_23_code 2 = .ok (.invokevirtual 149, 3) := by decide +kernel
theorem d_Model_several_5 : decode prog_12_method_23_code 5 = .ok (.ifCond .ne 4, 3) := by decide +kernel
theorem d_Model_several_8 : decode prog_12_method_23_code 8 = .ok (.return_, 1) := by decide +kernel
theorem d_Model_several_9 : decode prog_12_method_23_code 9 = .ok (.aload_n 0, 1) := by decide +kernel
theorem d_Model_several_10 : decode prog_12_method_23_code 10 = .ok (.getfield 75, 3) := by decide +kernel
theorem d_Model_several_13 : decode prog_12_method_23_code 13 = .ok (.lconst 0, 1) := by decide +kernel
theorem d_Model_several_14 : decode prog_12_method_23_code 14 = .ok (.lcmp, 1) := by decide +kernel
theorem d_Model_several_15 : decode prog_12_method_23_code 15 = .ok (.ifCond .lt 14, 3) := by decide +kernel
theorem d_Model_several_18 : decode prog_12_method_23_code 18 = .ok (.aload_n 0, 1) := by decide +kernel
theorem d_Model_several_19 : decode prog_12_method_23_code 19 = .ok (.getfield 75, 3) := by decide +kernel
theorem d_Model_several_22 : decode prog_12_method_23_code 22 = .ok (.ldc2_w 152, 3) := by decide +kernel
theorem d_Model_several_25 : decode prog_12_method_23_code 25 = .ok (.lcmp, 1) := by decide +kernel
theorem d_Model_several_26 : decode prog_12_method_23_code 26 = .ok (.ifCond .le 10, 3) := by decide +kernel
theorem d_Model_several_29 : decode prog_12_method_23_code 29 = .ok (.aload_n 0, 1) := by decide +kernel
theorem d_Model_several_30 : decode prog_12_method_23_code 30 = .ok (.bipush 7, 2) := by decide +kernel
theorem d_Model_several_32 : decode prog_12_method_23_code 32 = .ok (.invokevirtual 63, 3) := by decide +kernel
theorem d_Model_several_35 : decode prog_12_method_23_code 35 = .ok (.return_, 1) := by decide +kernel
theorem d_Model_several_36 : decode prog_12_method_23_code 36 = .ok (.aload_n 0, 1) := by decide +kernel
theorem d_Model_several_37 : decode prog_12_method_23_code 37 = .ok (.getfield 75, 3) := by decide +kernel
theorem d_Model_several_40 : decode prog_12_method_23_code 40 = .ok (.l2i, 1) := by decide +kernel
theorem d_Model_several_41 : decode prog_12_method_23_code 41 = .ok (.istore_n 2, 1) := by decide +kernel
theorem d_Model_several_42 : decode prog_12_method_23_code 42 = .ok (.aload_n 0, 1) := by decide +kernel
theorem d_Model_several_43 : decode prog_12_method_23_code 43 = .ok (.dup, 1) := by decide +kernel
theorem d_Model_several_44 : decode prog_12_method_23_code 44 = .ok (.getfield 154, 3) := by decide +kernel
theorem d_Model_several_47 : decode prog_12_method_23_code 47 = .ok (.iload_n 2, 1) := by decide +kernel
theorem d_Model_several_48 : decode prog_12_method_23_code 48 = .ok (.iadd, 1) := by decide +kernel
theorem d_Model_several_49 : decode prog_12_method_23_code 49 = .ok (.putfield 154, 3) := by decide +kernel
theorem d_Model_several_52 : decode prog_12_method_23_code 52 = .ok (.aload_n 0, 1) := by decide +kernel
theorem d_Model_several_53 : decode prog_12_method_23_code 53 = .ok (.getfield 154, 3) := by decide +kernel
theorem d_Model_several_56 : decode prog_12_method_23_code 56 = .ok (.bipush 100, 2) := by decide +kernel
theorem d_Model_several_58 : decode prog_12_method_23_code 58 = .ok (.if_icmp .le 9, 3) := by decide +kernel
theorem d_Model_several_61 : decode prog_12_method_23_code 61 = .ok (.aload_n 0, 1) := by decide +kernel
theorem d_Model_several_62 : decode prog_12_method_23_code 62 = .ok (.iconst 3, 1) := by decide +kernel
theorem d_Model_several_63 : decode prog_12_method_23_code 63 = .ok (.invokevirtual 63, 3) := by decide +kernel
theorem d_Model_several_66 : decode prog_12_method_23_code 66 = .ok (.return_, 1) := by decide +kernel
theorem d_Model_several_67 : decode prog_12_method_23_code 67 = .ok (.aload_n 0, 1) := by decide +kernel
theorem d_Model_several_68 : decode prog_12_method_23_code 68 = .ok (.iload_n 2, 1) := by decide +kernel
theorem d_Model_several_69 : decode prog_12_method_23_code 69 = .ok (.iconst 1, 1) := by decide +kernel
theorem d_Model_several_70 : decode prog_12_method_23_code 70 = .ok (.iadd, 1) := by decide +kernel
theorem d_Model_several_71 : decode prog_12_method_23_code 71 = .ok (.invokevirtual 67, 3) := by decide +kernel
theorem d_Model_several_74 : decode prog_12_method_23_code 74 = .ok (.ifCond .eq 13, 3) := by decide +kernel
theorem d_Model_several_77 : decode prog_12_method_23_code 77 = .ok (.aload_n 0, 1) := by decide +kernel
theorem d_Model_several_78 : decode prog_12_method_23_code 78 = .ok (.iload_n 2, 1) := by decide +kernel
theorem d_Model_several_79 : decode prog_12_method_23_code 79 = .ok (.iconst 1, 1) := by decide +kernel
theorem d_Model_several_80 : decode prog_12_method_23_code 80 = .ok (.iadd, 1) := by decide +kernel
theorem d_Model_several_81 : decode prog_12_method_23_code 81 = .ok (.invokevirtual 149, 3) := by decide +kernel
theorem d_Model_several_84 : decode prog_12_method_23_code 84 = .ok (.ifCond .ne 4, 3) := by decide +kernel
theorem d_Model_several_87 : decode prog_12_method_23_code 87 = .ok (.return_, 1) := by decide +kernel
theorem d_Model_several_88 : decode prog_12_method_23_code 88 = .ok (.aload_n 0, 1) := by decide +kernel
theorem d_Model_several_89 : decode prog_12_method_23_code 89 = .ok (.getfield 75, 3) := by decide +kernel
theorem d_Model_several_92 : decode prog_12_method_23_code 92 = .ok (.lconst 0, 1) := by decide +kernel
theorem d_Model_several_93 : decode prog_12_method_23_code 93 = .ok (.lcmp, 1) := by decide +kernel
theorem d_Model_several_94 : decode prog_12_method_23_code 94 = .ok (.ifCond .lt 13, 3) := by decide +kernel
theorem d_Model_several_97 : decode prog_12_method_23_code 97 = .ok (.aload_n 0, 1) := by decide +kernel
theorem d_Model_several_98 : decode prog_12_method_23_code 98 = .ok (.getfield 75, 3) := by decide +kernel
theorem d_Model_several_101 : decode prog_12_method_23_code 101 = .ok (.iload_n 2, 1) := by decide +kernel
theorem d_Model_several_102 : decode prog_12_method_23_code 102 = .ok (.i2l, 1) := by decide +kernel
theorem d_Model_several_103 : decode prog_12_method_23_code 103 = .ok (.lcmp, 1) := by decide +kernel
theorem d_Model_several_104 : decode prog_12_method_23_code 104 = .ok (.ifCond .le 10, 3) := by decide +kernel
theorem d_Model_several_107 : decode prog_12_method_23_code 107 = .ok (.aload_n 0, 1) := by decide +kernel
theorem d_Model_several_108 : decode prog_12_method_23_code 108 = .ok (.bipush 7, 2) := by decide +kernel
theorem d_Model_several_110 : decode prog_12_method_23_code 110 = .ok (.invokevirtual 63, 3) := by decide +kernel
theorem d_Model_several_113 : decode prog_12_method_23_code 113 = .ok (.return_, 1) := by decide +kernel
theorem d_Model_several_114 : decode prog_12_method_23_code 114 = .ok (.aload_n 0, 1) := by decide +kernel
theorem d_Model_several_115 : decode prog_12_method_23_code 115 = .ok (.getfield 75, 3) := by decide +kernel
theorem d_Model_several_118 : decode prog_12_method_23_code 118 = .ok (.l2i, 1) := by decide +kernel
theorem d_Model_several_119 : decode prog_12_method_23_code 119 = .ok (.istore_n 3, 1) := by decide +kernel
theorem d_Model_several_120 : decode prog_12_method_23_code 120 = .ok (.aload_n 0, 1) := by decide +kernel
theorem d_Model_several_121 : decode prog_12_method_23_code 121 = .ok (.iload_n 2, 1) := by decide +kernel
theorem d_Model_several_122 : decode prog_12_method_23_code 122 = .ok (.iload_n 3, 1) := by decide +kernel
theorem d_Model_several_123 : decode prog_12_method_23_code 123 = .ok (.iadd, 1) := by decide +kernel
theorem d_Model_several_124 : decode prog_12_method_23_code 124 = .ok (.iconst 3, 1) := by decide +kernel
theorem d_Model_several_125 : decode prog_12_method_23_code 125 = .ok (.iadd, 1) := by decide +kernel
theorem d_Model_several_126 : decode prog_12_method_23_code 126 = .ok (.invokevirtual 67, 3) := by decide +kernel
theorem d_Model_several_129 : decode prog_12_method_23_code 129 = .ok (.ifCond .ne 4, 3) := by decide +kernel
theorem d_Model_several_132 : decode prog_12_method_23_code 132 = .ok (.return_, 1) := by decide +kernel
theorem d_Model_several_133 : decode prog_12_method_23_code 133 = .ok (.iload_n 2, 1) := by decide +kernel
theorem d_Model_several_134 : decode prog_12_method_23_code 134 = .ok (.istore 4, 2) := by decide +kernel
theorem d_Model_several_136 : decode prog_12_method_23_code 136 = .ok (.iload_n 3, 1) := by decide +kernel
theorem d_Model_several_137 : decode prog_12_method_23_code 137 = .ok (.istore 5, 2) := by decide +kernel
theorem d_Model_several_139 : decode prog_12_method_23_code 139 = .ok (.iload 5, 2) := by decide +kernel
theorem d_Model_several_141 : decode prog_12_method_23_code 141 = .ok (.ifCond .le 58, 3) := by decide +kernel
theorem d_Model_several_144 : decode prog_12_method_23_code 144 = .ok (.iload 5, 2) := by decide +kernel
theorem d_Model_several_146 : decode prog_12_method_23_code 146 = .ok (.iload 4, 2) := by decide +kernel
theorem d_Model_several_148 : decode prog_12_method_23_code 148 = .ok (.if_icmp .gt 51, 3) := by decide +kernel
theorem d_Model_several_151 : decode prog_12_method_23_code 151 = .ok (.aload_n 0, 1) := by decide +kernel
theorem d_Model_several_152 : decode prog_12_method_23_code 152 = .ok (.aload_n 0, 1) := by decide +kernel
theorem d_Model_several_153 : decode prog_12_method_23_code 153 = .ok (.iload_n 2, 1) := by decide +kernel
theorem d_Model_several_154 : decode prog_12_method_23_code 154 = .ok (.iconst 1, 1) := by decide +kernel
theorem d_Model_several_155 : decode prog_12_method_23_code 155 = .ok (.iadd, 1) := by decide +kernel
theorem d_Model_several_156 : decode prog_12_method_23_code 156 = .ok (.iload_n 3, 1) := by decide +kernel
theorem d_Model_several_157 : decode prog_12_method_23_code 157 = .ok (.iadd, 1) := by decide +kernel
theorem d_Model_several_158 : decode prog_12_method_23_code 158 = .ok (.iload 5, 2) := by decide +kernel
theorem d_Model_several_160 : decode prog_12_method_23_code 160 = .ok (.isub, 1) := by decide +kernel
theorem d_Model_several_161 : decode prog_12_method_23_code 161 = .ok (.iconst 1, 1) := by decide +kernel
theorem d_Model_several_162 : decode prog_12_method_23_code 162 = .ok (.iadd, 1) := by decide +kernel
theorem d_Model_several_163 : decode prog_12_method_23_code 163 = .ok (.invokevirtual 71, 3) := by decide +kernel
theorem d_Model_several_166 : decode prog_12_method_23_code 166 = .ok (.aload_n 0, 1) := by decide +kernel
theorem d_Model_several_167 : decode prog_12_method_23_code 167 = .ok (.iload_n 2, 1) := by decide +kernel
theorem d_Model_several_168 : decode prog_12_method_23_code 168 = .ok (.iload 4, 2) := by decide +kernel
theorem d_Model_several_170 : decode prog_12_method_23_code 170 = .ok (.isub, 1) := by decide +kernel
theorem d_Model_several_171 : decode prog_12_method_23_code 171 = .ok (.iconst 1, 1) := by decide +kernel
theorem d_Model_several_172 : decode prog_12_method_23_code 172 = .ok (.iadd, 1) := by decide +kernel
theorem d_Model_several_173 : decode prog_12_method_23_code 173 = .ok (.invokevirtual 71, 3) := by decide +kernel
theorem d_Model_several_176 : decode prog_12_method_23_code 176 = .ok (.invokevirtual 138, 3) := by decide +kernel
theorem d_Model_several_179 : decode prog_12_method_23_code 179 = .ok (.ifCond .eq 10, 3) := by decide +kernel
theorem d_Model_several_182 : decode prog_12_method_23_code 182 = .ok (.iload 5, 2) := by decide +kernel
theorem d_Model_several_184 : decode prog_12_method_23_code 184 = .ok (.iconst 1, 1) := by decide +kernel
theorem d_Model_several_185 : decode prog_12_method_23_code 185 = .ok (.isub, 1) := by decide +kernel
theorem d_Model_several_186 : decode prog_12_method_23_code 186 = .ok (.goto 5, 3) := by decide +kernel
theorem d_Model_several_189 : decode prog_12_method_23_code 189 = .ok (.iload 5, 2) := by decide +kernel
theorem d_Model_several_191 : decode prog_12_method_23_code 191 = .ok (.istore 5, 2) := by decide +kernel
theorem d_Model_several_193 : decode prog_12_method_23_code 193 = .ok (.iinc 4 (-1), 3) := by decide +kernel
theorem d_Model_several_196 : decode prog_12_method_23_code 196 = .ok (.goto (-57), 3) := by decide +kernel
theorem d_Model_several_199 : decode prog_12_method_23_code 199 = .ok (.aload_n 0, 1) := by decide +kernel
theorem d_Model_several_200 : decode prog_12_method_23_code 200 = .ok (.dup, 1) := by decide +kernel
theorem d_Model_several_201 : decode prog_12_method_23_code 201 = .ok (.getfield 47, 3) := by decide +kernel
theorem d_Model_several_204 : decode prog_12_method_23_code 204 = .ok (.iload_n 2, 1) := by decide +kernel
theorem d_Model_several_205 : decode prog_12_method_23_code 205 = .ok (.iload_n 3, 1) := by decide +kernel
theorem d_Model_several_206 : decode prog_12_method_23_code 206 = .ok (.iadd, 1) := by decide +kernel
theorem d_Model_several_207 : decode prog_12_method_23_code 207 = .ok (.iconst 3, 1) := by decide +kernel
theorem d_Model_several_208 : decode prog_12_method_23_code 208 = .ok (.iadd, 1) := by decide +kernel
theorem d_Model_several_209 : decode prog_12_method_23_code 209 = .ok (.isub, 1) := by decide +kernel
theorem d_Model_several_210 : decode prog_12_method_23_code 210 = .ok (.putfield 47, 3) := by decide +kernel
theorem d_Model_several_213 : decode prog_12_method_23_code 213 = .ok (.aload_n 0, 1) := by decide +kernel
theorem d_Model_several_214 : decode prog_12_method_23_code 214 = .ok (.iload 5, 2) := by decide +kernel
theorem d_Model_several_216 : decode prog_12_method_23_code 216 = .ok (.ifCond .ne 7, 3) := by decide +kernel
theorem d_Model_several_219 : decode prog_12_method_23_code 219 = .ok (.iconst 1, 1) := by decide +kernel
theorem d_Model_several_220 : decode prog_12_method_23_code 220 = .ok (.goto 4, 3) := by decide +kernel
theorem d_Model_several_223 : decode prog_12_method_23_code 223 = .ok (.iconst 0, 1) := by decide +kernel
theorem d_Model_several_224 : decode prog_12_method_23_code 224 = .ok (.invokevirtual 142, 3) := by decide +kernel
theorem d_Model_several_227 : decode prog_12_method_23_code 227 = .ok (.iload_n 1, 1) := by decide +kernel
theorem d_Model_several_228 : decode prog_12_method_23_code 228 = .ok (.ifCond .eq 7, 3) := by decide +kernel
theorem d_Model_several_231 : decode prog_12_method_23_code 231 = .ok (.aload_n 0, 1) := by decide +kernel
theorem d_Model_several_232 : decode prog_12_method_23_code 232 = .ok (.invokevirtual 146, 3) := by decide +kernel
theorem d_Model_several_235 : decode prog_12_method_23_code 235 = .ok (.return_, 1) := by decide +kernel
theorem d_Model_copy_0 : decode prog_12_method_4_code 0 = .ok (.aload_n 0, 1) := by decide +kernel
theorem d_Model_copy_1 : decode prog_12_method_4_code 1 = .ok (.getfield 13, 3) := by decide +kernel
theorem d_Model_copy_4 : decode prog_12_method_4_code 4 = .ok (.iload_n 1, 1) := by decide +kernel
theorem d_Model_copy_5 : decode prog_12_method_4_code 5 = .ok (.aload_n 0, 1) := by decide +kernel
theorem d_Model_copy_6 : decode prog_12_method_4_code 6 = .ok (.getfield 13, 3) := by decide +kernel
