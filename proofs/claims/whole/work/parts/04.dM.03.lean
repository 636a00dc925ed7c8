theorem d_Model_small_369 : decode prog_12_method_19_code 369 = .ok (.getstatic 130, 3) := by decide +kernel
theorem d_Model_small_372 : decode prog_12_method_19_code 372 = .ok (.iload 4, 2) := by decide +kernel
theorem d_Model_small_374 : decode prog_12_method_19_code 374 = .ok (.iaload, 1) := by decide +kernel
theorem d_Model_small_375 : decode prog_12_method_19_code 375 = .ok (.invokevirtual 123, 3) := by decide +kernel
theorem d_Model_small_378 : decode prog_12_method_19_code 378 = .ok (.iinc 4 1, 3) := by decide +kernel
theorem d_Model_small_381 : decode prog_12_method_19_code 381 = .ok (.goto (-212), 3) := by decide +kernel
theorem d_Model_small_384 : decode prog_12_method_19_code 384 = .ok (.aload_n 0, 1) := by decide +kernel
theorem d_Model_small_385 : decode prog_12_method_19_code 385 = .ok (.getfield 32, 3) := by decide +kernel
theorem d_Model_small_388 : decode prog_12_method_19_code 388 = .ok (.iconst 1, 1) := by decide +kernel
theorem d_Model_small_389 : decode prog_12_method_19_code 389 = .ok (.iaload, 1) := by decide +kernel
theorem d_Model_small_390 : decode prog_12_method_19_code 390 = .ok (.aload_n 0, 1) := by decide +kernel
theorem d_Model_small_391 : decode prog_12_method_19_code 391 = .ok (.getfield 35, 3) := by decide +kernel
theorem d_Model_small_394 : decode prog_12_method_19_code 394 = .ok (.iconst 2, 1) := by decide +kernel
theorem d_Model_small_395 : decode prog_12_method_19_code 395 = .ok (.iaload, 1) := by decide +kernel
theorem d_Model_small_396 : decode prog_12_method_19_code 396 = .ok (.iadd, 1) := by decide +kernel
theorem d_Model_small_397 : decode prog_12_method_19_code 397 = .ok (.aload_n 0, 1) := by decide +kernel
theorem d_Model_small_398 : decode prog_12_method_19_code 398 = .ok (.getfield 35, 3) := by decide +kernel
theorem d_Model_small_401 : decode prog_12_method_19_code 401 = .ok (.bipush 8, 2) := by decide +kernel
theorem d_Model_small_403 : decode prog_12_method_19_code 403 = .ok (.iaload, 1) := by decide +kernel
theorem d_Model_small_404 : decode prog_12_method_19_code 404 = .ok (.iadd, 1) := by decide +kernel
theorem d_Model_small_405 : decode prog_12_method_19_code 405 = .ok (.istore 4, 2) := by decide +kernel
theorem d_Model_small_407 : decode prog_12_method_19_code 407 = .ok (.aload_n 0, 1) := by decide +kernel
theorem d_Model_small_408 : decode prog_12_method_19_code 408 = .ok (.getfield 32, 3) := by decide +kernel
theorem d_Model_small_411 : decode prog_12_method_19_code 411 = .ok (.iconst 1, 1) := by decide +kernel
theorem d_Model_small_412 : decode prog_12_method_19_code 412 = .ok (.aload_n 0, 1) := by decide +kernel
theorem d_Model_small_413 : decode prog_12_method_19_code 413 = .ok (.getfield 32, 3) := by decide +kernel
theorem d_Model_small_416 : decode prog_12_method_19_code 416 = .ok (.iconst 2, 1) := by decide +kernel
theorem d_Model_small_417 : decode prog_12_method_19_code 417 = .ok (.iaload, 1) := by decide +kernel
theorem d_Model_small_418 : decode prog_12_method_19_code 418 = .ok (.aload_n 0, 1) := by decide +kernel
theorem d_Model_small_419 : decode prog_12_method_19_code 419 = .ok (.getfield 35, 3) := by decide +kernel
theorem d_Model_small_422 : decode prog_12_method_19_code 422 = .ok (.iconst 3, 1) := by decide +kernel
theorem d_Model_small_423 : decode prog_12_method_19_code 423 = .ok (.iaload, 1) := by decide +kernel
theorem d_Model_small_424 : decode prog_12_method_19_code 424 = .ok (.iadd, 1) := by decide +kernel
theorem d_Model_small_425 : decode prog_12_method_19_code 425 = .ok (.aload_n 0, 1) := by decide +kernel
theorem d_Model_small_426 : decode prog_12_method_19_code 426 = .ok (.getfield 35, 3) := by decide +kernel
theorem d_Model_small_429 : decode prog_12_method_19_code 429 = .ok (.bipush 9, 2) := by decide +kernel
theorem d_Model_small_431 : decode prog_12_method_19_code 431 = .ok (.iaload, 1) := by decide +kernel
theorem d_Model_small_432 : decode prog_12_method_19_code 432 = .ok (.iadd, 1) := by decide +kernel
theorem d_Model_small_433 : decode prog_12_method_19_code 433 = .ok (.iastore, 1) := by decide +kernel
theorem d_Model_small_434 : decode prog_12_method_19_code 434 = .ok (.aload_n 0, 1) := by decide +kernel
theorem d_Model_small_435 : decode prog_12_method_19_code 435 = .ok (.getfield 32, 3) := by decide +kernel
theorem d_Model_small_438 : decode prog_12_method_19_code 438 = .ok (.iconst 2, 1) := by decide +kernel
theorem d_Model_small_439 : decode prog_12_method_19_code 439 = .ok (.aload_n 0, 1) := by decide +kernel
theorem d_Model_small_440 : decode prog_12_method_19_code 440 = .ok (.getfield 32, 3) := by decide +kernel
theorem d_Model_small_443 : decode prog_12_method_19_code 443 = .ok (.iconst 3, 1) := by decide +kernel
theorem d_Model_small_444 : decode prog_12_method_19_code 444 = .ok (.iaload, 1) := by decide +kernel
theorem d_Model_small_445 : decode prog_12_method_19_code 445 = .ok (.aload_n 0, 1) := by decide +kernel
theorem d_Model_small_446 : decode prog_12_method_19_code 446 = .ok (.getfield 35, 3) := by decide +kernel
theorem d_Model_small_449 : decode prog_12_method_19_code 449 = .ok (.iconst 4, 1) := by decide +kernel
theorem d_Model_small_450 : decode prog_12_method_19_code 450 = .ok (.iaload, 1) := by decide +kernel
theorem d_Model_small_451 : decode prog_12_method_19_code 451 = .ok (.iadd, 1) := by decide +kernel
theorem d_Model_small_452 : decode prog_12_method_19_code 452 = .ok (.aload_n 0, 1) := by decide +kernel
theorem d_Model_small_453 : decode prog_12_method_19_code 453 = .ok (.getfield 35, 3) := by decide +kernel
theorem d_Model_small_456 : decode prog_12_method_19_code 456 = .ok (.iconst 5, 1) := by decide +kernel
theorem d_Model_small_457 : decode prog_12_method_19_code 457 = .ok (.iaload, 1) := by decide +kernel
theorem d_Model_small_458 : decode prog_12_method_19_code 458 = .ok (.iadd, 1) := by decide +kernel
theorem d_Model_small_459 : decode prog_12_method_19_code 459 = .ok (.iastore, 1) := by decide +kernel
theorem d_Model_small_460 : decode prog_12_method_19_code 460 = .ok (.aload_n 0, 1) := by decide +kernel
theorem d_Model_small_461 : decode prog_12_method_19_code 461 = .ok (.getfield 32, 3) := by decide +kernel
theorem d_Model_small_464 : decode prog_12_method_19_code 464 = .ok (.iconst 3, 1) := by decide +kernel
theorem d_Model_small_465 : decode prog_12_method_19_code 465 = .ok (.aload_n 0, 1) := by decide +kernel
theorem d_Model_small_466 : decode prog_12_method_19_code 466 = .ok (.getfield 32, 3) := by decide +kernel
theorem d_Model_small_469 : decode prog_12_method_19_code 469 = .ok (.iconst 4, 1) := by decide +kernel
theorem d_Model_small_470 : decode prog_12_method_19_code 470 = .ok (.iaload, 1) := by decide +kernel
theorem d_Model_small_471 : decode prog_12_method_19_code 471 = .ok (.aload_n 0, 1) := by decide +kernel
theorem d_Model_small_472 : decode prog_12_method_19_code 472 = .ok (.getfield 35, 3) := by decide +kernel
theorem d_Model_small_475 : decode prog_12_method_19_code 475 = .ok (.iconst 0, 1) := by decide +kernel
theorem d_Model_small_476 : decode prog_12_method_19_code 476 = .ok (.iaload, 1) := by decide +kernel
theorem d_Model_small_477 : decode prog_12_method_19_code 477 = .ok (.iadd, 1) := by decide +kernel
theorem d_Model_small_478 : decode prog_12_method_19_code 478 = .ok (.aload_n 0, 1) := by decide +kernel
theorem d_Model_small_479 : decode prog_12_method_19_code 479 = .ok (.getfield 35, 3) := by decide +kernel
theorem d_Model_small_482 : decode prog_12_method_19_code 482 = .ok (.bipush 6, 2) := by decide +kernel
theorem d_Model_small_484 : decode prog_12_method_19_code 484 = .ok (.iaload, 1) := by decide +kernel
theorem d_Model_small_485 : decode prog_12_method_19_code 485 = .ok (.iadd, 1) := by decide +kernel
theorem d_Model_small_486 : decode prog_12_method_19_code 486 = .ok (.iastore, 1) := by decide +kernel
theorem d_Model_small_487 : decode prog_12_method_19_code 487 = .ok (.aload_n 0, 1) := by decide +kernel
theorem d_Model_small_488 : decode prog_12_method_19_code 488 = .ok (.getfield 32, 3) := by decide +kernel
theorem d_Model_small_491 : decode prog_12_method_19_code 491 = .ok (.iconst 4, 1) := by decide +kernel
theorem d_Model_small_492 : decode prog_12_method_19_code 492 = .ok (.aload_n 0, 1) := by decide +kernel
theorem d_Model_small_493 : decode prog_12_method_19_code 493 = .ok (.getfield 32, 3) := by decide +kernel
theorem d_Model_small_496 : decode prog_12_method_19_code 496 = .ok (.iconst 0, 1) := by decide +kernel
theorem d_Model_small_497 : decode prog_12_method_19_code 497 = .ok (.iaload, 1) := by decide +kernel
theorem d_Model_small_498 : decode prog_12_method_19_code 498 = .ok (.aload_n 0, 1) := by decide +kernel
theorem d_Model_small_499 : decode prog_12_method_19_code 499 = .ok (.getfield 35, 3) := by decide +kernel
theorem d_Model_small_502 : decode prog_12_method_19_code 502 = .ok (.iconst 1, 1) := by decide +kernel
theorem d_Model_small_503 : decode prog_12_method_19_code 503 = .ok (.iaload, 1) := by decide +kernel
theorem d_Model_small_504 : decode prog_12_method_19_code 504 = .ok (.iadd, 1) := by decide +kernel
theorem d_Model_small_505 : decode prog_12_method_19_code 505 = .ok (.aload_n 0, 1) := by decide +kernel
theorem d_Model_small_506 : decode prog_12_method_19_code 506 = .ok (.getfield 35, 3) := by decide +kernel
theorem d_Model_small_509 : decode prog_12_method_19_code 509 = .ok (.bipush 7, 2) := by decide +kernel
theorem d_Model_small_511 : decode prog_12_method_19_code 511 = .ok (.iaload, 1) := by decide +kernel
theorem d_Model_small_512 : decode prog_12_method_19_code 512 = .ok (.iadd, 1) := by decide +kernel
theorem d_Model_small_513 : decode prog_12_method_19_code 513 = .ok (.iastore, 1) := by decide +kernel
theorem d_Model_small_514 : decode prog_12_method_19_code 514 = .ok (.aload_n 0, 1) := by decide +kernel
theorem d_Model_small_515 : decode prog_12_method_19_code 515 = .ok (.getfield 32, 3) := by decide +kernel
theorem d_Model_small_518 : decode prog_12_method_19_code 518 = .ok (.iconst 0, 1) := by decide +kernel
theorem d_Model_small_519 : decode prog_12_method_19_code 519 = .ok (.iload 4, 2) := by decide +kernel
theorem d_Model_small_521 : decode prog_12_method_19_code 521 = .ok (.iastore, 1) := by decide +kernel
theorem d_Model_small_522 : decode prog_12_method_19_code 522 = .ok (.iinc 3 1, 3) := by decide +kernel
theorem d_Model_small_525 : decode prog_12_method_19_code 525 = .ok (.goto (-476), 3) := by decide +kernel
theorem d_Model_small_528 : decode prog_12_method_19_code 528 = .ok (.aload_n 0, 1) := by decide +kernel
theorem d_Model_small_529 : decode prog_12_method_19_code 529 = .ok (.getfield 13, 3) := by decide +kernel
theorem d_Model_small_532 : decode prog_12_method_19_code 532 = .ok (.iload_n 1, 1) := by decide +kernel
theorem d_Model_small_533 : decode prog_12_method_19_code 533 = .ok (.bipush 20, 2) := by decide +kernel
theorem d_Model_small_535 : decode prog_12_method_19_code 535 = .ok (.iastore, 1) := by decide +kernel
theorem d_Model_small_536 : decode prog_12_method_19_code 536 = .ok (.iconst 0, 1) := by decide +kernel
theorem d_Model_small_537 : decode prog_12_method_19_code 537 = .ok (.istore_n 3, 1) := by decide +kernel
theorem d_Model_small_538 : decode prog_12_method_19_code 538 = .ok (.iload_n 3, 1) := by decide +kernel
theorem d_Model_small_539 : decode prog_12_method_19_code 539 = .ok (.bipush 20, 2) := by decide +kernel
theorem d_Model_small_541 : decode prog_12_method_19_code 541 = .ok (.if_icmp .ge 39, 3) := by decide +kernel
theorem d_Model_small_544 : decode prog_12_method_19_code 544 = .ok (.aload_n 0, 1) := by decide +kernel
theorem d_Model_small_545 : decode prog_12_method_19_code 545 = .ok (.getfield 7, 3) := by decide +kernel
theorem d_Model_small_548 : decode prog_12_method_19_code 548 = .ok (.bipush 120, 2) := by decide +kernel
theorem d_Model_small_550 : decode prog_12_method_19_code 550 = .ok (.iload_n 1, 1) := by decide +kernel
theorem d_Model_small_551 : decode prog_12_method_19_code 551 = .ok (.imul, 1) := by decide +kernel
theorem d_Model_small_552 : decode prog_12_method_19_code 552 = .ok (.iload_n 3, 1) := by decide +kernel
theorem d_Model_small_553 : decode prog_12_method_19_code 553 = .ok (.iadd, 1) := by decide +kernel
theorem d_Model_small_554 : decode prog_12_method_19_code 554 = .ok (.aload_n 0, 1) := by decide +kernel
theorem d_Model_small_555 : decode prog_12_method_19_code 555 = .ok (.getfield 32, 3) := by decide +kernel
theorem d_Model_small_558 : decode prog_12_method_19_code 558 = .ok (.iload_n 3, 1) := by decide +kernel
theorem d_Model_small_559 : decode prog_12_method_19_code 559 = .ok (.iconst 4, 1) := by decide +kernel
theorem d_Model_small_560 : decode prog_12_method_19_code 560 = .ok (.idiv, 1) := by decide +kernel
theorem d_Model_small_561 : decode prog_12_method_19_code 561 = .ok (.iaload, 1) := by decide +kernel
theorem d_Model_small_562 : decode prog_12_method_19_code 562 = .ok (.bipush 8, 2) := by decide +kernel
theorem d_Model_small_564 : decode prog_12_method_19_code 564 = .ok (.iload_n 3, 1) := by decide +kernel
theorem d_Model_small_565 : decode prog_12_method_19_code 565 = .ok (.iconst 4, 1) := by decide +kernel
theorem d_Model_small_566 : decode prog_12_method_19_code 566 = .ok (.irem, 1) := by decide +kernel
theorem d_Model_small_567 : decode prog_12_method_19_code 567 = .ok (.imul, 1) := by decide +kernel
theorem d_Model_small_568 : decode prog_12_method_19_code 568 = .ok (.iushr, 1) := by decide +kernel
theorem d_Model_small_569 : decode prog_12_method_19_code 569 = .ok (.sipush 255, 3) := by decide +kernel
theorem d_Model_small_572 : decode prog_12_method_19_code 572 = .ok (.iand, 1) := by decide +kernel
theorem d_Model_small_573 : decode prog_12_method_19_code 573 = .ok (.iastore, 1) := by decide +kernel
theorem d_Model_small_574 : decode prog_12_method_19_code 574 = .ok (.iinc 3 1, 3) := by decide +kernel
theorem d_Model_small_577 : decode prog_12_method_19_code 577 = .ok (.goto (-39), 3) := by decide +kernel
theorem d_Model_small_580 : decode prog_12_method_19_code 580 = .ok (.return_, 1) := by decide +kernel
theorem d_Model_wide_0 : decode prog_12_method_17_code 0 = .ok (.aload_n 0, 1) := by decide +kernel
theorem d_Model_wide_1 : decode prog_12_method_17_code 1 = .ok (.iload_n 1, 1) := by decide +kernel
theorem d_Model_wide_2 : decode prog_12_method_17_code 2 = .ok (.iconst 1, 1) := by decide +kernel
theorem d_Model_wide_3 : decode prog_12_method_17_code 3 = .ok (.invokevirtual 81, 3) := by decide +kernel
theorem d_Model_wide_6 : decode prog_12_method_17_code 6 = .ok (.istore_n 2, 1) := by decide +kernel
theorem d_Model_wide_7 : decode prog_12_method_17_code 7 = .ok (.aload_n 0, 1) := by decide +kernel
theorem d_Model_wide_8 : decode prog_12_method_17_code 8 = .ok (.getfield 32, 3) := by decide +kernel
theorem d_Model_wide_11 : decode prog_12_method_17_code 11 = .ok (.iconst 0, 1) := by decide +kernel
theorem d_Model_wide_12 : decode prog_12_method_17_code 12 = .ok (.ldc 85, 2) := by decide +kernel
theorem d_Model_wide_14 : decode prog_12_method_17_code 14 = .ok (.iastore, 1) := by decide +kernel
theorem d_Model_wide_15 : decode prog_12_method_17_code 15 = .ok (.aload_n 0, 1) := by decide +kernel
theorem d_Model_wide_16 : decode prog_12_method_17_code 16 = .ok (.getfield 32, 3) := by decide +kernel
theorem d_Model_wide_19 : decode prog_12_method_17_code 19 = .ok (.iconst 1, 1) := by decide +kernel
theorem d_Model_wide_20 : decode prog_12_method_17_code 20 = .ok (.ldc 86, 2) := by decide +kernel
theorem d_Model_wide_22 : decode prog_12_method_17_code 22 = .ok (.iastore, 1) := by decide +kernel
theorem d_Model_wide_23 : decode prog_12_method_17_code 23 = .ok (.aload_n 0, 1) := by decide +kernel
theorem d_Model_wide_24 : decode prog_12_method_17_code 24 = .ok (.getfield 32, 3) := by decide +kernel
theorem d_Model_wide_27 : decode prog_12_method_17_code 27 = .ok (.iconst 2, 1) := by decide +kernel
theorem d_Model_wide_28 : decode prog_12_method_17_code 28 = .ok (.ldc 87, 2) := by decide +kernel
theorem d_Model_wide_30 : decode prog_12_method_17_code 30 = .ok (.iastore, 1) := by decide +kernel
theorem d_Model_wide_31 : decode prog_12_method_17_code 31 = .ok (.aload_n 0, 1) := by decide +kernel
theorem d_Model_wide_32 : decode prog_12_method_17_code 32 = .ok (.getfield 32, 3) := by decide +kernel
theorem d_Model_wide_35 : decode prog_12_method_17_code 35 = .ok (.iconst 3, 1) := by decide +kernel
theorem d_Model_wide_36 : decode prog_12_method_17_code 36 = .ok (.ldc 88, 2) := by decide +kernel
theorem d_Model_wide_38 : decode prog_12_method_17_code 38 = .ok (.iastore, 1) := by decide +kernel
theorem d_Model_wide_39 : decode prog_12_method_17_code 39 = .ok (.aload_n 0, 1) := by decide +kernel
theorem d_Model_wide_40 : decode prog_12_method_17_code 40 = .ok (.getfield 32, 3) := by decide +kernel
theorem d_Model_wide_43 : decode prog_12_method_17_code 43 = .ok (.iconst 4, 1) := by decide +kernel
theorem d_Model_wide_44 : decode prog_12_method_17_code 44 = .ok (.ldc 89, 2) := by decide +kernel
theorem d_Model_wide_46 : decode prog_12_method_17_code 46 = .ok (.iastore, 1) := by decide +kernel
theorem d_Model_wide_47 : decode prog_12_method_17_code 47 = .ok (.aload_n 0, 1) := by decide +kernel
theorem d_Model_wide_48 : decode prog_12_method_17_code 48 = .ok (.getfield 32, 3) := by decide +kernel
theorem d_Model_wide_51 : decode prog_12_method_17_code 51 = .ok (.iconst 5, 1) := by decide +kernel
theorem d_Model_wide_52 : decode prog_12_method_17_code 52 = .ok (.ldc 90, 2) := by decide +kernel
theorem d_Model_wide_54 : decode prog_12_method_17_code 54 = .ok (.iastore, 1) := by decide +kernel
theorem d_Model_wide_55 : decode prog_12_method_17_code 55 = .ok (.aload_n 0, 1) := by decide +kernel
theorem d_Model_wide_56 : decode prog_12_method_17_code 56 = .ok (.getfield 32, 3) := by decide +kernel
theorem d_Model_wide_59 : decode prog_12_method_17_code 59 = .ok (.bipush 6, 2) := by decide +kernel
theorem d_Model_wide_61 : decode prog_12_method_17_code 61 = .ok (.ldc 91, 2) := by decide +kernel
theorem d_Model_wide_63 : decode prog_12_method_17_code 63 = .ok (.iastore, 1) := by decide +kernel
theorem d_Model_wide_64 : decode prog_12_method_17_code 64 = .ok (.aload_n 0, 1) := by decide +kernel
theorem d_Model_wide_65 : decode prog_12_method_17_code 65 = .ok (.getfield 32, 3) := by decide +kernel
theorem d_Model_wide_68 : decode prog_12_method_17_code 68 = .ok (.bipush 7, 2) := by decide +kernel
theorem d_Model_wide_70 : decode prog_12_method_17_code 70 = .ok (.ldc 92, 2) := by decide +kernel
theorem d_Model_wide_72 : decode prog_12_method_17_code 72 = .ok (.iastore, 1) := by decide +kernel
theorem d_Model_wide_73 : decode prog_12_method_17_code 73 = .ok (.iconst 0, 1) := by decide +kernel
theorem d_Model_wide_74 : decode prog_12_method_17_code 74 = .ok (.istore_n 3, 1) := by decide +kernel
theorem d_Model_wide_75 : decode prog_12_method_17_code 75 = .ok (.iload_n 3, 1) := by decide +kernel
theorem d_Model_wide_76 : decode prog_12_method_17_code 76 = .ok (.iload_n 2, 1) := by decide +kernel
theorem d_Model_wide_77 : decode prog_12_method_17_code 77 = .ok (.if_icmp .ge 518, 3) := by decide +kernel
theorem d_Model_wide_80 : decode prog_12_method_17_code 80 = .ok (.iconst 0, 1) := by decide +kernel
theorem d_Model_wide_81 : decode prog_12_method_17_code 81 = .ok (.istore 4, 2) := by decide +kernel
theorem d_Model_wide_83 : decode prog_12_method_17_code 83 = .ok (.iload 4, 2) := by decide +kernel
theorem d_Model_wide_85 : decode prog_12_method_17_code 85 = .ok (.bipush 64, 2) := by decide +kernel
theorem d_Model_wide_87 : decode prog_12_method_17_code 87 = .ok (.if_icmp .ge 192, 3) := by decide +kernel
theorem d_Model_wide_90 : decode prog_12_method_17_code 90 = .ok (.bipush 64, 2) := by decide +kernel
theorem d_Model_wide_92 : decode prog_12_method_17_code 92 = .ok (.iload_n 3, 1) := by decide +kernel
theorem d_Model_wide_93 : decode prog_12_method_17_code 93 = .ok (.imul, 1) := by decide +kernel
theorem d_Model_wide_94 : decode prog_12_method_17_code 94 = .ok (.iconst 4, 1) := by decide +kernel
theorem d_Model_wide_95 : decode prog_12_method_17_code 95 = .ok (.iload 4, 2) := by decide +kernel
theorem d_Model_wide_97 : decode prog_12_method_17_code 97 = .ok (.imul, 1) := by decide +kernel
theorem d_Model_wide_98 : decode prog_12_method_17_code 98 = .ok (.iadd, 1) := by decide +kernel
theorem d_Model_wide_99 : decode prog_12_method_17_code 99 = .ok (.istore 5, 2) := by decide +kernel
theorem d_Model_wide_101 : decode prog_12_method_17_code 101 = .ok (.aload_n 0, 1) := by decide +kernel
theorem d_Model_wide_102 : decode prog_12_method_17_code 102 = .ok (.getfield 29, 3) := by decide +kernel
theorem d_Model_wide_105 : decode prog_12_method_17_code 105 = .ok (.iload 4, 2) := by decide +kernel
theorem d_Model_wide_107 : decode prog_12_method_17_code 107 = .ok (.iload 4, 2) := by decide +kernel
theorem d_Model_wide_109 : decode prog_12_method_17_code 109 = .ok (.bipush 16, 2) := by decide +kernel
theorem d_Model_wide_111 : decode prog_12_method_17_code 111 = .ok (.if_icmp .ge 52, 3) := by decide +kernel
theorem d_Model_wide_114 : decode prog_12_method_17_code 114 = .ok (.aload_n 0, 1) := by decide +kernel
theorem d_Model_wide_115 : decode prog_12_method_17_code 115 = .ok (.getfield 26, 3) := by decide +kernel
theorem d_Model_wide_118 : decode prog_12_method_17_code 118 = .ok (.iload 5, 2) := by decide +kernel
theorem d_Model_wide_120 : decode prog_12_method_17_code 120 = .ok (.iaload, 1) := by decide +kernel
theorem d_Model_wide_121 : decode prog_12_method_17_code 121 = .ok (.bipush 24, 2) := by decide +kernel
theorem d_Model_wide_123 : decode prog_12_method_17_code 123 = .ok (.ishl, 1) := by decide +kernel
theorem d_Model_wide_124 : decode prog_12_method_17_code 124 = .ok (.aload_n 0, 1) := by decide +kernel
theorem d_Model_wide_125 : decode prog_12_method_17_code 125 = .ok (.getfield 26, 3) := by decide +kernel
theorem d_Model_wide_128 : decode prog_12_method_17_code 128 = .ok (.iload 5, 2) := by decide +kernel
theorem d_Model_wide_130 : decode prog_12_method_17_code 130 = .ok (.iconst 1, 1) := by decide +kernel
theorem d_Model_wide_131 : decode prog_12_method_17_code 131 = .ok (.iadd, 1) := by decide +kernel
theorem d_Model_wide_132 : decode prog_12_method_17_code 132 = .ok (.iaload, 1) := by decide +kernel
theorem d_Model_wide_133 : decode prog_12_method_17_code 133 = .ok (.bipush 16, 2) := by decide +kernel
theorem d_Model_wide_135 : decode prog_12_method_17_code 135 = .ok (.ishl, 1) := by decide +kernel
theorem d_Model_wide_136 : decode prog_12_method_17_code 136 = .ok (.ior, 1) := by decide +kernel
theorem d_Model_wide_137 : decode prog_12_method_17_code 137 = .ok (.aload_n 0, 1) := by decide +kernel
theorem d_Model_wide_138 : decode prog_12_method_17_code 138 = .ok (.getfield 26, 3) := by decide +kernel
theorem d_Model_wide_141 : decode prog_12_method_17_code 141 = .ok (.iload 5, 2) := by decide +kernel
theorem d_Model_wide_143 : decode prog_12_method_17_code 143 = .ok (.iconst 2, 1) := by decide +kernel
theorem d_Model_wide_144 : decode prog_12_method_17_code 144 = .ok (.iadd, 1) := by decide +kernel
theorem d_Model_wide_145 : decode prog_12_method_17_code 145 = .ok (.iaload, 1) := by decide +kernel
theorem d_Model_wide_146 : decode prog_12_method_17_code 146 = .ok (.bipush 8, 2) := by decide +kernel
theorem d_Model_wide_148 : decode prog_12_method_17_code 148 = .ok (.ishl, 1) := by decide +kernel
theorem d_Model_wide_149 : decode prog_12_method_17_code 149 = .ok (.ior, 1) := by decide +kernel
theorem d_Model_wide_150 : decode prog_12_method_17_code 150 = .ok (.aload_n 0, 1) := by decide +kernel
theorem d_Model_wide_151 : decode prog_12_method_17_code 151 = .ok (.getfield 26, 3) := by decide +kernel
theorem d_Model_wide_154 : decode prog_12_method_17_code 154 = .ok (.iload 5, 2) := by decide +kernel
theorem d_Model_wide_156 : decode prog_12_method_17_code 156 = .ok (.iconst 3, 1) := by decide +kernel
theorem d_Model_wide_157 : decode prog_12_method_17_code 157 = .ok (.iadd, 1) := by decide +kernel
theorem d_Model_wide_158 : decode prog_12_method_17_code 158 = .ok (.iaload, 1) := by decide +kernel
theorem d_Model_wide_159 : decode prog_12_method_17_code 159 = .ok (.ior, 1) := by decide +kernel
theorem d_Model_wide_160 : decode prog_12_method_17_code 160 = .ok (.goto 112, 3) := by decide +kernel
theorem d_Model_wide_163 : decode prog_12_method_17_code 163 = .ok (.aload_n 0, 1) := by decide +kernel
theorem d_Model_wide_164 : decode prog_12_method_17_code 164 = .ok (.getfield 29, 3) := by decide +kernel
theorem d_Model_wide_167 : decode prog_12_method_17_code 167 = .ok (.iload 4, 2) := by decide +kernel
theorem d_Model_wide_169 : decode prog_12_method_17_code 169 = .ok (.iconst 2, 1) := by decide +kernel
theorem d_Model_wide_170 : decode prog_12_method_17_code 170 = .ok (.isub, 1) := by decide +kernel
theorem d_Model_wide_171 : decode prog_12_method_17_code 171 = .ok (.iaload, 1) := by decide +kernel
theorem d_Model_wide_172 : decode prog_12_method_17_code 172 = .ok (.bipush 17, 2) := by decide +kernel
theorem d_Model_wide_174 : decode prog_12_method_17_code 174 = .ok (.invokestatic 93, 3) := by decide +kernel
theorem d_Model_wide_177 : decode prog_12_method_17_code 177 = .ok (.aload_n 0, 1) := by decide +kernel
theorem d_Model_wide_178 : decode prog_12_method_17_code 178 = .ok (.getfield 29, 3) := by decide +kernel
theorem d_Model_wide_181 : decode prog_12_method_17_code 181 = .ok (.iload 4, 2) := by decide +kernel
theorem d_Model_wide_183 : decode prog_12_method_17_code 183 = .ok (.iconst 2, 1) := by decide +kernel
theorem d_Model_wide_184 : decode prog_12_method_17_code 184 = .ok (.isub, 1) := by decide +kernel
theorem d_Model_wide_185 : decode prog_12_method_17_code 185 = .ok (.iaload, 1) := by decide +kernel
theorem d_Model_wide_186 : decode prog_12_method_17_code 186 = .ok (.bipush 19, 2) := by decide +kernel
theorem d_Model_wide_188 : decode prog_12_method_17_code 188 = .ok (.invokestatic 93, 3) := by decide +kernel
theorem d_Model_wide_191 : decode prog_12_method_17_code 191 = .ok (.ixor, 1) := by decide +kernel
theorem d_Model_wide_192 : decode prog_12_method_17_code 192 = .ok (.aload_n 0, 1) := by decide +kernel
theorem d_Model_wide_193 : decode prog_12_method_17_code 193 = .ok (.getfield 29, 3) := by decide +kernel
theorem d_Model_wide_196 : decode prog_12_method_17_code 196 = .ok (.iload 4, 2) := by decide +kernel
theorem d_Model_wide_198 : decode prog_12_method_17_code 198 = .ok (.iconst 2, 1) := by decide +kernel
theorem d_Model_wide_199 : decode prog_12_method_17_code 199 = .ok (.isub, 1) := by decide +kernel
theorem d_Model_wide_200 : decode prog_12_method_17_code 200 = .ok (.iaload, 1) := by decide +kernel
theorem d_Model_wide_201 : decode prog_12_method_17_code 201 = .ok (.bipush 10, 2) := by decide +kernel
theorem d_Model_wide_203 : decode prog_12_method_17_code 203 = .ok (.iushr, 1) := by decide +kernel
theorem d_Model_wide_204 : decode prog_12_method_17_code 204 = .ok (.ixor, 1) := by decide +kernel
theorem d_Model_wide_205 : decode prog_12_method_17_code 205 = .ok (.aload_n 0, 1) := by decide +kernel
theorem d_Model_wide_206 : decode prog_12_method_17_code 206 = .ok (.getfield 29, 3) := by decide +kernel
theorem d_Model_wide_209 : decode prog_12_method_17_code 209 = .ok (.iload 4, 2) := by decide +kernel
theorem d_Model_wide_211 : decode prog_12_method_17_code 211 = .ok (.bipush 7, 2) := by decide +kernel
theorem d_Model_wide_213 : decode prog_12_method_17_code 213 = .ok (.isub, 1) := by decide +kernel
theorem d_Model_wide_214 : decode prog_12_method_17_code 214 = .ok (.iaload, 1) := by decide +kernel
theorem d_Model_wide_215 : decode prog_12_method_17_code 215 = .ok (.iadd, 1) := by decide +kernel
theorem d_Model_wide_216 : decode prog_12_method_17_code 216 = .ok (.aload_n 0, 1) := by decide +kernel
theorem d_Model_wide_217 : decode prog_12_method_17_code 217 = .ok (.getfield 29, 3) := by decide +kernel
theorem d_Model_wide_220 : decode prog_12_method_17_code 220 = .ok (.iload 4, 2) := by decide +kernel
theorem d_Model_wide_222 : decode prog_12_method_17_code 222 = .ok (.bipush 15, 2) := by decide +kernel
theorem d_Model_wide_224 : decode prog_12_method_17_code 224 = .ok (.isub, 1) := by decide +kernel
theorem d_Model_wide_225 : decode prog_12_method_17_code 225 = .ok (.iaload, 1) := by decide +kernel
theorem d_Model_wide_226 : decode prog_12_method_17_code 226 = .ok (.bipush 7, 2) := by decide +kernel
theorem d_Model_wide_228 : decode prog_12_method_17_code 228 = .ok (.invokestatic 93, 3) := by decide +kernel
theorem d_Model_wide_231 : decode prog_12_method_17_code 231 = .ok (.aload_n 0, 1) := by decide +kernel
theorem d_Model_wide_232 : decode prog_12_method_17_code 232 = .ok (.getfield 29, 3) := by decide +kernel
theorem d_Model_wide_235 : decode prog_12_method_17_code 235 = .ok (.iload 4, 2) := by decide +kernel
theorem d_Model_wide_237 : decode prog_12_method_17_code 237 = .ok (.bipush 15, 2) := by decide +kernel
theorem d_Model_wide_239 : decode prog_12_method_17_code 239 = .ok (.isub, 1) := by decide +kernel
theorem d_Model_wide_240 : decode prog_12_method_17_code 240 = .ok (.iaload, 1) := by decide +kernel
theorem d_Model_wide_241 : decode prog_12_method_17_code 241 = .ok (.bipush 18, 2) := by decide +kernel
theorem d_Model_wide_243 : decode prog_12_method_17_code 243 = .ok (.invokestatic 93, 3) := by decide +kernel
theorem d_Model_wide_246 : decode prog_12_method_17_code 246 = .ok (.ixor, 1) := by decide +kernel
theorem d_Model_wide_247 : decode prog_12_method_17_code 247 = .ok (.aload_n 0, 1) := by decide +kernel
theorem d_Model_wide_248 : decode prog_12_method_17_code 248 = .ok (.getfield 29, 3) := by decide +kernel
theorem d_Model_wide_251 : decode prog_12_method_17_code 251 = .ok (.iload 4, 2) := by decide +kernel
theorem d_Model_wide_253 : decode prog_12_method_17_code 253 = .ok (.bipush 15, 2) := by decide +kernel
theorem d_Model_wide_255 : decode prog_12_method_17_code 255 = .ok (.isub, 1) := by decide +kernel
theorem d_Model_wide_256 : decode prog_12_method_17_code 256 = .ok (.iaload, 1) := by decide +kernel
theorem d_Model_wide_257 : decode prog_12_method_17_code 257 = .ok (.iconst 3, 1) := by decide +kernel
theorem d_Model_wide_258 : decode prog_12_method_17_code 258 = .ok (.iushr, 1) := by decide +kernel
theorem d_Model_wide_259 : decode prog_12_method_17_code 259 = .ok (.ixor, 1) := by decide +kernel
theorem d_Model_wide_260 : decode prog_12_method_17_code 260 = .ok (.iadd, 1) := by decide +kernel
theorem d_Model_wide_261 : decode prog_12_method_17_code 261 = .ok (.aload_n 0, 1) := by decide +kernel
theorem d_Model_wide_262 : decode prog_12_method_17_code 262 = .ok (.getfield 29, 3) := by decide +kernel
theorem d_Model_wide_265 : decode prog_12_method_17_code 265 = .ok (.iload 4, 2) := by decide +kernel
theorem d_Model_wide_267 : decode prog_12_method_17_code 267 = .ok (.bipush 16, 2) := by decide +kernel
theorem d_Model_wide_269 : decode prog_12_method_17_code 269 = .ok (.isub, 1) := by decide +kernel
theorem d_Model_wide_270 : decode prog_12_method_17_code 270 = .ok (.iaload, 1) := by decide +kernel
theorem d_Model_wide_271 : decode prog_12_method_17_code 271 = .ok (.iadd, 1) := by decide +kernel
theorem d_Model_wide_272 : decode prog_12_method_17_code 272 = .ok (.iastore, 1) := by decide +kernel
theorem d_Model_wide_273 : decode prog_12_method_17_code 273 = .ok (.iinc 4 1, 3) := by decide +kernel
theorem d_Model_wide_276 : decode prog_12_method_17_code 276 = .ok (.goto (-193), 3) := by decide +kernel
theorem d_Model_wide_279 : decode prog_12_method_17_code 279 = .ok (.iconst 0, 1) := by decide +kernel
theorem d_Model_wide_280 : decode prog_12_method_17_code 280 = .ok (.istore 4, 2) := by decide +kernel
theorem d_Model_wide_282 : decode prog_12_method_17_code 282 = .ok (.iload 4, 2) := by decide +kernel
theorem d_Model_wide_284 : decode prog_12_method_17_code 284 = .ok (.bipush 8, 2) := by decide +kernel
theorem d_Model_wide_286 : decode prog_12_method_17_code 286 = .ok (.if_icmp .ge 23, 3) := by decide +kernel
theorem d_Model_wide_289 : decode prog_12_method_17_code 289 = .ok (.aload_n 0, 1) := by decide +kernel
theorem d_Model_wide_290 : decode prog_12_method_17_code 290 = .ok (.getfield 35, 3) := by decide +kernel
theorem d_Model_wide_293 : decode prog_12_method_17_code 293 = .ok (.iload 4, 2) := by decide +kernel
theorem d_Model_wide_295 : decode prog_12_method_17_code 295 = .ok (.aload_n 0, 1) := by decide +kernel
theorem d_Model_wide_296 : decode prog_12_method_17_code 296 = .ok (.getfield 32, 3) := by decide +kernel
theorem d_Model_wide_299 : decode prog_12_method_17_code 299 = .ok (.iload 4, 2) := by decide +kernel
theorem d_Model_wide_301 : decode prog_12_method_17_code 301 = .ok (.iaload, 1) := by decide +kernel
theorem d_Model_wide_302 : decode prog_12_method_17_code 302 = .ok (.iastore, 1) := by decide +kernel
theorem d_Model_wide_303 : decode prog_12_method_17_code 303 = .ok (.iinc 4 1, 3) := by decide +kernel
theorem d_Model_wide_306 : decode prog_12_method_17_code 306 = .ok (.goto (-24), 3) := by decide +kernel
theorem d_Model_wide_309 : decode prog_12_method_17_code 309 = .ok (.iconst 0, 1) := by decide +kernel
theorem d_Model_wide_310 : decode prog_12_method_17_code 310 = .ok (.istore 4, 2) := by decide +kernel
theorem d_Model_wide_312 : decode prog_12_method_17_code 312 = .ok (.iload 4, 2) := by decide +kernel
theorem d_Model_wide_314 : decode prog_12_method_17_code 314 = .ok (.bipush 64, 2) := by decide +kernel
theorem d_Model_wide_316 : decode prog_12_method_17_code 316 = .ok (.if_icmp .ge 235, 3) := by decide +kernel
theorem d_Model_wide_319 : decode prog_12_method_17_code 319 = .ok (.aload_n 0, 1) := by decide +kernel
theorem d_Model_wide_320 : decode prog_12_method_17_code 320 = .ok (.getfield 35, 3) := by decide +kernel
theorem d_Model_wide_323 : decode prog_12_method_17_code 323 = .ok (.bipush 7, 2) := by decide +kernel
theorem d_Model_wide_325 : decode prog_12_method_17_code 325 = .ok (.iaload, 1) := by decide +kernel
theorem d_Model_wide_326 : decode prog_12_method_17_code 326 = .ok (.aload_n 0, 1) := by decide +kernel
theorem d_Model_wide_327 : decode prog_12_method_17_code 327 = .ok (.getfield 35, 3) := by decide +kernel
theorem d_Model_wide_330 : decode prog_12_method_17_code 330 = .ok (.iconst 4, 1) := by decide +kernel
theorem d_Model_wide_331 : decode prog_12_method_17_code 331 = .ok (.iaload, 1) := by decide +kernel
theorem d_Model_wide_332 : decode prog_12_method_17_code 332 = .ok (.bipush 6, 2) := by decide +kernel
theorem d_Model_wide_334 : decode prog_12_method_17_code 334 = .ok (.invokestatic 93, 3) := by decide +kernel
theorem d_Model_wide_337 : decode prog_12_method_17_code 337 = .ok (.aload_n 0, 1) := by decide +kernel
theorem d_Model_wide_338 : decode prog_12_method_17_code 338 = .ok (.getfield 35, 3) := by decide +kernel
theorem d_Model_wide_341 : decode prog_12_method_17_code 341 = .ok (.iconst 4, 1) := by decide +kernel
theorem d_Model_wide_342 : decode prog_12_method_17_code 342 = .ok (.iaload, 1) := by decide +kernel
theorem d_Model_wide_343 : decode prog_12_method_17_code 343 = .ok (.bipush 11, 2) := by decide +kernel
theorem d_Model_wide_345 : decode prog_12_method_17_code 345 = .ok (.invokestatic 93, 3) := by decide +kernel
theorem d_Model_wide_348 : decode prog_12_method_17_code 348 = .ok (.ixor, 1) := by decide +kernel
theorem d_Model_wide_349 : decode prog_12_method_17_code 349 = .ok (.aload_n 0, 1) := by decide +kernel
theorem d_Model_wide_350 : decode prog_12_method_17_code 350 = .ok (.getfield 35, 3) := by decide +kernel
theorem d_Model_wide_353 : decode prog_12_method_17_code 353 = .ok (.iconst 4, 1) := by decide +kernel
theorem d_Model_wide_354 : decode prog_12_method_17_code 354 = .ok (.iaload, 1) := by decide +kernel
theorem d_Model_wide_355 : decode prog_12_method_17_code 355 = .ok (.bipush 25, 2) := by decide +kernel
theorem d_Model_wide_357 : decode prog_12_method_17_code 357 = .ok (.invokestatic 93, 3) := by decide +kernel
theorem d_Model_wide_360 : decode prog_12_method_17_code 360 = .ok (.ixor, 1) := by decide +kernel
theorem d_Model_wide_361 : decode prog_12_method_17_code 361 = .ok (.iadd, 1) := by decide +kernel
theorem d_Model_wide_362 : decode prog_12_method_17_code 362 = .ok (.aload_n 0, 1) := by decide +kernel
theorem d_Model_wide_363 : decode prog_12_method_17_code 363 = .ok (.getfield 35, 3) := by decide +kernel
theorem d_Model_wide_366 : decode prog_12_method_17_code 366 = .ok (.iconst 4, 1) := by decide +kernel
theorem d_Model_wide_367 : decode prog_12_method_17_code 367 = .ok (.iaload, 1) := by decide +kernel
theorem d_Model_wide_368 : decode prog_12_method_17_code 368 = .ok (.aload_n 0, 1) := by decide +kernel
theorem d_Model_wide_369 : decode prog_12_method_17_code 369 = .ok (.getfield 35, 3) := by decide +kernel
theorem d_Model_wide_372 : decode prog_12_method_17_code 372 = .ok (.iconst 5, 1) := by decide +kernel
theorem d_Model_wide_373 : decode prog_12_method_17_code 373 = .ok (.iaload, 1) := by decide +kernel
theorem d_Model_wide_374 : decode prog_12_method_17_code 374 = .ok (.iand, 1) := by decide +kernel
theorem d_Model_wide_375 : decode prog_12_method_17_code 375 = .ok (.aload_n 0, 1) := by decide +kernel
theorem d_Model_wide_376 : decode prog_12_method_17_code 376 = .ok (.getfield 35, 3) := by decide +kernel
theorem d_Model_wide_379 : decode prog_12_method_17_code 379 = .ok (.iconst 4, 1) := by decide +kernel
theorem d_Model_wide_380 : decode prog_12_method_17_code 380 = .ok (.iaload, 1) := by decide +kernel
theorem d_Model_wide_381 : decode prog_12_method_17_code 381 = .ok (.iconst (-1), 1) := by decide +kernel
theorem d_Model_wide_382 : decode prog_12_method_17_code 382 = .ok (.ixor, 1) := by decide +kernel
theorem d_Model_wide_383 : decode prog_12_method_17_code 383 = .ok (.aload_n 0, 1) := by decide +kernel
theorem d_Model_wide_384 : decode prog_12_method_17_code 384 = .ok (.getfield 35, 3) := by decide +kernel
theorem d_Model_wide_387 : decode prog_12_method_17_code 387 = .ok (.bipush 6, 2) := by decide +kernel
theorem d_Model_wide_389 : decode prog_12_method_17_code 389 = .ok (.iaload, 1) := by decide +kernel
theorem d_Model_wide_390 : decode prog_12_method_17_code 390 = .ok (.iand, 1) := by decide +kernel
theorem d_Model_wide_391 : decode prog_12_method_17_code 391 = .ok (.ixor, 1) := by decide +kernel
theorem d_Model_wide_392 : decode prog_12_method_17_code 392 = .ok (.iadd, 1) := by decide +kernel
theorem d_Model_wide_393 : decode prog_12_method_17_code 393 = .ok (.getstatic 97, 3) := by decide +kernel
theorem d_Model_wide_396 : decode prog_12_method_17_code 396 = .ok (.iload 4, 2) := by decide +kernel
theorem d_Model_wide_398 : decode prog_12_method_17_code 398 = .ok (.iaload, 1) := by decide +kernel
theorem d_Model_wide_399 : decode prog_12_method_17_code 399 = .ok (.iadd, 1) := by decide +kernel
theorem d_Model_wide_400 : decode prog_12_method_17_code 400 = .ok (.aload_n 0, 1) := by decide +kernel
theorem d_Model_wide_401 : decode prog_12_method_17_code 401 = .ok (.getfield 29, 3) := by decide +kernel
theorem d_Model_wide_404 : decode prog_12_method_17_code 404 = .ok (.iload 4, 2) := by decide +kernel
theorem d_Model_wide_406 : decode prog_12_method_17_code 406 = .ok (.iaload, 1) := by decide +kernel
theorem d_Model_wide_407 : decode prog_12_method_17_code 407 = .ok (.iadd, 1) := by decide +kernel
theorem d_Model_wide_408 : decode prog_12_method_17_code 408 = .ok (.istore 5, 2) := by decide +kernel
theorem d_Model_wide_410 : decode prog_12_method_17_code 410 = .ok (.aload_n 0, 1) := by decide +kernel
theorem d_Model_wide_411 : decode prog_12_method_17_code 411 = .ok (.getfield 35, 3) := by decide +kernel
theorem d_Model_wide_414 : decode prog_12_method_17_code 414 = .ok (.iconst 0, 1) := by decide +kernel
theorem d_Model_wide_415 : decode prog_12_method_17_code 415 = .ok (.iaload, 1) := by decide +kernel
theorem d_Model_wide_416 : decode prog_12_method_17_code 416 = .ok (.iconst 2, 1) := by decide +kernel
theorem d_Model_wide_417 : decode prog_12_method_17_code 417 = .ok (.invokestatic 93, 3) := by decide +kernel
theorem d_Model_wide_420 : decode prog_12_method_17_code 420 = .ok (.aload_n 0, 1) := by decide +kernel
theorem d_Model_wide_421 : decode prog_12_method_17_code 421 = .ok (.getfield 35, 3) := by decide +kernel
theorem d_Model_wide_424 : decode prog_12_method_17_code 424 = .ok (.iconst 0, 1) := by decide +kernel
theorem d_Model_wide_425 : decode prog_12_method_17_code 425 = .ok (.iaload, 1) := by decide +kernel
theorem d_Model_wide_426 : decode prog_12_method_17_code 426 = .ok (.bipush 13, 2) := by decide +kernel
theorem d_Model_wide_428 : decode prog_12_method_17_code 428 = .ok (.invokestatic 93, 3) := by decide +kernel
theorem d_Model_wide_431 : decode prog_12_method_17_code 431 = .ok (.ixor, 1) := by decide +kernel
theorem d_Model_wide_432 : decode prog_12_method_17_code 432 = .ok (.aload_n 0, 1) := by decide +kernel
theorem d_Model_wide_433 : decode prog_12_method_17_code 433 = .ok (.getfield 35, 3) := by decide +kernel
theorem d_Model_wide_436 : decode prog_12_method_17_code 436 = .ok (.iconst 0, 1) := by decide +kernel
theorem d_Model_wide_437 : decode prog_12_method_17_code 437 = .ok (.iaload, 1) := by decide +kernel
