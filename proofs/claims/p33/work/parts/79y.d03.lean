theorem dL_follows_427 : decode cL_follows 427 = .ok (.iconst 0, 1) := by decide +kernel
theorem dL_follows_428 : decode cL_follows 428 = .ok (.istore 4, 2) := by decide +kernel
theorem dL_follows_430 : decode cL_follows 430 = .ok (.aload_n 0, 1) := by decide +kernel
theorem dL_follows_431 : decode cL_follows 431 = .ok (.iload 5, 2) := by decide +kernel
theorem dL_follows_433 : decode cL_follows 433 = .ok (.iconst 5, 1) := by decide +kernel
theorem dL_follows_434 : decode cL_follows 434 = .ok (.invokestatic 117, 3) := by decide +kernel
theorem dL_follows_437 : decode cL_follows 437 = .ok (.lstore 16, 2) := by decide +kernel
theorem dL_follows_439 : decode cL_follows 439 = .ok (.iload 4, 2) := by decide +kernel
theorem dL_follows_441 : decode cL_follows 441 = .ok (.ifCond .eq 112, 3) := by decide +kernel
theorem dL_follows_444 : decode cL_follows 444 = .ok (.aload_n 0, 1) := by decide +kernel
theorem dL_follows_445 : decode cL_follows 445 = .ok (.invokestatic 194, 3) := by decide +kernel
theorem dL_follows_448 : decode cL_follows 448 = .ok (.lconst 0, 1) := by decide +kernel
theorem dL_follows_449 : decode cL_follows 449 = .ok (.lcmp, 1) := by decide +kernel
theorem dL_follows_450 : decode cL_follows 450 = .ok (.ifCond .lt 103, 3) := by decide +kernel
theorem dL_follows_453 : decode cL_follows 453 = .ok (.aload_n 0, 1) := by decide +kernel
theorem dL_follows_454 : decode cL_follows 454 = .ok (.iload 5, 2) := by decide +kernel
theorem dL_follows_456 : decode cL_follows 456 = .ok (.iconst 0, 1) := by decide +kernel
theorem dL_follows_457 : decode cL_follows 457 = .ok (.invokestatic 141, 3) := by decide +kernel
theorem dL_follows_460 : decode cL_follows 460 = .ok (.iload 13, 2) := by decide +kernel
theorem dL_follows_462 : decode cL_follows 462 = .ok (.i2l, 1) := by decide +kernel
theorem dL_follows_463 : decode cL_follows 463 = .ok (.lcmp, 1) := by decide +kernel
theorem dL_follows_464 : decode cL_follows 464 = .ok (.ifCond .ne 89, 3) := by decide +kernel
theorem dL_follows_467 : decode cL_follows 467 = .ok (.aload_n 0, 1) := by decide +kernel
theorem dL_follows_468 : decode cL_follows 468 = .ok (.iload 6, 2) := by decide +kernel
theorem dL_follows_470 : decode cL_follows 470 = .ok (.ineg, 1) := by decide +kernel
theorem dL_follows_471 : decode cL_follows 471 = .ok (.iconst 3, 1) := by decide +kernel
theorem dL_follows_472 : decode cL_follows 472 = .ok (.iload 12, 2) := by decide +kernel
theorem dL_follows_474 : decode cL_follows 474 = .ok (.invokestatic 154, 3) := by decide +kernel
theorem dL_follows_477 : decode cL_follows 477 = .ok (.lconst 0, 1) := by decide +kernel
theorem dL_follows_478 : decode cL_follows 478 = .ok (.lcmp, 1) := by decide +kernel
theorem dL_follows_479 : decode cL_follows 479 = .ok (.ifCond .lt 74, 3) := by decide +kernel
theorem dL_follows_482 : decode cL_follows 482 = .ok (.aload_n 0, 1) := by decide +kernel
theorem dL_follows_483 : decode cL_follows 483 = .ok (.iload 5, 2) := by decide +kernel
theorem dL_follows_485 : decode cL_follows 485 = .ok (.iconst 5, 1) := by decide +kernel
theorem dL_follows_486 : decode cL_follows 486 = .ok (.invokestatic 117, 3) := by decide +kernel
theorem dL_follows_489 : decode cL_follows 489 = .ok (.lload 16, 2) := by decide +kernel
theorem dL_follows_491 : decode cL_follows 491 = .ok (.lcmp, 1) := by decide +kernel
theorem dL_follows_492 : decode cL_follows 492 = .ok (.ifCond .lt 61, 3) := by decide +kernel
theorem dL_follows_495 : decode cL_follows 495 = .ok (.iload 13, 2) := by decide +kernel
theorem dL_follows_497 : decode cL_follows 497 = .ok (.ifCond .eq 16, 3) := by decide +kernel
theorem dL_follows_500 : decode cL_follows 500 = .ok (.aload_n 0, 1) := by decide +kernel
theorem dL_follows_501 : decode cL_follows 501 = .ok (.iload 5, 2) := by decide +kernel
theorem dL_follows_503 : decode cL_follows 503 = .ok (.iconst 5, 1) := by decide +kernel
theorem dL_follows_504 : decode cL_follows 504 = .ok (.invokestatic 117, 3) := by decide +kernel
theorem dL_follows_507 : decode cL_follows 507 = .ok (.lload 16, 2) := by decide +kernel
theorem dL_follows_509 : decode cL_follows 509 = .ok (.lcmp, 1) := by decide +kernel
theorem dL_follows_510 : decode cL_follows 510 = .ok (.ifCond .le 43, 3) := by decide +kernel
theorem dL_follows_513 : decode cL_follows 513 = .ok (.aload_n 0, 1) := by decide +kernel
theorem dL_follows_514 : decode cL_follows 514 = .ok (.invokestatic 194, 3) := by decide +kernel
theorem dL_follows_517 : decode cL_follows 517 = .ok (.lconst 0, 1) := by decide +kernel
theorem dL_follows_518 : decode cL_follows 518 = .ok (.lcmp, 1) := by decide +kernel
theorem dL_follows_519 : decode cL_follows 519 = .ok (.ifCond .lt 34, 3) := by decide +kernel
theorem dL_follows_522 : decode cL_follows 522 = .ok (.aload_n 0, 1) := by decide +kernel
theorem dL_follows_523 : decode cL_follows 523 = .ok (.invokestatic 194, 3) := by decide +kernel
theorem dL_follows_526 : decode cL_follows 526 = .ok (.lconst 0, 1) := by decide +kernel
theorem dL_follows_527 : decode cL_follows 527 = .ok (.lcmp, 1) := by decide +kernel
theorem dL_follows_528 : decode cL_follows 528 = .ok (.ifCond .lt 25, 3) := by decide +kernel
theorem dL_follows_531 : decode cL_follows 531 = .ok (.aload_n 0, 1) := by decide +kernel
theorem dL_follows_532 : decode cL_follows 532 = .ok (.invokestatic 194, 3) := by decide +kernel
theorem dL_follows_535 : decode cL_follows 535 = .ok (.lconst 0, 1) := by decide +kernel
theorem dL_follows_536 : decode cL_follows 536 = .ok (.lcmp, 1) := by decide +kernel
theorem dL_follows_537 : decode cL_follows 537 = .ok (.ifCond .lt 16, 3) := by decide +kernel
theorem dL_follows_540 : decode cL_follows 540 = .ok (.aload_n 0, 1) := by decide +kernel
theorem dL_follows_541 : decode cL_follows 541 = .ok (.invokestatic 128, 3) := by decide +kernel
theorem dL_follows_544 : decode cL_follows 544 = .ok (.lload_n 2, 1) := by decide +kernel
theorem dL_follows_545 : decode cL_follows 545 = .ok (.lcmp, 1) := by decide +kernel
theorem dL_follows_546 : decode cL_follows 546 = .ok (.ifCond .ne 7, 3) := by decide +kernel
theorem dL_follows_549 : decode cL_follows 549 = .ok (.iconst 1, 1) := by decide +kernel
theorem dL_follows_550 : decode cL_follows 550 = .ok (.goto 4, 3) := by decide +kernel
theorem dL_follows_553 : decode cL_follows 553 = .ok (.iconst 0, 1) := by decide +kernel
theorem dL_follows_554 : decode cL_follows 554 = .ok (.istore 4, 2) := by decide +kernel
theorem dL_follows_556 : decode cL_follows 556 = .ok (.aload_n 0, 1) := by decide +kernel
theorem dL_follows_557 : decode cL_follows 557 = .ok (.iconst 2, 1) := by decide +kernel
theorem dL_follows_558 : decode cL_follows 558 = .ok (.invokestatic 112, 3) := by decide +kernel
theorem dL_follows_561 : decode cL_follows 561 = .ok (.lconst 0, 1) := by decide +kernel
theorem dL_follows_562 : decode cL_follows 562 = .ok (.lcmp, 1) := by decide +kernel
theorem dL_follows_563 : decode cL_follows 563 = .ok (.ifCond .le 75, 3) := by decide +kernel
theorem dL_follows_566 : decode cL_follows 566 = .ok (.iload 4, 2) := by decide +kernel
theorem dL_follows_568 : decode cL_follows 568 = .ok (.ifCond .eq 70, 3) := by decide +kernel
theorem dL_follows_571 : decode cL_follows 571 = .ok (.iload_n 1, 1) := by decide +kernel
theorem dL_follows_572 : decode cL_follows 572 = .ok (.aload_n 0, 1) := by decide +kernel
theorem dL_follows_573 : decode cL_follows 573 = .ok (.iconst 2, 1) := by decide +kernel
theorem dL_follows_574 : decode cL_follows 574 = .ok (.invokestatic 112, 3) := by decide +kernel
theorem dL_follows_577 : decode cL_follows 577 = .ok (.l2i, 1) := by decide +kernel
theorem dL_follows_578 : decode cL_follows 578 = .ok (.irem, 1) := by decide +kernel
theorem dL_follows_579 : decode cL_follows 579 = .ok (.istore 18, 2) := by decide +kernel
theorem dL_follows_581 : decode cL_follows 581 = .ok (.aload_n 0, 1) := by decide +kernel
theorem dL_follows_582 : decode cL_follows 582 = .ok (.iload 18, 2) := by decide +kernel
theorem dL_follows_584 : decode cL_follows 584 = .ok (.iload 6, 2) := by decide +kernel
theorem dL_follows_586 : decode cL_follows 586 = .ok (.ineg, 1) := by decide +kernel
theorem dL_follows_587 : decode cL_follows 587 = .ok (.iload 12, 2) := by decide +kernel
theorem dL_follows_589 : decode cL_follows 589 = .ok (.invokestatic 158, 3) := by decide +kernel
theorem dL_follows_592 : decode cL_follows 592 = .ok (.lstore 19, 2) := by decide +kernel
theorem dL_follows_594 : decode cL_follows 594 = .ok (.aload_n 0, 1) := by decide +kernel
theorem dL_follows_595 : decode cL_follows 595 = .ok (.iload 6, 2) := by decide +kernel
theorem dL_follows_597 : decode cL_follows 597 = .ok (.ineg, 1) := by decide +kernel
theorem dL_follows_598 : decode cL_follows 598 = .ok (.iconst 0, 1) := by decide +kernel
theorem dL_follows_599 : decode cL_follows 599 = .ok (.iload 12, 2) := by decide +kernel
theorem dL_follows_601 : decode cL_follows 601 = .ok (.invokestatic 154, 3) := by decide +kernel
theorem dL_follows_604 : decode cL_follows 604 = .ok (.lconst 0, 1) := by decide +kernel
theorem dL_follows_605 : decode cL_follows 605 = .ok (.lcmp, 1) := by decide +kernel
theorem dL_follows_606 : decode cL_follows 606 = .ok (.ifCond .lt 29, 3) := by decide +kernel
theorem dL_follows_609 : decode cL_follows 609 = .ok (.aload_n 0, 1) := by decide +kernel
theorem dL_follows_610 : decode cL_follows 610 = .ok (.iload 18, 2) := by decide +kernel
theorem dL_follows_612 : decode cL_follows 612 = .ok (.iconst 2, 1) := by decide +kernel
theorem dL_follows_613 : decode cL_follows 613 = .ok (.invokestatic 126, 3) := by decide +kernel
theorem dL_follows_616 : decode cL_follows 616 = .ok (.lload 19, 2) := by decide +kernel
theorem dL_follows_618 : decode cL_follows 618 = .ok (.lcmp, 1) := by decide +kernel
theorem dL_follows_619 : decode cL_follows 619 = .ok (.ifCond .ne 16, 3) := by decide +kernel
theorem dL_follows_622 : decode cL_follows 622 = .ok (.aload_n 0, 1) := by decide +kernel
theorem dL_follows_623 : decode cL_follows 623 = .ok (.invokestatic 194, 3) := by decide +kernel
theorem dL_follows_626 : decode cL_follows 626 = .ok (.lconst 0, 1) := by decide +kernel
theorem dL_follows_627 : decode cL_follows 627 = .ok (.lcmp, 1) := by decide +kernel
theorem dL_follows_628 : decode cL_follows 628 = .ok (.ifCond .lt 7, 3) := by decide +kernel
theorem dL_follows_631 : decode cL_follows 631 = .ok (.iconst 1, 1) := by decide +kernel
theorem dL_follows_632 : decode cL_follows 632 = .ok (.goto 4, 3) := by decide +kernel
theorem dL_follows_635 : decode cL_follows 635 = .ok (.iconst 0, 1) := by decide +kernel
theorem dL_follows_636 : decode cL_follows 636 = .ok (.istore 4, 2) := by decide +kernel
theorem dL_follows_638 : decode cL_follows 638 = .ok (.iload 4, 2) := by decide +kernel
theorem dL_follows_640 : decode cL_follows 640 = .ok (.ifCond .eq 46, 3) := by decide +kernel
theorem dL_follows_643 : decode cL_follows 643 = .ok (.aload_n 0, 1) := by decide +kernel
theorem dL_follows_644 : decode cL_follows 644 = .ok (.invokestatic 128, 3) := by decide +kernel
theorem dL_follows_647 : decode cL_follows 647 = .ok (.lload_n 2, 1) := by decide +kernel
theorem dL_follows_648 : decode cL_follows 648 = .ok (.lcmp, 1) := by decide +kernel
theorem dL_follows_649 : decode cL_follows 649 = .ok (.ifCond .ne 37, 3) := by decide +kernel
theorem dL_follows_652 : decode cL_follows 652 = .ok (.aload_n 0, 1) := by decide +kernel
theorem dL_follows_653 : decode cL_follows 653 = .ok (.iconst 1, 1) := by decide +kernel
theorem dL_follows_654 : decode cL_follows 654 = .ok (.invokestatic 173, 3) := by decide +kernel
theorem dL_follows_657 : decode cL_follows 657 = .ok (.lconst 0, 1) := by decide +kernel
theorem dL_follows_658 : decode cL_follows 658 = .ok (.lcmp, 1) := by decide +kernel
theorem dL_follows_659 : decode cL_follows 659 = .ok (.ifCond .lt 27, 3) := by decide +kernel
theorem dL_follows_662 : decode cL_follows 662 = .ok (.aload_n 0, 1) := by decide +kernel
theorem dL_follows_663 : decode cL_follows 663 = .ok (.invokestatic 128, 3) := by decide +kernel
theorem dL_follows_666 : decode cL_follows 666 = .ok (.lload_n 2, 1) := by decide +kernel
theorem dL_follows_667 : decode cL_follows 667 = .ok (.lcmp, 1) := by decide +kernel
theorem dL_follows_668 : decode cL_follows 668 = .ok (.ifCond .ne 18, 3) := by decide +kernel
theorem dL_follows_671 : decode cL_follows 671 = .ok (.aload_n 0, 1) := by decide +kernel
theorem dL_follows_672 : decode cL_follows 672 = .ok (.invokestatic 194, 3) := by decide +kernel
theorem dL_follows_675 : decode cL_follows 675 = .ok (.ldc2_w 21, 3) := by decide +kernel
theorem dL_follows_678 : decode cL_follows 678 = .ok (.lcmp, 1) := by decide +kernel
theorem dL_follows_679 : decode cL_follows 679 = .ok (.ifCond .ne 7, 3) := by decide +kernel
theorem dL_follows_682 : decode cL_follows 682 = .ok (.iconst 1, 1) := by decide +kernel
theorem dL_follows_683 : decode cL_follows 683 = .ok (.goto 4, 3) := by decide +kernel
theorem dL_follows_686 : decode cL_follows 686 = .ok (.iconst 0, 1) := by decide +kernel
theorem dL_follows_687 : decode cL_follows 687 = .ok (.ireturn, 1) := by decide +kernel
theorem dL_alike_0 : decode cL_alike 0 = .ok (.aload_n 0, 1) := by decide +kernel
theorem dL_alike_1 : decode cL_alike 1 = .ok (.invokestatic 128, 3) := by decide +kernel
theorem dL_alike_4 : decode cL_alike 4 = .ok (.aload_n 1, 1) := by decide +kernel
theorem dL_alike_5 : decode cL_alike 5 = .ok (.invokestatic 128, 3) := by decide +kernel
theorem dL_alike_8 : decode cL_alike 8 = .ok (.lcmp, 1) := by decide +kernel
theorem dL_alike_9 : decode cL_alike 9 = .ok (.ifCond .ne 109, 3) := by decide +kernel
theorem dL_alike_12 : decode cL_alike 12 = .ok (.aload_n 0, 1) := by decide +kernel
theorem dL_alike_13 : decode cL_alike 13 = .ok (.invokevirtual 198, 3) := by decide +kernel
theorem dL_alike_16 : decode cL_alike 16 = .ok (.aload_n 1, 1) := by decide +kernel
theorem dL_alike_17 : decode cL_alike 17 = .ok (.invokevirtual 198, 3) := by decide +kernel
theorem dL_alike_20 : decode cL_alike 20 = .ok (.if_icmp .ne 98, 3) := by decide +kernel
theorem dL_alike_23 : decode cL_alike 23 = .ok (.aload_n 0, 1) := by decide +kernel
theorem dL_alike_24 : decode cL_alike 24 = .ok (.invokevirtual 187, 3) := by decide +kernel
theorem dL_alike_27 : decode cL_alike 27 = .ok (.aload_n 1, 1) := by decide +kernel
theorem dL_alike_28 : decode cL_alike 28 = .ok (.invokevirtual 187, 3) := by decide +kernel
theorem dL_alike_31 : decode cL_alike 31 = .ok (.if_icmp .ne 87, 3) := by decide +kernel
theorem dL_alike_34 : decode cL_alike 34 = .ok (.aload_n 0, 1) := by decide +kernel
theorem dL_alike_35 : decode cL_alike 35 = .ok (.iload_n 2, 1) := by decide +kernel
theorem dL_alike_36 : decode cL_alike 36 = .ok (.iconst 4, 1) := by decide +kernel
theorem dL_alike_37 : decode cL_alike 37 = .ok (.irem, 1) := by decide +kernel
theorem dL_alike_38 : decode cL_alike 38 = .ok (.iconst 1, 1) := by decide +kernel
theorem dL_alike_39 : decode cL_alike 39 = .ok (.iload_n 2, 1) := by decide +kernel
theorem dL_alike_40 : decode cL_alike 40 = .ok (.bipush 30, 2) := by decide +kernel
theorem dL_alike_42 : decode cL_alike 42 = .ok (.irem, 1) := by decide +kernel
theorem dL_alike_43 : decode cL_alike 43 = .ok (.iadd, 1) := by decide +kernel
theorem dL_alike_44 : decode cL_alike 44 = .ok (.invokestatic 143, 3) := by decide +kernel
theorem dL_alike_47 : decode cL_alike 47 = .ok (.aload_n 1, 1) := by decide +kernel
theorem dL_alike_48 : decode cL_alike 48 = .ok (.iload_n 2, 1) := by decide +kernel
theorem dL_alike_49 : decode cL_alike 49 = .ok (.iconst 4, 1) := by decide +kernel
theorem dL_alike_50 : decode cL_alike 50 = .ok (.irem, 1) := by decide +kernel
theorem dL_alike_51 : decode cL_alike 51 = .ok (.iconst 1, 1) := by decide +kernel
theorem dL_alike_52 : decode cL_alike 52 = .ok (.iload_n 2, 1) := by decide +kernel
theorem dL_alike_53 : decode cL_alike 53 = .ok (.bipush 30, 2) := by decide +kernel
theorem dL_alike_55 : decode cL_alike 55 = .ok (.irem, 1) := by decide +kernel
theorem dL_alike_56 : decode cL_alike 56 = .ok (.iadd, 1) := by decide +kernel
theorem dL_alike_57 : decode cL_alike 57 = .ok (.invokestatic 143, 3) := by decide +kernel
theorem dL_alike_60 : decode cL_alike 60 = .ok (.lcmp, 1) := by decide +kernel
theorem dL_alike_61 : decode cL_alike 61 = .ok (.ifCond .ne 57, 3) := by decide +kernel
theorem dL_alike_64 : decode cL_alike 64 = .ok (.aload_n 0, 1) := by decide +kernel
theorem dL_alike_65 : decode cL_alike 65 = .ok (.iload_n 2, 1) := by decide +kernel
theorem dL_alike_66 : decode cL_alike 66 = .ok (.i2l, 1) := by decide +kernel
theorem dL_alike_67 : decode cL_alike 67 = .ok (.iconst 5, 1) := by decide +kernel
theorem dL_alike_68 : decode cL_alike 68 = .ok (.invokestatic 168, 3) := by decide +kernel
theorem dL_alike_71 : decode cL_alike 71 = .ok (.aload_n 1, 1) := by decide +kernel
theorem dL_alike_72 : decode cL_alike 72 = .ok (.iload_n 2, 1) := by decide +kernel
theorem dL_alike_73 : decode cL_alike 73 = .ok (.i2l, 1) := by decide +kernel
theorem dL_alike_74 : decode cL_alike 74 = .ok (.iconst 5, 1) := by decide +kernel
theorem dL_alike_75 : decode cL_alike 75 = .ok (.invokestatic 168, 3) := by decide +kernel
theorem dL_alike_78 : decode cL_alike 78 = .ok (.lcmp, 1) := by decide +kernel
theorem dL_alike_79 : decode cL_alike 79 = .ok (.ifCond .ne 39, 3) := by decide +kernel
theorem dL_alike_82 : decode cL_alike 82 = .ok (.aload_n 0, 1) := by decide +kernel
theorem dL_alike_83 : decode cL_alike 83 = .ok (.iconst 2, 1) := by decide +kernel
theorem dL_alike_84 : decode cL_alike 84 = .ok (.ldc2_w 201, 3) := by decide +kernel
theorem dL_alike_87 : decode cL_alike 87 = .ok (.iload_n 2, 1) := by decide +kernel
theorem dL_alike_88 : decode cL_alike 88 = .ok (.bipush 20, 2) := by decide +kernel
theorem dL_alike_90 : decode cL_alike 90 = .ok (.irem, 1) := by decide +kernel
theorem dL_alike_91 : decode cL_alike 91 = .ok (.i2l, 1) := by decide +kernel
theorem dL_alike_92 : decode cL_alike 92 = .ok (.ladd, 1) := by decide +kernel
theorem dL_alike_93 : decode cL_alike 93 = .ok (.invokestatic 162, 3) := by decide +kernel
theorem dL_alike_96 : decode cL_alike 96 = .ok (.aload_n 1, 1) := by decide +kernel
theorem dL_alike_97 : decode cL_alike 97 = .ok (.iconst 2, 1) := by decide +kernel
theorem dL_alike_98 : decode cL_alike 98 = .ok (.ldc2_w 201, 3) := by decide +kernel
theorem dL_alike_101 : decode cL_alike 101 = .ok (.iload_n 2, 1) := by decide +kernel
theorem dL_alike_102 : decode cL_alike 102 = .ok (.bipush 20, 2) := by decide +kernel
theorem dL_alike_104 : decode cL_alike 104 = .ok (.irem, 1) := by decide +kernel
theorem dL_alike_105 : decode cL_alike 105 = .ok (.i2l, 1) := by decide +kernel
theorem dL_alike_106 : decode cL_alike 106 = .ok (.ladd, 1) := by decide +kernel
theorem dL_alike_107 : decode cL_alike 107 = .ok (.invokestatic 162, 3) := by decide +kernel
theorem dL_alike_110 : decode cL_alike 110 = .ok (.lcmp, 1) := by decide +kernel
theorem dL_alike_111 : decode cL_alike 111 = .ok (.ifCond .ne 7, 3) := by decide +kernel
theorem dL_alike_114 : decode cL_alike 114 = .ok (.iconst 1, 1) := by decide +kernel
theorem dL_alike_115 : decode cL_alike 115 = .ok (.goto 4, 3) := by decide +kernel
theorem dL_alike_118 : decode cL_alike 118 = .ok (.iconst 0, 1) := by decide +kernel
theorem dL_alike_119 : decode cL_alike 119 = .ok (.ireturn, 1) := by decide +kernel
theorem dL_says_0 : decode cL_says 0 = .ok (.aload_n 0, 1) := by decide +kernel
theorem dL_says_1 : decode cL_says 1 = .ok (.iload_n 1, 1) := by decide +kernel
theorem dL_says_2 : decode cL_says 2 = .ok (.invokestatic 175, 3) := by decide +kernel
theorem dL_says_5 : decode cL_says 5 = .ok (.lconst 0, 1) := by decide +kernel
theorem dL_says_6 : decode cL_says 6 = .ok (.lcmp, 1) := by decide +kernel
theorem dL_says_7 : decode cL_says 7 = .ok (.ifCond .le 38, 3) := by decide +kernel
theorem dL_says_10 : decode cL_says 10 = .ok (.aload_n 0, 1) := by decide +kernel
theorem dL_says_11 : decode cL_says 11 = .ok (.iload_n 2, 1) := by decide +kernel
theorem dL_says_12 : decode cL_says 12 = .ok (.invokestatic 175, 3) := by decide +kernel
theorem dL_says_15 : decode cL_says 15 = .ok (.lconst 0, 1) := by decide +kernel
theorem dL_says_16 : decode cL_says 16 = .ok (.lcmp, 1) := by decide +kernel
theorem dL_says_17 : decode cL_says 17 = .ok (.ifCond .le 28, 3) := by decide +kernel
theorem dL_says_20 : decode cL_says 20 = .ok (.aload_n 0, 1) := by decide +kernel
theorem dL_says_21 : decode cL_says 21 = .ok (.iload_n 3, 1) := by decide +kernel
theorem dL_says_22 : decode cL_says 22 = .ok (.invokestatic 175, 3) := by decide +kernel
theorem dL_says_25 : decode cL_says 25 = .ok (.lconst 0, 1) := by decide +kernel
theorem dL_says_26 : decode cL_says 26 = .ok (.lcmp, 1) := by decide +kernel
theorem dL_says_27 : decode cL_says 27 = .ok (.ifCond .le 18, 3) := by decide +kernel
theorem dL_says_30 : decode cL_says 30 = .ok (.aload_n 0, 1) := by decide +kernel
theorem dL_says_31 : decode cL_says 31 = .ok (.iload 4, 2) := by decide +kernel
theorem dL_says_33 : decode cL_says 33 = .ok (.invokestatic 175, 3) := by decide +kernel
theorem dL_says_36 : decode cL_says 36 = .ok (.lconst 0, 1) := by decide +kernel
theorem dL_says_37 : decode cL_says 37 = .ok (.lcmp, 1) := by decide +kernel
theorem dL_says_38 : decode cL_says 38 = .ok (.ifCond .le 7, 3) := by decide +kernel
theorem dL_says_41 : decode cL_says 41 = .ok (.iconst 1, 1) := by decide +kernel
theorem dL_says_42 : decode cL_says 42 = .ok (.goto 4, 3) := by decide +kernel
theorem dL_says_45 : decode cL_says 45 = .ok (.iconst 0, 1) := by decide +kernel
theorem dL_says_46 : decode cL_says 46 = .ok (.ireturn, 1) := by decide +kernel
theorem dL_told_0 : decode cL_told 0 = .ok (.aload_n 0, 1) := by decide +kernel
theorem dL_told_1 : decode cL_told 1 = .ok (.invokevirtual 203, 3) := by decide +kernel
theorem dL_told_4 : decode cL_told 4 = .ok (.ifCond .lt 84, 3) := by decide +kernel
theorem dL_told_7 : decode cL_told 7 = .ok (.aload_n 0, 1) := by decide +kernel
theorem dL_told_8 : decode cL_told 8 = .ok (.bipush 68, 2) := by decide +kernel
theorem dL_told_10 : decode cL_told 10 = .ok (.invokestatic 175, 3) := by decide +kernel
theorem dL_told_13 : decode cL_told 13 = .ok (.lconst 0, 1) := by decide +kernel
theorem dL_told_14 : decode cL_told 14 = .ok (.lcmp, 1) := by decide +kernel
theorem dL_told_15 : decode cL_told 15 = .ok (.ifCond .le 73, 3) := by decide +kernel
theorem dL_told_18 : decode cL_told 18 = .ok (.aload_n 0, 1) := by decide +kernel
theorem dL_told_19 : decode cL_told 19 = .ok (.bipush 115, 2) := by decide +kernel
theorem dL_told_21 : decode cL_told 21 = .ok (.bipush 115, 2) := by decide +kernel
theorem dL_told_23 : decode cL_told 23 = .ok (.bipush 102, 2) := by decide +kernel
theorem dL_told_25 : decode cL_told 25 = .ok (.bipush 48, 2) := by decide +kernel
theorem dL_told_27 : decode cL_told 27 = .ok (.invokestatic 206, 3) := by decide +kernel
theorem dL_told_30 : decode cL_told 30 = .ok (.ifCond .eq 58, 3) := by decide +kernel
theorem dL_told_33 : decode cL_told 33 = .ok (.aload_n 0, 1) := by decide +kernel
theorem dL_told_34 : decode cL_told 34 = .ok (.bipush 48, 2) := by decide +kernel
theorem dL_told_36 : decode cL_told 36 = .ok (.bipush 48, 2) := by decide +kernel
theorem dL_told_38 : decode cL_told 38 = .ok (.iload_n 1, 1) := by decide +kernel
theorem dL_told_39 : decode cL_told 39 = .ok (.bipush 10, 2) := by decide +kernel
theorem dL_told_41 : decode cL_told 41 = .ok (.irem, 1) := by decide +kernel
theorem dL_told_42 : decode cL_told 42 = .ok (.iadd, 1) := by decide +kernel
theorem dL_told_43 : decode cL_told 43 = .ok (.bipush 116, 2) := by decide +kernel
theorem dL_told_45 : decode cL_told 45 = .ok (.bipush 48, 2) := by decide +kernel
theorem dL_told_47 : decode cL_told 47 = .ok (.iload_n 1, 1) := by decide +kernel
theorem dL_told_48 : decode cL_told 48 = .ok (.iconst 3, 1) := by decide +kernel
theorem dL_told_49 : decode cL_told 49 = .ok (.irem, 1) := by decide +kernel
theorem dL_told_50 : decode cL_told 50 = .ok (.iadd, 1) := by decide +kernel
theorem dL_told_51 : decode cL_told 51 = .ok (.invokestatic 206, 3) := by decide +kernel
theorem dL_told_54 : decode cL_told 54 = .ok (.ifCond .eq 34, 3) := by decide +kernel
theorem dL_told_57 : decode cL_told 57 = .ok (.aload_n 0, 1) := by decide +kernel
theorem dL_told_58 : decode cL_told 58 = .ok (.bipush 49, 2) := by decide +kernel
theorem dL_told_60 : decode cL_told 60 = .ok (.invokestatic 175, 3) := by decide +kernel
theorem dL_told_63 : decode cL_told 63 = .ok (.lconst 0, 1) := by decide +kernel
theorem dL_told_64 : decode cL_told 64 = .ok (.lcmp, 1) := by decide +kernel
theorem dL_told_65 : decode cL_told 65 = .ok (.ifCond .le 23, 3) := by decide +kernel
theorem dL_told_68 : decode cL_told 68 = .ok (.aload_n 0, 1) := by decide +kernel
theorem dL_told_69 : decode cL_told 69 = .ok (.bipush 48, 2) := by decide +kernel
theorem dL_told_71 : decode cL_told 71 = .ok (.iload_n 1, 1) := by decide +kernel
theorem dL_told_72 : decode cL_told 72 = .ok (.bipush 10, 2) := by decide +kernel
theorem dL_told_74 : decode cL_told 74 = .ok (.irem, 1) := by decide +kernel
theorem dL_told_75 : decode cL_told 75 = .ok (.iadd, 1) := by decide +kernel
theorem dL_told_76 : decode cL_told 76 = .ok (.invokestatic 175, 3) := by decide +kernel
theorem dL_told_79 : decode cL_told 79 = .ok (.lconst 0, 1) := by decide +kernel
theorem dL_told_80 : decode cL_told 80 = .ok (.lcmp, 1) := by decide +kernel
theorem dL_told_81 : decode cL_told 81 = .ok (.ifCond .le 7, 3) := by decide +kernel
theorem dL_told_84 : decode cL_told 84 = .ok (.iconst 1, 1) := by decide +kernel
theorem dL_told_85 : decode cL_told 85 = .ok (.goto 4, 3) := by decide +kernel
theorem dL_told_88 : decode cL_told 88 = .ok (.iconst 0, 1) := by decide +kernel
theorem dL_told_89 : decode cL_told 89 = .ok (.istore_n 2, 1) := by decide +kernel
theorem dL_told_90 : decode cL_told 90 = .ok (.iconst 0, 1) := by decide +kernel
theorem dL_told_91 : decode cL_told 91 = .ok (.istore_n 3, 1) := by decide +kernel
theorem dL_told_92 : decode cL_told 92 = .ok (.iload_n 3, 1) := by decide +kernel
theorem dL_told_93 : decode cL_told 93 = .ok (.iconst 1, 1) := by decide +kernel
theorem dL_told_94 : decode cL_told 94 = .ok (.iload_n 1, 1) := by decide +kernel
theorem dL_told_95 : decode cL_told 95 = .ok (.iconst 4, 1) := by decide +kernel
theorem dL_told_96 : decode cL_told 96 = .ok (.irem, 1) := by decide +kernel
theorem dL_told_97 : decode cL_told 97 = .ok (.iadd, 1) := by decide +kernel
theorem dL_told_98 : decode cL_told 98 = .ok (.if_icmp .ge 117, 3) := by decide +kernel
theorem dL_told_101 : decode cL_told 101 = .ok (.iload_n 2, 1) := by decide +kernel
theorem dL_told_102 : decode cL_told 102 = .ok (.ifCond .eq 113, 3) := by decide +kernel
theorem dL_told_105 : decode cL_told 105 = .ok (.iload_n 1, 1) := by decide +kernel
theorem dL_told_106 : decode cL_told 106 = .ok (.iload_n 3, 1) := by decide +kernel
theorem dL_told_107 : decode cL_told 107 = .ok (.ishr, 1) := by decide +kernel
theorem dL_told_108 : decode cL_told 108 = .ok (.istore 4, 2) := by decide +kernel
theorem dL_told_110 : decode cL_told 110 = .ok (.aload_n 0, 1) := by decide +kernel
theorem dL_told_111 : decode cL_told 111 = .ok (.bipush 112, 2) := by decide +kernel
theorem dL_told_113 : decode cL_told 113 = .ok (.bipush 48, 2) := by decide +kernel
theorem dL_told_115 : decode cL_told 115 = .ok (.iload 4, 2) := by decide +kernel
theorem dL_told_117 : decode cL_told 117 = .ok (.iconst 3, 1) := by decide +kernel
theorem dL_told_118 : decode cL_told 118 = .ok (.irem, 1) := by decide +kernel
theorem dL_told_119 : decode cL_told 119 = .ok (.iadd, 1) := by decide +kernel
theorem dL_told_120 : decode cL_told 120 = .ok (.bipush 48, 2) := by decide +kernel
theorem dL_told_122 : decode cL_told 122 = .ok (.bipush 48, 2) := by decide +kernel
theorem dL_told_124 : decode cL_told 124 = .ok (.iload 4, 2) := by decide +kernel
theorem dL_told_126 : decode cL_told 126 = .ok (.bipush 10, 2) := by decide +kernel
theorem dL_told_128 : decode cL_told 128 = .ok (.irem, 1) := by decide +kernel
theorem dL_told_129 : decode cL_told 129 = .ok (.iadd, 1) := by decide +kernel
theorem dL_told_130 : decode cL_told 130 = .ok (.invokestatic 206, 3) := by decide +kernel
theorem dL_told_133 : decode cL_told 133 = .ok (.ifCond .eq 74, 3) := by decide +kernel
theorem dL_told_136 : decode cL_told 136 = .ok (.aload_n 0, 1) := by decide +kernel
theorem dL_told_137 : decode cL_told 137 = .ok (.bipush 100, 2) := by decide +kernel
theorem dL_told_139 : decode cL_told 139 = .ok (.iload 4, 2) := by decide +kernel
theorem dL_told_141 : decode cL_told 141 = .ok (.iconst 4, 1) := by decide +kernel
theorem dL_told_142 : decode cL_told 142 = .ok (.irem, 1) := by decide +kernel
theorem dL_told_143 : decode cL_told 143 = .ok (.ifCond .ne 8, 3) := by decide +kernel
theorem dL_told_146 : decode cL_told 146 = .ok (.bipush 43, 2) := by decide +kernel
theorem dL_told_148 : decode cL_told 148 = .ok (.goto 5, 3) := by decide +kernel
theorem dL_told_151 : decode cL_told 151 = .ok (.bipush 45, 2) := by decide +kernel
theorem dL_told_153 : decode cL_told 153 = .ok (.bipush 48, 2) := by decide +kernel
theorem dL_told_155 : decode cL_told 155 = .ok (.iload 4, 2) := by decide +kernel
theorem dL_told_157 : decode cL_told 157 = .ok (.iconst 3, 1) := by decide +kernel
theorem dL_told_158 : decode cL_told 158 = .ok (.irem, 1) := by decide +kernel
theorem dL_told_159 : decode cL_told 159 = .ok (.iadd, 1) := by decide +kernel
theorem dL_told_160 : decode cL_told 160 = .ok (.bipush 48, 2) := by decide +kernel
theorem dL_told_162 : decode cL_told 162 = .ok (.iload 4, 2) := by decide +kernel
theorem dL_told_164 : decode cL_told 164 = .ok (.bipush 10, 2) := by decide +kernel
theorem dL_told_166 : decode cL_told 166 = .ok (.irem, 1) := by decide +kernel
theorem dL_told_167 : decode cL_told 167 = .ok (.iadd, 1) := by decide +kernel
theorem dL_told_168 : decode cL_told 168 = .ok (.invokestatic 206, 3) := by decide +kernel
theorem dL_told_171 : decode cL_told 171 = .ok (.ifCond .eq 36, 3) := by decide +kernel
theorem dL_told_174 : decode cL_told 174 = .ok (.aload_n 0, 1) := by decide +kernel
theorem dL_told_175 : decode cL_told 175 = .ok (.bipush 48, 2) := by decide +kernel
theorem dL_told_177 : decode cL_told 177 = .ok (.bipush 48, 2) := by decide +kernel
theorem dL_told_179 : decode cL_told 179 = .ok (.iload 4, 2) := by decide +kernel
theorem dL_told_181 : decode cL_told 181 = .ok (.iconst 3, 1) := by decide +kernel
theorem dL_told_182 : decode cL_told 182 = .ok (.idiv, 1) := by decide +kernel
theorem dL_told_183 : decode cL_told 183 = .ok (.bipush 10, 2) := by decide +kernel
theorem dL_told_185 : decode cL_told 185 = .ok (.irem, 1) := by decide +kernel
theorem dL_told_186 : decode cL_told 186 = .ok (.iadd, 1) := by decide +kernel
theorem dL_told_187 : decode cL_told 187 = .ok (.bipush 48, 2) := by decide +kernel
theorem dL_told_189 : decode cL_told 189 = .ok (.bipush 49, 2) := by decide +kernel
theorem dL_told_191 : decode cL_told 191 = .ok (.iload 4, 2) := by decide +kernel
theorem dL_told_193 : decode cL_told 193 = .ok (.bipush 9, 2) := by decide +kernel
theorem dL_told_195 : decode cL_told 195 = .ok (.irem, 1) := by decide +kernel
theorem dL_told_196 : decode cL_told 196 = .ok (.iadd, 1) := by decide +kernel
theorem dL_told_197 : decode cL_told 197 = .ok (.invokestatic 206, 3) := by decide +kernel
theorem dL_told_200 : decode cL_told 200 = .ok (.ifCond .eq 7, 3) := by decide +kernel
theorem dL_told_203 : decode cL_told 203 = .ok (.iconst 1, 1) := by decide +kernel
theorem dL_told_204 : decode cL_told 204 = .ok (.goto 4, 3) := by decide +kernel
theorem dL_told_207 : decode cL_told 207 = .ok (.iconst 0, 1) := by decide +kernel
theorem dL_told_208 : decode cL_told 208 = .ok (.istore_n 2, 1) := by decide +kernel
theorem dL_told_209 : decode cL_told 209 = .ok (.iinc 3 1, 3) := by decide +kernel
theorem dL_told_212 : decode cL_told 212 = .ok (.goto (-120), 3) := by decide +kernel
theorem dL_told_215 : decode cL_told 215 = .ok (.iload_n 2, 1) := by decide +kernel
theorem dL_told_216 : decode cL_told 216 = .ok (.ifCond .eq 67, 3) := by decide +kernel
theorem dL_told_219 : decode cL_told 219 = .ok (.aload_n 0, 1) := by decide +kernel
theorem dL_told_220 : decode cL_told 220 = .ok (.bipush 120, 2) := by decide +kernel
theorem dL_told_222 : decode cL_told 222 = .ok (.bipush 49, 2) := by decide +kernel
theorem dL_told_224 : decode cL_told 224 = .ok (.bipush 119, 2) := by decide +kernel
theorem dL_told_226 : decode cL_told 226 = .ok (.bipush 101, 2) := by decide +kernel
theorem dL_told_228 : decode cL_told 228 = .ok (.invokestatic 206, 3) := by decide +kernel
theorem dL_told_231 : decode cL_told 231 = .ok (.ifCond .eq 52, 3) := by decide +kernel
theorem dL_told_234 : decode cL_told 234 = .ok (.aload_n 0, 1) := by decide +kernel
theorem dL_told_235 : decode cL_told 235 = .ok (.bipush 50, 2) := by decide +kernel
theorem dL_told_237 : decode cL_told 237 = .ok (.invokestatic 175, 3) := by decide +kernel
theorem dL_told_240 : decode cL_told 240 = .ok (.lconst 0, 1) := by decide +kernel
theorem dL_told_241 : decode cL_told 241 = .ok (.lcmp, 1) := by decide +kernel
theorem dL_told_242 : decode cL_told 242 = .ok (.ifCond .le 41, 3) := by decide +kernel
theorem dL_told_245 : decode cL_told 245 = .ok (.aload_n 0, 1) := by decide +kernel
theorem dL_told_246 : decode cL_told 246 = .ok (.bipush 48, 2) := by decide +kernel
theorem dL_told_248 : decode cL_told 248 = .ok (.iload_n 1, 1) := by decide +kernel
theorem dL_told_249 : decode cL_told 249 = .ok (.iconst 5, 1) := by decide +kernel
theorem dL_told_250 : decode cL_told 250 = .ok (.irem, 1) := by decide +kernel
theorem dL_told_251 : decode cL_told 251 = .ok (.iadd, 1) := by decide +kernel
theorem dL_told_252 : decode cL_told 252 = .ok (.invokestatic 175, 3) := by decide +kernel
theorem dL_told_255 : decode cL_told 255 = .ok (.lconst 0, 1) := by decide +kernel
theorem dL_told_256 : decode cL_told 256 = .ok (.lcmp, 1) := by decide +kernel
theorem dL_told_257 : decode cL_told 257 = .ok (.ifCond .le 26, 3) := by decide +kernel
theorem dL_told_260 : decode cL_told 260 = .ok (.aload_n 0, 1) := by decide +kernel
theorem dL_told_261 : decode cL_told 261 = .ok (.bipush 55, 2) := by decide +kernel
theorem dL_told_263 : decode cL_told 263 = .ok (.invokestatic 175, 3) := by decide +kernel
theorem dL_told_266 : decode cL_told 266 = .ok (.lconst 0, 1) := by decide +kernel
theorem dL_told_267 : decode cL_told 267 = .ok (.lcmp, 1) := by decide +kernel
theorem dL_told_268 : decode cL_told 268 = .ok (.ifCond .le 15, 3) := by decide +kernel
theorem dL_told_271 : decode cL_told 271 = .ok (.aload_n 0, 1) := by decide +kernel
theorem dL_told_272 : decode cL_told 272 = .ok (.invokevirtual 198, 3) := by decide +kernel
theorem dL_told_275 : decode cL_told 275 = .ok (.iconst (-1), 1) := by decide +kernel
theorem dL_told_276 : decode cL_told 276 = .ok (.if_icmp .ne 7, 3) := by decide +kernel
theorem dL_told_279 : decode cL_told 279 = .ok (.iconst 1, 1) := by decide +kernel
theorem dL_told_280 : decode cL_told 280 = .ok (.goto 4, 3) := by decide +kernel
theorem dL_told_283 : decode cL_told 283 = .ok (.iconst 0, 1) := by decide +kernel
theorem dL_told_284 : decode cL_told 284 = .ok (.ireturn, 1) := by decide +kernel
theorem dL_act_0 : decode cL_act 0 = .ok (.iload_n 2, 1) := by decide +kernel
theorem dL_act_1 : decode cL_act 1 = .ok (.bipush 32, 2) := by decide +kernel
theorem dL_act_3 : decode cL_act 3 = .ok (.idiv, 1) := by decide +kernel
theorem dL_act_4 : decode cL_act 4 = .ok (.istore_n 3, 1) := by decide +kernel
theorem dL_act_5 : decode cL_act 5 = .ok (.iload_n 1, 1) := by decide +kernel
theorem dL_act_6 : decode cL_act 6 = .ok (.bipush 20, 2) := by decide +kernel
theorem dL_act_8 : decode cL_act 8 = .ok (.irem, 1) := by decide +kernel
theorem dL_act_9 : decode cL_act 9 = .ok (.tableswitch 223 0 14 #[75, 80, 94, 94, 106, 106, 118, 126, 169, 175, 175, 180, 208, 208, 208], 75) := by decide +kernel
theorem dL_act_84 : decode cL_act 84 = .ok (.aload_n 0, 1) := by decide +kernel
theorem dL_act_85 : decode cL_act 85 = .ok (.invokestatic 160, 3) := by decide +kernel
theorem dL_act_88 : decode cL_act 88 = .ok (.lreturn, 1) := by decide +kernel
theorem dL_act_89 : decode cL_act 89 = .ok (.aload_n 0, 1) := by decide +kernel
theorem dL_act_90 : decode cL_act 90 = .ok (.iload_n 2, 1) := by decide +kernel
theorem dL_act_91 : decode cL_act 91 = .ok (.iconst 4, 1) := by decide +kernel
theorem dL_act_92 : decode cL_act 92 = .ok (.irem, 1) := by decide +kernel
theorem dL_act_93 : decode cL_act 93 = .ok (.iconst 1, 1) := by decide +kernel
theorem dL_act_94 : decode cL_act 94 = .ok (.iload_n 3, 1) := by decide +kernel
theorem dL_act_95 : decode cL_act 95 = .ok (.bipush 30, 2) := by decide +kernel
theorem dL_act_97 : decode cL_act 97 = .ok (.irem, 1) := by decide +kernel
theorem dL_act_98 : decode cL_act 98 = .ok (.iadd, 1) := by decide +kernel
theorem dL_act_99 : decode cL_act 99 = .ok (.invokestatic 137, 3) := by decide +kernel
theorem dL_act_102 : decode cL_act 102 = .ok (.lreturn, 1) := by decide +kernel
theorem dL_act_103 : decode cL_act 103 = .ok (.aload_n 0, 1) := by decide +kernel
theorem dL_act_104 : decode cL_act 104 = .ok (.iload_n 2, 1) := by decide +kernel
theorem dL_act_105 : decode cL_act 105 = .ok (.iconst 4, 1) := by decide +kernel
theorem dL_act_106 : decode cL_act 106 = .ok (.irem, 1) := by decide +kernel
theorem dL_act_107 : decode cL_act 107 = .ok (.iload_n 3, 1) := by decide +kernel
theorem dL_act_108 : decode cL_act 108 = .ok (.bipush 9, 2) := by decide +kernel
theorem dL_act_110 : decode cL_act 110 = .ok (.irem, 1) := by decide +kernel
theorem dL_act_111 : decode cL_act 111 = .ok (.invokestatic 139, 3) := by decide +kernel
theorem dL_act_114 : decode cL_act 114 = .ok (.lreturn, 1) := by decide +kernel
theorem dL_act_115 : decode cL_act 115 = .ok (.aload_n 0, 1) := by decide +kernel
theorem dL_act_116 : decode cL_act 116 = .ok (.iload_n 2, 1) := by decide +kernel
theorem dL_act_117 : decode cL_act 117 = .ok (.iconst 4, 1) := by decide +kernel
theorem dL_act_118 : decode cL_act 118 = .ok (.irem, 1) := by decide +kernel
theorem dL_act_119 : decode cL_act 119 = .ok (.iload_n 3, 1) := by decide +kernel
theorem dL_act_120 : decode cL_act 120 = .ok (.bipush 21, 2) := by decide +kernel
theorem dL_act_122 : decode cL_act 122 = .ok (.irem, 1) := by decide +kernel
theorem dL_act_123 : decode cL_act 123 = .ok (.invokestatic 141, 3) := by decide +kernel
theorem dL_act_126 : decode cL_act 126 = .ok (.lreturn, 1) := by decide +kernel
theorem dL_act_127 : decode cL_act 127 = .ok (.aload_n 0, 1) := by decide +kernel
theorem dL_act_128 : decode cL_act 128 = .ok (.iload_n 2, 1) := by decide +kernel
theorem dL_act_129 : decode cL_act 129 = .ok (.iconst 4, 1) := by decide +kernel
theorem dL_act_130 : decode cL_act 130 = .ok (.irem, 1) := by decide +kernel
theorem dL_act_131 : decode cL_act 131 = .ok (.invokestatic 152, 3) := by decide +kernel
theorem dL_act_134 : decode cL_act 134 = .ok (.lreturn, 1) := by decide +kernel
theorem dL_act_135 : decode cL_act 135 = .ok (.iload_n 2, 1) := by decide +kernel
theorem dL_act_136 : decode cL_act 136 = .ok (.iconst 3, 1) := by decide +kernel
theorem dL_act_137 : decode cL_act 137 = .ok (.irem, 1) := by decide +kernel
theorem dL_act_138 : decode cL_act 138 = .ok (.istore 4, 2) := by decide +kernel
theorem dL_act_140 : decode cL_act 140 = .ok (.aload_n 0, 1) := by decide +kernel
theorem dL_act_141 : decode cL_act 141 = .ok (.iload 4, 2) := by decide +kernel
theorem dL_act_143 : decode cL_act 143 = .ok (.iload 4, 2) := by decide +kernel
theorem dL_act_145 : decode cL_act 145 = .ok (.ifCond .ne 10, 3) := by decide +kernel
theorem dL_act_148 : decode cL_act 148 = .ok (.iload_n 3, 1) := by decide +kernel
theorem dL_act_149 : decode cL_act 149 = .ok (.bipush 31, 2) := by decide +kernel
theorem dL_act_151 : decode cL_act 151 = .ok (.irem, 1) := by decide +kernel
theorem dL_act_152 : decode cL_act 152 = .ok (.goto 22, 3) := by decide +kernel
theorem dL_act_155 : decode cL_act 155 = .ok (.iload 4, 2) := by decide +kernel
theorem dL_act_157 : decode cL_act 157 = .ok (.iconst 1, 1) := by decide +kernel
theorem dL_act_158 : decode cL_act 158 = .ok (.if_icmp .ne 12, 3) := by decide +kernel
theorem dL_act_161 : decode cL_act 161 = .ok (.iconst 1, 1) := by decide +kernel
theorem dL_act_162 : decode cL_act 162 = .ok (.iload_n 3, 1) := by decide +kernel
theorem dL_act_163 : decode cL_act 163 = .ok (.bipush 9, 2) := by decide +kernel
theorem dL_act_165 : decode cL_act 165 = .ok (.irem, 1) := by decide +kernel
theorem dL_act_166 : decode cL_act 166 = .ok (.iadd, 1) := by decide +kernel
theorem dL_act_167 : decode cL_act 167 = .ok (.goto 7, 3) := by decide +kernel
theorem dL_act_170 : decode cL_act 170 = .ok (.iload_n 3, 1) := by decide +kernel
theorem dL_act_171 : decode cL_act 171 = .ok (.bipush 51, 2) := by decide +kernel
theorem dL_act_173 : decode cL_act 173 = .ok (.irem, 1) := by decide +kernel
theorem dL_act_174 : decode cL_act 174 = .ok (.invokestatic 156, 3) := by decide +kernel
theorem dL_act_177 : decode cL_act 177 = .ok (.lreturn, 1) := by decide +kernel
theorem dL_act_178 : decode cL_act 178 = .ok (.aload_n 0, 1) := by decide +kernel
theorem dL_act_179 : decode cL_act 179 = .ok (.invokevirtual 210, 3) := by decide +kernel
theorem dL_act_182 : decode cL_act 182 = .ok (.i2l, 1) := by decide +kernel
theorem dL_act_183 : decode cL_act 183 = .ok (.lreturn, 1) := by decide +kernel
theorem dL_act_184 : decode cL_act 184 = .ok (.aload_n 0, 1) := by decide +kernel
theorem dL_act_185 : decode cL_act 185 = .ok (.invokestatic 194, 3) := by decide +kernel
theorem dL_act_188 : decode cL_act 188 = .ok (.lreturn, 1) := by decide +kernel
theorem dL_act_189 : decode cL_act 189 = .ok (.iload_n 3, 1) := by decide +kernel
theorem dL_act_190 : decode cL_act 190 = .ok (.iconst 2, 1) := by decide +kernel
theorem dL_act_191 : decode cL_act 191 = .ok (.irem, 1) := by decide +kernel
theorem dL_act_192 : decode cL_act 192 = .ok (.ifCond .ne 15, 3) := by decide +kernel
theorem dL_act_195 : decode cL_act 195 = .ok (.aload_n 0, 1) := by decide +kernel
theorem dL_act_196 : decode cL_act 196 = .ok (.iload_n 3, 1) := by decide +kernel
theorem dL_act_197 : decode cL_act 197 = .ok (.iconst 2, 1) := by decide +kernel
theorem dL_act_198 : decode cL_act 198 = .ok (.idiv, 1) := by decide +kernel
theorem dL_act_199 : decode cL_act 199 = .ok (.iconst 1, 1) := by decide +kernel
theorem dL_act_200 : decode cL_act 200 = .ok (.iand, 1) := by decide +kernel
