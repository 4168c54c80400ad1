theorem dL_kept_480 : decode cL_kept 480 = .ok (.invokestatic 117, 3) := by decide +kernel
theorem dL_kept_483 : decode cL_kept 483 = .ok (.lconst 0, 1) := by decide +kernel
theorem dL_kept_484 : decode cL_kept 484 = .ok (.lcmp, 1) := by decide +kernel
theorem dL_kept_485 : decode cL_kept 485 = .ok (.ifCond .lt 52, 3) := by decide +kernel
theorem dL_kept_488 : decode cL_kept 488 = .ok (.aload_n 0, 1) := by decide +kernel
theorem dL_kept_489 : decode cL_kept 489 = .ok (.iload 6, 2) := by decide +kernel
theorem dL_kept_491 : decode cL_kept 491 = .ok (.iconst 3, 1) := by decide +kernel
theorem dL_kept_492 : decode cL_kept 492 = .ok (.invokestatic 117, 3) := by decide +kernel
theorem dL_kept_495 : decode cL_kept 495 = .ok (.lconst 0, 1) := by decide +kernel
theorem dL_kept_496 : decode cL_kept 496 = .ok (.lcmp, 1) := by decide +kernel
theorem dL_kept_497 : decode cL_kept 497 = .ok (.ifCond .lt 40, 3) := by decide +kernel
theorem dL_kept_500 : decode cL_kept 500 = .ok (.aload_n 0, 1) := by decide +kernel
theorem dL_kept_501 : decode cL_kept 501 = .ok (.iload 6, 2) := by decide +kernel
theorem dL_kept_503 : decode cL_kept 503 = .ok (.bipush 7, 2) := by decide +kernel
theorem dL_kept_505 : decode cL_kept 505 = .ok (.invokestatic 117, 3) := by decide +kernel
theorem dL_kept_508 : decode cL_kept 508 = .ok (.ldc2_w 177, 3) := by decide +kernel
theorem dL_kept_511 : decode cL_kept 511 = .ok (.lcmp, 1) := by decide +kernel
theorem dL_kept_512 : decode cL_kept 512 = .ok (.ifCond .ne 7, 3) := by decide +kernel
theorem dL_kept_515 : decode cL_kept 515 = .ok (.iconst 1, 1) := by decide +kernel
theorem dL_kept_516 : decode cL_kept 516 = .ok (.goto 4, 3) := by decide +kernel
theorem dL_kept_519 : decode cL_kept 519 = .ok (.iconst 0, 1) := by decide +kernel
theorem dL_kept_520 : decode cL_kept 520 = .ok (.iload 10, 2) := by decide +kernel
theorem dL_kept_522 : decode cL_kept 522 = .ok (.ifCond .ne 7, 3) := by decide +kernel
theorem dL_kept_525 : decode cL_kept 525 = .ok (.iconst 1, 1) := by decide +kernel
theorem dL_kept_526 : decode cL_kept 526 = .ok (.goto 4, 3) := by decide +kernel
theorem dL_kept_529 : decode cL_kept 529 = .ok (.iconst 0, 1) := by decide +kernel
theorem dL_kept_530 : decode cL_kept 530 = .ok (.if_icmp .ne 7, 3) := by decide +kernel
theorem dL_kept_533 : decode cL_kept 533 = .ok (.iconst 1, 1) := by decide +kernel
theorem dL_kept_534 : decode cL_kept 534 = .ok (.goto 4, 3) := by decide +kernel
theorem dL_kept_537 : decode cL_kept 537 = .ok (.iconst 0, 1) := by decide +kernel
theorem dL_kept_538 : decode cL_kept 538 = .ok (.istore 5, 2) := by decide +kernel
theorem dL_kept_540 : decode cL_kept 540 = .ok (.iload_n 1, 1) := by decide +kernel
theorem dL_kept_541 : decode cL_kept 541 = .ok (.iload 10, 2) := by decide +kernel
theorem dL_kept_543 : decode cL_kept 543 = .ok (.iadd, 1) := by decide +kernel
theorem dL_kept_544 : decode cL_kept 544 = .ok (.istore_n 1, 1) := by decide +kernel
theorem dL_kept_545 : decode cL_kept 545 = .ok (.iload_n 2, 1) := by decide +kernel
theorem dL_kept_546 : decode cL_kept 546 = .ok (.iload 7, 2) := by decide +kernel
theorem dL_kept_548 : decode cL_kept 548 = .ok (.iadd, 1) := by decide +kernel
theorem dL_kept_549 : decode cL_kept 549 = .ok (.istore_n 2, 1) := by decide +kernel
theorem dL_kept_550 : decode cL_kept 550 = .ok (.iinc 6 1, 3) := by decide +kernel
theorem dL_kept_553 : decode cL_kept 553 = .ok (.goto (-541), 3) := by decide +kernel
theorem dL_kept_556 : decode cL_kept 556 = .ok (.iconst 0, 1) := by decide +kernel
theorem dL_kept_557 : decode cL_kept 557 = .ok (.istore 6, 2) := by decide +kernel
theorem dL_kept_559 : decode cL_kept 559 = .ok (.iload 6, 2) := by decide +kernel
theorem dL_kept_561 : decode cL_kept 561 = .ok (.i2l, 1) := by decide +kernel
theorem dL_kept_562 : decode cL_kept 562 = .ok (.aload_n 0, 1) := by decide +kernel
theorem dL_kept_563 : decode cL_kept 563 = .ok (.iconst 1, 1) := by decide +kernel
theorem dL_kept_564 : decode cL_kept 564 = .ok (.invokestatic 112, 3) := by decide +kernel
theorem dL_kept_567 : decode cL_kept 567 = .ok (.lcmp, 1) := by decide +kernel
theorem dL_kept_568 : decode cL_kept 568 = .ok (.ifCond .ge 148, 3) := by decide +kernel
theorem dL_kept_571 : decode cL_kept 571 = .ok (.iload 5, 2) := by decide +kernel
theorem dL_kept_573 : decode cL_kept 573 = .ok (.ifCond .eq 143, 3) := by decide +kernel
theorem dL_kept_576 : decode cL_kept 576 = .ok (.aload_n 0, 1) := by decide +kernel
theorem dL_kept_577 : decode cL_kept 577 = .ok (.iload 6, 2) := by decide +kernel
theorem dL_kept_579 : decode cL_kept 579 = .ok (.iconst 0, 1) := by decide +kernel
theorem dL_kept_580 : decode cL_kept 580 = .ok (.invokestatic 122, 3) := by decide +kernel
theorem dL_kept_583 : decode cL_kept 583 = .ok (.l2i, 1) := by decide +kernel
theorem dL_kept_584 : decode cL_kept 584 = .ok (.istore 7, 2) := by decide +kernel
theorem dL_kept_586 : decode cL_kept 586 = .ok (.aload_n 0, 1) := by decide +kernel
theorem dL_kept_587 : decode cL_kept 587 = .ok (.iload 6, 2) := by decide +kernel
theorem dL_kept_589 : decode cL_kept 589 = .ok (.iconst 2, 1) := by decide +kernel
theorem dL_kept_590 : decode cL_kept 590 = .ok (.invokestatic 122, 3) := by decide +kernel
theorem dL_kept_593 : decode cL_kept 593 = .ok (.aload_n 0, 1) := by decide +kernel
theorem dL_kept_594 : decode cL_kept 594 = .ok (.iload 6, 2) := by decide +kernel
theorem dL_kept_596 : decode cL_kept 596 = .ok (.iconst 1, 1) := by decide +kernel
theorem dL_kept_597 : decode cL_kept 597 = .ok (.invokestatic 122, 3) := by decide +kernel
theorem dL_kept_600 : decode cL_kept 600 = .ok (.lcmp, 1) := by decide +kernel
theorem dL_kept_601 : decode cL_kept 601 = .ok (.ifCond .gt 106, 3) := by decide +kernel
theorem dL_kept_604 : decode cL_kept 604 = .ok (.aload_n 0, 1) := by decide +kernel
theorem dL_kept_605 : decode cL_kept 605 = .ok (.iload 6, 2) := by decide +kernel
theorem dL_kept_607 : decode cL_kept 607 = .ok (.iconst 2, 1) := by decide +kernel
theorem dL_kept_608 : decode cL_kept 608 = .ok (.invokestatic 122, 3) := by decide +kernel
theorem dL_kept_611 : decode cL_kept 611 = .ok (.aload_n 0, 1) := by decide +kernel
theorem dL_kept_612 : decode cL_kept 612 = .ok (.iload 7, 2) := by decide +kernel
theorem dL_kept_614 : decode cL_kept 614 = .ok (.iconst 5, 1) := by decide +kernel
theorem dL_kept_615 : decode cL_kept 615 = .ok (.invokestatic 117, 3) := by decide +kernel
theorem dL_kept_618 : decode cL_kept 618 = .ok (.lcmp, 1) := by decide +kernel
theorem dL_kept_619 : decode cL_kept 619 = .ok (.ifCond .gt 88, 3) := by decide +kernel
theorem dL_kept_622 : decode cL_kept 622 = .ok (.aload_n 0, 1) := by decide +kernel
theorem dL_kept_623 : decode cL_kept 623 = .ok (.iload 6, 2) := by decide +kernel
theorem dL_kept_625 : decode cL_kept 625 = .ok (.iconst 3, 1) := by decide +kernel
theorem dL_kept_626 : decode cL_kept 626 = .ok (.invokestatic 122, 3) := by decide +kernel
theorem dL_kept_629 : decode cL_kept 629 = .ok (.aload_n 0, 1) := by decide +kernel
theorem dL_kept_630 : decode cL_kept 630 = .ok (.iload 7, 2) := by decide +kernel
theorem dL_kept_632 : decode cL_kept 632 = .ok (.bipush 6, 2) := by decide +kernel
theorem dL_kept_634 : decode cL_kept 634 = .ok (.invokestatic 117, 3) := by decide +kernel
theorem dL_kept_637 : decode cL_kept 637 = .ok (.lcmp, 1) := by decide +kernel
theorem dL_kept_638 : decode cL_kept 638 = .ok (.ifCond .gt 69, 3) := by decide +kernel
theorem dL_kept_641 : decode cL_kept 641 = .ok (.aload_n 0, 1) := by decide +kernel
theorem dL_kept_642 : decode cL_kept 642 = .ok (.iload 6, 2) := by decide +kernel
theorem dL_kept_644 : decode cL_kept 644 = .ok (.iconst 5, 1) := by decide +kernel
theorem dL_kept_645 : decode cL_kept 645 = .ok (.invokestatic 122, 3) := by decide +kernel
theorem dL_kept_648 : decode cL_kept 648 = .ok (.lconst 1, 1) := by decide +kernel
theorem dL_kept_649 : decode cL_kept 649 = .ok (.lcmp, 1) := by decide +kernel
theorem dL_kept_650 : decode cL_kept 650 = .ok (.ifCond .ne 7, 3) := by decide +kernel
theorem dL_kept_653 : decode cL_kept 653 = .ok (.iconst 1, 1) := by decide +kernel
theorem dL_kept_654 : decode cL_kept 654 = .ok (.goto 4, 3) := by decide +kernel
theorem dL_kept_657 : decode cL_kept 657 = .ok (.iconst 0, 1) := by decide +kernel
theorem dL_kept_658 : decode cL_kept 658 = .ok (.aload_n 0, 1) := by decide +kernel
theorem dL_kept_659 : decode cL_kept 659 = .ok (.iload 7, 2) := by decide +kernel
theorem dL_kept_661 : decode cL_kept 661 = .ok (.bipush 7, 2) := by decide +kernel
theorem dL_kept_663 : decode cL_kept 663 = .ok (.invokestatic 117, 3) := by decide +kernel
theorem dL_kept_666 : decode cL_kept 666 = .ok (.aload_n 0, 1) := by decide +kernel
theorem dL_kept_667 : decode cL_kept 667 = .ok (.iload 6, 2) := by decide +kernel
theorem dL_kept_669 : decode cL_kept 669 = .ok (.iconst 1, 1) := by decide +kernel
theorem dL_kept_670 : decode cL_kept 670 = .ok (.invokestatic 122, 3) := by decide +kernel
theorem dL_kept_673 : decode cL_kept 673 = .ok (.lcmp, 1) := by decide +kernel
theorem dL_kept_674 : decode cL_kept 674 = .ok (.ifCond .lt 7, 3) := by decide +kernel
theorem dL_kept_677 : decode cL_kept 677 = .ok (.iconst 1, 1) := by decide +kernel
theorem dL_kept_678 : decode cL_kept 678 = .ok (.goto 4, 3) := by decide +kernel
theorem dL_kept_681 : decode cL_kept 681 = .ok (.iconst 0, 1) := by decide +kernel
theorem dL_kept_682 : decode cL_kept 682 = .ok (.if_icmp .ne 25, 3) := by decide +kernel
theorem dL_kept_685 : decode cL_kept 685 = .ok (.aload_n 0, 1) := by decide +kernel
theorem dL_kept_686 : decode cL_kept 686 = .ok (.iload 6, 2) := by decide +kernel
theorem dL_kept_688 : decode cL_kept 688 = .ok (.iconst 4, 1) := by decide +kernel
theorem dL_kept_689 : decode cL_kept 689 = .ok (.invokestatic 122, 3) := by decide +kernel
theorem dL_kept_692 : decode cL_kept 692 = .ok (.aload_n 0, 1) := by decide +kernel
theorem dL_kept_693 : decode cL_kept 693 = .ok (.iload 6, 2) := by decide +kernel
theorem dL_kept_695 : decode cL_kept 695 = .ok (.iconst 1, 1) := by decide +kernel
theorem dL_kept_696 : decode cL_kept 696 = .ok (.invokestatic 122, 3) := by decide +kernel
theorem dL_kept_699 : decode cL_kept 699 = .ok (.lcmp, 1) := by decide +kernel
theorem dL_kept_700 : decode cL_kept 700 = .ok (.ifCond .ge 7, 3) := by decide +kernel
theorem dL_kept_703 : decode cL_kept 703 = .ok (.iconst 1, 1) := by decide +kernel
theorem dL_kept_704 : decode cL_kept 704 = .ok (.goto 4, 3) := by decide +kernel
theorem dL_kept_707 : decode cL_kept 707 = .ok (.iconst 0, 1) := by decide +kernel
theorem dL_kept_708 : decode cL_kept 708 = .ok (.istore 5, 2) := by decide +kernel
theorem dL_kept_710 : decode cL_kept 710 = .ok (.iinc 6 1, 3) := by decide +kernel
theorem dL_kept_713 : decode cL_kept 713 = .ok (.goto (-154), 3) := by decide +kernel
theorem dL_kept_716 : decode cL_kept 716 = .ok (.iconst 0, 1) := by decide +kernel
theorem dL_kept_717 : decode cL_kept 717 = .ok (.istore 6, 2) := by decide +kernel
theorem dL_kept_719 : decode cL_kept 719 = .ok (.iload 6, 2) := by decide +kernel
theorem dL_kept_721 : decode cL_kept 721 = .ok (.i2l, 1) := by decide +kernel
theorem dL_kept_722 : decode cL_kept 722 = .ok (.aload_n 0, 1) := by decide +kernel
theorem dL_kept_723 : decode cL_kept 723 = .ok (.iconst 2, 1) := by decide +kernel
theorem dL_kept_724 : decode cL_kept 724 = .ok (.invokestatic 112, 3) := by decide +kernel
theorem dL_kept_727 : decode cL_kept 727 = .ok (.lcmp, 1) := by decide +kernel
theorem dL_kept_728 : decode cL_kept 728 = .ok (.ifCond .ge 76, 3) := by decide +kernel
theorem dL_kept_731 : decode cL_kept 731 = .ok (.iload 5, 2) := by decide +kernel
theorem dL_kept_733 : decode cL_kept 733 = .ok (.ifCond .eq 71, 3) := by decide +kernel
theorem dL_kept_736 : decode cL_kept 736 = .ok (.lload_n 3, 1) := by decide +kernel
theorem dL_kept_737 : decode cL_kept 737 = .ok (.aload_n 0, 1) := by decide +kernel
theorem dL_kept_738 : decode cL_kept 738 = .ok (.iload 6, 2) := by decide +kernel
theorem dL_kept_740 : decode cL_kept 740 = .ok (.iconst 2, 1) := by decide +kernel
theorem dL_kept_741 : decode cL_kept 741 = .ok (.invokestatic 126, 3) := by decide +kernel
theorem dL_kept_744 : decode cL_kept 744 = .ok (.ladd, 1) := by decide +kernel
theorem dL_kept_745 : decode cL_kept 745 = .ok (.lstore_n 3, 1) := by decide +kernel
theorem dL_kept_746 : decode cL_kept 746 = .ok (.aload_n 0, 1) := by decide +kernel
theorem dL_kept_747 : decode cL_kept 747 = .ok (.iload 6, 2) := by decide +kernel
theorem dL_kept_749 : decode cL_kept 749 = .ok (.iconst 2, 1) := by decide +kernel
theorem dL_kept_750 : decode cL_kept 750 = .ok (.invokestatic 126, 3) := by decide +kernel
theorem dL_kept_753 : decode cL_kept 753 = .ok (.lconst 0, 1) := by decide +kernel
theorem dL_kept_754 : decode cL_kept 754 = .ok (.aload_n 0, 1) := by decide +kernel
theorem dL_kept_755 : decode cL_kept 755 = .ok (.iload 6, 2) := by decide +kernel
theorem dL_kept_757 : decode cL_kept 757 = .ok (.iconst 3, 1) := by decide +kernel
theorem dL_kept_758 : decode cL_kept 758 = .ok (.invokestatic 126, 3) := by decide +kernel
theorem dL_kept_761 : decode cL_kept 761 = .ok (.invokestatic 183, 3) := by decide +kernel
theorem dL_kept_764 : decode cL_kept 764 = .ok (.ifCond .eq 31, 3) := by decide +kernel
theorem dL_kept_767 : decode cL_kept 767 = .ok (.aload_n 0, 1) := by decide +kernel
theorem dL_kept_768 : decode cL_kept 768 = .ok (.iload 6, 2) := by decide +kernel
theorem dL_kept_770 : decode cL_kept 770 = .ok (.iconst 4, 1) := by decide +kernel
theorem dL_kept_771 : decode cL_kept 771 = .ok (.invokestatic 126, 3) := by decide +kernel
theorem dL_kept_774 : decode cL_kept 774 = .ok (.lconst 0, 1) := by decide +kernel
theorem dL_kept_775 : decode cL_kept 775 = .ok (.lcmp, 1) := by decide +kernel
theorem dL_kept_776 : decode cL_kept 776 = .ok (.ifCond .gt 15, 3) := by decide +kernel
theorem dL_kept_779 : decode cL_kept 779 = .ok (.aload_n 0, 1) := by decide +kernel
theorem dL_kept_780 : decode cL_kept 780 = .ok (.iload 6, 2) := by decide +kernel
theorem dL_kept_782 : decode cL_kept 782 = .ok (.iconst 3, 1) := by decide +kernel
theorem dL_kept_783 : decode cL_kept 783 = .ok (.invokestatic 126, 3) := by decide +kernel
theorem dL_kept_786 : decode cL_kept 786 = .ok (.lconst 0, 1) := by decide +kernel
theorem dL_kept_787 : decode cL_kept 787 = .ok (.lcmp, 1) := by decide +kernel
theorem dL_kept_788 : decode cL_kept 788 = .ok (.ifCond .ne 7, 3) := by decide +kernel
theorem dL_kept_791 : decode cL_kept 791 = .ok (.iconst 1, 1) := by decide +kernel
theorem dL_kept_792 : decode cL_kept 792 = .ok (.goto 4, 3) := by decide +kernel
theorem dL_kept_795 : decode cL_kept 795 = .ok (.iconst 0, 1) := by decide +kernel
theorem dL_kept_796 : decode cL_kept 796 = .ok (.istore 5, 2) := by decide +kernel
theorem dL_kept_798 : decode cL_kept 798 = .ok (.iinc 6 1, 3) := by decide +kernel
theorem dL_kept_801 : decode cL_kept 801 = .ok (.goto (-82), 3) := by decide +kernel
theorem dL_kept_804 : decode cL_kept 804 = .ok (.lconst 0, 1) := by decide +kernel
theorem dL_kept_805 : decode cL_kept 805 = .ok (.lstore 6, 2) := by decide +kernel
theorem dL_kept_807 : decode cL_kept 807 = .ok (.iconst 0, 1) := by decide +kernel
theorem dL_kept_808 : decode cL_kept 808 = .ok (.istore 8, 2) := by decide +kernel
theorem dL_kept_810 : decode cL_kept 810 = .ok (.iload 8, 2) := by decide +kernel
theorem dL_kept_812 : decode cL_kept 812 = .ok (.iload_n 1, 1) := by decide +kernel
theorem dL_kept_813 : decode cL_kept 813 = .ok (.if_icmp .ge 65, 3) := by decide +kernel
theorem dL_kept_816 : decode cL_kept 816 = .ok (.iload 5, 2) := by decide +kernel
theorem dL_kept_818 : decode cL_kept 818 = .ok (.ifCond .eq 60, 3) := by decide +kernel
theorem dL_kept_821 : decode cL_kept 821 = .ok (.aload_n 0, 1) := by decide +kernel
theorem dL_kept_822 : decode cL_kept 822 = .ok (.iload 8, 2) := by decide +kernel
theorem dL_kept_824 : decode cL_kept 824 = .ok (.invokestatic 150, 3) := by decide +kernel
theorem dL_kept_827 : decode cL_kept 827 = .ok (.l2i, 1) := by decide +kernel
theorem dL_kept_828 : decode cL_kept 828 = .ok (.istore 9, 2) := by decide +kernel
theorem dL_kept_830 : decode cL_kept 830 = .ok (.aload_n 0, 1) := by decide +kernel
theorem dL_kept_831 : decode cL_kept 831 = .ok (.iload 9, 2) := by decide +kernel
theorem dL_kept_833 : decode cL_kept 833 = .ok (.bipush 100, 2) := by decide +kernel
theorem dL_kept_835 : decode cL_kept 835 = .ok (.idiv, 1) := by decide +kernel
theorem dL_kept_836 : decode cL_kept 836 = .ok (.iload 9, 2) := by decide +kernel
theorem dL_kept_838 : decode cL_kept 838 = .ok (.bipush 100, 2) := by decide +kernel
theorem dL_kept_840 : decode cL_kept 840 = .ok (.irem, 1) := by decide +kernel
theorem dL_kept_841 : decode cL_kept 841 = .ok (.invokestatic 120, 3) := by decide +kernel
theorem dL_kept_844 : decode cL_kept 844 = .ok (.lstore 10, 2) := by decide +kernel
theorem dL_kept_846 : decode cL_kept 846 = .ok (.lload 10, 2) := by decide +kernel
theorem dL_kept_848 : decode cL_kept 848 = .ok (.lload 6, 2) := by decide +kernel
theorem dL_kept_850 : decode cL_kept 850 = .ok (.lcmp, 1) := by decide +kernel
theorem dL_kept_851 : decode cL_kept 851 = .ok (.ifCond .lt 14, 3) := by decide +kernel
theorem dL_kept_854 : decode cL_kept 854 = .ok (.lload 10, 2) := by decide +kernel
theorem dL_kept_856 : decode cL_kept 856 = .ok (.lconst 0, 1) := by decide +kernel
theorem dL_kept_857 : decode cL_kept 857 = .ok (.lcmp, 1) := by decide +kernel
theorem dL_kept_858 : decode cL_kept 858 = .ok (.ifCond .le 7, 3) := by decide +kernel
theorem dL_kept_861 : decode cL_kept 861 = .ok (.iconst 1, 1) := by decide +kernel
theorem dL_kept_862 : decode cL_kept 862 = .ok (.goto 4, 3) := by decide +kernel
theorem dL_kept_865 : decode cL_kept 865 = .ok (.iconst 0, 1) := by decide +kernel
theorem dL_kept_866 : decode cL_kept 866 = .ok (.istore 5, 2) := by decide +kernel
theorem dL_kept_868 : decode cL_kept 868 = .ok (.lload 10, 2) := by decide +kernel
theorem dL_kept_870 : decode cL_kept 870 = .ok (.lstore 6, 2) := by decide +kernel
theorem dL_kept_872 : decode cL_kept 872 = .ok (.iinc 8 1, 3) := by decide +kernel
theorem dL_kept_875 : decode cL_kept 875 = .ok (.goto (-65), 3) := by decide +kernel
theorem dL_kept_878 : decode cL_kept 878 = .ok (.aload_n 0, 1) := by decide +kernel
theorem dL_kept_879 : decode cL_kept 879 = .ok (.invokevirtual 187, 3) := by decide +kernel
theorem dL_kept_882 : decode cL_kept 882 = .ok (.istore 8, 2) := by decide +kernel
theorem dL_kept_884 : decode cL_kept 884 = .ok (.iload 5, 2) := by decide +kernel
theorem dL_kept_886 : decode cL_kept 886 = .ok (.ifCond .eq 65, 3) := by decide +kernel
theorem dL_kept_889 : decode cL_kept 889 = .ok (.aload_n 0, 1) := by decide +kernel
theorem dL_kept_890 : decode cL_kept 890 = .ok (.iconst 4, 1) := by decide +kernel
theorem dL_kept_891 : decode cL_kept 891 = .ok (.invokestatic 112, 3) := by decide +kernel
theorem dL_kept_894 : decode cL_kept 894 = .ok (.iload_n 1, 1) := by decide +kernel
theorem dL_kept_895 : decode cL_kept 895 = .ok (.i2l, 1) := by decide +kernel
theorem dL_kept_896 : decode cL_kept 896 = .ok (.lcmp, 1) := by decide +kernel
theorem dL_kept_897 : decode cL_kept 897 = .ok (.ifCond .ne 54, 3) := by decide +kernel
theorem dL_kept_900 : decode cL_kept 900 = .ok (.aload_n 0, 1) := by decide +kernel
theorem dL_kept_901 : decode cL_kept 901 = .ok (.iconst 5, 1) := by decide +kernel
theorem dL_kept_902 : decode cL_kept 902 = .ok (.invokestatic 112, 3) := by decide +kernel
theorem dL_kept_905 : decode cL_kept 905 = .ok (.iload_n 2, 1) := by decide +kernel
theorem dL_kept_906 : decode cL_kept 906 = .ok (.i2l, 1) := by decide +kernel
theorem dL_kept_907 : decode cL_kept 907 = .ok (.lcmp, 1) := by decide +kernel
theorem dL_kept_908 : decode cL_kept 908 = .ok (.ifCond .ne 43, 3) := by decide +kernel
theorem dL_kept_911 : decode cL_kept 911 = .ok (.aload_n 0, 1) := by decide +kernel
theorem dL_kept_912 : decode cL_kept 912 = .ok (.bipush 8, 2) := by decide +kernel
theorem dL_kept_914 : decode cL_kept 914 = .ok (.invokestatic 112, 3) := by decide +kernel
theorem dL_kept_917 : decode cL_kept 917 = .ok (.lload_n 3, 1) := by decide +kernel
theorem dL_kept_918 : decode cL_kept 918 = .ok (.lcmp, 1) := by decide +kernel
theorem dL_kept_919 : decode cL_kept 919 = .ok (.ifCond .ne 32, 3) := by decide +kernel
theorem dL_kept_922 : decode cL_kept 922 = .ok (.iload_n 1, 1) := by decide +kernel
theorem dL_kept_923 : decode cL_kept 923 = .ok (.ifCond .ne 12, 3) := by decide +kernel
theorem dL_kept_926 : decode cL_kept 926 = .ok (.iload 8, 2) := by decide +kernel
theorem dL_kept_928 : decode cL_kept 928 = .ok (.iconst (-1), 1) := by decide +kernel
theorem dL_kept_929 : decode cL_kept 929 = .ok (.if_icmp .ne 22, 3) := by decide +kernel
theorem dL_kept_932 : decode cL_kept 932 = .ok (.goto 15, 3) := by decide +kernel
theorem dL_kept_935 : decode cL_kept 935 = .ok (.aload_n 0, 1) := by decide +kernel
theorem dL_kept_936 : decode cL_kept 936 = .ok (.iload 8, 2) := by decide +kernel
theorem dL_kept_938 : decode cL_kept 938 = .ok (.iconst 5, 1) := by decide +kernel
theorem dL_kept_939 : decode cL_kept 939 = .ok (.invokestatic 117, 3) := by decide +kernel
theorem dL_kept_942 : decode cL_kept 942 = .ok (.lconst 0, 1) := by decide +kernel
theorem dL_kept_943 : decode cL_kept 943 = .ok (.lcmp, 1) := by decide +kernel
theorem dL_kept_944 : decode cL_kept 944 = .ok (.ifCond .le 7, 3) := by decide +kernel
theorem dL_kept_947 : decode cL_kept 947 = .ok (.iconst 1, 1) := by decide +kernel
theorem dL_kept_948 : decode cL_kept 948 = .ok (.goto 4, 3) := by decide +kernel
theorem dL_kept_951 : decode cL_kept 951 = .ok (.iconst 0, 1) := by decide +kernel
theorem dL_kept_952 : decode cL_kept 952 = .ok (.ireturn, 1) := by decide +kernel
theorem dL_follows_0 : decode cL_follows 0 = .ok (.aload_n 0, 1) := by decide +kernel
theorem dL_follows_1 : decode cL_follows 1 = .ok (.invokestatic 128, 3) := by decide +kernel
theorem dL_follows_4 : decode cL_follows 4 = .ok (.lstore_n 2, 1) := by decide +kernel
theorem dL_follows_5 : decode cL_follows 5 = .ok (.aload_n 0, 1) := by decide +kernel
theorem dL_follows_6 : decode cL_follows 6 = .ok (.iconst 1, 1) := by decide +kernel
theorem dL_follows_7 : decode cL_follows 7 = .ok (.invokestatic 171, 3) := by decide +kernel
theorem dL_follows_10 : decode cL_follows 10 = .ok (.aload_n 0, 1) := by decide +kernel
theorem dL_follows_11 : decode cL_follows 11 = .ok (.iconst 3, 1) := by decide +kernel
theorem dL_follows_12 : decode cL_follows 12 = .ok (.invokestatic 112, 3) := by decide +kernel
theorem dL_follows_15 : decode cL_follows 15 = .ok (.lcmp, 1) := by decide +kernel
theorem dL_follows_16 : decode cL_follows 16 = .ok (.ifCond .ne 36, 3) := by decide +kernel
theorem dL_follows_19 : decode cL_follows 19 = .ok (.aload_n 0, 1) := by decide +kernel
theorem dL_follows_20 : decode cL_follows 20 = .ok (.iload_n 1, 1) := by decide +kernel
theorem dL_follows_21 : decode cL_follows 21 = .ok (.i2l, 1) := by decide +kernel
theorem dL_follows_22 : decode cL_follows 22 = .ok (.bipush 6, 2) := by decide +kernel
theorem dL_follows_24 : decode cL_follows 24 = .ok (.invokestatic 168, 3) := by decide +kernel
theorem dL_follows_27 : decode cL_follows 27 = .ok (.aload_n 0, 1) := by decide +kernel
theorem dL_follows_28 : decode cL_follows 28 = .ok (.iload_n 1, 1) := by decide +kernel
theorem dL_follows_29 : decode cL_follows 29 = .ok (.i2l, 1) := by decide +kernel
theorem dL_follows_30 : decode cL_follows 30 = .ok (.bipush 6, 2) := by decide +kernel
theorem dL_follows_32 : decode cL_follows 32 = .ok (.invokestatic 168, 3) := by decide +kernel
theorem dL_follows_35 : decode cL_follows 35 = .ok (.lcmp, 1) := by decide +kernel
theorem dL_follows_36 : decode cL_follows 36 = .ok (.ifCond .ne 16, 3) := by decide +kernel
theorem dL_follows_39 : decode cL_follows 39 = .ok (.aload_n 0, 1) := by decide +kernel
theorem dL_follows_40 : decode cL_follows 40 = .ok (.invokestatic 128, 3) := by decide +kernel
theorem dL_follows_43 : decode cL_follows 43 = .ok (.lload_n 2, 1) := by decide +kernel
theorem dL_follows_44 : decode cL_follows 44 = .ok (.lcmp, 1) := by decide +kernel
theorem dL_follows_45 : decode cL_follows 45 = .ok (.ifCond .ne 7, 3) := by decide +kernel
theorem dL_follows_48 : decode cL_follows 48 = .ok (.iconst 1, 1) := by decide +kernel
theorem dL_follows_49 : decode cL_follows 49 = .ok (.goto 4, 3) := by decide +kernel
theorem dL_follows_52 : decode cL_follows 52 = .ok (.iconst 0, 1) := by decide +kernel
theorem dL_follows_53 : decode cL_follows 53 = .ok (.istore 4, 2) := by decide +kernel
theorem dL_follows_55 : decode cL_follows 55 = .ok (.aload_n 0, 1) := by decide +kernel
theorem dL_follows_56 : decode cL_follows 56 = .ok (.iconst 0, 1) := by decide +kernel
theorem dL_follows_57 : decode cL_follows 57 = .ok (.invokestatic 112, 3) := by decide +kernel
theorem dL_follows_60 : decode cL_follows 60 = .ok (.lconst 0, 1) := by decide +kernel
theorem dL_follows_61 : decode cL_follows 61 = .ok (.lcmp, 1) := by decide +kernel
theorem dL_follows_62 : decode cL_follows 62 = .ok (.ifCond .le 576, 3) := by decide +kernel
theorem dL_follows_65 : decode cL_follows 65 = .ok (.aload_n 0, 1) := by decide +kernel
theorem dL_follows_66 : decode cL_follows 66 = .ok (.iconst 3, 1) := by decide +kernel
theorem dL_follows_67 : decode cL_follows 67 = .ok (.invokestatic 112, 3) := by decide +kernel
theorem dL_follows_70 : decode cL_follows 70 = .ok (.ldc2_w 190, 3) := by decide +kernel
theorem dL_follows_73 : decode cL_follows 73 = .ok (.lcmp, 1) := by decide +kernel
theorem dL_follows_74 : decode cL_follows 74 = .ok (.ifCond .ge 564, 3) := by decide +kernel
theorem dL_follows_77 : decode cL_follows 77 = .ok (.iload 4, 2) := by decide +kernel
theorem dL_follows_79 : decode cL_follows 79 = .ok (.ifCond .eq 559, 3) := by decide +kernel
theorem dL_follows_82 : decode cL_follows 82 = .ok (.iload_n 1, 1) := by decide +kernel
theorem dL_follows_83 : decode cL_follows 83 = .ok (.aload_n 0, 1) := by decide +kernel
theorem dL_follows_84 : decode cL_follows 84 = .ok (.iconst 0, 1) := by decide +kernel
theorem dL_follows_85 : decode cL_follows 85 = .ok (.invokestatic 112, 3) := by decide +kernel
theorem dL_follows_88 : decode cL_follows 88 = .ok (.l2i, 1) := by decide +kernel
theorem dL_follows_89 : decode cL_follows 89 = .ok (.irem, 1) := by decide +kernel
theorem dL_follows_90 : decode cL_follows 90 = .ok (.istore 5, 2) := by decide +kernel
theorem dL_follows_92 : decode cL_follows 92 = .ok (.iconst 1, 1) := by decide +kernel
theorem dL_follows_93 : decode cL_follows 93 = .ok (.iload_n 1, 1) := by decide +kernel
theorem dL_follows_94 : decode cL_follows 94 = .ok (.bipush 30, 2) := by decide +kernel
theorem dL_follows_96 : decode cL_follows 96 = .ok (.irem, 1) := by decide +kernel
theorem dL_follows_97 : decode cL_follows 97 = .ok (.iadd, 1) := by decide +kernel
theorem dL_follows_98 : decode cL_follows 98 = .ok (.istore 6, 2) := by decide +kernel
theorem dL_follows_100 : decode cL_follows 100 = .ok (.aload_n 0, 1) := by decide +kernel
theorem dL_follows_101 : decode cL_follows 101 = .ok (.iload 5, 2) := by decide +kernel
theorem dL_follows_103 : decode cL_follows 103 = .ok (.iload 6, 2) := by decide +kernel
theorem dL_follows_105 : decode cL_follows 105 = .ok (.invokestatic 143, 3) := by decide +kernel
theorem dL_follows_108 : decode cL_follows 108 = .ok (.lstore 7, 2) := by decide +kernel
theorem dL_follows_110 : decode cL_follows 110 = .ok (.lload 7, 2) := by decide +kernel
theorem dL_follows_112 : decode cL_follows 112 = .ok (.lconst 0, 1) := by decide +kernel
theorem dL_follows_113 : decode cL_follows 113 = .ok (.lcmp, 1) := by decide +kernel
theorem dL_follows_114 : decode cL_follows 114 = .ok (.ifCond .le 100, 3) := by decide +kernel
theorem dL_follows_117 : decode cL_follows 117 = .ok (.lload 7, 2) := by decide +kernel
theorem dL_follows_119 : decode cL_follows 119 = .ok (.ldc2_w 192, 3) := by decide +kernel
theorem dL_follows_122 : decode cL_follows 122 = .ok (.lcmp, 1) := by decide +kernel
theorem dL_follows_123 : decode cL_follows 123 = .ok (.ifCond .gt 91, 3) := by decide +kernel
theorem dL_follows_126 : decode cL_follows 126 = .ok (.aload_n 0, 1) := by decide +kernel
theorem dL_follows_127 : decode cL_follows 127 = .ok (.iload 6, 2) := by decide +kernel
theorem dL_follows_129 : decode cL_follows 129 = .ok (.iconst 0, 1) := by decide +kernel
theorem dL_follows_130 : decode cL_follows 130 = .ok (.lload 7, 2) := by decide +kernel
theorem dL_follows_132 : decode cL_follows 132 = .ok (.l2i, 1) := by decide +kernel
theorem dL_follows_133 : decode cL_follows 133 = .ok (.invokestatic 154, 3) := by decide +kernel
theorem dL_follows_136 : decode cL_follows 136 = .ok (.lconst 0, 1) := by decide +kernel
theorem dL_follows_137 : decode cL_follows 137 = .ok (.lcmp, 1) := by decide +kernel
theorem dL_follows_138 : decode cL_follows 138 = .ok (.ifCond .lt 73, 3) := by decide +kernel
theorem dL_follows_141 : decode cL_follows 141 = .ok (.aload_n 0, 1) := by decide +kernel
theorem dL_follows_142 : decode cL_follows 142 = .ok (.iload 5, 2) := by decide +kernel
theorem dL_follows_144 : decode cL_follows 144 = .ok (.iconst 5, 1) := by decide +kernel
theorem dL_follows_145 : decode cL_follows 145 = .ok (.invokestatic 117, 3) := by decide +kernel
theorem dL_follows_148 : decode cL_follows 148 = .ok (.lconst 0, 1) := by decide +kernel
theorem dL_follows_149 : decode cL_follows 149 = .ok (.lcmp, 1) := by decide +kernel
theorem dL_follows_150 : decode cL_follows 150 = .ok (.ifCond .ne 61, 3) := by decide +kernel
theorem dL_follows_153 : decode cL_follows 153 = .ok (.aload_n 0, 1) := by decide +kernel
theorem dL_follows_154 : decode cL_follows 154 = .ok (.invokestatic 194, 3) := by decide +kernel
theorem dL_follows_157 : decode cL_follows 157 = .ok (.lconst 0, 1) := by decide +kernel
theorem dL_follows_158 : decode cL_follows 158 = .ok (.lcmp, 1) := by decide +kernel
theorem dL_follows_159 : decode cL_follows 159 = .ok (.ifCond .lt 52, 3) := by decide +kernel
theorem dL_follows_162 : decode cL_follows 162 = .ok (.lload 7, 2) := by decide +kernel
theorem dL_follows_164 : decode cL_follows 164 = .ok (.lconst 1, 1) := by decide +kernel
theorem dL_follows_165 : decode cL_follows 165 = .ok (.lcmp, 1) := by decide +kernel
theorem dL_follows_166 : decode cL_follows 166 = .ok (.ifCond .eq 41, 3) := by decide +kernel
theorem dL_follows_169 : decode cL_follows 169 = .ok (.aload_n 0, 1) := by decide +kernel
theorem dL_follows_170 : decode cL_follows 170 = .ok (.iload 6, 2) := by decide +kernel
theorem dL_follows_172 : decode cL_follows 172 = .ok (.iconst 0, 1) := by decide +kernel
theorem dL_follows_173 : decode cL_follows 173 = .ok (.lload 7, 2) := by decide +kernel
theorem dL_follows_175 : decode cL_follows 175 = .ok (.l2i, 1) := by decide +kernel
theorem dL_follows_176 : decode cL_follows 176 = .ok (.iconst 1, 1) := by decide +kernel
theorem dL_follows_177 : decode cL_follows 177 = .ok (.isub, 1) := by decide +kernel
theorem dL_follows_178 : decode cL_follows 178 = .ok (.invokestatic 154, 3) := by decide +kernel
theorem dL_follows_181 : decode cL_follows 181 = .ok (.lconst 0, 1) := by decide +kernel
theorem dL_follows_182 : decode cL_follows 182 = .ok (.lcmp, 1) := by decide +kernel
theorem dL_follows_183 : decode cL_follows 183 = .ok (.ifCond .le 28, 3) := by decide +kernel
theorem dL_follows_186 : decode cL_follows 186 = .ok (.aload_n 0, 1) := by decide +kernel
theorem dL_follows_187 : decode cL_follows 187 = .ok (.iload 5, 2) := by decide +kernel
theorem dL_follows_189 : decode cL_follows 189 = .ok (.iconst 5, 1) := by decide +kernel
theorem dL_follows_190 : decode cL_follows 190 = .ok (.invokestatic 117, 3) := by decide +kernel
theorem dL_follows_193 : decode cL_follows 193 = .ok (.lconst 0, 1) := by decide +kernel
theorem dL_follows_194 : decode cL_follows 194 = .ok (.lcmp, 1) := by decide +kernel
theorem dL_follows_195 : decode cL_follows 195 = .ok (.ifCond .le 16, 3) := by decide +kernel
theorem dL_follows_198 : decode cL_follows 198 = .ok (.aload_n 0, 1) := by decide +kernel
theorem dL_follows_199 : decode cL_follows 199 = .ok (.invokestatic 194, 3) := by decide +kernel
theorem dL_follows_202 : decode cL_follows 202 = .ok (.lconst 0, 1) := by decide +kernel
theorem dL_follows_203 : decode cL_follows 203 = .ok (.lcmp, 1) := by decide +kernel
theorem dL_follows_204 : decode cL_follows 204 = .ok (.ifCond .lt 7, 3) := by decide +kernel
theorem dL_follows_207 : decode cL_follows 207 = .ok (.iconst 1, 1) := by decide +kernel
theorem dL_follows_208 : decode cL_follows 208 = .ok (.goto 4, 3) := by decide +kernel
theorem dL_follows_211 : decode cL_follows 211 = .ok (.iconst 0, 1) := by decide +kernel
theorem dL_follows_212 : decode cL_follows 212 = .ok (.istore 4, 2) := by decide +kernel
theorem dL_follows_214 : decode cL_follows 214 = .ok (.iload_n 1, 1) := by decide +kernel
theorem dL_follows_215 : decode cL_follows 215 = .ok (.bipush 7, 2) := by decide +kernel
theorem dL_follows_217 : decode cL_follows 217 = .ok (.idiv, 1) := by decide +kernel
theorem dL_follows_218 : decode cL_follows 218 = .ok (.bipush 30, 2) := by decide +kernel
theorem dL_follows_220 : decode cL_follows 220 = .ok (.irem, 1) := by decide +kernel
theorem dL_follows_221 : decode cL_follows 221 = .ok (.istore 9, 2) := by decide +kernel
theorem dL_follows_223 : decode cL_follows 223 = .ok (.aload_n 0, 1) := by decide +kernel
theorem dL_follows_224 : decode cL_follows 224 = .ok (.iload 5, 2) := by decide +kernel
theorem dL_follows_226 : decode cL_follows 226 = .ok (.iload 9, 2) := by decide +kernel
theorem dL_follows_228 : decode cL_follows 228 = .ok (.iload 6, 2) := by decide +kernel
theorem dL_follows_230 : decode cL_follows 230 = .ok (.ineg, 1) := by decide +kernel
theorem dL_follows_231 : decode cL_follows 231 = .ok (.invokestatic 145, 3) := by decide +kernel
theorem dL_follows_234 : decode cL_follows 234 = .ok (.lstore 10, 2) := by decide +kernel
theorem dL_follows_236 : decode cL_follows 236 = .ok (.lload 10, 2) := by decide +kernel
theorem dL_follows_238 : decode cL_follows 238 = .ok (.lconst 0, 1) := by decide +kernel
theorem dL_follows_239 : decode cL_follows 239 = .ok (.lcmp, 1) := by decide +kernel
theorem dL_follows_240 : decode cL_follows 240 = .ok (.ifCond .le 66, 3) := by decide +kernel
theorem dL_follows_243 : decode cL_follows 243 = .ok (.lload 10, 2) := by decide +kernel
theorem dL_follows_245 : decode cL_follows 245 = .ok (.ldc2_w 192, 3) := by decide +kernel
theorem dL_follows_248 : decode cL_follows 248 = .ok (.lcmp, 1) := by decide +kernel
theorem dL_follows_249 : decode cL_follows 249 = .ok (.ifCond .gt 57, 3) := by decide +kernel
theorem dL_follows_252 : decode cL_follows 252 = .ok (.iload 4, 2) := by decide +kernel
theorem dL_follows_254 : decode cL_follows 254 = .ok (.ifCond .eq 52, 3) := by decide +kernel
theorem dL_follows_257 : decode cL_follows 257 = .ok (.aload_n 0, 1) := by decide +kernel
theorem dL_follows_258 : decode cL_follows 258 = .ok (.iload 6, 2) := by decide +kernel
theorem dL_follows_260 : decode cL_follows 260 = .ok (.ineg, 1) := by decide +kernel
theorem dL_follows_261 : decode cL_follows 261 = .ok (.iconst 0, 1) := by decide +kernel
theorem dL_follows_262 : decode cL_follows 262 = .ok (.lload 10, 2) := by decide +kernel
theorem dL_follows_264 : decode cL_follows 264 = .ok (.l2i, 1) := by decide +kernel
theorem dL_follows_265 : decode cL_follows 265 = .ok (.invokestatic 154, 3) := by decide +kernel
theorem dL_follows_268 : decode cL_follows 268 = .ok (.lconst 0, 1) := by decide +kernel
theorem dL_follows_269 : decode cL_follows 269 = .ok (.lcmp, 1) := by decide +kernel
theorem dL_follows_270 : decode cL_follows 270 = .ok (.ifCond .le 33, 3) := by decide +kernel
theorem dL_follows_273 : decode cL_follows 273 = .ok (.aload_n 0, 1) := by decide +kernel
theorem dL_follows_274 : decode cL_follows 274 = .ok (.iload 5, 2) := by decide +kernel
theorem dL_follows_276 : decode cL_follows 276 = .ok (.iload 9, 2) := by decide +kernel
theorem dL_follows_278 : decode cL_follows 278 = .ok (.invokestatic 120, 3) := by decide +kernel
theorem dL_follows_281 : decode cL_follows 281 = .ok (.aload_n 0, 1) := by decide +kernel
theorem dL_follows_282 : decode cL_follows 282 = .ok (.iconst 3, 1) := by decide +kernel
theorem dL_follows_283 : decode cL_follows 283 = .ok (.invokestatic 112, 3) := by decide +kernel
theorem dL_follows_286 : decode cL_follows 286 = .ok (.lcmp, 1) := by decide +kernel
theorem dL_follows_287 : decode cL_follows 287 = .ok (.ifCond .ne 16, 3) := by decide +kernel
theorem dL_follows_290 : decode cL_follows 290 = .ok (.aload_n 0, 1) := by decide +kernel
theorem dL_follows_291 : decode cL_follows 291 = .ok (.invokestatic 194, 3) := by decide +kernel
theorem dL_follows_294 : decode cL_follows 294 = .ok (.lconst 0, 1) := by decide +kernel
theorem dL_follows_295 : decode cL_follows 295 = .ok (.lcmp, 1) := by decide +kernel
theorem dL_follows_296 : decode cL_follows 296 = .ok (.ifCond .lt 7, 3) := by decide +kernel
theorem dL_follows_299 : decode cL_follows 299 = .ok (.iconst 1, 1) := by decide +kernel
theorem dL_follows_300 : decode cL_follows 300 = .ok (.goto 4, 3) := by decide +kernel
theorem dL_follows_303 : decode cL_follows 303 = .ok (.iconst 0, 1) := by decide +kernel
theorem dL_follows_304 : decode cL_follows 304 = .ok (.istore 4, 2) := by decide +kernel
theorem dL_follows_306 : decode cL_follows 306 = .ok (.iload 4, 2) := by decide +kernel
theorem dL_follows_308 : decode cL_follows 308 = .ok (.ifCond .eq 46, 3) := by decide +kernel
theorem dL_follows_311 : decode cL_follows 311 = .ok (.lload 10, 2) := by decide +kernel
theorem dL_follows_313 : decode cL_follows 313 = .ok (.lconst 0, 1) := by decide +kernel
theorem dL_follows_314 : decode cL_follows 314 = .ok (.lcmp, 1) := by decide +kernel
theorem dL_follows_315 : decode cL_follows 315 = .ok (.ifCond .ne 16, 3) := by decide +kernel
theorem dL_follows_318 : decode cL_follows 318 = .ok (.aload_n 0, 1) := by decide +kernel
theorem dL_follows_319 : decode cL_follows 319 = .ok (.iload 5, 2) := by decide +kernel
theorem dL_follows_321 : decode cL_follows 321 = .ok (.iload 9, 2) := by decide +kernel
theorem dL_follows_323 : decode cL_follows 323 = .ok (.invokestatic 120, 3) := by decide +kernel
theorem dL_follows_326 : decode cL_follows 326 = .ok (.lconst 0, 1) := by decide +kernel
theorem dL_follows_327 : decode cL_follows 327 = .ok (.lcmp, 1) := by decide +kernel
theorem dL_follows_328 : decode cL_follows 328 = .ok (.ifCond .le 26, 3) := by decide +kernel
theorem dL_follows_331 : decode cL_follows 331 = .ok (.lload 7, 2) := by decide +kernel
theorem dL_follows_333 : decode cL_follows 333 = .ok (.lconst 0, 1) := by decide +kernel
theorem dL_follows_334 : decode cL_follows 334 = .ok (.lcmp, 1) := by decide +kernel
theorem dL_follows_335 : decode cL_follows 335 = .ok (.ifCond .ne 15, 3) := by decide +kernel
theorem dL_follows_338 : decode cL_follows 338 = .ok (.aload_n 0, 1) := by decide +kernel
theorem dL_follows_339 : decode cL_follows 339 = .ok (.iload 5, 2) := by decide +kernel
theorem dL_follows_341 : decode cL_follows 341 = .ok (.iconst 5, 1) := by decide +kernel
theorem dL_follows_342 : decode cL_follows 342 = .ok (.invokestatic 117, 3) := by decide +kernel
theorem dL_follows_345 : decode cL_follows 345 = .ok (.lconst 0, 1) := by decide +kernel
theorem dL_follows_346 : decode cL_follows 346 = .ok (.lcmp, 1) := by decide +kernel
theorem dL_follows_347 : decode cL_follows 347 = .ok (.ifCond .ne 7, 3) := by decide +kernel
theorem dL_follows_350 : decode cL_follows 350 = .ok (.iconst 1, 1) := by decide +kernel
theorem dL_follows_351 : decode cL_follows 351 = .ok (.goto 4, 3) := by decide +kernel
theorem dL_follows_354 : decode cL_follows 354 = .ok (.iconst 0, 1) := by decide +kernel
theorem dL_follows_355 : decode cL_follows 355 = .ok (.istore 4, 2) := by decide +kernel
theorem dL_follows_357 : decode cL_follows 357 = .ok (.iconst 1, 1) := by decide +kernel
theorem dL_follows_358 : decode cL_follows 358 = .ok (.iload_n 1, 1) := by decide +kernel
theorem dL_follows_359 : decode cL_follows 359 = .ok (.bipush 9, 2) := by decide +kernel
theorem dL_follows_361 : decode cL_follows 361 = .ok (.irem, 1) := by decide +kernel
theorem dL_follows_362 : decode cL_follows 362 = .ok (.iadd, 1) := by decide +kernel
theorem dL_follows_363 : decode cL_follows 363 = .ok (.istore 12, 2) := by decide +kernel
theorem dL_follows_365 : decode cL_follows 365 = .ok (.aload_n 0, 1) := by decide +kernel
theorem dL_follows_366 : decode cL_follows 366 = .ok (.iload 5, 2) := by decide +kernel
theorem dL_follows_368 : decode cL_follows 368 = .ok (.iload 6, 2) := by decide +kernel
theorem dL_follows_370 : decode cL_follows 370 = .ok (.ineg, 1) := by decide +kernel
theorem dL_follows_371 : decode cL_follows 371 = .ok (.iconst 3, 1) := by decide +kernel
theorem dL_follows_372 : decode cL_follows 372 = .ok (.iload 12, 2) := by decide +kernel
theorem dL_follows_374 : decode cL_follows 374 = .ok (.invokestatic 147, 3) := by decide +kernel
theorem dL_follows_377 : decode cL_follows 377 = .ok (.l2i, 1) := by decide +kernel
theorem dL_follows_378 : decode cL_follows 378 = .ok (.istore 13, 2) := by decide +kernel
theorem dL_follows_380 : decode cL_follows 380 = .ok (.aload_n 0, 1) := by decide +kernel
theorem dL_follows_381 : decode cL_follows 381 = .ok (.iload 5, 2) := by decide +kernel
theorem dL_follows_383 : decode cL_follows 383 = .ok (.iload 13, 2) := by decide +kernel
theorem dL_follows_385 : decode cL_follows 385 = .ok (.invokestatic 141, 3) := by decide +kernel
theorem dL_follows_388 : decode cL_follows 388 = .ok (.lstore 14, 2) := by decide +kernel
theorem dL_follows_390 : decode cL_follows 390 = .ok (.iload 4, 2) := by decide +kernel
theorem dL_follows_392 : decode cL_follows 392 = .ok (.ifCond .eq 35, 3) := by decide +kernel
theorem dL_follows_395 : decode cL_follows 395 = .ok (.iload 13, 2) := by decide +kernel
theorem dL_follows_397 : decode cL_follows 397 = .ok (.i2l, 1) := by decide +kernel
theorem dL_follows_398 : decode cL_follows 398 = .ok (.lconst 0, 1) := by decide +kernel
theorem dL_follows_399 : decode cL_follows 399 = .ok (.ldc2_w 196, 3) := by decide +kernel
theorem dL_follows_402 : decode cL_follows 402 = .ok (.invokestatic 183, 3) := by decide +kernel
theorem dL_follows_405 : decode cL_follows 405 = .ok (.ifCond .eq 22, 3) := by decide +kernel
theorem dL_follows_408 : decode cL_follows 408 = .ok (.aload_n 0, 1) := by decide +kernel
theorem dL_follows_409 : decode cL_follows 409 = .ok (.iload 6, 2) := by decide +kernel
theorem dL_follows_411 : decode cL_follows 411 = .ok (.ineg, 1) := by decide +kernel
theorem dL_follows_412 : decode cL_follows 412 = .ok (.iconst 3, 1) := by decide +kernel
theorem dL_follows_413 : decode cL_follows 413 = .ok (.iload 12, 2) := by decide +kernel
theorem dL_follows_415 : decode cL_follows 415 = .ok (.invokestatic 154, 3) := by decide +kernel
theorem dL_follows_418 : decode cL_follows 418 = .ok (.lconst 0, 1) := by decide +kernel
theorem dL_follows_419 : decode cL_follows 419 = .ok (.lcmp, 1) := by decide +kernel
theorem dL_follows_420 : decode cL_follows 420 = .ok (.ifCond .lt 7, 3) := by decide +kernel
theorem dL_follows_423 : decode cL_follows 423 = .ok (.iconst 1, 1) := by decide +kernel
theorem dL_follows_424 : decode cL_follows 424 = .ok (.goto 4, 3) := by decide +kernel
