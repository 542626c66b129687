theorem dL_law_499 : decode cL_law 499 = .ok (.iadd, 1) := by decide +kernel
theorem dL_law_500 : decode cL_law 500 = .ok (.sipush 9999, 3) := by decide +kernel
theorem dL_law_503 : decode cL_law 503 = .ok (.iastore, 1) := by decide +kernel
theorem dL_law_504 : decode cL_law 504 = .ok (.iinc 14 1, 3) := by decide +kernel
theorem dL_law_507 : decode cL_law 507 = .ok (.goto 2053, 3) := by decide +kernel
theorem dL_law_510 : decode cL_law 510 = .ok (.iload 22, 2) := by decide +kernel
theorem dL_law_512 : decode cL_law 512 = .ok (.iconst 2, 1) := by decide +kernel
theorem dL_law_513 : decode cL_law 513 = .ok (.if_icmp .ne 103, 3) := by decide +kernel
theorem dL_law_516 : decode cL_law 516 = .ok (.iconst (-1), 1) := by decide +kernel
theorem dL_law_517 : decode cL_law 517 = .ok (.istore 26, 2) := by decide +kernel
theorem dL_law_519 : decode cL_law 519 = .ok (.iconst 0, 1) := by decide +kernel
theorem dL_law_520 : decode cL_law 520 = .ok (.istore 27, 2) := by decide +kernel
theorem dL_law_522 : decode cL_law 522 = .ok (.iload 27, 2) := by decide +kernel
theorem dL_law_524 : decode cL_law 524 = .ok (.iload 14, 2) := by decide +kernel
theorem dL_law_526 : decode cL_law 526 = .ok (.if_icmp .ge 38, 3) := by decide +kernel
theorem dL_law_529 : decode cL_law 529 = .ok (.aload_n 2, 1) := by decide +kernel
theorem dL_law_530 : decode cL_law 530 = .ok (.iconst 3, 1) := by decide +kernel
theorem dL_law_531 : decode cL_law 531 = .ok (.iload 27, 2) := by decide +kernel
theorem dL_law_533 : decode cL_law 533 = .ok (.imul, 1) := by decide +kernel
theorem dL_law_534 : decode cL_law 534 = .ok (.iaload, 1) := by decide +kernel
theorem dL_law_535 : decode cL_law 535 = .ok (.iload 24, 2) := by decide +kernel
theorem dL_law_537 : decode cL_law 537 = .ok (.if_icmp .ne 21, 3) := by decide +kernel
theorem dL_law_540 : decode cL_law 540 = .ok (.aload_n 2, 1) := by decide +kernel
theorem dL_law_541 : decode cL_law 541 = .ok (.iconst 3, 1) := by decide +kernel
theorem dL_law_542 : decode cL_law 542 = .ok (.iload 27, 2) := by decide +kernel
theorem dL_law_544 : decode cL_law 544 = .ok (.imul, 1) := by decide +kernel
theorem dL_law_545 : decode cL_law 545 = .ok (.iconst 2, 1) := by decide +kernel
theorem dL_law_546 : decode cL_law 546 = .ok (.iadd, 1) := by decide +kernel
theorem dL_law_547 : decode cL_law 547 = .ok (.iaload, 1) := by decide +kernel
theorem dL_law_548 : decode cL_law 548 = .ok (.sipush 9999, 3) := by decide +kernel
theorem dL_law_551 : decode cL_law 551 = .ok (.if_icmp .ne 7, 3) := by decide +kernel
theorem dL_law_554 : decode cL_law 554 = .ok (.iload 27, 2) := by decide +kernel
theorem dL_law_556 : decode cL_law 556 = .ok (.istore 26, 2) := by decide +kernel
theorem dL_law_558 : decode cL_law 558 = .ok (.iinc 27 1, 3) := by decide +kernel
theorem dL_law_561 : decode cL_law 561 = .ok (.goto (-39), 3) := by decide +kernel
theorem dL_law_564 : decode cL_law 564 = .ok (.aload_n 1, 1) := by decide +kernel
theorem dL_law_565 : decode cL_law 565 = .ok (.iconst 3, 1) := by decide +kernel
theorem dL_law_566 : decode cL_law 566 = .ok (.iload 24, 2) := by decide +kernel
theorem dL_law_568 : decode cL_law 568 = .ok (.iconst 0, 1) := by decide +kernel
theorem dL_law_569 : decode cL_law 569 = .ok (.invokestatic 74, 3) := by decide +kernel
theorem dL_law_572 : decode cL_law 572 = .ok (.iload 26, 2) := by decide +kernel
theorem dL_law_574 : decode cL_law 574 = .ok (.ifCond .ge 8, 3) := by decide +kernel
theorem dL_law_577 : decode cL_law 577 = .ok (.bipush (-9), 2) := by decide +kernel
theorem dL_law_579 : decode cL_law 579 = .ok (.goto 14, 3) := by decide +kernel
theorem dL_law_582 : decode cL_law 582 = .ok (.iload 17, 2) := by decide +kernel
theorem dL_law_584 : decode cL_law 584 = .ok (.aload_n 2, 1) := by decide +kernel
theorem dL_law_585 : decode cL_law 585 = .ok (.iconst 3, 1) := by decide +kernel
theorem dL_law_586 : decode cL_law 586 = .ok (.iload 26, 2) := by decide +kernel
theorem dL_law_588 : decode cL_law 588 = .ok (.imul, 1) := by decide +kernel
theorem dL_law_589 : decode cL_law 589 = .ok (.iconst 1, 1) := by decide +kernel
theorem dL_law_590 : decode cL_law 590 = .ok (.iadd, 1) := by decide +kernel
theorem dL_law_591 : decode cL_law 591 = .ok (.iaload, 1) := by decide +kernel
theorem dL_law_592 : decode cL_law 592 = .ok (.isub, 1) := by decide +kernel
theorem dL_law_593 : decode cL_law 593 = .ok (.if_icmp .eq 5, 3) := by decide +kernel
theorem dL_law_596 : decode cL_law 596 = .ok (.iconst 0, 1) := by decide +kernel
theorem dL_law_597 : decode cL_law 597 = .ok (.ireturn, 1) := by decide +kernel
theorem dL_law_598 : decode cL_law 598 = .ok (.iload 26, 2) := by decide +kernel
theorem dL_law_600 : decode cL_law 600 = .ok (.ifCond .lt 13, 3) := by decide +kernel
theorem dL_law_603 : decode cL_law 603 = .ok (.aload_n 2, 1) := by decide +kernel
theorem dL_law_604 : decode cL_law 604 = .ok (.iconst 3, 1) := by decide +kernel
theorem dL_law_605 : decode cL_law 605 = .ok (.iload 26, 2) := by decide +kernel
theorem dL_law_607 : decode cL_law 607 = .ok (.imul, 1) := by decide +kernel
theorem dL_law_608 : decode cL_law 608 = .ok (.iconst 2, 1) := by decide +kernel
theorem dL_law_609 : decode cL_law 609 = .ok (.iadd, 1) := by decide +kernel
theorem dL_law_610 : decode cL_law 610 = .ok (.iload 17, 2) := by decide +kernel
theorem dL_law_612 : decode cL_law 612 = .ok (.iastore, 1) := by decide +kernel
theorem dL_law_613 : decode cL_law 613 = .ok (.goto 1947, 3) := by decide +kernel
theorem dL_law_616 : decode cL_law 616 = .ok (.iload 22, 2) := by decide +kernel
theorem dL_law_618 : decode cL_law 618 = .ok (.iconst 5, 1) := by decide +kernel
theorem dL_law_619 : decode cL_law 619 = .ok (.if_icmp .ge 283, 3) := by decide +kernel
theorem dL_law_622 : decode cL_law 622 = .ok (.iload 15, 2) := by decide +kernel
theorem dL_law_624 : decode cL_law 624 = .ok (.bipush 10, 2) := by decide +kernel
theorem dL_law_626 : decode cL_law 626 = .ok (.if_icmp .ge 276, 3) := by decide +kernel
theorem dL_law_629 : decode cL_law 629 = .ok (.iload 21, 2) := by decide +kernel
theorem dL_law_631 : decode cL_law 631 = .ok (.iload 17, 2) := by decide +kernel
theorem dL_law_633 : decode cL_law 633 = .ok (.iconst 1, 1) := by decide +kernel
theorem dL_law_634 : decode cL_law 634 = .ok (.iadd, 1) := by decide +kernel
theorem dL_law_635 : decode cL_law 635 = .ok (.invokestatic 68, 3) := by decide +kernel
theorem dL_law_638 : decode cL_law 638 = .ok (.istore 26, 2) := by decide +kernel
theorem dL_law_640 : decode cL_law 640 = .ok (.iload 21, 2) := by decide +kernel
theorem dL_law_642 : decode cL_law 642 = .ok (.bipush 9, 2) := by decide +kernel
theorem dL_law_644 : decode cL_law 644 = .ok (.ishr, 1) := by decide +kernel
theorem dL_law_645 : decode cL_law 645 = .ok (.iload 21, 2) := by decide +kernel
theorem dL_law_647 : decode cL_law 647 = .ok (.bipush 8, 2) := by decide +kernel
theorem dL_law_649 : decode cL_law 649 = .ok (.ishr, 1) := by decide +kernel
theorem dL_law_650 : decode cL_law 650 = .ok (.iconst 2, 1) := by decide +kernel
theorem dL_law_651 : decode cL_law 651 = .ok (.invokestatic 68, 3) := by decide +kernel
theorem dL_law_654 : decode cL_law 654 = .ok (.ifCond .ne 9, 3) := by decide +kernel
theorem dL_law_657 : decode cL_law 657 = .ok (.sipush 1000, 3) := by decide +kernel
theorem dL_law_660 : decode cL_law 660 = .ok (.goto 5, 3) := by decide +kernel
theorem dL_law_663 : decode cL_law 663 = .ok (.ldc 78, 2) := by decide +kernel
theorem dL_law_665 : decode cL_law 665 = .ok (.invokestatic 68, 3) := by decide +kernel
theorem dL_law_668 : decode cL_law 668 = .ok (.istore 27, 2) := by decide +kernel
theorem dL_law_670 : decode cL_law 670 = .ok (.iload 16, 2) := by decide +kernel
theorem dL_law_672 : decode cL_law 672 = .ok (.ifCond .eq 14, 3) := by decide +kernel
theorem dL_law_675 : decode cL_law 675 = .ok (.iload 21, 2) := by decide +kernel
theorem dL_law_677 : decode cL_law 677 = .ok (.iconst 5, 1) := by decide +kernel
theorem dL_law_678 : decode cL_law 678 = .ok (.ishr, 1) := by decide +kernel
theorem dL_law_679 : decode cL_law 679 = .ok (.iconst 2, 1) := by decide +kernel
theorem dL_law_680 : decode cL_law 680 = .ok (.invokestatic 68, 3) := by decide +kernel
theorem dL_law_683 : decode cL_law 683 = .ok (.ifCond .ne 7, 3) := by decide +kernel
theorem dL_law_686 : decode cL_law 686 = .ok (.iconst (-1), 1) := by decide +kernel
theorem dL_law_687 : decode cL_law 687 = .ok (.goto 13, 3) := by decide +kernel
theorem dL_law_690 : decode cL_law 690 = .ok (.iload 21, 2) := by decide +kernel
theorem dL_law_692 : decode cL_law 692 = .ok (.bipush 6, 2) := by decide +kernel
theorem dL_law_694 : decode cL_law 694 = .ok (.ishr, 1) := by decide +kernel
theorem dL_law_695 : decode cL_law 695 = .ok (.iload 16, 2) := by decide +kernel
theorem dL_law_697 : decode cL_law 697 = .ok (.invokestatic 68, 3) := by decide +kernel
theorem dL_law_700 : decode cL_law 700 = .ok (.istore 28, 2) := by decide +kernel
theorem dL_law_702 : decode cL_law 702 = .ok (.iconst 0, 1) := by decide +kernel
theorem dL_law_703 : decode cL_law 703 = .ok (.istore 29, 2) := by decide +kernel
theorem dL_law_705 : decode cL_law 705 = .ok (.iload 29, 2) := by decide +kernel
theorem dL_law_707 : decode cL_law 707 = .ok (.iload 15, 2) := by decide +kernel
theorem dL_law_709 : decode cL_law 709 = .ok (.if_icmp .ge 41, 3) := by decide +kernel
theorem dL_law_712 : decode cL_law 712 = .ok (.iload 28, 2) := by decide +kernel
theorem dL_law_714 : decode cL_law 714 = .ok (.ifCond .lt 30, 3) := by decide +kernel
theorem dL_law_717 : decode cL_law 717 = .ok (.aload 5, 2) := by decide +kernel
theorem dL_law_719 : decode cL_law 719 = .ok (.bipush 6, 2) := by decide +kernel
theorem dL_law_721 : decode cL_law 721 = .ok (.iload 29, 2) := by decide +kernel
theorem dL_law_723 : decode cL_law 723 = .ok (.imul, 1) := by decide +kernel
theorem dL_law_724 : decode cL_law 724 = .ok (.iconst 4, 1) := by decide +kernel
theorem dL_law_725 : decode cL_law 725 = .ok (.iadd, 1) := by decide +kernel
theorem dL_law_726 : decode cL_law 726 = .ok (.iaload, 1) := by decide +kernel
theorem dL_law_727 : decode cL_law 727 = .ok (.iload 28, 2) := by decide +kernel
theorem dL_law_729 : decode cL_law 729 = .ok (.if_icmp .ne 15, 3) := by decide +kernel
theorem dL_law_732 : decode cL_law 732 = .ok (.aload 5, 2) := by decide +kernel
theorem dL_law_734 : decode cL_law 734 = .ok (.bipush 6, 2) := by decide +kernel
theorem dL_law_736 : decode cL_law 736 = .ok (.iload 29, 2) := by decide +kernel
theorem dL_law_738 : decode cL_law 738 = .ok (.imul, 1) := by decide +kernel
theorem dL_law_739 : decode cL_law 739 = .ok (.iconst 2, 1) := by decide +kernel
theorem dL_law_740 : decode cL_law 740 = .ok (.iadd, 1) := by decide +kernel
theorem dL_law_741 : decode cL_law 741 = .ok (.iaload, 1) := by decide +kernel
theorem dL_law_742 : decode cL_law 742 = .ok (.istore 26, 2) := by decide +kernel
theorem dL_law_744 : decode cL_law 744 = .ok (.iinc 29 1, 3) := by decide +kernel
theorem dL_law_747 : decode cL_law 747 = .ok (.goto (-42), 3) := by decide +kernel
theorem dL_law_750 : decode cL_law 750 = .ok (.iload 26, 2) := by decide +kernel
theorem dL_law_752 : decode cL_law 752 = .ok (.bipush 100, 2) := by decide +kernel
theorem dL_law_754 : decode cL_law 754 = .ok (.idiv, 1) := by decide +kernel
theorem dL_law_755 : decode cL_law 755 = .ok (.aload 10, 2) := by decide +kernel
theorem dL_law_757 : decode cL_law 757 = .ok (.bipush 12, 2) := by decide +kernel
theorem dL_law_759 : decode cL_law 759 = .ok (.iaload, 1) := by decide +kernel
theorem dL_law_760 : decode cL_law 760 = .ok (.if_icmp .lt 139, 3) := by decide +kernel
theorem dL_law_763 : decode cL_law 763 = .ok (.aload 5, 2) := by decide +kernel
theorem dL_law_765 : decode cL_law 765 = .ok (.bipush 6, 2) := by decide +kernel
theorem dL_law_767 : decode cL_law 767 = .ok (.iload 15, 2) := by decide +kernel
theorem dL_law_769 : decode cL_law 769 = .ok (.imul, 1) := by decide +kernel
theorem dL_law_770 : decode cL_law 770 = .ok (.iload 24, 2) := by decide +kernel
theorem dL_law_772 : decode cL_law 772 = .ok (.iastore, 1) := by decide +kernel
theorem dL_law_773 : decode cL_law 773 = .ok (.aload 5, 2) := by decide +kernel
theorem dL_law_775 : decode cL_law 775 = .ok (.bipush 6, 2) := by decide +kernel
theorem dL_law_777 : decode cL_law 777 = .ok (.iload 15, 2) := by decide +kernel
theorem dL_law_779 : decode cL_law 779 = .ok (.imul, 1) := by decide +kernel
theorem dL_law_780 : decode cL_law 780 = .ok (.iconst 1, 1) := by decide +kernel
theorem dL_law_781 : decode cL_law 781 = .ok (.iadd, 1) := by decide +kernel
theorem dL_law_782 : decode cL_law 782 = .ok (.iload 20, 2) := by decide +kernel
theorem dL_law_784 : decode cL_law 784 = .ok (.bipush 12, 2) := by decide +kernel
theorem dL_law_786 : decode cL_law 786 = .ok (.ishr, 1) := by decide +kernel
theorem dL_law_787 : decode cL_law 787 = .ok (.iconst 4, 1) := by decide +kernel
theorem dL_law_788 : decode cL_law 788 = .ok (.invokestatic 68, 3) := by decide +kernel
theorem dL_law_791 : decode cL_law 791 = .ok (.iastore, 1) := by decide +kernel
theorem dL_law_792 : decode cL_law 792 = .ok (.aload 5, 2) := by decide +kernel
theorem dL_law_794 : decode cL_law 794 = .ok (.bipush 6, 2) := by decide +kernel
theorem dL_law_796 : decode cL_law 796 = .ok (.iload 15, 2) := by decide +kernel
theorem dL_law_798 : decode cL_law 798 = .ok (.imul, 1) := by decide +kernel
theorem dL_law_799 : decode cL_law 799 = .ok (.iconst 2, 1) := by decide +kernel
theorem dL_law_800 : decode cL_law 800 = .ok (.iadd, 1) := by decide +kernel
theorem dL_law_801 : decode cL_law 801 = .ok (.iload 26, 2) := by decide +kernel
theorem dL_law_803 : decode cL_law 803 = .ok (.iastore, 1) := by decide +kernel
theorem dL_law_804 : decode cL_law 804 = .ok (.aload 5, 2) := by decide +kernel
theorem dL_law_806 : decode cL_law 806 = .ok (.bipush 6, 2) := by decide +kernel
theorem dL_law_808 : decode cL_law 808 = .ok (.iload 15, 2) := by decide +kernel
theorem dL_law_810 : decode cL_law 810 = .ok (.imul, 1) := by decide +kernel
theorem dL_law_811 : decode cL_law 811 = .ok (.iconst 3, 1) := by decide +kernel
theorem dL_law_812 : decode cL_law 812 = .ok (.iadd, 1) := by decide +kernel
theorem dL_law_813 : decode cL_law 813 = .ok (.iload 27, 2) := by decide +kernel
theorem dL_law_815 : decode cL_law 815 = .ok (.iastore, 1) := by decide +kernel
theorem dL_law_816 : decode cL_law 816 = .ok (.aload 5, 2) := by decide +kernel
theorem dL_law_818 : decode cL_law 818 = .ok (.bipush 6, 2) := by decide +kernel
theorem dL_law_820 : decode cL_law 820 = .ok (.iload 15, 2) := by decide +kernel
theorem dL_law_822 : decode cL_law 822 = .ok (.imul, 1) := by decide +kernel
theorem dL_law_823 : decode cL_law 823 = .ok (.iconst 4, 1) := by decide +kernel
theorem dL_law_824 : decode cL_law 824 = .ok (.iadd, 1) := by decide +kernel
theorem dL_law_825 : decode cL_law 825 = .ok (.iload 28, 2) := by decide +kernel
theorem dL_law_827 : decode cL_law 827 = .ok (.ifCond .ge 8, 3) := by decide +kernel
theorem dL_law_830 : decode cL_law 830 = .ok (.iload 16, 2) := by decide +kernel
theorem dL_law_832 : decode cL_law 832 = .ok (.goto 5, 3) := by decide +kernel
theorem dL_law_835 : decode cL_law 835 = .ok (.iload 28, 2) := by decide +kernel
theorem dL_law_837 : decode cL_law 837 = .ok (.iastore, 1) := by decide +kernel
theorem dL_law_838 : decode cL_law 838 = .ok (.iload 28, 2) := by decide +kernel
theorem dL_law_840 : decode cL_law 840 = .ok (.ifCond .ge 6, 3) := by decide +kernel
theorem dL_law_843 : decode cL_law 843 = .ok (.iinc 16 1, 3) := by decide +kernel
theorem dL_law_846 : decode cL_law 846 = .ok (.aload_n 1, 1) := by decide +kernel
theorem dL_law_847 : decode cL_law 847 = .ok (.iload 24, 2) := by decide +kernel
theorem dL_law_849 : decode cL_law 849 = .ok (.iload 20, 2) := by decide +kernel
theorem dL_law_851 : decode cL_law 851 = .ok (.bipush 12, 2) := by decide +kernel
theorem dL_law_853 : decode cL_law 853 = .ok (.ishr, 1) := by decide +kernel
theorem dL_law_854 : decode cL_law 854 = .ok (.iconst 4, 1) := by decide +kernel
theorem dL_law_855 : decode cL_law 855 = .ok (.invokestatic 68, 3) := by decide +kernel
theorem dL_law_858 : decode cL_law 858 = .ok (.iload 26, 2) := by decide +kernel
theorem dL_law_860 : decode cL_law 860 = .ok (.iload 27, 2) := by decide +kernel
theorem dL_law_862 : decode cL_law 862 = .ok (.iload 28, 2) := by decide +kernel
theorem dL_law_864 : decode cL_law 864 = .ok (.invokevirtual 79, 3) := by decide +kernel
theorem dL_law_867 : decode cL_law 867 = .ok (.iload 15, 2) := by decide +kernel
theorem dL_law_869 : decode cL_law 869 = .ok (.if_icmp .ne 25, 3) := by decide +kernel
theorem dL_law_872 : decode cL_law 872 = .ok (.aload_n 1, 1) := by decide +kernel
theorem dL_law_873 : decode cL_law 873 = .ok (.iload 15, 2) := by decide +kernel
theorem dL_law_875 : decode cL_law 875 = .ok (.iconst 1, 1) := by decide +kernel
theorem dL_law_876 : decode cL_law 876 = .ok (.invokevirtual 83, 3) := by decide +kernel
theorem dL_law_879 : decode cL_law 879 = .ok (.aload 5, 2) := by decide +kernel
theorem dL_law_881 : decode cL_law 881 = .ok (.bipush 6, 2) := by decide +kernel
theorem dL_law_883 : decode cL_law 883 = .ok (.iload 15, 2) := by decide +kernel
theorem dL_law_885 : decode cL_law 885 = .ok (.imul, 1) := by decide +kernel
theorem dL_law_886 : decode cL_law 886 = .ok (.iconst 4, 1) := by decide +kernel
theorem dL_law_887 : decode cL_law 887 = .ok (.iadd, 1) := by decide +kernel
theorem dL_law_888 : decode cL_law 888 = .ok (.iaload, 1) := by decide +kernel
theorem dL_law_889 : decode cL_law 889 = .ok (.i2l, 1) := by decide +kernel
theorem dL_law_890 : decode cL_law 890 = .ok (.lcmp, 1) := by decide +kernel
theorem dL_law_891 : decode cL_law 891 = .ok (.ifCond .eq 5, 3) := by decide +kernel
theorem dL_law_894 : decode cL_law 894 = .ok (.iconst 0, 1) := by decide +kernel
theorem dL_law_895 : decode cL_law 895 = .ok (.ireturn, 1) := by decide +kernel
theorem dL_law_896 : decode cL_law 896 = .ok (.iinc 15 1, 3) := by decide +kernel
theorem dL_law_899 : decode cL_law 899 = .ok (.goto 1661, 3) := by decide +kernel
theorem dL_law_902 : decode cL_law 902 = .ok (.iload 22, 2) := by decide +kernel
theorem dL_law_904 : decode cL_law 904 = .ok (.iconst 5, 1) := by decide +kernel
theorem dL_law_905 : decode cL_law 905 = .ok (.if_icmp .ne 203, 3) := by decide +kernel
theorem dL_law_908 : decode cL_law 908 = .ok (.iload 15, 2) := by decide +kernel
theorem dL_law_910 : decode cL_law 910 = .ok (.ifCond .le 198, 3) := by decide +kernel
theorem dL_law_913 : decode cL_law 913 = .ok (.iload 21, 2) := by decide +kernel
theorem dL_law_915 : decode cL_law 915 = .ok (.iload 15, 2) := by decide +kernel
theorem dL_law_917 : decode cL_law 917 = .ok (.invokestatic 68, 3) := by decide +kernel
theorem dL_law_920 : decode cL_law 920 = .ok (.istore 26, 2) := by decide +kernel
theorem dL_law_922 : decode cL_law 922 = .ok (.aload 5, 2) := by decide +kernel
theorem dL_law_924 : decode cL_law 924 = .ok (.bipush 6, 2) := by decide +kernel
theorem dL_law_926 : decode cL_law 926 = .ok (.iload 26, 2) := by decide +kernel
theorem dL_law_928 : decode cL_law 928 = .ok (.imul, 1) := by decide +kernel
theorem dL_law_929 : decode cL_law 929 = .ok (.iconst 5, 1) := by decide +kernel
theorem dL_law_930 : decode cL_law 930 = .ok (.iadd, 1) := by decide +kernel
theorem dL_law_931 : decode cL_law 931 = .ok (.iaload, 1) := by decide +kernel
theorem dL_law_932 : decode cL_law 932 = .ok (.iconst 1, 1) := by decide +kernel
theorem dL_law_933 : decode cL_law 933 = .ok (.iand, 1) := by decide +kernel
theorem dL_law_934 : decode cL_law 934 = .ok (.ifCond .ne 171, 3) := by decide +kernel
theorem dL_law_937 : decode cL_law 937 = .ok (.iload 21, 2) := by decide +kernel
theorem dL_law_939 : decode cL_law 939 = .ok (.iconst 4, 1) := by decide +kernel
theorem dL_law_940 : decode cL_law 940 = .ok (.ishr, 1) := by decide +kernel
theorem dL_law_941 : decode cL_law 941 = .ok (.iconst 3, 1) := by decide +kernel
theorem dL_law_942 : decode cL_law 942 = .ok (.invokestatic 68, 3) := by decide +kernel
theorem dL_law_945 : decode cL_law 945 = .ok (.ifCond .ne 41, 3) := by decide +kernel
theorem dL_law_948 : decode cL_law 948 = .ok (.aload 5, 2) := by decide +kernel
theorem dL_law_950 : decode cL_law 950 = .ok (.bipush 6, 2) := by decide +kernel
theorem dL_law_952 : decode cL_law 952 = .ok (.iload 26, 2) := by decide +kernel
theorem dL_law_954 : decode cL_law 954 = .ok (.imul, 1) := by decide +kernel
theorem dL_law_955 : decode cL_law 955 = .ok (.iconst 5, 1) := by decide +kernel
theorem dL_law_956 : decode cL_law 956 = .ok (.iadd, 1) := by decide +kernel
theorem dL_law_957 : decode cL_law 957 = .ok (.iaload, 1) := by decide +kernel
theorem dL_law_958 : decode cL_law 958 = .ok (.iconst 2, 1) := by decide +kernel
theorem dL_law_959 : decode cL_law 959 = .ok (.iand, 1) := by decide +kernel
theorem dL_law_960 : decode cL_law 960 = .ok (.ifCond .ne 26, 3) := by decide +kernel
theorem dL_law_963 : decode cL_law 963 = .ok (.aload_n 1, 1) := by decide +kernel
theorem dL_law_964 : decode cL_law 964 = .ok (.iload 26, 2) := by decide +kernel
theorem dL_law_966 : decode cL_law 966 = .ok (.invokevirtual 87, 3) := by decide +kernel
theorem dL_law_969 : decode cL_law 969 = .ok (.aload 5, 2) := by decide +kernel
theorem dL_law_971 : decode cL_law 971 = .ok (.bipush 6, 2) := by decide +kernel
theorem dL_law_973 : decode cL_law 973 = .ok (.iload 26, 2) := by decide +kernel
theorem dL_law_975 : decode cL_law 975 = .ok (.imul, 1) := by decide +kernel
theorem dL_law_976 : decode cL_law 976 = .ok (.iconst 5, 1) := by decide +kernel
theorem dL_law_977 : decode cL_law 977 = .ok (.iadd, 1) := by decide +kernel
theorem dL_law_978 : decode cL_law 978 = .ok (.dup2, 1) := by decide +kernel
theorem dL_law_979 : decode cL_law 979 = .ok (.iaload, 1) := by decide +kernel
theorem dL_law_980 : decode cL_law 980 = .ok (.iconst 2, 1) := by decide +kernel
theorem dL_law_981 : decode cL_law 981 = .ok (.ior, 1) := by decide +kernel
theorem dL_law_982 : decode cL_law 982 = .ok (.iastore, 1) := by decide +kernel
theorem dL_law_983 : decode cL_law 983 = .ok (.goto 122, 3) := by decide +kernel
theorem dL_law_986 : decode cL_law 986 = .ok (.iload 21, 2) := by decide +kernel
theorem dL_law_988 : decode cL_law 988 = .ok (.iconst 4, 1) := by decide +kernel
theorem dL_law_989 : decode cL_law 989 = .ok (.ishr, 1) := by decide +kernel
