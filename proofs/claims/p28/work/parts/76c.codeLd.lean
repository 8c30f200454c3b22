theorem dL_law_500 : decode cL_law 500 = .ok (.iload 10, 2) := by decide +kernel
theorem dL_law_502 : decode cL_law 502 = .ok (.iconst 5, 1) := by decide +kernel
theorem dL_law_503 : decode cL_law 503 = .ok (.invokevirtual 56, 3) := by decide +kernel
theorem dL_law_506 : decode cL_law 506 = .ok (.sipush (-1000), 3) := by decide +kernel
theorem dL_law_509 : decode cL_law 509 = .ok (.if_icmp .eq 5, 3) := by decide +kernel
theorem dL_law_512 : decode cL_law 512 = .ok (.iconst 0, 1) := by decide +kernel
theorem dL_law_513 : decode cL_law 513 = .ok (.ireturn, 1) := by decide +kernel
theorem dL_law_514 : decode cL_law 514 = .ok (.aload_n 3, 1) := by decide +kernel
theorem dL_law_515 : decode cL_law 515 = .ok (.iload 10, 2) := by decide +kernel
theorem dL_law_517 : decode cL_law 517 = .ok (.invokevirtual 53, 3) := by decide +kernel
theorem dL_law_520 : decode cL_law 520 = .ok (.ifCond .lt 30, 3) := by decide +kernel
theorem dL_law_523 : decode cL_law 523 = .ok (.aload_n 3, 1) := by decide +kernel
theorem dL_law_524 : decode cL_law 524 = .ok (.iload 10, 2) := by decide +kernel
theorem dL_law_526 : decode cL_law 526 = .ok (.aload_n 3, 1) := by decide +kernel
theorem dL_law_527 : decode cL_law 527 = .ok (.iload 10, 2) := by decide +kernel
theorem dL_law_529 : decode cL_law 529 = .ok (.invokevirtual 53, 3) := by decide +kernel
theorem dL_law_532 : decode cL_law 532 = .ok (.invokevirtual 56, 3) := by decide +kernel
theorem dL_law_535 : decode cL_law 535 = .ok (.iconst 1, 1) := by decide +kernel
theorem dL_law_536 : decode cL_law 536 = .ok (.if_icmp .lt 14, 3) := by decide +kernel
theorem dL_law_539 : decode cL_law 539 = .ok (.aload_n 3, 1) := by decide +kernel
theorem dL_law_540 : decode cL_law 540 = .ok (.iload 10, 2) := by decide +kernel
theorem dL_law_542 : decode cL_law 542 = .ok (.iconst 0, 1) := by decide +kernel
theorem dL_law_543 : decode cL_law 543 = .ok (.invokevirtual 56, 3) := by decide +kernel
theorem dL_law_546 : decode cL_law 546 = .ok (.iconst 1, 1) := by decide +kernel
theorem dL_law_547 : decode cL_law 547 = .ok (.if_icmp .eq 5, 3) := by decide +kernel
theorem dL_law_550 : decode cL_law 550 = .ok (.iconst 0, 1) := by decide +kernel
theorem dL_law_551 : decode cL_law 551 = .ok (.ireturn, 1) := by decide +kernel
theorem dL_law_552 : decode cL_law 552 = .ok (.iconst 0, 1) := by decide +kernel
theorem dL_law_553 : decode cL_law 553 = .ok (.istore 13, 2) := by decide +kernel
theorem dL_law_555 : decode cL_law 555 = .ok (.iload 13, 2) := by decide +kernel
theorem dL_law_557 : decode cL_law 557 = .ok (.bipush 6, 2) := by decide +kernel
theorem dL_law_559 : decode cL_law 559 = .ok (.if_icmp .ge 203, 3) := by decide +kernel
theorem dL_law_562 : decode cL_law 562 = .ok (.bipush 17, 2) := by decide +kernel
theorem dL_law_564 : decode cL_law 564 = .ok (.aload_n 2, 1) := by decide +kernel
theorem dL_law_565 : decode cL_law 565 = .ok (.bipush 126, 2) := by decide +kernel
theorem dL_law_567 : decode cL_law 567 = .ok (.invokevirtual 78, 3) := by decide +kernel
theorem dL_law_570 : decode cL_law 570 = .ok (.iadd, 1) := by decide +kernel
theorem dL_law_571 : decode cL_law 571 = .ok (.istore 14, 2) := by decide +kernel
theorem dL_law_573 : decode cL_law 573 = .ok (.aload_n 3, 1) := by decide +kernel
theorem dL_law_574 : decode cL_law 574 = .ok (.iload 10, 2) := by decide +kernel
theorem dL_law_576 : decode cL_law 576 = .ok (.iload 14, 2) := by decide +kernel
theorem dL_law_578 : decode cL_law 578 = .ok (.invokevirtual 72, 3) := by decide +kernel
theorem dL_law_581 : decode cL_law 581 = .ok (.istore 15, 2) := by decide +kernel
theorem dL_law_583 : decode cL_law 583 = .ok (.iload 14, 2) := by decide +kernel
theorem dL_law_585 : decode cL_law 585 = .ok (.bipush 16, 2) := by decide +kernel
theorem dL_law_587 : decode cL_law 587 = .ok (.idiv, 1) := by decide +kernel
theorem dL_law_588 : decode cL_law 588 = .ok (.iload 11, 2) := by decide +kernel
theorem dL_law_590 : decode cL_law 590 = .ok (.bipush 16, 2) := by decide +kernel
theorem dL_law_592 : decode cL_law 592 = .ok (.idiv, 1) := by decide +kernel
theorem dL_law_593 : decode cL_law 593 = .ok (.isub, 1) := by decide +kernel
theorem dL_law_594 : decode cL_law 594 = .ok (.invokestatic 81, 3) := by decide +kernel
theorem dL_law_597 : decode cL_law 597 = .ok (.iload 14, 2) := by decide +kernel
theorem dL_law_599 : decode cL_law 599 = .ok (.bipush 16, 2) := by decide +kernel
theorem dL_law_601 : decode cL_law 601 = .ok (.irem, 1) := by decide +kernel
theorem dL_law_602 : decode cL_law 602 = .ok (.iload 11, 2) := by decide +kernel
theorem dL_law_604 : decode cL_law 604 = .ok (.bipush 16, 2) := by decide +kernel
theorem dL_law_606 : decode cL_law 606 = .ok (.irem, 1) := by decide +kernel
theorem dL_law_607 : decode cL_law 607 = .ok (.isub, 1) := by decide +kernel
theorem dL_law_608 : decode cL_law 608 = .ok (.invokestatic 81, 3) := by decide +kernel
theorem dL_law_611 : decode cL_law 611 = .ok (.iadd, 1) := by decide +kernel
theorem dL_law_612 : decode cL_law 612 = .ok (.istore 16, 2) := by decide +kernel
theorem dL_law_614 : decode cL_law 614 = .ok (.iload 15, 2) := by decide +kernel
theorem dL_law_616 : decode cL_law 616 = .ok (.ifCond .lt 20, 3) := by decide +kernel
theorem dL_law_619 : decode cL_law 619 = .ok (.iload 15, 2) := by decide +kernel
theorem dL_law_621 : decode cL_law 621 = .ok (.iload 16, 2) := by decide +kernel
theorem dL_law_623 : decode cL_law 623 = .ok (.if_icmp .lt 44, 3) := by decide +kernel
theorem dL_law_626 : decode cL_law 626 = .ok (.aload_n 3, 1) := by decide +kernel
theorem dL_law_627 : decode cL_law 627 = .ok (.iload 14, 2) := by decide +kernel
theorem dL_law_629 : decode cL_law 629 = .ok (.invokevirtual 65, 3) := by decide +kernel
theorem dL_law_632 : decode cL_law 632 = .ok (.iconst 1, 1) := by decide +kernel
theorem dL_law_633 : decode cL_law 633 = .ok (.if_icmp .eq 34, 3) := by decide +kernel
theorem dL_law_636 : decode cL_law 636 = .ok (.aload_n 3, 1) := by decide +kernel
theorem dL_law_637 : decode cL_law 637 = .ok (.iload 11, 2) := by decide +kernel
theorem dL_law_639 : decode cL_law 639 = .ok (.iload 14, 2) := by decide +kernel
theorem dL_law_641 : decode cL_law 641 = .ok (.invokevirtual 68, 3) := by decide +kernel
theorem dL_law_644 : decode cL_law 644 = .ok (.aload_n 3, 1) := by decide +kernel
theorem dL_law_645 : decode cL_law 645 = .ok (.iload 14, 2) := by decide +kernel
theorem dL_law_647 : decode cL_law 647 = .ok (.iload 11, 2) := by decide +kernel
theorem dL_law_649 : decode cL_law 649 = .ok (.invokevirtual 68, 3) := by decide +kernel
theorem dL_law_652 : decode cL_law 652 = .ok (.if_icmp .ne 15, 3) := by decide +kernel
theorem dL_law_655 : decode cL_law 655 = .ok (.aload_n 3, 1) := by decide +kernel
theorem dL_law_656 : decode cL_law 656 = .ok (.iload 10, 2) := by decide +kernel
theorem dL_law_658 : decode cL_law 658 = .ok (.iload 10, 2) := by decide +kernel
theorem dL_law_660 : decode cL_law 660 = .ok (.invokevirtual 59, 3) := by decide +kernel
theorem dL_law_663 : decode cL_law 663 = .ok (.iconst 1, 1) := by decide +kernel
theorem dL_law_664 : decode cL_law 664 = .ok (.if_icmp .ge 5, 3) := by decide +kernel
theorem dL_law_667 : decode cL_law 667 = .ok (.iconst 0, 1) := by decide +kernel
theorem dL_law_668 : decode cL_law 668 = .ok (.ireturn, 1) := by decide +kernel
theorem dL_law_669 : decode cL_law 669 = .ok (.iload 15, 2) := by decide +kernel
theorem dL_law_671 : decode cL_law 671 = .ok (.ifCond .lt 85, 3) := by decide +kernel
theorem dL_law_674 : decode cL_law 674 = .ok (.aload_n 3, 1) := by decide +kernel
theorem dL_law_675 : decode cL_law 675 = .ok (.iload 14, 2) := by decide +kernel
theorem dL_law_677 : decode cL_law 677 = .ok (.invokevirtual 62, 3) := by decide +kernel
theorem dL_law_680 : decode cL_law 680 = .ok (.ifCond .lt 6, 3) := by decide +kernel
theorem dL_law_683 : decode cL_law 683 = .ok (.goto 73, 3) := by decide +kernel
theorem dL_law_686 : decode cL_law 686 = .ok (.iload 14, 2) := by decide +kernel
theorem dL_law_688 : decode cL_law 688 = .ok (.iload 13, 2) := by decide +kernel
theorem dL_law_690 : decode cL_law 690 = .ok (.iconst 4, 1) := by decide +kernel
theorem dL_law_691 : decode cL_law 691 = .ok (.irem, 1) := by decide +kernel
theorem dL_law_692 : decode cL_law 692 = .ok (.invokestatic 86, 3) := by decide +kernel
theorem dL_law_695 : decode cL_law 695 = .ok (.iadd, 1) := by decide +kernel
theorem dL_law_696 : decode cL_law 696 = .ok (.istore 17, 2) := by decide +kernel
theorem dL_law_698 : decode cL_law 698 = .ok (.aload_n 3, 1) := by decide +kernel
theorem dL_law_699 : decode cL_law 699 = .ok (.iload 17, 2) := by decide +kernel
theorem dL_law_701 : decode cL_law 701 = .ok (.invokevirtual 65, 3) := by decide +kernel
theorem dL_law_704 : decode cL_law 704 = .ok (.iconst 1, 1) := by decide +kernel
theorem dL_law_705 : decode cL_law 705 = .ok (.if_icmp .ne 6, 3) := by decide +kernel
theorem dL_law_708 : decode cL_law 708 = .ok (.goto 48, 3) := by decide +kernel
theorem dL_law_711 : decode cL_law 711 = .ok (.aload_n 3, 1) := by decide +kernel
theorem dL_law_712 : decode cL_law 712 = .ok (.iload 17, 2) := by decide +kernel
theorem dL_law_714 : decode cL_law 714 = .ok (.invokevirtual 65, 3) := by decide +kernel
theorem dL_law_717 : decode cL_law 717 = .ok (.ifCond .ne 7, 3) := by decide +kernel
theorem dL_law_720 : decode cL_law 720 = .ok (.iconst 1, 1) := by decide +kernel
theorem dL_law_721 : decode cL_law 721 = .ok (.goto 4, 3) := by decide +kernel
theorem dL_law_724 : decode cL_law 724 = .ok (.iconst 2, 1) := by decide +kernel
theorem dL_law_725 : decode cL_law 725 = .ok (.istore 18, 2) := by decide +kernel
theorem dL_law_727 : decode cL_law 727 = .ok (.aload_n 3, 1) := by decide +kernel
theorem dL_law_728 : decode cL_law 728 = .ok (.iload 10, 2) := by decide +kernel
theorem dL_law_730 : decode cL_law 730 = .ok (.iload 17, 2) := by decide +kernel
theorem dL_law_732 : decode cL_law 732 = .ok (.invokevirtual 72, 3) := by decide +kernel
theorem dL_law_735 : decode cL_law 735 = .ok (.ifCond .lt 19, 3) := by decide +kernel
theorem dL_law_738 : decode cL_law 738 = .ok (.aload_n 3, 1) := by decide +kernel
theorem dL_law_739 : decode cL_law 739 = .ok (.iload 10, 2) := by decide +kernel
theorem dL_law_741 : decode cL_law 741 = .ok (.iload 17, 2) := by decide +kernel
theorem dL_law_743 : decode cL_law 743 = .ok (.invokevirtual 72, 3) := by decide +kernel
theorem dL_law_746 : decode cL_law 746 = .ok (.iload 15, 2) := by decide +kernel
theorem dL_law_748 : decode cL_law 748 = .ok (.iload 18, 2) := by decide +kernel
theorem dL_law_750 : decode cL_law 750 = .ok (.iadd, 1) := by decide +kernel
theorem dL_law_751 : decode cL_law 751 = .ok (.if_icmp .le 5, 3) := by decide +kernel
theorem dL_law_754 : decode cL_law 754 = .ok (.iconst 0, 1) := by decide +kernel
theorem dL_law_755 : decode cL_law 755 = .ok (.ireturn, 1) := by decide +kernel
theorem dL_law_756 : decode cL_law 756 = .ok (.iinc 13 1, 3) := by decide +kernel
theorem dL_law_759 : decode cL_law 759 = .ok (.goto (-204), 3) := by decide +kernel
theorem dL_law_762 : decode cL_law 762 = .ok (.iinc 10 1, 3) := by decide +kernel
theorem dL_law_765 : decode cL_law 765 = .ok (.goto (-660), 3) := by decide +kernel
theorem dL_law_768 : decode cL_law 768 = .ok (.iload 9, 2) := by decide +kernel
theorem dL_law_770 : decode cL_law 770 = .ok (.aload_n 3, 1) := by decide +kernel
theorem dL_law_771 : decode cL_law 771 = .ok (.iconst 1, 1) := by decide +kernel
theorem dL_law_772 : decode cL_law 772 = .ok (.invokevirtual 38, 3) := by decide +kernel
theorem dL_law_775 : decode cL_law 775 = .ok (.aload_n 3, 1) := by decide +kernel
theorem dL_law_776 : decode cL_law 776 = .ok (.iconst 2, 1) := by decide +kernel
theorem dL_law_777 : decode cL_law 777 = .ok (.invokevirtual 38, 3) := by decide +kernel
theorem dL_law_780 : decode cL_law 780 = .ok (.iadd, 1) := by decide +kernel
theorem dL_law_781 : decode cL_law 781 = .ok (.if_icmp .ne 39, 3) := by decide +kernel
theorem dL_law_784 : decode cL_law 784 = .ok (.iload 7, 2) := by decide +kernel
theorem dL_law_786 : decode cL_law 786 = .ok (.ifCond .ge 7, 3) := by decide +kernel
theorem dL_law_789 : decode cL_law 789 = .ok (.iconst 1, 1) := by decide +kernel
theorem dL_law_790 : decode cL_law 790 = .ok (.goto 4, 3) := by decide +kernel
theorem dL_law_793 : decode cL_law 793 = .ok (.iconst 0, 1) := by decide +kernel
theorem dL_law_794 : decode cL_law 794 = .ok (.iload 9, 2) := by decide +kernel
theorem dL_law_796 : decode cL_law 796 = .ok (.ifCond .ne 7, 3) := by decide +kernel
theorem dL_law_799 : decode cL_law 799 = .ok (.iconst 1, 1) := by decide +kernel
theorem dL_law_800 : decode cL_law 800 = .ok (.goto 4, 3) := by decide +kernel
theorem dL_law_803 : decode cL_law 803 = .ok (.iconst 0, 1) := by decide +kernel
theorem dL_law_804 : decode cL_law 804 = .ok (.if_icmp .ne 16, 3) := by decide +kernel
theorem dL_law_807 : decode cL_law 807 = .ok (.aload_n 3, 1) := by decide +kernel
theorem dL_law_808 : decode cL_law 808 = .ok (.iconst 5, 1) := by decide +kernel
theorem dL_law_809 : decode cL_law 809 = .ok (.invokevirtual 38, 3) := by decide +kernel
theorem dL_law_812 : decode cL_law 812 = .ok (.aload_n 3, 1) := by decide +kernel
theorem dL_law_813 : decode cL_law 813 = .ok (.iconst 4, 1) := by decide +kernel
theorem dL_law_814 : decode cL_law 814 = .ok (.invokevirtual 38, 3) := by decide +kernel
theorem dL_law_817 : decode cL_law 817 = .ok (.if_icmp .le 5, 3) := by decide +kernel
theorem dL_law_820 : decode cL_law 820 = .ok (.iconst 0, 1) := by decide +kernel
theorem dL_law_821 : decode cL_law 821 = .ok (.ireturn, 1) := by decide +kernel
theorem dL_law_822 : decode cL_law 822 = .ok (.aload_n 3, 1) := by decide +kernel
theorem dL_law_823 : decode cL_law 823 = .ok (.iconst 3, 1) := by decide +kernel
theorem dL_law_824 : decode cL_law 824 = .ok (.invokevirtual 88, 3) := by decide +kernel
theorem dL_law_827 : decode cL_law 827 = .ok (.istore 10, 2) := by decide +kernel
theorem dL_law_829 : decode cL_law 829 = .ok (.aload_n 3, 1) := by decide +kernel
theorem dL_law_830 : decode cL_law 830 = .ok (.iconst 1, 1) := by decide +kernel
theorem dL_law_831 : decode cL_law 831 = .ok (.invokevirtual 38, 3) := by decide +kernel
theorem dL_law_834 : decode cL_law 834 = .ok (.aload_n 3, 1) := by decide +kernel
theorem dL_law_835 : decode cL_law 835 = .ok (.iconst 2, 1) := by decide +kernel
theorem dL_law_836 : decode cL_law 836 = .ok (.invokevirtual 38, 3) := by decide +kernel
theorem dL_law_839 : decode cL_law 839 = .ok (.imul, 1) := by decide +kernel
theorem dL_law_840 : decode cL_law 840 = .ok (.ifCond .ne 37, 3) := by decide +kernel
theorem dL_law_843 : decode cL_law 843 = .ok (.iload 10, 2) := by decide +kernel
theorem dL_law_845 : decode cL_law 845 = .ok (.aload_n 3, 1) := by decide +kernel
theorem dL_law_846 : decode cL_law 846 = .ok (.iconst 1, 1) := by decide +kernel
theorem dL_law_847 : decode cL_law 847 = .ok (.invokevirtual 38, 3) := by decide +kernel
theorem dL_law_850 : decode cL_law 850 = .ok (.ifCond .le 7, 3) := by decide +kernel
theorem dL_law_853 : decode cL_law 853 = .ok (.iconst 1, 1) := by decide +kernel
theorem dL_law_854 : decode cL_law 854 = .ok (.goto 4, 3) := by decide +kernel
theorem dL_law_857 : decode cL_law 857 = .ok (.iconst (-1), 1) := by decide +kernel
theorem dL_law_858 : decode cL_law 858 = .ok (.aload_n 3, 1) := by decide +kernel
theorem dL_law_859 : decode cL_law 859 = .ok (.invokevirtual 91, 3) := by decide +kernel
theorem dL_law_862 : decode cL_law 862 = .ok (.iload 9, 2) := by decide +kernel
theorem dL_law_864 : decode cL_law 864 = .ok (.i2d, 1) := by decide +kernel
theorem dL_law_865 : decode cL_law 865 = .ok (.dmul, 1) := by decide +kernel
theorem dL_law_866 : decode cL_law 866 = .ok (.ldc2_w 95, 3) := by decide +kernel
theorem dL_law_869 : decode cL_law 869 = .ok (.dadd, 1) := by decide +kernel
theorem dL_law_870 : decode cL_law 870 = .ok (.d2i, 1) := by decide +kernel
theorem dL_law_871 : decode cL_law 871 = .ok (.imul, 1) := by decide +kernel
theorem dL_law_872 : decode cL_law 872 = .ok (.if_icmp .eq 5, 3) := by decide +kernel
theorem dL_law_875 : decode cL_law 875 = .ok (.iconst 0, 1) := by decide +kernel
theorem dL_law_876 : decode cL_law 876 = .ok (.ireturn, 1) := by decide +kernel
theorem dL_law_877 : decode cL_law 877 = .ok (.aload_n 3, 1) := by decide +kernel
theorem dL_law_878 : decode cL_law 878 = .ok (.invokevirtual 32, 3) := by decide +kernel
theorem dL_law_881 : decode cL_law 881 = .ok (.lload 5, 2) := by decide +kernel
theorem dL_law_883 : decode cL_law 883 = .ok (.lcmp, 1) := by decide +kernel
theorem dL_law_884 : decode cL_law 884 = .ok (.ifCond .eq 5, 3) := by decide +kernel
theorem dL_law_887 : decode cL_law 887 = .ok (.iconst 0, 1) := by decide +kernel
theorem dL_law_888 : decode cL_law 888 = .ok (.ireturn, 1) := by decide +kernel
theorem dL_law_889 : decode cL_law 889 = .ok (.aload_n 3, 1) := by decide +kernel
theorem dL_law_890 : decode cL_law 890 = .ok (.bipush 8, 2) := by decide +kernel
theorem dL_law_892 : decode cL_law 892 = .ok (.invokevirtual 38, 3) := by decide +kernel
theorem dL_law_895 : decode cL_law 895 = .ok (.istore 11, 2) := by decide +kernel
theorem dL_law_897 : decode cL_law 897 = .ok (.iload 11, 2) := by decide +kernel
theorem dL_law_899 : decode cL_law 899 = .ok (.ifCond .le 13, 3) := by decide +kernel
theorem dL_law_902 : decode cL_law 902 = .ok (.iload 4, 2) := by decide +kernel
theorem dL_law_904 : decode cL_law 904 = .ok (.iconst 2, 1) := by decide +kernel
theorem dL_law_905 : decode cL_law 905 = .ok (.irem, 1) := by decide +kernel
theorem dL_law_906 : decode cL_law 906 = .ok (.ifCond .ne 6, 3) := by decide +kernel
theorem dL_law_909 : decode cL_law 909 = .ok (.goto 66, 3) := by decide +kernel
theorem dL_law_912 : decode cL_law 912 = .ok (.iload 11, 2) := by decide +kernel
theorem dL_law_914 : decode cL_law 914 = .ok (.iconst 5, 1) := by decide +kernel
theorem dL_law_915 : decode cL_law 915 = .ok (.if_icmp .ge 60, 3) := by decide +kernel
theorem dL_law_918 : decode cL_law 918 = .ok (.aload_n 3, 1) := by decide +kernel
theorem dL_law_919 : decode cL_law 919 = .ok (.invokevirtual 97, 3) := by decide +kernel
theorem dL_law_922 : decode cL_law 922 = .ok (.istore 12, 2) := by decide +kernel
theorem dL_law_924 : decode cL_law 924 = .ok (.aload_n 3, 1) := by decide +kernel
theorem dL_law_925 : decode cL_law 925 = .ok (.invokevirtual 32, 3) := by decide +kernel
theorem dL_law_928 : decode cL_law 928 = .ok (.lstore 13, 2) := by decide +kernel
theorem dL_law_930 : decode cL_law 930 = .ok (.aload_n 3, 1) := by decide +kernel
theorem dL_law_931 : decode cL_law 931 = .ok (.iconst 2, 1) := by decide +kernel
theorem dL_law_932 : decode cL_law 932 = .ok (.invokevirtual 101, 3) := by decide +kernel
theorem dL_law_935 : decode cL_law 935 = .ok (.pop, 1) := by decide +kernel
theorem dL_law_936 : decode cL_law 936 = .ok (.aload_n 3, 1) := by decide +kernel
theorem dL_law_937 : decode cL_law 937 = .ok (.iconst 1, 1) := by decide +kernel
theorem dL_law_938 : decode cL_law 938 = .ok (.iconst 1, 1) := by decide +kernel
theorem dL_law_939 : decode cL_law 939 = .ok (.iconst 3, 1) := by decide +kernel
theorem dL_law_940 : decode cL_law 940 = .ok (.iconst 3, 1) := by decide +kernel
theorem dL_law_941 : decode cL_law 941 = .ok (.invokevirtual 104, 3) := by decide +kernel
theorem dL_law_944 : decode cL_law 944 = .ok (.pop, 1) := by decide +kernel
theorem dL_law_945 : decode cL_law 945 = .ok (.iload 12, 2) := by decide +kernel
theorem dL_law_947 : decode cL_law 947 = .ok (.iload 11, 2) := by decide +kernel
theorem dL_law_949 : decode cL_law 949 = .ok (.if_icmp .ne 24, 3) := by decide +kernel
theorem dL_law_952 : decode cL_law 952 = .ok (.aload_n 3, 1) := by decide +kernel
theorem dL_law_953 : decode cL_law 953 = .ok (.iload 12, 2) := by decide +kernel
theorem dL_law_955 : decode cL_law 955 = .ok (.invokevirtual 108, 3) := by decide +kernel
theorem dL_law_958 : decode cL_law 958 = .ok (.iload 9, 2) := by decide +kernel
theorem dL_law_960 : decode cL_law 960 = .ok (.if_icmp .ne 13, 3) := by decide +kernel
theorem dL_law_963 : decode cL_law 963 = .ok (.aload_n 3, 1) := by decide +kernel
theorem dL_law_964 : decode cL_law 964 = .ok (.invokevirtual 32, 3) := by decide +kernel
theorem dL_law_967 : decode cL_law 967 = .ok (.lload 13, 2) := by decide +kernel
theorem dL_law_969 : decode cL_law 969 = .ok (.lcmp, 1) := by decide +kernel
theorem dL_law_970 : decode cL_law 970 = .ok (.ifCond .eq 5, 3) := by decide +kernel
theorem dL_law_973 : decode cL_law 973 = .ok (.iconst 0, 1) := by decide +kernel
theorem dL_law_974 : decode cL_law 974 = .ok (.ireturn, 1) := by decide +kernel
theorem dL_law_975 : decode cL_law 975 = .ok (.iinc 4 1, 3) := by decide +kernel
theorem dL_law_978 : decode cL_law 978 = .ok (.goto (-936), 3) := by decide +kernel
theorem dL_law_981 : decode cL_law 981 = .ok (.iinc 1 1, 3) := by decide +kernel
theorem dL_law_984 : decode cL_law 984 = .ok (.goto (-982), 3) := by decide +kernel
theorem dL_law_987 : decode cL_law 987 = .ok (.iconst 1, 1) := by decide +kernel
theorem dL_law_988 : decode cL_law 988 = .ok (.ireturn, 1) := by decide +kernel
