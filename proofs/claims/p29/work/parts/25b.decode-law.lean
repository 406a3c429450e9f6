theorem dL_law_537 : decode cL_law 537 = .ok (.aload_n 3, 1) := by decide +kernel
theorem dL_law_538 : decode cL_law 538 = .ok (.bipush 24, 2) := by decide +kernel
theorem dL_law_540 : decode cL_law 540 = .ok (.iload 15, 2) := by decide +kernel
theorem dL_law_542 : decode cL_law 542 = .ok (.iadd, 1) := by decide +kernel
theorem dL_law_543 : decode cL_law 543 = .ok (.iaload, 1) := by decide +kernel
theorem dL_law_544 : decode cL_law 544 = .ok (.aload 11, 2) := by decide +kernel
theorem dL_law_546 : decode cL_law 546 = .ok (.iconst 0, 1) := by decide +kernel
theorem dL_law_547 : decode cL_law 547 = .ok (.iaload, 1) := by decide +kernel
theorem dL_law_548 : decode cL_law 548 = .ok (.if_icmp .ge 7, 3) := by decide +kernel
theorem dL_law_551 : decode cL_law 551 = .ok (.iconst 1, 1) := by decide +kernel
theorem dL_law_552 : decode cL_law 552 = .ok (.goto 4, 3) := by decide +kernel
theorem dL_law_555 : decode cL_law 555 = .ok (.iconst 0, 1) := by decide +kernel
theorem dL_law_556 : decode cL_law 556 = .ok (.istore 23, 2) := by decide +kernel
theorem dL_law_558 : decode cL_law 558 = .ok (.aload_n 1, 1) := by decide +kernel
theorem dL_law_559 : decode cL_law 559 = .ok (.iload 16, 2) := by decide +kernel
theorem dL_law_561 : decode cL_law 561 = .ok (.iload 22, 2) := by decide +kernel
theorem dL_law_563 : decode cL_law 563 = .ok (.invokestatic 187, 3) := by decide +kernel
theorem dL_law_566 : decode cL_law 566 = .ok (.iload 23, 2) := by decide +kernel
theorem dL_law_568 : decode cL_law 568 = .ok (.ifCond .eq 12, 3) := by decide +kernel
theorem dL_law_571 : decode cL_law 571 = .ok (.aload_n 2, 1) := by decide +kernel
theorem dL_law_572 : decode cL_law 572 = .ok (.iload 15, 2) := by decide +kernel
theorem dL_law_574 : decode cL_law 574 = .ok (.iconst 3, 1) := by decide +kernel
theorem dL_law_575 : decode cL_law 575 = .ok (.idiv, 1) := by decide +kernel
theorem dL_law_576 : decode cL_law 576 = .ok (.iaload, 1) := by decide +kernel
theorem dL_law_577 : decode cL_law 577 = .ok (.goto 6, 3) := by decide +kernel
theorem dL_law_580 : decode cL_law 580 = .ok (.sipush (-7300), 3) := by decide +kernel
theorem dL_law_583 : decode cL_law 583 = .ok (.if_icmp .ne 7, 3) := by decide +kernel
theorem dL_law_586 : decode cL_law 586 = .ok (.iconst 1, 1) := by decide +kernel
theorem dL_law_587 : decode cL_law 587 = .ok (.goto 4, 3) := by decide +kernel
theorem dL_law_590 : decode cL_law 590 = .ok (.iconst 0, 1) := by decide +kernel
theorem dL_law_591 : decode cL_law 591 = .ok (.istore 18, 2) := by decide +kernel
theorem dL_law_593 : decode cL_law 593 = .ok (.iload 23, 2) := by decide +kernel
theorem dL_law_595 : decode cL_law 595 = .ok (.ifCond .ne 6, 3) := by decide +kernel
theorem dL_law_598 : decode cL_law 598 = .ok (.goto 2404, 3) := by decide +kernel
theorem dL_law_601 : decode cL_law 601 = .ok (.aload_n 3, 1) := by decide +kernel
theorem dL_law_602 : decode cL_law 602 = .ok (.iload 15, 2) := by decide +kernel
theorem dL_law_604 : decode cL_law 604 = .ok (.aload_n 2, 1) := by decide +kernel
theorem dL_law_605 : decode cL_law 605 = .ok (.iload 15, 2) := by decide +kernel
theorem dL_law_607 : decode cL_law 607 = .ok (.iconst 3, 1) := by decide +kernel
theorem dL_law_608 : decode cL_law 608 = .ok (.idiv, 1) := by decide +kernel
theorem dL_law_609 : decode cL_law 609 = .ok (.iaload, 1) := by decide +kernel
theorem dL_law_610 : decode cL_law 610 = .ok (.iastore, 1) := by decide +kernel
theorem dL_law_611 : decode cL_law 611 = .ok (.aload_n 3, 1) := by decide +kernel
theorem dL_law_612 : decode cL_law 612 = .ok (.bipush 12, 2) := by decide +kernel
theorem dL_law_614 : decode cL_law 614 = .ok (.iload 15, 2) := by decide +kernel
theorem dL_law_616 : decode cL_law 616 = .ok (.iadd, 1) := by decide +kernel
theorem dL_law_617 : decode cL_law 617 = .ok (.iload 22, 2) := by decide +kernel
theorem dL_law_619 : decode cL_law 619 = .ok (.iastore, 1) := by decide +kernel
theorem dL_law_620 : decode cL_law 620 = .ok (.aload 4, 2) := by decide +kernel
theorem dL_law_622 : decode cL_law 622 = .ok (.iload 15, 2) := by decide +kernel
theorem dL_law_624 : decode cL_law 624 = .ok (.iconst (-1), 1) := by decide +kernel
theorem dL_law_625 : decode cL_law 625 = .ok (.iastore, 1) := by decide +kernel
theorem dL_law_626 : decode cL_law 626 = .ok (.goto 2376, 3) := by decide +kernel
theorem dL_law_629 : decode cL_law 629 = .ok (.iload 14, 2) := by decide +kernel
theorem dL_law_631 : decode cL_law 631 = .ok (.bipush 6, 2) := by decide +kernel
theorem dL_law_633 : decode cL_law 633 = .ok (.iand, 1) := by decide +kernel
theorem dL_law_634 : decode cL_law 634 = .ok (.ifCond .le 6, 3) := by decide +kernel
theorem dL_law_637 : decode cL_law 637 = .ok (.goto 2365, 3) := by decide +kernel
theorem dL_law_640 : decode cL_law 640 = .ok (.aload_n 1, 1) := by decide +kernel
theorem dL_law_641 : decode cL_law 641 = .ok (.iload 16, 2) := by decide +kernel
theorem dL_law_643 : decode cL_law 643 = .ok (.invokestatic 189, 3) := by decide +kernel
theorem dL_law_646 : decode cL_law 646 = .ok (.aload_n 3, 1) := by decide +kernel
theorem dL_law_647 : decode cL_law 647 = .ok (.iload 15, 2) := by decide +kernel
theorem dL_law_649 : decode cL_law 649 = .ok (.iaload, 1) := by decide +kernel
theorem dL_law_650 : decode cL_law 650 = .ok (.iconst (-1), 1) := by decide +kernel
theorem dL_law_651 : decode cL_law 651 = .ok (.if_icmp .ne 9, 3) := by decide +kernel
theorem dL_law_654 : decode cL_law 654 = .ok (.sipush (-7300), 3) := by decide +kernel
theorem dL_law_657 : decode cL_law 657 = .ok (.goto 7, 3) := by decide +kernel
theorem dL_law_660 : decode cL_law 660 = .ok (.aload_n 3, 1) := by decide +kernel
theorem dL_law_661 : decode cL_law 661 = .ok (.iload 15, 2) := by decide +kernel
theorem dL_law_663 : decode cL_law 663 = .ok (.iaload, 1) := by decide +kernel
theorem dL_law_664 : decode cL_law 664 = .ok (.if_icmp .ne 7, 3) := by decide +kernel
theorem dL_law_667 : decode cL_law 667 = .ok (.iconst 1, 1) := by decide +kernel
theorem dL_law_668 : decode cL_law 668 = .ok (.goto 4, 3) := by decide +kernel
theorem dL_law_671 : decode cL_law 671 = .ok (.iconst 0, 1) := by decide +kernel
theorem dL_law_672 : decode cL_law 672 = .ok (.istore 18, 2) := by decide +kernel
theorem dL_law_674 : decode cL_law 674 = .ok (.aload_n 3, 1) := by decide +kernel
theorem dL_law_675 : decode cL_law 675 = .ok (.iload 15, 2) := by decide +kernel
theorem dL_law_677 : decode cL_law 677 = .ok (.iaload, 1) := by decide +kernel
theorem dL_law_678 : decode cL_law 678 = .ok (.iconst (-1), 1) := by decide +kernel
theorem dL_law_679 : decode cL_law 679 = .ok (.if_icmp .ne 6, 3) := by decide +kernel
theorem dL_law_682 : decode cL_law 682 = .ok (.goto 2320, 3) := by decide +kernel
theorem dL_law_685 : decode cL_law 685 = .ok (.aload_n 3, 1) := by decide +kernel
theorem dL_law_686 : decode cL_law 686 = .ok (.iload 15, 2) := by decide +kernel
theorem dL_law_688 : decode cL_law 688 = .ok (.iaload, 1) := by decide +kernel
theorem dL_law_689 : decode cL_law 689 = .ok (.aload_n 2, 1) := by decide +kernel
theorem dL_law_690 : decode cL_law 690 = .ok (.iload 15, 2) := by decide +kernel
theorem dL_law_692 : decode cL_law 692 = .ok (.iconst 3, 1) := by decide +kernel
theorem dL_law_693 : decode cL_law 693 = .ok (.idiv, 1) := by decide +kernel
theorem dL_law_694 : decode cL_law 694 = .ok (.iaload, 1) := by decide +kernel
theorem dL_law_695 : decode cL_law 695 = .ok (.if_icmp .eq 28, 3) := by decide +kernel
theorem dL_law_698 : decode cL_law 698 = .ok (.aload 7, 2) := by decide +kernel
theorem dL_law_700 : decode cL_law 700 = .ok (.aload 11, 2) := by decide +kernel
theorem dL_law_702 : decode cL_law 702 = .ok (.iconst 2, 1) := by decide +kernel
theorem dL_law_703 : decode cL_law 703 = .ok (.dup2, 1) := by decide +kernel
theorem dL_law_704 : decode cL_law 704 = .ok (.iaload, 1) := by decide +kernel
theorem dL_law_705 : decode cL_law 705 = .ok (.dup_x2, 1) := by decide +kernel
theorem dL_law_706 : decode cL_law 706 = .ok (.iconst 1, 1) := by decide +kernel
theorem dL_law_707 : decode cL_law 707 = .ok (.iadd, 1) := by decide +kernel
theorem dL_law_708 : decode cL_law 708 = .ok (.iastore, 1) := by decide +kernel
theorem dL_law_709 : decode cL_law 709 = .ok (.aload 11, 2) := by decide +kernel
theorem dL_law_711 : decode cL_law 711 = .ok (.iconst 0, 1) := by decide +kernel
theorem dL_law_712 : decode cL_law 712 = .ok (.iaload, 1) := by decide +kernel
theorem dL_law_713 : decode cL_law 713 = .ok (.iload 15, 2) := by decide +kernel
theorem dL_law_715 : decode cL_law 715 = .ok (.bipush 14, 2) := by decide +kernel
theorem dL_law_717 : decode cL_law 717 = .ok (.ishl, 1) := by decide +kernel
theorem dL_law_718 : decode cL_law 718 = .ok (.ior, 1) := by decide +kernel
theorem dL_law_719 : decode cL_law 719 = .ok (.ldc 191, 2) := by decide +kernel
theorem dL_law_721 : decode cL_law 721 = .ok (.ior, 1) := by decide +kernel
theorem dL_law_722 : decode cL_law 722 = .ok (.iastore, 1) := by decide +kernel
theorem dL_law_723 : decode cL_law 723 = .ok (.aload_n 3, 1) := by decide +kernel
theorem dL_law_724 : decode cL_law 724 = .ok (.iload 15, 2) := by decide +kernel
theorem dL_law_726 : decode cL_law 726 = .ok (.iconst (-1), 1) := by decide +kernel
theorem dL_law_727 : decode cL_law 727 = .ok (.iastore, 1) := by decide +kernel
theorem dL_law_728 : decode cL_law 728 = .ok (.aload_n 3, 1) := by decide +kernel
theorem dL_law_729 : decode cL_law 729 = .ok (.bipush 24, 2) := by decide +kernel
theorem dL_law_731 : decode cL_law 731 = .ok (.iload 15, 2) := by decide +kernel
theorem dL_law_733 : decode cL_law 733 = .ok (.iadd, 1) := by decide +kernel
theorem dL_law_734 : decode cL_law 734 = .ok (.aload 11, 2) := by decide +kernel
theorem dL_law_736 : decode cL_law 736 = .ok (.iconst 0, 1) := by decide +kernel
theorem dL_law_737 : decode cL_law 737 = .ok (.iaload, 1) := by decide +kernel
theorem dL_law_738 : decode cL_law 738 = .ok (.bipush 99, 2) := by decide +kernel
theorem dL_law_740 : decode cL_law 740 = .ok (.iadd, 1) := by decide +kernel
theorem dL_law_741 : decode cL_law 741 = .ok (.iastore, 1) := by decide +kernel
theorem dL_law_742 : decode cL_law 742 = .ok (.aload_n 3, 1) := by decide +kernel
theorem dL_law_743 : decode cL_law 743 = .ok (.bipush 36, 2) := by decide +kernel
theorem dL_law_745 : decode cL_law 745 = .ok (.iload 15, 2) := by decide +kernel
theorem dL_law_747 : decode cL_law 747 = .ok (.iadd, 1) := by decide +kernel
theorem dL_law_748 : decode cL_law 748 = .ok (.iconst (-1), 1) := by decide +kernel
theorem dL_law_749 : decode cL_law 749 = .ok (.iastore, 1) := by decide +kernel
theorem dL_law_750 : decode cL_law 750 = .ok (.aload_n 3, 1) := by decide +kernel
theorem dL_law_751 : decode cL_law 751 = .ok (.bipush 48, 2) := by decide +kernel
theorem dL_law_753 : decode cL_law 753 = .ok (.iload 15, 2) := by decide +kernel
theorem dL_law_755 : decode cL_law 755 = .ok (.iadd, 1) := by decide +kernel
theorem dL_law_756 : decode cL_law 756 = .ok (.iconst (-1), 1) := by decide +kernel
theorem dL_law_757 : decode cL_law 757 = .ok (.iastore, 1) := by decide +kernel
theorem dL_law_758 : decode cL_law 758 = .ok (.iload 15, 2) := by decide +kernel
theorem dL_law_760 : decode cL_law 760 = .ok (.aload 5, 2) := by decide +kernel
theorem dL_law_762 : decode cL_law 762 = .ok (.aload 11, 2) := by decide +kernel
theorem dL_law_764 : decode cL_law 764 = .ok (.invokestatic 142, 3) := by decide +kernel
theorem dL_law_767 : decode cL_law 767 = .ok (.istore 24, 2) := by decide +kernel
theorem dL_law_769 : decode cL_law 769 = .ok (.iload 24, 2) := by decide +kernel
theorem dL_law_771 : decode cL_law 771 = .ok (.iconst (-1), 1) := by decide +kernel
theorem dL_law_772 : decode cL_law 772 = .ok (.if_icmp .eq 2230, 3) := by decide +kernel
theorem dL_law_775 : decode cL_law 775 = .ok (.aload 5, 2) := by decide +kernel
theorem dL_law_777 : decode cL_law 777 = .ok (.iload 24, 2) := by decide +kernel
theorem dL_law_779 : decode cL_law 779 = .ok (.dup2, 1) := by decide +kernel
theorem dL_law_780 : decode cL_law 780 = .ok (.iaload, 1) := by decide +kernel
theorem dL_law_781 : decode cL_law 781 = .ok (.iconst 2, 1) := by decide +kernel
theorem dL_law_782 : decode cL_law 782 = .ok (.iadd, 1) := by decide +kernel
theorem dL_law_783 : decode cL_law 783 = .ok (.iastore, 1) := by decide +kernel
theorem dL_law_784 : decode cL_law 784 = .ok (.goto 2218, 3) := by decide +kernel
theorem dL_law_787 : decode cL_law 787 = .ok (.iload 14, 2) := by decide +kernel
theorem dL_law_789 : decode cL_law 789 = .ok (.iconst 2, 1) := by decide +kernel
theorem dL_law_790 : decode cL_law 790 = .ok (.iand, 1) := by decide +kernel
theorem dL_law_791 : decode cL_law 791 = .ok (.ifCond .le 6, 3) := by decide +kernel
theorem dL_law_794 : decode cL_law 794 = .ok (.goto 2208, 3) := by decide +kernel
theorem dL_law_797 : decode cL_law 797 = .ok (.aload_n 1, 1) := by decide +kernel
theorem dL_law_798 : decode cL_law 798 = .ok (.iload 16, 2) := by decide +kernel
theorem dL_law_800 : decode cL_law 800 = .ok (.iload 14, 2) := by decide +kernel
theorem dL_law_802 : decode cL_law 802 = .ok (.iconst 3, 1) := by decide +kernel
theorem dL_law_803 : decode cL_law 803 = .ok (.ishr, 1) := by decide +kernel
theorem dL_law_804 : decode cL_law 804 = .ok (.iconst 2, 1) := by decide +kernel
theorem dL_law_805 : decode cL_law 805 = .ok (.invokestatic 125, 3) := by decide +kernel
theorem dL_law_808 : decode cL_law 808 = .ok (.invokestatic 192, 3) := by decide +kernel
theorem dL_law_811 : decode cL_law 811 = .ok (.aload_n 3, 1) := by decide +kernel
theorem dL_law_812 : decode cL_law 812 = .ok (.iload 15, 2) := by decide +kernel
theorem dL_law_814 : decode cL_law 814 = .ok (.iaload, 1) := by decide +kernel
theorem dL_law_815 : decode cL_law 815 = .ok (.iconst (-1), 1) := by decide +kernel
theorem dL_law_816 : decode cL_law 816 = .ok (.if_icmp .ne 9, 3) := by decide +kernel
theorem dL_law_819 : decode cL_law 819 = .ok (.sipush (-7300), 3) := by decide +kernel
theorem dL_law_822 : decode cL_law 822 = .ok (.goto 10, 3) := by decide +kernel
theorem dL_law_825 : decode cL_law 825 = .ok (.aload_n 3, 1) := by decide +kernel
theorem dL_law_826 : decode cL_law 826 = .ok (.bipush 12, 2) := by decide +kernel
theorem dL_law_828 : decode cL_law 828 = .ok (.iload 15, 2) := by decide +kernel
theorem dL_law_830 : decode cL_law 830 = .ok (.iadd, 1) := by decide +kernel
theorem dL_law_831 : decode cL_law 831 = .ok (.iaload, 1) := by decide +kernel
theorem dL_law_832 : decode cL_law 832 = .ok (.if_icmp .ne 7, 3) := by decide +kernel
theorem dL_law_835 : decode cL_law 835 = .ok (.iconst 1, 1) := by decide +kernel
theorem dL_law_836 : decode cL_law 836 = .ok (.goto 4, 3) := by decide +kernel
theorem dL_law_839 : decode cL_law 839 = .ok (.iconst 0, 1) := by decide +kernel
theorem dL_law_840 : decode cL_law 840 = .ok (.istore 18, 2) := by decide +kernel
theorem dL_law_842 : decode cL_law 842 = .ok (.aload_n 3, 1) := by decide +kernel
theorem dL_law_843 : decode cL_law 843 = .ok (.iload 15, 2) := by decide +kernel
theorem dL_law_845 : decode cL_law 845 = .ok (.iaload, 1) := by decide +kernel
theorem dL_law_846 : decode cL_law 846 = .ok (.iconst (-1), 1) := by decide +kernel
theorem dL_law_847 : decode cL_law 847 = .ok (.if_icmp .ne 6, 3) := by decide +kernel
theorem dL_law_850 : decode cL_law 850 = .ok (.goto 2152, 3) := by decide +kernel
theorem dL_law_853 : decode cL_law 853 = .ok (.aload_n 3, 1) := by decide +kernel
theorem dL_law_854 : decode cL_law 854 = .ok (.bipush 12, 2) := by decide +kernel
theorem dL_law_856 : decode cL_law 856 = .ok (.iload 15, 2) := by decide +kernel
theorem dL_law_858 : decode cL_law 858 = .ok (.iadd, 1) := by decide +kernel
theorem dL_law_859 : decode cL_law 859 = .ok (.iload 14, 2) := by decide +kernel
theorem dL_law_861 : decode cL_law 861 = .ok (.iconst 3, 1) := by decide +kernel
theorem dL_law_862 : decode cL_law 862 = .ok (.ishr, 1) := by decide +kernel
theorem dL_law_863 : decode cL_law 863 = .ok (.iconst 2, 1) := by decide +kernel
theorem dL_law_864 : decode cL_law 864 = .ok (.invokestatic 125, 3) := by decide +kernel
theorem dL_law_867 : decode cL_law 867 = .ok (.iastore, 1) := by decide +kernel
theorem dL_law_868 : decode cL_law 868 = .ok (.aload_n 3, 1) := by decide +kernel
theorem dL_law_869 : decode cL_law 869 = .ok (.bipush 36, 2) := by decide +kernel
theorem dL_law_871 : decode cL_law 871 = .ok (.iload 15, 2) := by decide +kernel
theorem dL_law_873 : decode cL_law 873 = .ok (.iadd, 1) := by decide +kernel
theorem dL_law_874 : decode cL_law 874 = .ok (.aload 11, 2) := by decide +kernel
theorem dL_law_876 : decode cL_law 876 = .ok (.iconst 0, 1) := by decide +kernel
theorem dL_law_877 : decode cL_law 877 = .ok (.iaload, 1) := by decide +kernel
theorem dL_law_878 : decode cL_law 878 = .ok (.bipush 49, 2) := by decide +kernel
theorem dL_law_880 : decode cL_law 880 = .ok (.iadd, 1) := by decide +kernel
theorem dL_law_881 : decode cL_law 881 = .ok (.iastore, 1) := by decide +kernel
theorem dL_law_882 : decode cL_law 882 = .ok (.goto 2120, 3) := by decide +kernel
theorem dL_law_885 : decode cL_law 885 = .ok (.aload_n 1, 1) := by decide +kernel
theorem dL_law_886 : decode cL_law 886 = .ok (.iload 16, 2) := by decide +kernel
theorem dL_law_888 : decode cL_law 888 = .ok (.invokestatic 194, 3) := by decide +kernel
theorem dL_law_891 : decode cL_law 891 = .ok (.aload_n 3, 1) := by decide +kernel
theorem dL_law_892 : decode cL_law 892 = .ok (.iload 15, 2) := by decide +kernel
theorem dL_law_894 : decode cL_law 894 = .ok (.iaload, 1) := by decide +kernel
theorem dL_law_895 : decode cL_law 895 = .ok (.iconst (-1), 1) := by decide +kernel
theorem dL_law_896 : decode cL_law 896 = .ok (.if_icmp .ne 9, 3) := by decide +kernel
theorem dL_law_899 : decode cL_law 899 = .ok (.sipush (-7300), 3) := by decide +kernel
theorem dL_law_902 : decode cL_law 902 = .ok (.goto 10, 3) := by decide +kernel
theorem dL_law_905 : decode cL_law 905 = .ok (.aload 11, 2) := by decide +kernel
theorem dL_law_907 : decode cL_law 907 = .ok (.iconst 0, 1) := by decide +kernel
theorem dL_law_908 : decode cL_law 908 = .ok (.iaload, 1) := by decide +kernel
theorem dL_law_909 : decode cL_law 909 = .ok (.bipush 30, 2) := by decide +kernel
theorem dL_law_911 : decode cL_law 911 = .ok (.iadd, 1) := by decide +kernel
theorem dL_law_912 : decode cL_law 912 = .ok (.if_icmp .ne 7, 3) := by decide +kernel
theorem dL_law_915 : decode cL_law 915 = .ok (.iconst 1, 1) := by decide +kernel
theorem dL_law_916 : decode cL_law 916 = .ok (.goto 4, 3) := by decide +kernel
theorem dL_law_919 : decode cL_law 919 = .ok (.iconst 0, 1) := by decide +kernel
theorem dL_law_920 : decode cL_law 920 = .ok (.istore 18, 2) := by decide +kernel
theorem dL_law_922 : decode cL_law 922 = .ok (.aload_n 3, 1) := by decide +kernel
theorem dL_law_923 : decode cL_law 923 = .ok (.bipush 48, 2) := by decide +kernel
theorem dL_law_925 : decode cL_law 925 = .ok (.iload 15, 2) := by decide +kernel
theorem dL_law_927 : decode cL_law 927 = .ok (.iadd, 1) := by decide +kernel
theorem dL_law_928 : decode cL_law 928 = .ok (.aload_n 3, 1) := by decide +kernel
theorem dL_law_929 : decode cL_law 929 = .ok (.iload 15, 2) := by decide +kernel
theorem dL_law_931 : decode cL_law 931 = .ok (.iaload, 1) := by decide +kernel
