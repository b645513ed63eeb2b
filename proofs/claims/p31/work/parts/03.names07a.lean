theorem dL_act_572 : decode cL_act 572 = .ok (.iadd, 1) := by decide +kernel
theorem dL_act_573 : decode cL_act 573 = .ok (.bipush 100, 2) := by decide +kernel
theorem dL_act_575 : decode cL_act 575 = .ok (.if_icmp .le 8, 3) := by decide +kernel
theorem dL_act_578 : decode cL_act 578 = .ok (.bipush 100, 2) := by decide +kernel
theorem dL_act_580 : decode cL_act 580 = .ok (.goto 9, 3) := by decide +kernel
theorem dL_act_583 : decode cL_act 583 = .ok (.aload_n 3, 1) := by decide +kernel
theorem dL_act_584 : decode cL_act 584 = .ok (.iconst 4, 1) := by decide +kernel
theorem dL_act_585 : decode cL_act 585 = .ok (.iaload, 1) := by decide +kernel
theorem dL_act_586 : decode cL_act 586 = .ok (.iload 8, 2) := by decide +kernel
theorem dL_act_588 : decode cL_act 588 = .ok (.iadd, 1) := by decide +kernel
theorem dL_act_589 : decode cL_act 589 = .ok (.iastore, 1) := by decide +kernel
theorem dL_act_590 : decode cL_act 590 = .ok (.aload_n 0, 1) := by decide +kernel
theorem dL_act_591 : decode cL_act 591 = .ok (.iload 8, 2) := by decide +kernel
theorem dL_act_593 : decode cL_act 593 = .ok (.invokestatic 134, 3) := by decide +kernel
theorem dL_act_596 : decode cL_act 596 = .ok (.aload_n 3, 1) := by decide +kernel
theorem dL_act_597 : decode cL_act 597 = .ok (.iconst 4, 1) := by decide +kernel
theorem dL_act_598 : decode cL_act 598 = .ok (.iaload, 1) := by decide +kernel
theorem dL_act_599 : decode cL_act 599 = .ok (.if_icmp .ne 17, 3) := by decide +kernel
theorem dL_act_602 : decode cL_act 602 = .ok (.aload_n 0, 1) := by decide +kernel
theorem dL_act_603 : decode cL_act 603 = .ok (.iconst 0, 1) := by decide +kernel
theorem dL_act_604 : decode cL_act 604 = .ok (.invokestatic 134, 3) := by decide +kernel
theorem dL_act_607 : decode cL_act 607 = .ok (.bipush (-32), 2) := by decide +kernel
theorem dL_act_609 : decode cL_act 609 = .ok (.if_icmp .ne 7, 3) := by decide +kernel
theorem dL_act_612 : decode cL_act 612 = .ok (.iconst 1, 1) := by decide +kernel
theorem dL_act_613 : decode cL_act 613 = .ok (.goto 4, 3) := by decide +kernel
theorem dL_act_616 : decode cL_act 616 = .ok (.iconst 0, 1) := by decide +kernel
theorem dL_act_617 : decode cL_act 617 = .ok (.ireturn, 1) := by decide +kernel
theorem dL_act_618 : decode cL_act 618 = .ok (.aload_n 3, 1) := by decide +kernel
theorem dL_act_619 : decode cL_act 619 = .ok (.iconst 4, 1) := by decide +kernel
theorem dL_act_620 : decode cL_act 620 = .ok (.iaload, 1) := by decide +kernel
theorem dL_act_621 : decode cL_act 621 = .ok (.istore 8, 2) := by decide +kernel
theorem dL_act_623 : decode cL_act 623 = .ok (.aload_n 3, 1) := by decide +kernel
theorem dL_act_624 : decode cL_act 624 = .ok (.iconst 4, 1) := by decide +kernel
theorem dL_act_625 : decode cL_act 625 = .ok (.iconst 0, 1) := by decide +kernel
theorem dL_act_626 : decode cL_act 626 = .ok (.iastore, 1) := by decide +kernel
theorem dL_act_627 : decode cL_act 627 = .ok (.aload_n 0, 1) := by decide +kernel
theorem dL_act_628 : decode cL_act 628 = .ok (.invokevirtual 136, 3) := by decide +kernel
theorem dL_act_631 : decode cL_act 631 = .ok (.iload 8, 2) := by decide +kernel
theorem dL_act_633 : decode cL_act 633 = .ok (.if_icmp .ne 7, 3) := by decide +kernel
theorem dL_act_636 : decode cL_act 636 = .ok (.iconst 1, 1) := by decide +kernel
theorem dL_act_637 : decode cL_act 637 = .ok (.goto 4, 3) := by decide +kernel
theorem dL_act_640 : decode cL_act 640 = .ok (.iconst 0, 1) := by decide +kernel
theorem dL_act_641 : decode cL_act 641 = .ok (.ireturn, 1) := by decide +kernel
theorem dL_act_642 : decode cL_act 642 = .ok (.iload 7, 2) := by decide +kernel
theorem dL_act_644 : decode cL_act 644 = .ok (.bipush 17, 2) := by decide +kernel
theorem dL_act_646 : decode cL_act 646 = .ok (.if_icmp .ne 81, 3) := by decide +kernel
theorem dL_act_649 : decode cL_act 649 = .ok (.iload_n 2, 1) := by decide +kernel
theorem dL_act_650 : decode cL_act 650 = .ok (.bipush 7, 2) := by decide +kernel
theorem dL_act_652 : decode cL_act 652 = .ok (.iand, 1) := by decide +kernel
theorem dL_act_653 : decode cL_act 653 = .ok (.ifCond .ne 27, 3) := by decide +kernel
theorem dL_act_656 : decode cL_act 656 = .ok (.aload_n 3, 1) := by decide +kernel
theorem dL_act_657 : decode cL_act 657 = .ok (.iconst 5, 1) := by decide +kernel
theorem dL_act_658 : decode cL_act 658 = .ok (.iaload, 1) := by decide +kernel
theorem dL_act_659 : decode cL_act 659 = .ok (.istore 8, 2) := by decide +kernel
theorem dL_act_661 : decode cL_act 661 = .ok (.aload_n 3, 1) := by decide +kernel
theorem dL_act_662 : decode cL_act 662 = .ok (.iconst 5, 1) := by decide +kernel
theorem dL_act_663 : decode cL_act 663 = .ok (.iconst 0, 1) := by decide +kernel
theorem dL_act_664 : decode cL_act 664 = .ok (.iastore, 1) := by decide +kernel
theorem dL_act_665 : decode cL_act 665 = .ok (.aload_n 0, 1) := by decide +kernel
theorem dL_act_666 : decode cL_act 666 = .ok (.invokevirtual 139, 3) := by decide +kernel
theorem dL_act_669 : decode cL_act 669 = .ok (.iload 8, 2) := by decide +kernel
theorem dL_act_671 : decode cL_act 671 = .ok (.if_icmp .ne 7, 3) := by decide +kernel
theorem dL_act_674 : decode cL_act 674 = .ok (.iconst 1, 1) := by decide +kernel
theorem dL_act_675 : decode cL_act 675 = .ok (.goto 4, 3) := by decide +kernel
theorem dL_act_678 : decode cL_act 678 = .ok (.iconst 0, 1) := by decide +kernel
theorem dL_act_679 : decode cL_act 679 = .ok (.ireturn, 1) := by decide +kernel
theorem dL_act_680 : decode cL_act 680 = .ok (.aload_n 3, 1) := by decide +kernel
theorem dL_act_681 : decode cL_act 681 = .ok (.bipush 6, 2) := by decide +kernel
theorem dL_act_683 : decode cL_act 683 = .ok (.iaload, 1) := by decide +kernel
theorem dL_act_684 : decode cL_act 684 = .ok (.istore 8, 2) := by decide +kernel
theorem dL_act_686 : decode cL_act 686 = .ok (.aload_n 3, 1) := by decide +kernel
theorem dL_act_687 : decode cL_act 687 = .ok (.bipush 6, 2) := by decide +kernel
theorem dL_act_689 : decode cL_act 689 = .ok (.iload_n 2, 1) := by decide +kernel
theorem dL_act_690 : decode cL_act 690 = .ok (.iconst 3, 1) := by decide +kernel
theorem dL_act_691 : decode cL_act 691 = .ok (.ishr, 1) := by decide +kernel
theorem dL_act_692 : decode cL_act 692 = .ok (.bipush 6, 2) := by decide +kernel
theorem dL_act_694 : decode cL_act 694 = .ok (.invokestatic 97, 3) := by decide +kernel
theorem dL_act_697 : decode cL_act 697 = .ok (.iastore, 1) := by decide +kernel
theorem dL_act_698 : decode cL_act 698 = .ok (.aload_n 0, 1) := by decide +kernel
theorem dL_act_699 : decode cL_act 699 = .ok (.aload_n 3, 1) := by decide +kernel
theorem dL_act_700 : decode cL_act 700 = .ok (.bipush 6, 2) := by decide +kernel
theorem dL_act_702 : decode cL_act 702 = .ok (.iaload, 1) := by decide +kernel
theorem dL_act_703 : decode cL_act 703 = .ok (.invokestatic 142, 3) := by decide +kernel
theorem dL_act_706 : decode cL_act 706 = .ok (.iload 8, 2) := by decide +kernel
theorem dL_act_708 : decode cL_act 708 = .ok (.if_icmp .ne 17, 3) := by decide +kernel
theorem dL_act_711 : decode cL_act 711 = .ok (.aload_n 0, 1) := by decide +kernel
theorem dL_act_712 : decode cL_act 712 = .ok (.iconst (-1), 1) := by decide +kernel
theorem dL_act_713 : decode cL_act 713 = .ok (.invokestatic 142, 3) := by decide +kernel
theorem dL_act_716 : decode cL_act 716 = .ok (.bipush (-31), 2) := by decide +kernel
theorem dL_act_718 : decode cL_act 718 = .ok (.if_icmp .ne 7, 3) := by decide +kernel
theorem dL_act_721 : decode cL_act 721 = .ok (.iconst 1, 1) := by decide +kernel
theorem dL_act_722 : decode cL_act 722 = .ok (.goto 4, 3) := by decide +kernel
theorem dL_act_725 : decode cL_act 725 = .ok (.iconst 0, 1) := by decide +kernel
theorem dL_act_726 : decode cL_act 726 = .ok (.ireturn, 1) := by decide +kernel
theorem dL_act_727 : decode cL_act 727 = .ok (.iload 7, 2) := by decide +kernel
theorem dL_act_729 : decode cL_act 729 = .ok (.bipush 18, 2) := by decide +kernel
theorem dL_act_731 : decode cL_act 731 = .ok (.if_icmp .ne 36, 3) := by decide +kernel
theorem dL_act_734 : decode cL_act 734 = .ok (.iload_n 2, 1) := by decide +kernel
theorem dL_act_735 : decode cL_act 735 = .ok (.bipush 7, 2) := by decide +kernel
theorem dL_act_737 : decode cL_act 737 = .ok (.iand, 1) := by decide +kernel
theorem dL_act_738 : decode cL_act 738 = .ok (.ifCond .ne 29, 3) := by decide +kernel
theorem dL_act_741 : decode cL_act 741 = .ok (.aload_n 3, 1) := by decide +kernel
theorem dL_act_742 : decode cL_act 742 = .ok (.bipush 10, 2) := by decide +kernel
theorem dL_act_744 : decode cL_act 744 = .ok (.iaload, 1) := by decide +kernel
theorem dL_act_745 : decode cL_act 745 = .ok (.istore 8, 2) := by decide +kernel
theorem dL_act_747 : decode cL_act 747 = .ok (.aload_n 3, 1) := by decide +kernel
theorem dL_act_748 : decode cL_act 748 = .ok (.bipush 10, 2) := by decide +kernel
theorem dL_act_750 : decode cL_act 750 = .ok (.iconst 0, 1) := by decide +kernel
theorem dL_act_751 : decode cL_act 751 = .ok (.iastore, 1) := by decide +kernel
theorem dL_act_752 : decode cL_act 752 = .ok (.aload_n 0, 1) := by decide +kernel
theorem dL_act_753 : decode cL_act 753 = .ok (.invokevirtual 144, 3) := by decide +kernel
theorem dL_act_756 : decode cL_act 756 = .ok (.iload 8, 2) := by decide +kernel
theorem dL_act_758 : decode cL_act 758 = .ok (.if_icmp .ne 7, 3) := by decide +kernel
theorem dL_act_761 : decode cL_act 761 = .ok (.iconst 1, 1) := by decide +kernel
theorem dL_act_762 : decode cL_act 762 = .ok (.goto 4, 3) := by decide +kernel
theorem dL_act_765 : decode cL_act 765 = .ok (.iconst 0, 1) := by decide +kernel
theorem dL_act_766 : decode cL_act 766 = .ok (.ireturn, 1) := by decide +kernel
theorem dL_act_767 : decode cL_act 767 = .ok (.iload_n 2, 1) := by decide +kernel
theorem dL_act_768 : decode cL_act 768 = .ok (.iconst 4, 1) := by decide +kernel
theorem dL_act_769 : decode cL_act 769 = .ok (.invokestatic 97, 3) := by decide +kernel
theorem dL_act_772 : decode cL_act 772 = .ok (.istore 8, 2) := by decide +kernel
theorem dL_act_774 : decode cL_act 774 = .ok (.aload_n 3, 1) := by decide +kernel
theorem dL_act_775 : decode cL_act 775 = .ok (.bipush 12, 2) := by decide +kernel
theorem dL_act_777 : decode cL_act 777 = .ok (.iload 8, 2) := by decide +kernel
theorem dL_act_779 : decode cL_act 779 = .ok (.iadd, 1) := by decide +kernel
theorem dL_act_780 : decode cL_act 780 = .ok (.iaload, 1) := by decide +kernel
theorem dL_act_781 : decode cL_act 781 = .ok (.istore 9, 2) := by decide +kernel
theorem dL_act_783 : decode cL_act 783 = .ok (.aload_n 3, 1) := by decide +kernel
theorem dL_act_784 : decode cL_act 784 = .ok (.bipush 12, 2) := by decide +kernel
theorem dL_act_786 : decode cL_act 786 = .ok (.iload 8, 2) := by decide +kernel
theorem dL_act_788 : decode cL_act 788 = .ok (.iadd, 1) := by decide +kernel
theorem dL_act_789 : decode cL_act 789 = .ok (.iload 8, 2) := by decide +kernel
theorem dL_act_791 : decode cL_act 791 = .ok (.ifCond .ne 18, 3) := by decide +kernel
theorem dL_act_794 : decode cL_act 794 = .ok (.bipush 10, 2) := by decide +kernel
theorem dL_act_796 : decode cL_act 796 = .ok (.iload_n 2, 1) := by decide +kernel
theorem dL_act_797 : decode cL_act 797 = .ok (.iconst 2, 1) := by decide +kernel
theorem dL_act_798 : decode cL_act 798 = .ok (.ishr, 1) := by decide +kernel
theorem dL_act_799 : decode cL_act 799 = .ok (.sipush 191, 3) := by decide +kernel
theorem dL_act_802 : decode cL_act 802 = .ok (.invokestatic 97, 3) := by decide +kernel
theorem dL_act_805 : decode cL_act 805 = .ok (.iadd, 1) := by decide +kernel
theorem dL_act_806 : decode cL_act 806 = .ok (.goto 51, 3) := by decide +kernel
theorem dL_act_809 : decode cL_act 809 = .ok (.iload 8, 2) := by decide +kernel
theorem dL_act_811 : decode cL_act 811 = .ok (.iconst 1, 1) := by decide +kernel
theorem dL_act_812 : decode cL_act 812 = .ok (.if_icmp .ne 14, 3) := by decide +kernel
theorem dL_act_815 : decode cL_act 815 = .ok (.iload_n 2, 1) := by decide +kernel
theorem dL_act_816 : decode cL_act 816 = .ok (.iconst 2, 1) := by decide +kernel
theorem dL_act_817 : decode cL_act 817 = .ok (.ishr, 1) := by decide +kernel
theorem dL_act_818 : decode cL_act 818 = .ok (.bipush 101, 2) := by decide +kernel
theorem dL_act_820 : decode cL_act 820 = .ok (.invokestatic 97, 3) := by decide +kernel
theorem dL_act_823 : decode cL_act 823 = .ok (.goto 34, 3) := by decide +kernel
theorem dL_act_826 : decode cL_act 826 = .ok (.iload 8, 2) := by decide +kernel
theorem dL_act_828 : decode cL_act 828 = .ok (.iconst 2, 1) := by decide +kernel
theorem dL_act_829 : decode cL_act 829 = .ok (.if_icmp .ne 17, 3) := by decide +kernel
theorem dL_act_832 : decode cL_act 832 = .ok (.iconst 1, 1) := by decide +kernel
theorem dL_act_833 : decode cL_act 833 = .ok (.iload_n 2, 1) := by decide +kernel
theorem dL_act_834 : decode cL_act 834 = .ok (.iconst 2, 1) := by decide +kernel
theorem dL_act_835 : decode cL_act 835 = .ok (.ishr, 1) := by decide +kernel
theorem dL_act_836 : decode cL_act 836 = .ok (.sipush 200, 3) := by decide +kernel
theorem dL_act_839 : decode cL_act 839 = .ok (.invokestatic 97, 3) := by decide +kernel
theorem dL_act_842 : decode cL_act 842 = .ok (.iadd, 1) := by decide +kernel
theorem dL_act_843 : decode cL_act 843 = .ok (.goto 14, 3) := by decide +kernel
theorem dL_act_846 : decode cL_act 846 = .ok (.iconst 5, 1) := by decide +kernel
theorem dL_act_847 : decode cL_act 847 = .ok (.iload_n 2, 1) := by decide +kernel
theorem dL_act_848 : decode cL_act 848 = .ok (.iconst 2, 1) := by decide +kernel
theorem dL_act_849 : decode cL_act 849 = .ok (.ishr, 1) := by decide +kernel
theorem dL_act_850 : decode cL_act 850 = .ok (.sipush 896, 3) := by decide +kernel
theorem dL_act_853 : decode cL_act 853 = .ok (.invokestatic 97, 3) := by decide +kernel
theorem dL_act_856 : decode cL_act 856 = .ok (.iadd, 1) := by decide +kernel
theorem dL_act_857 : decode cL_act 857 = .ok (.iastore, 1) := by decide +kernel
theorem dL_act_858 : decode cL_act 858 = .ok (.aload_n 0, 1) := by decide +kernel
theorem dL_act_859 : decode cL_act 859 = .ok (.iload 8, 2) := by decide +kernel
theorem dL_act_861 : decode cL_act 861 = .ok (.aload_n 3, 1) := by decide +kernel
theorem dL_act_862 : decode cL_act 862 = .ok (.bipush 12, 2) := by decide +kernel
theorem dL_act_864 : decode cL_act 864 = .ok (.iload 8, 2) := by decide +kernel
theorem dL_act_866 : decode cL_act 866 = .ok (.iadd, 1) := by decide +kernel
theorem dL_act_867 : decode cL_act 867 = .ok (.iaload, 1) := by decide +kernel
theorem dL_act_868 : decode cL_act 868 = .ok (.invokestatic 147, 3) := by decide +kernel
theorem dL_act_871 : decode cL_act 871 = .ok (.iload 9, 2) := by decide +kernel
theorem dL_act_873 : decode cL_act 873 = .ok (.if_icmp .ne 42, 3) := by decide +kernel
theorem dL_act_876 : decode cL_act 876 = .ok (.aload_n 0, 1) := by decide +kernel
theorem dL_act_877 : decode cL_act 877 = .ok (.iconst 4, 1) := by decide +kernel
theorem dL_act_878 : decode cL_act 878 = .ok (.iconst 0, 1) := by decide +kernel
theorem dL_act_879 : decode cL_act 879 = .ok (.invokestatic 147, 3) := by decide +kernel
theorem dL_act_882 : decode cL_act 882 = .ok (.bipush (-31), 2) := by decide +kernel
theorem dL_act_884 : decode cL_act 884 = .ok (.if_icmp .ne 31, 3) := by decide +kernel
theorem dL_act_887 : decode cL_act 887 = .ok (.aload_n 0, 1) := by decide +kernel
theorem dL_act_888 : decode cL_act 888 = .ok (.iconst 3, 1) := by decide +kernel
theorem dL_act_889 : decode cL_act 889 = .ok (.iconst 4, 1) := by decide +kernel
theorem dL_act_890 : decode cL_act 890 = .ok (.invokestatic 147, 3) := by decide +kernel
theorem dL_act_893 : decode cL_act 893 = .ok (.bipush (-32), 2) := by decide +kernel
theorem dL_act_895 : decode cL_act 895 = .ok (.if_icmp .ne 20, 3) := by decide +kernel
theorem dL_act_898 : decode cL_act 898 = .ok (.aload_n 0, 1) := by decide +kernel
theorem dL_act_899 : decode cL_act 899 = .ok (.iconst 2, 1) := by decide +kernel
theorem dL_act_900 : decode cL_act 900 = .ok (.sipush 201, 3) := by decide +kernel
theorem dL_act_903 : decode cL_act 903 = .ok (.invokestatic 147, 3) := by decide +kernel
theorem dL_act_906 : decode cL_act 906 = .ok (.bipush (-32), 2) := by decide +kernel
theorem dL_act_908 : decode cL_act 908 = .ok (.if_icmp .ne 7, 3) := by decide +kernel
theorem dL_act_911 : decode cL_act 911 = .ok (.iconst 1, 1) := by decide +kernel
theorem dL_act_912 : decode cL_act 912 = .ok (.goto 4, 3) := by decide +kernel
theorem dL_act_915 : decode cL_act 915 = .ok (.iconst 0, 1) := by decide +kernel
theorem dL_act_916 : decode cL_act 916 = .ok (.ireturn, 1) := by decide +kernel
set_option maxRecDepth 20000 in
theorem ggL_law_X5_init : GoodIn wsL_law wsX5_init := goodIn_r _ [6, 7, 8, 9, 10, 11, 12, 13, 14, 15, 16, 17, 18, 19, 20, 21, 22, 23, 24, 25, 26, 27, 28, 29, 30, 31, 32, 33, 34, 35, 36, 37, 38, 39, 40, 41, 42, 43, 44, 45, 46, 47, 48, 49, 50, 51, 52, 53, 54, 55, 56, 57, 58, 59, 60, 61, 62, 63, 64, 65, 66, 67, 68, 3, 69, 70, 71, 72, 73, 74, 75, 76, 77, 78, 79, 80, 81, 82, 83, 84, 85, 86, 87, 88, 89, 90, 476, 477, 478, 479, 480, 481, 482, 470, 471, 472, 473, 474, 475, 483, 484, 485, 486, 487, 488, 489, 490, 491, 492, 493, 494, 495, 496, 497, 498, 499, 500, 501, 502, 503, 504, 505, 506, 507] (by decide +kernel) (by decide +kernel)
set_option maxRecDepth 20000 in
theorem gL_law_X5_init : GoodIn wsL_law (wsX5_init) := ggL_law_X5_init
