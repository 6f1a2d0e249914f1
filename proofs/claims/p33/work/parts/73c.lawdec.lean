theorem dL_refuses_568 : decode cL_refuses 568 = .ok (.iconst 2, 1) := by decide +kernel
theorem dL_refuses_569 : decode cL_refuses 569 = .ok (.iconst 3, 1) := by decide +kernel
theorem dL_refuses_570 : decode cL_refuses 570 = .ok (.iload 20, 2) := by decide +kernel
theorem dL_refuses_572 : decode cL_refuses 572 = .ok (.invokestatic 117, 3) := by decide +kernel
theorem dL_refuses_575 : decode cL_refuses 575 = .ok (.ldc2_w 102, 3) := by decide +kernel
theorem dL_refuses_578 : decode cL_refuses 578 = .ok (.lcmp, 1) := by decide +kernel
theorem dL_refuses_579 : decode cL_refuses 579 = .ok (.ifCond .ne 28, 3) := by decide +kernel
theorem dL_refuses_582 : decode cL_refuses 582 = .ok (.aload_n 0, 1) := by decide +kernel
theorem dL_refuses_583 : decode cL_refuses 583 = .ok (.bipush 9, 2) := by decide +kernel
theorem dL_refuses_585 : decode cL_refuses 585 = .ok (.iconst 1, 1) := by decide +kernel
theorem dL_refuses_586 : decode cL_refuses 586 = .ok (.iload 11, 2) := by decide +kernel
theorem dL_refuses_588 : decode cL_refuses 588 = .ok (.iconst 1, 1) := by decide +kernel
theorem dL_refuses_589 : decode cL_refuses 589 = .ok (.iconst 1, 1) := by decide +kernel
theorem dL_refuses_590 : decode cL_refuses 590 = .ok (.iload 11, 2) := by decide +kernel
theorem dL_refuses_592 : decode cL_refuses 592 = .ok (.isub, 1) := by decide +kernel
theorem dL_refuses_593 : decode cL_refuses 593 = .ok (.invokestatic 117, 3) := by decide +kernel
theorem dL_refuses_596 : decode cL_refuses 596 = .ok (.ldc2_w 102, 3) := by decide +kernel
theorem dL_refuses_599 : decode cL_refuses 599 = .ok (.lcmp, 1) := by decide +kernel
theorem dL_refuses_600 : decode cL_refuses 600 = .ok (.ifCond .ne 7, 3) := by decide +kernel
theorem dL_refuses_603 : decode cL_refuses 603 = .ok (.iconst 1, 1) := by decide +kernel
theorem dL_refuses_604 : decode cL_refuses 604 = .ok (.goto 4, 3) := by decide +kernel
theorem dL_refuses_607 : decode cL_refuses 607 = .ok (.iconst 0, 1) := by decide +kernel
theorem dL_refuses_608 : decode cL_refuses 608 = .ok (.istore 22, 2) := by decide +kernel
theorem dL_refuses_610 : decode cL_refuses 610 = .ok (.bipush 10, 2) := by decide +kernel
theorem dL_refuses_612 : decode cL_refuses 612 = .ok (.istore 23, 2) := by decide +kernel
theorem dL_refuses_614 : decode cL_refuses 614 = .ok (.iload 23, 2) := by decide +kernel
theorem dL_refuses_616 : decode cL_refuses 616 = .ok (.bipush 14, 2) := by decide +kernel
theorem dL_refuses_618 : decode cL_refuses 618 = .ok (.if_icmp .ge 57, 3) := by decide +kernel
theorem dL_refuses_621 : decode cL_refuses 621 = .ok (.iload 22, 2) := by decide +kernel
theorem dL_refuses_623 : decode cL_refuses 623 = .ok (.ifCond .eq 43, 3) := by decide +kernel
theorem dL_refuses_626 : decode cL_refuses 626 = .ok (.aload_n 0, 1) := by decide +kernel
theorem dL_refuses_627 : decode cL_refuses 627 = .ok (.iload 23, 2) := by decide +kernel
theorem dL_refuses_629 : decode cL_refuses 629 = .ok (.iload 16, 2) := by decide +kernel
theorem dL_refuses_631 : decode cL_refuses 631 = .ok (.iconst 0, 1) := by decide +kernel
theorem dL_refuses_632 : decode cL_refuses 632 = .ok (.iconst 0, 1) := by decide +kernel
theorem dL_refuses_633 : decode cL_refuses 633 = .ok (.iconst 0, 1) := by decide +kernel
theorem dL_refuses_634 : decode cL_refuses 634 = .ok (.invokestatic 117, 3) := by decide +kernel
theorem dL_refuses_637 : decode cL_refuses 637 = .ok (.ldc2_w 98, 3) := by decide +kernel
theorem dL_refuses_640 : decode cL_refuses 640 = .ok (.lcmp, 1) := by decide +kernel
theorem dL_refuses_641 : decode cL_refuses 641 = .ok (.ifCond .ne 25, 3) := by decide +kernel
theorem dL_refuses_644 : decode cL_refuses 644 = .ok (.aload_n 0, 1) := by decide +kernel
theorem dL_refuses_645 : decode cL_refuses 645 = .ok (.iload 23, 2) := by decide +kernel
theorem dL_refuses_647 : decode cL_refuses 647 = .ok (.iconst 0, 1) := by decide +kernel
theorem dL_refuses_648 : decode cL_refuses 648 = .ok (.iload 17, 2) := by decide +kernel
theorem dL_refuses_650 : decode cL_refuses 650 = .ok (.iconst 0, 1) := by decide +kernel
theorem dL_refuses_651 : decode cL_refuses 651 = .ok (.iconst 0, 1) := by decide +kernel
theorem dL_refuses_652 : decode cL_refuses 652 = .ok (.invokestatic 117, 3) := by decide +kernel
theorem dL_refuses_655 : decode cL_refuses 655 = .ok (.ldc2_w 98, 3) := by decide +kernel
theorem dL_refuses_658 : decode cL_refuses 658 = .ok (.lcmp, 1) := by decide +kernel
theorem dL_refuses_659 : decode cL_refuses 659 = .ok (.ifCond .ne 7, 3) := by decide +kernel
theorem dL_refuses_662 : decode cL_refuses 662 = .ok (.iconst 1, 1) := by decide +kernel
theorem dL_refuses_663 : decode cL_refuses 663 = .ok (.goto 4, 3) := by decide +kernel
theorem dL_refuses_666 : decode cL_refuses 666 = .ok (.iconst 0, 1) := by decide +kernel
theorem dL_refuses_667 : decode cL_refuses 667 = .ok (.istore 22, 2) := by decide +kernel
theorem dL_refuses_669 : decode cL_refuses 669 = .ok (.iinc 23 1, 3) := by decide +kernel
theorem dL_refuses_672 : decode cL_refuses 672 = .ok (.goto (-58), 3) := by decide +kernel
theorem dL_refuses_675 : decode cL_refuses 675 = .ok (.bipush 14, 2) := by decide +kernel
theorem dL_refuses_677 : decode cL_refuses 677 = .ok (.istore 23, 2) := by decide +kernel
theorem dL_refuses_679 : decode cL_refuses 679 = .ok (.iload 23, 2) := by decide +kernel
theorem dL_refuses_681 : decode cL_refuses 681 = .ok (.bipush 17, 2) := by decide +kernel
theorem dL_refuses_683 : decode cL_refuses 683 = .ok (.if_icmp .ge 82, 3) := by decide +kernel
theorem dL_refuses_686 : decode cL_refuses 686 = .ok (.iload 22, 2) := by decide +kernel
theorem dL_refuses_688 : decode cL_refuses 688 = .ok (.ifCond .eq 68, 3) := by decide +kernel
theorem dL_refuses_691 : decode cL_refuses 691 = .ok (.aload_n 0, 1) := by decide +kernel
theorem dL_refuses_692 : decode cL_refuses 692 = .ok (.iload 23, 2) := by decide +kernel
theorem dL_refuses_694 : decode cL_refuses 694 = .ok (.iload 16, 2) := by decide +kernel
theorem dL_refuses_696 : decode cL_refuses 696 = .ok (.iconst 0, 1) := by decide +kernel
theorem dL_refuses_697 : decode cL_refuses 697 = .ok (.iconst 0, 1) := by decide +kernel
theorem dL_refuses_698 : decode cL_refuses 698 = .ok (.iconst 0, 1) := by decide +kernel
theorem dL_refuses_699 : decode cL_refuses 699 = .ok (.invokestatic 117, 3) := by decide +kernel
theorem dL_refuses_702 : decode cL_refuses 702 = .ok (.ldc2_w 98, 3) := by decide +kernel
theorem dL_refuses_705 : decode cL_refuses 705 = .ok (.lcmp, 1) := by decide +kernel
theorem dL_refuses_706 : decode cL_refuses 706 = .ok (.ifCond .ne 50, 3) := by decide +kernel
theorem dL_refuses_709 : decode cL_refuses 709 = .ok (.iload_n 2, 1) := by decide +kernel
theorem dL_refuses_710 : decode cL_refuses 710 = .ok (.ifCond .eq 42, 3) := by decide +kernel
theorem dL_refuses_713 : decode cL_refuses 713 = .ok (.aload_n 0, 1) := by decide +kernel
theorem dL_refuses_714 : decode cL_refuses 714 = .ok (.iload 23, 2) := by decide +kernel
theorem dL_refuses_716 : decode cL_refuses 716 = .ok (.iconst 0, 1) := by decide +kernel
theorem dL_refuses_717 : decode cL_refuses 717 = .ok (.iload 11, 2) := by decide +kernel
theorem dL_refuses_719 : decode cL_refuses 719 = .ok (.ifCond .ne 7, 3) := by decide +kernel
theorem dL_refuses_722 : decode cL_refuses 722 = .ok (.iconst 0, 1) := by decide +kernel
theorem dL_refuses_723 : decode cL_refuses 723 = .ok (.goto 17, 3) := by decide +kernel
theorem dL_refuses_726 : decode cL_refuses 726 = .ok (.iload 11, 2) := by decide +kernel
theorem dL_refuses_728 : decode cL_refuses 728 = .ok (.iconst 1, 1) := by decide +kernel
theorem dL_refuses_729 : decode cL_refuses 729 = .ok (.if_icmp .ne 9, 3) := by decide +kernel
theorem dL_refuses_732 : decode cL_refuses 732 = .ok (.sipush 1001, 3) := by decide +kernel
theorem dL_refuses_735 : decode cL_refuses 735 = .ok (.goto 5, 3) := by decide +kernel
theorem dL_refuses_738 : decode cL_refuses 738 = .ok (.iload 12, 2) := by decide +kernel
theorem dL_refuses_740 : decode cL_refuses 740 = .ok (.iconst 0, 1) := by decide +kernel
theorem dL_refuses_741 : decode cL_refuses 741 = .ok (.iconst 0, 1) := by decide +kernel
theorem dL_refuses_742 : decode cL_refuses 742 = .ok (.invokestatic 117, 3) := by decide +kernel
theorem dL_refuses_745 : decode cL_refuses 745 = .ok (.ldc2_w 102, 3) := by decide +kernel
theorem dL_refuses_748 : decode cL_refuses 748 = .ok (.lcmp, 1) := by decide +kernel
theorem dL_refuses_749 : decode cL_refuses 749 = .ok (.ifCond .ne 7, 3) := by decide +kernel
theorem dL_refuses_752 : decode cL_refuses 752 = .ok (.iconst 1, 1) := by decide +kernel
theorem dL_refuses_753 : decode cL_refuses 753 = .ok (.goto 4, 3) := by decide +kernel
theorem dL_refuses_756 : decode cL_refuses 756 = .ok (.iconst 0, 1) := by decide +kernel
theorem dL_refuses_757 : decode cL_refuses 757 = .ok (.istore 22, 2) := by decide +kernel
theorem dL_refuses_759 : decode cL_refuses 759 = .ok (.iinc 23 1, 3) := by decide +kernel
theorem dL_refuses_762 : decode cL_refuses 762 = .ok (.goto (-83), 3) := by decide +kernel
theorem dL_refuses_765 : decode cL_refuses 765 = .ok (.iload 22, 2) := by decide +kernel
theorem dL_refuses_767 : decode cL_refuses 767 = .ok (.ifCond .eq 560, 3) := by decide +kernel
theorem dL_refuses_770 : decode cL_refuses 770 = .ok (.iload_n 2, 1) := by decide +kernel
theorem dL_refuses_771 : decode cL_refuses 771 = .ok (.ifCond .eq 30, 3) := by decide +kernel
theorem dL_refuses_774 : decode cL_refuses 774 = .ok (.aload_n 0, 1) := by decide +kernel
theorem dL_refuses_775 : decode cL_refuses 775 = .ok (.bipush 16, 2) := by decide +kernel
theorem dL_refuses_777 : decode cL_refuses 777 = .ok (.iconst 0, 1) := by decide +kernel
theorem dL_refuses_778 : decode cL_refuses 778 = .ok (.iload 11, 2) := by decide +kernel
theorem dL_refuses_780 : decode cL_refuses 780 = .ok (.ifCond .ne 7, 3) := by decide +kernel
theorem dL_refuses_783 : decode cL_refuses 783 = .ok (.iconst 1, 1) := by decide +kernel
theorem dL_refuses_784 : decode cL_refuses 784 = .ok (.goto 5, 3) := by decide +kernel
theorem dL_refuses_787 : decode cL_refuses 787 = .ok (.bipush 9, 2) := by decide +kernel
theorem dL_refuses_789 : decode cL_refuses 789 = .ok (.iconst 0, 1) := by decide +kernel
theorem dL_refuses_790 : decode cL_refuses 790 = .ok (.iconst 0, 1) := by decide +kernel
theorem dL_refuses_791 : decode cL_refuses 791 = .ok (.invokestatic 117, 3) := by decide +kernel
theorem dL_refuses_794 : decode cL_refuses 794 = .ok (.ldc2_w 102, 3) := by decide +kernel
theorem dL_refuses_797 : decode cL_refuses 797 = .ok (.lcmp, 1) := by decide +kernel
theorem dL_refuses_798 : decode cL_refuses 798 = .ok (.ifCond .ne 529, 3) := by decide +kernel
theorem dL_refuses_801 : decode cL_refuses 801 = .ok (.aload_n 0, 1) := by decide +kernel
theorem dL_refuses_802 : decode cL_refuses 802 = .ok (.bipush 17, 2) := by decide +kernel
theorem dL_refuses_804 : decode cL_refuses 804 = .ok (.iload 19, 2) := by decide +kernel
theorem dL_refuses_806 : decode cL_refuses 806 = .ok (.iconst 1, 1) := by decide +kernel
theorem dL_refuses_807 : decode cL_refuses 807 = .ok (.iconst 0, 1) := by decide +kernel
theorem dL_refuses_808 : decode cL_refuses 808 = .ok (.iconst 1, 1) := by decide +kernel
theorem dL_refuses_809 : decode cL_refuses 809 = .ok (.invokestatic 117, 3) := by decide +kernel
theorem dL_refuses_812 : decode cL_refuses 812 = .ok (.ldc2_w 102, 3) := by decide +kernel
theorem dL_refuses_815 : decode cL_refuses 815 = .ok (.lcmp, 1) := by decide +kernel
theorem dL_refuses_816 : decode cL_refuses 816 = .ok (.ifCond .ne 511, 3) := by decide +kernel
theorem dL_refuses_819 : decode cL_refuses 819 = .ok (.aload_n 0, 1) := by decide +kernel
theorem dL_refuses_820 : decode cL_refuses 820 = .ok (.bipush 17, 2) := by decide +kernel
theorem dL_refuses_822 : decode cL_refuses 822 = .ok (.iconst 1, 1) := by decide +kernel
theorem dL_refuses_823 : decode cL_refuses 823 = .ok (.iload 11, 2) := by decide +kernel
theorem dL_refuses_825 : decode cL_refuses 825 = .ok (.ifCond .ne 7, 3) := by decide +kernel
theorem dL_refuses_828 : decode cL_refuses 828 = .ok (.iconst 0, 1) := by decide +kernel
theorem dL_refuses_829 : decode cL_refuses 829 = .ok (.goto 5, 3) := by decide +kernel
theorem dL_refuses_832 : decode cL_refuses 832 = .ok (.iload 19, 2) := by decide +kernel
theorem dL_refuses_834 : decode cL_refuses 834 = .ok (.iconst 0, 1) := by decide +kernel
theorem dL_refuses_835 : decode cL_refuses 835 = .ok (.iconst 1, 1) := by decide +kernel
theorem dL_refuses_836 : decode cL_refuses 836 = .ok (.invokestatic 117, 3) := by decide +kernel
theorem dL_refuses_839 : decode cL_refuses 839 = .ok (.ldc2_w 102, 3) := by decide +kernel
theorem dL_refuses_842 : decode cL_refuses 842 = .ok (.lcmp, 1) := by decide +kernel
theorem dL_refuses_843 : decode cL_refuses 843 = .ok (.ifCond .ne 484, 3) := by decide +kernel
theorem dL_refuses_846 : decode cL_refuses 846 = .ok (.aload_n 0, 1) := by decide +kernel
theorem dL_refuses_847 : decode cL_refuses 847 = .ok (.bipush 17, 2) := by decide +kernel
theorem dL_refuses_849 : decode cL_refuses 849 = .ok (.iconst 0, 1) := by decide +kernel
theorem dL_refuses_850 : decode cL_refuses 850 = .ok (.iconst 1, 1) := by decide +kernel
theorem dL_refuses_851 : decode cL_refuses 851 = .ok (.iconst 2, 1) := by decide +kernel
theorem dL_refuses_852 : decode cL_refuses 852 = .ok (.iload 11, 2) := by decide +kernel
theorem dL_refuses_854 : decode cL_refuses 854 = .ok (.iadd, 1) := by decide +kernel
theorem dL_refuses_855 : decode cL_refuses 855 = .ok (.iconst 2, 1) := by decide +kernel
theorem dL_refuses_856 : decode cL_refuses 856 = .ok (.iload 11, 2) := by decide +kernel
theorem dL_refuses_858 : decode cL_refuses 858 = .ok (.iadd, 1) := by decide +kernel
theorem dL_refuses_859 : decode cL_refuses 859 = .ok (.invokestatic 117, 3) := by decide +kernel
theorem dL_refuses_862 : decode cL_refuses 862 = .ok (.ldc2_w 102, 3) := by decide +kernel
theorem dL_refuses_865 : decode cL_refuses 865 = .ok (.lcmp, 1) := by decide +kernel
theorem dL_refuses_866 : decode cL_refuses 866 = .ok (.ifCond .ne 461, 3) := by decide +kernel
theorem dL_refuses_869 : decode cL_refuses 869 = .ok (.aload_n 0, 1) := by decide +kernel
theorem dL_refuses_870 : decode cL_refuses 870 = .ok (.bipush 18, 2) := by decide +kernel
theorem dL_refuses_872 : decode cL_refuses 872 = .ok (.iconst 0, 1) := by decide +kernel
theorem dL_refuses_873 : decode cL_refuses 873 = .ok (.iconst 1, 1) := by decide +kernel
theorem dL_refuses_874 : decode cL_refuses 874 = .ok (.iconst 1, 1) := by decide +kernel
theorem dL_refuses_875 : decode cL_refuses 875 = .ok (.iload 11, 2) := by decide +kernel
theorem dL_refuses_877 : decode cL_refuses 877 = .ok (.ifCond .ne 7, 3) := by decide +kernel
theorem dL_refuses_880 : decode cL_refuses 880 = .ok (.iconst 0, 1) := by decide +kernel
theorem dL_refuses_881 : decode cL_refuses 881 = .ok (.goto 5, 3) := by decide +kernel
theorem dL_refuses_884 : decode cL_refuses 884 = .ok (.iload 19, 2) := by decide +kernel
theorem dL_refuses_886 : decode cL_refuses 886 = .ok (.invokestatic 117, 3) := by decide +kernel
theorem dL_refuses_889 : decode cL_refuses 889 = .ok (.ldc2_w 102, 3) := by decide +kernel
theorem dL_refuses_892 : decode cL_refuses 892 = .ok (.lcmp, 1) := by decide +kernel
theorem dL_refuses_893 : decode cL_refuses 893 = .ok (.ifCond .ne 434, 3) := by decide +kernel
theorem dL_refuses_896 : decode cL_refuses 896 = .ok (.aload_n 0, 1) := by decide +kernel
theorem dL_refuses_897 : decode cL_refuses 897 = .ok (.bipush 18, 2) := by decide +kernel
theorem dL_refuses_899 : decode cL_refuses 899 = .ok (.iconst 3, 1) := by decide +kernel
theorem dL_refuses_900 : decode cL_refuses 900 = .ok (.bipush 6, 2) := by decide +kernel
theorem dL_refuses_902 : decode cL_refuses 902 = .ok (.iconst 1, 1) := by decide +kernel
theorem dL_refuses_903 : decode cL_refuses 903 = .ok (.bipush 7, 2) := by decide +kernel
theorem dL_refuses_905 : decode cL_refuses 905 = .ok (.invokestatic 117, 3) := by decide +kernel
theorem dL_refuses_908 : decode cL_refuses 908 = .ok (.ldc2_w 102, 3) := by decide +kernel
theorem dL_refuses_911 : decode cL_refuses 911 = .ok (.lcmp, 1) := by decide +kernel
theorem dL_refuses_912 : decode cL_refuses 912 = .ok (.ifCond .ne 415, 3) := by decide +kernel
theorem dL_refuses_915 : decode cL_refuses 915 = .ok (.aload_n 0, 1) := by decide +kernel
theorem dL_refuses_916 : decode cL_refuses 916 = .ok (.bipush 18, 2) := by decide +kernel
theorem dL_refuses_918 : decode cL_refuses 918 = .ok (.iconst 5, 1) := by decide +kernel
theorem dL_refuses_919 : decode cL_refuses 919 = .ok (.bipush 7, 2) := by decide +kernel
theorem dL_refuses_921 : decode cL_refuses 921 = .ok (.iconst 5, 1) := by decide +kernel
theorem dL_refuses_922 : decode cL_refuses 922 = .ok (.bipush 7, 2) := by decide +kernel
theorem dL_refuses_924 : decode cL_refuses 924 = .ok (.invokestatic 117, 3) := by decide +kernel
theorem dL_refuses_927 : decode cL_refuses 927 = .ok (.ldc2_w 102, 3) := by decide +kernel
theorem dL_refuses_930 : decode cL_refuses 930 = .ok (.lcmp, 1) := by decide +kernel
theorem dL_refuses_931 : decode cL_refuses 931 = .ok (.ifCond .ne 396, 3) := by decide +kernel
theorem dL_refuses_934 : decode cL_refuses 934 = .ok (.aload_n 0, 1) := by decide +kernel
theorem dL_refuses_935 : decode cL_refuses 935 = .ok (.bipush 19, 2) := by decide +kernel
theorem dL_refuses_937 : decode cL_refuses 937 = .ok (.iload 11, 2) := by decide +kernel
theorem dL_refuses_939 : decode cL_refuses 939 = .ok (.iconst 1, 1) := by decide +kernel
theorem dL_refuses_940 : decode cL_refuses 940 = .ok (.if_icmp .ne 9, 3) := by decide +kernel
theorem dL_refuses_943 : decode cL_refuses 943 = .ok (.sipush 1001, 3) := by decide +kernel
theorem dL_refuses_946 : decode cL_refuses 946 = .ok (.goto 16, 3) := by decide +kernel
theorem dL_refuses_949 : decode cL_refuses 949 = .ok (.iload 11, 2) := by decide +kernel
theorem dL_refuses_951 : decode cL_refuses 951 = .ok (.ifCond .ne 9, 3) := by decide +kernel
theorem dL_refuses_954 : decode cL_refuses 954 = .ok (.sipush (-1001), 3) := by decide +kernel
theorem dL_refuses_957 : decode cL_refuses 957 = .ok (.goto 5, 3) := by decide +kernel
theorem dL_refuses_960 : decode cL_refuses 960 = .ok (.iload 12, 2) := by decide +kernel
theorem dL_refuses_962 : decode cL_refuses 962 = .ok (.iconst 0, 1) := by decide +kernel
theorem dL_refuses_963 : decode cL_refuses 963 = .ok (.iconst 0, 1) := by decide +kernel
theorem dL_refuses_964 : decode cL_refuses 964 = .ok (.iconst 1, 1) := by decide +kernel
theorem dL_refuses_965 : decode cL_refuses 965 = .ok (.invokestatic 117, 3) := by decide +kernel
theorem dL_refuses_968 : decode cL_refuses 968 = .ok (.ldc2_w 102, 3) := by decide +kernel
theorem dL_refuses_971 : decode cL_refuses 971 = .ok (.lcmp, 1) := by decide +kernel
theorem dL_refuses_972 : decode cL_refuses 972 = .ok (.ifCond .ne 355, 3) := by decide +kernel
theorem dL_refuses_975 : decode cL_refuses 975 = .ok (.aload_n 0, 1) := by decide +kernel
theorem dL_refuses_976 : decode cL_refuses 976 = .ok (.bipush 19, 2) := by decide +kernel
theorem dL_refuses_978 : decode cL_refuses 978 = .ok (.iconst 1, 1) := by decide +kernel
theorem dL_refuses_979 : decode cL_refuses 979 = .ok (.iconst 1, 1) := by decide +kernel
theorem dL_refuses_980 : decode cL_refuses 980 = .ok (.iconst 1, 1) := by decide +kernel
theorem dL_refuses_981 : decode cL_refuses 981 = .ok (.iload 11, 2) := by decide +kernel
theorem dL_refuses_983 : decode cL_refuses 983 = .ok (.iconst 3, 1) := by decide +kernel
theorem dL_refuses_984 : decode cL_refuses 984 = .ok (.iadd, 1) := by decide +kernel
theorem dL_refuses_985 : decode cL_refuses 985 = .ok (.invokestatic 117, 3) := by decide +kernel
theorem dL_refuses_988 : decode cL_refuses 988 = .ok (.ldc2_w 102, 3) := by decide +kernel
theorem dL_refuses_991 : decode cL_refuses 991 = .ok (.lcmp, 1) := by decide +kernel
theorem dL_refuses_992 : decode cL_refuses 992 = .ok (.ifCond .ne 335, 3) := by decide +kernel
theorem dL_refuses_995 : decode cL_refuses 995 = .ok (.aload_n 0, 1) := by decide +kernel
theorem dL_refuses_996 : decode cL_refuses 996 = .ok (.bipush 20, 2) := by decide +kernel
theorem dL_refuses_998 : decode cL_refuses 998 = .ok (.iload 11, 2) := by decide +kernel
theorem dL_refuses_1000 : decode cL_refuses 1000 = .ok (.iconst 1, 1) := by decide +kernel
theorem dL_refuses_1001 : decode cL_refuses 1001 = .ok (.if_icmp .ne 7, 3) := by decide +kernel
theorem dL_refuses_1004 : decode cL_refuses 1004 = .ok (.iload_n 3, 1) := by decide +kernel
theorem dL_refuses_1005 : decode cL_refuses 1005 = .ok (.goto 5, 3) := by decide +kernel
theorem dL_refuses_1008 : decode cL_refuses 1008 = .ok (.iload 12, 2) := by decide +kernel
theorem dL_refuses_1010 : decode cL_refuses 1010 = .ok (.iconst 0, 1) := by decide +kernel
theorem dL_refuses_1011 : decode cL_refuses 1011 = .ok (.iconst 0, 1) := by decide +kernel
theorem dL_refuses_1012 : decode cL_refuses 1012 = .ok (.iconst 0, 1) := by decide +kernel
theorem dL_refuses_1013 : decode cL_refuses 1013 = .ok (.invokestatic 117, 3) := by decide +kernel
theorem dL_refuses_1016 : decode cL_refuses 1016 = .ok (.ldc2_w 98, 3) := by decide +kernel
theorem dL_refuses_1019 : decode cL_refuses 1019 = .ok (.lcmp, 1) := by decide +kernel
theorem dL_refuses_1020 : decode cL_refuses 1020 = .ok (.ifCond .ne 307, 3) := by decide +kernel
theorem dL_refuses_1023 : decode cL_refuses 1023 = .ok (.aload_n 0, 1) := by decide +kernel
theorem dL_refuses_1024 : decode cL_refuses 1024 = .ok (.bipush 21, 2) := by decide +kernel
theorem dL_refuses_1026 : decode cL_refuses 1026 = .ok (.iload 11, 2) := by decide +kernel
theorem dL_refuses_1028 : decode cL_refuses 1028 = .ok (.iconst 1, 1) := by decide +kernel
theorem dL_refuses_1029 : decode cL_refuses 1029 = .ok (.if_icmp .ne 7, 3) := by decide +kernel
theorem dL_refuses_1032 : decode cL_refuses 1032 = .ok (.iconst 5, 1) := by decide +kernel
theorem dL_refuses_1033 : decode cL_refuses 1033 = .ok (.goto 5, 3) := by decide +kernel
theorem dL_refuses_1036 : decode cL_refuses 1036 = .ok (.iload 12, 2) := by decide +kernel
theorem dL_refuses_1038 : decode cL_refuses 1038 = .ok (.iconst 0, 1) := by decide +kernel
theorem dL_refuses_1039 : decode cL_refuses 1039 = .ok (.iconst 0, 1) := by decide +kernel
theorem dL_refuses_1040 : decode cL_refuses 1040 = .ok (.iconst 0, 1) := by decide +kernel
theorem dL_refuses_1041 : decode cL_refuses 1041 = .ok (.invokestatic 117, 3) := by decide +kernel
theorem dL_refuses_1044 : decode cL_refuses 1044 = .ok (.ldc2_w 98, 3) := by decide +kernel
theorem dL_refuses_1047 : decode cL_refuses 1047 = .ok (.lcmp, 1) := by decide +kernel
theorem dL_refuses_1048 : decode cL_refuses 1048 = .ok (.ifCond .ne 279, 3) := by decide +kernel
theorem dL_refuses_1051 : decode cL_refuses 1051 = .ok (.aload_n 0, 1) := by decide +kernel
theorem dL_refuses_1052 : decode cL_refuses 1052 = .ok (.bipush 22, 2) := by decide +kernel
theorem dL_refuses_1054 : decode cL_refuses 1054 = .ok (.iload 19, 2) := by decide +kernel
theorem dL_refuses_1056 : decode cL_refuses 1056 = .ok (.iconst 1, 1) := by decide +kernel
theorem dL_refuses_1057 : decode cL_refuses 1057 = .ok (.iconst 0, 1) := by decide +kernel
theorem dL_refuses_1058 : decode cL_refuses 1058 = .ok (.iconst 0, 1) := by decide +kernel
theorem dL_refuses_1059 : decode cL_refuses 1059 = .ok (.invokestatic 117, 3) := by decide +kernel
theorem dL_refuses_1062 : decode cL_refuses 1062 = .ok (.ldc2_w 102, 3) := by decide +kernel
theorem dL_refuses_1065 : decode cL_refuses 1065 = .ok (.lcmp, 1) := by decide +kernel
theorem dL_refuses_1066 : decode cL_refuses 1066 = .ok (.ifCond .ne 261, 3) := by decide +kernel
theorem dL_refuses_1069 : decode cL_refuses 1069 = .ok (.aload_n 0, 1) := by decide +kernel
theorem dL_refuses_1070 : decode cL_refuses 1070 = .ok (.bipush 22, 2) := by decide +kernel
theorem dL_refuses_1072 : decode cL_refuses 1072 = .ok (.iconst 1, 1) := by decide +kernel
theorem dL_refuses_1073 : decode cL_refuses 1073 = .ok (.iload 11, 2) := by decide +kernel
theorem dL_refuses_1075 : decode cL_refuses 1075 = .ok (.ifCond .ne 7, 3) := by decide +kernel
theorem dL_refuses_1078 : decode cL_refuses 1078 = .ok (.iconst (-1), 1) := by decide +kernel
theorem dL_refuses_1079 : decode cL_refuses 1079 = .ok (.goto 5, 3) := by decide +kernel
theorem dL_refuses_1082 : decode cL_refuses 1082 = .ok (.iload 19, 2) := by decide +kernel
theorem dL_refuses_1084 : decode cL_refuses 1084 = .ok (.iconst 0, 1) := by decide +kernel
theorem dL_refuses_1085 : decode cL_refuses 1085 = .ok (.iconst 0, 1) := by decide +kernel
theorem dL_refuses_1086 : decode cL_refuses 1086 = .ok (.invokestatic 117, 3) := by decide +kernel
theorem dL_refuses_1089 : decode cL_refuses 1089 = .ok (.ldc2_w 102, 3) := by decide +kernel
theorem dL_refuses_1092 : decode cL_refuses 1092 = .ok (.lcmp, 1) := by decide +kernel
theorem dL_refuses_1093 : decode cL_refuses 1093 = .ok (.ifCond .ne 234, 3) := by decide +kernel
theorem dL_refuses_1096 : decode cL_refuses 1096 = .ok (.aload_n 0, 1) := by decide +kernel
theorem dL_refuses_1097 : decode cL_refuses 1097 = .ok (.bipush 22, 2) := by decide +kernel
theorem dL_refuses_1099 : decode cL_refuses 1099 = .ok (.iload 11, 2) := by decide +kernel
theorem dL_refuses_1101 : decode cL_refuses 1101 = .ok (.iconst 1, 1) := by decide +kernel
theorem dL_refuses_1102 : decode cL_refuses 1102 = .ok (.if_icmp .ne 7, 3) := by decide +kernel
