theorem dL_law_541 : decode cL_law 541 = .ok (.iload 13, 2) := by decide +kernel
theorem dL_law_543 : decode cL_law 543 = .ok (.idiv, 1) := by decide +kernel
theorem dL_law_544 : decode cL_law 544 = .ok (.istore 15, 2) := by decide +kernel
theorem dL_law_546 : decode cL_law 546 = .ok (.aload_n 1, 1) := by decide +kernel
theorem dL_law_547 : decode cL_law 547 = .ok (.bipush 9, 2) := by decide +kernel
theorem dL_law_549 : decode cL_law 549 = .ok (.iload 12, 2) := by decide +kernel
theorem dL_law_551 : decode cL_law 551 = .ok (.ineg, 1) := by decide +kernel
theorem dL_law_552 : decode cL_law 552 = .ok (.iload 12, 2) := by decide +kernel
theorem dL_law_554 : decode cL_law 554 = .ok (.iload 13, 2) := by decide +kernel
theorem dL_law_556 : decode cL_law 556 = .ok (.iadd, 1) := by decide +kernel
theorem dL_law_557 : decode cL_law 557 = .ok (.iload 12, 2) := by decide +kernel
theorem dL_law_559 : decode cL_law 559 = .ok (.iload 15, 2) := by decide +kernel
theorem dL_law_561 : decode cL_law 561 = .ok (.iadd, 1) := by decide +kernel
theorem dL_law_562 : decode cL_law 562 = .ok (.iload 12, 2) := by decide +kernel
theorem dL_law_564 : decode cL_law 564 = .ok (.iload 13, 2) := by decide +kernel
theorem dL_law_566 : decode cL_law 566 = .ok (.iadd, 1) := by decide +kernel
theorem dL_law_567 : decode cL_law 567 = .ok (.iload 15, 2) := by decide +kernel
theorem dL_law_569 : decode cL_law 569 = .ok (.iadd, 1) := by decide +kernel
theorem dL_law_570 : decode cL_law 570 = .ok (.invokestatic 117, 3) := by decide +kernel
theorem dL_law_573 : decode cL_law 573 = .ok (.lstore 16, 2) := by decide +kernel
theorem dL_law_575 : decode cL_law 575 = .ok (.iload 14, 2) := by decide +kernel
theorem dL_law_577 : decode cL_law 577 = .ok (.ifCond .ne 11, 3) := by decide +kernel
theorem dL_law_580 : decode cL_law 580 = .ok (.lload 16, 2) := by decide +kernel
theorem dL_law_582 : decode cL_law 582 = .ok (.iload_n 3, 1) := by decide +kernel
theorem dL_law_583 : decode cL_law 583 = .ok (.i2l, 1) := by decide +kernel
theorem dL_law_584 : decode cL_law 584 = .ok (.lcmp, 1) := by decide +kernel
theorem dL_law_585 : decode cL_law 585 = .ok (.ifCond .eq 27, 3) := by decide +kernel
theorem dL_law_588 : decode cL_law 588 = .ok (.iload 14, 2) := by decide +kernel
theorem dL_law_590 : decode cL_law 590 = .ok (.ifCond .eq 24, 3) := by decide +kernel
theorem dL_law_593 : decode cL_law 593 = .ok (.lload 16, 2) := by decide +kernel
theorem dL_law_595 : decode cL_law 595 = .ok (.iload_n 3, 1) := by decide +kernel
theorem dL_law_596 : decode cL_law 596 = .ok (.bipush 8, 2) := by decide +kernel
theorem dL_law_598 : decode cL_law 598 = .ok (.if_icmp .ge 7, 3) := by decide +kernel
theorem dL_law_601 : decode cL_law 601 = .ok (.iload_n 3, 1) := by decide +kernel
theorem dL_law_602 : decode cL_law 602 = .ok (.goto 5, 3) := by decide +kernel
theorem dL_law_605 : decode cL_law 605 = .ok (.ldc 140, 2) := by decide +kernel
theorem dL_law_607 : decode cL_law 607 = .ok (.i2l, 1) := by decide +kernel
theorem dL_law_608 : decode cL_law 608 = .ok (.lcmp, 1) := by decide +kernel
theorem dL_law_609 : decode cL_law 609 = .ok (.ifCond .eq 5, 3) := by decide +kernel
theorem dL_law_612 : decode cL_law 612 = .ok (.iconst 0, 1) := by decide +kernel
theorem dL_law_613 : decode cL_law 613 = .ok (.ireturn, 1) := by decide +kernel
theorem dL_law_614 : decode cL_law 614 = .ok (.iload_n 3, 1) := by decide +kernel
theorem dL_law_615 : decode cL_law 615 = .ok (.iload 14, 2) := by decide +kernel
theorem dL_law_617 : decode cL_law 617 = .ok (.ifCond .eq 13, 3) := by decide +kernel
theorem dL_law_620 : decode cL_law 620 = .ok (.iload_n 3, 1) := by decide +kernel
theorem dL_law_621 : decode cL_law 621 = .ok (.bipush 8, 2) := by decide +kernel
theorem dL_law_623 : decode cL_law 623 = .ok (.if_icmp .ge 7, 3) := by decide +kernel
theorem dL_law_626 : decode cL_law 626 = .ok (.iconst 1, 1) := by decide +kernel
theorem dL_law_627 : decode cL_law 627 = .ok (.goto 4, 3) := by decide +kernel
theorem dL_law_630 : decode cL_law 630 = .ok (.iconst 0, 1) := by decide +kernel
theorem dL_law_631 : decode cL_law 631 = .ok (.iadd, 1) := by decide +kernel
theorem dL_law_632 : decode cL_law 632 = .ok (.istore_n 3, 1) := by decide +kernel
theorem dL_law_633 : decode cL_law 633 = .ok (.iload 14, 2) := by decide +kernel
theorem dL_law_635 : decode cL_law 635 = .ok (.ifCond .eq 46, 3) := by decide +kernel
theorem dL_law_638 : decode cL_law 638 = .ok (.lload 16, 2) := by decide +kernel
theorem dL_law_640 : decode cL_law 640 = .ok (.lconst 0, 1) := by decide +kernel
theorem dL_law_641 : decode cL_law 641 = .ok (.lcmp, 1) := by decide +kernel
theorem dL_law_642 : decode cL_law 642 = .ok (.ifCond .lt 39, 3) := by decide +kernel
theorem dL_law_645 : decode cL_law 645 = .ok (.aload_n 1, 1) := by decide +kernel
theorem dL_law_646 : decode cL_law 646 = .ok (.lload 16, 2) := by decide +kernel
theorem dL_law_648 : decode cL_law 648 = .ok (.l2i, 1) := by decide +kernel
theorem dL_law_649 : decode cL_law 649 = .ok (.iconst 0, 1) := by decide +kernel
theorem dL_law_650 : decode cL_law 650 = .ok (.invokevirtual 54, 3) := by decide +kernel
theorem dL_law_653 : decode cL_law 653 = .ok (.lconst 0, 1) := by decide +kernel
theorem dL_law_654 : decode cL_law 654 = .ok (.lcmp, 1) := by decide +kernel
theorem dL_law_655 : decode cL_law 655 = .ok (.ifCond .ge 24, 3) := by decide +kernel
theorem dL_law_658 : decode cL_law 658 = .ok (.aload_n 1, 1) := by decide +kernel
theorem dL_law_659 : decode cL_law 659 = .ok (.lload 16, 2) := by decide +kernel
theorem dL_law_661 : decode cL_law 661 = .ok (.l2i, 1) := by decide +kernel
theorem dL_law_662 : decode cL_law 662 = .ok (.bipush 60, 2) := by decide +kernel
theorem dL_law_664 : decode cL_law 664 = .ok (.invokevirtual 57, 3) := by decide +kernel
theorem dL_law_667 : decode cL_law 667 = .ok (.aload_n 1, 1) := by decide +kernel
theorem dL_law_668 : decode cL_law 668 = .ok (.lload 16, 2) := by decide +kernel
theorem dL_law_670 : decode cL_law 670 = .ok (.l2i, 1) := by decide +kernel
theorem dL_law_671 : decode cL_law 671 = .ok (.bipush 60, 2) := by decide +kernel
theorem dL_law_673 : decode cL_law 673 = .ok (.invokevirtual 60, 3) := by decide +kernel
theorem dL_law_676 : decode cL_law 676 = .ok (.if_icmp .eq 5, 3) := by decide +kernel
theorem dL_law_679 : decode cL_law 679 = .ok (.iconst 0, 1) := by decide +kernel
theorem dL_law_680 : decode cL_law 680 = .ok (.ireturn, 1) := by decide +kernel
theorem dL_law_681 : decode cL_law 681 = .ok (.goto 526, 3) := by decide +kernel
theorem dL_law_684 : decode cL_law 684 = .ok (.iload 9, 2) := by decide +kernel
theorem dL_law_686 : decode cL_law 686 = .ok (.bipush 7, 2) := by decide +kernel
theorem dL_law_688 : decode cL_law 688 = .ok (.if_icmp .ne 75, 3) := by decide +kernel
theorem dL_law_691 : decode cL_law 691 = .ok (.iload_n 3, 1) := by decide +kernel
theorem dL_law_692 : decode cL_law 692 = .ok (.ifCond .le 71, 3) := by decide +kernel
theorem dL_law_695 : decode cL_law 695 = .ok (.iload 10, 2) := by decide +kernel
theorem dL_law_697 : decode cL_law 697 = .ok (.iload_n 3, 1) := by decide +kernel
theorem dL_law_698 : decode cL_law 698 = .ok (.irem, 1) := by decide +kernel
theorem dL_law_699 : decode cL_law 699 = .ok (.istore 12, 2) := by decide +kernel
theorem dL_law_701 : decode cL_law 701 = .ok (.aload_n 1, 1) := by decide +kernel
theorem dL_law_702 : decode cL_law 702 = .ok (.iload 12, 2) := by decide +kernel
theorem dL_law_704 : decode cL_law 704 = .ok (.iload 11, 2) := by decide +kernel
theorem dL_law_706 : decode cL_law 706 = .ok (.iconst 4, 1) := by decide +kernel
theorem dL_law_707 : decode cL_law 707 = .ok (.irem, 1) := by decide +kernel
theorem dL_law_708 : decode cL_law 708 = .ok (.invokevirtual 47, 3) := by decide +kernel
theorem dL_law_711 : decode cL_law 711 = .ok (.lstore 13, 2) := by decide +kernel
theorem dL_law_713 : decode cL_law 713 = .ok (.aload_n 1, 1) := by decide +kernel
theorem dL_law_714 : decode cL_law 714 = .ok (.bipush 10, 2) := by decide +kernel
theorem dL_law_716 : decode cL_law 716 = .ok (.iload 12, 2) := by decide +kernel
theorem dL_law_718 : decode cL_law 718 = .ok (.iload 11, 2) := by decide +kernel
theorem dL_law_720 : decode cL_law 720 = .ok (.iconst 4, 1) := by decide +kernel
theorem dL_law_721 : decode cL_law 721 = .ok (.irem, 1) := by decide +kernel
theorem dL_law_722 : decode cL_law 722 = .ok (.iconst 0, 1) := by decide +kernel
theorem dL_law_723 : decode cL_law 723 = .ok (.iconst 0, 1) := by decide +kernel
theorem dL_law_724 : decode cL_law 724 = .ok (.invokestatic 117, 3) := by decide +kernel
theorem dL_law_727 : decode cL_law 727 = .ok (.lstore 15, 2) := by decide +kernel
theorem dL_law_729 : decode cL_law 729 = .ok (.lload 15, 2) := by decide +kernel
theorem dL_law_731 : decode cL_law 731 = .ok (.ldc2_w 106, 3) := by decide +kernel
theorem dL_law_734 : decode cL_law 734 = .ok (.lcmp, 1) := by decide +kernel
theorem dL_law_735 : decode cL_law 735 = .ok (.ifCond .eq 25, 3) := by decide +kernel
theorem dL_law_738 : decode cL_law 738 = .ok (.aload_n 1, 1) := by decide +kernel
theorem dL_law_739 : decode cL_law 739 = .ok (.bipush 10, 2) := by decide +kernel
theorem dL_law_741 : decode cL_law 741 = .ok (.iload 12, 2) := by decide +kernel
theorem dL_law_743 : decode cL_law 743 = .ok (.iload 11, 2) := by decide +kernel
theorem dL_law_745 : decode cL_law 745 = .ok (.iconst 4, 1) := by decide +kernel
theorem dL_law_746 : decode cL_law 746 = .ok (.irem, 1) := by decide +kernel
theorem dL_law_747 : decode cL_law 747 = .ok (.iconst 0, 1) := by decide +kernel
theorem dL_law_748 : decode cL_law 748 = .ok (.iconst 0, 1) := by decide +kernel
theorem dL_law_749 : decode cL_law 749 = .ok (.invokestatic 117, 3) := by decide +kernel
theorem dL_law_752 : decode cL_law 752 = .ok (.lload 13, 2) := by decide +kernel
theorem dL_law_754 : decode cL_law 754 = .ok (.lcmp, 1) := by decide +kernel
theorem dL_law_755 : decode cL_law 755 = .ok (.ifCond .eq 5, 3) := by decide +kernel
theorem dL_law_758 : decode cL_law 758 = .ok (.iconst 0, 1) := by decide +kernel
theorem dL_law_759 : decode cL_law 759 = .ok (.ireturn, 1) := by decide +kernel
theorem dL_law_760 : decode cL_law 760 = .ok (.goto 447, 3) := by decide +kernel
theorem dL_law_763 : decode cL_law 763 = .ok (.iload 9, 2) := by decide +kernel
theorem dL_law_765 : decode cL_law 765 = .ok (.bipush 9, 2) := by decide +kernel
theorem dL_law_767 : decode cL_law 767 = .ok (.if_icmp .ge 100, 3) := by decide +kernel
theorem dL_law_770 : decode cL_law 770 = .ok (.iload 10, 2) := by decide +kernel
theorem dL_law_772 : decode cL_law 772 = .ok (.bipush 41, 2) := by decide +kernel
theorem dL_law_774 : decode cL_law 774 = .ok (.irem, 1) := by decide +kernel
theorem dL_law_775 : decode cL_law 775 = .ok (.bipush 20, 2) := by decide +kernel
theorem dL_law_777 : decode cL_law 777 = .ok (.isub, 1) := by decide +kernel
theorem dL_law_778 : decode cL_law 778 = .ok (.istore 12, 2) := by decide +kernel
theorem dL_law_780 : decode cL_law 780 = .ok (.iconst 1, 1) := by decide +kernel
theorem dL_law_781 : decode cL_law 781 = .ok (.iload 11, 2) := by decide +kernel
theorem dL_law_783 : decode cL_law 783 = .ok (.bipush 20, 2) := by decide +kernel
theorem dL_law_785 : decode cL_law 785 = .ok (.irem, 1) := by decide +kernel
theorem dL_law_786 : decode cL_law 786 = .ok (.iadd, 1) := by decide +kernel
theorem dL_law_787 : decode cL_law 787 = .ok (.istore 13, 2) := by decide +kernel
theorem dL_law_789 : decode cL_law 789 = .ok (.iload 11, 2) := by decide +kernel
theorem dL_law_791 : decode cL_law 791 = .ok (.bipush 41, 2) := by decide +kernel
theorem dL_law_793 : decode cL_law 793 = .ok (.irem, 1) := by decide +kernel
theorem dL_law_794 : decode cL_law 794 = .ok (.bipush 20, 2) := by decide +kernel
theorem dL_law_796 : decode cL_law 796 = .ok (.isub, 1) := by decide +kernel
theorem dL_law_797 : decode cL_law 797 = .ok (.istore 14, 2) := by decide +kernel
theorem dL_law_799 : decode cL_law 799 = .ok (.aload_n 1, 1) := by decide +kernel
theorem dL_law_800 : decode cL_law 800 = .ok (.bipush 18, 2) := by decide +kernel
theorem dL_law_802 : decode cL_law 802 = .ok (.iload 12, 2) := by decide +kernel
theorem dL_law_804 : decode cL_law 804 = .ok (.iload 13, 2) := by decide +kernel
theorem dL_law_806 : decode cL_law 806 = .ok (.iload 14, 2) := by decide +kernel
theorem dL_law_808 : decode cL_law 808 = .ok (.iconst 1, 1) := by decide +kernel
theorem dL_law_809 : decode cL_law 809 = .ok (.invokestatic 117, 3) := by decide +kernel
theorem dL_law_812 : decode cL_law 812 = .ok (.lstore 15, 2) := by decide +kernel
theorem dL_law_814 : decode cL_law 814 = .ok (.lload 15, 2) := by decide +kernel
theorem dL_law_816 : decode cL_law 816 = .ok (.ldc2_w 102, 3) := by decide +kernel
theorem dL_law_819 : decode cL_law 819 = .ok (.lcmp, 1) := by decide +kernel
theorem dL_law_820 : decode cL_law 820 = .ok (.ifCond .eq 44, 3) := by decide +kernel
theorem dL_law_823 : decode cL_law 823 = .ok (.aload_n 1, 1) := by decide +kernel
theorem dL_law_824 : decode cL_law 824 = .ok (.bipush 17, 2) := by decide +kernel
theorem dL_law_826 : decode cL_law 826 = .ok (.iload 12, 2) := by decide +kernel
theorem dL_law_828 : decode cL_law 828 = .ok (.iload 13, 2) := by decide +kernel
theorem dL_law_830 : decode cL_law 830 = .ok (.iload 14, 2) := by decide +kernel
theorem dL_law_832 : decode cL_law 832 = .ok (.iconst 1, 1) := by decide +kernel
theorem dL_law_833 : decode cL_law 833 = .ok (.invokestatic 117, 3) := by decide +kernel
theorem dL_law_836 : decode cL_law 836 = .ok (.lconst 1, 1) := by decide +kernel
theorem dL_law_837 : decode cL_law 837 = .ok (.lcmp, 1) := by decide +kernel
theorem dL_law_838 : decode cL_law 838 = .ok (.ifCond .ne 26, 3) := by decide +kernel
theorem dL_law_841 : decode cL_law 841 = .ok (.aload_n 1, 1) := by decide +kernel
theorem dL_law_842 : decode cL_law 842 = .ok (.iload 12, 2) := by decide +kernel
theorem dL_law_844 : decode cL_law 844 = .ok (.iload 13, 2) := by decide +kernel
theorem dL_law_846 : decode cL_law 846 = .ok (.iload 14, 2) := by decide +kernel
theorem dL_law_848 : decode cL_law 848 = .ok (.iconst 1, 1) := by decide +kernel
theorem dL_law_849 : decode cL_law 849 = .ok (.iconst 0, 1) := by decide +kernel
theorem dL_law_850 : decode cL_law 850 = .ok (.invokevirtual 69, 3) := by decide +kernel
theorem dL_law_853 : decode cL_law 853 = .ok (.iload 13, 2) := by decide +kernel
theorem dL_law_855 : decode cL_law 855 = .ok (.iconst 1, 1) := by decide +kernel
theorem dL_law_856 : decode cL_law 856 = .ok (.iadd, 1) := by decide +kernel
theorem dL_law_857 : decode cL_law 857 = .ok (.i2l, 1) := by decide +kernel
theorem dL_law_858 : decode cL_law 858 = .ok (.lcmp, 1) := by decide +kernel
theorem dL_law_859 : decode cL_law 859 = .ok (.ifCond .eq 5, 3) := by decide +kernel
theorem dL_law_862 : decode cL_law 862 = .ok (.iconst 0, 1) := by decide +kernel
theorem dL_law_863 : decode cL_law 863 = .ok (.ireturn, 1) := by decide +kernel
theorem dL_law_864 : decode cL_law 864 = .ok (.goto 343, 3) := by decide +kernel
theorem dL_law_867 : decode cL_law 867 = .ok (.iload 9, 2) := by decide +kernel
theorem dL_law_869 : decode cL_law 869 = .ok (.bipush 9, 2) := by decide +kernel
theorem dL_law_871 : decode cL_law 871 = .ok (.if_icmp .ne 74, 3) := by decide +kernel
theorem dL_law_874 : decode cL_law 874 = .ok (.iload 10, 2) := by decide +kernel
theorem dL_law_876 : decode cL_law 876 = .ok (.bipush 19, 2) := by decide +kernel
theorem dL_law_878 : decode cL_law 878 = .ok (.irem, 1) := by decide +kernel
theorem dL_law_879 : decode cL_law 879 = .ok (.bipush 9, 2) := by decide +kernel
theorem dL_law_881 : decode cL_law 881 = .ok (.isub, 1) := by decide +kernel
theorem dL_law_882 : decode cL_law 882 = .ok (.istore 12, 2) := by decide +kernel
theorem dL_law_884 : decode cL_law 884 = .ok (.aload_n 1, 1) := by decide +kernel
theorem dL_law_885 : decode cL_law 885 = .ok (.bipush 19, 2) := by decide +kernel
theorem dL_law_887 : decode cL_law 887 = .ok (.iload 12, 2) := by decide +kernel
theorem dL_law_889 : decode cL_law 889 = .ok (.iload 12, 2) := by decide +kernel
theorem dL_law_891 : decode cL_law 891 = .ok (.iload 11, 2) := by decide +kernel
theorem dL_law_893 : decode cL_law 893 = .ok (.iconst 5, 1) := by decide +kernel
theorem dL_law_894 : decode cL_law 894 = .ok (.irem, 1) := by decide +kernel
theorem dL_law_895 : decode cL_law 895 = .ok (.imul, 1) := by decide +kernel
theorem dL_law_896 : decode cL_law 896 = .ok (.iconst 1, 1) := by decide +kernel
theorem dL_law_897 : decode cL_law 897 = .ok (.isub, 1) := by decide +kernel
theorem dL_law_898 : decode cL_law 898 = .ok (.iconst 1, 1) := by decide +kernel
theorem dL_law_899 : decode cL_law 899 = .ok (.iload 11, 2) := by decide +kernel
theorem dL_law_901 : decode cL_law 901 = .ok (.iconst 5, 1) := by decide +kernel
theorem dL_law_902 : decode cL_law 902 = .ok (.irem, 1) := by decide +kernel
theorem dL_law_903 : decode cL_law 903 = .ok (.invokestatic 117, 3) := by decide +kernel
theorem dL_law_906 : decode cL_law 906 = .ok (.iload 4, 2) := by decide +kernel
theorem dL_law_908 : decode cL_law 908 = .ok (.iconst 4, 1) := by decide +kernel
theorem dL_law_909 : decode cL_law 909 = .ok (.if_icmp .ge 8, 3) := by decide +kernel
theorem dL_law_912 : decode cL_law 912 = .ok (.iload 4, 2) := by decide +kernel
theorem dL_law_914 : decode cL_law 914 = .ok (.goto 5, 3) := by decide +kernel
theorem dL_law_917 : decode cL_law 917 = .ok (.ldc 140, 2) := by decide +kernel
theorem dL_law_919 : decode cL_law 919 = .ok (.i2l, 1) := by decide +kernel
theorem dL_law_920 : decode cL_law 920 = .ok (.lcmp, 1) := by decide +kernel
theorem dL_law_921 : decode cL_law 921 = .ok (.ifCond .eq 5, 3) := by decide +kernel
theorem dL_law_924 : decode cL_law 924 = .ok (.iconst 0, 1) := by decide +kernel
theorem dL_law_925 : decode cL_law 925 = .ok (.ireturn, 1) := by decide +kernel
theorem dL_law_926 : decode cL_law 926 = .ok (.iload 4, 2) := by decide +kernel
theorem dL_law_928 : decode cL_law 928 = .ok (.iload 4, 2) := by decide +kernel
theorem dL_law_930 : decode cL_law 930 = .ok (.iconst 4, 1) := by decide +kernel
theorem dL_law_931 : decode cL_law 931 = .ok (.if_icmp .ge 7, 3) := by decide +kernel
theorem dL_law_934 : decode cL_law 934 = .ok (.iconst 1, 1) := by decide +kernel
theorem dL_law_935 : decode cL_law 935 = .ok (.goto 4, 3) := by decide +kernel
theorem dL_law_938 : decode cL_law 938 = .ok (.iconst 0, 1) := by decide +kernel
theorem dL_law_939 : decode cL_law 939 = .ok (.iadd, 1) := by decide +kernel
theorem dL_law_940 : decode cL_law 940 = .ok (.istore 4, 2) := by decide +kernel
theorem dL_law_942 : decode cL_law 942 = .ok (.goto 265, 3) := by decide +kernel
theorem dL_law_945 : decode cL_law 945 = .ok (.iload 9, 2) := by decide +kernel
theorem dL_law_947 : decode cL_law 947 = .ok (.bipush 10, 2) := by decide +kernel
theorem dL_law_949 : decode cL_law 949 = .ok (.if_icmp .ne 121, 3) := by decide +kernel
theorem dL_law_952 : decode cL_law 952 = .ok (.iload 4, 2) := by decide +kernel
theorem dL_law_954 : decode cL_law 954 = .ok (.ifCond .le 116, 3) := by decide +kernel
theorem dL_law_957 : decode cL_law 957 = .ok (.aload_n 1, 1) := by decide +kernel
theorem dL_law_958 : decode cL_law 958 = .ok (.iconst 0, 1) := by decide +kernel
theorem dL_law_959 : decode cL_law 959 = .ok (.invokevirtual 80, 3) := by decide +kernel
theorem dL_law_962 : decode cL_law 962 = .ok (.istore 12, 2) := by decide +kernel
theorem dL_law_964 : decode cL_law 964 = .ok (.aload_n 1, 1) := by decide +kernel
theorem dL_law_965 : decode cL_law 965 = .ok (.iconst 3, 1) := by decide +kernel
theorem dL_law_966 : decode cL_law 966 = .ok (.invokevirtual 80, 3) := by decide +kernel
theorem dL_law_969 : decode cL_law 969 = .ok (.istore 13, 2) := by decide +kernel
theorem dL_law_971 : decode cL_law 971 = .ok (.aload_n 1, 1) := by decide +kernel
theorem dL_law_972 : decode cL_law 972 = .ok (.bipush 20, 2) := by decide +kernel
theorem dL_law_974 : decode cL_law 974 = .ok (.iload 10, 2) := by decide +kernel
theorem dL_law_976 : decode cL_law 976 = .ok (.iload 4, 2) := by decide +kernel
theorem dL_law_978 : decode cL_law 978 = .ok (.irem, 1) := by decide +kernel
theorem dL_law_979 : decode cL_law 979 = .ok (.iload 11, 2) := by decide +kernel
theorem dL_law_981 : decode cL_law 981 = .ok (.iconst 2, 1) := by decide +kernel
theorem dL_law_982 : decode cL_law 982 = .ok (.irem, 1) := by decide +kernel
theorem dL_law_983 : decode cL_law 983 = .ok (.iconst 0, 1) := by decide +kernel
theorem dL_law_984 : decode cL_law 984 = .ok (.iconst 0, 1) := by decide +kernel
theorem dL_law_985 : decode cL_law 985 = .ok (.invokestatic 117, 3) := by decide +kernel
theorem dL_law_988 : decode cL_law 988 = .ok (.ldc2_w 106, 3) := by decide +kernel
theorem dL_law_991 : decode cL_law 991 = .ok (.lcmp, 1) := by decide +kernel
theorem dL_law_992 : decode cL_law 992 = .ok (.ifCond .eq 37, 3) := by decide +kernel
theorem dL_law_995 : decode cL_law 995 = .ok (.aload_n 1, 1) := by decide +kernel
theorem dL_law_996 : decode cL_law 996 = .ok (.iconst 0, 1) := by decide +kernel
theorem dL_law_997 : decode cL_law 997 = .ok (.invokevirtual 80, 3) := by decide +kernel
theorem dL_law_1000 : decode cL_law 1000 = .ok (.i2l, 1) := by decide +kernel
theorem dL_law_1001 : decode cL_law 1001 = .ok (.aload_n 1, 1) := by decide +kernel
theorem dL_law_1002 : decode cL_law 1002 = .ok (.iconst 3, 1) := by decide +kernel
theorem dL_law_1003 : decode cL_law 1003 = .ok (.invokevirtual 80, 3) := by decide +kernel
theorem dL_law_1006 : decode cL_law 1006 = .ok (.i2l, 1) := by decide +kernel
theorem dL_law_1007 : decode cL_law 1007 = .ok (.lmul, 1) := by decide +kernel
theorem dL_law_1008 : decode cL_law 1008 = .ok (.aload_n 1, 1) := by decide +kernel
theorem dL_law_1009 : decode cL_law 1009 = .ok (.iconst 1, 1) := by decide +kernel
theorem dL_law_1010 : decode cL_law 1010 = .ok (.invokevirtual 80, 3) := by decide +kernel
theorem dL_law_1013 : decode cL_law 1013 = .ok (.i2l, 1) := by decide +kernel
theorem dL_law_1014 : decode cL_law 1014 = .ok (.aload_n 1, 1) := by decide +kernel
theorem dL_law_1015 : decode cL_law 1015 = .ok (.iconst 2, 1) := by decide +kernel
theorem dL_law_1016 : decode cL_law 1016 = .ok (.invokevirtual 80, 3) := by decide +kernel
theorem dL_law_1019 : decode cL_law 1019 = .ok (.i2l, 1) := by decide +kernel
theorem dL_law_1020 : decode cL_law 1020 = .ok (.lmul, 1) := by decide +kernel
theorem dL_law_1021 : decode cL_law 1021 = .ok (.lsub, 1) := by decide +kernel
theorem dL_law_1022 : decode cL_law 1022 = .ok (.lconst 1, 1) := by decide +kernel
theorem dL_law_1023 : decode cL_law 1023 = .ok (.lcmp, 1) := by decide +kernel
theorem dL_law_1024 : decode cL_law 1024 = .ok (.ifCond .eq 5, 3) := by decide +kernel
theorem dL_law_1027 : decode cL_law 1027 = .ok (.iconst 0, 1) := by decide +kernel
theorem dL_law_1028 : decode cL_law 1028 = .ok (.ireturn, 1) := by decide +kernel
