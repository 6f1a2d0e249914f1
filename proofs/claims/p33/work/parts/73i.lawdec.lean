theorem dL_gaskets_729 : decode cL_gaskets 729 = .ok (.iload_n 3, 1) := by decide +kernel
theorem dL_gaskets_730 : decode cL_gaskets 730 = .ok (.iconst 4, 1) := by decide +kernel
theorem dL_gaskets_731 : decode cL_gaskets 731 = .ok (.irem, 1) := by decide +kernel
theorem dL_gaskets_732 : decode cL_gaskets 732 = .ok (.iconst 0, 1) := by decide +kernel
theorem dL_gaskets_733 : decode cL_gaskets 733 = .ok (.iconst 0, 1) := by decide +kernel
theorem dL_gaskets_734 : decode cL_gaskets 734 = .ok (.invokestatic 117, 3) := by decide +kernel
theorem dL_gaskets_737 : decode cL_gaskets 737 = .ok (.ldc2_w 106, 3) := by decide +kernel
theorem dL_gaskets_740 : decode cL_gaskets 740 = .ok (.lcmp, 1) := by decide +kernel
theorem dL_gaskets_741 : decode cL_gaskets 741 = .ok (.ifCond .ne 23, 3) := by decide +kernel
theorem dL_gaskets_744 : decode cL_gaskets 744 = .ok (.aload_n 0, 1) := by decide +kernel
theorem dL_gaskets_745 : decode cL_gaskets 745 = .ok (.iconst 0, 1) := by decide +kernel
theorem dL_gaskets_746 : decode cL_gaskets 746 = .ok (.ldc2_w 166, 3) := by decide +kernel
theorem dL_gaskets_749 : decode cL_gaskets 749 = .ok (.ldc2_w 168, 3) := by decide +kernel
theorem dL_gaskets_752 : decode cL_gaskets 752 = .ok (.ldc2_w 168, 3) := by decide +kernel
theorem dL_gaskets_755 : decode cL_gaskets 755 = .ok (.ldc2_w 170, 3) := by decide +kernel
theorem dL_gaskets_758 : decode cL_gaskets 758 = .ok (.invokestatic 172, 3) := by decide +kernel
theorem dL_gaskets_761 : decode cL_gaskets 761 = .ok (.ifCond .ne 5, 3) := by decide +kernel
theorem dL_gaskets_764 : decode cL_gaskets 764 = .ok (.iconst 0, 1) := by decide +kernel
theorem dL_gaskets_765 : decode cL_gaskets 765 = .ok (.ireturn, 1) := by decide +kernel
theorem dL_gaskets_766 : decode cL_gaskets 766 = .ok (.iconst 4, 1) := by decide +kernel
theorem dL_gaskets_767 : decode cL_gaskets 767 = .ok (.istore 4, 2) := by decide +kernel
theorem dL_gaskets_769 : decode cL_gaskets 769 = .ok (.iload 4, 2) := by decide +kernel
theorem dL_gaskets_771 : decode cL_gaskets 771 = .ok (.bipush 9, 2) := by decide +kernel
theorem dL_gaskets_773 : decode cL_gaskets 773 = .ok (.if_icmp .ge 40, 3) := by decide +kernel
theorem dL_gaskets_776 : decode cL_gaskets 776 = .ok (.aload_n 0, 1) := by decide +kernel
theorem dL_gaskets_777 : decode cL_gaskets 777 = .ok (.bipush 9, 2) := by decide +kernel
theorem dL_gaskets_779 : decode cL_gaskets 779 = .ok (.iconst 2, 1) := by decide +kernel
theorem dL_gaskets_780 : decode cL_gaskets 780 = .ok (.iconst (-1), 1) := by decide +kernel
theorem dL_gaskets_781 : decode cL_gaskets 781 = .ok (.iconst 3, 1) := by decide +kernel
theorem dL_gaskets_782 : decode cL_gaskets 782 = .ok (.iconst 2, 1) := by decide +kernel
theorem dL_gaskets_783 : decode cL_gaskets 783 = .ok (.invokestatic 117, 3) := by decide +kernel
theorem dL_gaskets_786 : decode cL_gaskets 786 = .ok (.iload 4, 2) := by decide +kernel
theorem dL_gaskets_788 : decode cL_gaskets 788 = .ok (.bipush 8, 2) := by decide +kernel
theorem dL_gaskets_790 : decode cL_gaskets 790 = .ok (.if_icmp .ge 8, 3) := by decide +kernel
theorem dL_gaskets_793 : decode cL_gaskets 793 = .ok (.iload 4, 2) := by decide +kernel
theorem dL_gaskets_795 : decode cL_gaskets 795 = .ok (.goto 5, 3) := by decide +kernel
theorem dL_gaskets_798 : decode cL_gaskets 798 = .ok (.ldc 140, 2) := by decide +kernel
theorem dL_gaskets_800 : decode cL_gaskets 800 = .ok (.i2l, 1) := by decide +kernel
theorem dL_gaskets_801 : decode cL_gaskets 801 = .ok (.lcmp, 1) := by decide +kernel
theorem dL_gaskets_802 : decode cL_gaskets 802 = .ok (.ifCond .eq 5, 3) := by decide +kernel
theorem dL_gaskets_805 : decode cL_gaskets 805 = .ok (.iconst 0, 1) := by decide +kernel
theorem dL_gaskets_806 : decode cL_gaskets 806 = .ok (.ireturn, 1) := by decide +kernel
theorem dL_gaskets_807 : decode cL_gaskets 807 = .ok (.iinc 4 1, 3) := by decide +kernel
theorem dL_gaskets_810 : decode cL_gaskets 810 = .ok (.goto (-41), 3) := by decide +kernel
theorem dL_gaskets_813 : decode cL_gaskets 813 = .ok (.aload_n 0, 1) := by decide +kernel
theorem dL_gaskets_814 : decode cL_gaskets 814 = .ok (.bipush 7, 2) := by decide +kernel
theorem dL_gaskets_816 : decode cL_gaskets 816 = .ok (.ldc2_w 166, 3) := by decide +kernel
theorem dL_gaskets_819 : decode cL_gaskets 819 = .ok (.ldc2_w 168, 3) := by decide +kernel
theorem dL_gaskets_822 : decode cL_gaskets 822 = .ok (.ldc2_w 168, 3) := by decide +kernel
theorem dL_gaskets_825 : decode cL_gaskets 825 = .ok (.ldc2_w 170, 3) := by decide +kernel
theorem dL_gaskets_828 : decode cL_gaskets 828 = .ok (.invokestatic 172, 3) := by decide +kernel
theorem dL_gaskets_831 : decode cL_gaskets 831 = .ok (.ifCond .eq 21, 3) := by decide +kernel
theorem dL_gaskets_834 : decode cL_gaskets 834 = .ok (.aload_n 0, 1) := by decide +kernel
theorem dL_gaskets_835 : decode cL_gaskets 835 = .ok (.bipush 7, 2) := by decide +kernel
theorem dL_gaskets_837 : decode cL_gaskets 837 = .ok (.iconst 1, 1) := by decide +kernel
theorem dL_gaskets_838 : decode cL_gaskets 838 = .ok (.invokevirtual 47, 3) := by decide +kernel
theorem dL_gaskets_841 : decode cL_gaskets 841 = .ok (.ldc2_w 166, 3) := by decide +kernel
theorem dL_gaskets_844 : decode cL_gaskets 844 = .ok (.lcmp, 1) := by decide +kernel
theorem dL_gaskets_845 : decode cL_gaskets 845 = .ok (.ifCond .ne 7, 3) := by decide +kernel
theorem dL_gaskets_848 : decode cL_gaskets 848 = .ok (.iconst 1, 1) := by decide +kernel
theorem dL_gaskets_849 : decode cL_gaskets 849 = .ok (.goto 4, 3) := by decide +kernel
theorem dL_gaskets_852 : decode cL_gaskets 852 = .ok (.iconst 0, 1) := by decide +kernel
theorem dL_gaskets_853 : decode cL_gaskets 853 = .ok (.ireturn, 1) := by decide +kernel
theorem dL_between_0 : decode cL_between 0 = .ok (.aload_n 0, 1) := by decide +kernel
theorem dL_between_1 : decode cL_between 1 = .ok (.iload_n 1, 1) := by decide +kernel
theorem dL_between_2 : decode cL_between 2 = .ok (.iload_n 2, 1) := by decide +kernel
theorem dL_between_3 : decode cL_between 3 = .ok (.iload_n 3, 1) := by decide +kernel
theorem dL_between_4 : decode cL_between 4 = .ok (.iload 4, 2) := by decide +kernel
theorem dL_between_6 : decode cL_between 6 = .ok (.iconst 1, 1) := by decide +kernel
theorem dL_between_7 : decode cL_between 7 = .ok (.invokevirtual 69, 3) := by decide +kernel
theorem dL_between_10 : decode cL_between 10 = .ok (.lload 5, 2) := by decide +kernel
theorem dL_between_12 : decode cL_between 12 = .ok (.lcmp, 1) := by decide +kernel
theorem dL_between_13 : decode cL_between 13 = .ok (.ifCond .ne 55, 3) := by decide +kernel
theorem dL_between_16 : decode cL_between 16 = .ok (.aload_n 0, 1) := by decide +kernel
theorem dL_between_17 : decode cL_between 17 = .ok (.iload_n 1, 1) := by decide +kernel
theorem dL_between_18 : decode cL_between 18 = .ok (.iload_n 2, 1) := by decide +kernel
theorem dL_between_19 : decode cL_between 19 = .ok (.iload_n 3, 1) := by decide +kernel
theorem dL_between_20 : decode cL_between 20 = .ok (.iload 4, 2) := by decide +kernel
theorem dL_between_22 : decode cL_between 22 = .ok (.iconst 0, 1) := by decide +kernel
theorem dL_between_23 : decode cL_between 23 = .ok (.invokevirtual 69, 3) := by decide +kernel
theorem dL_between_26 : decode cL_between 26 = .ok (.lload 7, 2) := by decide +kernel
theorem dL_between_28 : decode cL_between 28 = .ok (.lcmp, 1) := by decide +kernel
theorem dL_between_29 : decode cL_between 29 = .ok (.ifCond .ne 39, 3) := by decide +kernel
theorem dL_between_32 : decode cL_between 32 = .ok (.aload_n 0, 1) := by decide +kernel
theorem dL_between_33 : decode cL_between 33 = .ok (.iload_n 3, 1) := by decide +kernel
theorem dL_between_34 : decode cL_between 34 = .ok (.iload 4, 2) := by decide +kernel
theorem dL_between_36 : decode cL_between 36 = .ok (.iload_n 1, 1) := by decide +kernel
theorem dL_between_37 : decode cL_between 37 = .ok (.iload_n 2, 1) := by decide +kernel
theorem dL_between_38 : decode cL_between 38 = .ok (.iconst 1, 1) := by decide +kernel
theorem dL_between_39 : decode cL_between 39 = .ok (.invokevirtual 69, 3) := by decide +kernel
theorem dL_between_42 : decode cL_between 42 = .ok (.lload 5, 2) := by decide +kernel
theorem dL_between_44 : decode cL_between 44 = .ok (.lcmp, 1) := by decide +kernel
theorem dL_between_45 : decode cL_between 45 = .ok (.ifCond .ne 23, 3) := by decide +kernel
theorem dL_between_48 : decode cL_between 48 = .ok (.aload_n 0, 1) := by decide +kernel
theorem dL_between_49 : decode cL_between 49 = .ok (.iload_n 3, 1) := by decide +kernel
theorem dL_between_50 : decode cL_between 50 = .ok (.iload 4, 2) := by decide +kernel
theorem dL_between_52 : decode cL_between 52 = .ok (.iload_n 1, 1) := by decide +kernel
theorem dL_between_53 : decode cL_between 53 = .ok (.iload_n 2, 1) := by decide +kernel
theorem dL_between_54 : decode cL_between 54 = .ok (.iconst 0, 1) := by decide +kernel
theorem dL_between_55 : decode cL_between 55 = .ok (.invokevirtual 69, 3) := by decide +kernel
theorem dL_between_58 : decode cL_between 58 = .ok (.lload 7, 2) := by decide +kernel
theorem dL_between_60 : decode cL_between 60 = .ok (.lcmp, 1) := by decide +kernel
theorem dL_between_61 : decode cL_between 61 = .ok (.ifCond .ne 7, 3) := by decide +kernel
theorem dL_between_64 : decode cL_between 64 = .ok (.iconst 1, 1) := by decide +kernel
theorem dL_between_65 : decode cL_between 65 = .ok (.goto 4, 3) := by decide +kernel
theorem dL_between_68 : decode cL_between 68 = .ok (.iconst 0, 1) := by decide +kernel
theorem dL_between_69 : decode cL_between 69 = .ok (.ireturn, 1) := by decide +kernel
theorem dL_fractions_0 : decode cL_fractions 0 = .ok (.new 8, 3) := by decide +kernel
theorem dL_fractions_3 : decode cL_fractions 3 = .ok (.dup, 1) := by decide +kernel
theorem dL_fractions_4 : decode cL_fractions 4 = .ok (.invokespecial 126, 3) := by decide +kernel
theorem dL_fractions_7 : decode cL_fractions 7 = .ok (.astore_n 0, 1) := by decide +kernel
theorem dL_fractions_8 : decode cL_fractions 8 = .ok (.aload_n 0, 1) := by decide +kernel
theorem dL_fractions_9 : decode cL_fractions 9 = .ok (.iconst 0, 1) := by decide +kernel
theorem dL_fractions_10 : decode cL_fractions 10 = .ok (.iconst 1, 1) := by decide +kernel
theorem dL_fractions_11 : decode cL_fractions 11 = .ok (.iconst 1, 1) := by decide +kernel
theorem dL_fractions_12 : decode cL_fractions 12 = .ok (.iconst 1, 1) := by decide +kernel
theorem dL_fractions_13 : decode cL_fractions 13 = .ok (.invokevirtual 66, 3) := by decide +kernel
theorem dL_fractions_16 : decode cL_fractions 16 = .ok (.iconst 1, 1) := by decide +kernel
theorem dL_fractions_17 : decode cL_fractions 17 = .ok (.if_icmp .ne 142, 3) := by decide +kernel
theorem dL_fractions_20 : decode cL_fractions 20 = .ok (.aload_n 0, 1) := by decide +kernel
theorem dL_fractions_21 : decode cL_fractions 21 = .ok (.iconst 0, 1) := by decide +kernel
theorem dL_fractions_22 : decode cL_fractions 22 = .ok (.iconst 1, 1) := by decide +kernel
theorem dL_fractions_23 : decode cL_fractions 23 = .ok (.iconst 1, 1) := by decide +kernel
theorem dL_fractions_24 : decode cL_fractions 24 = .ok (.iconst 2, 1) := by decide +kernel
theorem dL_fractions_25 : decode cL_fractions 25 = .ok (.invokevirtual 66, 3) := by decide +kernel
theorem dL_fractions_28 : decode cL_fractions 28 = .ok (.iconst 1, 1) := by decide +kernel
theorem dL_fractions_29 : decode cL_fractions 29 = .ok (.if_icmp .ne 130, 3) := by decide +kernel
theorem dL_fractions_32 : decode cL_fractions 32 = .ok (.aload_n 0, 1) := by decide +kernel
theorem dL_fractions_33 : decode cL_fractions 33 = .ok (.iconst 0, 1) := by decide +kernel
theorem dL_fractions_34 : decode cL_fractions 34 = .ok (.iconst 1, 1) := by decide +kernel
theorem dL_fractions_35 : decode cL_fractions 35 = .ok (.iconst 2, 1) := by decide +kernel
theorem dL_fractions_36 : decode cL_fractions 36 = .ok (.iconst 5, 1) := by decide +kernel
theorem dL_fractions_37 : decode cL_fractions 37 = .ok (.invokevirtual 66, 3) := by decide +kernel
theorem dL_fractions_40 : decode cL_fractions 40 = .ok (.ifCond .ne 119, 3) := by decide +kernel
theorem dL_fractions_43 : decode cL_fractions 43 = .ok (.aload_n 0, 1) := by decide +kernel
theorem dL_fractions_44 : decode cL_fractions 44 = .ok (.iconst 1, 1) := by decide +kernel
theorem dL_fractions_45 : decode cL_fractions 45 = .ok (.iconst 2, 1) := by decide +kernel
theorem dL_fractions_46 : decode cL_fractions 46 = .ok (.iconst 1, 1) := by decide +kernel
theorem dL_fractions_47 : decode cL_fractions 47 = .ok (.iconst 2, 1) := by decide +kernel
theorem dL_fractions_48 : decode cL_fractions 48 = .ok (.invokevirtual 66, 3) := by decide +kernel
theorem dL_fractions_51 : decode cL_fractions 51 = .ok (.iconst 2, 1) := by decide +kernel
theorem dL_fractions_52 : decode cL_fractions 52 = .ok (.if_icmp .ne 107, 3) := by decide +kernel
theorem dL_fractions_55 : decode cL_fractions 55 = .ok (.aload_n 0, 1) := by decide +kernel
theorem dL_fractions_56 : decode cL_fractions 56 = .ok (.bipush (-3), 2) := by decide +kernel
theorem dL_fractions_58 : decode cL_fractions 58 = .ok (.iconst 2, 1) := by decide +kernel
theorem dL_fractions_59 : decode cL_fractions 59 = .ok (.bipush (-4), 2) := by decide +kernel
theorem dL_fractions_61 : decode cL_fractions 61 = .ok (.iconst 3, 1) := by decide +kernel
theorem dL_fractions_62 : decode cL_fractions 62 = .ok (.invokevirtual 66, 3) := by decide +kernel
theorem dL_fractions_65 : decode cL_fractions 65 = .ok (.iconst 1, 1) := by decide +kernel
theorem dL_fractions_66 : decode cL_fractions 66 = .ok (.if_icmp .ne 93, 3) := by decide +kernel
theorem dL_fractions_69 : decode cL_fractions 69 = .ok (.aload_n 0, 1) := by decide +kernel
theorem dL_fractions_70 : decode cL_fractions 70 = .ok (.iconst (-1), 1) := by decide +kernel
theorem dL_fractions_71 : decode cL_fractions 71 = .ok (.iconst 2, 1) := by decide +kernel
theorem dL_fractions_72 : decode cL_fractions 72 = .ok (.iconst 1, 1) := by decide +kernel
theorem dL_fractions_73 : decode cL_fractions 73 = .ok (.iconst 2, 1) := by decide +kernel
theorem dL_fractions_74 : decode cL_fractions 74 = .ok (.invokevirtual 66, 3) := by decide +kernel
theorem dL_fractions_77 : decode cL_fractions 77 = .ok (.ifCond .ne 82, 3) := by decide +kernel
theorem dL_fractions_80 : decode cL_fractions 80 = .ok (.aload_n 0, 1) := by decide +kernel
theorem dL_fractions_81 : decode cL_fractions 81 = .ok (.ldc 164, 2) := by decide +kernel
theorem dL_fractions_83 : decode cL_fractions 83 = .ok (.ldc 200, 2) := by decide +kernel
theorem dL_fractions_85 : decode cL_fractions 85 = .ok (.ldc 164, 2) := by decide +kernel
theorem dL_fractions_87 : decode cL_fractions 87 = .ok (.ldc 200, 2) := by decide +kernel
theorem dL_fractions_89 : decode cL_fractions 89 = .ok (.invokevirtual 66, 3) := by decide +kernel
theorem dL_fractions_92 : decode cL_fractions 92 = .ok (.iconst 2, 1) := by decide +kernel
theorem dL_fractions_93 : decode cL_fractions 93 = .ok (.if_icmp .ne 66, 3) := by decide +kernel
theorem dL_fractions_96 : decode cL_fractions 96 = .ok (.aload_n 0, 1) := by decide +kernel
theorem dL_fractions_97 : decode cL_fractions 97 = .ok (.ldc 163, 2) := by decide +kernel
theorem dL_fractions_99 : decode cL_fractions 99 = .ok (.ldc 200, 2) := by decide +kernel
theorem dL_fractions_101 : decode cL_fractions 101 = .ok (.ldc 200, 2) := by decide +kernel
theorem dL_fractions_103 : decode cL_fractions 103 = .ok (.ldc 164, 2) := by decide +kernel
theorem dL_fractions_105 : decode cL_fractions 105 = .ok (.invokevirtual 66, 3) := by decide +kernel
theorem dL_fractions_108 : decode cL_fractions 108 = .ok (.ifCond .ne 51, 3) := by decide +kernel
theorem dL_fractions_111 : decode cL_fractions 111 = .ok (.aload_n 0, 1) := by decide +kernel
theorem dL_fractions_112 : decode cL_fractions 112 = .ok (.bipush 17, 2) := by decide +kernel
theorem dL_fractions_114 : decode cL_fractions 114 = .ok (.iconst 2, 1) := by decide +kernel
theorem dL_fractions_115 : decode cL_fractions 115 = .ok (.iconst 4, 1) := by decide +kernel
theorem dL_fractions_116 : decode cL_fractions 116 = .ok (.iconst 1, 1) := by decide +kernel
theorem dL_fractions_117 : decode cL_fractions 117 = .ok (.iconst 1, 1) := by decide +kernel
theorem dL_fractions_118 : decode cL_fractions 118 = .ok (.invokestatic 117, 3) := by decide +kernel
theorem dL_fractions_121 : decode cL_fractions 121 = .ok (.ldc2_w 102, 3) := by decide +kernel
theorem dL_fractions_124 : decode cL_fractions 124 = .ok (.lcmp, 1) := by decide +kernel
theorem dL_fractions_125 : decode cL_fractions 125 = .ok (.ifCond .ne 34, 3) := by decide +kernel
theorem dL_fractions_128 : decode cL_fractions 128 = .ok (.aload_n 0, 1) := by decide +kernel
theorem dL_fractions_129 : decode cL_fractions 129 = .ok (.bipush 17, 2) := by decide +kernel
theorem dL_fractions_131 : decode cL_fractions 131 = .ok (.iconst 0, 1) := by decide +kernel
theorem dL_fractions_132 : decode cL_fractions 132 = .ok (.iconst 2, 1) := by decide +kernel
theorem dL_fractions_133 : decode cL_fractions 133 = .ok (.iconst 1, 1) := by decide +kernel
theorem dL_fractions_134 : decode cL_fractions 134 = .ok (.iconst 1, 1) := by decide +kernel
theorem dL_fractions_135 : decode cL_fractions 135 = .ok (.invokestatic 117, 3) := by decide +kernel
theorem dL_fractions_138 : decode cL_fractions 138 = .ok (.ldc2_w 102, 3) := by decide +kernel
theorem dL_fractions_141 : decode cL_fractions 141 = .ok (.lcmp, 1) := by decide +kernel
theorem dL_fractions_142 : decode cL_fractions 142 = .ok (.ifCond .ne 17, 3) := by decide +kernel
theorem dL_fractions_145 : decode cL_fractions 145 = .ok (.aload_n 0, 1) := by decide +kernel
theorem dL_fractions_146 : decode cL_fractions 146 = .ok (.ldc 200, 2) := by decide +kernel
theorem dL_fractions_148 : decode cL_fractions 148 = .ok (.ldc 164, 2) := by decide +kernel
theorem dL_fractions_150 : decode cL_fractions 150 = .ok (.iconst 1, 1) := by decide +kernel
theorem dL_fractions_151 : decode cL_fractions 151 = .ok (.iconst 1, 1) := by decide +kernel
theorem dL_fractions_152 : decode cL_fractions 152 = .ok (.invokevirtual 66, 3) := by decide +kernel
theorem dL_fractions_155 : decode cL_fractions 155 = .ok (.iconst 1, 1) := by decide +kernel
theorem dL_fractions_156 : decode cL_fractions 156 = .ok (.if_icmp .eq 5, 3) := by decide +kernel
theorem dL_fractions_159 : decode cL_fractions 159 = .ok (.iconst 0, 1) := by decide +kernel
theorem dL_fractions_160 : decode cL_fractions 160 = .ok (.ireturn, 1) := by decide +kernel
theorem dL_fractions_161 : decode cL_fractions 161 = .ok (.aload_n 0, 1) := by decide +kernel
theorem dL_fractions_162 : decode cL_fractions 162 = .ok (.iconst 0, 1) := by decide +kernel
theorem dL_fractions_163 : decode cL_fractions 163 = .ok (.iconst 1, 1) := by decide +kernel
theorem dL_fractions_164 : decode cL_fractions 164 = .ok (.iconst 1, 1) := by decide +kernel
theorem dL_fractions_165 : decode cL_fractions 165 = .ok (.iconst 1, 1) := by decide +kernel
theorem dL_fractions_166 : decode cL_fractions 166 = .ok (.lconst 1, 1) := by decide +kernel
theorem dL_fractions_167 : decode cL_fractions 167 = .ok (.ldc2_w 168, 3) := by decide +kernel
theorem dL_fractions_170 : decode cL_fractions 170 = .ok (.invokestatic 201, 3) := by decide +kernel
theorem dL_fractions_173 : decode cL_fractions 173 = .ok (.ifCond .eq 192, 3) := by decide +kernel
theorem dL_fractions_176 : decode cL_fractions 176 = .ok (.aload_n 0, 1) := by decide +kernel
theorem dL_fractions_177 : decode cL_fractions 177 = .ok (.iconst 1, 1) := by decide +kernel
theorem dL_fractions_178 : decode cL_fractions 178 = .ok (.iconst 3, 1) := by decide +kernel
theorem dL_fractions_179 : decode cL_fractions 179 = .ok (.iconst 1, 1) := by decide +kernel
theorem dL_fractions_180 : decode cL_fractions 180 = .ok (.iconst 2, 1) := by decide +kernel
theorem dL_fractions_181 : decode cL_fractions 181 = .ok (.ldc2_w 168, 3) := by decide +kernel
theorem dL_fractions_184 : decode cL_fractions 184 = .ok (.ldc2_w 204, 3) := by decide +kernel
theorem dL_fractions_187 : decode cL_fractions 187 = .ok (.invokestatic 201, 3) := by decide +kernel
theorem dL_fractions_190 : decode cL_fractions 190 = .ok (.ifCond .eq 175, 3) := by decide +kernel
theorem dL_fractions_193 : decode cL_fractions 193 = .ok (.aload_n 0, 1) := by decide +kernel
theorem dL_fractions_194 : decode cL_fractions 194 = .ok (.iconst 0, 1) := by decide +kernel
theorem dL_fractions_195 : decode cL_fractions 195 = .ok (.iconst 1, 1) := by decide +kernel
theorem dL_fractions_196 : decode cL_fractions 196 = .ok (.iconst 3, 1) := by decide +kernel
theorem dL_fractions_197 : decode cL_fractions 197 = .ok (.iconst 1, 1) := by decide +kernel
theorem dL_fractions_198 : decode cL_fractions 198 = .ok (.lconst 1, 1) := by decide +kernel
theorem dL_fractions_199 : decode cL_fractions 199 = .ok (.lconst 1, 1) := by decide +kernel
theorem dL_fractions_200 : decode cL_fractions 200 = .ok (.invokestatic 201, 3) := by decide +kernel
theorem dL_fractions_203 : decode cL_fractions 203 = .ok (.ifCond .eq 162, 3) := by decide +kernel
theorem dL_fractions_206 : decode cL_fractions 206 = .ok (.aload_n 0, 1) := by decide +kernel
theorem dL_fractions_207 : decode cL_fractions 207 = .ok (.iconst (-1), 1) := by decide +kernel
theorem dL_fractions_208 : decode cL_fractions 208 = .ok (.iconst 2, 1) := by decide +kernel
theorem dL_fractions_209 : decode cL_fractions 209 = .ok (.iconst 1, 1) := by decide +kernel
theorem dL_fractions_210 : decode cL_fractions 210 = .ok (.iconst 2, 1) := by decide +kernel
theorem dL_fractions_211 : decode cL_fractions 211 = .ok (.lconst 0, 1) := by decide +kernel
theorem dL_fractions_212 : decode cL_fractions 212 = .ok (.lconst 1, 1) := by decide +kernel
theorem dL_fractions_213 : decode cL_fractions 213 = .ok (.invokestatic 201, 3) := by decide +kernel
theorem dL_fractions_216 : decode cL_fractions 216 = .ok (.ifCond .eq 149, 3) := by decide +kernel
theorem dL_fractions_219 : decode cL_fractions 219 = .ok (.aload_n 0, 1) := by decide +kernel
theorem dL_fractions_220 : decode cL_fractions 220 = .ok (.iconst 5, 1) := by decide +kernel
theorem dL_fractions_221 : decode cL_fractions 221 = .ok (.bipush 7, 2) := by decide +kernel
theorem dL_fractions_223 : decode cL_fractions 223 = .ok (.iconst 3, 1) := by decide +kernel
theorem dL_fractions_224 : decode cL_fractions 224 = .ok (.iconst 4, 1) := by decide +kernel
theorem dL_fractions_225 : decode cL_fractions 225 = .ok (.ldc2_w 206, 3) := by decide +kernel
theorem dL_fractions_228 : decode cL_fractions 228 = .ok (.ldc2_w 208, 3) := by decide +kernel
theorem dL_fractions_231 : decode cL_fractions 231 = .ok (.invokestatic 201, 3) := by decide +kernel
theorem dL_fractions_234 : decode cL_fractions 234 = .ok (.ifCond .eq 131, 3) := by decide +kernel
theorem dL_fractions_237 : decode cL_fractions 237 = .ok (.aload_n 0, 1) := by decide +kernel
theorem dL_fractions_238 : decode cL_fractions 238 = .ok (.bipush (-7), 2) := by decide +kernel
theorem dL_fractions_240 : decode cL_fractions 240 = .ok (.iconst 2, 1) := by decide +kernel
theorem dL_fractions_241 : decode cL_fractions 241 = .ok (.bipush (-5), 2) := by decide +kernel
theorem dL_fractions_243 : decode cL_fractions 243 = .ok (.iconst 2, 1) := by decide +kernel
theorem dL_fractions_244 : decode cL_fractions 244 = .ok (.ldc2_w 210, 3) := by decide +kernel
theorem dL_fractions_247 : decode cL_fractions 247 = .ok (.lconst 1, 1) := by decide +kernel
theorem dL_fractions_248 : decode cL_fractions 248 = .ok (.invokestatic 201, 3) := by decide +kernel
theorem dL_fractions_251 : decode cL_fractions 251 = .ok (.ifCond .eq 114, 3) := by decide +kernel
theorem dL_fractions_254 : decode cL_fractions 254 = .ok (.aload_n 0, 1) := by decide +kernel
theorem dL_fractions_255 : decode cL_fractions 255 = .ok (.ldc 200, 2) := by decide +kernel
theorem dL_fractions_257 : decode cL_fractions 257 = .ok (.ldc 164, 2) := by decide +kernel
theorem dL_fractions_259 : decode cL_fractions 259 = .ok (.iconst 1, 1) := by decide +kernel
theorem dL_fractions_260 : decode cL_fractions 260 = .ok (.iconst 1, 1) := by decide +kernel
theorem dL_fractions_261 : decode cL_fractions 261 = .ok (.ldc2_w 212, 3) := by decide +kernel
theorem dL_fractions_264 : decode cL_fractions 264 = .ok (.ldc2_w 214, 3) := by decide +kernel
theorem dL_fractions_267 : decode cL_fractions 267 = .ok (.invokestatic 201, 3) := by decide +kernel
theorem dL_fractions_270 : decode cL_fractions 270 = .ok (.ifCond .eq 95, 3) := by decide +kernel
theorem dL_fractions_273 : decode cL_fractions 273 = .ok (.aload_n 0, 1) := by decide +kernel
theorem dL_fractions_274 : decode cL_fractions 274 = .ok (.iconst 0, 1) := by decide +kernel
theorem dL_fractions_275 : decode cL_fractions 275 = .ok (.iconst 1, 1) := by decide +kernel
theorem dL_fractions_276 : decode cL_fractions 276 = .ok (.iconst 1, 1) := by decide +kernel
theorem dL_fractions_277 : decode cL_fractions 277 = .ok (.ldc 164, 2) := by decide +kernel
theorem dL_fractions_279 : decode cL_fractions 279 = .ok (.lconst 1, 1) := by decide +kernel
theorem dL_fractions_280 : decode cL_fractions 280 = .ok (.ldc2_w 214, 3) := by decide +kernel
theorem dL_fractions_283 : decode cL_fractions 283 = .ok (.invokestatic 201, 3) := by decide +kernel
theorem dL_fractions_286 : decode cL_fractions 286 = .ok (.ifCond .eq 79, 3) := by decide +kernel
theorem dL_fractions_289 : decode cL_fractions 289 = .ok (.aload_n 0, 1) := by decide +kernel
theorem dL_fractions_290 : decode cL_fractions 290 = .ok (.ldc 163, 2) := by decide +kernel
theorem dL_fractions_292 : decode cL_fractions 292 = .ok (.iconst 1, 1) := by decide +kernel
theorem dL_fractions_293 : decode cL_fractions 293 = .ok (.ldc 164, 2) := by decide +kernel
theorem dL_fractions_295 : decode cL_fractions 295 = .ok (.iconst 1, 1) := by decide +kernel
theorem dL_fractions_296 : decode cL_fractions 296 = .ok (.ldc2_w 216, 3) := by decide +kernel
