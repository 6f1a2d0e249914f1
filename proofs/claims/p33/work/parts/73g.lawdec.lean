theorem dL_disks_411 : decode cL_disks 411 = .ok (.invokevirtual 34, 3) := by decide +kernel
theorem dL_disks_414 : decode cL_disks 414 = .ok (.ifCond .ne 29, 3) := by decide +kernel
theorem dL_disks_417 : decode cL_disks 417 = .ok (.aload_n 0, 1) := by decide +kernel
theorem dL_disks_418 : decode cL_disks 418 = .ok (.iconst 0, 1) := by decide +kernel
theorem dL_disks_419 : decode cL_disks 419 = .ok (.invokevirtual 37, 3) := by decide +kernel
theorem dL_disks_422 : decode cL_disks 422 = .ok (.aload_n 0, 1) := by decide +kernel
theorem dL_disks_423 : decode cL_disks 423 = .ok (.iconst 1, 1) := by decide +kernel
theorem dL_disks_424 : decode cL_disks 424 = .ok (.invokevirtual 37, 3) := by decide +kernel
theorem dL_disks_427 : decode cL_disks 427 = .ok (.iadd, 1) := by decide +kernel
theorem dL_disks_428 : decode cL_disks 428 = .ok (.aload_n 0, 1) := by decide +kernel
theorem dL_disks_429 : decode cL_disks 429 = .ok (.iconst 2, 1) := by decide +kernel
theorem dL_disks_430 : decode cL_disks 430 = .ok (.invokevirtual 37, 3) := by decide +kernel
theorem dL_disks_433 : decode cL_disks 433 = .ok (.iadd, 1) := by decide +kernel
theorem dL_disks_434 : decode cL_disks 434 = .ok (.bipush 120, 2) := by decide +kernel
theorem dL_disks_436 : decode cL_disks 436 = .ok (.if_icmp .ne 7, 3) := by decide +kernel
theorem dL_disks_439 : decode cL_disks 439 = .ok (.iconst 1, 1) := by decide +kernel
theorem dL_disks_440 : decode cL_disks 440 = .ok (.goto 4, 3) := by decide +kernel
theorem dL_disks_443 : decode cL_disks 443 = .ok (.iconst 0, 1) := by decide +kernel
theorem dL_disks_444 : decode cL_disks 444 = .ok (.ireturn, 1) := by decide +kernel
theorem dL_five_0 : decode cL_five 0 = .ok (.new 8, 3) := by decide +kernel
theorem dL_five_3 : decode cL_five 3 = .ok (.dup, 1) := by decide +kernel
theorem dL_five_4 : decode cL_five 4 = .ok (.invokespecial 126, 3) := by decide +kernel
theorem dL_five_7 : decode cL_five 7 = .ok (.astore_n 0, 1) := by decide +kernel
theorem dL_five_8 : decode cL_five 8 = .ok (.aload_n 0, 1) := by decide +kernel
theorem dL_five_9 : decode cL_five 9 = .ok (.bipush (-24), 2) := by decide +kernel
theorem dL_five_11 : decode cL_five 11 = .ok (.iconst 0, 1) := by decide +kernel
theorem dL_five_12 : decode cL_five 12 = .ok (.bipush 24, 2) := by decide +kernel
theorem dL_five_14 : decode cL_five 14 = .ok (.invokevirtual 26, 3) := by decide +kernel
theorem dL_five_17 : decode cL_five 17 = .ok (.ifCond .ne 162, 3) := by decide +kernel
theorem dL_five_20 : decode cL_five 20 = .ok (.aload_n 0, 1) := by decide +kernel
theorem dL_five_21 : decode cL_five 21 = .ok (.bipush 24, 2) := by decide +kernel
theorem dL_five_23 : decode cL_five 23 = .ok (.iconst 0, 1) := by decide +kernel
theorem dL_five_24 : decode cL_five 24 = .ok (.bipush 24, 2) := by decide +kernel
theorem dL_five_26 : decode cL_five 26 = .ok (.invokevirtual 26, 3) := by decide +kernel
theorem dL_five_29 : decode cL_five 29 = .ok (.iconst 1, 1) := by decide +kernel
theorem dL_five_30 : decode cL_five 30 = .ok (.if_icmp .ne 149, 3) := by decide +kernel
theorem dL_five_33 : decode cL_five 33 = .ok (.aload_n 0, 1) := by decide +kernel
theorem dL_five_34 : decode cL_five 34 = .ok (.iconst 0, 1) := by decide +kernel
theorem dL_five_35 : decode cL_five 35 = .ok (.bipush 10, 2) := by decide +kernel
theorem dL_five_37 : decode cL_five 37 = .ok (.iconst 2, 1) := by decide +kernel
theorem dL_five_38 : decode cL_five 38 = .ok (.invokevirtual 26, 3) := by decide +kernel
theorem dL_five_41 : decode cL_five 41 = .ok (.iconst 2, 1) := by decide +kernel
theorem dL_five_42 : decode cL_five 42 = .ok (.if_icmp .ne 137, 3) := by decide +kernel
theorem dL_five_45 : decode cL_five 45 = .ok (.aload_n 0, 1) := by decide +kernel
theorem dL_five_46 : decode cL_five 46 = .ok (.iconst 0, 1) := by decide +kernel
theorem dL_five_47 : decode cL_five 47 = .ok (.bipush 18, 2) := by decide +kernel
theorem dL_five_49 : decode cL_five 49 = .ok (.bipush 6, 2) := by decide +kernel
theorem dL_five_51 : decode cL_five 51 = .ok (.invokevirtual 26, 3) := by decide +kernel
theorem dL_five_54 : decode cL_five 54 = .ok (.iconst 3, 1) := by decide +kernel
theorem dL_five_55 : decode cL_five 55 = .ok (.if_icmp .ne 124, 3) := by decide +kernel
theorem dL_five_58 : decode cL_five 58 = .ok (.aload_n 0, 1) := by decide +kernel
theorem dL_five_59 : decode cL_five 59 = .ok (.invokevirtual 160, 3) := by decide +kernel
theorem dL_five_62 : decode cL_five 62 = .ok (.ifCond .eq 117, 3) := by decide +kernel
theorem dL_five_65 : decode cL_five 65 = .ok (.aload_n 0, 1) := by decide +kernel
theorem dL_five_66 : decode cL_five 66 = .ok (.iconst 0, 1) := by decide +kernel
theorem dL_five_67 : decode cL_five 67 = .ok (.bipush 7, 2) := by decide +kernel
theorem dL_five_69 : decode cL_five 69 = .ok (.iconst 1, 1) := by decide +kernel
theorem dL_five_70 : decode cL_five 70 = .ok (.invokevirtual 26, 3) := by decide +kernel
theorem dL_five_73 : decode cL_five 73 = .ok (.iconst 4, 1) := by decide +kernel
theorem dL_five_74 : decode cL_five 74 = .ok (.if_icmp .ne 105, 3) := by decide +kernel
theorem dL_five_77 : decode cL_five 77 = .ok (.aload_n 0, 1) := by decide +kernel
theorem dL_five_78 : decode cL_five 78 = .ok (.invokevirtual 160, 3) := by decide +kernel
theorem dL_five_81 : decode cL_five 81 = .ok (.ifCond .ne 98, 3) := by decide +kernel
theorem dL_five_84 : decode cL_five 84 = .ok (.aload_n 0, 1) := by decide +kernel
theorem dL_five_85 : decode cL_five 85 = .ok (.iconst 0, 1) := by decide +kernel
theorem dL_five_86 : decode cL_five 86 = .ok (.invokevirtual 7, 3) := by decide +kernel
theorem dL_five_89 : decode cL_five 89 = .ok (.iconst 4, 1) := by decide +kernel
theorem dL_five_90 : decode cL_five 90 = .ok (.if_icmp .ne 89, 3) := by decide +kernel
theorem dL_five_93 : decode cL_five 93 = .ok (.aload_n 0, 1) := by decide +kernel
theorem dL_five_94 : decode cL_five 94 = .ok (.invokevirtual 160, 3) := by decide +kernel
theorem dL_five_97 : decode cL_five 97 = .ok (.ifCond .eq 82, 3) := by decide +kernel
theorem dL_five_100 : decode cL_five 100 = .ok (.aload_n 0, 1) := by decide +kernel
theorem dL_five_101 : decode cL_five 101 = .ok (.iconst 0, 1) := by decide +kernel
theorem dL_five_102 : decode cL_five 102 = .ok (.invokevirtual 37, 3) := by decide +kernel
theorem dL_five_105 : decode cL_five 105 = .ok (.iconst 1, 1) := by decide +kernel
theorem dL_five_106 : decode cL_five 106 = .ok (.if_icmp .ne 73, 3) := by decide +kernel
theorem dL_five_109 : decode cL_five 109 = .ok (.aload_n 0, 1) := by decide +kernel
theorem dL_five_110 : decode cL_five 110 = .ok (.iconst 1, 1) := by decide +kernel
theorem dL_five_111 : decode cL_five 111 = .ok (.invokevirtual 37, 3) := by decide +kernel
theorem dL_five_114 : decode cL_five 114 = .ok (.bipush 9, 2) := by decide +kernel
theorem dL_five_116 : decode cL_five 116 = .ok (.if_icmp .ne 63, 3) := by decide +kernel
theorem dL_five_119 : decode cL_five 119 = .ok (.aload_n 0, 1) := by decide +kernel
theorem dL_five_120 : decode cL_five 120 = .ok (.iconst 0, 1) := by decide +kernel
theorem dL_five_121 : decode cL_five 121 = .ok (.iconst 1, 1) := by decide +kernel
theorem dL_five_122 : decode cL_five 122 = .ok (.invokevirtual 13, 3) := by decide +kernel
theorem dL_five_125 : decode cL_five 125 = .ok (.sipush 304, 3) := by decide +kernel
theorem dL_five_128 : decode cL_five 128 = .ok (.if_icmp .ne 51, 3) := by decide +kernel
theorem dL_five_131 : decode cL_five 131 = .ok (.aload_n 0, 1) := by decide +kernel
theorem dL_five_132 : decode cL_five 132 = .ok (.invokevirtual 160, 3) := by decide +kernel
theorem dL_five_135 : decode cL_five 135 = .ok (.ifCond .ne 44, 3) := by decide +kernel
theorem dL_five_138 : decode cL_five 138 = .ok (.aload_n 0, 1) := by decide +kernel
theorem dL_five_139 : decode cL_five 139 = .ok (.iconst 3, 1) := by decide +kernel
theorem dL_five_140 : decode cL_five 140 = .ok (.iconst 4, 1) := by decide +kernel
theorem dL_five_141 : decode cL_five 141 = .ok (.invokevirtual 13, 3) := by decide +kernel
theorem dL_five_144 : decode cL_five 144 = .ok (.iconst 1, 1) := by decide +kernel
theorem dL_five_145 : decode cL_five 145 = .ok (.if_icmp .ne 34, 3) := by decide +kernel
theorem dL_five_148 : decode cL_five 148 = .ok (.aload_n 0, 1) := by decide +kernel
theorem dL_five_149 : decode cL_five 149 = .ok (.invokevirtual 160, 3) := by decide +kernel
theorem dL_five_152 : decode cL_five 152 = .ok (.ifCond .eq 27, 3) := by decide +kernel
theorem dL_five_155 : decode cL_five 155 = .ok (.aload_n 0, 1) := by decide +kernel
theorem dL_five_156 : decode cL_five 156 = .ok (.iconst 4, 1) := by decide +kernel
theorem dL_five_157 : decode cL_five 157 = .ok (.iconst 0, 1) := by decide +kernel
theorem dL_five_158 : decode cL_five 158 = .ok (.bipush (-7), 2) := by decide +kernel
theorem dL_five_160 : decode cL_five 160 = .ok (.iconst 1, 1) := by decide +kernel
theorem dL_five_161 : decode cL_five 161 = .ok (.invokevirtual 30, 3) := by decide +kernel
theorem dL_five_164 : decode cL_five 164 = .ok (.iconst 1, 1) := by decide +kernel
theorem dL_five_165 : decode cL_five 165 = .ok (.if_icmp .ne 14, 3) := by decide +kernel
theorem dL_five_168 : decode cL_five 168 = .ok (.aload_n 0, 1) := by decide +kernel
theorem dL_five_169 : decode cL_five 169 = .ok (.invokevirtual 160, 3) := by decide +kernel
theorem dL_five_172 : decode cL_five 172 = .ok (.ifCond .ne 7, 3) := by decide +kernel
theorem dL_five_175 : decode cL_five 175 = .ok (.iconst 1, 1) := by decide +kernel
theorem dL_five_176 : decode cL_five 176 = .ok (.goto 4, 3) := by decide +kernel
theorem dL_five_179 : decode cL_five 179 = .ok (.iconst 0, 1) := by decide +kernel
theorem dL_five_180 : decode cL_five 180 = .ok (.ireturn, 1) := by decide +kernel
theorem dL_roots_0 : decode cL_roots 0 = .ok (.aload_n 0, 1) := by decide +kernel
theorem dL_roots_1 : decode cL_roots 1 = .ok (.iload_n 1, 1) := by decide +kernel
theorem dL_roots_2 : decode cL_roots 2 = .ok (.iconst 0, 1) := by decide +kernel
theorem dL_roots_3 : decode cL_roots 3 = .ok (.invokevirtual 54, 3) := by decide +kernel
theorem dL_roots_6 : decode cL_roots 6 = .ok (.lload_n 2, 1) := by decide +kernel
theorem dL_roots_7 : decode cL_roots 7 = .ok (.lcmp, 1) := by decide +kernel
theorem dL_roots_8 : decode cL_roots 8 = .ok (.ifCond .ne 43, 3) := by decide +kernel
theorem dL_roots_11 : decode cL_roots 11 = .ok (.aload_n 0, 1) := by decide +kernel
theorem dL_roots_12 : decode cL_roots 12 = .ok (.iload_n 1, 1) := by decide +kernel
theorem dL_roots_13 : decode cL_roots 13 = .ok (.iconst 1, 1) := by decide +kernel
theorem dL_roots_14 : decode cL_roots 14 = .ok (.invokevirtual 54, 3) := by decide +kernel
theorem dL_roots_17 : decode cL_roots 17 = .ok (.lload 4, 2) := by decide +kernel
theorem dL_roots_19 : decode cL_roots 19 = .ok (.lcmp, 1) := by decide +kernel
theorem dL_roots_20 : decode cL_roots 20 = .ok (.ifCond .ne 31, 3) := by decide +kernel
theorem dL_roots_23 : decode cL_roots 23 = .ok (.aload_n 0, 1) := by decide +kernel
theorem dL_roots_24 : decode cL_roots 24 = .ok (.iload_n 1, 1) := by decide +kernel
theorem dL_roots_25 : decode cL_roots 25 = .ok (.iconst 2, 1) := by decide +kernel
theorem dL_roots_26 : decode cL_roots 26 = .ok (.invokevirtual 54, 3) := by decide +kernel
theorem dL_roots_29 : decode cL_roots 29 = .ok (.lload 6, 2) := by decide +kernel
theorem dL_roots_31 : decode cL_roots 31 = .ok (.lcmp, 1) := by decide +kernel
theorem dL_roots_32 : decode cL_roots 32 = .ok (.ifCond .ne 19, 3) := by decide +kernel
theorem dL_roots_35 : decode cL_roots 35 = .ok (.aload_n 0, 1) := by decide +kernel
theorem dL_roots_36 : decode cL_roots 36 = .ok (.iload_n 1, 1) := by decide +kernel
theorem dL_roots_37 : decode cL_roots 37 = .ok (.iconst 3, 1) := by decide +kernel
theorem dL_roots_38 : decode cL_roots 38 = .ok (.invokevirtual 54, 3) := by decide +kernel
theorem dL_roots_41 : decode cL_roots 41 = .ok (.lload 8, 2) := by decide +kernel
theorem dL_roots_43 : decode cL_roots 43 = .ok (.lcmp, 1) := by decide +kernel
theorem dL_roots_44 : decode cL_roots 44 = .ok (.ifCond .ne 7, 3) := by decide +kernel
theorem dL_roots_47 : decode cL_roots 47 = .ok (.iconst 1, 1) := by decide +kernel
theorem dL_roots_48 : decode cL_roots 48 = .ok (.goto 4, 3) := by decide +kernel
theorem dL_roots_51 : decode cL_roots 51 = .ok (.iconst 0, 1) := by decide +kernel
theorem dL_roots_52 : decode cL_roots 52 = .ok (.ireturn, 1) := by decide +kernel
theorem dL_count_0 : decode cL_count 0 = .ok (.aload_n 0, 1) := by decide +kernel
theorem dL_count_1 : decode cL_count 1 = .ok (.iload_n 1, 1) := by decide +kernel
theorem dL_count_2 : decode cL_count 2 = .ok (.iload_n 2, 1) := by decide +kernel
theorem dL_count_3 : decode cL_count 3 = .ok (.invokevirtual 57, 3) := by decide +kernel
theorem dL_count_6 : decode cL_count 6 = .ok (.iload_n 3, 1) := by decide +kernel
theorem dL_count_7 : decode cL_count 7 = .ok (.if_icmp .ne 17, 3) := by decide +kernel
theorem dL_count_10 : decode cL_count 10 = .ok (.aload_n 0, 1) := by decide +kernel
theorem dL_count_11 : decode cL_count 11 = .ok (.iload_n 1, 1) := by decide +kernel
theorem dL_count_12 : decode cL_count 12 = .ok (.iload_n 2, 1) := by decide +kernel
theorem dL_count_13 : decode cL_count 13 = .ok (.invokevirtual 60, 3) := by decide +kernel
theorem dL_count_16 : decode cL_count 16 = .ok (.iload_n 3, 1) := by decide +kernel
theorem dL_count_17 : decode cL_count 17 = .ok (.if_icmp .ne 7, 3) := by decide +kernel
theorem dL_count_20 : decode cL_count 20 = .ok (.iconst 1, 1) := by decide +kernel
theorem dL_count_21 : decode cL_count 21 = .ok (.goto 4, 3) := by decide +kernel
theorem dL_count_24 : decode cL_count 24 = .ok (.iconst 0, 1) := by decide +kernel
theorem dL_count_25 : decode cL_count 25 = .ok (.ireturn, 1) := by decide +kernel
theorem dL_gaskets_0 : decode cL_gaskets 0 = .ok (.new 8, 3) := by decide +kernel
theorem dL_gaskets_3 : decode cL_gaskets 3 = .ok (.dup, 1) := by decide +kernel
theorem dL_gaskets_4 : decode cL_gaskets 4 = .ok (.invokespecial 126, 3) := by decide +kernel
theorem dL_gaskets_7 : decode cL_gaskets 7 = .ok (.astore_n 0, 1) := by decide +kernel
theorem dL_gaskets_8 : decode cL_gaskets 8 = .ok (.aload_n 0, 1) := by decide +kernel
theorem dL_gaskets_9 : decode cL_gaskets 9 = .ok (.bipush 9, 2) := by decide +kernel
theorem dL_gaskets_11 : decode cL_gaskets 11 = .ok (.iconst 1, 1) := by decide +kernel
theorem dL_gaskets_12 : decode cL_gaskets 12 = .ok (.iconst 1, 1) := by decide +kernel
theorem dL_gaskets_13 : decode cL_gaskets 13 = .ok (.iconst 1, 1) := by decide +kernel
theorem dL_gaskets_14 : decode cL_gaskets 14 = .ok (.iconst 1, 1) := by decide +kernel
theorem dL_gaskets_15 : decode cL_gaskets 15 = .ok (.invokestatic 117, 3) := by decide +kernel
theorem dL_gaskets_18 : decode cL_gaskets 18 = .ok (.ldc2_w 102, 3) := by decide +kernel
theorem dL_gaskets_21 : decode cL_gaskets 21 = .ok (.lcmp, 1) := by decide +kernel
theorem dL_gaskets_22 : decode cL_gaskets 22 = .ok (.ifCond .ne 384, 3) := by decide +kernel
theorem dL_gaskets_25 : decode cL_gaskets 25 = .ok (.aload_n 0, 1) := by decide +kernel
theorem dL_gaskets_26 : decode cL_gaskets 26 = .ok (.bipush 9, 2) := by decide +kernel
theorem dL_gaskets_28 : decode cL_gaskets 28 = .ok (.iconst 0, 1) := by decide +kernel
theorem dL_gaskets_29 : decode cL_gaskets 29 = .ok (.iconst 0, 1) := by decide +kernel
theorem dL_gaskets_30 : decode cL_gaskets 30 = .ok (.iconst 0, 1) := by decide +kernel
theorem dL_gaskets_31 : decode cL_gaskets 31 = .ok (.iconst 0, 1) := by decide +kernel
theorem dL_gaskets_32 : decode cL_gaskets 32 = .ok (.invokestatic 117, 3) := by decide +kernel
theorem dL_gaskets_35 : decode cL_gaskets 35 = .ok (.ldc2_w 102, 3) := by decide +kernel
theorem dL_gaskets_38 : decode cL_gaskets 38 = .ok (.lcmp, 1) := by decide +kernel
theorem dL_gaskets_39 : decode cL_gaskets 39 = .ok (.ifCond .ne 367, 3) := by decide +kernel
theorem dL_gaskets_42 : decode cL_gaskets 42 = .ok (.aload_n 0, 1) := by decide +kernel
theorem dL_gaskets_43 : decode cL_gaskets 43 = .ok (.bipush 9, 2) := by decide +kernel
theorem dL_gaskets_45 : decode cL_gaskets 45 = .ok (.iconst 1, 1) := by decide +kernel
theorem dL_gaskets_46 : decode cL_gaskets 46 = .ok (.bipush (-2), 2) := by decide +kernel
theorem dL_gaskets_48 : decode cL_gaskets 48 = .ok (.bipush (-2), 2) := by decide +kernel
theorem dL_gaskets_50 : decode cL_gaskets 50 = .ok (.bipush (-3), 2) := by decide +kernel
theorem dL_gaskets_52 : decode cL_gaskets 52 = .ok (.invokestatic 117, 3) := by decide +kernel
theorem dL_gaskets_55 : decode cL_gaskets 55 = .ok (.ldc2_w 102, 3) := by decide +kernel
theorem dL_gaskets_58 : decode cL_gaskets 58 = .ok (.lcmp, 1) := by decide +kernel
theorem dL_gaskets_59 : decode cL_gaskets 59 = .ok (.ifCond .ne 347, 3) := by decide +kernel
theorem dL_gaskets_62 : decode cL_gaskets 62 = .ok (.aload_n 0, 1) := by decide +kernel
theorem dL_gaskets_63 : decode cL_gaskets 63 = .ok (.iconst (-1), 1) := by decide +kernel
theorem dL_gaskets_64 : decode cL_gaskets 64 = .ok (.iconst 2, 1) := by decide +kernel
theorem dL_gaskets_65 : decode cL_gaskets 65 = .ok (.iconst 2, 1) := by decide +kernel
theorem dL_gaskets_66 : decode cL_gaskets 66 = .ok (.iconst 3, 1) := by decide +kernel
theorem dL_gaskets_67 : decode cL_gaskets 67 = .ok (.invokevirtual 40, 3) := by decide +kernel
theorem dL_gaskets_70 : decode cL_gaskets 70 = .ok (.ifCond .ne 336, 3) := by decide +kernel
theorem dL_gaskets_73 : decode cL_gaskets 73 = .ok (.aload_n 0, 1) := by decide +kernel
theorem dL_gaskets_74 : decode cL_gaskets 74 = .ok (.iconst 0, 1) := by decide +kernel
theorem dL_gaskets_75 : decode cL_gaskets 75 = .ok (.ldc2_w 166, 3) := by decide +kernel
theorem dL_gaskets_78 : decode cL_gaskets 78 = .ok (.ldc2_w 168, 3) := by decide +kernel
theorem dL_gaskets_81 : decode cL_gaskets 81 = .ok (.ldc2_w 168, 3) := by decide +kernel
theorem dL_gaskets_84 : decode cL_gaskets 84 = .ok (.ldc2_w 170, 3) := by decide +kernel
theorem dL_gaskets_87 : decode cL_gaskets 87 = .ok (.invokestatic 172, 3) := by decide +kernel
theorem dL_gaskets_90 : decode cL_gaskets 90 = .ok (.ifCond .eq 316, 3) := by decide +kernel
theorem dL_gaskets_93 : decode cL_gaskets 93 = .ok (.aload_n 0, 1) := by decide +kernel
theorem dL_gaskets_94 : decode cL_gaskets 94 = .ok (.iconst 0, 1) := by decide +kernel
theorem dL_gaskets_95 : decode cL_gaskets 95 = .ok (.iconst 3, 1) := by decide +kernel
theorem dL_gaskets_96 : decode cL_gaskets 96 = .ok (.invokevirtual 43, 3) := by decide +kernel
theorem dL_gaskets_99 : decode cL_gaskets 99 = .ok (.ldc2_w 170, 3) := by decide +kernel
theorem dL_gaskets_102 : decode cL_gaskets 102 = .ok (.lcmp, 1) := by decide +kernel
theorem dL_gaskets_103 : decode cL_gaskets 103 = .ok (.ifCond .ne 303, 3) := by decide +kernel
theorem dL_gaskets_106 : decode cL_gaskets 106 = .ok (.aload_n 0, 1) := by decide +kernel
theorem dL_gaskets_107 : decode cL_gaskets 107 = .ok (.iconst 0, 1) := by decide +kernel
theorem dL_gaskets_108 : decode cL_gaskets 108 = .ok (.iconst 0, 1) := by decide +kernel
theorem dL_gaskets_109 : decode cL_gaskets 109 = .ok (.invokevirtual 43, 3) := by decide +kernel
theorem dL_gaskets_112 : decode cL_gaskets 112 = .ok (.ldc2_w 176, 3) := by decide +kernel
theorem dL_gaskets_115 : decode cL_gaskets 115 = .ok (.lcmp, 1) := by decide +kernel
theorem dL_gaskets_116 : decode cL_gaskets 116 = .ok (.ifCond .ne 290, 3) := by decide +kernel
theorem dL_gaskets_119 : decode cL_gaskets 119 = .ok (.aload_n 0, 1) := by decide +kernel
theorem dL_gaskets_120 : decode cL_gaskets 120 = .ok (.iconst 0, 1) := by decide +kernel
theorem dL_gaskets_121 : decode cL_gaskets 121 = .ok (.ldc2_w 166, 3) := by decide +kernel
theorem dL_gaskets_124 : decode cL_gaskets 124 = .ok (.ldc2_w 168, 3) := by decide +kernel
theorem dL_gaskets_127 : decode cL_gaskets 127 = .ok (.ldc2_w 168, 3) := by decide +kernel
theorem dL_gaskets_130 : decode cL_gaskets 130 = .ok (.ldc2_w 170, 3) := by decide +kernel
theorem dL_gaskets_133 : decode cL_gaskets 133 = .ok (.invokestatic 172, 3) := by decide +kernel
theorem dL_gaskets_136 : decode cL_gaskets 136 = .ok (.ifCond .eq 270, 3) := by decide +kernel
theorem dL_gaskets_139 : decode cL_gaskets 139 = .ok (.aload_n 0, 1) := by decide +kernel
theorem dL_gaskets_140 : decode cL_gaskets 140 = .ok (.iconst 0, 1) := by decide +kernel
theorem dL_gaskets_141 : decode cL_gaskets 141 = .ok (.iconst 0, 1) := by decide +kernel
theorem dL_gaskets_142 : decode cL_gaskets 142 = .ok (.invokevirtual 47, 3) := by decide +kernel
theorem dL_gaskets_145 : decode cL_gaskets 145 = .ok (.ldc2_w 176, 3) := by decide +kernel
theorem dL_gaskets_148 : decode cL_gaskets 148 = .ok (.lcmp, 1) := by decide +kernel
theorem dL_gaskets_149 : decode cL_gaskets 149 = .ok (.ifCond .ne 257, 3) := by decide +kernel
theorem dL_gaskets_152 : decode cL_gaskets 152 = .ok (.aload_n 0, 1) := by decide +kernel
theorem dL_gaskets_153 : decode cL_gaskets 153 = .ok (.iconst 0, 1) := by decide +kernel
theorem dL_gaskets_154 : decode cL_gaskets 154 = .ok (.iconst 3, 1) := by decide +kernel
theorem dL_gaskets_155 : decode cL_gaskets 155 = .ok (.invokevirtual 47, 3) := by decide +kernel
theorem dL_gaskets_158 : decode cL_gaskets 158 = .ok (.ldc2_w 170, 3) := by decide +kernel
theorem dL_gaskets_161 : decode cL_gaskets 161 = .ok (.lcmp, 1) := by decide +kernel
theorem dL_gaskets_162 : decode cL_gaskets 162 = .ok (.ifCond .ne 244, 3) := by decide +kernel
theorem dL_gaskets_165 : decode cL_gaskets 165 = .ok (.aload_n 0, 1) := by decide +kernel
theorem dL_gaskets_166 : decode cL_gaskets 166 = .ok (.iconst 0, 1) := by decide +kernel
theorem dL_gaskets_167 : decode cL_gaskets 167 = .ok (.iconst 1, 1) := by decide +kernel
theorem dL_gaskets_168 : decode cL_gaskets 168 = .ok (.invokevirtual 50, 3) := by decide +kernel
theorem dL_gaskets_171 : decode cL_gaskets 171 = .ok (.ldc 178, 2) := by decide +kernel
theorem dL_gaskets_173 : decode cL_gaskets 173 = .ok (.fcmp .l, 1) := by decide +kernel
theorem dL_gaskets_174 : decode cL_gaskets 174 = .ok (.ifCond .ne 232, 3) := by decide +kernel
theorem dL_gaskets_177 : decode cL_gaskets 177 = .ok (.aload_n 0, 1) := by decide +kernel
theorem dL_gaskets_178 : decode cL_gaskets 178 = .ok (.iconst 0, 1) := by decide +kernel
theorem dL_gaskets_179 : decode cL_gaskets 179 = .ok (.iconst 0, 1) := by decide +kernel
theorem dL_gaskets_180 : decode cL_gaskets 180 = .ok (.invokevirtual 50, 3) := by decide +kernel
theorem dL_gaskets_183 : decode cL_gaskets 183 = .ok (.ldc 179, 2) := by decide +kernel
theorem dL_gaskets_185 : decode cL_gaskets 185 = .ok (.fcmp .l, 1) := by decide +kernel
theorem dL_gaskets_186 : decode cL_gaskets 186 = .ok (.ifCond .ne 220, 3) := by decide +kernel
theorem dL_gaskets_189 : decode cL_gaskets 189 = .ok (.aload_n 0, 1) := by decide +kernel
theorem dL_gaskets_190 : decode cL_gaskets 190 = .ok (.iconst 0, 1) := by decide +kernel
theorem dL_gaskets_191 : decode cL_gaskets 191 = .ok (.iconst 2, 1) := by decide +kernel
theorem dL_gaskets_192 : decode cL_gaskets 192 = .ok (.invokevirtual 43, 3) := by decide +kernel
theorem dL_gaskets_195 : decode cL_gaskets 195 = .ok (.ldc2_w 180, 3) := by decide +kernel
theorem dL_gaskets_198 : decode cL_gaskets 198 = .ok (.lcmp, 1) := by decide +kernel
theorem dL_gaskets_199 : decode cL_gaskets 199 = .ok (.ifCond .ne 207, 3) := by decide +kernel
theorem dL_gaskets_202 : decode cL_gaskets 202 = .ok (.aload_n 0, 1) := by decide +kernel
theorem dL_gaskets_203 : decode cL_gaskets 203 = .ok (.iconst 0, 1) := by decide +kernel
theorem dL_gaskets_204 : decode cL_gaskets 204 = .ok (.ldc2_w 166, 3) := by decide +kernel
theorem dL_gaskets_207 : decode cL_gaskets 207 = .ok (.ldc2_w 168, 3) := by decide +kernel
theorem dL_gaskets_210 : decode cL_gaskets 210 = .ok (.ldc2_w 168, 3) := by decide +kernel
theorem dL_gaskets_213 : decode cL_gaskets 213 = .ok (.ldc2_w 170, 3) := by decide +kernel
theorem dL_gaskets_216 : decode cL_gaskets 216 = .ok (.invokestatic 172, 3) := by decide +kernel
theorem dL_gaskets_219 : decode cL_gaskets 219 = .ok (.ifCond .eq 187, 3) := by decide +kernel
theorem dL_gaskets_222 : decode cL_gaskets 222 = .ok (.aload_n 0, 1) := by decide +kernel
theorem dL_gaskets_223 : decode cL_gaskets 223 = .ok (.iconst 0, 1) := by decide +kernel
theorem dL_gaskets_224 : decode cL_gaskets 224 = .ok (.iconst 1, 1) := by decide +kernel
theorem dL_gaskets_225 : decode cL_gaskets 225 = .ok (.iconst 1, 1) := by decide +kernel
