set_option maxRecDepth 20000 in
theorem gL_five_X8_flip : GoodIn wsL_five (wsV RL 13 RX8 yX8_flip wsX8_flip) := goodIn_app (goodIn_of _ (by decide +kernel)) ggL_five_X8_flip
set_option maxRecDepth 20000 in
theorem ggL_five_X8_move : GoodIn wsL_five wsX8_move := goodIn_ca (goodIn_ca (goodIn_r _ [261, 222, 223, 98, 99, 17, 194, 102, 103, 104, 195, 196, 197, 3, 198, 113, 114, 115, 16, 116, 117, 105, 106, 107, 108, 109, 110, 111, 112, 199, 200, 201, 202, 203, 204, 205, 206, 207, 208, 209, 210, 211, 212, 213, 214, 61, 118, 119, 120, 8, 9, 121, 122, 123, 262, 263, 264, 265, 266, 267, 268, 269, 270, 271, 272, 289, 290, 291, 277, 278, 279] (by decide +kernel) (by decide +kernel)) (goodIn_sub (fun _ h => List.mem_cons_of_mem _ (List.mem_append_right _ h)) (by decide +kernel))) (goodIn_sub (fun _ h => List.mem_cons_of_mem _ (List.mem_append_left _ (List.mem_append_left _ (List.mem_append_right _ h)))) (by decide +kernel))
set_option maxRecDepth 20000 in
theorem gL_five_X8_move : GoodIn wsL_five (wsV RL 30 RX8 yX8_move wsX8_move) := goodIn_app (goodIn_of _ (by decide +kernel)) ggL_five_X8_move
theorem dL_five_0 : decode cL_five 0 = .ok (.new 8, 3) := by decide +kernel
theorem dL_five_3 : decode cL_five 3 = .ok (.dup, 1) := by decide +kernel
theorem dL_five_4 : decode cL_five 4 = .ok (.invokespecial 126, 3) := by decide +kernel
theorem dL_five_7 : decode cL_five 7 = .ok (.astore_n 0, 1) := by decide +kernel
theorem dL_five_8 : decode cL_five 8 = .ok (.aload_n 0, 1) := by decide +kernel
theorem dL_five_9 : decode cL_five 9 = .ok (.bipush (-24), 2) := by decide +kernel
theorem dL_five_11 : decode cL_five 11 = .ok (.iconst 0, 1) := by decide +kernel
theorem dL_five_12 : decode cL_five 12 = .ok (.bipush 24, 2) := by decide +kernel
theorem dL_five_14 : decode cL_five 14 = .ok (.invokevirtual 26, 3) := by decide +kernel
theorem dL_five_17 : decode cL_five 17 = .ok (.ifCond .ne 162, 3) := by decide +kernel
theorem dL_five_20 : decode cL_five 20 = .ok (.aload_n 0, 1) := by decide +kernel
theorem dL_five_21 : decode cL_five 21 = .ok (.bipush 24, 2) := by decide +kernel
theorem dL_five_23 : decode cL_five 23 = .ok (.iconst 0, 1) := by decide +kernel
theorem dL_five_24 : decode cL_five 24 = .ok (.bipush 24, 2) := by decide +kernel
theorem dL_five_26 : decode cL_five 26 = .ok (.invokevirtual 26, 3) := by decide +kernel
theorem dL_five_29 : decode cL_five 29 = .ok (.iconst 1, 1) := by decide +kernel
theorem dL_five_30 : decode cL_five 30 = .ok (.if_icmp .ne 149, 3) := by decide +kernel
theorem dL_five_33 : decode cL_five 33 = .ok (.aload_n 0, 1) := by decide +kernel
theorem dL_five_34 : decode cL_five 34 = .ok (.iconst 0, 1) := by decide +kernel
theorem dL_five_35 : decode cL_five 35 = .ok (.bipush 10, 2) := by decide +kernel
theorem dL_five_37 : decode cL_five 37 = .ok (.iconst 2, 1) := by decide +kernel
theorem dL_five_38 : decode cL_five 38 = .ok (.invokevirtual 26, 3) := by decide +kernel
theorem dL_five_41 : decode cL_five 41 = .ok (.iconst 2, 1) := by decide +kernel
theorem dL_five_42 : decode cL_five 42 = .ok (.if_icmp .ne 137, 3) := by decide +kernel
theorem dL_five_45 : decode cL_five 45 = .ok (.aload_n 0, 1) := by decide +kernel
theorem dL_five_46 : decode cL_five 46 = .ok (.iconst 0, 1) := by decide +kernel
theorem dL_five_47 : decode cL_five 47 = .ok (.bipush 18, 2) := by decide +kernel
theorem dL_five_49 : decode cL_five 49 = .ok (.bipush 6, 2) := by decide +kernel
theorem dL_five_51 : decode cL_five 51 = .ok (.invokevirtual 26, 3) := by decide +kernel
theorem dL_five_54 : decode cL_five 54 = .ok (.iconst 3, 1) := by decide +kernel
theorem dL_five_55 : decode cL_five 55 = .ok (.if_icmp .ne 124, 3) := by decide +kernel
theorem dL_five_58 : decode cL_five 58 = .ok (.aload_n 0, 1) := by decide +kernel
theorem dL_five_59 : decode cL_five 59 = .ok (.invokevirtual 160, 3) := by decide +kernel
theorem dL_five_62 : decode cL_five 62 = .ok (.ifCond .eq 117, 3) := by decide +kernel
theorem dL_five_65 : decode cL_five 65 = .ok (.aload_n 0, 1) := by decide +kernel
theorem dL_five_66 : decode cL_five 66 = .ok (.iconst 0, 1) := by decide +kernel
theorem dL_five_67 : decode cL_five 67 = .ok (.bipush 7, 2) := by decide +kernel
theorem dL_five_69 : decode cL_five 69 = .ok (.iconst 1, 1) := by decide +kernel
theorem dL_five_70 : decode cL_five 70 = .ok (.invokevirtual 26, 3) := by decide +kernel
theorem dL_five_73 : decode cL_five 73 = .ok (.iconst 4, 1) := by decide +kernel
theorem dL_five_74 : decode cL_five 74 = .ok (.if_icmp .ne 105, 3) := by decide +kernel
theorem dL_five_77 : decode cL_five 77 = .ok (.aload_n 0, 1) := by decide +kernel
theorem dL_five_78 : decode cL_five 78 = .ok (.invokevirtual 160, 3) := by decide +kernel
theorem dL_five_81 : decode cL_five 81 = .ok (.ifCond .ne 98, 3) := by decide +kernel
theorem dL_five_84 : decode cL_five 84 = .ok (.aload_n 0, 1) := by decide +kernel
theorem dL_five_85 : decode cL_five 85 = .ok (.iconst 0, 1) := by decide +kernel
theorem dL_five_86 : decode cL_five 86 = .ok (.invokevirtual 7, 3) := by decide +kernel
theorem dL_five_89 : decode cL_five 89 = .ok (.iconst 4, 1) := by decide +kernel
theorem dL_five_90 : decode cL_five 90 = .ok (.if_icmp .ne 89, 3) := by decide +kernel
theorem dL_five_93 : decode cL_five 93 = .ok (.aload_n 0, 1) := by decide +kernel
theorem dL_five_94 : decode cL_five 94 = .ok (.invokevirtual 160, 3) := by decide +kernel
theorem dL_five_97 : decode cL_five 97 = .ok (.ifCond .eq 82, 3) := by decide +kernel
theorem dL_five_100 : decode cL_five 100 = .ok (.aload_n 0, 1) := by decide +kernel
theorem dL_five_101 : decode cL_five 101 = .ok (.iconst 0, 1) := by decide +kernel
theorem dL_five_102 : decode cL_five 102 = .ok (.invokevirtual 37, 3) := by decide +kernel
theorem dL_five_105 : decode cL_five 105 = .ok (.iconst 1, 1) := by decide +kernel
theorem dL_five_106 : decode cL_five 106 = .ok (.if_icmp .ne 73, 3) := by decide +kernel
theorem dL_five_109 : decode cL_five 109 = .ok (.aload_n 0, 1) := by decide +kernel
theorem dL_five_110 : decode cL_five 110 = .ok (.iconst 1, 1) := by decide +kernel
theorem dL_five_111 : decode cL_five 111 = .ok (.invokevirtual 37, 3) := by decide +kernel
theorem dL_five_114 : decode cL_five 114 = .ok (.bipush 9, 2) := by decide +kernel
theorem dL_five_116 : decode cL_five 116 = .ok (.if_icmp .ne 63, 3) := by decide +kernel
theorem dL_five_119 : decode cL_five 119 = .ok (.aload_n 0, 1) := by decide +kernel
theorem dL_five_120 : decode cL_five 120 = .ok (.iconst 0, 1) := by decide +kernel
theorem dL_five_121 : decode cL_five 121 = .ok (.iconst 1, 1) := by decide +kernel
theorem dL_five_122 : decode cL_five 122 = .ok (.invokevirtual 13, 3) := by decide +kernel
theorem dL_five_125 : decode cL_five 125 = .ok (.sipush 304, 3) := by decide +kernel
theorem dL_five_128 : decode cL_five 128 = .ok (.if_icmp .ne 51, 3) := by decide +kernel
theorem dL_five_131 : decode cL_five 131 = .ok (.aload_n 0, 1) := by decide +kernel
theorem dL_five_132 : decode cL_five 132 = .ok (.invokevirtual 160, 3) := by decide +kernel
theorem dL_five_135 : decode cL_five 135 = .ok (.ifCond .ne 44, 3) := by decide +kernel
theorem dL_five_138 : decode cL_five 138 = .ok (.aload_n 0, 1) := by decide +kernel
theorem dL_five_139 : decode cL_five 139 = .ok (.iconst 3, 1) := by decide +kernel
theorem dL_five_140 : decode cL_five 140 = .ok (.iconst 4, 1) := by decide +kernel
theorem dL_five_141 : decode cL_five 141 = .ok (.invokevirtual 13, 3) := by decide +kernel
theorem dL_five_144 : decode cL_five 144 = .ok (.iconst 1, 1) := by decide +kernel
theorem dL_five_145 : decode cL_five 145 = .ok (.if_icmp .ne 34, 3) := by decide +kernel
theorem dL_five_148 : decode cL_five 148 = .ok (.aload_n 0, 1) := by decide +kernel
theorem dL_five_149 : decode cL_five 149 = .ok (.invokevirtual 160, 3) := by decide +kernel
theorem dL_five_152 : decode cL_five 152 = .ok (.ifCond .eq 27, 3) := by decide +kernel
theorem dL_five_155 : decode cL_five 155 = .ok (.aload_n 0, 1) := by decide +kernel
theorem dL_five_156 : decode cL_five 156 = .ok (.iconst 4, 1) := by decide +kernel
theorem dL_five_157 : decode cL_five 157 = .ok (.iconst 0, 1) := by decide +kernel
theorem dL_five_158 : decode cL_five 158 = .ok (.bipush (-7), 2) := by decide +kernel
theorem dL_five_160 : decode cL_five 160 = .ok (.iconst 1, 1) := by decide +kernel
theorem dL_five_161 : decode cL_five 161 = .ok (.invokevirtual 30, 3) := by decide +kernel
theorem dL_five_164 : decode cL_five 164 = .ok (.iconst 1, 1) := by decide +kernel
theorem dL_five_165 : decode cL_five 165 = .ok (.if_icmp .ne 14, 3) := by decide +kernel
theorem dL_five_168 : decode cL_five 168 = .ok (.aload_n 0, 1) := by decide +kernel
theorem dL_five_169 : decode cL_five 169 = .ok (.invokevirtual 160, 3) := by decide +kernel
theorem dL_five_172 : decode cL_five 172 = .ok (.ifCond .ne 7, 3) := by decide +kernel
theorem dL_five_175 : decode cL_five 175 = .ok (.iconst 1, 1) := by decide +kernel
theorem dL_five_176 : decode cL_five 176 = .ok (.goto 4, 3) := by decide +kernel
theorem dL_five_179 : decode cL_five 179 = .ok (.iconst 0, 1) := by decide +kernel
theorem dL_five_180 : decode cL_five 180 = .ok (.ireturn, 1) := by decide +kernel
set_option maxRecDepth 20000 in
theorem ggL_roots_X8_root : GoodIn wsL_roots wsX8_root := goodIn_ca (goodIn_r _ [5, 6, 7, 8, 9, 10, 4, 11, 12, 13, 14, 15, 16, 17, 18, 19, 20, 21, 22, 23, 24, 25, 26, 27, 28, 29, 30, 31, 32, 33, 34, 35, 36, 37, 38, 39, 40, 41, 42, 43, 44, 45, 46, 47, 48, 49] (by decide +kernel) (by decide +kernel)) (goodIn_sub (fun _ h => List.mem_cons_of_mem _ (List.mem_append_right _ h)) (by decide +kernel))
set_option maxRecDepth 20000 in
theorem gL_roots_X8_root : GoodIn wsL_roots (wsV RL 54 RX8 yX8_root wsX8_root) := goodIn_app (goodIn_of _ (by decide +kernel)) ggL_roots_X8_root
theorem dL_roots_0 : decode cL_roots 0 = .ok (.aload_n 0, 1) := by decide +kernel
theorem dL_roots_1 : decode cL_roots 1 = .ok (.iload_n 1, 1) := by decide +kernel
theorem dL_roots_2 : decode cL_roots 2 = .ok (.iconst 0, 1) := by decide +kernel
theorem dL_roots_3 : decode cL_roots 3 = .ok (.invokevirtual 54, 3) := by decide +kernel
theorem dL_roots_6 : decode cL_roots 6 = .ok (.lload_n 2, 1) := by decide +kernel
theorem dL_roots_7 : decode cL_roots 7 = .ok (.lcmp, 1) := by decide +kernel
theorem dL_roots_8 : decode cL_roots 8 = .ok (.ifCond .ne 43, 3) := by decide +kernel
theorem dL_roots_11 : decode cL_roots 11 = .ok (.aload_n 0, 1) := by decide +kernel
theorem dL_roots_12 : decode cL_roots 12 = .ok (.iload_n 1, 1) := by decide +kernel
theorem dL_roots_13 : decode cL_roots 13 = .ok (.iconst 1, 1) := by decide +kernel
theorem dL_roots_14 : decode cL_roots 14 = .ok (.invokevirtual 54, 3) := by decide +kernel
theorem dL_roots_17 : decode cL_roots 17 = .ok (.lload 4, 2) := by decide +kernel
theorem dL_roots_19 : decode cL_roots 19 = .ok (.lcmp, 1) := by decide +kernel
theorem dL_roots_20 : decode cL_roots 20 = .ok (.ifCond .ne 31, 3) := by decide +kernel
theorem dL_roots_23 : decode cL_roots 23 = .ok (.aload_n 0, 1) := by decide +kernel
theorem dL_roots_24 : decode cL_roots 24 = .ok (.iload_n 1, 1) := by decide +kernel
theorem dL_roots_25 : decode cL_roots 25 = .ok (.iconst 2, 1) := by decide +kernel
theorem dL_roots_26 : decode cL_roots 26 = .ok (.invokevirtual 54, 3) := by decide +kernel
theorem dL_roots_29 : decode cL_roots 29 = .ok (.lload 6, 2) := by decide +kernel
theorem dL_roots_31 : decode cL_roots 31 = .ok (.lcmp, 1) := by decide +kernel
theorem dL_roots_32 : decode cL_roots 32 = .ok (.ifCond .ne 19, 3) := by decide +kernel
theorem dL_roots_35 : decode cL_roots 35 = .ok (.aload_n 0, 1) := by decide +kernel
theorem dL_roots_36 : decode cL_roots 36 = .ok (.iload_n 1, 1) := by decide +kernel
theorem dL_roots_37 : decode cL_roots 37 = .ok (.iconst 3, 1) := by decide +kernel
theorem dL_roots_38 : decode cL_roots 38 = .ok (.invokevirtual 54, 3) := by decide +kernel
theorem dL_roots_41 : decode cL_roots 41 = .ok (.lload 8, 2) := by decide +kernel
theorem dL_roots_43 : decode cL_roots 43 = .ok (.lcmp, 1) := by decide +kernel
theorem dL_roots_44 : decode cL_roots 44 = .ok (.ifCond .ne 7, 3) := by decide +kernel
theorem dL_roots_47 : decode cL_roots 47 = .ok (.iconst 1, 1) := by decide +kernel
theorem dL_roots_48 : decode cL_roots 48 = .ok (.goto 4, 3) := by decide +kernel
theorem dL_roots_51 : decode cL_roots 51 = .ok (.iconst 0, 1) := by decide +kernel
theorem dL_roots_52 : decode cL_roots 52 = .ok (.ireturn, 1) := by decide +kernel
set_option maxRecDepth 20000 in
theorem ggL_count_X8_count : GoodIn wsL_count wsX8_count := goodIn_ca (goodIn_ca (goodIn_ca (goodIn_r _ [5, 6, 7, 8, 4, 9, 10, 11, 12, 13, 14, 15, 16, 17, 18, 19, 20, 21, 22, 23, 24, 25, 26, 27, 28, 29, 30, 31, 32, 33, 34, 35, 36, 37, 38, 39, 40, 41, 42, 43, 44, 45, 46, 47, 48, 49, 50, 51, 52, 53, 54, 55, 56, 57, 58, 59, 60, 61, 62, 63, 64, 65, 88, 89, 90, 91, 92, 93, 94, 95, 96, 97, 98, 99, 100] (by decide +kernel) (by decide +kernel)) (goodIn_sub (fun _ h => List.mem_cons_of_mem _ (List.mem_append_left _ (List.mem_append_left _ (List.mem_append_right _ h)))) (by decide +kernel))) (goodIn_sub (fun _ h => List.mem_cons_of_mem _ (List.mem_append_left _ (List.mem_append_right _ h))) (by decide +kernel))) (goodIn_sub (fun _ h => List.mem_cons_of_mem _ (List.mem_append_right _ h)) (by decide +kernel))
set_option maxRecDepth 20000 in
theorem gL_count_X8_count : GoodIn wsL_count (wsV RL 57 RX8 yX8_count wsX8_count) := goodIn_app (goodIn_of _ (by decide +kernel)) ggL_count_X8_count
set_option maxRecDepth 20000 in
theorem ggL_count_X8_countAnew : GoodIn wsL_count wsX8_countAnew := goodIn_ca (goodIn_ca (goodIn_ca (goodIn_r _ [69, 6, 7, 8, 4, 9, 10, 11, 12, 13, 14, 15, 16, 17, 18, 19, 20, 21, 22, 23, 24, 25, 26, 27, 28, 29, 30, 31, 32, 33, 34, 35, 36, 37, 38, 39, 40, 41, 42, 43, 44, 70, 46, 71, 72, 49, 55, 56, 57, 58, 73, 74, 75, 65, 76, 77, 78, 79, 80, 81, 82, 83, 84, 85, 86, 87, 88, 89, 90, 91, 92, 93, 94, 95, 96, 97, 98, 99, 100] (by decide +kernel) (by decide +kernel)) (goodIn_sub (fun _ h => List.mem_cons_of_mem _ (List.mem_append_left _ (List.mem_append_left _ (List.mem_append_right _ h)))) (by decide +kernel))) (goodIn_sub (fun _ h => List.mem_cons_of_mem _ (List.mem_append_left _ (List.mem_append_right _ h))) (by decide +kernel))) (goodIn_sub (fun _ h => List.mem_cons_of_mem _ (List.mem_append_right _ h)) (by decide +kernel))
set_option maxRecDepth 20000 in
theorem gL_count_X8_countAnew : GoodIn wsL_count (wsV RL 60 RX8 yX8_countAnew wsX8_countAnew) := goodIn_app (goodIn_of _ (by decide +kernel)) ggL_count_X8_countAnew
theorem dL_count_0 : decode cL_count 0 = .ok (.aload_n 0, 1) := by decide +kernel
theorem dL_count_1 : decode cL_count 1 = .ok (.iload_n 1, 1) := by decide +kernel
theorem dL_count_2 : decode cL_count 2 = .ok (.iload_n 2, 1) := by decide +kernel
theorem dL_count_3 : decode cL_count 3 = .ok (.invokevirtual 57, 3) := by decide +kernel
theorem dL_count_6 : decode cL_count 6 = .ok (.iload_n 3, 1) := by decide +kernel
theorem dL_count_7 : decode cL_count 7 = .ok (.if_icmp .ne 17, 3) := by decide +kernel
theorem dL_count_10 : decode cL_count 10 = .ok (.aload_n 0, 1) := by decide +kernel
theorem dL_count_11 : decode cL_count 11 = .ok (.iload_n 1, 1) := by decide +kernel
theorem dL_count_12 : decode cL_count 12 = .ok (.iload_n 2, 1) := by decide +kernel
theorem dL_count_13 : decode cL_count 13 = .ok (.invokevirtual 60, 3) := by decide +kernel
theorem dL_count_16 : decode cL_count 16 = .ok (.iload_n 3, 1) := by decide +kernel
theorem dL_count_17 : decode cL_count 17 = .ok (.if_icmp .ne 7, 3) := by decide +kernel
theorem dL_count_20 : decode cL_count 20 = .ok (.iconst 1, 1) := by decide +kernel
theorem dL_count_21 : decode cL_count 21 = .ok (.goto 4, 3) := by decide +kernel
theorem dL_count_24 : decode cL_count 24 = .ok (.iconst 0, 1) := by decide +kernel
theorem dL_count_25 : decode cL_count 25 = .ok (.ireturn, 1) := by decide +kernel
set_option maxRecDepth 20000 in
theorem ggL_gaskets_X8_init : GoodIn wsL_gaskets wsX8_init := goodIn_r _ [25, 26, 27, 28, 29, 30, 31, 32, 33, 34, 35, 36, 37, 38, 39, 40, 41, 42, 43, 44, 45, 46, 47, 48, 49, 50, 51, 52, 53, 54, 55, 56, 57, 58, 59, 60, 61, 62, 63, 64, 65, 66, 67, 68, 69, 70, 71, 72, 73, 74, 75, 76, 77, 78, 79, 80, 81, 82, 83, 84, 85, 86, 87, 88, 89, 90, 91, 92, 93, 94, 95, 96, 97, 98, 99, 100, 101, 102, 103, 104, 105, 106, 107, 108, 109, 110, 111, 112, 652, 653, 654, 655, 645, 646, 647, 648, 649, 650, 651, 656, 657, 658, 659, 660, 661, 662, 663, 664, 665, 666, 667] (by decide +kernel) (by decide +kernel)
set_option maxRecDepth 20000 in
theorem gL_gaskets_X8_init : GoodIn wsL_gaskets (wsX8_init) := ggL_gaskets_X8_init
set_option maxRecDepth 20000 in
theorem ggL_gaskets_L_act : GoodIn wsL_gaskets wsL_act := goodIn_ca (goodIn_ca (goodIn_ca (goodIn_r _ [116, 117, 118, 119, 120, 4, 14, 121, 122, 123, 3, 124, 125, 126, 127, 128, 32, 129, 31, 130, 131, 58, 132, 133, 134, 57, 135, 136, 137, 138, 139, 140, 141, 55, 64, 65, 66, 67, 68, 69, 70, 71, 72, 73, 74, 75, 56, 142, 143, 144, 145, 146, 147, 148, 149, 150, 151, 152, 153, 154, 155, 156, 157, 158, 159, 160, 161, 162, 163, 164, 165, 166, 167, 168, 169, 170, 171, 172, 173, 174, 175, 176, 177, 178, 179, 180, 181, 182, 183, 184, 185, 186, 187, 188, 189, 190, 191, 192, 193, 194, 195, 196, 197, 198, 199, 200, 201, 202, 203, 204, 205, 206, 207, 208, 209, 210, 211, 212, 213, 36, 214, 215, 216, 217, 218, 219, 220, 221, 222, 223, 224, 225, 226, 227, 35, 228, 229, 230, 231, 232, 27, 28, 233, 234, 235, 236, 237, 238, 239, 240, 241, 80, 242, 243, 244, 245, 246, 247, 248, 249, 250, 251, 252, 253, 79, 254, 255, 256, 257, 258, 259, 260, 261, 262, 263, 264, 265, 266, 62, 267, 268, 269, 270, 271, 272, 273, 274, 275, 276, 277, 278, 279, 280, 281, 282, 283, 284, 285, 286, 287, 288, 289, 290, 291, 292, 293, 294, 295, 296, 297, 298, 299, 300, 301, 302, 303, 304, 305, 306, 307, 308, 309, 310, 311, 312, 313, 314, 315, 316, 317, 318, 319, 320, 321, 322, 323, 324, 325, 326, 327, 328, 329, 330, 37, 331, 332, 333, 334, 335, 336, 337, 338, 339, 340, 341, 342, 343, 344, 94, 345, 346, 347, 348, 349, 350, 351, 352, 353, 354, 355, 356, 357, 358, 359, 360, 361, 362, 363, 364, 365, 366, 367, 368, 369, 370, 371, 372, 373, 374, 375, 376, 377, 378, 379, 380, 381, 382, 383, 384, 385, 386, 387, 388, 389, 390, 391, 392, 393, 394, 395, 396, 397, 398, 399, 400, 401, 402, 403, 404, 405, 406, 407, 408, 409, 410, 411, 412, 413, 414, 415, 416, 417, 418, 419, 420, 421, 422, 423, 424, 425, 426, 427, 428, 429, 430, 431, 432, 433, 434, 435, 41, 436, 40, 437, 438, 95, 96, 439, 440, 441, 442, 443, 444, 445, 446, 447, 448, 449, 450, 451, 452, 453, 454, 455, 456, 457, 458, 459, 460, 461, 462, 463, 464, 465, 466, 467, 468, 469, 470, 471, 472, 473, 474, 475, 476, 477, 478, 479, 480, 481, 482, 483, 484, 485, 486, 487, 488, 489, 490, 491, 492, 493, 494, 495, 496, 497, 498, 499, 500, 42, 43, 44, 45, 97, 98, 99, 100, 101, 102, 103, 501, 502, 503, 504, 505, 46, 506, 507, 508, 509, 510, 511, 512, 513, 514, 515, 516, 517, 518, 519, 520, 521, 522, 523, 524, 525, 526, 527, 528, 529, 530, 531, 532, 533, 534, 535, 536, 537, 50, 538, 49, 539, 540, 111, 108, 541, 542, 543, 544, 545, 546, 547, 548, 549, 550, 551, 552, 553, 554, 555, 556, 557, 558, 559, 560, 561, 562, 563, 564, 565, 566, 567, 568, 569, 570, 571, 572, 573, 574, 110, 575, 576, 577, 578, 579, 580, 581, 582, 583, 584, 585, 586, 587, 588, 589, 590, 591, 592, 593, 594, 595, 596, 597, 598, 599, 600, 601, 602, 603, 604, 605, 606, 607, 608, 609, 645, 646, 647, 648, 649, 650, 651, 652, 653, 654, 655, 668, 669, 670, 656, 657, 658, 671, 672, 673, 659, 660, 661, 662, 663, 664, 665, 666, 667, 674, 675] (by decide +kernel) (by decide +kernel)) (goodIn_sub (fun _ h => List.mem_cons_of_mem _ (List.mem_append_left _ (List.mem_append_left _ (List.mem_append_right _ h)))) (by decide +kernel))) (goodIn_sub (fun _ h => List.mem_cons_of_mem _ (List.mem_append_left _ (List.mem_append_right _ h))) (by decide +kernel))) (goodIn_sub (fun _ h => List.mem_cons_of_mem _ (List.mem_append_right _ h)) (by decide +kernel))
set_option maxRecDepth 20000 in
theorem gL_gaskets_L_act : GoodIn wsL_gaskets (va_wsS RL 117 yL_act wsL_act) := goodIn_app (goodIn_of _ (by decide +kernel)) ggL_gaskets_L_act
set_option maxRecDepth 20000 in
theorem ggL_gaskets_X8_gasket : GoodIn wsL_gaskets wsX8_gasket := goodIn_ca (goodIn_ca (goodIn_r _ [329, 212, 213, 127, 128, 330, 37, 331, 332, 333, 334, 335, 3, 336, 222, 223, 224, 337, 338, 339, 225, 226, 227, 35, 228, 229, 340, 341, 342, 27, 28, 343, 344, 94, 345, 346, 347, 348, 349, 350, 351, 352, 353, 354, 355, 356, 357, 358, 359, 360, 361, 362, 363, 364, 236, 237, 238, 239, 240, 241, 80, 242, 243, 244, 245, 246, 247, 248, 249, 250, 251, 252, 253, 79, 254, 169, 166, 170, 255, 256, 257, 258, 259, 260, 261, 262, 263, 264, 265, 266, 62, 267, 268, 269, 270, 271, 272, 273, 274, 275, 276, 277, 165, 167, 278, 279, 280, 281, 645, 646, 647, 648, 649, 650, 651, 671, 672, 673, 656, 657, 658] (by decide +kernel) (by decide +kernel)) (goodIn_sub (fun _ h => List.mem_cons_of_mem _ (List.mem_append_right _ h)) (by decide +kernel))) (goodIn_sub (fun _ h => List.mem_cons_of_mem _ (List.mem_append_left _ (List.mem_append_right _ h))) (by decide +kernel))
set_option maxRecDepth 20000 in
theorem gL_gaskets_X8_gasket : GoodIn wsL_gaskets (wsV RL 40 RX8 yX8_gasket wsX8_gasket) := goodIn_app (goodIn_of _ (by decide +kernel)) ggL_gaskets_X8_gasket
set_option maxRecDepth 20000 in
theorem ggL_gaskets_L_roots : GoodIn wsL_gaskets wsL_roots := goodIn_ca (goodIn_r _ [612, 387, 388, 389, 3, 390, 125, 126, 374, 375, 376, 377, 37, 378, 225, 226, 227, 35, 228, 229, 291, 292, 293, 294, 295, 296, 297, 298, 299, 300, 301, 302, 303, 304, 305, 306, 80, 671, 672, 673, 645, 646, 647, 648, 649, 650, 651, 656, 657, 658] (by decide +kernel) (by decide +kernel)) (goodIn_sub (fun _ h => List.mem_cons_of_mem _ (List.mem_append_left _ (List.mem_append_left _ (List.mem_append_right _ h)))) (by decide +kernel))
set_option maxRecDepth 20000 in
theorem gL_gaskets_L_roots : GoodIn wsL_gaskets (va_wsS RL 172 yL_roots wsL_roots) := goodIn_app (goodIn_of _ (by decide +kernel)) ggL_gaskets_L_roots
set_option maxRecDepth 20000 in
theorem ggL_gaskets_X8_turn : GoodIn wsL_gaskets wsX8_turn := goodIn_ca (goodIn_ca (goodIn_r _ [368, 127, 128, 369, 370, 371, 372, 3, 373, 125, 126, 374, 375, 376, 377, 37, 378, 225, 226, 227, 35, 228, 229, 291, 292, 293, 294, 295, 296, 297, 298, 299, 300, 301, 302, 303, 304, 305, 306, 80, 360, 333, 361, 339, 671, 672, 673, 645, 646, 647, 648, 649, 650, 651, 656, 657, 658] (by decide +kernel) (by decide +kernel)) (goodIn_sub (fun _ h => List.mem_cons_of_mem _ (List.mem_append_left _ (List.mem_append_right _ h))) (by decide +kernel))) (goodIn_sub (fun _ h => List.mem_cons_of_mem _ (List.mem_append_left _ (List.mem_append_left _ (List.mem_append_right _ h)))) (by decide +kernel))
set_option maxRecDepth 20000 in
theorem gL_gaskets_X8_turn : GoodIn wsL_gaskets (wsV RL 43 RX8 yX8_turn wsX8_turn) := goodIn_app (goodIn_of _ (by decide +kernel)) ggL_gaskets_X8_turn
set_option maxRecDepth 20000 in
theorem ggL_gaskets_X8_curvature : GoodIn wsL_gaskets wsX8_curvature := goodIn_ca (goodIn_r _ [382, 370, 371, 372, 3, 373, 125, 126, 374, 375, 376, 377, 37, 378, 225, 226, 227, 35, 228, 229, 291, 292, 293, 294, 295, 296, 297, 298, 299, 300, 301, 302, 303, 304, 305, 306, 80, 671, 672, 673, 645, 646, 647, 648, 649, 650, 651, 656, 657, 658] (by decide +kernel) (by decide +kernel)) (goodIn_sub (fun _ h => List.mem_cons_of_mem _ (List.mem_append_left _ (List.mem_append_left _ (List.mem_append_right _ h)))) (by decide +kernel))
set_option maxRecDepth 20000 in
theorem gL_gaskets_X8_curvature : GoodIn wsL_gaskets (wsV RL 47 RX8 yX8_curvature wsX8_curvature) := goodIn_app (goodIn_of _ (by decide +kernel)) ggL_gaskets_X8_curvature
set_option maxRecDepth 20000 in
theorem ggL_gaskets_X8_radius : GoodIn wsL_gaskets wsX8_radius := goodIn_ca (goodIn_r _ [386, 370, 371, 372, 3, 373, 125, 126, 374, 375, 376, 377, 37, 378, 225, 226, 227, 35, 228, 229, 291, 292, 293, 294, 295, 296, 297, 298, 299, 300, 301, 302, 303, 304, 305, 306, 80, 671, 672, 673, 645, 646, 647, 648, 649, 650, 651, 656, 657, 658] (by decide +kernel) (by decide +kernel)) (goodIn_sub (fun _ h => List.mem_cons_of_mem _ (List.mem_append_left _ (List.mem_append_left _ (List.mem_append_right _ h)))) (by decide +kernel))
set_option maxRecDepth 20000 in
theorem gL_gaskets_X8_radius : GoodIn wsL_gaskets (wsV RL 50 RX8 yX8_radius wsX8_radius) := goodIn_app (goodIn_of _ (by decide +kernel)) ggL_gaskets_X8_radius
set_option maxRecDepth 20000 in
theorem ggL_gaskets_L_count : GoodIn wsL_gaskets wsL_count := goodIn_ca (goodIn_ca (goodIn_ca (goodIn_r _ [615, 391, 392, 393, 3, 394, 395, 396, 397, 398, 212, 213, 127, 128, 374, 375, 376, 377, 125, 126, 37, 378, 225, 226, 227, 35, 228, 229, 291, 292, 293, 294, 295, 296, 297, 298, 299, 300, 301, 302, 303, 304, 305, 306, 80, 399, 333, 400, 401, 344, 345, 402, 279, 280, 281, 403, 404, 405, 406, 407, 408, 409, 359, 360, 361, 339, 410, 411, 412, 413, 414, 415, 416, 417, 418, 419, 420, 421, 422, 423, 424, 425, 426, 427, 428, 429, 430, 431, 671, 672, 673, 645, 646, 647, 648, 649, 650, 651, 656, 657, 658] (by decide +kernel) (by decide +kernel)) (goodIn_sub (fun _ h => List.mem_cons_of_mem _ (List.mem_append_right _ h)) (by decide +kernel))) (goodIn_sub (fun _ h => List.mem_cons_of_mem _ (List.mem_append_left _ (List.mem_append_right _ h))) (by decide +kernel))) (goodIn_sub (fun _ h => List.mem_cons_of_mem _ (List.mem_append_left _ (List.mem_append_left _ (List.mem_append_right _ h)))) (by decide +kernel))
set_option maxRecDepth 20000 in
theorem gL_gaskets_L_count : GoodIn wsL_gaskets (va_wsS RL 182 yL_count wsL_count) := goodIn_app (goodIn_of _ (by decide +kernel)) ggL_gaskets_L_count
set_option maxRecDepth 20000 in
theorem ggL_gaskets_X8_remainders : GoodIn wsL_gaskets wsX8_remainders := goodIn_ca (goodIn_ca (goodIn_r _ [435, 212, 213, 41, 374, 375, 376, 3, 377, 125, 126, 37, 378, 225, 226, 227, 35, 228, 229, 291, 292, 293, 294, 295, 296, 297, 298, 299, 300, 301, 302, 303, 304, 305, 306, 80, 436, 40, 437, 438, 95, 96, 439, 440, 62, 441, 442, 443, 444, 445, 446, 447, 448, 449, 450, 451, 452, 453, 454, 455, 456, 457, 458, 425, 459, 460, 461, 429, 462, 431, 463, 464, 465, 466, 467, 468, 469, 470, 471, 645, 646, 647, 648, 649, 650, 651, 671, 672, 673, 656, 657, 658, 659, 660] (by decide +kernel) (by decide +kernel)) (goodIn_sub (fun _ h => List.mem_cons_of_mem _ (List.mem_append_right _ h)) (by decide +kernel))) (goodIn_sub (fun _ h => List.mem_cons_of_mem _ (List.mem_append_left _ (List.mem_append_left _ (List.mem_append_right _ h)))) (by decide +kernel))
set_option maxRecDepth 20000 in
theorem gL_gaskets_X8_remainders : GoodIn wsL_gaskets (wsV RL 63 RX8 yX8_remainders wsX8_remainders) := goodIn_app (goodIn_of _ (by decide +kernel)) ggL_gaskets_X8_remainders
set_option maxRecDepth 20000 in
theorem ggL_gaskets_L_refuses : GoodIn wsL_gaskets wsL_refuses := goodIn_ca (goodIn_ca (goodIn_ca (goodIn_r _ [618, 619, 620, 621, 622, 623, 120, 14, 4, 190, 191, 192, 3, 193, 125, 126, 32, 194, 31, 195, 196, 58, 197, 198, 199, 57, 200, 149, 150, 151, 152, 153, 154, 155, 156, 157, 158, 159, 56, 160, 146, 147, 148, 201, 202, 203, 168, 169, 166, 170, 204, 205, 206, 207, 55, 624, 625, 626, 627, 50, 568, 49, 569, 570, 111, 571, 572, 573, 574, 110, 108, 575, 576, 577, 440, 62, 441, 567, 226, 227, 35, 228, 229, 578, 292, 293, 294, 295, 296, 297, 298, 299, 300, 301, 302, 303, 304, 305, 306, 80, 579, 580, 581, 582, 583, 584, 585, 586, 587, 588, 589, 590, 591, 592, 593, 594, 595, 596, 597, 598, 599, 600, 601, 520, 521, 522, 523, 46, 524, 45, 525, 526, 101, 102, 100, 103, 527, 484, 485, 528, 529, 517, 518, 519, 113, 114, 115, 116, 117, 118, 119, 121, 122, 123, 124, 127, 128, 129, 130, 131, 132, 133, 134, 135, 136, 137, 138, 139, 140, 141, 64, 65, 66, 67, 68, 69, 70, 71, 72, 73, 74, 75, 142, 143, 144, 145, 161, 162, 163, 164, 165, 167, 171, 172, 173, 174, 175, 176, 177, 178, 179, 180, 181, 182, 183, 184, 185, 186, 187, 188, 189, 208, 209, 210, 211, 212, 213, 36, 214, 215, 216, 217, 218, 219, 220, 221, 222, 223, 224, 225, 230, 231, 232, 27, 28, 233, 234, 235, 236, 237, 238, 239, 240, 241, 242, 243, 244, 245, 246, 247, 248, 249, 250, 251, 252, 253, 79, 254, 255, 256, 257, 258, 259, 260, 261, 262, 263, 264, 265, 266, 267, 268, 269, 270, 271, 272, 273, 274, 275, 276, 277, 278, 279, 280, 281, 282, 283, 284, 285, 286, 287, 288, 289, 290, 291, 307, 308, 309, 310, 311, 312, 313, 314, 315, 316, 317, 318, 319, 320, 321, 322, 323, 324, 325, 326, 327, 328, 329, 330, 37, 331, 332, 333, 334, 335, 336, 337, 338, 339, 340, 341, 342, 343, 344, 94, 345, 346, 347, 348, 349, 350, 351, 352, 353, 354, 355, 356, 357, 358, 359, 360, 361, 362, 363, 364, 365, 366, 367, 368, 369, 370, 371, 372, 373, 374, 375, 376, 377, 378, 379, 380, 381, 382, 383, 384, 385, 386, 387, 388, 389, 390, 391, 392, 393, 394, 395, 396, 397, 398, 399, 400, 401, 402, 403, 404, 405, 406, 407, 408, 409, 410, 411, 412, 413, 414, 415, 416, 417, 418, 419, 420, 421, 422, 423, 424, 425, 426, 427, 428, 429, 430, 431, 432, 433, 434, 435, 41, 436, 40, 437, 438, 95, 96, 439, 442, 443, 444, 445, 446, 447, 448, 449, 450, 451, 452, 453, 454, 455, 456, 457, 458, 459, 460, 461, 462, 463, 464, 465, 466, 467, 468, 469, 470, 471, 472, 473, 474, 475, 476, 477, 478, 479, 480, 481, 482, 483, 486, 487, 488, 489, 490, 491, 492, 493, 494, 495, 496, 497, 498, 499, 500, 42, 43, 44, 97, 98, 99, 501, 502, 503, 504, 505, 506, 507, 508, 509, 510, 511, 512, 513, 514, 515, 516, 530, 531, 532, 533, 534, 535, 536, 537, 538, 539, 540, 541, 542, 543, 544, 545, 546, 547, 548, 549, 550, 551, 552, 553, 554, 555, 556, 557, 558, 559, 560, 561, 562, 563, 564, 565, 566, 602, 603, 604, 605, 606, 607, 608, 609, 628, 629, 630, 631, 632, 633, 634, 635, 636, 637, 638, 639, 640, 641, 642, 643, 644, 645, 646, 647, 648, 649, 650, 651, 652, 653, 654, 655, 665, 666, 667, 674, 675, 656, 657, 658, 661, 662, 663, 664, 668, 669, 670, 671, 672, 673, 659, 660] (by decide +kernel) (by decide +kernel)) (goodIn_sub (fun _ h => List.mem_cons_of_mem _ (List.mem_append_left _ (List.mem_append_left _ (List.mem_append_right _ h)))) (by decide +kernel))) (goodIn_sub (fun _ h => List.mem_cons_of_mem _ (List.mem_append_left _ (List.mem_append_right _ h))) (by decide +kernel))) (goodIn_sub (fun _ h => List.mem_cons_of_mem _ (List.mem_append_right _ h)) (by decide +kernel))
set_option maxRecDepth 20000 in
theorem gL_gaskets_L_refuses : GoodIn wsL_gaskets (va_wsS RL 127 yL_refuses wsL_refuses) := goodIn_app (goodIn_of _ (by decide +kernel)) ggL_gaskets_L_refuses
theorem dL_gaskets_0 : decode cL_gaskets 0 = .ok (.new 8, 3) := by decide +kernel
theorem dL_gaskets_3 : decode cL_gaskets 3 = .ok (.dup, 1) := by decide +kernel
theorem dL_gaskets_4 : decode cL_gaskets 4 = .ok (.invokespecial 126, 3) := by decide +kernel
theorem dL_gaskets_7 : decode cL_gaskets 7 = .ok (.astore_n 0, 1) := by decide +kernel
theorem dL_gaskets_8 : decode cL_gaskets 8 = .ok (.aload_n 0, 1) := by decide +kernel
theorem dL_gaskets_9 : decode cL_gaskets 9 = .ok (.bipush 9, 2) := by decide +kernel
theorem dL_gaskets_11 : decode cL_gaskets 11 = .ok (.iconst 1, 1) := by decide +kernel
theorem dL_gaskets_12 : decode cL_gaskets 12 = .ok (.iconst 1, 1) := by decide +kernel
theorem dL_gaskets_13 : decode cL_gaskets 13 = .ok (.iconst 1, 1) := by decide +kernel
theorem dL_gaskets_14 : decode cL_gaskets 14 = .ok (.iconst 1, 1) := by decide +kernel
theorem dL_gaskets_15 : decode cL_gaskets 15 = .ok (.invokestatic 117, 3) := by decide +kernel
theorem dL_gaskets_18 : decode cL_gaskets 18 = .ok (.ldc2_w 102, 3) := by decide +kernel
theorem dL_gaskets_21 : decode cL_gaskets 21 = .ok (.lcmp, 1) := by decide +kernel
theorem dL_gaskets_22 : decode cL_gaskets 22 = .ok (.ifCond .ne 384, 3) := by decide +kernel
theorem dL_gaskets_25 : decode cL_gaskets 25 = .ok (.aload_n 0, 1) := by decide +kernel
theorem dL_gaskets_26 : decode cL_gaskets 26 = .ok (.bipush 9, 2) := by decide +kernel
theorem dL_gaskets_28 : decode cL_gaskets 28 = .ok (.iconst 0, 1) := by decide +kernel
theorem dL_gaskets_29 : decode cL_gaskets 29 = .ok (.iconst 0, 1) := by decide +kernel
theorem dL_gaskets_30 : decode cL_gaskets 30 = .ok (.iconst 0, 1) := by decide +kernel
theorem dL_gaskets_31 : decode cL_gaskets 31 = .ok (.iconst 0, 1) := by decide +kernel
theorem dL_gaskets_32 : decode cL_gaskets 32 = .ok (.invokestatic 117, 3) := by decide +kernel
theorem dL_gaskets_35 : decode cL_gaskets 35 = .ok (.ldc2_w 102, 3) := by decide +kernel
theorem dL_gaskets_38 : decode cL_gaskets 38 = .ok (.lcmp, 1) := by decide +kernel
theorem dL_gaskets_39 : decode cL_gaskets 39 = .ok (.ifCond .ne 367, 3) := by decide +kernel
theorem dL_gaskets_42 : decode cL_gaskets 42 = .ok (.aload_n 0, 1) := by decide +kernel
theorem dL_gaskets_43 : decode cL_gaskets 43 = .ok (.bipush 9, 2) := by decide +kernel
theorem dL_gaskets_45 : decode cL_gaskets 45 = .ok (.iconst 1, 1) := by decide +kernel
theorem dL_gaskets_46 : decode cL_gaskets 46 = .ok (.bipush (-2), 2) := by decide +kernel
theorem dL_gaskets_48 : decode cL_gaskets 48 = .ok (.bipush (-2), 2) := by decide +kernel
theorem dL_gaskets_50 : decode cL_gaskets 50 = .ok (.bipush (-3), 2) := by decide +kernel
theorem dL_gaskets_52 : decode cL_gaskets 52 = .ok (.invokestatic 117, 3) := by decide +kernel
theorem dL_gaskets_55 : decode cL_gaskets 55 = .ok (.ldc2_w 102, 3) := by decide +kernel
theorem dL_gaskets_58 : decode cL_gaskets 58 = .ok (.lcmp, 1) := by decide +kernel
theorem dL_gaskets_59 : decode cL_gaskets 59 = .ok (.ifCond .ne 347, 3) := by decide +kernel
theorem dL_gaskets_62 : decode cL_gaskets 62 = .ok (.aload_n 0, 1) := by decide +kernel
theorem dL_gaskets_63 : decode cL_gaskets 63 = .ok (.iconst (-1), 1) := by decide +kernel
theorem dL_gaskets_64 : decode cL_gaskets 64 = .ok (.iconst 2, 1) := by decide +kernel
theorem dL_gaskets_65 : decode cL_gaskets 65 = .ok (.iconst 2, 1) := by decide +kernel
theorem dL_gaskets_66 : decode cL_gaskets 66 = .ok (.iconst 3, 1) := by decide +kernel
theorem dL_gaskets_67 : decode cL_gaskets 67 = .ok (.invokevirtual 40, 3) := by decide +kernel
theorem dL_gaskets_70 : decode cL_gaskets 70 = .ok (.ifCond .ne 336, 3) := by decide +kernel
theorem dL_gaskets_73 : decode cL_gaskets 73 = .ok (.aload_n 0, 1) := by decide +kernel
theorem dL_gaskets_74 : decode cL_gaskets 74 = .ok (.iconst 0, 1) := by decide +kernel
theorem dL_gaskets_75 : decode cL_gaskets 75 = .ok (.ldc2_w 166, 3) := by decide +kernel
theorem dL_gaskets_78 : decode cL_gaskets 78 = .ok (.ldc2_w 168, 3) := by decide +kernel
theorem dL_gaskets_81 : decode cL_gaskets 81 = .ok (.ldc2_w 168, 3) := by decide +kernel
theorem dL_gaskets_84 : decode cL_gaskets 84 = .ok (.ldc2_w 170, 3) := by decide +kernel
theorem dL_gaskets_87 : decode cL_gaskets 87 = .ok (.invokestatic 172, 3) := by decide +kernel
theorem dL_gaskets_90 : decode cL_gaskets 90 = .ok (.ifCond .eq 316, 3) := by decide +kernel
theorem dL_gaskets_93 : decode cL_gaskets 93 = .ok (.aload_n 0, 1) := by decide +kernel
theorem dL_gaskets_94 : decode cL_gaskets 94 = .ok (.iconst 0, 1) := by decide +kernel
theorem dL_gaskets_95 : decode cL_gaskets 95 = .ok (.iconst 3, 1) := by decide +kernel
theorem dL_gaskets_96 : decode cL_gaskets 96 = .ok (.invokevirtual 43, 3) := by decide +kernel
theorem dL_gaskets_99 : decode cL_gaskets 99 = .ok (.ldc2_w 170, 3) := by decide +kernel
theorem dL_gaskets_102 : decode cL_gaskets 102 = .ok (.lcmp, 1) := by decide +kernel
theorem dL_gaskets_103 : decode cL_gaskets 103 = .ok (.ifCond .ne 303, 3) := by decide +kernel
theorem dL_gaskets_106 : decode cL_gaskets 106 = .ok (.aload_n 0, 1) := by decide +kernel
theorem dL_gaskets_107 : decode cL_gaskets 107 = .ok (.iconst 0, 1) := by decide +kernel
theorem dL_gaskets_108 : decode cL_gaskets 108 = .ok (.iconst 0, 1) := by decide +kernel
theorem dL_gaskets_109 : decode cL_gaskets 109 = .ok (.invokevirtual 43, 3) := by decide +kernel
theorem dL_gaskets_112 : decode cL_gaskets 112 = .ok (.ldc2_w 176, 3) := by decide +kernel
theorem dL_gaskets_115 : decode cL_gaskets 115 = .ok (.lcmp, 1) := by decide +kernel
theorem dL_gaskets_116 : decode cL_gaskets 116 = .ok (.ifCond .ne 290, 3) := by decide +kernel
theorem dL_gaskets_119 : decode cL_gaskets 119 = .ok (.aload_n 0, 1) := by decide +kernel
theorem dL_gaskets_120 : decode cL_gaskets 120 = .ok (.iconst 0, 1) := by decide +kernel
theorem dL_gaskets_121 : decode cL_gaskets 121 = .ok (.ldc2_w 166, 3) := by decide +kernel
theorem dL_gaskets_124 : decode cL_gaskets 124 = .ok (.ldc2_w 168, 3) := by decide +kernel
theorem dL_gaskets_127 : decode cL_gaskets 127 = .ok (.ldc2_w 168, 3) := by decide +kernel
theorem dL_gaskets_130 : decode cL_gaskets 130 = .ok (.ldc2_w 170, 3) := by decide +kernel
theorem dL_gaskets_133 : decode cL_gaskets 133 = .ok (.invokestatic 172, 3) := by decide +kernel
theorem dL_gaskets_136 : decode cL_gaskets 136 = .ok (.ifCond .eq 270, 3) := by decide +kernel
theorem dL_gaskets_139 : decode cL_gaskets 139 = .ok (.aload_n 0, 1) := by decide +kernel
theorem dL_gaskets_140 : decode cL_gaskets 140 = .ok (.iconst 0, 1) := by decide +kernel
theorem dL_gaskets_141 : decode cL_gaskets 141 = .ok (.iconst 0, 1) := by decide +kernel
theorem dL_gaskets_142 : decode cL_gaskets 142 = .ok (.invokevirtual 47, 3) := by decide +kernel
theorem dL_gaskets_145 : decode cL_gaskets 145 = .ok (.ldc2_w 176, 3) := by decide +kernel
theorem dL_gaskets_148 : decode cL_gaskets 148 = .ok (.lcmp, 1) := by decide +kernel
theorem dL_gaskets_149 : decode cL_gaskets 149 = .ok (.ifCond .ne 257, 3) := by decide +kernel
theorem dL_gaskets_152 : decode cL_gaskets 152 = .ok (.aload_n 0, 1) := by decide +kernel
theorem dL_gaskets_153 : decode cL_gaskets 153 = .ok (.iconst 0, 1) := by decide +kernel
theorem dL_gaskets_154 : decode cL_gaskets 154 = .ok (.iconst 3, 1) := by decide +kernel
theorem dL_gaskets_155 : decode cL_gaskets 155 = .ok (.invokevirtual 47, 3) := by decide +kernel
theorem dL_gaskets_158 : decode cL_gaskets 158 = .ok (.ldc2_w 170, 3) := by decide +kernel
theorem dL_gaskets_161 : decode cL_gaskets 161 = .ok (.lcmp, 1) := by decide +kernel
theorem dL_gaskets_162 : decode cL_gaskets 162 = .ok (.ifCond .ne 244, 3) := by decide +kernel
theorem dL_gaskets_165 : decode cL_gaskets 165 = .ok (.aload_n 0, 1) := by decide +kernel
theorem dL_gaskets_166 : decode cL_gaskets 166 = .ok (.iconst 0, 1) := by decide +kernel
theorem dL_gaskets_167 : decode cL_gaskets 167 = .ok (.iconst 1, 1) := by decide +kernel
theorem dL_gaskets_168 : decode cL_gaskets 168 = .ok (.invokevirtual 50, 3) := by decide +kernel
theorem dL_gaskets_171 : decode cL_gaskets 171 = .ok (.ldc 178, 2) := by decide +kernel
theorem dL_gaskets_173 : decode cL_gaskets 173 = .ok (.fcmp .l, 1) := by decide +kernel
theorem dL_gaskets_174 : decode cL_gaskets 174 = .ok (.ifCond .ne 232, 3) := by decide +kernel
theorem dL_gaskets_177 : decode cL_gaskets 177 = .ok (.aload_n 0, 1) := by decide +kernel
theorem dL_gaskets_178 : decode cL_gaskets 178 = .ok (.iconst 0, 1) := by decide +kernel
theorem dL_gaskets_179 : decode cL_gaskets 179 = .ok (.iconst 0, 1) := by decide +kernel
theorem dL_gaskets_180 : decode cL_gaskets 180 = .ok (.invokevirtual 50, 3) := by decide +kernel
theorem dL_gaskets_183 : decode cL_gaskets 183 = .ok (.ldc 179, 2) := by decide +kernel
theorem dL_gaskets_185 : decode cL_gaskets 185 = .ok (.fcmp .l, 1) := by decide +kernel
theorem dL_gaskets_186 : decode cL_gaskets 186 = .ok (.ifCond .ne 220, 3) := by decide +kernel
theorem dL_gaskets_189 : decode cL_gaskets 189 = .ok (.aload_n 0, 1) := by decide +kernel
theorem dL_gaskets_190 : decode cL_gaskets 190 = .ok (.iconst 0, 1) := by decide +kernel
theorem dL_gaskets_191 : decode cL_gaskets 191 = .ok (.iconst 2, 1) := by decide +kernel
theorem dL_gaskets_192 : decode cL_gaskets 192 = .ok (.invokevirtual 43, 3) := by decide +kernel
theorem dL_gaskets_195 : decode cL_gaskets 195 = .ok (.ldc2_w 180, 3) := by decide +kernel
theorem dL_gaskets_198 : decode cL_gaskets 198 = .ok (.lcmp, 1) := by decide +kernel
theorem dL_gaskets_199 : decode cL_gaskets 199 = .ok (.ifCond .ne 207, 3) := by decide +kernel
theorem dL_gaskets_202 : decode cL_gaskets 202 = .ok (.aload_n 0, 1) := by decide +kernel
theorem dL_gaskets_203 : decode cL_gaskets 203 = .ok (.iconst 0, 1) := by decide +kernel
theorem dL_gaskets_204 : decode cL_gaskets 204 = .ok (.ldc2_w 166, 3) := by decide +kernel
theorem dL_gaskets_207 : decode cL_gaskets 207 = .ok (.ldc2_w 168, 3) := by decide +kernel
theorem dL_gaskets_210 : decode cL_gaskets 210 = .ok (.ldc2_w 168, 3) := by decide +kernel
theorem dL_gaskets_213 : decode cL_gaskets 213 = .ok (.ldc2_w 170, 3) := by decide +kernel
theorem dL_gaskets_216 : decode cL_gaskets 216 = .ok (.invokestatic 172, 3) := by decide +kernel
theorem dL_gaskets_219 : decode cL_gaskets 219 = .ok (.ifCond .eq 187, 3) := by decide +kernel
theorem dL_gaskets_222 : decode cL_gaskets 222 = .ok (.aload_n 0, 1) := by decide +kernel
theorem dL_gaskets_223 : decode cL_gaskets 223 = .ok (.iconst 0, 1) := by decide +kernel
theorem dL_gaskets_224 : decode cL_gaskets 224 = .ok (.iconst 1, 1) := by decide +kernel
theorem dL_gaskets_225 : decode cL_gaskets 225 = .ok (.iconst 1, 1) := by decide +kernel
theorem dL_gaskets_226 : decode cL_gaskets 226 = .ok (.invokestatic 182, 3) := by decide +kernel
theorem dL_gaskets_229 : decode cL_gaskets 229 = .ok (.ifCond .eq 177, 3) := by decide +kernel
theorem dL_gaskets_232 : decode cL_gaskets 232 = .ok (.aload_n 0, 1) := by decide +kernel
theorem dL_gaskets_233 : decode cL_gaskets 233 = .ok (.iconst 0, 1) := by decide +kernel
theorem dL_gaskets_234 : decode cL_gaskets 234 = .ok (.iconst 2, 1) := by decide +kernel
theorem dL_gaskets_235 : decode cL_gaskets 235 = .ok (.iconst 3, 1) := by decide +kernel
theorem dL_gaskets_236 : decode cL_gaskets 236 = .ok (.invokestatic 182, 3) := by decide +kernel
theorem dL_gaskets_239 : decode cL_gaskets 239 = .ok (.ifCond .eq 167, 3) := by decide +kernel
theorem dL_gaskets_242 : decode cL_gaskets 242 = .ok (.aload_n 0, 1) := by decide +kernel
theorem dL_gaskets_243 : decode cL_gaskets 243 = .ok (.iconst 0, 1) := by decide +kernel
theorem dL_gaskets_244 : decode cL_gaskets 244 = .ok (.iconst 3, 1) := by decide +kernel
theorem dL_gaskets_245 : decode cL_gaskets 245 = .ok (.iconst 5, 1) := by decide +kernel
theorem dL_gaskets_246 : decode cL_gaskets 246 = .ok (.invokestatic 182, 3) := by decide +kernel
theorem dL_gaskets_249 : decode cL_gaskets 249 = .ok (.ifCond .eq 157, 3) := by decide +kernel
theorem dL_gaskets_252 : decode cL_gaskets 252 = .ok (.aload_n 0, 1) := by decide +kernel
theorem dL_gaskets_253 : decode cL_gaskets 253 = .ok (.iconst 0, 1) := by decide +kernel
theorem dL_gaskets_254 : decode cL_gaskets 254 = .ok (.iconst 5, 1) := by decide +kernel
theorem dL_gaskets_255 : decode cL_gaskets 255 = .ok (.iconst 5, 1) := by decide +kernel
theorem dL_gaskets_256 : decode cL_gaskets 256 = .ok (.invokestatic 182, 3) := by decide +kernel
theorem dL_gaskets_259 : decode cL_gaskets 259 = .ok (.ifCond .eq 147, 3) := by decide +kernel
theorem dL_gaskets_262 : decode cL_gaskets 262 = .ok (.aload_n 0, 1) := by decide +kernel
theorem dL_gaskets_263 : decode cL_gaskets 263 = .ok (.iconst 0, 1) := by decide +kernel
theorem dL_gaskets_264 : decode cL_gaskets 264 = .ok (.bipush 6, 2) := by decide +kernel
theorem dL_gaskets_266 : decode cL_gaskets 266 = .ok (.bipush 9, 2) := by decide +kernel
theorem dL_gaskets_268 : decode cL_gaskets 268 = .ok (.invokestatic 182, 3) := by decide +kernel
theorem dL_gaskets_271 : decode cL_gaskets 271 = .ok (.ifCond .eq 135, 3) := by decide +kernel
theorem dL_gaskets_274 : decode cL_gaskets 274 = .ok (.aload_n 0, 1) := by decide +kernel
theorem dL_gaskets_275 : decode cL_gaskets 275 = .ok (.iconst 0, 1) := by decide +kernel
theorem dL_gaskets_276 : decode cL_gaskets 276 = .ok (.bipush 10, 2) := by decide +kernel
theorem dL_gaskets_278 : decode cL_gaskets 278 = .ok (.bipush 9, 2) := by decide +kernel
theorem dL_gaskets_280 : decode cL_gaskets 280 = .ok (.invokestatic 182, 3) := by decide +kernel
theorem dL_gaskets_283 : decode cL_gaskets 283 = .ok (.ifCond .eq 123, 3) := by decide +kernel
theorem dL_gaskets_286 : decode cL_gaskets 286 = .ok (.aload_n 0, 1) := by decide +kernel
theorem dL_gaskets_287 : decode cL_gaskets 287 = .ok (.iconst 0, 1) := by decide +kernel
theorem dL_gaskets_288 : decode cL_gaskets 288 = .ok (.bipush 11, 2) := by decide +kernel
theorem dL_gaskets_290 : decode cL_gaskets 290 = .ok (.bipush 13, 2) := by decide +kernel
theorem dL_gaskets_292 : decode cL_gaskets 292 = .ok (.invokestatic 182, 3) := by decide +kernel
theorem dL_gaskets_295 : decode cL_gaskets 295 = .ok (.ifCond .eq 111, 3) := by decide +kernel
theorem dL_gaskets_298 : decode cL_gaskets 298 = .ok (.aload_n 0, 1) := by decide +kernel
theorem dL_gaskets_299 : decode cL_gaskets 299 = .ok (.iconst 0, 1) := by decide +kernel
theorem dL_gaskets_300 : decode cL_gaskets 300 = .ok (.bipush 14, 2) := by decide +kernel
theorem dL_gaskets_302 : decode cL_gaskets 302 = .ok (.bipush 17, 2) := by decide +kernel
theorem dL_gaskets_304 : decode cL_gaskets 304 = .ok (.invokestatic 182, 3) := by decide +kernel
theorem dL_gaskets_307 : decode cL_gaskets 307 = .ok (.ifCond .eq 99, 3) := by decide +kernel
theorem dL_gaskets_310 : decode cL_gaskets 310 = .ok (.aload_n 0, 1) := by decide +kernel
theorem dL_gaskets_311 : decode cL_gaskets 311 = .ok (.iconst 0, 1) := by decide +kernel
theorem dL_gaskets_312 : decode cL_gaskets 312 = .ok (.bipush 15, 2) := by decide +kernel
theorem dL_gaskets_314 : decode cL_gaskets 314 = .ok (.bipush 19, 2) := by decide +kernel
theorem dL_gaskets_316 : decode cL_gaskets 316 = .ok (.invokestatic 182, 3) := by decide +kernel
theorem dL_gaskets_319 : decode cL_gaskets 319 = .ok (.ifCond .eq 87, 3) := by decide +kernel
theorem dL_gaskets_322 : decode cL_gaskets 322 = .ok (.aload_n 0, 1) := by decide +kernel
theorem dL_gaskets_323 : decode cL_gaskets 323 = .ok (.iconst 0, 1) := by decide +kernel
theorem dL_gaskets_324 : decode cL_gaskets 324 = .ok (.iconst 2, 1) := by decide +kernel
theorem dL_gaskets_325 : decode cL_gaskets 325 = .ok (.invokevirtual 63, 3) := by decide +kernel
theorem dL_gaskets_328 : decode cL_gaskets 328 = .ok (.iconst 3, 1) := by decide +kernel
theorem dL_gaskets_329 : decode cL_gaskets 329 = .ok (.if_icmp .ne 77, 3) := by decide +kernel
theorem dL_gaskets_332 : decode cL_gaskets 332 = .ok (.aload_n 0, 1) := by decide +kernel
theorem dL_gaskets_333 : decode cL_gaskets 333 = .ok (.iconst 0, 1) := by decide +kernel
theorem dL_gaskets_334 : decode cL_gaskets 334 = .ok (.iconst 3, 1) := by decide +kernel
theorem dL_gaskets_335 : decode cL_gaskets 335 = .ok (.invokevirtual 63, 3) := by decide +kernel
theorem dL_gaskets_338 : decode cL_gaskets 338 = .ok (.iconst 5, 1) := by decide +kernel
theorem dL_gaskets_339 : decode cL_gaskets 339 = .ok (.if_icmp .ne 67, 3) := by decide +kernel
theorem dL_gaskets_342 : decode cL_gaskets 342 = .ok (.aload_n 0, 1) := by decide +kernel
theorem dL_gaskets_343 : decode cL_gaskets 343 = .ok (.iconst 0, 1) := by decide +kernel
theorem dL_gaskets_344 : decode cL_gaskets 344 = .ok (.iconst 0, 1) := by decide +kernel
theorem dL_gaskets_345 : decode cL_gaskets 345 = .ok (.invokevirtual 43, 3) := by decide +kernel
theorem dL_gaskets_348 : decode cL_gaskets 348 = .ok (.ldc2_w 184, 3) := by decide +kernel
theorem dL_gaskets_351 : decode cL_gaskets 351 = .ok (.lcmp, 1) := by decide +kernel
theorem dL_gaskets_352 : decode cL_gaskets 352 = .ok (.ifCond .ne 54, 3) := by decide +kernel
theorem dL_gaskets_355 : decode cL_gaskets 355 = .ok (.aload_n 0, 1) := by decide +kernel
theorem dL_gaskets_356 : decode cL_gaskets 356 = .ok (.iconst 0, 1) := by decide +kernel
theorem dL_gaskets_357 : decode cL_gaskets 357 = .ok (.iconst 0, 1) := by decide +kernel
theorem dL_gaskets_358 : decode cL_gaskets 358 = .ok (.invokevirtual 43, 3) := by decide +kernel
theorem dL_gaskets_361 : decode cL_gaskets 361 = .ok (.ldc2_w 176, 3) := by decide +kernel
theorem dL_gaskets_364 : decode cL_gaskets 364 = .ok (.lcmp, 1) := by decide +kernel
theorem dL_gaskets_365 : decode cL_gaskets 365 = .ok (.ifCond .ne 41, 3) := by decide +kernel
theorem dL_gaskets_368 : decode cL_gaskets 368 = .ok (.aload_n 0, 1) := by decide +kernel
theorem dL_gaskets_369 : decode cL_gaskets 369 = .ok (.iconst 0, 1) := by decide +kernel
theorem dL_gaskets_370 : decode cL_gaskets 370 = .ok (.iconst 2, 1) := by decide +kernel
theorem dL_gaskets_371 : decode cL_gaskets 371 = .ok (.invokevirtual 43, 3) := by decide +kernel
theorem dL_gaskets_374 : decode cL_gaskets 374 = .ok (.ldc2_w 168, 3) := by decide +kernel
theorem dL_gaskets_377 : decode cL_gaskets 377 = .ok (.lcmp, 1) := by decide +kernel
theorem dL_gaskets_378 : decode cL_gaskets 378 = .ok (.ifCond .ne 28, 3) := by decide +kernel
theorem dL_gaskets_381 : decode cL_gaskets 381 = .ok (.aload_n 0, 1) := by decide +kernel
theorem dL_gaskets_382 : decode cL_gaskets 382 = .ok (.iconst 0, 1) := by decide +kernel
theorem dL_gaskets_383 : decode cL_gaskets 383 = .ok (.iconst 0, 1) := by decide +kernel
theorem dL_gaskets_384 : decode cL_gaskets 384 = .ok (.invokevirtual 43, 3) := by decide +kernel
theorem dL_gaskets_387 : decode cL_gaskets 387 = .ok (.ldc2_w 166, 3) := by decide +kernel
theorem dL_gaskets_390 : decode cL_gaskets 390 = .ok (.lcmp, 1) := by decide +kernel
theorem dL_gaskets_391 : decode cL_gaskets 391 = .ok (.ifCond .ne 15, 3) := by decide +kernel
theorem dL_gaskets_394 : decode cL_gaskets 394 = .ok (.aload_n 0, 1) := by decide +kernel
theorem dL_gaskets_395 : decode cL_gaskets 395 = .ok (.iconst 0, 1) := by decide +kernel
theorem dL_gaskets_396 : decode cL_gaskets 396 = .ok (.iconst 0, 1) := by decide +kernel
theorem dL_gaskets_397 : decode cL_gaskets 397 = .ok (.invokevirtual 50, 3) := by decide +kernel
theorem dL_gaskets_400 : decode cL_gaskets 400 = .ok (.ldc 186, 2) := by decide +kernel
theorem dL_gaskets_402 : decode cL_gaskets 402 = .ok (.fcmp .l, 1) := by decide +kernel
theorem dL_gaskets_403 : decode cL_gaskets 403 = .ok (.ifCond .eq 5, 3) := by decide +kernel
theorem dL_gaskets_406 : decode cL_gaskets 406 = .ok (.iconst 0, 1) := by decide +kernel
theorem dL_gaskets_407 : decode cL_gaskets 407 = .ok (.ireturn, 1) := by decide +kernel
theorem dL_gaskets_408 : decode cL_gaskets 408 = .ok (.aload_n 0, 1) := by decide +kernel
theorem dL_gaskets_409 : decode cL_gaskets 409 = .ok (.iconst 0, 1) := by decide +kernel
theorem dL_gaskets_410 : decode cL_gaskets 410 = .ok (.iconst 1, 1) := by decide +kernel
theorem dL_gaskets_411 : decode cL_gaskets 411 = .ok (.iconst 1, 1) := by decide +kernel
theorem dL_gaskets_412 : decode cL_gaskets 412 = .ok (.iconst 4, 1) := by decide +kernel
theorem dL_gaskets_413 : decode cL_gaskets 413 = .ok (.invokevirtual 40, 3) := by decide +kernel
theorem dL_gaskets_416 : decode cL_gaskets 416 = .ok (.iconst 1, 1) := by decide +kernel
theorem dL_gaskets_417 : decode cL_gaskets 417 = .ok (.if_icmp .ne 202, 3) := by decide +kernel
theorem dL_gaskets_420 : decode cL_gaskets 420 = .ok (.aload_n 0, 1) := by decide +kernel
theorem dL_gaskets_421 : decode cL_gaskets 421 = .ok (.iconst 1, 1) := by decide +kernel
theorem dL_gaskets_422 : decode cL_gaskets 422 = .ok (.lconst 0, 1) := by decide +kernel
theorem dL_gaskets_423 : decode cL_gaskets 423 = .ok (.lconst 0, 1) := by decide +kernel
theorem dL_gaskets_424 : decode cL_gaskets 424 = .ok (.lconst 1, 1) := by decide +kernel
theorem dL_gaskets_425 : decode cL_gaskets 425 = .ok (.lconst 1, 1) := by decide +kernel
theorem dL_gaskets_426 : decode cL_gaskets 426 = .ok (.invokestatic 172, 3) := by decide +kernel
theorem dL_gaskets_429 : decode cL_gaskets 429 = .ok (.ifCond .eq 190, 3) := by decide +kernel
theorem dL_gaskets_432 : decode cL_gaskets 432 = .ok (.aload_n 0, 1) := by decide +kernel
theorem dL_gaskets_433 : decode cL_gaskets 433 = .ok (.bipush 14, 2) := by decide +kernel
theorem dL_gaskets_435 : decode cL_gaskets 435 = .ok (.iconst 1, 1) := by decide +kernel
theorem dL_gaskets_436 : decode cL_gaskets 436 = .ok (.iconst 5, 1) := by decide +kernel
theorem dL_gaskets_437 : decode cL_gaskets 437 = .ok (.iconst 0, 1) := by decide +kernel
theorem dL_gaskets_438 : decode cL_gaskets 438 = .ok (.iconst 0, 1) := by decide +kernel
theorem dL_gaskets_439 : decode cL_gaskets 439 = .ok (.invokestatic 117, 3) := by decide +kernel
theorem dL_gaskets_442 : decode cL_gaskets 442 = .ok (.ldc2_w 106, 3) := by decide +kernel
theorem dL_gaskets_445 : decode cL_gaskets 445 = .ok (.lcmp, 1) := by decide +kernel
theorem dL_gaskets_446 : decode cL_gaskets 446 = .ok (.ifCond .ne 173, 3) := by decide +kernel
theorem dL_gaskets_449 : decode cL_gaskets 449 = .ok (.aload_n 0, 1) := by decide +kernel
theorem dL_gaskets_450 : decode cL_gaskets 450 = .ok (.bipush 15, 2) := by decide +kernel
theorem dL_gaskets_452 : decode cL_gaskets 452 = .ok (.iconst 1, 1) := by decide +kernel
theorem dL_gaskets_453 : decode cL_gaskets 453 = .ok (.iconst 5, 1) := by decide +kernel
theorem dL_gaskets_454 : decode cL_gaskets 454 = .ok (.iconst 0, 1) := by decide +kernel
theorem dL_gaskets_455 : decode cL_gaskets 455 = .ok (.iconst 0, 1) := by decide +kernel
theorem dL_gaskets_456 : decode cL_gaskets 456 = .ok (.invokestatic 117, 3) := by decide +kernel
theorem dL_gaskets_459 : decode cL_gaskets 459 = .ok (.ldc2_w 106, 3) := by decide +kernel
theorem dL_gaskets_462 : decode cL_gaskets 462 = .ok (.lcmp, 1) := by decide +kernel
theorem dL_gaskets_463 : decode cL_gaskets 463 = .ok (.ifCond .ne 156, 3) := by decide +kernel
theorem dL_gaskets_466 : decode cL_gaskets 466 = .ok (.aload_n 0, 1) := by decide +kernel
theorem dL_gaskets_467 : decode cL_gaskets 467 = .ok (.iconst 1, 1) := by decide +kernel
theorem dL_gaskets_468 : decode cL_gaskets 468 = .ok (.iconst 0, 1) := by decide +kernel
theorem dL_gaskets_469 : decode cL_gaskets 469 = .ok (.invokevirtual 50, 3) := by decide +kernel
theorem dL_gaskets_472 : decode cL_gaskets 472 = .ok (.ldc 187, 2) := by decide +kernel
theorem dL_gaskets_474 : decode cL_gaskets 474 = .ok (.fcmp .g, 1) := by decide +kernel
theorem dL_gaskets_475 : decode cL_gaskets 475 = .ok (.ifCond .le 144, 3) := by decide +kernel
theorem dL_gaskets_478 : decode cL_gaskets 478 = .ok (.aload_n 0, 1) := by decide +kernel
theorem dL_gaskets_479 : decode cL_gaskets 479 = .ok (.iconst 1, 1) := by decide +kernel
theorem dL_gaskets_480 : decode cL_gaskets 480 = .ok (.iconst 3, 1) := by decide +kernel
theorem dL_gaskets_481 : decode cL_gaskets 481 = .ok (.invokevirtual 43, 3) := by decide +kernel
theorem dL_gaskets_484 : decode cL_gaskets 484 = .ok (.lconst 0, 1) := by decide +kernel
theorem dL_gaskets_485 : decode cL_gaskets 485 = .ok (.lcmp, 1) := by decide +kernel
theorem dL_gaskets_486 : decode cL_gaskets 486 = .ok (.ifCond .ne 133, 3) := by decide +kernel
theorem dL_gaskets_489 : decode cL_gaskets 489 = .ok (.aload_n 0, 1) := by decide +kernel
theorem dL_gaskets_490 : decode cL_gaskets 490 = .ok (.iconst 1, 1) := by decide +kernel
theorem dL_gaskets_491 : decode cL_gaskets 491 = .ok (.iconst 1, 1) := by decide +kernel
theorem dL_gaskets_492 : decode cL_gaskets 492 = .ok (.invokevirtual 43, 3) := by decide +kernel
theorem dL_gaskets_495 : decode cL_gaskets 495 = .ok (.lconst 1, 1) := by decide +kernel
theorem dL_gaskets_496 : decode cL_gaskets 496 = .ok (.lcmp, 1) := by decide +kernel
theorem dL_gaskets_497 : decode cL_gaskets 497 = .ok (.ifCond .ne 122, 3) := by decide +kernel
theorem dL_gaskets_500 : decode cL_gaskets 500 = .ok (.aload_n 0, 1) := by decide +kernel
theorem dL_gaskets_501 : decode cL_gaskets 501 = .ok (.iconst 1, 1) := by decide +kernel
theorem dL_gaskets_502 : decode cL_gaskets 502 = .ok (.iconst 0, 1) := by decide +kernel
theorem dL_gaskets_503 : decode cL_gaskets 503 = .ok (.invokevirtual 43, 3) := by decide +kernel
theorem dL_gaskets_506 : decode cL_gaskets 506 = .ok (.ldc2_w 188, 3) := by decide +kernel
theorem dL_gaskets_509 : decode cL_gaskets 509 = .ok (.lcmp, 1) := by decide +kernel
theorem dL_gaskets_510 : decode cL_gaskets 510 = .ok (.ifCond .ne 109, 3) := by decide +kernel
theorem dL_gaskets_513 : decode cL_gaskets 513 = .ok (.aload_n 0, 1) := by decide +kernel
theorem dL_gaskets_514 : decode cL_gaskets 514 = .ok (.iconst 3, 1) := by decide +kernel
theorem dL_gaskets_515 : decode cL_gaskets 515 = .ok (.bipush 6, 2) := by decide +kernel
theorem dL_gaskets_517 : decode cL_gaskets 517 = .ok (.bipush 7, 2) := by decide +kernel
theorem dL_gaskets_519 : decode cL_gaskets 519 = .ok (.bipush (-2), 2) := by decide +kernel
theorem dL_gaskets_521 : decode cL_gaskets 521 = .ok (.invokevirtual 40, 3) := by decide +kernel
theorem dL_gaskets_524 : decode cL_gaskets 524 = .ok (.iconst 2, 1) := by decide +kernel
theorem dL_gaskets_525 : decode cL_gaskets 525 = .ok (.if_icmp .ne 94, 3) := by decide +kernel
theorem dL_gaskets_528 : decode cL_gaskets 528 = .ok (.aload_n 0, 1) := by decide +kernel
theorem dL_gaskets_529 : decode cL_gaskets 529 = .ok (.iconst 2, 1) := by decide +kernel
theorem dL_gaskets_530 : decode cL_gaskets 530 = .ok (.ldc2_w 190, 3) := by decide +kernel
theorem dL_gaskets_533 : decode cL_gaskets 533 = .ok (.ldc2_w 170, 3) := by decide +kernel
theorem dL_gaskets_536 : decode cL_gaskets 536 = .ok (.ldc2_w 192, 3) := by decide +kernel
theorem dL_gaskets_539 : decode cL_gaskets 539 = .ok (.ldc2_w 194, 3) := by decide +kernel
theorem dL_gaskets_542 : decode cL_gaskets 542 = .ok (.invokestatic 172, 3) := by decide +kernel
theorem dL_gaskets_545 : decode cL_gaskets 545 = .ok (.ifCond .eq 74, 3) := by decide +kernel
theorem dL_gaskets_548 : decode cL_gaskets 548 = .ok (.aload_n 0, 1) := by decide +kernel
theorem dL_gaskets_549 : decode cL_gaskets 549 = .ok (.iconst 2, 1) := by decide +kernel
theorem dL_gaskets_550 : decode cL_gaskets 550 = .ok (.bipush 7, 2) := by decide +kernel
theorem dL_gaskets_552 : decode cL_gaskets 552 = .ok (.iconst 5, 1) := by decide +kernel
theorem dL_gaskets_553 : decode cL_gaskets 553 = .ok (.invokestatic 182, 3) := by decide +kernel
theorem dL_gaskets_556 : decode cL_gaskets 556 = .ok (.ifCond .eq 63, 3) := by decide +kernel
theorem dL_gaskets_559 : decode cL_gaskets 559 = .ok (.aload_n 0, 1) := by decide +kernel
theorem dL_gaskets_560 : decode cL_gaskets 560 = .ok (.iconst 2, 1) := by decide +kernel
theorem dL_gaskets_561 : decode cL_gaskets 561 = .ok (.iconst 2, 1) := by decide +kernel
theorem dL_gaskets_562 : decode cL_gaskets 562 = .ok (.invokevirtual 63, 3) := by decide +kernel
theorem dL_gaskets_565 : decode cL_gaskets 565 = .ok (.iconst 3, 1) := by decide +kernel
theorem dL_gaskets_566 : decode cL_gaskets 566 = .ok (.if_icmp .ne 53, 3) := by decide +kernel
theorem dL_gaskets_569 : decode cL_gaskets 569 = .ok (.aload_n 0, 1) := by decide +kernel
theorem dL_gaskets_570 : decode cL_gaskets 570 = .ok (.bipush (-6), 2) := by decide +kernel
theorem dL_gaskets_572 : decode cL_gaskets 572 = .ok (.bipush 11, 2) := by decide +kernel
theorem dL_gaskets_574 : decode cL_gaskets 574 = .ok (.bipush 14, 2) := by decide +kernel
theorem dL_gaskets_576 : decode cL_gaskets 576 = .ok (.bipush 15, 2) := by decide +kernel
theorem dL_gaskets_578 : decode cL_gaskets 578 = .ok (.invokevirtual 40, 3) := by decide +kernel
theorem dL_gaskets_581 : decode cL_gaskets 581 = .ok (.iconst 3, 1) := by decide +kernel
theorem dL_gaskets_582 : decode cL_gaskets 582 = .ok (.if_icmp .ne 37, 3) := by decide +kernel
theorem dL_gaskets_585 : decode cL_gaskets 585 = .ok (.aload_n 0, 1) := by decide +kernel
theorem dL_gaskets_586 : decode cL_gaskets 586 = .ok (.iconst 3, 1) := by decide +kernel
theorem dL_gaskets_587 : decode cL_gaskets 587 = .ok (.bipush 15, 2) := by decide +kernel
theorem dL_gaskets_589 : decode cL_gaskets 589 = .ok (.iconst 4, 1) := by decide +kernel
theorem dL_gaskets_590 : decode cL_gaskets 590 = .ok (.invokestatic 182, 3) := by decide +kernel
theorem dL_gaskets_593 : decode cL_gaskets 593 = .ok (.ifCond .eq 26, 3) := by decide +kernel
theorem dL_gaskets_596 : decode cL_gaskets 596 = .ok (.aload_n 0, 1) := by decide +kernel
theorem dL_gaskets_597 : decode cL_gaskets 597 = .ok (.iconst 3, 1) := by decide +kernel
theorem dL_gaskets_598 : decode cL_gaskets 598 = .ok (.bipush 23, 2) := by decide +kernel
theorem dL_gaskets_600 : decode cL_gaskets 600 = .ok (.iconst 5, 1) := by decide +kernel
theorem dL_gaskets_601 : decode cL_gaskets 601 = .ok (.invokestatic 182, 3) := by decide +kernel
theorem dL_gaskets_604 : decode cL_gaskets 604 = .ok (.ifCond .eq 15, 3) := by decide +kernel
theorem dL_gaskets_607 : decode cL_gaskets 607 = .ok (.aload_n 0, 1) := by decide +kernel
theorem dL_gaskets_608 : decode cL_gaskets 608 = .ok (.iconst 0, 1) := by decide +kernel
theorem dL_gaskets_609 : decode cL_gaskets 609 = .ok (.iconst 4, 1) := by decide +kernel
theorem dL_gaskets_610 : decode cL_gaskets 610 = .ok (.iconst 0, 1) := by decide +kernel
theorem dL_gaskets_611 : decode cL_gaskets 611 = .ok (.iconst 2, 1) := by decide +kernel
theorem dL_gaskets_612 : decode cL_gaskets 612 = .ok (.iconst 0, 1) := by decide +kernel
theorem dL_gaskets_613 : decode cL_gaskets 613 = .ok (.invokestatic 127, 3) := by decide +kernel
theorem dL_gaskets_616 : decode cL_gaskets 616 = .ok (.ifCond .ne 5, 3) := by decide +kernel
theorem dL_gaskets_619 : decode cL_gaskets 619 = .ok (.iconst 0, 1) := by decide +kernel
theorem dL_gaskets_620 : decode cL_gaskets 620 = .ok (.ireturn, 1) := by decide +kernel
theorem dL_gaskets_621 : decode cL_gaskets 621 = .ok (.lconst 0, 1) := by decide +kernel
theorem dL_gaskets_622 : decode cL_gaskets 622 = .ok (.lstore_n 1, 1) := by decide +kernel
theorem dL_gaskets_623 : decode cL_gaskets 623 = .ok (.iconst 0, 1) := by decide +kernel
theorem dL_gaskets_624 : decode cL_gaskets 624 = .ok (.istore_n 3, 1) := by decide +kernel
theorem dL_gaskets_625 : decode cL_gaskets 625 = .ok (.iload_n 3, 1) := by decide +kernel
theorem dL_gaskets_626 : decode cL_gaskets 626 = .ok (.sipush 200, 3) := by decide +kernel
theorem dL_gaskets_629 : decode cL_gaskets 629 = .ok (.if_icmp .ge 28, 3) := by decide +kernel
theorem dL_gaskets_632 : decode cL_gaskets 632 = .ok (.aload_n 0, 1) := by decide +kernel
theorem dL_gaskets_633 : decode cL_gaskets 633 = .ok (.bipush 10, 2) := by decide +kernel
theorem dL_gaskets_635 : decode cL_gaskets 635 = .ok (.iconst 0, 1) := by decide +kernel
theorem dL_gaskets_636 : decode cL_gaskets 636 = .ok (.iload_n 3, 1) := by decide +kernel
theorem dL_gaskets_637 : decode cL_gaskets 637 = .ok (.iconst 4, 1) := by decide +kernel
theorem dL_gaskets_638 : decode cL_gaskets 638 = .ok (.irem, 1) := by decide +kernel
theorem dL_gaskets_639 : decode cL_gaskets 639 = .ok (.iconst 0, 1) := by decide +kernel
theorem dL_gaskets_640 : decode cL_gaskets 640 = .ok (.iconst 0, 1) := by decide +kernel
theorem dL_gaskets_641 : decode cL_gaskets 641 = .ok (.invokestatic 117, 3) := by decide +kernel
theorem dL_gaskets_644 : decode cL_gaskets 644 = .ok (.ldc2_w 106, 3) := by decide +kernel
theorem dL_gaskets_647 : decode cL_gaskets 647 = .ok (.lcmp, 1) := by decide +kernel
theorem dL_gaskets_648 : decode cL_gaskets 648 = .ok (.ifCond .eq 9, 3) := by decide +kernel
theorem dL_gaskets_651 : decode cL_gaskets 651 = .ok (.iinc 3 1, 3) := by decide +kernel
theorem dL_gaskets_654 : decode cL_gaskets 654 = .ok (.goto (-29), 3) := by decide +kernel
theorem dL_gaskets_657 : decode cL_gaskets 657 = .ok (.iconst 0, 1) := by decide +kernel
theorem dL_gaskets_658 : decode cL_gaskets 658 = .ok (.istore 4, 2) := by decide +kernel
theorem dL_gaskets_660 : decode cL_gaskets 660 = .ok (.iload 4, 2) := by decide +kernel
theorem dL_gaskets_662 : decode cL_gaskets 662 = .ok (.iconst 4, 1) := by decide +kernel
theorem dL_gaskets_663 : decode cL_gaskets 663 = .ok (.if_icmp .ge 33, 3) := by decide +kernel
theorem dL_gaskets_666 : decode cL_gaskets 666 = .ok (.aload_n 0, 1) := by decide +kernel
theorem dL_gaskets_667 : decode cL_gaskets 667 = .ok (.iconst 0, 1) := by decide +kernel
theorem dL_gaskets_668 : decode cL_gaskets 668 = .ok (.iload 4, 2) := by decide +kernel
theorem dL_gaskets_670 : decode cL_gaskets 670 = .ok (.invokevirtual 47, 3) := by decide +kernel
theorem dL_gaskets_673 : decode cL_gaskets 673 = .ok (.lload_n 1, 1) := by decide +kernel
theorem dL_gaskets_674 : decode cL_gaskets 674 = .ok (.lcmp, 1) := by decide +kernel
theorem dL_gaskets_675 : decode cL_gaskets 675 = .ok (.ifCond .le 13, 3) := by decide +kernel
theorem dL_gaskets_678 : decode cL_gaskets 678 = .ok (.aload_n 0, 1) := by decide +kernel
theorem dL_gaskets_679 : decode cL_gaskets 679 = .ok (.iconst 0, 1) := by decide +kernel
theorem dL_gaskets_680 : decode cL_gaskets 680 = .ok (.iload 4, 2) := by decide +kernel
theorem dL_gaskets_682 : decode cL_gaskets 682 = .ok (.invokevirtual 47, 3) := by decide +kernel
theorem dL_gaskets_685 : decode cL_gaskets 685 = .ok (.goto 4, 3) := by decide +kernel
theorem dL_gaskets_688 : decode cL_gaskets 688 = .ok (.lload_n 1, 1) := by decide +kernel
theorem dL_gaskets_689 : decode cL_gaskets 689 = .ok (.lstore_n 1, 1) := by decide +kernel
theorem dL_gaskets_690 : decode cL_gaskets 690 = .ok (.iinc 4 1, 3) := by decide +kernel
theorem dL_gaskets_693 : decode cL_gaskets 693 = .ok (.goto (-33), 3) := by decide +kernel
theorem dL_gaskets_696 : decode cL_gaskets 696 = .ok (.iload_n 3, 1) := by decide +kernel
theorem dL_gaskets_697 : decode cL_gaskets 697 = .ok (.bipush 20, 2) := by decide +kernel
theorem dL_gaskets_699 : decode cL_gaskets 699 = .ok (.if_icmp .lt 65, 3) := by decide +kernel
theorem dL_gaskets_702 : decode cL_gaskets 702 = .ok (.iload_n 3, 1) := by decide +kernel
theorem dL_gaskets_703 : decode cL_gaskets 703 = .ok (.sipush 200, 3) := by decide +kernel
theorem dL_gaskets_706 : decode cL_gaskets 706 = .ok (.if_icmp .eq 58, 3) := by decide +kernel
theorem dL_gaskets_709 : decode cL_gaskets 709 = .ok (.lload_n 1, 1) := by decide +kernel
theorem dL_gaskets_710 : decode cL_gaskets 710 = .ok (.ldc2_w 196, 3) := by decide +kernel
theorem dL_gaskets_713 : decode cL_gaskets 713 = .ok (.lcmp, 1) := by decide +kernel
theorem dL_gaskets_714 : decode cL_gaskets 714 = .ok (.ifCond .gt 50, 3) := by decide +kernel
theorem dL_gaskets_717 : decode cL_gaskets 717 = .ok (.lload_n 1, 1) := by decide +kernel
theorem dL_gaskets_718 : decode cL_gaskets 718 = .ok (.ldc2_w 198, 3) := by decide +kernel
theorem dL_gaskets_721 : decode cL_gaskets 721 = .ok (.lcmp, 1) := by decide +kernel
theorem dL_gaskets_722 : decode cL_gaskets 722 = .ok (.ifCond .lt 42, 3) := by decide +kernel
theorem dL_gaskets_725 : decode cL_gaskets 725 = .ok (.aload_n 0, 1) := by decide +kernel
theorem dL_gaskets_726 : decode cL_gaskets 726 = .ok (.bipush 10, 2) := by decide +kernel
theorem dL_gaskets_728 : decode cL_gaskets 728 = .ok (.iconst 0, 1) := by decide +kernel
theorem dL_gaskets_729 : decode cL_gaskets 729 = .ok (.iload_n 3, 1) := by decide +kernel
theorem dL_gaskets_730 : decode cL_gaskets 730 = .ok (.iconst 4, 1) := by decide +kernel
theorem dL_gaskets_731 : decode cL_gaskets 731 = .ok (.irem, 1) := by decide +kernel
theorem dL_gaskets_732 : decode cL_gaskets 732 = .ok (.iconst 0, 1) := by decide +kernel
theorem dL_gaskets_733 : decode cL_gaskets 733 = .ok (.iconst 0, 1) := by decide +kernel
theorem dL_gaskets_734 : decode cL_gaskets 734 = .ok (.invokestatic 117, 3) := by decide +kernel
theorem dL_gaskets_737 : decode cL_gaskets 737 = .ok (.ldc2_w 106, 3) := by decide +kernel
theorem dL_gaskets_740 : decode cL_gaskets 740 = .ok (.lcmp, 1) := by decide +kernel
theorem dL_gaskets_741 : decode cL_gaskets 741 = .ok (.ifCond .ne 23, 3) := by decide +kernel
theorem dL_gaskets_744 : decode cL_gaskets 744 = .ok (.aload_n 0, 1) := by decide +kernel
theorem dL_gaskets_745 : decode cL_gaskets 745 = .ok (.iconst 0, 1) := by decide +kernel
theorem dL_gaskets_746 : decode cL_gaskets 746 = .ok (.ldc2_w 166, 3) := by decide +kernel
theorem dL_gaskets_749 : decode cL_gaskets 749 = .ok (.ldc2_w 168, 3) := by decide +kernel
theorem dL_gaskets_752 : decode cL_gaskets 752 = .ok (.ldc2_w 168, 3) := by decide +kernel
theorem dL_gaskets_755 : decode cL_gaskets 755 = .ok (.ldc2_w 170, 3) := by decide +kernel
theorem dL_gaskets_758 : decode cL_gaskets 758 = .ok (.invokestatic 172, 3) := by decide +kernel
theorem dL_gaskets_761 : decode cL_gaskets 761 = .ok (.ifCond .ne 5, 3) := by decide +kernel
theorem dL_gaskets_764 : decode cL_gaskets 764 = .ok (.iconst 0, 1) := by decide +kernel
theorem dL_gaskets_765 : decode cL_gaskets 765 = .ok (.ireturn, 1) := by decide +kernel
theorem dL_gaskets_766 : decode cL_gaskets 766 = .ok (.iconst 4, 1) := by decide +kernel
theorem dL_gaskets_767 : decode cL_gaskets 767 = .ok (.istore 4, 2) := by decide +kernel
theorem dL_gaskets_769 : decode cL_gaskets 769 = .ok (.iload 4, 2) := by decide +kernel
theorem dL_gaskets_771 : decode cL_gaskets 771 = .ok (.bipush 9, 2) := by decide +kernel
theorem dL_gaskets_773 : decode cL_gaskets 773 = .ok (.if_icmp .ge 40, 3) := by decide +kernel
theorem dL_gaskets_776 : decode cL_gaskets 776 = .ok (.aload_n 0, 1) := by decide +kernel
theorem dL_gaskets_777 : decode cL_gaskets 777 = .ok (.bipush 9, 2) := by decide +kernel
theorem dL_gaskets_779 : decode cL_gaskets 779 = .ok (.iconst 2, 1) := by decide +kernel
theorem dL_gaskets_780 : decode cL_gaskets 780 = .ok (.iconst (-1), 1) := by decide +kernel
theorem dL_gaskets_781 : decode cL_gaskets 781 = .ok (.iconst 3, 1) := by decide +kernel
theorem dL_gaskets_782 : decode cL_gaskets 782 = .ok (.iconst 2, 1) := by decide +kernel
theorem dL_gaskets_783 : decode cL_gaskets 783 = .ok (.invokestatic 117, 3) := by decide +kernel
theorem dL_gaskets_786 : decode cL_gaskets 786 = .ok (.iload 4, 2) := by decide +kernel
theorem dL_gaskets_788 : decode cL_gaskets 788 = .ok (.bipush 8, 2) := by decide +kernel
theorem dL_gaskets_790 : decode cL_gaskets 790 = .ok (.if_icmp .ge 8, 3) := by decide +kernel
theorem dL_gaskets_793 : decode cL_gaskets 793 = .ok (.iload 4, 2) := by decide +kernel
theorem dL_gaskets_795 : decode cL_gaskets 795 = .ok (.goto 5, 3) := by decide +kernel
theorem dL_gaskets_798 : decode cL_gaskets 798 = .ok (.ldc 140, 2) := by decide +kernel
theorem dL_gaskets_800 : decode cL_gaskets 800 = .ok (.i2l, 1) := by decide +kernel
theorem dL_gaskets_801 : decode cL_gaskets 801 = .ok (.lcmp, 1) := by decide +kernel
theorem dL_gaskets_802 : decode cL_gaskets 802 = .ok (.ifCond .eq 5, 3) := by decide +kernel
theorem dL_gaskets_805 : decode cL_gaskets 805 = .ok (.iconst 0, 1) := by decide +kernel
theorem dL_gaskets_806 : decode cL_gaskets 806 = .ok (.ireturn, 1) := by decide +kernel
theorem dL_gaskets_807 : decode cL_gaskets 807 = .ok (.iinc 4 1, 3) := by decide +kernel
theorem dL_gaskets_810 : decode cL_gaskets 810 = .ok (.goto (-41), 3) := by decide +kernel
theorem dL_gaskets_813 : decode cL_gaskets 813 = .ok (.aload_n 0, 1) := by decide +kernel
theorem dL_gaskets_814 : decode cL_gaskets 814 = .ok (.bipush 7, 2) := by decide +kernel
theorem dL_gaskets_816 : decode cL_gaskets 816 = .ok (.ldc2_w 166, 3) := by decide +kernel
theorem dL_gaskets_819 : decode cL_gaskets 819 = .ok (.ldc2_w 168, 3) := by decide +kernel
theorem dL_gaskets_822 : decode cL_gaskets 822 = .ok (.ldc2_w 168, 3) := by decide +kernel
theorem dL_gaskets_825 : decode cL_gaskets 825 = .ok (.ldc2_w 170, 3) := by decide +kernel
theorem dL_gaskets_828 : decode cL_gaskets 828 = .ok (.invokestatic 172, 3) := by decide +kernel
theorem dL_gaskets_831 : decode cL_gaskets 831 = .ok (.ifCond .eq 21, 3) := by decide +kernel
theorem dL_gaskets_834 : decode cL_gaskets 834 = .ok (.aload_n 0, 1) := by decide +kernel
theorem dL_gaskets_835 : decode cL_gaskets 835 = .ok (.bipush 7, 2) := by decide +kernel
theorem dL_gaskets_837 : decode cL_gaskets 837 = .ok (.iconst 1, 1) := by decide +kernel
theorem dL_gaskets_838 : decode cL_gaskets 838 = .ok (.invokevirtual 47, 3) := by decide +kernel
theorem dL_gaskets_841 : decode cL_gaskets 841 = .ok (.ldc2_w 166, 3) := by decide +kernel
theorem dL_gaskets_844 : decode cL_gaskets 844 = .ok (.lcmp, 1) := by decide +kernel
theorem dL_gaskets_845 : decode cL_gaskets 845 = .ok (.ifCond .ne 7, 3) := by decide +kernel
theorem dL_gaskets_848 : decode cL_gaskets 848 = .ok (.iconst 1, 1) := by decide +kernel
theorem dL_gaskets_849 : decode cL_gaskets 849 = .ok (.goto 4, 3) := by decide +kernel
theorem dL_gaskets_852 : decode cL_gaskets 852 = .ok (.iconst 0, 1) := by decide +kernel
theorem dL_gaskets_853 : decode cL_gaskets 853 = .ok (.ireturn, 1) := by decide +kernel
set_option maxRecDepth 20000 in
theorem ggL_between_X8_between : GoodIn wsL_between wsX8_between := goodIn_ca (goodIn_r _ [5, 6, 7, 8, 9, 4, 10, 11, 12, 13, 14, 15, 16, 17, 18, 19, 20, 21, 22, 23, 24, 25, 26, 27, 28, 29, 30] (by decide +kernel) (by decide +kernel)) (goodIn_sub (fun _ h => List.mem_cons_of_mem _ (List.mem_append_right _ h)) (by decide +kernel))
set_option maxRecDepth 20000 in
theorem gL_between_X8_between : GoodIn wsL_between (wsV RL 69 RX8 yX8_between wsX8_between) := goodIn_app (goodIn_of _ (by decide +kernel)) ggL_between_X8_between
theorem dL_between_0 : decode cL_between 0 = .ok (.aload_n 0, 1) := by decide +kernel
theorem dL_between_1 : decode cL_between 1 = .ok (.iload_n 1, 1) := by decide +kernel
theorem dL_between_2 : decode cL_between 2 = .ok (.iload_n 2, 1) := by decide +kernel
theorem dL_between_3 : decode cL_between 3 = .ok (.iload_n 3, 1) := by decide +kernel
theorem dL_between_4 : decode cL_between 4 = .ok (.iload 4, 2) := by decide +kernel
theorem dL_between_6 : decode cL_between 6 = .ok (.iconst 1, 1) := by decide +kernel
theorem dL_between_7 : decode cL_between 7 = .ok (.invokevirtual 69, 3) := by decide +kernel
theorem dL_between_10 : decode cL_between 10 = .ok (.lload 5, 2) := by decide +kernel
theorem dL_between_12 : decode cL_between 12 = .ok (.lcmp, 1) := by decide +kernel
theorem dL_between_13 : decode cL_between 13 = .ok (.ifCond .ne 55, 3) := by decide +kernel
theorem dL_between_16 : decode cL_between 16 = .ok (.aload_n 0, 1) := by decide +kernel
theorem dL_between_17 : decode cL_between 17 = .ok (.iload_n 1, 1) := by decide +kernel
theorem dL_between_18 : decode cL_between 18 = .ok (.iload_n 2, 1) := by decide +kernel
theorem dL_between_19 : decode cL_between 19 = .ok (.iload_n 3, 1) := by decide +kernel
theorem dL_between_20 : decode cL_between 20 = .ok (.iload 4, 2) := by decide +kernel
theorem dL_between_22 : decode cL_between 22 = .ok (.iconst 0, 1) := by decide +kernel
theorem dL_between_23 : decode cL_between 23 = .ok (.invokevirtual 69, 3) := by decide +kernel
theorem dL_between_26 : decode cL_between 26 = .ok (.lload 7, 2) := by decide +kernel
theorem dL_between_28 : decode cL_between 28 = .ok (.lcmp, 1) := by decide +kernel
theorem dL_between_29 : decode cL_between 29 = .ok (.ifCond .ne 39, 3) := by decide +kernel
theorem dL_between_32 : decode cL_between 32 = .ok (.aload_n 0, 1) := by decide +kernel
theorem dL_between_33 : decode cL_between 33 = .ok (.iload_n 3, 1) := by decide +kernel
theorem dL_between_34 : decode cL_between 34 = .ok (.iload 4, 2) := by decide +kernel
theorem dL_between_36 : decode cL_between 36 = .ok (.iload_n 1, 1) := by decide +kernel
theorem dL_between_37 : decode cL_between 37 = .ok (.iload_n 2, 1) := by decide +kernel
theorem dL_between_38 : decode cL_between 38 = .ok (.iconst 1, 1) := by decide +kernel
theorem dL_between_39 : decode cL_between 39 = .ok (.invokevirtual 69, 3) := by decide +kernel
theorem dL_between_42 : decode cL_between 42 = .ok (.lload 5, 2) := by decide +kernel
theorem dL_between_44 : decode cL_between 44 = .ok (.lcmp, 1) := by decide +kernel
theorem dL_between_45 : decode cL_between 45 = .ok (.ifCond .ne 23, 3) := by decide +kernel
theorem dL_between_48 : decode cL_between 48 = .ok (.aload_n 0, 1) := by decide +kernel
theorem dL_between_49 : decode cL_between 49 = .ok (.iload_n 3, 1) := by decide +kernel
theorem dL_between_50 : decode cL_between 50 = .ok (.iload 4, 2) := by decide +kernel
theorem dL_between_52 : decode cL_between 52 = .ok (.iload_n 1, 1) := by decide +kernel
theorem dL_between_53 : decode cL_between 53 = .ok (.iload_n 2, 1) := by decide +kernel
theorem dL_between_54 : decode cL_between 54 = .ok (.iconst 0, 1) := by decide +kernel
theorem dL_between_55 : decode cL_between 55 = .ok (.invokevirtual 69, 3) := by decide +kernel
theorem dL_between_58 : decode cL_between 58 = .ok (.lload 7, 2) := by decide +kernel
theorem dL_between_60 : decode cL_between 60 = .ok (.lcmp, 1) := by decide +kernel
theorem dL_between_61 : decode cL_between 61 = .ok (.ifCond .ne 7, 3) := by decide +kernel
theorem dL_between_64 : decode cL_between 64 = .ok (.iconst 1, 1) := by decide +kernel
theorem dL_between_65 : decode cL_between 65 = .ok (.goto 4, 3) := by decide +kernel
theorem dL_between_68 : decode cL_between 68 = .ok (.iconst 0, 1) := by decide +kernel
theorem dL_between_69 : decode cL_between 69 = .ok (.ireturn, 1) := by decide +kernel
set_option maxRecDepth 20000 in
theorem ggL_fractions_X8_init : GoodIn wsL_fractions wsX8_init := goodIn_r _ [22, 23, 24, 25, 26, 27, 28, 29, 30, 31, 32, 33, 34, 35, 36, 37, 38, 39, 40, 41, 42, 43, 44, 45, 46, 47, 48, 49, 50, 51, 52, 53, 54, 55, 56, 57, 58, 59, 60, 61, 62, 63, 64, 65, 66, 67, 68, 69, 70, 71, 72, 73, 74, 75, 76, 77, 78, 79, 80, 81, 82, 83, 84, 85, 86, 87, 88, 89, 90, 91, 92, 93, 94, 95, 96, 97, 98, 99, 100, 101, 102, 103, 104, 105, 106, 107, 108, 109, 618, 619, 620, 621, 611, 612, 613, 614, 615, 616, 617, 622, 623, 624, 625, 626, 627, 628, 629, 630, 631, 632, 633] (by decide +kernel) (by decide +kernel)
set_option maxRecDepth 20000 in
theorem gL_fractions_X8_init : GoodIn wsL_fractions (wsX8_init) := ggL_fractions_X8_init
set_option maxRecDepth 20000 in
theorem ggL_fractions_X8_ford : GoodIn wsL_fractions wsX8_ford := goodIn_ca (goodIn_r _ [113, 114, 115, 116, 3, 117, 118, 119, 120, 121, 122, 123, 124, 125, 126, 127, 128, 129, 130, 131, 132, 133] (by decide +kernel) (by decide +kernel)) (goodIn_sub (fun _ h => List.mem_cons_of_mem _ (List.mem_append_left _ (List.mem_append_left _ (List.mem_append_right _ h)))) (by decide +kernel))
set_option maxRecDepth 20000 in
theorem gL_fractions_X8_ford : GoodIn wsL_fractions (wsV RL 66 RX8 yX8_ford wsX8_ford) := goodIn_app (goodIn_of _ (by decide +kernel)) ggL_fractions_X8_ford
set_option maxRecDepth 20000 in
theorem ggL_fractions_L_act : GoodIn wsL_fractions wsL_act := goodIn_ca (goodIn_ca (goodIn_ca (goodIn_r _ [137, 138, 139, 140, 141, 7, 142, 143, 144, 145, 3, 146, 147, 148, 149, 150, 29, 151, 28, 152, 153, 55, 154, 155, 156, 54, 157, 158, 159, 160, 161, 162, 163, 52, 61, 62, 63, 64, 65, 66, 67, 68, 69, 70, 71, 72, 53, 164, 165, 166, 167, 168, 169, 170, 171, 172, 173, 174, 175, 176, 177, 178, 179, 180, 181, 182, 183, 184, 185, 186, 187, 130, 188, 189, 190, 191, 192, 193, 194, 195, 196, 197, 198, 199, 200, 201, 202, 203, 204, 205, 206, 207, 208, 209, 210, 211, 212, 213, 214, 215, 216, 217, 218, 219, 220, 221, 222, 223, 224, 225, 226, 227, 228, 229, 230, 231, 232, 118, 119, 33, 233, 234, 235, 236, 237, 238, 120, 121, 122, 123, 124, 239, 240, 241, 32, 242, 243, 244, 245, 246, 24, 25, 247, 248, 249, 250, 251, 252, 253, 254, 255, 77, 256, 257, 258, 259, 260, 261, 262, 263, 264, 265, 266, 267, 76, 268, 269, 270, 271, 272, 273, 274, 275, 276, 277, 278, 279, 280, 59, 281, 282, 283, 284, 285, 286, 287, 288, 289, 290, 291, 292, 293, 294, 295, 296, 297, 298, 299, 300, 301, 302, 303, 304, 305, 306, 307, 308, 309, 310, 311, 312, 313, 314, 315, 316, 317, 318, 319, 320, 321, 322, 323, 324, 325, 326, 327, 328, 329, 330, 331, 332, 333, 334, 335, 336, 337, 338, 339, 340, 341, 342, 343, 344, 34, 345, 346, 347, 348, 349, 350, 351, 352, 353, 354, 355, 356, 357, 358, 91, 359, 360, 361, 362, 363, 364, 365, 366, 367, 368, 369, 370, 371, 372, 373, 374, 375, 376, 377, 378, 379, 380, 381, 382, 383, 384, 385, 386, 387, 388, 389, 390, 391, 392, 393, 394, 395, 396, 397, 398, 399, 400, 401, 402, 403, 404, 405, 406, 407, 408, 409, 410, 411, 412, 413, 414, 415, 416, 417, 418, 419, 420, 421, 422, 423, 424, 425, 426, 427, 428, 429, 430, 431, 432, 433, 434, 435, 436, 437, 438, 439, 440, 441, 442, 443, 444, 445, 446, 447, 448, 449, 38, 450, 37, 451, 452, 92, 93, 453, 454, 455, 456, 457, 458, 459, 460, 461, 462, 463, 464, 465, 466, 467, 468, 469, 470, 471, 472, 473, 474, 475, 476, 477, 478, 479, 480, 481, 482, 483, 484, 485, 110, 111, 112, 113, 114, 115, 116, 117, 125, 126, 127, 128, 129, 131, 132, 133, 486, 487, 488, 489, 490, 491, 492, 493, 494, 495, 496, 497, 498, 39, 40, 41, 42, 94, 95, 96, 97, 98, 99, 100, 499, 500, 501, 502, 503, 43, 504, 505, 506, 507, 508, 509, 510, 511, 512, 513, 514, 515, 516, 517, 518, 519, 520, 521, 522, 523, 524, 525, 526, 527, 528, 529, 530, 531, 532, 533, 534, 535, 47, 536, 46, 537, 538, 108, 105, 539, 540, 541, 542, 543, 544, 545, 546, 547, 548, 549, 550, 551, 552, 553, 554, 555, 556, 557, 558, 559, 560, 561, 562, 563, 564, 565, 566, 567, 568, 569, 570, 571, 572, 107, 573, 574, 575, 576, 577, 578, 579, 580, 581, 582, 583, 584, 585, 586, 587, 588, 589, 590, 591, 592, 593, 594, 595, 596, 597, 598, 599, 600, 601, 602, 603, 604, 605, 606, 607, 611, 612, 613, 614, 615, 616, 617, 618, 619, 620, 621, 634, 635, 636, 622, 623, 624, 637, 638, 639, 625, 626, 627, 628, 629, 630, 631, 632, 633, 640, 641] (by decide +kernel) (by decide +kernel)) (goodIn_sub (fun _ h => List.mem_cons_of_mem _ (List.mem_append_left _ (List.mem_append_right _ h))) (by decide +kernel))) (goodIn_sub (fun _ h => List.mem_cons_of_mem _ (List.mem_append_right _ h)) (by decide +kernel))) (goodIn_sub (fun _ h => List.mem_cons_of_mem _ (List.mem_append_left _ (List.mem_append_left _ (List.mem_append_right _ h)))) (by decide +kernel))
set_option maxRecDepth 20000 in
theorem gL_fractions_L_act : GoodIn wsL_fractions (va_wsS RL 117 yL_act wsL_act) := goodIn_app (goodIn_of _ (by decide +kernel)) ggL_fractions_L_act
set_option maxRecDepth 20000 in
theorem ggL_fractions_L_between : GoodIn wsL_fractions wsL_between := goodIn_ca (goodIn_r _ [610, 486, 487, 488, 3, 489, 118, 119, 115, 116, 117, 120, 121, 122, 123, 124, 125, 126, 127, 128, 129, 130, 131, 132, 133, 490, 491, 492, 493, 461, 494] (by decide +kernel) (by decide +kernel)) (goodIn_sub (fun _ h => List.mem_cons_of_mem _ (List.mem_append_left _ (List.mem_append_left _ (List.mem_append_right _ h)))) (by decide +kernel))
set_option maxRecDepth 20000 in
theorem gL_fractions_L_between : GoodIn wsL_fractions (va_wsS RL 201 yL_between wsL_between) := goodIn_app (goodIn_of _ (by decide +kernel)) ggL_fractions_L_between
theorem dL_fractions_0 : decode cL_fractions 0 = .ok (.new 8, 3) := by decide +kernel
theorem dL_fractions_3 : decode cL_fractions 3 = .ok (.dup, 1) := by decide +kernel
theorem dL_fractions_4 : decode cL_fractions 4 = .ok (.invokespecial 126, 3) := by decide +kernel
theorem dL_fractions_7 : decode cL_fractions 7 = .ok (.astore_n 0, 1) := by decide +kernel
theorem dL_fractions_8 : decode cL_fractions 8 = .ok (.aload_n 0, 1) := by decide +kernel
theorem dL_fractions_9 : decode cL_fractions 9 = .ok (.iconst 0, 1) := by decide +kernel
theorem dL_fractions_10 : decode cL_fractions 10 = .ok (.iconst 1, 1) := by decide +kernel
theorem dL_fractions_11 : decode cL_fractions 11 = .ok (.iconst 1, 1) := by decide +kernel
theorem dL_fractions_12 : decode cL_fractions 12 = .ok (.iconst 1, 1) := by decide +kernel
theorem dL_fractions_13 : decode cL_fractions 13 = .ok (.invokevirtual 66, 3) := by decide +kernel
theorem dL_fractions_16 : decode cL_fractions 16 = .ok (.iconst 1, 1) := by decide +kernel
theorem dL_fractions_17 : decode cL_fractions 17 = .ok (.if_icmp .ne 142, 3) := by decide +kernel
theorem dL_fractions_20 : decode cL_fractions 20 = .ok (.aload_n 0, 1) := by decide +kernel
theorem dL_fractions_21 : decode cL_fractions 21 = .ok (.iconst 0, 1) := by decide +kernel
theorem dL_fractions_22 : decode cL_fractions 22 = .ok (.iconst 1, 1) := by decide +kernel
theorem dL_fractions_23 : decode cL_fractions 23 = .ok (.iconst 1, 1) := by decide +kernel
theorem dL_fractions_24 : decode cL_fractions 24 = .ok (.iconst 2, 1) := by decide +kernel
theorem dL_fractions_25 : decode cL_fractions 25 = .ok (.invokevirtual 66, 3) := by decide +kernel
theorem dL_fractions_28 : decode cL_fractions 28 = .ok (.iconst 1, 1) := by decide +kernel
theorem dL_fractions_29 : decode cL_fractions 29 = .ok (.if_icmp .ne 130, 3) := by decide +kernel
theorem dL_fractions_32 : decode cL_fractions 32 = .ok (.aload_n 0, 1) := by decide +kernel
theorem dL_fractions_33 : decode cL_fractions 33 = .ok (.iconst 0, 1) := by decide +kernel
theorem dL_fractions_34 : decode cL_fractions 34 = .ok (.iconst 1, 1) := by decide +kernel
theorem dL_fractions_35 : decode cL_fractions 35 = .ok (.iconst 2, 1) := by decide +kernel
theorem dL_fractions_36 : decode cL_fractions 36 = .ok (.iconst 5, 1) := by decide +kernel
theorem dL_fractions_37 : decode cL_fractions 37 = .ok (.invokevirtual 66, 3) := by decide +kernel
theorem dL_fractions_40 : decode cL_fractions 40 = .ok (.ifCond .ne 119, 3) := by decide +kernel
theorem dL_fractions_43 : decode cL_fractions 43 = .ok (.aload_n 0, 1) := by decide +kernel
theorem dL_fractions_44 : decode cL_fractions 44 = .ok (.iconst 1, 1) := by decide +kernel
theorem dL_fractions_45 : decode cL_fractions 45 = .ok (.iconst 2, 1) := by decide +kernel
theorem dL_fractions_46 : decode cL_fractions 46 = .ok (.iconst 1, 1) := by decide +kernel
theorem dL_fractions_47 : decode cL_fractions 47 = .ok (.iconst 2, 1) := by decide +kernel
theorem dL_fractions_48 : decode cL_fractions 48 = .ok (.invokevirtual 66, 3) := by decide +kernel
theorem dL_fractions_51 : decode cL_fractions 51 = .ok (.iconst 2, 1) := by decide +kernel
theorem dL_fractions_52 : decode cL_fractions 52 = .ok (.if_icmp .ne 107, 3) := by decide +kernel
theorem dL_fractions_55 : decode cL_fractions 55 = .ok (.aload_n 0, 1) := by decide +kernel
theorem dL_fractions_56 : decode cL_fractions 56 = .ok (.bipush (-3), 2) := by decide +kernel
theorem dL_fractions_58 : decode cL_fractions 58 = .ok (.iconst 2, 1) := by decide +kernel
theorem dL_fractions_59 : decode cL_fractions 59 = .ok (.bipush (-4), 2) := by decide +kernel
theorem dL_fractions_61 : decode cL_fractions 61 = .ok (.iconst 3, 1) := by decide +kernel
theorem dL_fractions_62 : decode cL_fractions 62 = .ok (.invokevirtual 66, 3) := by decide +kernel
theorem dL_fractions_65 : decode cL_fractions 65 = .ok (.iconst 1, 1) := by decide +kernel
theorem dL_fractions_66 : decode cL_fractions 66 = .ok (.if_icmp .ne 93, 3) := by decide +kernel
theorem dL_fractions_69 : decode cL_fractions 69 = .ok (.aload_n 0, 1) := by decide +kernel
theorem dL_fractions_70 : decode cL_fractions 70 = .ok (.iconst (-1), 1) := by decide +kernel
theorem dL_fractions_71 : decode cL_fractions 71 = .ok (.iconst 2, 1) := by decide +kernel
theorem dL_fractions_72 : decode cL_fractions 72 = .ok (.iconst 1, 1) := by decide +kernel
theorem dL_fractions_73 : decode cL_fractions 73 = .ok (.iconst 2, 1) := by decide +kernel
theorem dL_fractions_74 : decode cL_fractions 74 = .ok (.invokevirtual 66, 3) := by decide +kernel
theorem dL_fractions_77 : decode cL_fractions 77 = .ok (.ifCond .ne 82, 3) := by decide +kernel
theorem dL_fractions_80 : decode cL_fractions 80 = .ok (.aload_n 0, 1) := by decide +kernel
theorem dL_fractions_81 : decode cL_fractions 81 = .ok (.ldc 164, 2) := by decide +kernel
theorem dL_fractions_83 : decode cL_fractions 83 = .ok (.ldc 200, 2) := by decide +kernel
theorem dL_fractions_85 : decode cL_fractions 85 = .ok (.ldc 164, 2) := by decide +kernel
theorem dL_fractions_87 : decode cL_fractions 87 = .ok (.ldc 200, 2) := by decide +kernel
theorem dL_fractions_89 : decode cL_fractions 89 = .ok (.invokevirtual 66, 3) := by decide +kernel
theorem dL_fractions_92 : decode cL_fractions 92 = .ok (.iconst 2, 1) := by decide +kernel
theorem dL_fractions_93 : decode cL_fractions 93 = .ok (.if_icmp .ne 66, 3) := by decide +kernel
theorem dL_fractions_96 : decode cL_fractions 96 = .ok (.aload_n 0, 1) := by decide +kernel
theorem dL_fractions_97 : decode cL_fractions 97 = .ok (.ldc 163, 2) := by decide +kernel
theorem dL_fractions_99 : decode cL_fractions 99 = .ok (.ldc 200, 2) := by decide +kernel
theorem dL_fractions_101 : decode cL_fractions 101 = .ok (.ldc 200, 2) := by decide +kernel
theorem dL_fractions_103 : decode cL_fractions 103 = .ok (.ldc 164, 2) := by decide +kernel
theorem dL_fractions_105 : decode cL_fractions 105 = .ok (.invokevirtual 66, 3) := by decide +kernel
theorem dL_fractions_108 : decode cL_fractions 108 = .ok (.ifCond .ne 51, 3) := by decide +kernel
theorem dL_fractions_111 : decode cL_fractions 111 = .ok (.aload_n 0, 1) := by decide +kernel
theorem dL_fractions_112 : decode cL_fractions 112 = .ok (.bipush 17, 2) := by decide +kernel
theorem dL_fractions_114 : decode cL_fractions 114 = .ok (.iconst 2, 1) := by decide +kernel
theorem dL_fractions_115 : decode cL_fractions 115 = .ok (.iconst 4, 1) := by decide +kernel
theorem dL_fractions_116 : decode cL_fractions 116 = .ok (.iconst 1, 1) := by decide +kernel
theorem dL_fractions_117 : decode cL_fractions 117 = .ok (.iconst 1, 1) := by decide +kernel
theorem dL_fractions_118 : decode cL_fractions 118 = .ok (.invokestatic 117, 3) := by decide +kernel
theorem dL_fractions_121 : decode cL_fractions 121 = .ok (.ldc2_w 102, 3) := by decide +kernel
theorem dL_fractions_124 : decode cL_fractions 124 = .ok (.lcmp, 1) := by decide +kernel
theorem dL_fractions_125 : decode cL_fractions 125 = .ok (.ifCond .ne 34, 3) := by decide +kernel
theorem dL_fractions_128 : decode cL_fractions 128 = .ok (.aload_n 0, 1) := by decide +kernel
theorem dL_fractions_129 : decode cL_fractions 129 = .ok (.bipush 17, 2) := by decide +kernel
theorem dL_fractions_131 : decode cL_fractions 131 = .ok (.iconst 0, 1) := by decide +kernel
theorem dL_fractions_132 : decode cL_fractions 132 = .ok (.iconst 2, 1) := by decide +kernel
theorem dL_fractions_133 : decode cL_fractions 133 = .ok (.iconst 1, 1) := by decide +kernel
theorem dL_fractions_134 : decode cL_fractions 134 = .ok (.iconst 1, 1) := by decide +kernel
theorem dL_fractions_135 : decode cL_fractions 135 = .ok (.invokestatic 117, 3) := by decide +kernel
theorem dL_fractions_138 : decode cL_fractions 138 = .ok (.ldc2_w 102, 3) := by decide +kernel
theorem dL_fractions_141 : decode cL_fractions 141 = .ok (.lcmp, 1) := by decide +kernel
theorem dL_fractions_142 : decode cL_fractions 142 = .ok (.ifCond .ne 17, 3) := by decide +kernel
theorem dL_fractions_145 : decode cL_fractions 145 = .ok (.aload_n 0, 1) := by decide +kernel
theorem dL_fractions_146 : decode cL_fractions 146 = .ok (.ldc 200, 2) := by decide +kernel
theorem dL_fractions_148 : decode cL_fractions 148 = .ok (.ldc 164, 2) := by decide +kernel
theorem dL_fractions_150 : decode cL_fractions 150 = .ok (.iconst 1, 1) := by decide +kernel
theorem dL_fractions_151 : decode cL_fractions 151 = .ok (.iconst 1, 1) := by decide +kernel
theorem dL_fractions_152 : decode cL_fractions 152 = .ok (.invokevirtual 66, 3) := by decide +kernel
theorem dL_fractions_155 : decode cL_fractions 155 = .ok (.iconst 1, 1) := by decide +kernel
theorem dL_fractions_156 : decode cL_fractions 156 = .ok (.if_icmp .eq 5, 3) := by decide +kernel
theorem dL_fractions_159 : decode cL_fractions 159 = .ok (.iconst 0, 1) := by decide +kernel
theorem dL_fractions_160 : decode cL_fractions 160 = .ok (.ireturn, 1) := by decide +kernel
theorem dL_fractions_161 : decode cL_fractions 161 = .ok (.aload_n 0, 1) := by decide +kernel
theorem dL_fractions_162 : decode cL_fractions 162 = .ok (.iconst 0, 1) := by decide +kernel
theorem dL_fractions_163 : decode cL_fractions 163 = .ok (.iconst 1, 1) := by decide +kernel
theorem dL_fractions_164 : decode cL_fractions 164 = .ok (.iconst 1, 1) := by decide +kernel
theorem dL_fractions_165 : decode cL_fractions 165 = .ok (.iconst 1, 1) := by decide +kernel
theorem dL_fractions_166 : decode cL_fractions 166 = .ok (.lconst 1, 1) := by decide +kernel
theorem dL_fractions_167 : decode cL_fractions 167 = .ok (.ldc2_w 168, 3) := by decide +kernel
theorem dL_fractions_170 : decode cL_fractions 170 = .ok (.invokestatic 201, 3) := by decide +kernel
theorem dL_fractions_173 : decode cL_fractions 173 = .ok (.ifCond .eq 192, 3) := by decide +kernel
theorem dL_fractions_176 : decode cL_fractions 176 = .ok (.aload_n 0, 1) := by decide +kernel
theorem dL_fractions_177 : decode cL_fractions 177 = .ok (.iconst 1, 1) := by decide +kernel
theorem dL_fractions_178 : decode cL_fractions 178 = .ok (.iconst 3, 1) := by decide +kernel
theorem dL_fractions_179 : decode cL_fractions 179 = .ok (.iconst 1, 1) := by decide +kernel
theorem dL_fractions_180 : decode cL_fractions 180 = .ok (.iconst 2, 1) := by decide +kernel
theorem dL_fractions_181 : decode cL_fractions 181 = .ok (.ldc2_w 168, 3) := by decide +kernel
theorem dL_fractions_184 : decode cL_fractions 184 = .ok (.ldc2_w 204, 3) := by decide +kernel
theorem dL_fractions_187 : decode cL_fractions 187 = .ok (.invokestatic 201, 3) := by decide +kernel
theorem dL_fractions_190 : decode cL_fractions 190 = .ok (.ifCond .eq 175, 3) := by decide +kernel
theorem dL_fractions_193 : decode cL_fractions 193 = .ok (.aload_n 0, 1) := by decide +kernel
theorem dL_fractions_194 : decode cL_fractions 194 = .ok (.iconst 0, 1) := by decide +kernel
theorem dL_fractions_195 : decode cL_fractions 195 = .ok (.iconst 1, 1) := by decide +kernel
theorem dL_fractions_196 : decode cL_fractions 196 = .ok (.iconst 3, 1) := by decide +kernel
theorem dL_fractions_197 : decode cL_fractions 197 = .ok (.iconst 1, 1) := by decide +kernel
theorem dL_fractions_198 : decode cL_fractions 198 = .ok (.lconst 1, 1) := by decide +kernel
theorem dL_fractions_199 : decode cL_fractions 199 = .ok (.lconst 1, 1) := by decide +kernel
theorem dL_fractions_200 : decode cL_fractions 200 = .ok (.invokestatic 201, 3) := by decide +kernel
theorem dL_fractions_203 : decode cL_fractions 203 = .ok (.ifCond .eq 162, 3) := by decide +kernel
theorem dL_fractions_206 : decode cL_fractions 206 = .ok (.aload_n 0, 1) := by decide +kernel
theorem dL_fractions_207 : decode cL_fractions 207 = .ok (.iconst (-1), 1) := by decide +kernel
theorem dL_fractions_208 : decode cL_fractions 208 = .ok (.iconst 2, 1) := by decide +kernel
theorem dL_fractions_209 : decode cL_fractions 209 = .ok (.iconst 1, 1) := by decide +kernel
theorem dL_fractions_210 : decode cL_fractions 210 = .ok (.iconst 2, 1) := by decide +kernel
theorem dL_fractions_211 : decode cL_fractions 211 = .ok (.lconst 0, 1) := by decide +kernel
theorem dL_fractions_212 : decode cL_fractions 212 = .ok (.lconst 1, 1) := by decide +kernel
theorem dL_fractions_213 : decode cL_fractions 213 = .ok (.invokestatic 201, 3) := by decide +kernel
theorem dL_fractions_216 : decode cL_fractions 216 = .ok (.ifCond .eq 149, 3) := by decide +kernel
theorem dL_fractions_219 : decode cL_fractions 219 = .ok (.aload_n 0, 1) := by decide +kernel
theorem dL_fractions_220 : decode cL_fractions 220 = .ok (.iconst 5, 1) := by decide +kernel
theorem dL_fractions_221 : decode cL_fractions 221 = .ok (.bipush 7, 2) := by decide +kernel
theorem dL_fractions_223 : decode cL_fractions 223 = .ok (.iconst 3, 1) := by decide +kernel
theorem dL_fractions_224 : decode cL_fractions 224 = .ok (.iconst 4, 1) := by decide +kernel
theorem dL_fractions_225 : decode cL_fractions 225 = .ok (.ldc2_w 206, 3) := by decide +kernel
theorem dL_fractions_228 : decode cL_fractions 228 = .ok (.ldc2_w 208, 3) := by decide +kernel
theorem dL_fractions_231 : decode cL_fractions 231 = .ok (.invokestatic 201, 3) := by decide +kernel
theorem dL_fractions_234 : decode cL_fractions 234 = .ok (.ifCond .eq 131, 3) := by decide +kernel
theorem dL_fractions_237 : decode cL_fractions 237 = .ok (.aload_n 0, 1) := by decide +kernel
theorem dL_fractions_238 : decode cL_fractions 238 = .ok (.bipush (-7), 2) := by decide +kernel
theorem dL_fractions_240 : decode cL_fractions 240 = .ok (.iconst 2, 1) := by decide +kernel
theorem dL_fractions_241 : decode cL_fractions 241 = .ok (.bipush (-5), 2) := by decide +kernel
theorem dL_fractions_243 : decode cL_fractions 243 = .ok (.iconst 2, 1) := by decide +kernel
theorem dL_fractions_244 : decode cL_fractions 244 = .ok (.ldc2_w 210, 3) := by decide +kernel
theorem dL_fractions_247 : decode cL_fractions 247 = .ok (.lconst 1, 1) := by decide +kernel
theorem dL_fractions_248 : decode cL_fractions 248 = .ok (.invokestatic 201, 3) := by decide +kernel
theorem dL_fractions_251 : decode cL_fractions 251 = .ok (.ifCond .eq 114, 3) := by decide +kernel
theorem dL_fractions_254 : decode cL_fractions 254 = .ok (.aload_n 0, 1) := by decide +kernel
theorem dL_fractions_255 : decode cL_fractions 255 = .ok (.ldc 200, 2) := by decide +kernel
theorem dL_fractions_257 : decode cL_fractions 257 = .ok (.ldc 164, 2) := by decide +kernel
theorem dL_fractions_259 : decode cL_fractions 259 = .ok (.iconst 1, 1) := by decide +kernel
theorem dL_fractions_260 : decode cL_fractions 260 = .ok (.iconst 1, 1) := by decide +kernel
theorem dL_fractions_261 : decode cL_fractions 261 = .ok (.ldc2_w 212, 3) := by decide +kernel
theorem dL_fractions_264 : decode cL_fractions 264 = .ok (.ldc2_w 214, 3) := by decide +kernel
theorem dL_fractions_267 : decode cL_fractions 267 = .ok (.invokestatic 201, 3) := by decide +kernel
theorem dL_fractions_270 : decode cL_fractions 270 = .ok (.ifCond .eq 95, 3) := by decide +kernel
theorem dL_fractions_273 : decode cL_fractions 273 = .ok (.aload_n 0, 1) := by decide +kernel
theorem dL_fractions_274 : decode cL_fractions 274 = .ok (.iconst 0, 1) := by decide +kernel
theorem dL_fractions_275 : decode cL_fractions 275 = .ok (.iconst 1, 1) := by decide +kernel
theorem dL_fractions_276 : decode cL_fractions 276 = .ok (.iconst 1, 1) := by decide +kernel
theorem dL_fractions_277 : decode cL_fractions 277 = .ok (.ldc 164, 2) := by decide +kernel
theorem dL_fractions_279 : decode cL_fractions 279 = .ok (.lconst 1, 1) := by decide +kernel
theorem dL_fractions_280 : decode cL_fractions 280 = .ok (.ldc2_w 214, 3) := by decide +kernel
theorem dL_fractions_283 : decode cL_fractions 283 = .ok (.invokestatic 201, 3) := by decide +kernel
theorem dL_fractions_286 : decode cL_fractions 286 = .ok (.ifCond .eq 79, 3) := by decide +kernel
theorem dL_fractions_289 : decode cL_fractions 289 = .ok (.aload_n 0, 1) := by decide +kernel
theorem dL_fractions_290 : decode cL_fractions 290 = .ok (.ldc 163, 2) := by decide +kernel
theorem dL_fractions_292 : decode cL_fractions 292 = .ok (.iconst 1, 1) := by decide +kernel
theorem dL_fractions_293 : decode cL_fractions 293 = .ok (.ldc 164, 2) := by decide +kernel
theorem dL_fractions_295 : decode cL_fractions 295 = .ok (.iconst 1, 1) := by decide +kernel
theorem dL_fractions_296 : decode cL_fractions 296 = .ok (.ldc2_w 216, 3) := by decide +kernel
theorem dL_fractions_299 : decode cL_fractions 299 = .ok (.lconst 1, 1) := by decide +kernel
theorem dL_fractions_300 : decode cL_fractions 300 = .ok (.invokestatic 201, 3) := by decide +kernel
theorem dL_fractions_303 : decode cL_fractions 303 = .ok (.ifCond .eq 62, 3) := by decide +kernel
theorem dL_fractions_306 : decode cL_fractions 306 = .ok (.aload_n 0, 1) := by decide +kernel
theorem dL_fractions_307 : decode cL_fractions 307 = .ok (.iconst (-1), 1) := by decide +kernel
theorem dL_fractions_308 : decode cL_fractions 308 = .ok (.iconst 3, 1) := by decide +kernel
theorem dL_fractions_309 : decode cL_fractions 309 = .ok (.iconst (-1), 1) := by decide +kernel
theorem dL_fractions_310 : decode cL_fractions 310 = .ok (.iconst 2, 1) := by decide +kernel
theorem dL_fractions_311 : decode cL_fractions 311 = .ok (.ldc2_w 190, 3) := by decide +kernel
theorem dL_fractions_314 : decode cL_fractions 314 = .ok (.ldc2_w 204, 3) := by decide +kernel
theorem dL_fractions_317 : decode cL_fractions 317 = .ok (.invokestatic 201, 3) := by decide +kernel
theorem dL_fractions_320 : decode cL_fractions 320 = .ok (.ifCond .eq 45, 3) := by decide +kernel
theorem dL_fractions_323 : decode cL_fractions 323 = .ok (.aload_n 0, 1) := by decide +kernel
theorem dL_fractions_324 : decode cL_fractions 324 = .ok (.bipush 7, 2) := by decide +kernel
theorem dL_fractions_326 : decode cL_fractions 326 = .ok (.bipush 10, 2) := by decide +kernel
theorem dL_fractions_328 : decode cL_fractions 328 = .ok (.iconst 5, 1) := by decide +kernel
theorem dL_fractions_329 : decode cL_fractions 329 = .ok (.bipush 7, 2) := by decide +kernel
theorem dL_fractions_331 : decode cL_fractions 331 = .ok (.ldc2_w 218, 3) := by decide +kernel
theorem dL_fractions_334 : decode cL_fractions 334 = .ok (.ldc2_w 220, 3) := by decide +kernel
theorem dL_fractions_337 : decode cL_fractions 337 = .ok (.invokestatic 201, 3) := by decide +kernel
theorem dL_fractions_340 : decode cL_fractions 340 = .ok (.ifCond .eq 25, 3) := by decide +kernel
theorem dL_fractions_343 : decode cL_fractions 343 = .ok (.aload_n 0, 1) := by decide +kernel
theorem dL_fractions_344 : decode cL_fractions 344 = .ok (.iconst (-1), 1) := by decide +kernel
theorem dL_fractions_345 : decode cL_fractions 345 = .ok (.ldc 164, 2) := by decide +kernel
theorem dL_fractions_347 : decode cL_fractions 347 = .ok (.iconst 0, 1) := by decide +kernel
theorem dL_fractions_348 : decode cL_fractions 348 = .ok (.iconst 1, 1) := by decide +kernel
theorem dL_fractions_349 : decode cL_fractions 349 = .ok (.ldc2_w 166, 3) := by decide +kernel
theorem dL_fractions_352 : decode cL_fractions 352 = .ok (.ldc2_w 214, 3) := by decide +kernel
theorem dL_fractions_355 : decode cL_fractions 355 = .ok (.invokestatic 201, 3) := by decide +kernel
theorem dL_fractions_358 : decode cL_fractions 358 = .ok (.ifCond .eq 7, 3) := by decide +kernel
theorem dL_fractions_361 : decode cL_fractions 361 = .ok (.iconst 1, 1) := by decide +kernel
theorem dL_fractions_362 : decode cL_fractions 362 = .ok (.goto 4, 3) := by decide +kernel
theorem dL_fractions_365 : decode cL_fractions 365 = .ok (.iconst 0, 1) := by decide +kernel
theorem dL_fractions_366 : decode cL_fractions 366 = .ok (.ireturn, 1) := by decide +kernel
set_option maxRecDepth 20000 in
theorem ggL_word_X8_word : GoodIn wsL_word wsX8_word := goodIn_ca (goodIn_r _ [5, 6, 7, 8, 9, 10, 11, 12, 13, 14, 15, 16, 17, 18, 19, 20, 21, 22, 23, 24, 25, 26, 27, 28, 29, 30, 31, 32, 33, 34, 35, 36] (by decide +kernel) (by decide +kernel)) (goodIn_sub (fun _ h => List.mem_cons_of_mem _ (List.mem_append_right _ h)) (by decide +kernel))
set_option maxRecDepth 20000 in
theorem gL_word_X8_word : GoodIn wsL_word (wsV RL 80 RX8 yX8_word wsX8_word) := goodIn_app (goodIn_of _ (by decide +kernel)) ggL_word_X8_word
theorem dL_word_0 : decode cL_word 0 = .ok (.aload_n 0, 1) := by decide +kernel
theorem dL_word_1 : decode cL_word 1 = .ok (.iconst 0, 1) := by decide +kernel
theorem dL_word_2 : decode cL_word 2 = .ok (.invokevirtual 80, 3) := by decide +kernel
theorem dL_word_5 : decode cL_word 5 = .ok (.iload_n 1, 1) := by decide +kernel
theorem dL_word_6 : decode cL_word 6 = .ok (.if_icmp .ne 45, 3) := by decide +kernel
theorem dL_word_9 : decode cL_word 9 = .ok (.aload_n 0, 1) := by decide +kernel
theorem dL_word_10 : decode cL_word 10 = .ok (.iconst 1, 1) := by decide +kernel
theorem dL_word_11 : decode cL_word 11 = .ok (.invokevirtual 80, 3) := by decide +kernel
theorem dL_word_14 : decode cL_word 14 = .ok (.iload_n 2, 1) := by decide +kernel
theorem dL_word_15 : decode cL_word 15 = .ok (.if_icmp .ne 36, 3) := by decide +kernel
theorem dL_word_18 : decode cL_word 18 = .ok (.aload_n 0, 1) := by decide +kernel
theorem dL_word_19 : decode cL_word 19 = .ok (.iconst 2, 1) := by decide +kernel
theorem dL_word_20 : decode cL_word 20 = .ok (.invokevirtual 80, 3) := by decide +kernel
theorem dL_word_23 : decode cL_word 23 = .ok (.iload_n 3, 1) := by decide +kernel
theorem dL_word_24 : decode cL_word 24 = .ok (.if_icmp .ne 27, 3) := by decide +kernel
theorem dL_word_27 : decode cL_word 27 = .ok (.aload_n 0, 1) := by decide +kernel
theorem dL_word_28 : decode cL_word 28 = .ok (.iconst 3, 1) := by decide +kernel
theorem dL_word_29 : decode cL_word 29 = .ok (.invokevirtual 80, 3) := by decide +kernel
theorem dL_word_32 : decode cL_word 32 = .ok (.iload 4, 2) := by decide +kernel
theorem dL_word_34 : decode cL_word 34 = .ok (.if_icmp .ne 17, 3) := by decide +kernel
theorem dL_word_37 : decode cL_word 37 = .ok (.aload_n 0, 1) := by decide +kernel
theorem dL_word_38 : decode cL_word 38 = .ok (.iconst 4, 1) := by decide +kernel
theorem dL_word_39 : decode cL_word 39 = .ok (.invokevirtual 80, 3) := by decide +kernel
theorem dL_word_42 : decode cL_word 42 = .ok (.iload 5, 2) := by decide +kernel
theorem dL_word_44 : decode cL_word 44 = .ok (.if_icmp .ne 7, 3) := by decide +kernel
theorem dL_word_47 : decode cL_word 47 = .ok (.iconst 1, 1) := by decide +kernel
theorem dL_word_48 : decode cL_word 48 = .ok (.goto 4, 3) := by decide +kernel
theorem dL_word_51 : decode cL_word 51 = .ok (.iconst 0, 1) := by decide +kernel
theorem dL_word_52 : decode cL_word 52 = .ok (.ireturn, 1) := by decide +kernel
set_option maxRecDepth 20000 in
theorem ggL_image_X8_image : GoodIn wsL_image wsX8_image := goodIn_ca (goodIn_r _ [5, 6, 7, 8, 9, 10, 11, 12, 4, 13, 14, 15, 16, 17, 18, 19, 20, 21, 22, 23, 24, 25, 26, 27, 28, 29, 30, 31] (by decide +kernel) (by decide +kernel)) (goodIn_sub (fun _ h => List.mem_cons_of_mem _ (List.mem_append_right _ h)) (by decide +kernel))
set_option maxRecDepth 20000 in
theorem gL_image_X8_image : GoodIn wsL_image (wsV RL 83 RX8 yX8_image wsX8_image) := goodIn_app (goodIn_of _ (by decide +kernel)) ggL_image_X8_image
theorem dL_image_0 : decode cL_image 0 = .ok (.aload_n 0, 1) := by decide +kernel
theorem dL_image_1 : decode cL_image 1 = .ok (.iload_n 1, 1) := by decide +kernel
theorem dL_image_2 : decode cL_image 2 = .ok (.iload_n 2, 1) := by decide +kernel
theorem dL_image_3 : decode cL_image 3 = .ok (.iconst 1, 1) := by decide +kernel
theorem dL_image_4 : decode cL_image 4 = .ok (.invokevirtual 83, 3) := by decide +kernel
theorem dL_image_7 : decode cL_image 7 = .ok (.lload_n 3, 1) := by decide +kernel
theorem dL_image_8 : decode cL_image 8 = .ok (.lcmp, 1) := by decide +kernel
theorem dL_image_9 : decode cL_image 9 = .ok (.ifCond .ne 20, 3) := by decide +kernel
theorem dL_image_12 : decode cL_image 12 = .ok (.aload_n 0, 1) := by decide +kernel
theorem dL_image_13 : decode cL_image 13 = .ok (.iload_n 1, 1) := by decide +kernel
theorem dL_image_14 : decode cL_image 14 = .ok (.iload_n 2, 1) := by decide +kernel
theorem dL_image_15 : decode cL_image 15 = .ok (.iconst 0, 1) := by decide +kernel
theorem dL_image_16 : decode cL_image 16 = .ok (.invokevirtual 83, 3) := by decide +kernel
theorem dL_image_19 : decode cL_image 19 = .ok (.lload 5, 2) := by decide +kernel
theorem dL_image_21 : decode cL_image 21 = .ok (.lcmp, 1) := by decide +kernel
theorem dL_image_22 : decode cL_image 22 = .ok (.ifCond .ne 7, 3) := by decide +kernel
theorem dL_image_25 : decode cL_image 25 = .ok (.iconst 1, 1) := by decide +kernel
theorem dL_image_26 : decode cL_image 26 = .ok (.goto 4, 3) := by decide +kernel
theorem dL_image_29 : decode cL_image 29 = .ok (.iconst 0, 1) := by decide +kernel
theorem dL_image_30 : decode cL_image 30 = .ok (.ireturn, 1) := by decide +kernel
set_option maxRecDepth 20000 in
theorem ggL_words_X8_init : GoodIn wsL_words wsX8_init := goodIn_r _ [22, 23, 24, 25, 26, 27, 28, 29, 30, 31, 32, 33, 34, 35, 36, 37, 38, 39, 40, 41, 42, 43, 44, 45, 46, 47, 48, 49, 50, 51, 52, 53, 54, 55, 56, 57, 58, 59, 60, 61, 62, 63, 64, 65, 66, 67, 68, 69, 70, 71, 72, 73, 74, 75, 76, 77, 78, 79, 80, 81, 82, 83, 84, 85, 86, 87, 88, 89, 90, 91, 92, 93, 94, 95, 96, 97, 98, 99, 100, 101, 102, 103, 104, 105, 106, 107, 108, 109, 654, 655, 656, 657, 647, 648, 649, 650, 651, 652, 653, 658, 659, 660, 661, 662, 663, 664, 665, 666, 667, 668, 669] (by decide +kernel) (by decide +kernel)
set_option maxRecDepth 20000 in
theorem gL_words_X8_init : GoodIn wsL_words (wsX8_init) := ggL_words_X8_init
set_option maxRecDepth 20000 in
theorem ggL_words_L_word : GoodIn wsL_words wsL_word := goodIn_ca (goodIn_r _ [113, 114, 115, 116, 3, 117, 118, 119, 43, 120, 42, 121, 122, 98, 99, 97, 100, 123, 124, 125, 126, 127, 128, 129, 130, 131, 647, 648, 649, 650, 651, 652, 653, 663, 664, 665, 666] (by decide +kernel) (by decide +kernel)) (goodIn_sub (fun _ h => List.mem_cons_of_mem _ (List.mem_append_left _ (List.mem_append_left _ (List.mem_append_right _ h)))) (by decide +kernel))
set_option maxRecDepth 20000 in
theorem gL_words_L_word : GoodIn wsL_words (va_wsS RL 222 yL_word wsL_word) := goodIn_app (goodIn_of _ (by decide +kernel)) ggL_words_L_word
set_option maxRecDepth 20000 in
theorem ggL_words_L_image : GoodIn wsL_words wsL_image := goodIn_ca (goodIn_r _ [134, 135, 136, 137, 3, 138, 139, 140, 141, 142, 43, 143, 144, 145, 146, 147, 148, 149, 124, 125, 126, 647, 648, 649, 650, 651, 652, 653, 663, 664, 665, 666] (by decide +kernel) (by decide +kernel)) (goodIn_sub (fun _ h => List.mem_cons_of_mem _ (List.mem_append_left _ (List.mem_append_right _ h))) (by decide +kernel))
set_option maxRecDepth 20000 in
theorem gL_words_L_image : GoodIn wsL_words (va_wsS RL 226 yL_image wsL_image) := goodIn_app (goodIn_of _ (by decide +kernel)) ggL_words_L_image
set_option maxRecDepth 20000 in
theorem ggL_words_X8_tell : GoodIn wsL_words wsX8_tell := goodIn_ca (goodIn_ca (goodIn_r _ [153, 139, 140, 154, 155, 39, 40, 41, 42, 156, 157, 3, 158, 143, 144, 145, 159, 160, 161, 32, 162, 163, 94, 95, 96, 24, 25, 97, 98, 99, 100, 164, 165, 166, 167, 168, 169, 77, 170, 171, 172, 173, 174, 175, 176, 177, 178, 179, 180, 181, 76, 182, 183, 125, 184, 185, 186, 187, 188, 189, 190, 191, 192, 193, 194, 195, 196, 59, 197, 198, 199, 200, 201, 202, 203, 204, 205, 206, 207, 208, 209, 210, 211, 212, 213, 647, 648, 649, 650, 651, 652, 653, 663, 664, 665, 666, 658, 659, 660] (by decide +kernel) (by decide +kernel)) (goodIn_sub (fun _ h => List.mem_cons_of_mem _ (List.mem_append_left _ (List.mem_append_right _ h))) (by decide +kernel))) (goodIn_sub (fun _ h => List.mem_cons_of_mem _ (List.mem_append_right _ h)) (by decide +kernel))
set_option maxRecDepth 20000 in
theorem gL_words_X8_tell : GoodIn wsL_words (wsV RL 73 RX8 yX8_tell wsX8_tell) := goodIn_app (goodIn_of _ (by decide +kernel)) ggL_words_X8_tell
set_option maxRecDepth 20000 in
theorem ggL_words_X8_append : GoodIn wsL_words wsX8_append := goodIn_ca (goodIn_ca (goodIn_r _ [217, 118, 119, 154, 155, 39, 218, 43, 141, 159, 160, 161, 32, 162, 163, 219, 220, 221, 222, 223, 224, 225, 226, 227, 228, 229, 230, 231, 232, 233, 234, 77, 235, 42, 236, 237, 238, 41, 100, 98, 99, 97, 239, 94, 95, 96, 24, 25, 240, 241, 242, 243, 244, 245, 144, 3, 145, 129, 130, 131, 647, 648, 649, 650, 651, 652, 653, 658, 659, 660, 663, 664, 665, 666] (by decide +kernel) (by decide +kernel)) (goodIn_sub (fun _ h => List.mem_cons_of_mem _ (List.mem_append_left _ (List.mem_append_left _ (List.mem_append_right _ h)))) (by decide +kernel))) (goodIn_sub (fun _ h => List.mem_cons_of_mem _ (List.mem_append_right _ h)) (by decide +kernel))
set_option maxRecDepth 20000 in
theorem gL_words_X8_append : GoodIn wsL_words (wsV RL 76 RX8 yX8_append wsX8_append) := goodIn_app (goodIn_of _ (by decide +kernel)) ggL_words_X8_append
set_option maxRecDepth 20000 in
theorem ggL_words_X8_home : GoodIn wsL_words wsX8_home := goodIn_r _ [249, 43, 40, 41, 42, 129, 130, 131, 97, 100, 94, 95, 96, 24, 25, 98, 99, 647, 648, 649, 650, 651, 652, 653, 663, 664, 665, 666] (by decide +kernel) (by decide +kernel)
set_option maxRecDepth 20000 in
theorem gL_words_X8_home : GoodIn wsL_words (wsV RL 233 RX8 yX8_home wsX8_home) := goodIn_app (goodIn_of _ (by decide +kernel)) ggL_words_X8_home
set_option maxRecDepth 20000 in
theorem ggL_words_L_refuses : GoodIn wsL_words wsL_refuses := goodIn_ca (goodIn_ca (goodIn_ca (goodIn_r _ [252, 253, 254, 255, 256, 257, 258, 14, 259, 260, 261, 262, 3, 263, 118, 119, 29, 264, 28, 265, 266, 55, 267, 268, 269, 54, 270, 271, 272, 273, 274, 275, 276, 277, 278, 279, 280, 281, 53, 282, 283, 284, 285, 286, 287, 288, 289, 183, 125, 184, 290, 291, 292, 293, 52, 294, 295, 296, 297, 47, 298, 46, 299, 300, 108, 301, 302, 303, 304, 107, 105, 305, 306, 307, 308, 59, 309, 310, 160, 161, 32, 162, 163, 311, 220, 221, 222, 223, 224, 225, 226, 227, 228, 229, 230, 231, 232, 233, 234, 77, 312, 313, 314, 315, 316, 317, 318, 319, 320, 321, 322, 323, 324, 325, 326, 327, 328, 329, 330, 331, 332, 333, 334, 114, 115, 116, 117, 43, 120, 42, 121, 122, 98, 99, 97, 100, 123, 124, 126, 127, 128, 129, 130, 131, 335, 336, 112, 337, 338, 339, 340, 341, 342, 343, 344, 154, 155, 345, 346, 347, 348, 349, 350, 351, 352, 353, 354, 355, 356, 357, 61, 62, 63, 64, 65, 66, 67, 68, 69, 70, 71, 72, 358, 359, 360, 361, 362, 363, 364, 365, 208, 209, 366, 367, 368, 369, 370, 371, 372, 373, 374, 375, 376, 377, 378, 379, 380, 381, 382, 383, 384, 385, 386, 387, 388, 139, 140, 33, 389, 390, 391, 392, 393, 394, 141, 142, 143, 144, 145, 159, 395, 396, 397, 24, 25, 398, 399, 400, 164, 165, 166, 167, 168, 169, 170, 171, 172, 173, 174, 175, 176, 177, 178, 179, 180, 181, 76, 182, 185, 186, 187, 188, 189, 190, 191, 192, 193, 194, 195, 196, 197, 198, 199, 200, 201, 202, 203, 204, 205, 206, 207, 210, 211, 212, 213, 401, 402, 403, 404, 405, 406, 407, 408, 409, 219, 410, 411, 412, 413, 414, 415, 416, 417, 418, 419, 420, 421, 422, 423, 424, 425, 426, 427, 428, 429, 430, 431, 432, 433, 34, 434, 435, 436, 156, 157, 158, 437, 438, 439, 440, 441, 442, 443, 444, 91, 445, 446, 447, 448, 449, 450, 451, 452, 453, 454, 455, 456, 457, 458, 459, 460, 461, 462, 463, 464, 465, 466, 467, 468, 469, 470, 471, 472, 473, 474, 475, 476, 477, 478, 479, 480, 481, 482, 483, 484, 485, 486, 487, 488, 489, 490, 491, 492, 493, 494, 495, 496, 497, 498, 499, 500, 501, 502, 503, 504, 505, 506, 507, 508, 509, 510, 511, 512, 513, 514, 515, 516, 517, 518, 519, 520, 521, 522, 523, 524, 525, 526, 527, 528, 529, 530, 531, 532, 533, 534, 535, 38, 536, 37, 537, 538, 92, 93, 539, 540, 541, 542, 543, 544, 545, 546, 547, 548, 549, 550, 551, 552, 553, 554, 555, 556, 557, 558, 559, 560, 561, 562, 563, 564, 565, 566, 567, 568, 569, 570, 571, 572, 573, 574, 575, 576, 577, 146, 147, 148, 149, 578, 579, 580, 581, 582, 583, 584, 585, 586, 587, 588, 150, 151, 152, 153, 39, 40, 41, 94, 95, 96, 214, 215, 216, 217, 218, 235, 236, 237, 238, 239, 240, 241, 242, 243, 244, 245, 135, 136, 137, 138, 589, 590, 591, 592, 593, 594, 595, 596, 597, 598, 599, 600, 601, 602, 603, 604, 605, 606, 607, 608, 609, 610, 611, 612, 613, 614, 615, 616, 617, 618, 619, 620, 621, 622, 623, 624, 625, 626, 627, 628, 629, 630, 631, 632, 633, 634, 635, 636, 637, 638, 639, 640, 641, 642, 643, 644, 645, 646, 647, 648, 649, 650, 651, 652, 653, 654, 655, 656, 657, 667, 668, 669, 670, 671, 658, 659, 660, 663, 664, 665, 666, 672, 673, 674, 675, 676, 677, 661, 662] (by decide +kernel) (by decide +kernel)) (goodIn_sub (fun _ h => List.mem_cons_of_mem _ (List.mem_append_left _ (List.mem_append_left _ (List.mem_append_right _ h)))) (by decide +kernel))) (goodIn_sub (fun _ h => List.mem_cons_of_mem _ (List.mem_append_right _ h)) (by decide +kernel))) (goodIn_sub (fun _ h => List.mem_cons_of_mem _ (List.mem_append_left _ (List.mem_append_right _ h))) (by decide +kernel))
set_option maxRecDepth 20000 in
theorem gL_words_L_refuses : GoodIn wsL_words (va_wsS RL 127 yL_refuses wsL_refuses) := goodIn_app (goodIn_of _ (by decide +kernel)) ggL_words_L_refuses
set_option maxRecDepth 20000 in
theorem ggL_words_L_act : GoodIn wsL_words wsL_act := goodIn_ca (goodIn_ca (goodIn_ca (goodIn_r _ [337, 338, 339, 340, 258, 259, 14, 341, 342, 343, 3, 344, 118, 119, 154, 155, 29, 345, 28, 346, 347, 55, 348, 349, 350, 54, 351, 352, 353, 354, 355, 356, 357, 52, 61, 62, 63, 64, 65, 66, 67, 68, 69, 70, 71, 72, 53, 358, 359, 360, 361, 283, 284, 285, 271, 272, 273, 274, 275, 276, 277, 278, 279, 280, 281, 282, 362, 363, 364, 365, 208, 125, 209, 289, 183, 184, 366, 367, 368, 369, 370, 371, 372, 373, 374, 375, 376, 377, 378, 379, 380, 381, 382, 383, 384, 260, 261, 262, 263, 264, 265, 266, 267, 268, 269, 270, 286, 287, 288, 290, 291, 292, 293, 385, 386, 387, 388, 139, 140, 33, 389, 390, 391, 392, 393, 394, 141, 142, 143, 144, 145, 159, 160, 161, 32, 162, 163, 395, 396, 397, 24, 25, 398, 399, 400, 164, 165, 166, 167, 168, 169, 77, 170, 171, 172, 173, 174, 175, 176, 177, 178, 179, 180, 181, 76, 182, 185, 186, 187, 188, 189, 190, 191, 192, 193, 194, 195, 196, 59, 197, 198, 199, 200, 201, 202, 203, 204, 205, 206, 207, 210, 211, 212, 213, 401, 402, 403, 404, 405, 406, 407, 408, 409, 219, 220, 221, 222, 223, 224, 225, 226, 227, 228, 229, 230, 231, 232, 233, 234, 410, 411, 412, 413, 414, 415, 416, 417, 418, 419, 420, 421, 422, 423, 424, 425, 426, 427, 428, 429, 430, 431, 432, 433, 34, 434, 435, 436, 156, 157, 158, 437, 438, 439, 440, 441, 442, 443, 444, 91, 445, 446, 447, 448, 449, 450, 451, 452, 453, 454, 455, 456, 457, 458, 459, 460, 461, 462, 463, 464, 465, 466, 467, 468, 469, 470, 471, 472, 473, 474, 475, 476, 477, 478, 479, 480, 481, 482, 483, 484, 485, 486, 487, 488, 489, 490, 491, 492, 493, 494, 495, 496, 497, 498, 499, 500, 501, 502, 503, 504, 505, 506, 507, 508, 509, 510, 511, 512, 513, 514, 515, 516, 517, 518, 519, 520, 521, 522, 523, 524, 525, 526, 527, 528, 529, 530, 531, 532, 533, 534, 535, 38, 536, 37, 537, 538, 92, 93, 539, 308, 309, 540, 541, 542, 543, 544, 545, 546, 547, 548, 549, 550, 551, 552, 553, 554, 555, 556, 557, 558, 559, 560, 561, 562, 563, 564, 565, 566, 567, 568, 569, 570, 571, 572, 573, 574, 575, 576, 577, 146, 147, 148, 149, 124, 126, 578, 579, 580, 581, 582, 583, 584, 585, 586, 587, 588, 150, 151, 152, 153, 39, 40, 41, 42, 94, 95, 96, 97, 98, 99, 100, 214, 215, 216, 217, 218, 43, 235, 236, 237, 238, 239, 240, 241, 242, 243, 244, 245, 129, 130, 131, 114, 115, 116, 117, 120, 121, 122, 123, 127, 128, 135, 136, 137, 138, 589, 590, 591, 592, 47, 593, 46, 594, 595, 108, 105, 596, 597, 598, 599, 600, 601, 602, 603, 604, 605, 606, 607, 608, 609, 610, 611, 612, 613, 614, 615, 616, 617, 618, 619, 620, 621, 310, 298, 299, 300, 301, 302, 303, 304, 107, 305, 306, 307, 311, 312, 313, 314, 315, 316, 317, 318, 319, 320, 321, 322, 323, 324, 325, 326, 327, 328, 329, 330, 331, 332, 333, 334, 622, 623, 624, 625, 626, 627, 628, 629, 647, 648, 649, 650, 651, 652, 653, 654, 655, 656, 657, 672, 673, 674, 658, 659, 660, 675, 676, 677, 661, 662, 663, 664, 665, 666, 667, 668, 669, 670, 671] (by decide +kernel) (by decide +kernel)) (goodIn_sub (fun _ h => List.mem_cons_of_mem _ (List.mem_append_left _ (List.mem_append_left _ (List.mem_append_right _ h)))) (by decide +kernel))) (goodIn_sub (fun _ h => List.mem_cons_of_mem _ (List.mem_append_right _ h)) (by decide +kernel))) (goodIn_sub (fun _ h => List.mem_cons_of_mem _ (List.mem_append_left _ (List.mem_append_right _ h))) (by decide +kernel))
set_option maxRecDepth 20000 in
theorem gL_words_L_act : GoodIn wsL_words (va_wsS RL 117 yL_act wsL_act) := goodIn_app (goodIn_of _ (by decide +kernel)) ggL_words_L_act
theorem dL_words_0 : decode cL_words 0 = .ok (.new 8, 3) := by decide +kernel
theorem dL_words_3 : decode cL_words 3 = .ok (.dup, 1) := by decide +kernel
theorem dL_words_4 : decode cL_words 4 = .ok (.invokespecial 126, 3) := by decide +kernel
theorem dL_words_7 : decode cL_words 7 = .ok (.astore_n 0, 1) := by decide +kernel
theorem dL_words_8 : decode cL_words 8 = .ok (.aload_n 0, 1) := by decide +kernel
theorem dL_words_9 : decode cL_words 9 = .ok (.iconst 1, 1) := by decide +kernel
theorem dL_words_10 : decode cL_words 10 = .ok (.iconst 0, 1) := by decide +kernel
theorem dL_words_11 : decode cL_words 11 = .ok (.iconst 0, 1) := by decide +kernel
theorem dL_words_12 : decode cL_words 12 = .ok (.iconst 1, 1) := by decide +kernel
theorem dL_words_13 : decode cL_words 13 = .ok (.iconst 0, 1) := by decide +kernel
theorem dL_words_14 : decode cL_words 14 = .ok (.invokestatic 222, 3) := by decide +kernel
theorem dL_words_17 : decode cL_words 17 = .ok (.ifCond .eq 247, 3) := by decide +kernel
theorem dL_words_20 : decode cL_words 20 = .ok (.aload_n 0, 1) := by decide +kernel
theorem dL_words_21 : decode cL_words 21 = .ok (.bipush (-7), 2) := by decide +kernel
theorem dL_words_23 : decode cL_words 23 = .ok (.iconst 3, 1) := by decide +kernel
theorem dL_words_24 : decode cL_words 24 = .ok (.ldc2_w 224, 3) := by decide +kernel
theorem dL_words_27 : decode cL_words 27 = .ok (.ldc2_w 170, 3) := by decide +kernel
theorem dL_words_30 : decode cL_words 30 = .ok (.invokestatic 226, 3) := by decide +kernel
theorem dL_words_33 : decode cL_words 33 = .ok (.ifCond .eq 231, 3) := by decide +kernel
theorem dL_words_36 : decode cL_words 36 = .ok (.aload_n 0, 1) := by decide +kernel
theorem dL_words_37 : decode cL_words 37 = .ok (.iconst 1, 1) := by decide +kernel
theorem dL_words_38 : decode cL_words 38 = .ok (.iconst 0, 1) := by decide +kernel
theorem dL_words_39 : decode cL_words 39 = .ok (.lconst 1, 1) := by decide +kernel
theorem dL_words_40 : decode cL_words 40 = .ok (.lconst 0, 1) := by decide +kernel
theorem dL_words_41 : decode cL_words 41 = .ok (.invokestatic 226, 3) := by decide +kernel
theorem dL_words_44 : decode cL_words 44 = .ok (.ifCond .eq 220, 3) := by decide +kernel
theorem dL_words_47 : decode cL_words 47 = .ok (.aload_n 0, 1) := by decide +kernel
theorem dL_words_48 : decode cL_words 48 = .ok (.iconst 1, 1) := by decide +kernel
theorem dL_words_49 : decode cL_words 49 = .ok (.iconst 2, 1) := by decide +kernel
theorem dL_words_50 : decode cL_words 50 = .ok (.iconst 0, 1) := by decide +kernel
theorem dL_words_51 : decode cL_words 51 = .ok (.iconst 1, 1) := by decide +kernel
theorem dL_words_52 : decode cL_words 52 = .ok (.invokevirtual 73, 3) := by decide +kernel
theorem dL_words_55 : decode cL_words 55 = .ok (.ifCond .ne 209, 3) := by decide +kernel
theorem dL_words_58 : decode cL_words 58 = .ok (.aload_n 0, 1) := by decide +kernel
theorem dL_words_59 : decode cL_words 59 = .ok (.iconst 1, 1) := by decide +kernel
theorem dL_words_60 : decode cL_words 60 = .ok (.iconst 0, 1) := by decide +kernel
theorem dL_words_61 : decode cL_words 61 = .ok (.iconst 2, 1) := by decide +kernel
theorem dL_words_62 : decode cL_words 62 = .ok (.iconst 1, 1) := by decide +kernel
theorem dL_words_63 : decode cL_words 63 = .ok (.invokevirtual 73, 3) := by decide +kernel
theorem dL_words_66 : decode cL_words 66 = .ok (.iconst 1, 1) := by decide +kernel
theorem dL_words_67 : decode cL_words 67 = .ok (.if_icmp .ne 197, 3) := by decide +kernel
theorem dL_words_70 : decode cL_words 70 = .ok (.aload_n 0, 1) := by decide +kernel
theorem dL_words_71 : decode cL_words 71 = .ok (.iconst 0, 1) := by decide +kernel
theorem dL_words_72 : decode cL_words 72 = .ok (.iconst 0, 1) := by decide +kernel
theorem dL_words_73 : decode cL_words 73 = .ok (.invokevirtual 76, 3) := by decide +kernel
theorem dL_words_76 : decode cL_words 76 = .ok (.iconst 2, 1) := by decide +kernel
theorem dL_words_77 : decode cL_words 77 = .ok (.if_icmp .ne 187, 3) := by decide +kernel
theorem dL_words_80 : decode cL_words 80 = .ok (.aload_n 0, 1) := by decide +kernel
theorem dL_words_81 : decode cL_words 81 = .ok (.iconst 1, 1) := by decide +kernel
theorem dL_words_82 : decode cL_words 82 = .ok (.iconst 2, 1) := by decide +kernel
theorem dL_words_83 : decode cL_words 83 = .ok (.iconst 0, 1) := by decide +kernel
theorem dL_words_84 : decode cL_words 84 = .ok (.iconst 1, 1) := by decide +kernel
theorem dL_words_85 : decode cL_words 85 = .ok (.iconst 2, 1) := by decide +kernel
theorem dL_words_86 : decode cL_words 86 = .ok (.invokestatic 222, 3) := by decide +kernel
theorem dL_words_89 : decode cL_words 89 = .ok (.ifCond .eq 175, 3) := by decide +kernel
theorem dL_words_92 : decode cL_words 92 = .ok (.aload_n 0, 1) := by decide +kernel
theorem dL_words_93 : decode cL_words 93 = .ok (.iconst 1, 1) := by decide +kernel
theorem dL_words_94 : decode cL_words 94 = .ok (.iconst 0, 1) := by decide +kernel
theorem dL_words_95 : decode cL_words 95 = .ok (.lconst 1, 1) := by decide +kernel
theorem dL_words_96 : decode cL_words 96 = .ok (.lconst 0, 1) := by decide +kernel
theorem dL_words_97 : decode cL_words 97 = .ok (.invokestatic 226, 3) := by decide +kernel
theorem dL_words_100 : decode cL_words 100 = .ok (.ifCond .eq 164, 3) := by decide +kernel
theorem dL_words_103 : decode cL_words 103 = .ok (.aload_n 0, 1) := by decide +kernel
theorem dL_words_104 : decode cL_words 104 = .ok (.bipush (-5), 2) := by decide +kernel
theorem dL_words_106 : decode cL_words 106 = .ok (.iconst 2, 1) := by decide +kernel
theorem dL_words_107 : decode cL_words 107 = .ok (.ldc2_w 166, 3) := by decide +kernel
theorem dL_words_110 : decode cL_words 110 = .ok (.ldc2_w 168, 3) := by decide +kernel
theorem dL_words_113 : decode cL_words 113 = .ok (.invokestatic 226, 3) := by decide +kernel
theorem dL_words_116 : decode cL_words 116 = .ok (.ifCond .eq 148, 3) := by decide +kernel
theorem dL_words_119 : decode cL_words 119 = .ok (.aload_n 0, 1) := by decide +kernel
theorem dL_words_120 : decode cL_words 120 = .ok (.iconst 1, 1) := by decide +kernel
theorem dL_words_121 : decode cL_words 121 = .ok (.iconst 0, 1) := by decide +kernel
theorem dL_words_122 : decode cL_words 122 = .ok (.invokevirtual 76, 3) := by decide +kernel
theorem dL_words_125 : decode cL_words 125 = .ok (.bipush 6, 2) := by decide +kernel
theorem dL_words_127 : decode cL_words 127 = .ok (.if_icmp .ne 137, 3) := by decide +kernel
theorem dL_words_130 : decode cL_words 130 = .ok (.aload_n 0, 1) := by decide +kernel
theorem dL_words_131 : decode cL_words 131 = .ok (.iconst 5, 1) := by decide +kernel
theorem dL_words_132 : decode cL_words 132 = .ok (.iconst 2, 1) := by decide +kernel
theorem dL_words_133 : decode cL_words 133 = .ok (.iconst 2, 1) := by decide +kernel
theorem dL_words_134 : decode cL_words 134 = .ok (.iconst 1, 1) := by decide +kernel
theorem dL_words_135 : decode cL_words 135 = .ok (.iconst 3, 1) := by decide +kernel
theorem dL_words_136 : decode cL_words 136 = .ok (.invokestatic 222, 3) := by decide +kernel
theorem dL_words_139 : decode cL_words 139 = .ok (.ifCond .eq 125, 3) := by decide +kernel
theorem dL_words_142 : decode cL_words 142 = .ok (.aload_n 0, 1) := by decide +kernel
theorem dL_words_143 : decode cL_words 143 = .ok (.iconst 0, 1) := by decide +kernel
theorem dL_words_144 : decode cL_words 144 = .ok (.iconst 1, 1) := by decide +kernel
theorem dL_words_145 : decode cL_words 145 = .ok (.ldc2_w 168, 3) := by decide +kernel
theorem dL_words_148 : decode cL_words 148 = .ok (.lconst 1, 1) := by decide +kernel
theorem dL_words_149 : decode cL_words 149 = .ok (.invokestatic 226, 3) := by decide +kernel
theorem dL_words_152 : decode cL_words 152 = .ok (.ifCond .eq 112, 3) := by decide +kernel
theorem dL_words_155 : decode cL_words 155 = .ok (.aload_n 0, 1) := by decide +kernel
theorem dL_words_156 : decode cL_words 156 = .ok (.iconst 1, 1) := by decide +kernel
theorem dL_words_157 : decode cL_words 157 = .ok (.iconst 0, 1) := by decide +kernel
theorem dL_words_158 : decode cL_words 158 = .ok (.ldc2_w 204, 3) := by decide +kernel
theorem dL_words_161 : decode cL_words 161 = .ok (.ldc2_w 168, 3) := by decide +kernel
theorem dL_words_164 : decode cL_words 164 = .ok (.invokestatic 226, 3) := by decide +kernel
theorem dL_words_167 : decode cL_words 167 = .ok (.ifCond .eq 97, 3) := by decide +kernel
theorem dL_words_170 : decode cL_words 170 = .ok (.aload_n 0, 1) := by decide +kernel
theorem dL_words_171 : decode cL_words 171 = .ok (.iconst (-1), 1) := by decide +kernel
theorem dL_words_172 : decode cL_words 172 = .ok (.iconst 2, 1) := by decide +kernel
theorem dL_words_173 : decode cL_words 173 = .ok (.lconst 1, 1) := by decide +kernel
theorem dL_words_174 : decode cL_words 174 = .ok (.lconst 0, 1) := by decide +kernel
theorem dL_words_175 : decode cL_words 175 = .ok (.invokestatic 226, 3) := by decide +kernel
theorem dL_words_178 : decode cL_words 178 = .ok (.ifCond .eq 86, 3) := by decide +kernel
theorem dL_words_181 : decode cL_words 181 = .ok (.aload_n 0, 1) := by decide +kernel
theorem dL_words_182 : decode cL_words 182 = .ok (.iconst (-1), 1) := by decide +kernel
theorem dL_words_183 : decode cL_words 183 = .ok (.iconst 3, 1) := by decide +kernel
theorem dL_words_184 : decode cL_words 184 = .ok (.lconst 1, 1) := by decide +kernel
theorem dL_words_185 : decode cL_words 185 = .ok (.lconst 1, 1) := by decide +kernel
theorem dL_words_186 : decode cL_words 186 = .ok (.invokestatic 226, 3) := by decide +kernel
theorem dL_words_189 : decode cL_words 189 = .ok (.ifCond .eq 75, 3) := by decide +kernel
theorem dL_words_192 : decode cL_words 192 = .ok (.aload_n 0, 1) := by decide +kernel
theorem dL_words_193 : decode cL_words 193 = .ok (.iconst (-1), 1) := by decide +kernel
theorem dL_words_194 : decode cL_words 194 = .ok (.iconst 1, 1) := by decide +kernel
theorem dL_words_195 : decode cL_words 195 = .ok (.ldc2_w 170, 3) := by decide +kernel
theorem dL_words_198 : decode cL_words 198 = .ok (.lconst 1, 1) := by decide +kernel
theorem dL_words_199 : decode cL_words 199 = .ok (.invokestatic 226, 3) := by decide +kernel
theorem dL_words_202 : decode cL_words 202 = .ok (.ifCond .eq 62, 3) := by decide +kernel
theorem dL_words_205 : decode cL_words 205 = .ok (.aload_n 0, 1) := by decide +kernel
theorem dL_words_206 : decode cL_words 206 = .ok (.ldc 164, 2) := by decide +kernel
theorem dL_words_208 : decode cL_words 208 = .ok (.ldc 200, 2) := by decide +kernel
theorem dL_words_210 : decode cL_words 210 = .ok (.ldc2_w 229, 3) := by decide +kernel
theorem dL_words_213 : decode cL_words 213 = .ok (.ldc2_w 231, 3) := by decide +kernel
theorem dL_words_216 : decode cL_words 216 = .ok (.invokestatic 226, 3) := by decide +kernel
theorem dL_words_219 : decode cL_words 219 = .ok (.ifCond .eq 45, 3) := by decide +kernel
theorem dL_words_222 : decode cL_words 222 = .ok (.aload_n 0, 1) := by decide +kernel
theorem dL_words_223 : decode cL_words 223 = .ok (.iconst 1, 1) := by decide +kernel
theorem dL_words_224 : decode cL_words 224 = .ok (.iconst 1, 1) := by decide +kernel
theorem dL_words_225 : decode cL_words 225 = .ok (.invokevirtual 76, 3) := by decide +kernel
theorem dL_words_228 : decode cL_words 228 = .ok (.iconst 2, 1) := by decide +kernel
theorem dL_words_229 : decode cL_words 229 = .ok (.if_icmp .ne 35, 3) := by decide +kernel
theorem dL_words_232 : decode cL_words 232 = .ok (.aload_n 0, 1) := by decide +kernel
theorem dL_words_233 : decode cL_words 233 = .ok (.iconst 1, 1) := by decide +kernel
theorem dL_words_234 : decode cL_words 234 = .ok (.iconst 2, 1) := by decide +kernel
theorem dL_words_235 : decode cL_words 235 = .ok (.iconst 0, 1) := by decide +kernel
theorem dL_words_236 : decode cL_words 236 = .ok (.iconst 1, 1) := by decide +kernel
theorem dL_words_237 : decode cL_words 237 = .ok (.iconst 2, 1) := by decide +kernel
theorem dL_words_238 : decode cL_words 238 = .ok (.invokestatic 222, 3) := by decide +kernel
theorem dL_words_241 : decode cL_words 241 = .ok (.ifCond .eq 23, 3) := by decide +kernel
theorem dL_words_244 : decode cL_words 244 = .ok (.aload_n 0, 1) := by decide +kernel
theorem dL_words_245 : decode cL_words 245 = .ok (.invokevirtual 233, 3) := by decide +kernel
theorem dL_words_248 : decode cL_words 248 = .ok (.iconst 2, 1) := by decide +kernel
theorem dL_words_249 : decode cL_words 249 = .ok (.if_icmp .ne 15, 3) := by decide +kernel
theorem dL_words_252 : decode cL_words 252 = .ok (.aload_n 0, 1) := by decide +kernel
theorem dL_words_253 : decode cL_words 253 = .ok (.iconst 1, 1) := by decide +kernel
theorem dL_words_254 : decode cL_words 254 = .ok (.iconst 0, 1) := by decide +kernel
theorem dL_words_255 : decode cL_words 255 = .ok (.iconst 0, 1) := by decide +kernel
theorem dL_words_256 : decode cL_words 256 = .ok (.iconst 1, 1) := by decide +kernel
theorem dL_words_257 : decode cL_words 257 = .ok (.iconst 0, 1) := by decide +kernel
theorem dL_words_258 : decode cL_words 258 = .ok (.invokestatic 222, 3) := by decide +kernel
theorem dL_words_261 : decode cL_words 261 = .ok (.ifCond .ne 5, 3) := by decide +kernel
theorem dL_words_264 : decode cL_words 264 = .ok (.iconst 0, 1) := by decide +kernel
theorem dL_words_265 : decode cL_words 265 = .ok (.ireturn, 1) := by decide +kernel
theorem dL_words_266 : decode cL_words 266 = .ok (.aload_n 0, 1) := by decide +kernel
theorem dL_words_267 : decode cL_words 267 = .ok (.iconst 0, 1) := by decide +kernel
theorem dL_words_268 : decode cL_words 268 = .ok (.iconst (-1), 1) := by decide +kernel
theorem dL_words_269 : decode cL_words 269 = .ok (.iconst 1, 1) := by decide +kernel
theorem dL_words_270 : decode cL_words 270 = .ok (.iconst 0, 1) := by decide +kernel
theorem dL_words_271 : decode cL_words 271 = .ok (.invokevirtual 73, 3) := by decide +kernel
theorem dL_words_274 : decode cL_words 274 = .ok (.iconst 2, 1) := by decide +kernel
theorem dL_words_275 : decode cL_words 275 = .ok (.if_icmp .ne 213, 3) := by decide +kernel
theorem dL_words_278 : decode cL_words 278 = .ok (.aload_n 0, 1) := by decide +kernel
theorem dL_words_279 : decode cL_words 279 = .ok (.iconst 2, 1) := by decide +kernel
theorem dL_words_280 : decode cL_words 280 = .ok (.iconst 0, 1) := by decide +kernel
theorem dL_words_281 : decode cL_words 281 = .ok (.invokevirtual 76, 3) := by decide +kernel
theorem dL_words_284 : decode cL_words 284 = .ok (.ifCond .ne 204, 3) := by decide +kernel
theorem dL_words_287 : decode cL_words 287 = .ok (.aload_n 0, 1) := by decide +kernel
theorem dL_words_288 : decode cL_words 288 = .ok (.iconst 0, 1) := by decide +kernel
theorem dL_words_289 : decode cL_words 289 = .ok (.iconst (-1), 1) := by decide +kernel
theorem dL_words_290 : decode cL_words 290 = .ok (.iconst 1, 1) := by decide +kernel
theorem dL_words_291 : decode cL_words 291 = .ok (.iconst 0, 1) := by decide +kernel
theorem dL_words_292 : decode cL_words 292 = .ok (.iconst 1, 1) := by decide +kernel
theorem dL_words_293 : decode cL_words 293 = .ok (.invokestatic 222, 3) := by decide +kernel
theorem dL_words_296 : decode cL_words 296 = .ok (.ifCond .eq 192, 3) := by decide +kernel
theorem dL_words_299 : decode cL_words 299 = .ok (.aload_n 0, 1) := by decide +kernel
theorem dL_words_300 : decode cL_words 300 = .ok (.iconst 1, 1) := by decide +kernel
theorem dL_words_301 : decode cL_words 301 = .ok (.iconst 2, 1) := by decide +kernel
theorem dL_words_302 : decode cL_words 302 = .ok (.ldc2_w 190, 3) := by decide +kernel
theorem dL_words_305 : decode cL_words 305 = .ok (.lconst 1, 1) := by decide +kernel
theorem dL_words_306 : decode cL_words 306 = .ok (.invokestatic 226, 3) := by decide +kernel
theorem dL_words_309 : decode cL_words 309 = .ok (.ifCond .eq 179, 3) := by decide +kernel
theorem dL_words_312 : decode cL_words 312 = .ok (.aload_n 0, 1) := by decide +kernel
theorem dL_words_313 : decode cL_words 313 = .ok (.iconst 0, 1) := by decide +kernel
theorem dL_words_314 : decode cL_words 314 = .ok (.iconst 1, 1) := by decide +kernel
theorem dL_words_315 : decode cL_words 315 = .ok (.lconst 1, 1) := by decide +kernel
theorem dL_words_316 : decode cL_words 316 = .ok (.lconst 0, 1) := by decide +kernel
theorem dL_words_317 : decode cL_words 317 = .ok (.invokestatic 226, 3) := by decide +kernel
theorem dL_words_320 : decode cL_words 320 = .ok (.ifCond .eq 168, 3) := by decide +kernel
theorem dL_words_323 : decode cL_words 323 = .ok (.aload_n 0, 1) := by decide +kernel
theorem dL_words_324 : decode cL_words 324 = .ok (.bipush (-3), 2) := by decide +kernel
theorem dL_words_326 : decode cL_words 326 = .ok (.iconst 2, 1) := by decide +kernel
theorem dL_words_327 : decode cL_words 327 = .ok (.ldc2_w 168, 3) := by decide +kernel
theorem dL_words_330 : decode cL_words 330 = .ok (.ldc2_w 170, 3) := by decide +kernel
theorem dL_words_333 : decode cL_words 333 = .ok (.invokestatic 226, 3) := by decide +kernel
theorem dL_words_336 : decode cL_words 336 = .ok (.ifCond .eq 152, 3) := by decide +kernel
theorem dL_words_339 : decode cL_words 339 = .ok (.aload_n 0, 1) := by decide +kernel
theorem dL_words_340 : decode cL_words 340 = .ok (.iconst 2, 1) := by decide +kernel
theorem dL_words_341 : decode cL_words 341 = .ok (.iconst 0, 1) := by decide +kernel
theorem dL_words_342 : decode cL_words 342 = .ok (.invokevirtual 76, 3) := by decide +kernel
theorem dL_words_345 : decode cL_words 345 = .ok (.bipush (-2), 2) := by decide +kernel
theorem dL_words_347 : decode cL_words 347 = .ok (.if_icmp .ne 141, 3) := by decide +kernel
theorem dL_words_350 : decode cL_words 350 = .ok (.aload_n 0, 1) := by decide +kernel
theorem dL_words_351 : decode cL_words 351 = .ok (.iconst (-1), 1) := by decide +kernel
theorem dL_words_352 : decode cL_words 352 = .ok (.iconst 0, 1) := by decide +kernel
theorem dL_words_353 : decode cL_words 353 = .ok (.iconst 0, 1) := by decide +kernel
theorem dL_words_354 : decode cL_words 354 = .ok (.iconst (-1), 1) := by decide +kernel
theorem dL_words_355 : decode cL_words 355 = .ok (.iconst 0, 1) := by decide +kernel
theorem dL_words_356 : decode cL_words 356 = .ok (.invokestatic 222, 3) := by decide +kernel
theorem dL_words_359 : decode cL_words 359 = .ok (.ifCond .eq 129, 3) := by decide +kernel
theorem dL_words_362 : decode cL_words 362 = .ok (.aload_n 0, 1) := by decide +kernel
theorem dL_words_363 : decode cL_words 363 = .ok (.iconst 1, 1) := by decide +kernel
theorem dL_words_364 : decode cL_words 364 = .ok (.iconst 2, 1) := by decide +kernel
theorem dL_words_365 : decode cL_words 365 = .ok (.lconst 1, 1) := by decide +kernel
theorem dL_words_366 : decode cL_words 366 = .ok (.ldc2_w 168, 3) := by decide +kernel
theorem dL_words_369 : decode cL_words 369 = .ok (.invokestatic 226, 3) := by decide +kernel
theorem dL_words_372 : decode cL_words 372 = .ok (.ifCond .eq 116, 3) := by decide +kernel
theorem dL_words_375 : decode cL_words 375 = .ok (.aload_n 0, 1) := by decide +kernel
theorem dL_words_376 : decode cL_words 376 = .ok (.iconst 1, 1) := by decide +kernel
theorem dL_words_377 : decode cL_words 377 = .ok (.iconst 0, 1) := by decide +kernel
theorem dL_words_378 : decode cL_words 378 = .ok (.lconst 1, 1) := by decide +kernel
theorem dL_words_379 : decode cL_words 379 = .ok (.lconst 0, 1) := by decide +kernel
theorem dL_words_380 : decode cL_words 380 = .ok (.invokestatic 226, 3) := by decide +kernel
theorem dL_words_383 : decode cL_words 383 = .ok (.ifCond .eq 105, 3) := by decide +kernel
theorem dL_words_386 : decode cL_words 386 = .ok (.aload_n 0, 1) := by decide +kernel
theorem dL_words_387 : decode cL_words 387 = .ok (.iconst 0, 1) := by decide +kernel
theorem dL_words_388 : decode cL_words 388 = .ok (.iconst 1, 1) := by decide +kernel
theorem dL_words_389 : decode cL_words 389 = .ok (.invokevirtual 76, 3) := by decide +kernel
theorem dL_words_392 : decode cL_words 392 = .ok (.bipush (-2), 2) := by decide +kernel
theorem dL_words_394 : decode cL_words 394 = .ok (.if_icmp .ne 94, 3) := by decide +kernel
theorem dL_words_397 : decode cL_words 397 = .ok (.aload_n 0, 1) := by decide +kernel
theorem dL_words_398 : decode cL_words 398 = .ok (.iconst (-1), 1) := by decide +kernel
theorem dL_words_399 : decode cL_words 399 = .ok (.iconst 2, 1) := by decide +kernel
theorem dL_words_400 : decode cL_words 400 = .ok (.iconst 0, 1) := by decide +kernel
theorem dL_words_401 : decode cL_words 401 = .ok (.iconst (-1), 1) := by decide +kernel
theorem dL_words_402 : decode cL_words 402 = .ok (.iconst 2, 1) := by decide +kernel
theorem dL_words_403 : decode cL_words 403 = .ok (.invokestatic 222, 3) := by decide +kernel
theorem dL_words_406 : decode cL_words 406 = .ok (.ifCond .eq 82, 3) := by decide +kernel
theorem dL_words_409 : decode cL_words 409 = .ok (.aload_n 0, 1) := by decide +kernel
theorem dL_words_410 : decode cL_words 410 = .ok (.iconst 1, 1) := by decide +kernel
theorem dL_words_411 : decode cL_words 411 = .ok (.iconst 1, 1) := by decide +kernel
theorem dL_words_412 : decode cL_words 412 = .ok (.ldc2_w 166, 3) := by decide +kernel
theorem dL_words_415 : decode cL_words 415 = .ok (.lconst 1, 1) := by decide +kernel
theorem dL_words_416 : decode cL_words 416 = .ok (.invokestatic 226, 3) := by decide +kernel
theorem dL_words_419 : decode cL_words 419 = .ok (.ifCond .eq 69, 3) := by decide +kernel
theorem dL_words_422 : decode cL_words 422 = .ok (.aload_n 0, 1) := by decide +kernel
theorem dL_words_423 : decode cL_words 423 = .ok (.invokevirtual 233, 3) := by decide +kernel
theorem dL_words_426 : decode cL_words 426 = .ok (.bipush (-2), 2) := by decide +kernel
theorem dL_words_428 : decode cL_words 428 = .ok (.if_icmp .ne 60, 3) := by decide +kernel
theorem dL_words_431 : decode cL_words 431 = .ok (.aload_n 0, 1) := by decide +kernel
theorem dL_words_432 : decode cL_words 432 = .ok (.iconst 2, 1) := by decide +kernel
theorem dL_words_433 : decode cL_words 433 = .ok (.iconst 1, 1) := by decide +kernel
theorem dL_words_434 : decode cL_words 434 = .ok (.invokevirtual 76, 3) := by decide +kernel
theorem dL_words_437 : decode cL_words 437 = .ok (.ifCond .ne 51, 3) := by decide +kernel
theorem dL_words_440 : decode cL_words 440 = .ok (.aload_n 0, 1) := by decide +kernel
theorem dL_words_441 : decode cL_words 441 = .ok (.iconst 0, 1) := by decide +kernel
theorem dL_words_442 : decode cL_words 442 = .ok (.iconst 1, 1) := by decide +kernel
theorem dL_words_443 : decode cL_words 443 = .ok (.iconst (-1), 1) := by decide +kernel
theorem dL_words_444 : decode cL_words 444 = .ok (.iconst 0, 1) := by decide +kernel
theorem dL_words_445 : decode cL_words 445 = .ok (.iconst 1, 1) := by decide +kernel
theorem dL_words_446 : decode cL_words 446 = .ok (.invokestatic 222, 3) := by decide +kernel
theorem dL_words_449 : decode cL_words 449 = .ok (.ifCond .eq 39, 3) := by decide +kernel
theorem dL_words_452 : decode cL_words 452 = .ok (.aload_n 0, 1) := by decide +kernel
theorem dL_words_453 : decode cL_words 453 = .ok (.iconst 0, 1) := by decide +kernel
theorem dL_words_454 : decode cL_words 454 = .ok (.iconst 0, 1) := by decide +kernel
theorem dL_words_455 : decode cL_words 455 = .ok (.invokevirtual 76, 3) := by decide +kernel
theorem dL_words_458 : decode cL_words 458 = .ok (.bipush (-2), 2) := by decide +kernel
theorem dL_words_460 : decode cL_words 460 = .ok (.if_icmp .ne 28, 3) := by decide +kernel
theorem dL_words_463 : decode cL_words 463 = .ok (.aload_n 0, 1) := by decide +kernel
theorem dL_words_464 : decode cL_words 464 = .ok (.iconst 0, 1) := by decide +kernel
theorem dL_words_465 : decode cL_words 465 = .ok (.iconst 1, 1) := by decide +kernel
theorem dL_words_466 : decode cL_words 466 = .ok (.iconst (-1), 1) := by decide +kernel
theorem dL_words_467 : decode cL_words 467 = .ok (.bipush (-2), 2) := by decide +kernel
theorem dL_words_469 : decode cL_words 469 = .ok (.iconst 2, 1) := by decide +kernel
theorem dL_words_470 : decode cL_words 470 = .ok (.invokestatic 222, 3) := by decide +kernel
theorem dL_words_473 : decode cL_words 473 = .ok (.ifCond .eq 15, 3) := by decide +kernel
theorem dL_words_476 : decode cL_words 476 = .ok (.aload_n 0, 1) := by decide +kernel
theorem dL_words_477 : decode cL_words 477 = .ok (.iconst 0, 1) := by decide +kernel
theorem dL_words_478 : decode cL_words 478 = .ok (.iconst 0, 1) := by decide +kernel
theorem dL_words_479 : decode cL_words 479 = .ok (.iconst 3, 1) := by decide +kernel
theorem dL_words_480 : decode cL_words 480 = .ok (.iconst 2, 1) := by decide +kernel
theorem dL_words_481 : decode cL_words 481 = .ok (.iconst 0, 1) := by decide +kernel
theorem dL_words_482 : decode cL_words 482 = .ok (.invokestatic 127, 3) := by decide +kernel
theorem dL_words_485 : decode cL_words 485 = .ok (.ifCond .ne 5, 3) := by decide +kernel
theorem dL_words_488 : decode cL_words 488 = .ok (.iconst 0, 1) := by decide +kernel
theorem dL_words_489 : decode cL_words 489 = .ok (.ireturn, 1) := by decide +kernel
theorem dL_words_490 : decode cL_words 490 = .ok (.aload_n 0, 1) := by decide +kernel
theorem dL_words_491 : decode cL_words 491 = .ok (.invokevirtual 233, 3) := by decide +kernel
theorem dL_words_494 : decode cL_words 494 = .ok (.bipush (-2), 2) := by decide +kernel
theorem dL_words_496 : decode cL_words 496 = .ok (.if_icmp .ne 168, 3) := by decide +kernel
theorem dL_words_499 : decode cL_words 499 = .ok (.aload_n 0, 1) := by decide +kernel
theorem dL_words_500 : decode cL_words 500 = .ok (.sipush 1000, 3) := by decide +kernel
theorem dL_words_503 : decode cL_words 503 = .ok (.iconst (-1), 1) := by decide +kernel
theorem dL_words_504 : decode cL_words 504 = .ok (.iconst 1, 1) := by decide +kernel
theorem dL_words_505 : decode cL_words 505 = .ok (.iconst 0, 1) := by decide +kernel
theorem dL_words_506 : decode cL_words 506 = .ok (.invokevirtual 73, 3) := by decide +kernel
theorem dL_words_509 : decode cL_words 509 = .ok (.iconst 3, 1) := by decide +kernel
theorem dL_words_510 : decode cL_words 510 = .ok (.if_icmp .ne 154, 3) := by decide +kernel
theorem dL_words_513 : decode cL_words 513 = .ok (.aload_n 0, 1) := by decide +kernel
theorem dL_words_514 : decode cL_words 514 = .ok (.bipush 19, 2) := by decide +kernel
theorem dL_words_516 : decode cL_words 516 = .ok (.iconst 1, 1) := by decide +kernel
theorem dL_words_517 : decode cL_words 517 = .ok (.iconst 0, 1) := by decide +kernel
theorem dL_words_518 : decode cL_words 518 = .ok (.iconst 0, 1) := by decide +kernel
theorem dL_words_519 : decode cL_words 519 = .ok (.iconst 1, 1) := by decide +kernel
theorem dL_words_520 : decode cL_words 520 = .ok (.invokestatic 117, 3) := by decide +kernel
theorem dL_words_523 : decode cL_words 523 = .ok (.ldc2_w 106, 3) := by decide +kernel
theorem dL_words_526 : decode cL_words 526 = .ok (.lcmp, 1) := by decide +kernel
theorem dL_words_527 : decode cL_words 527 = .ok (.ifCond .ne 137, 3) := by decide +kernel
theorem dL_words_530 : decode cL_words 530 = .ok (.aload_n 0, 1) := by decide +kernel
theorem dL_words_531 : decode cL_words 531 = .ok (.iconst 3, 1) := by decide +kernel
theorem dL_words_532 : decode cL_words 532 = .ok (.iconst 0, 1) := by decide +kernel
theorem dL_words_533 : decode cL_words 533 = .ok (.invokevirtual 76, 3) := by decide +kernel
theorem dL_words_536 : decode cL_words 536 = .ok (.sipush 1000, 3) := by decide +kernel
theorem dL_words_539 : decode cL_words 539 = .ok (.if_icmp .ne 125, 3) := by decide +kernel
theorem dL_words_542 : decode cL_words 542 = .ok (.aload_n 0, 1) := by decide +kernel
theorem dL_words_543 : decode cL_words 543 = .ok (.iconst 3, 1) := by decide +kernel
theorem dL_words_544 : decode cL_words 544 = .ok (.iconst 0, 1) := by decide +kernel
theorem dL_words_545 : decode cL_words 545 = .ok (.invokevirtual 76, 3) := by decide +kernel
theorem dL_words_548 : decode cL_words 548 = .ok (.ldc 236, 2) := by decide +kernel
theorem dL_words_550 : decode cL_words 550 = .ok (.if_icmp .ne 114, 3) := by decide +kernel
theorem dL_words_553 : decode cL_words 553 = .ok (.aload_n 0, 1) := by decide +kernel
theorem dL_words_554 : decode cL_words 554 = .ok (.iconst 3, 1) := by decide +kernel
theorem dL_words_555 : decode cL_words 555 = .ok (.iconst 0, 1) := by decide +kernel
theorem dL_words_556 : decode cL_words 556 = .ok (.invokevirtual 76, 3) := by decide +kernel
theorem dL_words_559 : decode cL_words 559 = .ok (.ldc 237, 2) := by decide +kernel
theorem dL_words_561 : decode cL_words 561 = .ok (.if_icmp .ne 103, 3) := by decide +kernel
theorem dL_words_564 : decode cL_words 564 = .ok (.aload_n 0, 1) := by decide +kernel
theorem dL_words_565 : decode cL_words 565 = .ok (.ldc 238, 2) := by decide +kernel
theorem dL_words_567 : decode cL_words 567 = .ok (.ldc 239, 2) := by decide +kernel
theorem dL_words_569 : decode cL_words 569 = .ok (.ldc 240, 2) := by decide +kernel
theorem dL_words_571 : decode cL_words 571 = .ok (.sipush (-1000), 3) := by decide +kernel
theorem dL_words_574 : decode cL_words 574 = .ok (.iconst 3, 1) := by decide +kernel
theorem dL_words_575 : decode cL_words 575 = .ok (.invokestatic 222, 3) := by decide +kernel
theorem dL_words_578 : decode cL_words 578 = .ok (.ifCond .eq 86, 3) := by decide +kernel
theorem dL_words_581 : decode cL_words 581 = .ok (.aload_n 0, 1) := by decide +kernel
theorem dL_words_582 : decode cL_words 582 = .ok (.bipush 20, 2) := by decide +kernel
theorem dL_words_584 : decode cL_words 584 = .ok (.iconst 3, 1) := by decide +kernel
theorem dL_words_585 : decode cL_words 585 = .ok (.iconst 0, 1) := by decide +kernel
theorem dL_words_586 : decode cL_words 586 = .ok (.iconst 0, 1) := by decide +kernel
theorem dL_words_587 : decode cL_words 587 = .ok (.iconst 0, 1) := by decide +kernel
theorem dL_words_588 : decode cL_words 588 = .ok (.invokestatic 117, 3) := by decide +kernel
theorem dL_words_591 : decode cL_words 591 = .ok (.ldc2_w 106, 3) := by decide +kernel
theorem dL_words_594 : decode cL_words 594 = .ok (.lcmp, 1) := by decide +kernel
theorem dL_words_595 : decode cL_words 595 = .ok (.ifCond .ne 69, 3) := by decide +kernel
theorem dL_words_598 : decode cL_words 598 = .ok (.aload_n 0, 1) := by decide +kernel
theorem dL_words_599 : decode cL_words 599 = .ok (.ldc 238, 2) := by decide +kernel
theorem dL_words_601 : decode cL_words 601 = .ok (.ldc 239, 2) := by decide +kernel
theorem dL_words_603 : decode cL_words 603 = .ok (.ldc 240, 2) := by decide +kernel
theorem dL_words_605 : decode cL_words 605 = .ok (.sipush (-1000), 3) := by decide +kernel
theorem dL_words_608 : decode cL_words 608 = .ok (.iconst 3, 1) := by decide +kernel
theorem dL_words_609 : decode cL_words 609 = .ok (.invokestatic 222, 3) := by decide +kernel
theorem dL_words_612 : decode cL_words 612 = .ok (.ifCond .eq 52, 3) := by decide +kernel
theorem dL_words_615 : decode cL_words 615 = .ok (.aload_n 0, 1) := by decide +kernel
theorem dL_words_616 : decode cL_words 616 = .ok (.iconst 3, 1) := by decide +kernel
theorem dL_words_617 : decode cL_words 617 = .ok (.iconst 1, 1) := by decide +kernel
theorem dL_words_618 : decode cL_words 618 = .ok (.invokevirtual 76, 3) := by decide +kernel
theorem dL_words_621 : decode cL_words 621 = .ok (.ldc 236, 2) := by decide +kernel
theorem dL_words_623 : decode cL_words 623 = .ok (.if_icmp .ne 41, 3) := by decide +kernel
theorem dL_words_626 : decode cL_words 626 = .ok (.aload_n 0, 1) := by decide +kernel
theorem dL_words_627 : decode cL_words 627 = .ok (.iconst 3, 1) := by decide +kernel
theorem dL_words_628 : decode cL_words 628 = .ok (.iconst 1, 1) := by decide +kernel
theorem dL_words_629 : decode cL_words 629 = .ok (.invokevirtual 76, 3) := by decide +kernel
theorem dL_words_632 : decode cL_words 632 = .ok (.sipush 1000, 3) := by decide +kernel
theorem dL_words_635 : decode cL_words 635 = .ok (.if_icmp .ne 29, 3) := by decide +kernel
theorem dL_words_638 : decode cL_words 638 = .ok (.aload_n 0, 1) := by decide +kernel
theorem dL_words_639 : decode cL_words 639 = .ok (.iconst 3, 1) := by decide +kernel
theorem dL_words_640 : decode cL_words 640 = .ok (.iconst 1, 1) := by decide +kernel
theorem dL_words_641 : decode cL_words 641 = .ok (.invokevirtual 76, 3) := by decide +kernel
theorem dL_words_644 : decode cL_words 644 = .ok (.iconst 2, 1) := by decide +kernel
theorem dL_words_645 : decode cL_words 645 = .ok (.if_icmp .ne 19, 3) := by decide +kernel
theorem dL_words_648 : decode cL_words 648 = .ok (.aload_n 0, 1) := by decide +kernel
theorem dL_words_649 : decode cL_words 649 = .ok (.iconst 1, 1) := by decide +kernel
theorem dL_words_650 : decode cL_words 650 = .ok (.iconst 0, 1) := by decide +kernel
theorem dL_words_651 : decode cL_words 651 = .ok (.iconst 0, 1) := by decide +kernel
theorem dL_words_652 : decode cL_words 652 = .ok (.iconst 1, 1) := by decide +kernel
theorem dL_words_653 : decode cL_words 653 = .ok (.iconst 0, 1) := by decide +kernel
theorem dL_words_654 : decode cL_words 654 = .ok (.invokestatic 222, 3) := by decide +kernel
theorem dL_words_657 : decode cL_words 657 = .ok (.ifCond .eq 7, 3) := by decide +kernel
theorem dL_words_660 : decode cL_words 660 = .ok (.iconst 1, 1) := by decide +kernel
theorem dL_words_661 : decode cL_words 661 = .ok (.goto 4, 3) := by decide +kernel
theorem dL_words_664 : decode cL_words 664 = .ok (.iconst 0, 1) := by decide +kernel
theorem dL_words_665 : decode cL_words 665 = .ok (.ireturn, 1) := by decide +kernel
set_option maxRecDepth 20000 in
theorem ggL_rectangle_X8_side : GoodIn wsL_rectangle wsX8_side := goodIn_ca (goodIn_ca (goodIn_ca (goodIn_r _ [5, 6, 7, 8, 9, 10, 11, 12, 13, 14, 15, 16, 17, 18, 19, 20, 21, 22, 23, 24, 25, 26, 27, 28, 29, 30, 31, 32, 33, 34, 35, 36, 37, 38, 39, 40, 41, 42, 43, 44, 45, 46, 47, 48, 49, 50, 51, 52, 53, 54, 55, 56, 57, 58, 59, 60, 61, 62, 63, 64, 65, 66, 67, 68, 69, 70, 71, 72, 73, 74, 75, 76, 77, 78, 79, 80, 81, 82, 83, 84, 85, 86, 87, 88, 89, 90, 91, 92, 93, 94, 95, 96, 97, 98, 99, 100, 101, 102, 103, 104] (by decide +kernel) (by decide +kernel)) (goodIn_sub (fun _ h => List.mem_cons_of_mem _ (List.mem_append_left _ (List.mem_append_left _ (List.mem_append_right _ h)))) (by decide +kernel))) (goodIn_sub (fun _ h => List.mem_cons_of_mem _ (List.mem_append_left _ (List.mem_append_right _ h))) (by decide +kernel))) (goodIn_sub (fun _ h => List.mem_cons_of_mem _ (List.mem_append_right _ h)) (by decide +kernel))
set_option maxRecDepth 20000 in
theorem gL_rectangle_X8_side : GoodIn wsL_rectangle (wsV RL 93 RX8 yX8_side wsX8_side) := goodIn_app (goodIn_of _ (by decide +kernel)) ggL_rectangle_X8_side
theorem dL_rectangle_0 : decode cL_rectangle 0 = .ok (.aload_n 0, 1) := by decide +kernel
theorem dL_rectangle_1 : decode cL_rectangle 1 = .ok (.iload_n 1, 1) := by decide +kernel
theorem dL_rectangle_2 : decode cL_rectangle 2 = .ok (.iload_n 2, 1) := by decide +kernel
theorem dL_rectangle_3 : decode cL_rectangle 3 = .ok (.iconst (-1), 1) := by decide +kernel
theorem dL_rectangle_4 : decode cL_rectangle 4 = .ok (.invokevirtual 93, 3) := by decide +kernel
theorem dL_rectangle_7 : decode cL_rectangle 7 = .ok (.iload_n 3, 1) := by decide +kernel
theorem dL_rectangle_8 : decode cL_rectangle 8 = .ok (.if_icmp .ne 43, 3) := by decide +kernel
theorem dL_rectangle_11 : decode cL_rectangle 11 = .ok (.aload_n 0, 1) := by decide +kernel
theorem dL_rectangle_12 : decode cL_rectangle 12 = .ok (.iload_n 1, 1) := by decide +kernel
theorem dL_rectangle_13 : decode cL_rectangle 13 = .ok (.iload_n 2, 1) := by decide +kernel
theorem dL_rectangle_14 : decode cL_rectangle 14 = .ok (.iconst 0, 1) := by decide +kernel
theorem dL_rectangle_15 : decode cL_rectangle 15 = .ok (.invokevirtual 93, 3) := by decide +kernel
theorem dL_rectangle_18 : decode cL_rectangle 18 = .ok (.iload 4, 2) := by decide +kernel
theorem dL_rectangle_20 : decode cL_rectangle 20 = .ok (.if_icmp .ne 31, 3) := by decide +kernel
theorem dL_rectangle_23 : decode cL_rectangle 23 = .ok (.aload_n 0, 1) := by decide +kernel
theorem dL_rectangle_24 : decode cL_rectangle 24 = .ok (.iload_n 1, 1) := by decide +kernel
theorem dL_rectangle_25 : decode cL_rectangle 25 = .ok (.iload_n 2, 1) := by decide +kernel
theorem dL_rectangle_26 : decode cL_rectangle 26 = .ok (.iconst 1, 1) := by decide +kernel
theorem dL_rectangle_27 : decode cL_rectangle 27 = .ok (.invokevirtual 93, 3) := by decide +kernel
theorem dL_rectangle_30 : decode cL_rectangle 30 = .ok (.iload 5, 2) := by decide +kernel
theorem dL_rectangle_32 : decode cL_rectangle 32 = .ok (.if_icmp .ne 19, 3) := by decide +kernel
theorem dL_rectangle_35 : decode cL_rectangle 35 = .ok (.aload_n 0, 1) := by decide +kernel
theorem dL_rectangle_36 : decode cL_rectangle 36 = .ok (.iload_n 1, 1) := by decide +kernel
theorem dL_rectangle_37 : decode cL_rectangle 37 = .ok (.iload_n 2, 1) := by decide +kernel
theorem dL_rectangle_38 : decode cL_rectangle 38 = .ok (.iconst 2, 1) := by decide +kernel
theorem dL_rectangle_39 : decode cL_rectangle 39 = .ok (.invokevirtual 93, 3) := by decide +kernel
theorem dL_rectangle_42 : decode cL_rectangle 42 = .ok (.iload 6, 2) := by decide +kernel
theorem dL_rectangle_44 : decode cL_rectangle 44 = .ok (.if_icmp .ne 7, 3) := by decide +kernel
theorem dL_rectangle_47 : decode cL_rectangle 47 = .ok (.iconst 1, 1) := by decide +kernel
theorem dL_rectangle_48 : decode cL_rectangle 48 = .ok (.goto 4, 3) := by decide +kernel
theorem dL_rectangle_51 : decode cL_rectangle 51 = .ok (.iconst 0, 1) := by decide +kernel
theorem dL_rectangle_52 : decode cL_rectangle 52 = .ok (.ireturn, 1) := by decide +kernel
set_option maxRecDepth 20000 in
theorem ggL_trees_X8_trees : GoodIn wsL_trees wsX8_trees := goodIn_r _ [5, 6, 7, 8, 9, 10, 11, 12, 13, 14, 15, 16, 17, 18, 19, 20, 21, 22, 23, 24, 25, 26, 27, 28, 29, 30, 31, 32, 33, 34, 35, 36, 37, 38, 39, 40, 41, 42, 43, 44, 45, 46, 47, 48, 49, 50, 51, 52, 53, 54, 55, 56, 57, 58, 59, 60, 61, 62, 63, 64, 65, 66, 67, 68, 69, 88, 89, 90, 91, 92, 93, 94, 95, 96, 97, 98, 99, 100, 101, 102] (by decide +kernel) (by decide +kernel)
set_option maxRecDepth 20000 in
theorem gL_trees_X8_trees : GoodIn wsL_trees (wsV RL 109 RX8 yX8_trees wsX8_trees) := goodIn_app (goodIn_of _ (by decide +kernel)) ggL_trees_X8_trees
set_option maxRecDepth 20000 in
theorem ggL_trees_X8_treesAnew : GoodIn wsL_trees wsX8_treesAnew := goodIn_r _ [73, 6, 74, 8, 75, 76, 17, 11, 24, 25, 26, 27, 28, 29, 77, 78, 79, 80, 81, 82, 83, 84, 85, 86, 87, 18, 30, 31, 32, 33, 34, 35, 36, 37, 38, 39, 40, 41, 42, 43, 44, 45, 46, 88, 89, 90, 91, 92, 93, 94, 95, 96, 97, 100, 101, 102, 98, 99] (by decide +kernel) (by decide +kernel)
set_option maxRecDepth 20000 in
theorem gL_trees_X8_treesAnew : GoodIn wsL_trees (wsV RL 123 RX8 yX8_treesAnew wsX8_treesAnew) := goodIn_app (goodIn_of _ (by decide +kernel)) ggL_trees_X8_treesAnew
theorem dL_trees_0 : decode cL_trees 0 = .ok (.aload_n 0, 1) := by decide +kernel
theorem dL_trees_1 : decode cL_trees 1 = .ok (.invokevirtual 109, 3) := by decide +kernel
theorem dL_trees_4 : decode cL_trees 4 = .ok (.iload_n 1, 1) := by decide +kernel
theorem dL_trees_5 : decode cL_trees 5 = .ok (.if_icmp .ne 15, 3) := by decide +kernel
theorem dL_trees_8 : decode cL_trees 8 = .ok (.aload_n 0, 1) := by decide +kernel
theorem dL_trees_9 : decode cL_trees 9 = .ok (.invokevirtual 123, 3) := by decide +kernel
theorem dL_trees_12 : decode cL_trees 12 = .ok (.iload_n 1, 1) := by decide +kernel
theorem dL_trees_13 : decode cL_trees 13 = .ok (.if_icmp .ne 7, 3) := by decide +kernel
theorem dL_trees_16 : decode cL_trees 16 = .ok (.iconst 1, 1) := by decide +kernel
theorem dL_trees_17 : decode cL_trees 17 = .ok (.goto 4, 3) := by decide +kernel
theorem dL_trees_20 : decode cL_trees 20 = .ok (.iconst 0, 1) := by decide +kernel
theorem dL_trees_21 : decode cL_trees 21 = .ok (.ireturn, 1) := by decide +kernel
set_option maxRecDepth 20000 in
theorem ggL_networks_X8_init : GoodIn wsL_networks wsX8_init := goodIn_r _ [8, 9, 10, 11, 12, 13, 14, 15, 16, 17, 18, 19, 20, 21, 22, 23, 24, 25, 26, 27, 28, 29, 30, 31, 32, 33, 34, 35, 36, 37, 38, 39, 40, 41, 42, 43, 44, 45, 46, 47, 48, 49, 50, 51, 52, 53, 54, 55, 56, 57, 58, 59, 60, 61, 62, 63, 64, 65, 66, 67, 68, 69, 70, 71, 72, 73, 74, 75, 76, 77, 78, 79, 80, 81, 82, 83, 84, 85, 86, 87, 88, 89, 90, 91, 92, 93, 94, 95, 636, 637, 638, 639, 629, 630, 631, 632, 633, 634, 635, 640, 641, 642, 643, 644, 645, 646, 647, 648, 649, 650, 651] (by decide +kernel) (by decide +kernel)
set_option maxRecDepth 20000 in
theorem gL_networks_X8_init : GoodIn wsL_networks (wsX8_init) := ggL_networks_X8_init
set_option maxRecDepth 20000 in
theorem ggL_networks_L_trees : GoodIn wsL_networks wsL_trees := goodIn_r _ [99, 100, 101, 102, 3, 103, 33, 104, 32, 105, 106, 94, 107, 108, 109, 110, 93, 91, 111, 112, 113, 114, 45, 115, 116, 117, 118, 18, 119, 120, 121, 122, 123, 124, 125, 126, 127, 128, 129, 130, 131, 132, 133, 134, 135, 136, 63, 137, 138, 139, 140, 141, 142, 143, 144, 145, 146, 147, 148, 149, 150, 151, 152, 153, 154, 155, 156, 157, 158, 159, 160, 161, 162, 163, 164, 165, 166, 167, 168, 169, 170, 171, 172, 173, 174, 175, 176, 177, 629, 630, 631, 632, 633, 634, 635, 649, 650, 651, 652, 653, 640, 641, 642] (by decide +kernel) (by decide +kernel)
set_option maxRecDepth 20000 in
theorem gL_networks_L_trees : GoodIn wsL_networks (va_wsS RL 241 yL_trees wsL_trees) := goodIn_app (goodIn_of _ (by decide +kernel)) ggL_networks_L_trees
set_option maxRecDepth 20000 in
theorem ggL_networks_L_act : GoodIn wsL_networks wsL_act := goodIn_ca (goodIn_ca (goodIn_ca (goodIn_r _ [180, 181, 182, 183, 184, 185, 4, 186, 187, 188, 3, 189, 190, 191, 192, 193, 15, 194, 14, 195, 196, 41, 197, 198, 199, 40, 200, 201, 202, 203, 204, 205, 206, 38, 47, 48, 49, 50, 51, 52, 53, 54, 55, 56, 57, 58, 39, 207, 208, 209, 210, 211, 212, 213, 214, 215, 216, 217, 218, 219, 220, 221, 222, 223, 224, 225, 226, 227, 228, 229, 230, 231, 232, 233, 234, 235, 236, 237, 238, 239, 240, 241, 242, 243, 244, 245, 246, 247, 248, 249, 250, 251, 252, 253, 254, 255, 256, 257, 258, 259, 260, 261, 262, 263, 264, 265, 266, 267, 268, 269, 270, 271, 272, 273, 274, 275, 276, 277, 278, 19, 279, 280, 281, 282, 283, 284, 285, 286, 287, 288, 289, 290, 117, 118, 18, 119, 120, 291, 292, 293, 10, 11, 294, 295, 296, 297, 298, 299, 300, 301, 302, 63, 303, 304, 305, 306, 307, 308, 309, 310, 311, 312, 313, 314, 62, 315, 316, 317, 318, 319, 320, 321, 322, 323, 324, 325, 326, 327, 45, 328, 329, 330, 331, 332, 333, 334, 335, 336, 337, 338, 339, 340, 341, 342, 343, 344, 345, 346, 347, 348, 349, 350, 351, 352, 122, 123, 124, 125, 126, 127, 128, 129, 130, 131, 132, 133, 134, 135, 136, 353, 354, 355, 356, 357, 358, 359, 360, 361, 362, 363, 364, 365, 366, 367, 368, 369, 370, 371, 372, 373, 374, 375, 376, 20, 377, 378, 379, 380, 381, 382, 383, 384, 385, 386, 387, 388, 389, 390, 77, 391, 392, 393, 394, 395, 396, 397, 398, 399, 400, 401, 402, 403, 404, 405, 406, 407, 408, 409, 410, 411, 412, 413, 414, 415, 416, 417, 418, 419, 420, 421, 422, 423, 424, 425, 426, 427, 428, 429, 430, 431, 432, 433, 434, 435, 436, 437, 438, 439, 440, 441, 442, 443, 444, 445, 446, 447, 448, 449, 450, 451, 452, 453, 454, 455, 456, 457, 458, 459, 460, 461, 462, 463, 464, 465, 466, 467, 468, 469, 470, 471, 472, 473, 474, 169, 475, 476, 477, 478, 479, 480, 24, 481, 23, 482, 483, 78, 79, 484, 114, 115, 485, 486, 487, 488, 489, 490, 491, 492, 493, 494, 495, 496, 497, 498, 499, 500, 501, 502, 503, 504, 505, 506, 507, 508, 509, 510, 511, 512, 513, 514, 515, 516, 517, 518, 519, 520, 521, 522, 523, 524, 525, 526, 527, 528, 529, 530, 531, 532, 533, 534, 535, 536, 537, 538, 539, 540, 541, 542, 543, 25, 26, 27, 28, 80, 81, 82, 83, 84, 85, 86, 544, 545, 546, 547, 548, 29, 549, 550, 551, 552, 553, 554, 555, 556, 557, 558, 559, 560, 561, 562, 563, 564, 565, 566, 567, 568, 569, 570, 571, 572, 573, 574, 575, 576, 577, 578, 579, 580, 33, 581, 32, 582, 583, 94, 91, 584, 585, 586, 587, 588, 589, 590, 591, 592, 593, 594, 595, 596, 597, 598, 599, 600, 601, 602, 603, 604, 605, 606, 607, 608, 609, 116, 104, 105, 106, 107, 108, 109, 110, 93, 111, 112, 113, 121, 137, 138, 139, 140, 141, 142, 143, 144, 145, 146, 147, 148, 149, 150, 151, 152, 153, 154, 155, 156, 157, 158, 159, 610, 611, 612, 613, 614, 615, 616, 617, 629, 630, 631, 632, 633, 634, 635, 636, 637, 638, 639, 654, 655, 656, 640, 641, 642, 657, 658, 659, 643, 644, 645, 646, 647, 648, 649, 650, 651, 652, 653] (by decide +kernel) (by decide +kernel)) (goodIn_sub (fun _ h => List.mem_cons_of_mem _ (List.mem_append_left _ (List.mem_append_left _ (List.mem_append_right _ h)))) (by decide +kernel))) (goodIn_sub (fun _ h => List.mem_cons_of_mem _ (List.mem_append_left _ (List.mem_append_right _ h))) (by decide +kernel))) (goodIn_sub (fun _ h => List.mem_cons_of_mem _ (List.mem_append_right _ h)) (by decide +kernel))
set_option maxRecDepth 20000 in
theorem gL_networks_L_act : GoodIn wsL_networks (va_wsS RL 117 yL_act wsL_act) := goodIn_app (goodIn_of _ (by decide +kernel)) ggL_networks_L_act
set_option maxRecDepth 20000 in
theorem ggL_networks_X8_nodes : GoodIn wsL_networks wsX8_nodes := goodIn_ca (goodIn_r _ [580, 277, 278, 33, 581, 32, 582, 583, 94, 91, 584, 585, 586, 18, 587, 301, 302, 63, 120, 629, 630, 631, 632, 633, 634, 635, 649, 650, 651, 640, 641, 642] (by decide +kernel) (by decide +kernel)) (goodIn_sub (fun _ h => List.mem_cons_of_mem _ (List.mem_append_right _ h)) (by decide +kernel))
set_option maxRecDepth 20000 in
theorem gL_networks_X8_nodes : GoodIn wsL_networks (wsV RL 87 RX8 yX8_nodes wsX8_nodes) := goodIn_app (goodIn_of _ (by decide +kernel)) ggL_networks_X8_nodes
set_option maxRecDepth 20000 in
theorem ggL_networks_X8_wire : GoodIn wsL_networks wsX8_wire := goodIn_ca (goodIn_ca (goodIn_ca (goodIn_r _ [591, 190, 191, 277, 278, 192, 193, 33, 592, 593, 594, 595, 32, 596, 597, 94, 290, 117, 118, 18, 119, 120, 598, 599, 600, 10, 11, 601, 602, 297, 298, 299, 300, 301, 302, 63, 303, 304, 305, 306, 307, 308, 309, 310, 311, 312, 313, 314, 62, 315, 234, 231, 235, 316, 317, 318, 319, 320, 321, 322, 323, 324, 325, 326, 327, 45, 328, 329, 330, 331, 332, 333, 334, 335, 336, 337, 338, 230, 232, 339, 340, 341, 342, 629, 630, 631, 632, 633, 634, 635, 649, 650, 651, 652, 653, 640, 641, 642] (by decide +kernel) (by decide +kernel)) (goodIn_sub (fun _ h => List.mem_cons_of_mem _ (List.mem_append_left _ (List.mem_append_left _ (List.mem_append_right _ h)))) (by decide +kernel))) (goodIn_sub (fun _ h => List.mem_cons_of_mem _ (List.mem_append_right _ h)) (by decide +kernel))) (goodIn_sub (fun _ h => List.mem_cons_of_mem _ (List.mem_append_left _ (List.mem_append_right _ h))) (by decide +kernel))
set_option maxRecDepth 20000 in
theorem gL_networks_X8_wire : GoodIn wsL_networks (wsV RL 90 RX8 yX8_wire wsX8_wire) := goodIn_app (goodIn_of _ (by decide +kernel)) ggL_networks_X8_wire
set_option maxRecDepth 20000 in
theorem ggL_networks_L_rectangle : GoodIn wsL_networks wsL_rectangle := goodIn_ca (goodIn_ca (goodIn_ca (goodIn_r _ [620, 603, 604, 605, 3, 606, 190, 191, 277, 278, 192, 193, 33, 595, 32, 596, 597, 94, 607, 608, 609, 91, 116, 117, 118, 18, 119, 120, 104, 105, 106, 107, 108, 109, 110, 93, 111, 112, 113, 114, 45, 115, 121, 122, 123, 124, 125, 126, 127, 128, 129, 130, 131, 132, 133, 134, 135, 136, 63, 137, 138, 139, 140, 141, 142, 143, 144, 145, 146, 147, 148, 149, 150, 151, 152, 153, 154, 155, 156, 157, 158, 159, 610, 611, 612, 613, 614, 615, 616, 617, 629, 630, 631, 632, 633, 634, 635, 649, 650, 651, 640, 641, 642, 652, 653] (by decide +kernel) (by decide +kernel)) (goodIn_sub (fun _ h => List.mem_cons_of_mem _ (List.mem_append_left _ (List.mem_append_left _ (List.mem_append_right _ h)))) (by decide +kernel))) (goodIn_sub (fun _ h => List.mem_cons_of_mem _ (List.mem_append_right _ h)) (by decide +kernel))) (goodIn_sub (fun _ h => List.mem_cons_of_mem _ (List.mem_append_left _ (List.mem_append_right _ h))) (by decide +kernel))
set_option maxRecDepth 20000 in
theorem gL_networks_L_rectangle : GoodIn wsL_networks (va_wsS RL 244 yL_rectangle wsL_rectangle) := goodIn_app (goodIn_of _ (by decide +kernel)) ggL_networks_L_rectangle
set_option maxRecDepth 20000 in
theorem ggL_networks_L_refuses : GoodIn wsL_networks wsL_refuses := goodIn_ca (goodIn_ca (goodIn_ca (goodIn_r _ [623, 624, 625, 626, 627, 628, 184, 4, 185, 255, 256, 257, 3, 258, 190, 191, 15, 259, 14, 260, 261, 41, 262, 263, 264, 40, 265, 214, 215, 216, 217, 218, 219, 220, 221, 222, 223, 224, 39, 225, 211, 212, 213, 266, 267, 268, 233, 234, 231, 235, 269, 270, 271, 272, 38, 100, 101, 102, 103, 33, 104, 32, 105, 106, 94, 107, 108, 109, 110, 93, 91, 111, 112, 113, 114, 45, 115, 116, 117, 118, 18, 119, 120, 121, 122, 123, 124, 125, 126, 127, 128, 129, 130, 131, 132, 133, 134, 135, 136, 63, 137, 138, 139, 140, 141, 142, 143, 144, 145, 146, 147, 148, 149, 150, 151, 152, 153, 154, 155, 156, 157, 158, 159, 563, 564, 565, 566, 29, 567, 28, 568, 569, 84, 85, 83, 86, 570, 527, 528, 571, 572, 560, 561, 562, 178, 179, 98, 180, 181, 182, 183, 186, 187, 188, 189, 192, 193, 194, 195, 196, 197, 198, 199, 200, 201, 202, 203, 204, 205, 206, 47, 48, 49, 50, 51, 52, 53, 54, 55, 56, 57, 58, 207, 208, 209, 210, 226, 227, 228, 229, 230, 232, 236, 237, 238, 239, 240, 241, 242, 243, 244, 245, 246, 247, 248, 249, 250, 251, 252, 253, 254, 273, 274, 275, 276, 277, 278, 19, 279, 280, 281, 282, 283, 284, 285, 286, 287, 288, 289, 290, 291, 292, 293, 10, 11, 294, 295, 296, 297, 298, 299, 300, 301, 302, 303, 304, 305, 306, 307, 308, 309, 310, 311, 312, 313, 314, 62, 315, 316, 317, 318, 319, 320, 321, 322, 323, 324, 325, 326, 327, 328, 329, 330, 331, 332, 333, 334, 335, 336, 337, 338, 339, 340, 341, 342, 343, 344, 345, 346, 347, 348, 349, 350, 351, 352, 353, 354, 355, 356, 357, 358, 359, 360, 361, 362, 363, 364, 365, 366, 367, 368, 369, 370, 371, 372, 373, 374, 375, 376, 20, 377, 378, 379, 380, 381, 382, 383, 384, 385, 386, 387, 388, 389, 390, 77, 391, 392, 393, 394, 395, 396, 397, 398, 399, 400, 401, 402, 403, 404, 405, 406, 407, 408, 409, 410, 411, 412, 413, 414, 415, 416, 417, 418, 419, 420, 421, 422, 423, 424, 425, 426, 427, 428, 429, 430, 431, 432, 433, 434, 435, 436, 437, 438, 439, 440, 441, 442, 443, 444, 445, 446, 447, 448, 449, 450, 451, 452, 453, 454, 455, 456, 457, 458, 459, 460, 461, 462, 463, 464, 465, 466, 467, 468, 469, 470, 471, 472, 473, 474, 169, 475, 476, 477, 478, 479, 480, 24, 481, 23, 482, 483, 78, 79, 484, 485, 486, 487, 488, 489, 490, 491, 492, 493, 494, 495, 496, 497, 498, 499, 500, 501, 502, 503, 504, 505, 506, 507, 508, 509, 510, 511, 512, 513, 514, 515, 516, 517, 518, 519, 520, 521, 522, 523, 524, 525, 526, 529, 530, 531, 532, 533, 534, 535, 536, 537, 538, 539, 540, 541, 542, 543, 25, 26, 27, 80, 81, 82, 544, 545, 546, 547, 548, 549, 550, 551, 552, 553, 554, 555, 556, 557, 558, 559, 573, 574, 575, 576, 577, 578, 579, 580, 581, 582, 583, 584, 585, 586, 587, 588, 589, 590, 591, 592, 593, 594, 595, 596, 597, 598, 599, 600, 601, 602, 603, 604, 605, 606, 607, 608, 609, 610, 611, 612, 613, 614, 615, 616, 617, 160, 161, 162, 163, 164, 165, 166, 167, 168, 170, 171, 172, 173, 174, 175, 176, 177, 629, 630, 631, 632, 633, 634, 635, 636, 637, 638, 639, 649, 650, 651, 652, 653, 640, 641, 642, 645, 646, 647, 648, 654, 655, 656, 657, 658, 659, 643, 644] (by decide +kernel) (by decide +kernel)) (goodIn_sub (fun _ h => List.mem_cons_of_mem _ (List.mem_append_left _ (List.mem_append_left _ (List.mem_append_right _ h)))) (by decide +kernel))) (goodIn_sub (fun _ h => List.mem_cons_of_mem _ (List.mem_append_left _ (List.mem_append_right _ h))) (by decide +kernel))) (goodIn_sub (fun _ h => List.mem_cons_of_mem _ (List.mem_append_right _ h)) (by decide +kernel))
set_option maxRecDepth 20000 in
theorem gL_networks_L_refuses : GoodIn wsL_networks (va_wsS RL 127 yL_refuses wsL_refuses) := goodIn_app (goodIn_of _ (by decide +kernel)) ggL_networks_L_refuses
set_option maxRecDepth 20000 in
theorem ggL_networks_X8_side : GoodIn wsL_networks wsX8_side := goodIn_ca (goodIn_ca (goodIn_ca (goodIn_r _ [606, 190, 191, 277, 278, 192, 193, 33, 595, 32, 596, 597, 94, 607, 608, 609, 91, 116, 117, 118, 18, 119, 120, 104, 105, 106, 107, 108, 109, 110, 93, 111, 112, 113, 114, 45, 115, 121, 122, 123, 124, 125, 126, 127, 128, 129, 130, 131, 132, 133, 134, 135, 136, 63, 137, 138, 139, 140, 141, 142, 143, 144, 145, 146, 147, 148, 149, 150, 151, 152, 153, 154, 155, 156, 157, 158, 159, 610, 611, 612, 613, 614, 615, 616, 617, 629, 630, 631, 632, 633, 634, 635, 649, 650, 651, 640, 641, 642, 652, 653] (by decide +kernel) (by decide +kernel)) (goodIn_sub (fun _ h => List.mem_cons_of_mem _ (List.mem_append_left _ (List.mem_append_left _ (List.mem_append_right _ h)))) (by decide +kernel))) (goodIn_sub (fun _ h => List.mem_cons_of_mem _ (List.mem_append_right _ h)) (by decide +kernel))) (goodIn_sub (fun _ h => List.mem_cons_of_mem _ (List.mem_append_left _ (List.mem_append_right _ h))) (by decide +kernel))
set_option maxRecDepth 20000 in
theorem gL_networks_X8_side : GoodIn wsL_networks (wsV RL 93 RX8 yX8_side wsX8_side) := goodIn_app (goodIn_of _ (by decide +kernel)) ggL_networks_X8_side
set_option maxRecDepth 20000 in
theorem ggL_networks_X8_trees : GoodIn wsL_networks wsX8_trees := goodIn_r _ [103, 33, 104, 32, 105, 106, 94, 107, 108, 109, 110, 93, 91, 111, 112, 113, 114, 45, 115, 116, 117, 118, 18, 119, 120, 121, 122, 123, 124, 125, 126, 127, 128, 129, 130, 131, 132, 133, 134, 135, 136, 63, 137, 138, 139, 140, 141, 142, 143, 144, 145, 146, 147, 148, 149, 150, 151, 152, 153, 154, 155, 156, 157, 158, 159, 629, 630, 631, 632, 633, 634, 635, 649, 650, 651, 652, 653, 640, 641, 642] (by decide +kernel) (by decide +kernel)
set_option maxRecDepth 20000 in
theorem gL_networks_X8_trees : GoodIn wsL_networks (wsV RL 109 RX8 yX8_trees wsX8_trees) := goodIn_app (goodIn_of _ (by decide +kernel)) ggL_networks_X8_trees
theorem dL_networks_0 : decode cL_networks 0 = .ok (.new 8, 3) := by decide +kernel
theorem dL_networks_3 : decode cL_networks 3 = .ok (.dup, 1) := by decide +kernel
theorem dL_networks_4 : decode cL_networks 4 = .ok (.invokespecial 126, 3) := by decide +kernel
theorem dL_networks_7 : decode cL_networks 7 = .ok (.astore_n 0, 1) := by decide +kernel
theorem dL_networks_8 : decode cL_networks 8 = .ok (.aload_n 0, 1) := by decide +kernel
