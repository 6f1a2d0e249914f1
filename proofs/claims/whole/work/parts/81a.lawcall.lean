set_option maxRecDepth 20000 in
theorem ggL_law_X8_init : GoodIn wsL_law wsX8_init := goodIn_r _ [10, 11, 12, 13, 14, 15, 16, 17, 18, 19, 20, 21, 22, 23, 24, 25, 26, 27, 28, 29, 30, 31, 32, 33, 34, 35, 36, 37, 38, 39, 40, 41, 42, 43, 44, 45, 46, 47, 48, 49, 50, 51, 52, 53, 54, 55, 56, 57, 58, 59, 60, 61, 62, 63, 64, 65, 66, 67, 68, 69, 70, 71, 72, 73, 74, 75, 76, 77, 78, 6, 79, 80, 81, 82, 83, 84, 85, 86, 87, 88, 89, 90, 91, 92, 93, 94, 95, 96, 1005, 1006, 1007, 1008, 970, 971, 972, 973, 974, 975, 976, 1009, 1010, 1011, 1012, 1013, 1014, 1015, 1016, 1017, 1018, 1019, 1020] (by decide +kernel) (by decide +kernel)
set_option maxRecDepth 20000 in
theorem gL_law_X8_init : GoodIn wsL_law (wsX8_init) := ggL_law_X8_init
set_option maxRecDepth 20000 in
theorem ggL_law_X9_init : GoodIn wsL_law wsX9_init := goodIn_r _ [99, 100, 12, 13, 101, 102, 39, 103, 104, 105, 106, 6, 107, 108, 109, 110, 111, 112, 113, 114, 115, 116, 117, 118, 119, 120, 121, 122, 123, 124, 125, 5, 126, 977, 978, 979, 980, 981, 982, 983, 984, 985, 986, 987, 988, 989, 990, 991, 992, 993, 994, 995, 996, 997, 998, 999, 1000, 1001, 1002, 1003, 1004] (by decide +kernel) (by decide +kernel)
set_option maxRecDepth 20000 in
theorem gL_law_X9_init : GoodIn wsL_law (wsX9_init) := ggL_law_X9_init
set_option maxRecDepth 20000 in
theorem ggL_law_L_split : GoodIn wsL_law wsL_split := goodIn_ca (goodIn_ca (goodIn_r _ [130, 131, 132, 133, 134, 135, 2, 136, 137, 138, 139, 140, 17, 141, 16, 142, 143, 43, 144, 145, 146, 42, 147, 148, 149, 150, 151, 152, 153, 40, 49, 50, 51, 52, 53, 54, 55, 56, 57, 58, 59, 60, 41, 970, 971, 972, 973, 974, 975, 976, 1005, 1006, 1007, 1008] (by decide +kernel) (by decide +kernel)) (goodIn_sub (fun _ h => List.mem_append_left _ (List.mem_append_left _ (List.mem_append_right _ h))) (by decide +kernel))) (goodIn_sub (fun _ h => List.mem_append_left _ (List.mem_append_right _ h)) (by decide +kernel))
set_option maxRecDepth 20000 in
theorem gL_law_L_split : GoodIn wsL_law (va_wsS RL 106 yL_split wsL_split) := goodIn_app (goodIn_of _ (by decide +kernel)) ggL_law_L_split
set_option maxRecDepth 20000 in
theorem ggL_law_X9_split : GoodIn wsL_law wsX9_split := goodIn_r _ [157, 101, 158, 103, 102, 159, 160, 161, 5, 162, 163, 164, 165, 123, 124, 125, 126, 977, 978, 979, 980, 981, 982, 983, 984, 985, 986, 987, 988, 989, 990, 991, 992, 993, 994, 995, 996, 997, 998, 999, 1000, 1001, 1002, 1003, 1004] (by decide +kernel) (by decide +kernel)
set_option maxRecDepth 20000 in
theorem gL_law_X9_split : GoodIn wsL_law (wsV RL 111 RX9 yX9_split wsX9_split) := goodIn_app (goodIn_of _ (by decide +kernel)) ggL_law_X9_split
set_option maxRecDepth 20000 in
theorem ggL_law_X9_thrown : GoodIn wsL_law wsX9_thrown := goodIn_r _ [169, 158, 977, 978, 979, 980, 981, 982, 983, 984, 985, 986, 987, 988, 989, 990, 991, 992, 993, 994, 995, 996, 997, 998, 999, 1000, 1001, 1002, 1003, 1004] (by decide +kernel) (by decide +kernel)
set_option maxRecDepth 20000 in
theorem gL_law_X9_thrown : GoodIn wsL_law (wsV RL 112 RX9 yX9_thrown wsX9_thrown) := goodIn_app (goodIn_of _ (by decide +kernel)) ggL_law_X9_thrown
set_option maxRecDepth 20000 in
theorem ggL_law_L_flip : GoodIn wsL_law wsL_flip := goodIn_ca (goodIn_ca (goodIn_r _ [172, 131, 132, 173, 174, 175, 2, 176, 137, 138, 139, 140, 17, 177, 16, 178, 179, 42, 180, 181, 182, 183, 184, 185, 186, 187, 188, 189, 190, 41, 191, 192, 193, 194, 195, 196, 197, 198, 199, 200, 201, 202, 203, 204, 205, 43, 40, 57, 58, 59, 60, 49, 50, 51, 52, 53, 54, 55, 56, 970, 971, 972, 973, 974, 975, 976, 1005, 1006, 1007, 1008] (by decide +kernel) (by decide +kernel)) (goodIn_sub (fun _ h => List.mem_append_left _ (List.mem_append_left _ (List.mem_append_right _ h))) (by decide +kernel))) (goodIn_sub (fun _ h => List.mem_append_left _ (List.mem_append_right _ h)) (by decide +kernel))
set_option maxRecDepth 20000 in
theorem gL_law_L_flip : GoodIn wsL_law (va_wsS RL 116 yL_flip wsL_flip) := goodIn_app (goodIn_of _ (by decide +kernel)) ggL_law_L_flip
set_option maxRecDepth 20000 in
theorem ggL_law_X9_flip : GoodIn wsL_law wsX9_flip := goodIn_r _ [209, 158, 210, 211, 212, 5, 213, 101, 163, 164, 165, 214, 215, 216, 217, 218, 219, 220, 221, 222, 223, 224, 225, 102, 103, 226, 227, 228, 229, 123, 124, 125, 126, 977, 978, 979, 980, 981, 982, 983, 984, 985, 986, 987, 988, 989, 990, 991, 992, 993, 994, 995, 996, 997, 998, 999, 1000, 1001, 1002, 1003, 1004] (by decide +kernel) (by decide +kernel)
set_option maxRecDepth 20000 in
theorem gL_law_X9_flip : GoodIn wsL_law (wsV RL 119 RX9 yX9_flip wsX9_flip) := goodIn_app (goodIn_of _ (by decide +kernel)) ggL_law_X9_flip
set_option maxRecDepth 20000 in
theorem ggL_law_L_corner : GoodIn wsL_law wsL_corner := goodIn_ca (goodIn_r _ [232, 131, 233, 234, 235, 2, 236, 137, 138, 17, 141, 16, 142, 143, 43, 151, 152, 153, 40, 970, 971, 972, 973, 974, 975, 976, 1005, 1006, 1007, 1008] (by decide +kernel) (by decide +kernel)) (goodIn_sub (fun _ h => List.mem_append_left _ (List.mem_append_left _ (List.mem_append_right _ h))) (by decide +kernel))
set_option maxRecDepth 20000 in
theorem gL_law_L_corner : GoodIn wsL_law (va_wsS RL 120 yL_corner wsL_corner) := goodIn_app (goodIn_of _ (by decide +kernel)) ggL_law_L_corner
set_option maxRecDepth 20000 in
theorem ggL_law_X9_corner : GoodIn wsL_law wsX9_corner := goodIn_r _ [240, 241, 158, 103, 159, 160, 161, 5, 162, 102, 163, 164, 165, 977, 978, 979, 980, 981, 982, 983, 984, 985, 986, 987, 988, 989, 990, 991, 992, 993, 994, 995, 996, 997, 998, 999, 1000, 1001, 1002, 1003, 1004] (by decide +kernel) (by decide +kernel)
set_option maxRecDepth 20000 in
theorem gL_law_X9_corner : GoodIn wsL_law (wsV RL 122 RX9 yX9_corner wsX9_corner) := goodIn_app (goodIn_of _ (by decide +kernel)) ggL_law_X9_corner
set_option maxRecDepth 20000 in
theorem ggL_law_L_around : GoodIn wsL_law wsL_around := goodIn_ca (goodIn_r _ [244, 131, 245, 246, 247, 2, 248, 137, 138, 17, 177, 16, 178, 179, 42, 249, 250, 251, 252, 253, 254, 255, 183, 184, 185, 186, 187, 188, 189, 190, 41, 191, 970, 971, 972, 973, 974, 975, 976, 1005, 1006, 1007, 1008] (by decide +kernel) (by decide +kernel)) (goodIn_sub (fun _ h => List.mem_append_left _ (List.mem_append_left _ (List.mem_append_right _ h))) (by decide +kernel))
set_option maxRecDepth 20000 in
theorem gL_law_L_around : GoodIn wsL_law (va_wsS RL 123 yL_around wsL_around) := goodIn_app (goodIn_of _ (by decide +kernel)) ggL_law_L_around
set_option maxRecDepth 20000 in
theorem ggL_law_X9_around : GoodIn wsL_law wsX9_around := goodIn_r _ [259, 158, 210, 211, 212, 5, 213, 101, 163, 164, 165, 260, 261, 262, 263, 218, 219, 220, 221, 222, 223, 224, 225, 102, 103, 226, 227, 228, 229, 977, 978, 979, 980, 981, 982, 983, 984, 985, 986, 987, 988, 989, 990, 991, 992, 993, 994, 995, 996, 997, 998, 999, 1000, 1001, 1002, 1003, 1004] (by decide +kernel) (by decide +kernel)
set_option maxRecDepth 20000 in
theorem gL_law_X9_around : GoodIn wsL_law (wsV RL 125 RX9 yX9_around wsX9_around) := goodIn_app (goodIn_of _ (by decide +kernel)) ggL_law_X9_around
set_option maxRecDepth 20000 in
theorem ggL_law_L_net : GoodIn wsL_law wsL_net := goodIn_ca (goodIn_r _ [266, 131, 267, 268, 269, 2, 270, 137, 138, 17, 271, 16, 272, 273, 43, 274, 275, 276, 42, 277, 180, 181, 182, 183, 184, 185, 186, 187, 188, 189, 190, 41, 191, 177, 178, 179, 278, 279, 280, 199, 200, 197, 201, 281, 282, 283, 284, 40, 970, 971, 972, 973, 974, 975, 976, 1005, 1006, 1007, 1008] (by decide +kernel) (by decide +kernel)) (goodIn_sub (fun _ h => List.mem_append_left _ (List.mem_append_left _ (List.mem_append_right _ h))) (by decide +kernel))
set_option maxRecDepth 20000 in
theorem gL_law_L_net : GoodIn wsL_law (va_wsS RL 126 yL_net wsL_net) := goodIn_app (goodIn_of _ (by decide +kernel)) ggL_law_L_net
set_option maxRecDepth 20000 in
theorem ggL_law_X9_net : GoodIn wsL_law wsX9_net := goodIn_r _ [288, 289, 158, 101, 102, 163, 164, 5, 165, 260, 261, 262, 263, 218, 219, 220, 221, 222, 223, 224, 225, 103, 214, 215, 216, 217, 226, 227, 228, 229, 977, 978, 979, 980, 981, 982, 983, 984, 985, 986, 987, 988, 989, 990, 991, 992, 993, 994, 995, 996, 997, 998, 999, 1000, 1001, 1002, 1003, 1004] (by decide +kernel) (by decide +kernel)
set_option maxRecDepth 20000 in
theorem gL_law_X9_net : GoodIn wsL_law (wsV RL 128 RX9 yX9_net wsX9_net) := goodIn_app (goodIn_of _ (by decide +kernel)) ggL_law_X9_net
