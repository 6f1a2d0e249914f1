set_option maxRecDepth 20000 in
theorem ggL_law_X9_image : GoodIn wsL_law wsX9_image := goodIn_r _ [825, 158, 117, 713, 714, 5, 715, 376, 377, 163, 164, 165, 716, 717, 718, 977, 978, 979, 980, 981, 982, 983, 984, 985, 986, 987, 988, 989, 990, 991, 992, 993, 994, 995, 996, 997, 998, 999, 1000, 1001, 1002, 1003, 1004] (by decide +kernel) (by decide +kernel)
set_option maxRecDepth 20000 in
theorem gL_law_X9_image : GoodIn wsL_law (wsV RL 197 RX9 yX9_image wsX9_image) := goodIn_app (goodIn_of _ (by decide +kernel)) ggL_law_X9_image
set_option maxRecDepth 20000 in
theorem ggL_law_L_nodes : GoodIn wsL_law wsL_nodes := goodIn_ca (goodIn_r _ [828, 293, 829, 830, 831, 2, 832, 298, 299, 35, 833, 34, 834, 835, 95, 92, 836, 837, 838, 20, 839, 326, 327, 65, 315, 970, 971, 972, 973, 974, 975, 976, 1018, 1019, 1020, 1009, 1010, 1011] (by decide +kernel) (by decide +kernel)) (goodIn_sub (fun _ h => List.mem_append_right _ h) (by decide +kernel))
set_option maxRecDepth 20000 in
theorem gL_law_L_nodes : GoodIn wsL_law (va_wsS RL 198 yL_nodes wsL_nodes) := goodIn_app (goodIn_of _ (by decide +kernel)) ggL_law_L_nodes
set_option maxRecDepth 20000 in
theorem ggL_law_X9_nodes : GoodIn wsL_law wsX9_nodes := goodIn_r _ [843, 241, 844, 158, 119, 845, 163, 164, 5, 165, 977, 978, 979, 980, 981, 982, 983, 984, 985, 986, 987, 988, 989, 990, 991, 992, 993, 994, 995, 996, 997, 998, 999, 1000, 1001, 1002, 1003, 1004] (by decide +kernel) (by decide +kernel)
set_option maxRecDepth 20000 in
theorem gL_law_X9_nodes : GoodIn wsL_law (wsV RL 200 RX9 yX9_nodes wsX9_nodes) := goodIn_app (goodIn_of _ (by decide +kernel)) ggL_law_X9_nodes
set_option maxRecDepth 20000 in
theorem ggL_law_L_wire : GoodIn wsL_law wsL_wire := goodIn_ca (goodIn_ca (goodIn_ca (goodIn_r _ [848, 131, 293, 132, 849, 850, 851, 2, 852, 137, 138, 298, 299, 139, 140, 35, 853, 854, 855, 856, 34, 857, 858, 95, 311, 312, 313, 20, 314, 315, 859, 860, 861, 12, 13, 862, 863, 322, 323, 324, 325, 326, 327, 65, 328, 329, 330, 331, 332, 333, 334, 335, 336, 337, 338, 339, 64, 340, 200, 197, 201, 341, 342, 343, 344, 345, 346, 347, 348, 349, 350, 351, 352, 47, 353, 354, 355, 356, 357, 358, 359, 360, 361, 362, 363, 196, 198, 364, 365, 366, 367, 970, 971, 972, 973, 974, 975, 976, 1018, 1019, 1020, 1027, 1028, 1009, 1010, 1011] (by decide +kernel) (by decide +kernel)) (goodIn_sub (fun _ h => List.mem_append_left _ (List.mem_append_left _ (List.mem_append_right _ h))) (by decide +kernel))) (goodIn_sub (fun _ h => List.mem_append_right _ h) (by decide +kernel))) (goodIn_sub (fun _ h => List.mem_append_left _ (List.mem_append_right _ h)) (by decide +kernel))
set_option maxRecDepth 20000 in
theorem gL_law_L_wire : GoodIn wsL_law (va_wsS RL 201 yL_wire wsL_wire) := goodIn_app (goodIn_of _ (by decide +kernel)) ggL_law_L_wire
set_option maxRecDepth 20000 in
theorem ggL_law_X9_wire : GoodIn wsL_law wsX9_wire := goodIn_r _ [867, 845, 158, 120, 121, 868, 869, 870, 5, 871, 119, 163, 164, 165, 977, 978, 979, 980, 981, 982, 983, 984, 985, 986, 987, 988, 989, 990, 991, 992, 993, 994, 995, 996, 997, 998, 999, 1000, 1001, 1002, 1003, 1004] (by decide +kernel) (by decide +kernel)
set_option maxRecDepth 20000 in
theorem gL_law_X9_wire : GoodIn wsL_law (wsV RL 203 RX9 yX9_wire wsX9_wire) := goodIn_app (goodIn_of _ (by decide +kernel)) ggL_law_X9_wire
set_option maxRecDepth 20000 in
theorem ggL_law_X8_trees : GoodIn wsL_law wsX8_trees := goodIn_r _ [875, 35, 876, 34, 877, 878, 95, 879, 880, 881, 882, 94, 92, 883, 884, 885, 649, 47, 650, 886, 312, 313, 20, 314, 315, 887, 391, 392, 393, 394, 395, 396, 397, 398, 399, 400, 401, 402, 403, 404, 405, 65, 888, 889, 890, 891, 892, 893, 894, 895, 896, 897, 898, 899, 900, 901, 902, 903, 904, 905, 906, 907, 908, 909, 910, 970, 971, 972, 973, 974, 975, 976, 1018, 1019, 1020, 1027, 1028, 1009, 1010, 1011] (by decide +kernel) (by decide +kernel)
set_option maxRecDepth 20000 in
theorem gL_law_X8_trees : GoodIn wsL_law (wsV RL 204 RX8 yX8_trees wsX8_trees) := goodIn_app (goodIn_of _ (by decide +kernel)) ggL_law_X8_trees
set_option maxRecDepth 20000 in
theorem ggL_law_X9_trees : GoodIn wsL_law wsX9_trees := goodIn_r _ [914, 158, 915, 916, 917, 5, 918, 845, 919, 920, 921, 922, 119, 122, 120, 121, 977, 978, 979, 980, 981, 982, 983, 984, 985, 986, 987, 988, 989, 990, 991, 992, 993, 994, 995, 996, 997, 998, 999, 1000, 1001, 1002, 1003, 1004] (by decide +kernel) (by decide +kernel)
set_option maxRecDepth 20000 in
theorem gL_law_X9_trees : GoodIn wsL_law (wsV RL 207 RX9 yX9_trees wsX9_trees) := goodIn_app (goodIn_of _ (by decide +kernel)) ggL_law_X9_trees
set_option maxRecDepth 20000 in
theorem ggL_law_X8_treesAnew : GoodIn wsL_law wsX8_treesAnew := goodIn_r _ [926, 35, 927, 34, 928, 929, 92, 95, 886, 312, 313, 20, 314, 315, 930, 931, 631, 932, 933, 934, 935, 936, 937, 938, 939, 883, 887, 391, 392, 393, 394, 395, 396, 397, 398, 399, 400, 401, 402, 403, 404, 405, 65, 970, 971, 972, 973, 974, 975, 976, 1018, 1019, 1020, 1009, 1010, 1011, 1027, 1028] (by decide +kernel) (by decide +kernel)
set_option maxRecDepth 20000 in
theorem gL_law_X8_treesAnew : GoodIn wsL_law (wsV RL 208 RX8 yX8_treesAnew wsX8_treesAnew) := goodIn_app (goodIn_of _ (by decide +kernel)) ggL_law_X8_treesAnew
set_option maxRecDepth 20000 in
theorem ggL_law_X9_treesAnew : GoodIn wsL_law wsX9_treesAnew := goodIn_r _ [943, 158, 915, 916, 917, 5, 918, 845, 919, 920, 921, 922, 119, 122, 120, 121, 977, 978, 979, 980, 981, 982, 983, 984, 985, 986, 987, 988, 989, 990, 991, 992, 993, 994, 995, 996, 997, 998, 999, 1000, 1001, 1002, 1003, 1004] (by decide +kernel) (by decide +kernel)
set_option maxRecDepth 20000 in
theorem gL_law_X9_treesAnew : GoodIn wsL_law (wsV RL 211 RX9 yX9_treesAnew wsX9_treesAnew) := goodIn_app (goodIn_of _ (by decide +kernel)) ggL_law_X9_treesAnew
set_option maxRecDepth 20000 in
theorem ggL_law_L_side : GoodIn wsL_law wsL_side := goodIn_ca (goodIn_ca (goodIn_ca (goodIn_r _ [946, 131, 293, 132, 947, 948, 949, 2, 950, 137, 138, 298, 299, 139, 140, 35, 856, 34, 857, 858, 95, 951, 952, 953, 92, 886, 312, 313, 20, 314, 315, 876, 877, 878, 879, 880, 881, 882, 94, 883, 884, 885, 649, 47, 650, 887, 391, 392, 393, 394, 395, 396, 397, 398, 399, 400, 401, 402, 403, 404, 405, 65, 888, 889, 890, 891, 892, 893, 894, 895, 896, 897, 898, 899, 900, 901, 902, 903, 904, 905, 906, 907, 908, 909, 910, 954, 955, 956, 957, 958, 959, 960, 961, 970, 971, 972, 973, 974, 975, 976, 1018, 1019, 1020, 1009, 1010, 1011, 1027, 1028] (by decide +kernel) (by decide +kernel)) (goodIn_sub (fun _ h => List.mem_append_left _ (List.mem_append_left _ (List.mem_append_right _ h))) (by decide +kernel))) (goodIn_sub (fun _ h => List.mem_append_right _ h) (by decide +kernel))) (goodIn_sub (fun _ h => List.mem_append_left _ (List.mem_append_right _ h)) (by decide +kernel))
set_option maxRecDepth 20000 in
theorem gL_law_L_side : GoodIn wsL_law (va_wsS RL 212 yL_side wsL_side) := goodIn_app (goodIn_of _ (by decide +kernel)) ggL_law_L_side
set_option maxRecDepth 20000 in
theorem ggL_law_X9_side : GoodIn wsL_law wsX9_side := goodIn_r _ [965, 845, 158, 120, 121, 868, 869, 870, 5, 871, 119, 163, 164, 165, 915, 916, 917, 918, 919, 920, 921, 922, 122, 966, 967, 968, 969, 977, 978, 979, 980, 981, 982, 983, 984, 985, 986, 987, 988, 989, 990, 991, 992, 993, 994, 995, 996, 997, 998, 999, 1000, 1001, 1002, 1003, 1004] (by decide +kernel) (by decide +kernel)
set_option maxRecDepth 20000 in
theorem gL_law_X9_side : GoodIn wsL_law (wsV RL 214 RX9 yX9_side wsX9_side) := goodIn_app (goodIn_of _ (by decide +kernel)) ggL_law_X9_side
