set_option maxRecDepth 20000 in
theorem ggL_law_L_ford : GoodIn wsL_law wsL_ford := goodIn_ca (goodIn_r _ [691, 293, 692, 693, 694, 2, 695, 696, 697, 698, 699, 298, 299, 306, 307, 308, 309, 310, 700, 701, 702, 703, 704, 197, 705, 706, 707] (by decide +kernel) (by decide +kernel)) (goodIn_sub (fun _ h => List.mem_append_right _ h) (by decide +kernel))
set_option maxRecDepth 20000 in
theorem gL_law_L_ford : GoodIn wsL_law (va_wsS RL 173 yL_ford wsL_ford) := goodIn_app (goodIn_of _ (by decide +kernel)) ggL_law_L_ford
set_option maxRecDepth 20000 in
theorem ggL_law_X9_ford : GoodIn wsL_law wsX9_ford := goodIn_r _ [711, 158, 712, 713, 714, 5, 715, 376, 377, 163, 164, 165, 716, 717, 718, 719, 720, 721, 977, 978, 979, 980, 981, 982, 983, 984, 985, 986, 987, 988, 989, 990, 991, 992, 993, 994, 995, 996, 997, 998, 999, 1000, 1001, 1002, 1003, 1004] (by decide +kernel) (by decide +kernel)
set_option maxRecDepth 20000 in
theorem gL_law_X9_ford : GoodIn wsL_law (wsV RL 175 RX9 yX9_ford wsX9_ford) := goodIn_app (goodIn_of _ (by decide +kernel)) ggL_law_X9_ford
set_option maxRecDepth 20000 in
theorem ggL_law_L_between : GoodIn wsL_law wsL_between := goodIn_ca (goodIn_r _ [724, 293, 725, 726, 727, 2, 728, 298, 299, 697, 698, 699, 306, 307, 308, 309, 310, 700, 701, 702, 703, 704, 197, 705, 706, 707, 729, 730, 731, 732, 656, 733] (by decide +kernel) (by decide +kernel)) (goodIn_sub (fun _ h => List.mem_append_right _ h) (by decide +kernel))
set_option maxRecDepth 20000 in
theorem gL_law_L_between : GoodIn wsL_law (va_wsS RL 176 yL_between wsL_between) := goodIn_app (goodIn_of _ (by decide +kernel)) ggL_law_L_between
set_option maxRecDepth 20000 in
theorem ggL_law_X9_between : GoodIn wsL_law wsX9_between := goodIn_r _ [737, 158, 738, 739, 713, 714, 5, 715, 376, 377, 163, 164, 165, 716, 717, 718, 719, 720, 721, 740, 741, 742, 743, 115, 744, 745, 746, 977, 978, 979, 980, 981, 982, 983, 984, 985, 986, 987, 988, 989, 990, 991, 992, 993, 994, 995, 996, 997, 998, 999, 1000, 1001, 1002, 1003, 1004] (by decide +kernel) (by decide +kernel)
set_option maxRecDepth 20000 in
theorem gL_law_X9_between : GoodIn wsL_law (wsV RL 179 RX9 yX9_between wsX9_between) := goodIn_app (goodIn_of _ (by decide +kernel)) ggL_law_X9_between
set_option maxRecDepth 20000 in
theorem ggL_law_L_tell : GoodIn wsL_law wsL_tell := goodIn_ca (goodIn_ca (goodIn_r _ [749, 293, 132, 750, 751, 752, 2, 753, 298, 299, 139, 140, 27, 28, 29, 30, 466, 467, 468, 308, 309, 310, 311, 312, 313, 20, 314, 315, 81, 82, 83, 12, 13, 84, 85, 86, 87, 322, 323, 324, 325, 326, 327, 65, 328, 329, 330, 331, 332, 333, 334, 335, 336, 337, 338, 339, 64, 340, 200, 197, 201, 341, 342, 343, 344, 345, 346, 347, 348, 349, 350, 351, 352, 47, 353, 354, 355, 356, 357, 358, 359, 360, 361, 362, 363, 196, 198, 364, 365, 366, 367, 970, 971, 972, 973, 974, 975, 976, 1014, 1015, 1016, 1017, 1009, 1010, 1011] (by decide +kernel) (by decide +kernel)) (goodIn_sub (fun _ h => List.mem_append_right _ h) (by decide +kernel))) (goodIn_sub (fun _ h => List.mem_append_left _ (List.mem_append_right _ h)) (by decide +kernel))
set_option maxRecDepth 20000 in
theorem gL_law_L_tell : GoodIn wsL_law (va_wsS RL 180 yL_tell wsL_tell) := goodIn_app (goodIn_of _ (by decide +kernel)) ggL_law_L_tell
set_option maxRecDepth 20000 in
theorem ggL_law_X9_tell : GoodIn wsL_law wsX9_tell := goodIn_r _ [757, 758, 158, 116, 759, 760, 5, 761, 762, 608, 163, 164, 165, 977, 978, 979, 980, 981, 982, 983, 984, 985, 986, 987, 988, 989, 990, 991, 992, 993, 994, 995, 996, 997, 998, 999, 1000, 1001, 1002, 1003, 1004] (by decide +kernel) (by decide +kernel)
set_option maxRecDepth 20000 in
theorem gL_law_X9_tell : GoodIn wsL_law (wsV RL 182 RX9 yX9_tell wsX9_tell) := goodIn_app (goodIn_of _ (by decide +kernel)) ggL_law_X9_tell
set_option maxRecDepth 20000 in
theorem ggL_law_L_append : GoodIn wsL_law wsL_append := goodIn_ca (goodIn_ca (goodIn_r _ [765, 131, 132, 766, 767, 768, 2, 769, 137, 138, 139, 140, 27, 770, 31, 306, 311, 312, 313, 20, 314, 315, 390, 391, 392, 393, 394, 395, 396, 397, 398, 399, 400, 401, 402, 403, 404, 405, 65, 771, 30, 772, 773, 774, 29, 87, 85, 86, 84, 775, 81, 82, 83, 12, 13, 776, 777, 778, 779, 780, 781, 309, 310, 782, 783, 784, 970, 971, 972, 973, 974, 975, 976, 1009, 1010, 1011, 1014, 1015, 1016, 1017] (by decide +kernel) (by decide +kernel)) (goodIn_sub (fun _ h => List.mem_append_left _ (List.mem_append_left _ (List.mem_append_right _ h))) (by decide +kernel))) (goodIn_sub (fun _ h => List.mem_append_left _ (List.mem_append_right _ h)) (by decide +kernel))
set_option maxRecDepth 20000 in
theorem gL_law_L_append : GoodIn wsL_law (va_wsS RL 183 yL_append wsL_append) := goodIn_app (goodIn_of _ (by decide +kernel)) ggL_law_L_append
set_option maxRecDepth 20000 in
theorem ggL_law_X9_append : GoodIn wsL_law wsX9_append := goodIn_r _ [788, 758, 158, 116, 118, 117, 376, 377, 163, 164, 5, 165, 977, 978, 979, 980, 981, 982, 983, 984, 985, 986, 987, 988, 989, 990, 991, 992, 993, 994, 995, 996, 997, 998, 999, 1000, 1001, 1002, 1003, 1004] (by decide +kernel) (by decide +kernel)
set_option maxRecDepth 20000 in
theorem gL_law_X9_append : GoodIn wsL_law (wsV RL 186 RX9 yX9_append wsX9_append) := goodIn_app (goodIn_of _ (by decide +kernel)) ggL_law_X9_append
set_option maxRecDepth 20000 in
theorem ggL_law_X8_home : GoodIn wsL_law wsX8_home := goodIn_r _ [792, 31, 28, 29, 30, 782, 783, 784, 84, 87, 81, 82, 83, 12, 13, 85, 86, 970, 971, 972, 973, 974, 975, 976, 1014, 1015, 1016, 1017] (by decide +kernel) (by decide +kernel)
set_option maxRecDepth 20000 in
theorem gL_law_X8_home : GoodIn wsL_law (wsV RL 187 RX8 yX8_home wsX8_home) := goodIn_app (goodIn_of _ (by decide +kernel)) ggL_law_X8_home
set_option maxRecDepth 20000 in
theorem ggL_law_X9_home : GoodIn wsL_law wsX9_home := goodIn_r _ [796, 158, 117, 977, 978, 979, 980, 981, 982, 983, 984, 985, 986, 987, 988, 989, 990, 991, 992, 993, 994, 995, 996, 997, 998, 999, 1000, 1001, 1002, 1003, 1004] (by decide +kernel) (by decide +kernel)
set_option maxRecDepth 20000 in
theorem gL_law_X9_home : GoodIn wsL_law (wsV RL 190 RX9 yX9_home wsX9_home) := goodIn_app (goodIn_of _ (by decide +kernel)) ggL_law_X9_home
set_option maxRecDepth 20000 in
theorem ggL_law_L_word : GoodIn wsL_law wsL_word := goodIn_ca (goodIn_r _ [799, 131, 800, 801, 802, 2, 803, 137, 138, 31, 804, 30, 805, 806, 85, 86, 84, 87, 807, 704, 197, 705, 808, 809, 782, 783, 784, 970, 971, 972, 973, 974, 975, 976, 1014, 1015, 1016, 1017] (by decide +kernel) (by decide +kernel)) (goodIn_sub (fun _ h => List.mem_append_left _ (List.mem_append_left _ (List.mem_append_right _ h))) (by decide +kernel))
set_option maxRecDepth 20000 in
theorem gL_law_L_word : GoodIn wsL_law (va_wsS RL 191 yL_word wsL_word) := goodIn_app (goodIn_of _ (by decide +kernel)) ggL_law_L_word
set_option maxRecDepth 20000 in
theorem ggL_law_X9_word : GoodIn wsL_law wsX9_word := goodIn_r _ [813, 289, 158, 117, 712, 814, 241, 163, 164, 5, 165, 977, 978, 979, 980, 981, 982, 983, 984, 985, 986, 987, 988, 989, 990, 991, 992, 993, 994, 995, 996, 997, 998, 999, 1000, 1001, 1002, 1003, 1004] (by decide +kernel) (by decide +kernel)
set_option maxRecDepth 20000 in
theorem gL_law_X9_word : GoodIn wsL_law (wsV RL 193 RX9 yX9_word wsX9_word) := goodIn_app (goodIn_of _ (by decide +kernel)) ggL_law_X9_word
set_option maxRecDepth 20000 in
theorem ggL_law_L_image : GoodIn wsL_law wsL_image := goodIn_ca (goodIn_r _ [817, 293, 818, 819, 820, 2, 821, 298, 299, 306, 307, 31, 308, 309, 310, 700, 701, 702, 703, 704, 197, 705, 970, 971, 972, 973, 974, 975, 976, 1014, 1015, 1016, 1017] (by decide +kernel) (by decide +kernel)) (goodIn_sub (fun _ h => List.mem_append_right _ h) (by decide +kernel))
set_option maxRecDepth 20000 in
theorem gL_law_L_image : GoodIn wsL_law (va_wsS RL 194 yL_image wsL_image) := goodIn_app (goodIn_of _ (by decide +kernel)) ggL_law_L_image
