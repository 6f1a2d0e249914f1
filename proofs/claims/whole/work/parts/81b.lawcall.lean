set_option maxRecDepth 20000 in
theorem ggL_law_L_disk : GoodIn wsL_law wsL_disk := goodIn_ca (goodIn_ca (goodIn_r _ [292, 293, 132, 294, 295, 296, 2, 297, 298, 299, 139, 140, 21, 300, 301, 302, 303, 304, 305, 306, 307, 308, 309, 310, 311, 312, 313, 20, 314, 315, 316, 317, 318, 12, 13, 319, 320, 321, 322, 323, 324, 325, 326, 327, 65, 328, 329, 330, 331, 332, 333, 334, 335, 336, 337, 338, 339, 64, 340, 200, 197, 201, 341, 342, 343, 344, 345, 346, 347, 348, 349, 350, 351, 352, 47, 353, 354, 355, 356, 357, 358, 359, 360, 361, 362, 363, 196, 198, 364, 365, 366, 367, 970, 971, 972, 973, 974, 975, 976, 1021, 1022, 1023, 1009, 1010, 1011] (by decide +kernel) (by decide +kernel)) (goodIn_sub (fun _ h => List.mem_append_right _ h) (by decide +kernel))) (goodIn_sub (fun _ h => List.mem_append_left _ (List.mem_append_right _ h)) (by decide +kernel))
set_option maxRecDepth 20000 in
theorem gL_law_L_disk : GoodIn wsL_law (va_wsS RL 129 yL_disk wsL_disk) := goodIn_app (goodIn_of _ (by decide +kernel)) ggL_law_L_disk
set_option maxRecDepth 20000 in
theorem ggL_law_X9_disk : GoodIn wsL_law wsX9_disk := goodIn_r _ [371, 372, 158, 104, 105, 106, 373, 374, 5, 375, 376, 377, 163, 164, 165, 977, 978, 979, 980, 981, 982, 983, 984, 985, 986, 987, 988, 989, 990, 991, 992, 993, 994, 995, 996, 997, 998, 999, 1000, 1001, 1002, 1003, 1004] (by decide +kernel) (by decide +kernel)
set_option maxRecDepth 20000 in
theorem gL_law_X9_disk : GoodIn wsL_law (wsV RL 132 RX9 yX9_disk wsX9_disk) := goodIn_app (goodIn_of _ (by decide +kernel)) ggL_law_X9_disk
set_option maxRecDepth 20000 in
theorem ggL_law_L_move : GoodIn wsL_law wsL_move := goodIn_ca (goodIn_ca (goodIn_r _ [380, 131, 293, 381, 382, 383, 2, 384, 137, 138, 298, 299, 21, 385, 300, 301, 302, 386, 387, 388, 389, 311, 312, 313, 20, 314, 315, 303, 304, 305, 306, 307, 308, 309, 310, 390, 391, 392, 393, 394, 395, 396, 397, 398, 399, 400, 401, 402, 403, 404, 405, 65, 316, 317, 318, 12, 13, 319, 320, 321, 406, 407, 408, 409, 970, 971, 972, 973, 974, 975, 976, 1021, 1022, 1023, 1009, 1010, 1011] (by decide +kernel) (by decide +kernel)) (goodIn_sub (fun _ h => List.mem_append_left _ (List.mem_append_left _ (List.mem_append_right _ h))) (by decide +kernel))) (goodIn_sub (fun _ h => List.mem_append_right _ h) (by decide +kernel))
set_option maxRecDepth 20000 in
theorem gL_law_L_move : GoodIn wsL_law (va_wsS RL 133 yL_move wsL_move) := goodIn_app (goodIn_of _ (by decide +kernel)) ggL_law_L_move
set_option maxRecDepth 20000 in
theorem ggL_law_X9_move : GoodIn wsL_law wsX9_move := goodIn_r _ [413, 372, 158, 106, 104, 105, 163, 164, 5, 165, 373, 374, 375, 376, 377, 977, 978, 979, 980, 981, 982, 983, 984, 985, 986, 987, 988, 989, 990, 991, 992, 993, 994, 995, 996, 997, 998, 999, 1000, 1001, 1002, 1003, 1004] (by decide +kernel) (by decide +kernel)
set_option maxRecDepth 20000 in
theorem gL_law_X9_move : GoodIn wsL_law (wsV RL 136 RX9 yX9_move wsX9_move) := goodIn_app (goodIn_of _ (by decide +kernel)) ggL_law_X9_move
set_option maxRecDepth 20000 in
theorem ggL_law_L_lie : GoodIn wsL_law wsL_lie := goodIn_ca (goodIn_ca (goodIn_r _ [416, 131, 293, 417, 418, 419, 2, 420, 137, 138, 298, 299, 386, 387, 388, 389, 21, 311, 312, 313, 20, 314, 315, 421, 422, 423, 424, 385, 390, 391, 392, 393, 394, 395, 396, 397, 398, 399, 400, 401, 402, 403, 404, 405, 65, 425, 302, 426, 427, 319, 320, 321, 970, 971, 972, 973, 974, 975, 976, 1009, 1010, 1011, 1021, 1022, 1023] (by decide +kernel) (by decide +kernel)) (goodIn_sub (fun _ h => List.mem_append_left _ (List.mem_append_left _ (List.mem_append_right _ h))) (by decide +kernel))) (goodIn_sub (fun _ h => List.mem_append_right _ h) (by decide +kernel))
set_option maxRecDepth 20000 in
theorem gL_law_L_lie : GoodIn wsL_law (va_wsS RL 137 yL_lie wsL_lie) := goodIn_app (goodIn_of _ (by decide +kernel)) ggL_law_L_lie
set_option maxRecDepth 20000 in
theorem ggL_law_X9_lie : GoodIn wsL_law wsX9_lie := goodIn_r _ [431, 372, 158, 163, 164, 5, 165, 432, 433, 434, 435, 104, 105, 106, 977, 978, 979, 980, 981, 982, 983, 984, 985, 986, 987, 988, 989, 990, 991, 992, 993, 994, 995, 996, 997, 998, 999, 1000, 1001, 1002, 1003, 1004] (by decide +kernel) (by decide +kernel)
set_option maxRecDepth 20000 in
theorem gL_law_X9_lie : GoodIn wsL_law (wsV RL 139 RX9 yX9_lie wsX9_lie) := goodIn_app (goodIn_of _ (by decide +kernel)) ggL_law_X9_lie
set_option maxRecDepth 20000 in
theorem ggL_law_L_pairs : GoodIn wsL_law wsL_pairs := goodIn_ca (goodIn_r _ [438, 293, 439, 440, 441, 2, 442, 298, 299, 21, 311, 312, 313, 20, 314, 315, 421, 422, 423, 424, 385, 386, 387, 388, 389, 390, 391, 392, 393, 394, 395, 396, 397, 398, 399, 400, 401, 402, 403, 404, 405, 65, 425, 302, 426, 427, 319, 320, 321, 970, 971, 972, 973, 974, 975, 976, 1009, 1010, 1011, 1021, 1022, 1023] (by decide +kernel) (by decide +kernel)) (goodIn_sub (fun _ h => List.mem_append_right _ h) (by decide +kernel))
set_option maxRecDepth 20000 in
theorem gL_law_L_pairs : GoodIn wsL_law (va_wsS RL 140 yL_pairs wsL_pairs) := goodIn_app (goodIn_of _ (by decide +kernel)) ggL_law_L_pairs
set_option maxRecDepth 20000 in
theorem ggL_law_X9_pairs : GoodIn wsL_law wsX9_pairs := goodIn_r _ [446, 241, 158, 372, 163, 164, 5, 165, 432, 433, 434, 435, 104, 105, 106, 977, 978, 979, 980, 981, 982, 983, 984, 985, 986, 987, 988, 989, 990, 991, 992, 993, 994, 995, 996, 997, 998, 999, 1000, 1001, 1002, 1003, 1004] (by decide +kernel) (by decide +kernel)
set_option maxRecDepth 20000 in
theorem gL_law_X9_pairs : GoodIn wsL_law (wsV RL 142 RX9 yX9_pairs wsX9_pairs) := goodIn_app (goodIn_of _ (by decide +kernel)) ggL_law_X9_pairs
set_option maxRecDepth 20000 in
theorem ggL_law_X8_draws : GoodIn wsL_law wsX8_draws := goodIn_r _ [450, 21, 17, 311, 312, 313, 20, 314, 315, 184, 16, 185, 186, 187, 188, 189, 190, 41, 191, 177, 178, 179, 42, 421, 422, 423, 2, 424, 385, 386, 387, 388, 389, 390, 391, 392, 393, 394, 395, 396, 397, 398, 399, 400, 401, 402, 403, 404, 405, 65, 425, 302, 426, 427, 319, 320, 321, 970, 971, 972, 973, 974, 975, 976, 1005, 1006, 1007, 1008, 1009, 1010, 1011, 1021, 1022, 1023] (by decide +kernel) (by decide +kernel)
set_option maxRecDepth 20000 in
theorem gL_law_X8_draws : GoodIn wsL_law (wsV RL 143 RX8 yX8_draws wsX8_draws) := goodIn_app (goodIn_of _ (by decide +kernel)) ggL_law_X8_draws
set_option maxRecDepth 20000 in
theorem ggL_law_X9_draws : GoodIn wsL_law wsX9_draws := goodIn_r _ [454, 158, 372, 101, 432, 433, 434, 5, 435, 104, 105, 106, 218, 219, 220, 221, 222, 223, 224, 225, 102, 103, 977, 978, 979, 980, 981, 982, 983, 984, 985, 986, 987, 988, 989, 990, 991, 992, 993, 994, 995, 996, 997, 998, 999, 1000, 1001, 1002, 1003, 1004] (by decide +kernel) (by decide +kernel)
set_option maxRecDepth 20000 in
theorem gL_law_X9_draws : GoodIn wsL_law (wsV RL 147 RX9 yX9_draws wsX9_draws) := goodIn_app (goodIn_of _ (by decide +kernel)) ggL_law_X9_draws
set_option maxRecDepth 20000 in
theorem ggL_law_L_gasket : GoodIn wsL_law wsL_gasket := goodIn_ca (goodIn_ca (goodIn_r _ [457, 293, 132, 458, 459, 460, 2, 461, 298, 299, 139, 140, 462, 22, 463, 464, 465, 466, 467, 468, 308, 309, 310, 469, 470, 471, 311, 312, 313, 20, 314, 315, 472, 473, 474, 12, 13, 475, 476, 6, 477, 478, 479, 480, 481, 482, 483, 484, 485, 486, 487, 488, 489, 490, 491, 492, 493, 494, 495, 496, 322, 323, 324, 325, 326, 327, 65, 328, 329, 330, 331, 332, 333, 334, 335, 336, 337, 338, 339, 64, 340, 200, 197, 201, 341, 342, 343, 344, 345, 346, 347, 348, 349, 350, 351, 352, 47, 353, 354, 355, 356, 357, 358, 359, 360, 361, 362, 363, 196, 198, 364, 365, 366, 367, 970, 971, 972, 973, 974, 975, 976, 1024, 1025, 1026, 1009, 1010, 1011] (by decide +kernel) (by decide +kernel)) (goodIn_sub (fun _ h => List.mem_append_right _ h) (by decide +kernel))) (goodIn_sub (fun _ h => List.mem_append_left _ (List.mem_append_right _ h)) (by decide +kernel))
set_option maxRecDepth 20000 in
theorem gL_law_L_gasket : GoodIn wsL_law (va_wsS RL 148 yL_gasket wsL_gasket) := goodIn_app (goodIn_of _ (by decide +kernel)) ggL_law_L_gasket
set_option maxRecDepth 20000 in
theorem ggL_law_X9_gasket : GoodIn wsL_law wsX9_gasket := goodIn_r _ [500, 241, 501, 158, 107, 502, 503, 5, 504, 505, 506, 163, 164, 165, 977, 978, 979, 980, 981, 982, 983, 984, 985, 986, 987, 988, 989, 990, 991, 992, 993, 994, 995, 996, 997, 998, 999, 1000, 1001, 1002, 1003, 1004] (by decide +kernel) (by decide +kernel)
set_option maxRecDepth 20000 in
theorem gL_law_X9_gasket : GoodIn wsL_law (wsV RL 150 RX9 yX9_gasket wsX9_gasket) := goodIn_app (goodIn_of _ (by decide +kernel)) ggL_law_X9_gasket
set_option maxRecDepth 20000 in
theorem ggL_law_L_turn : GoodIn wsL_law wsL_turn := goodIn_ca (goodIn_ca (goodIn_r _ [509, 131, 132, 510, 511, 512, 2, 513, 139, 140, 514, 515, 516, 517, 518, 137, 138, 519, 520, 521, 522, 22, 523, 311, 312, 313, 20, 314, 315, 390, 391, 392, 393, 394, 395, 396, 397, 398, 399, 400, 401, 402, 403, 404, 405, 65, 492, 465, 493, 471, 1024, 1025, 1026, 970, 971, 972, 973, 974, 975, 976, 1009, 1010, 1011] (by decide +kernel) (by decide +kernel)) (goodIn_sub (fun _ h => List.mem_append_left _ (List.mem_append_right _ h)) (by decide +kernel))) (goodIn_sub (fun _ h => List.mem_append_left _ (List.mem_append_left _ (List.mem_append_right _ h))) (by decide +kernel))
set_option maxRecDepth 20000 in
theorem gL_law_L_turn : GoodIn wsL_law (va_wsS RL 151 yL_turn wsL_turn) := goodIn_app (goodIn_of _ (by decide +kernel)) ggL_law_L_turn
