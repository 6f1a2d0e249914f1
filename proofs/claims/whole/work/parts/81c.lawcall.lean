set_option maxRecDepth 20000 in
theorem ggL_law_X9_turn : GoodIn wsL_law wsX9_turn := goodIn_r _ [527, 107, 528, 158, 529, 530, 531, 5, 532, 533, 534, 535, 536, 537, 501, 163, 164, 165, 538, 539, 540, 241, 977, 978, 979, 980, 981, 982, 983, 984, 985, 986, 987, 988, 989, 990, 991, 992, 993, 994, 995, 996, 997, 998, 999, 1000, 1001, 1002, 1003, 1004] (by decide +kernel) (by decide +kernel)
set_option maxRecDepth 20000 in
theorem gL_law_X9_turn : GoodIn wsL_law (wsV RL 153 RX9 yX9_turn wsX9_turn) := goodIn_app (goodIn_of _ (by decide +kernel)) ggL_law_X9_turn
set_option maxRecDepth 20000 in
theorem ggL_law_L_curvature : GoodIn wsL_law wsL_curvature := goodIn_ca (goodIn_r _ [543, 131, 544, 545, 546, 2, 547, 515, 516, 517, 518, 137, 138, 519, 520, 521, 522, 22, 523, 311, 312, 313, 20, 314, 315, 390, 391, 392, 393, 394, 395, 396, 397, 398, 399, 400, 401, 402, 403, 404, 405, 65, 1024, 1025, 1026, 970, 971, 972, 973, 974, 975, 976, 1009, 1010, 1011] (by decide +kernel) (by decide +kernel)) (goodIn_sub (fun _ h => List.mem_append_left _ (List.mem_append_left _ (List.mem_append_right _ h))) (by decide +kernel))
set_option maxRecDepth 20000 in
theorem gL_law_L_curvature : GoodIn wsL_law (va_wsS RL 154 yL_curvature wsL_curvature) := goodIn_app (goodIn_of _ (by decide +kernel)) ggL_law_L_curvature
set_option maxRecDepth 20000 in
theorem ggL_law_X9_curvature : GoodIn wsL_law wsX9_curvature := goodIn_r _ [551, 158, 107, 529, 530, 531, 5, 532, 533, 534, 535, 536, 537, 501, 163, 164, 165, 977, 978, 979, 980, 981, 982, 983, 984, 985, 986, 987, 988, 989, 990, 991, 992, 993, 994, 995, 996, 997, 998, 999, 1000, 1001, 1002, 1003, 1004] (by decide +kernel) (by decide +kernel)
set_option maxRecDepth 20000 in
theorem gL_law_X9_curvature : GoodIn wsL_law (wsV RL 156 RX9 yX9_curvature wsX9_curvature) := goodIn_app (goodIn_of _ (by decide +kernel)) ggL_law_X9_curvature
set_option maxRecDepth 20000 in
theorem ggL_law_L_radius : GoodIn wsL_law wsL_radius := goodIn_ca (goodIn_r _ [554, 131, 555, 556, 557, 2, 558, 515, 516, 517, 518, 137, 138, 519, 520, 521, 522, 22, 523, 311, 312, 313, 20, 314, 315, 390, 391, 392, 393, 394, 395, 396, 397, 398, 399, 400, 401, 402, 403, 404, 405, 65, 1024, 1025, 1026, 970, 971, 972, 973, 974, 975, 976, 1009, 1010, 1011] (by decide +kernel) (by decide +kernel)) (goodIn_sub (fun _ h => List.mem_append_left _ (List.mem_append_left _ (List.mem_append_right _ h))) (by decide +kernel))
set_option maxRecDepth 20000 in
theorem gL_law_L_radius : GoodIn wsL_law (va_wsS RL 157 yL_radius wsL_radius) := goodIn_app (goodIn_of _ (by decide +kernel)) ggL_law_L_radius
set_option maxRecDepth 20000 in
theorem ggL_law_X9_radius : GoodIn wsL_law wsX9_radius := goodIn_r _ [562, 158, 107, 529, 530, 531, 5, 532, 533, 534, 535, 536, 537, 501, 163, 164, 165, 977, 978, 979, 980, 981, 982, 983, 984, 985, 986, 987, 988, 989, 990, 991, 992, 993, 994, 995, 996, 997, 998, 999, 1000, 1001, 1002, 1003, 1004] (by decide +kernel) (by decide +kernel)
set_option maxRecDepth 20000 in
theorem gL_law_X9_radius : GoodIn wsL_law (wsV RL 160 RX9 yX9_radius wsX9_radius) := goodIn_app (goodIn_of _ (by decide +kernel)) ggL_law_X9_radius
set_option maxRecDepth 20000 in
theorem ggL_law_L_root : GoodIn wsL_law wsL_root := goodIn_ca (goodIn_r _ [565, 131, 566, 567, 568, 2, 569, 137, 138, 519, 520, 521, 522, 22, 523, 311, 312, 313, 20, 314, 315, 390, 391, 392, 393, 394, 395, 396, 397, 398, 399, 400, 401, 402, 403, 404, 405, 65, 1024, 1025, 1026, 970, 971, 972, 973, 974, 975, 976, 1009, 1010, 1011] (by decide +kernel) (by decide +kernel)) (goodIn_sub (fun _ h => List.mem_append_left _ (List.mem_append_left _ (List.mem_append_right _ h))) (by decide +kernel))
set_option maxRecDepth 20000 in
theorem gL_law_L_root : GoodIn wsL_law (va_wsS RL 161 yL_root wsL_root) := goodIn_app (goodIn_of _ (by decide +kernel)) ggL_law_L_root
set_option maxRecDepth 20000 in
theorem ggL_law_X9_root : GoodIn wsL_law wsX9_root := goodIn_r _ [573, 158, 108, 529, 530, 531, 5, 532, 533, 534, 535, 536, 537, 501, 163, 164, 165, 574, 575, 576, 577, 107, 538, 539, 540, 241, 977, 978, 979, 980, 981, 982, 983, 984, 985, 986, 987, 988, 989, 990, 991, 992, 993, 994, 995, 996, 997, 998, 999, 1000, 1001, 1002, 1003, 1004] (by decide +kernel) (by decide +kernel)
set_option maxRecDepth 20000 in
theorem gL_law_X9_root : GoodIn wsL_law (wsV RL 163 RX9 yX9_root wsX9_root) := goodIn_app (goodIn_of _ (by decide +kernel)) ggL_law_X9_root
set_option maxRecDepth 20000 in
theorem ggL_law_L_count : GoodIn wsL_law wsL_count := goodIn_ca (goodIn_ca (goodIn_ca (goodIn_r _ [580, 131, 293, 132, 581, 582, 583, 2, 584, 585, 586, 587, 588, 298, 299, 139, 140, 519, 520, 521, 522, 137, 138, 22, 523, 311, 312, 313, 20, 314, 315, 390, 391, 392, 393, 394, 395, 396, 397, 398, 399, 400, 401, 402, 403, 404, 405, 65, 589, 465, 590, 591, 476, 477, 592, 365, 366, 367, 593, 594, 595, 596, 597, 598, 599, 491, 492, 493, 471, 1024, 1025, 1026, 970, 971, 972, 973, 974, 975, 976, 1009, 1010, 1011] (by decide +kernel) (by decide +kernel)) (goodIn_sub (fun _ h => List.mem_append_right _ h) (by decide +kernel))) (goodIn_sub (fun _ h => List.mem_append_left _ (List.mem_append_right _ h)) (by decide +kernel))) (goodIn_sub (fun _ h => List.mem_append_left _ (List.mem_append_left _ (List.mem_append_right _ h))) (by decide +kernel))
set_option maxRecDepth 20000 in
theorem gL_law_L_count : GoodIn wsL_law (va_wsS RL 164 yL_count wsL_count) := goodIn_app (goodIn_of _ (by decide +kernel)) ggL_law_L_count
set_option maxRecDepth 20000 in
theorem ggL_law_X9_count : GoodIn wsL_law wsX9_count := goodIn_r _ [603, 604, 605, 606, 5, 607, 608, 158, 108, 109, 110, 111, 534, 535, 536, 537, 501, 163, 164, 165, 574, 575, 576, 577, 107, 538, 539, 540, 241, 977, 978, 979, 980, 981, 982, 983, 984, 985, 986, 987, 988, 989, 990, 991, 992, 993, 994, 995, 996, 997, 998, 999, 1000, 1001, 1002, 1003, 1004] (by decide +kernel) (by decide +kernel)
set_option maxRecDepth 20000 in
theorem gL_law_X9_count : GoodIn wsL_law (wsV RL 166 RX9 yX9_count wsX9_count) := goodIn_app (goodIn_of _ (by decide +kernel)) ggL_law_X9_count
set_option maxRecDepth 20000 in
theorem ggL_law_L_countAnew : GoodIn wsL_law wsL_countAnew := goodIn_ca (goodIn_ca (goodIn_ca (goodIn_r _ [611, 131, 293, 132, 612, 613, 614, 2, 615, 585, 586, 587, 588, 298, 299, 139, 140, 519, 520, 521, 522, 137, 138, 22, 523, 311, 312, 313, 20, 314, 315, 390, 391, 392, 393, 394, 395, 396, 397, 398, 399, 400, 401, 402, 403, 404, 405, 65, 616, 465, 617, 618, 476, 593, 594, 595, 596, 619, 620, 621, 471, 622, 623, 624, 625, 626, 627, 628, 629, 630, 631, 632, 633, 1024, 1025, 1026, 970, 971, 972, 973, 974, 975, 976, 1009, 1010, 1011] (by decide +kernel) (by decide +kernel)) (goodIn_sub (fun _ h => List.mem_append_right _ h) (by decide +kernel))) (goodIn_sub (fun _ h => List.mem_append_left _ (List.mem_append_right _ h)) (by decide +kernel))) (goodIn_sub (fun _ h => List.mem_append_left _ (List.mem_append_left _ (List.mem_append_right _ h))) (by decide +kernel))
set_option maxRecDepth 20000 in
theorem gL_law_L_countAnew : GoodIn wsL_law (va_wsS RL 167 yL_countAnew wsL_countAnew) := goodIn_app (goodIn_of _ (by decide +kernel)) ggL_law_L_countAnew
set_option maxRecDepth 20000 in
theorem ggL_law_X9_countAnew : GoodIn wsL_law wsX9_countAnew := goodIn_r _ [637, 604, 605, 606, 5, 607, 608, 158, 108, 109, 110, 111, 534, 535, 536, 537, 501, 163, 164, 165, 574, 575, 576, 577, 107, 538, 539, 540, 241, 977, 978, 979, 980, 981, 982, 983, 984, 985, 986, 987, 988, 989, 990, 991, 992, 993, 994, 995, 996, 997, 998, 999, 1000, 1001, 1002, 1003, 1004] (by decide +kernel) (by decide +kernel)
set_option maxRecDepth 20000 in
theorem gL_law_X9_countAnew : GoodIn wsL_law (wsV RL 169 RX9 yX9_countAnew wsX9_countAnew) := goodIn_app (goodIn_of _ (by decide +kernel)) ggL_law_X9_countAnew
set_option maxRecDepth 20000 in
theorem ggL_law_L_remainders : GoodIn wsL_law wsL_remainders := goodIn_ca (goodIn_ca (goodIn_r _ [640, 131, 293, 641, 642, 643, 2, 644, 298, 299, 26, 519, 520, 521, 522, 137, 138, 22, 523, 311, 312, 313, 20, 314, 315, 390, 391, 392, 393, 394, 395, 396, 397, 398, 399, 400, 401, 402, 403, 404, 405, 65, 645, 25, 646, 647, 79, 80, 648, 649, 47, 650, 651, 652, 653, 654, 655, 656, 657, 658, 659, 660, 661, 662, 663, 664, 665, 666, 667, 627, 668, 669, 670, 631, 671, 633, 672, 673, 674, 675, 676, 677, 678, 679, 680, 970, 971, 972, 973, 974, 975, 976, 1024, 1025, 1026, 1009, 1010, 1011, 1012, 1013] (by decide +kernel) (by decide +kernel)) (goodIn_sub (fun _ h => List.mem_append_right _ h) (by decide +kernel))) (goodIn_sub (fun _ h => List.mem_append_left _ (List.mem_append_left _ (List.mem_append_right _ h))) (by decide +kernel))
set_option maxRecDepth 20000 in
theorem gL_law_L_remainders : GoodIn wsL_law (va_wsS RL 170 yL_remainders wsL_remainders) := goodIn_app (goodIn_of _ (by decide +kernel)) ggL_law_L_remainders
set_option maxRecDepth 20000 in
theorem ggL_law_X9_remainders : GoodIn wsL_law wsX9_remainders := goodIn_r _ [684, 241, 685, 158, 113, 107, 114, 534, 535, 536, 5, 537, 501, 163, 164, 165, 686, 687, 688, 977, 978, 979, 980, 981, 982, 983, 984, 985, 986, 987, 988, 989, 990, 991, 992, 993, 994, 995, 996, 997, 998, 999, 1000, 1001, 1002, 1003, 1004] (by decide +kernel) (by decide +kernel)
set_option maxRecDepth 20000 in
theorem gL_law_X9_remainders : GoodIn wsL_law (wsV RL 172 RX9 yX9_remainders wsX9_remainders) := goodIn_app (goodIn_of _ (by decide +kernel)) ggL_law_X9_remainders
