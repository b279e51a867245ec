set_option maxRecDepth 20000 in
theorem ggL_law_X5_init : GoodIn wsL_law wsX5_init := goodIn_r _ [9, 10, 11, 12, 13, 14, 15, 16, 17, 18, 19, 20, 21, 22, 23, 24, 25, 26, 27, 28, 29, 30, 31, 32, 33, 34, 35, 36, 37, 38, 39, 40, 41, 42, 43, 44, 45, 46, 47, 48, 49, 50, 51, 52, 53, 54, 55, 56, 758, 759, 760, 761, 762, 763, 764, 765, 766, 767, 768, 769, 770, 771, 753, 754, 772, 773, 774, 775, 776, 777, 778, 779, 780, 781, 782, 783, 784, 785, 786, 787, 788, 789, 790, 791, 792, 793, 794] (by decide +kernel) (by decide +kernel)
set_option maxRecDepth 20000 in
theorem gL_law_X5_init : GoodIn wsL_law (wsX5_init) := ggL_law_X5_init
set_option maxRecDepth 20000 in
theorem ggL_law_X7_init : GoodIn wsL_law wsX7_init := goodIn_r _ [59, 60, 11, 12, 61, 62, 63, 64, 65, 66, 67, 68, 69, 70, 71, 72, 73, 74, 75, 76, 77, 78, 79, 80, 81, 82, 83, 84, 85, 86, 87, 88, 89, 90, 91, 795, 796, 797, 798, 799, 800, 801, 802, 803, 804, 805, 806, 807, 808, 809, 810, 811, 812, 813, 814, 815, 816, 817, 818, 819, 820, 821, 755, 756, 757] (by decide +kernel) (by decide +kernel)
set_option maxRecDepth 20000 in
theorem gL_law_X7_init : GoodIn wsL_law (wsX7_init) := ggL_law_X7_init
set_option maxRecDepth 20000 in
theorem ggL_law_L_addPlayer : GoodIn wsL_law wsL_addPlayer := goodIn_ca (goodIn_ca (goodIn_ca (goodIn_r _ [95, 96, 97, 98, 99, 2, 100, 101, 102, 103, 104, 105, 16, 106, 107, 108, 109, 110, 111, 112, 113, 114, 15, 115, 116, 117, 118, 23, 753, 754, 758, 759, 760, 761, 762, 763, 764, 765, 766, 767, 768, 769, 770, 771, 772, 773, 774, 775, 776] (by decide +kernel) (by decide +kernel)) (goodIn_sub (fun _ h => List.mem_append_left _ (List.mem_append_left _ (List.mem_append_left _ (List.mem_append_right _ h)))) (by decide +kernel))) (goodIn_sub (fun _ h => List.mem_append_left _ (List.mem_append_left _ (List.mem_append_right _ h))) (by decide +kernel))) (goodIn_sub (fun _ h => List.mem_append_left _ (List.mem_append_right _ h)) (by decide +kernel))
set_option maxRecDepth 20000 in
theorem gL_law_L_addPlayer : GoodIn wsL_law (va_wsS RL 78 yL_addPlayer wsL_addPlayer) := goodIn_app (goodIn_of _ (by decide +kernel)) ggL_law_L_addPlayer
set_option maxRecDepth 20000 in
theorem ggL_law_X7_addPlayer : GoodIn wsL_law wsX7_addPlayer := goodIn_r _ [122, 123, 124, 64, 125, 126, 5, 127, 128, 129, 130, 131, 755, 756, 757, 795, 796, 797, 798, 799, 800, 801, 802, 803, 804, 805, 806, 807, 808, 809, 810, 811, 812, 813, 814, 815, 816, 817, 818, 819, 820, 821] (by decide +kernel) (by decide +kernel)
set_option maxRecDepth 20000 in
theorem gL_law_X7_addPlayer : GoodIn wsL_law (wsV RL 83 RX7 yX7_addPlayer wsX7_addPlayer) := goodIn_app (goodIn_of _ (by decide +kernel)) ggL_law_X7_addPlayer
set_option maxRecDepth 20000 in
theorem ggL_law_X7_thrown : GoodIn wsL_law wsX7_thrown := goodIn_r _ [135, 123, 755, 756, 757] (by decide +kernel) (by decide +kernel)
set_option maxRecDepth 20000 in
theorem gL_law_X7_thrown : GoodIn wsL_law (wsV RL 84 RX7 yX7_thrown wsX7_thrown) := goodIn_app (goodIn_of _ (by decide +kernel)) ggL_law_X7_thrown
set_option maxRecDepth 20000 in
theorem ggL_law_L_player : GoodIn wsL_law wsL_player := goodIn_ca (goodIn_ca (goodIn_r _ [138, 139, 140, 141, 142, 2, 143, 144, 117, 16, 108, 145, 146, 147, 148, 112, 113, 114, 15, 115, 116, 118, 23, 149, 150, 151, 152, 27, 153, 154, 155, 37, 156, 53, 157, 158, 159, 160, 51, 161, 52, 162, 163, 164, 165, 25, 166, 167, 168, 169, 170, 171, 172, 173, 174, 175, 176, 753, 754, 772, 773, 774, 775, 776, 758, 759, 760, 761, 762, 763, 764, 765, 766, 767, 768, 769, 770, 771, 782, 783, 784, 785, 786, 787, 788, 789, 790, 791, 792, 793, 794, 777, 778, 779, 780, 781] (by decide +kernel) (by decide +kernel)) (goodIn_sub (fun _ h => List.mem_append_right _ h) (by decide +kernel))) (goodIn_sub (fun _ h => List.mem_append_left _ (List.mem_append_right _ h)) (by decide +kernel))
set_option maxRecDepth 20000 in
theorem gL_law_L_player : GoodIn wsL_law (va_wsS RL 88 yL_player wsL_player) := goodIn_app (goodIn_of _ (by decide +kernel)) ggL_law_L_player
set_option maxRecDepth 20000 in
theorem ggL_law_X7_player : GoodIn wsL_law wsX7_player := goodIn_r _ [180, 123, 181, 182, 183, 5, 184, 64, 125, 126, 127, 185, 186, 187, 188, 189, 190, 191, 192, 193, 194, 195, 63, 196, 84, 197, 198, 199, 200, 201, 202, 203, 204, 128, 129, 130, 131, 755, 756, 757, 795, 796, 797, 798, 799, 800, 801, 802, 803, 804, 805, 806, 807, 808, 809, 810, 811, 812, 813, 814, 815, 816, 817, 818, 819, 820, 821] (by decide +kernel) (by decide +kernel)
set_option maxRecDepth 20000 in
theorem gL_law_X7_player : GoodIn wsL_law (wsV RL 91 RX7 yX7_player wsX7_player) := goodIn_app (goodIn_of _ (by decide +kernel)) ggL_law_X7_player
set_option maxRecDepth 20000 in
theorem ggL_law_L_buy : GoodIn wsL_law wsL_buy := goodIn_ca (goodIn_ca (goodIn_ca (goodIn_r _ [207, 139, 208, 209, 210, 2, 211, 101, 102, 103, 104, 16, 212, 108, 213, 112, 113, 114, 15, 115, 116, 117, 118, 23, 109, 110, 111, 214, 215, 216, 217, 218, 219, 220, 221, 222, 223, 224, 225, 28, 29, 226, 227, 228, 229, 230, 753, 754, 758, 759, 760, 761, 762, 763, 764, 765, 766, 767, 768, 769, 770, 771, 772, 773, 774, 775, 776] (by decide +kernel) (by decide +kernel)) (goodIn_sub (fun _ h => List.mem_append_left _ (List.mem_append_left _ (List.mem_append_left _ (List.mem_append_right _ h)))) (by decide +kernel))) (goodIn_sub (fun _ h => List.mem_append_left _ (List.mem_append_left _ (List.mem_append_right _ h))) (by decide +kernel))) (goodIn_sub (fun _ h => List.mem_append_left _ (List.mem_append_right _ h)) (by decide +kernel))
set_option maxRecDepth 20000 in
theorem gL_law_L_buy : GoodIn wsL_law (va_wsS RL 92 yL_buy wsL_buy) := goodIn_app (goodIn_of _ (by decide +kernel)) ggL_law_L_buy
set_option maxRecDepth 20000 in
theorem ggL_law_X7_buy : GoodIn wsL_law wsX7_buy := goodIn_r _ [234, 123, 64, 181, 182, 183, 5, 184, 125, 126, 127, 128, 129, 130, 131, 235, 236, 237, 63, 238, 239, 240, 219, 220, 221, 241, 242, 243, 244, 91, 755, 756, 757, 795, 796, 797, 798, 799, 800, 801, 802, 803, 804, 805, 806, 807, 808, 809, 810, 811, 812, 813, 814, 815, 816, 817, 818, 819, 820, 821] (by decide +kernel) (by decide +kernel)
set_option maxRecDepth 20000 in
theorem gL_law_X7_buy : GoodIn wsL_law (wsV RL 94 RX7 yX7_buy wsX7_buy) := goodIn_app (goodIn_of _ (by decide +kernel)) ggL_law_X7_buy
