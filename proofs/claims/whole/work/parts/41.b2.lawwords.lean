set_option maxRecDepth 20000 in
theorem ggL_law_X7_begin : GoodIn wsL_law wsX7_begin := goodIn_r _ [365, 116, 64, 181, 182, 183, 5, 184, 118, 119, 120, 121, 122, 123, 124, 755, 756, 757, 795, 796, 797, 798, 799, 800, 801, 802, 803, 804, 805, 806, 807, 808, 809, 810, 811, 812, 813, 814, 815, 816, 817, 818, 819, 820, 821] (by decide +kernel) (by decide +kernel)
set_option maxRecDepth 20000 in
theorem gL_law_X7_begin : GoodIn wsL_law (wsV RL 111 RX7 yX7_begin wsX7_begin) := goodIn_app (goodIn_of _ (by decide +kernel)) ggL_law_X7_begin
set_option maxRecDepth 20000 in
theorem ggL_law_L_press : GoodIn wsL_law wsL_press := goodIn_ca (goodIn_ca (goodIn_r _ [368, 132, 369, 370, 371, 2, 372, 103, 104, 16, 373, 374, 375, 376, 15, 377, 147, 138, 378, 27, 379, 154, 155, 37, 156, 53, 380, 381, 382, 383, 384, 356, 359, 361, 360, 385, 386, 387, 388, 389, 390, 391, 392, 51, 52, 753, 754, 782, 783, 784, 785, 786, 787, 788, 789, 790, 791, 758, 759, 760, 761, 762, 763, 764, 765, 766, 767, 768, 769, 770, 771, 792, 793, 794] (by decide +kernel) (by decide +kernel)) (goodIn_sub (fun _ h => List.mem_append_left _ (List.mem_append_left _ (List.mem_append_right _ h))) (by decide +kernel))) (goodIn_sub (fun _ h => List.mem_append_right _ h) (by decide +kernel))
set_option maxRecDepth 20000 in
theorem gL_law_L_press : GoodIn wsL_law (va_wsS RL 112 yL_press wsL_press) := goodIn_app (goodIn_of _ (by decide +kernel)) ggL_law_L_press
set_option maxRecDepth 20000 in
theorem ggL_law_X7_press : GoodIn wsL_law wsX7_press := goodIn_r _ [396, 116, 64, 397, 398, 399, 5, 400, 118, 119, 120, 121, 122, 123, 124, 193, 194, 195, 63, 196, 84, 755, 756, 757, 795, 796, 797, 798, 799, 800, 801, 802, 803, 804, 805, 806, 807, 808, 809, 810, 811, 812, 813, 814, 815, 816, 817, 818, 819, 820, 821] (by decide +kernel) (by decide +kernel)
set_option maxRecDepth 20000 in
theorem gL_law_X7_press : GoodIn wsL_law (wsV RL 114 RX7 yX7_press wsX7_press) := goodIn_app (goodIn_of _ (by decide +kernel)) ggL_law_X7_press
set_option maxRecDepth 20000 in
theorem ggL_law_L_put : GoodIn wsL_law wsL_put := goodIn_ca (goodIn_ca (goodIn_ca (goodIn_r _ [403, 132, 404, 405, 406, 2, 407, 101, 102, 103, 104, 16, 408, 139, 409, 374, 375, 376, 15, 377, 147, 138, 378, 27, 109, 110, 111, 379, 154, 155, 37, 156, 53, 410, 390, 391, 392, 51, 52, 143, 144, 145, 146, 148, 23, 753, 754, 792, 793, 794, 772, 773, 774, 775, 776, 758, 759, 760, 761, 762, 763, 764, 765, 766, 767, 768, 769, 770, 771, 782, 783, 784, 785, 786, 787, 788, 789, 790, 791] (by decide +kernel) (by decide +kernel)) (goodIn_sub (fun _ h => List.mem_append_left _ (List.mem_append_left _ (List.mem_append_left _ (List.mem_append_right _ h)))) (by decide +kernel))) (goodIn_sub (fun _ h => List.mem_append_left _ (List.mem_append_left _ (List.mem_append_right _ h))) (by decide +kernel))) (goodIn_sub (fun _ h => List.mem_append_right _ h) (by decide +kernel))
set_option maxRecDepth 20000 in
theorem gL_law_L_put : GoodIn wsL_law (va_wsS RL 115 yL_put wsL_put) := goodIn_app (goodIn_of _ (by decide +kernel)) ggL_law_L_put
set_option maxRecDepth 20000 in
theorem ggL_law_X7_put : GoodIn wsL_law wsX7_put := goodIn_r _ [414, 116, 64, 397, 398, 399, 5, 400, 118, 119, 120, 121, 122, 123, 124, 193, 194, 195, 63, 196, 84, 755, 756, 757, 795, 796, 797, 798, 799, 800, 801, 802, 803, 804, 805, 806, 807, 808, 809, 810, 811, 812, 813, 814, 815, 816, 817, 818, 819, 820, 821] (by decide +kernel) (by decide +kernel)
set_option maxRecDepth 20000 in
theorem gL_law_X7_put : GoodIn wsL_law (wsV RL 118 RX7 yX7_put wsX7_put) := goodIn_app (goodIn_of _ (by decide +kernel)) ggL_law_X7_put
set_option maxRecDepth 20000 in
theorem ggL_law_L_steal : GoodIn wsL_law wsL_steal := goodIn_ca (goodIn_ca (goodIn_ca (goodIn_r _ [417, 132, 418, 419, 420, 2, 421, 101, 102, 103, 104, 16, 422, 423, 374, 375, 376, 15, 377, 147, 138, 378, 27, 109, 110, 111, 379, 154, 155, 37, 156, 53, 410, 390, 391, 392, 51, 52, 424, 425, 426, 50, 427, 349, 428, 429, 430, 431, 432, 297, 220, 298, 753, 754, 782, 783, 784, 785, 786, 787, 788, 789, 790, 791, 792, 793, 794, 758, 759, 760, 761, 762, 763, 764, 765, 766, 767, 768, 769, 770, 771] (by decide +kernel) (by decide +kernel)) (goodIn_sub (fun _ h => List.mem_append_left _ (List.mem_append_left _ (List.mem_append_left _ (List.mem_append_right _ h)))) (by decide +kernel))) (goodIn_sub (fun _ h => List.mem_append_left _ (List.mem_append_left _ (List.mem_append_right _ h))) (by decide +kernel))) (goodIn_sub (fun _ h => List.mem_append_right _ h) (by decide +kernel))
set_option maxRecDepth 20000 in
theorem gL_law_L_steal : GoodIn wsL_law (va_wsS RL 119 yL_steal wsL_steal) := goodIn_app (goodIn_of _ (by decide +kernel)) ggL_law_L_steal
set_option maxRecDepth 20000 in
theorem ggL_law_X7_steal : GoodIn wsL_law wsX7_steal := goodIn_r _ [436, 116, 64, 308, 297, 220, 298, 397, 398, 399, 5, 400, 118, 119, 120, 121, 122, 123, 124, 193, 194, 195, 63, 196, 84, 755, 756, 757, 795, 796, 797, 798, 799, 800, 801, 802, 803, 804, 805, 806, 807, 808, 809, 810, 811, 812, 813, 814, 815, 816, 817, 818, 819, 820, 821] (by decide +kernel) (by decide +kernel)
set_option maxRecDepth 20000 in
theorem gL_law_X7_steal : GoodIn wsL_law (wsV RL 121 RX7 yX7_steal wsX7_steal) := goodIn_app (goodIn_of _ (by decide +kernel)) ggL_law_X7_steal
set_option maxRecDepth 20000 in
theorem ggL_law_L_end : GoodIn wsL_law wsL_end := goodIn_ca (goodIn_ca (goodIn_ca (goodIn_r _ [439, 132, 440, 441, 442, 2, 443, 101, 102, 103, 104, 16, 374, 375, 376, 15, 377, 147, 138, 378, 27, 109, 110, 111, 379, 154, 155, 37, 156, 53, 444, 445, 446, 447, 448, 449, 450, 451, 452, 453, 299, 144, 145, 146, 148, 23, 454, 455, 456, 457, 458, 459, 460, 461, 390, 391, 392, 51, 52, 753, 754, 758, 759, 760, 761, 762, 763, 764, 765, 766, 767, 768, 769, 770, 771, 782, 783, 784, 785, 786, 787, 788, 789, 790, 791, 792, 793, 794, 772, 773, 774, 775, 776] (by decide +kernel) (by decide +kernel)) (goodIn_sub (fun _ h => List.mem_append_left _ (List.mem_append_left _ (List.mem_append_left _ (List.mem_append_right _ h)))) (by decide +kernel))) (goodIn_sub (fun _ h => List.mem_append_left _ (List.mem_append_left _ (List.mem_append_right _ h))) (by decide +kernel))) (goodIn_sub (fun _ h => List.mem_append_right _ h) (by decide +kernel))
set_option maxRecDepth 20000 in
theorem gL_law_L_end : GoodIn wsL_law (va_wsS RL 122 yL_end wsL_end) := goodIn_app (goodIn_of _ (by decide +kernel)) ggL_law_L_end
set_option maxRecDepth 20000 in
theorem ggL_law_X7_end : GoodIn wsL_law wsX7_end := goodIn_r _ [465, 116, 64, 397, 398, 399, 5, 400, 118, 119, 120, 121, 122, 123, 124, 193, 194, 195, 63, 196, 84, 466, 467, 468, 469, 80, 470, 70, 75, 72, 73, 471, 472, 473, 474, 755, 756, 757, 795, 796, 797, 798, 799, 800, 801, 802, 803, 804, 805, 806, 807, 808, 809, 810, 811, 812, 813, 814, 815, 816, 817, 818, 819, 820, 821] (by decide +kernel) (by decide +kernel)
set_option maxRecDepth 20000 in
theorem gL_law_X7_end : GoodIn wsL_law (wsV RL 124 RX7 yX7_end wsX7_end) := goodIn_app (goodIn_of _ (by decide +kernel)) ggL_law_X7_end
