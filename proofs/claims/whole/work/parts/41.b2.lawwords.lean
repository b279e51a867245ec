set_option maxRecDepth 20000 in
theorem ggL_law_X7_begin : GoodIn wsL_law wsX7_begin := goodIn_r _ [370, 123, 64, 181, 182, 183, 5, 184, 125, 126, 127, 128, 129, 130, 131, 755, 756, 757, 795, 796, 797, 798, 799, 800, 801, 802, 803, 804, 805, 806, 807, 808, 809, 810, 811, 812, 813, 814, 815, 816, 817, 818, 819, 820, 821] (by decide +kernel) (by decide +kernel)
set_option maxRecDepth 20000 in
theorem gL_law_X7_begin : GoodIn wsL_law (wsV RL 111 RX7 yX7_begin wsX7_begin) := goodIn_app (goodIn_of _ (by decide +kernel)) ggL_law_X7_begin
set_option maxRecDepth 20000 in
theorem ggL_law_L_press : GoodIn wsL_law wsL_press := goodIn_ca (goodIn_ca (goodIn_r _ [373, 139, 374, 375, 376, 2, 377, 103, 104, 16, 378, 340, 341, 342, 15, 343, 116, 117, 344, 27, 379, 154, 155, 37, 156, 53, 380, 381, 382, 383, 384, 361, 364, 366, 365, 385, 386, 387, 388, 389, 390, 391, 392, 51, 52, 753, 754, 782, 783, 784, 785, 786, 787, 788, 789, 790, 791, 758, 759, 760, 761, 762, 763, 764, 765, 766, 767, 768, 769, 770, 771, 792, 793, 794] (by decide +kernel) (by decide +kernel)) (goodIn_sub (fun _ h => List.mem_append_left _ (List.mem_append_left _ (List.mem_append_right _ h))) (by decide +kernel))) (goodIn_sub (fun _ h => List.mem_append_left _ (List.mem_append_right _ h)) (by decide +kernel))
set_option maxRecDepth 20000 in
theorem gL_law_L_press : GoodIn wsL_law (va_wsS RL 112 yL_press wsL_press) := goodIn_app (goodIn_of _ (by decide +kernel)) ggL_law_L_press
set_option maxRecDepth 20000 in
theorem ggL_law_X7_press : GoodIn wsL_law wsX7_press := goodIn_r _ [396, 123, 64, 397, 398, 399, 5, 400, 125, 126, 127, 128, 129, 130, 131, 193, 194, 195, 63, 196, 84, 755, 756, 757, 795, 796, 797, 798, 799, 800, 801, 802, 803, 804, 805, 806, 807, 808, 809, 810, 811, 812, 813, 814, 815, 816, 817, 818, 819, 820, 821] (by decide +kernel) (by decide +kernel)
set_option maxRecDepth 20000 in
theorem gL_law_X7_press : GoodIn wsL_law (wsV RL 114 RX7 yX7_press wsX7_press) := goodIn_app (goodIn_of _ (by decide +kernel)) ggL_law_X7_press
set_option maxRecDepth 20000 in
theorem ggL_law_L_put : GoodIn wsL_law wsL_put := goodIn_ca (goodIn_ca (goodIn_ca (goodIn_r _ [403, 139, 404, 405, 406, 2, 407, 101, 102, 103, 104, 16, 408, 145, 409, 340, 341, 342, 15, 343, 116, 117, 344, 27, 109, 110, 111, 379, 154, 155, 37, 156, 53, 410, 390, 391, 392, 51, 52, 112, 113, 114, 115, 118, 23, 753, 754, 792, 793, 794, 772, 773, 774, 775, 776, 758, 759, 760, 761, 762, 763, 764, 765, 766, 767, 768, 769, 770, 771, 782, 783, 784, 785, 786, 787, 788, 789, 790, 791] (by decide +kernel) (by decide +kernel)) (goodIn_sub (fun _ h => List.mem_append_left _ (List.mem_append_left _ (List.mem_append_left _ (List.mem_append_right _ h)))) (by decide +kernel))) (goodIn_sub (fun _ h => List.mem_append_left _ (List.mem_append_left _ (List.mem_append_right _ h))) (by decide +kernel))) (goodIn_sub (fun _ h => List.mem_append_left _ (List.mem_append_right _ h)) (by decide +kernel))
set_option maxRecDepth 20000 in
theorem gL_law_L_put : GoodIn wsL_law (va_wsS RL 115 yL_put wsL_put) := goodIn_app (goodIn_of _ (by decide +kernel)) ggL_law_L_put
set_option maxRecDepth 20000 in
theorem ggL_law_X7_put : GoodIn wsL_law wsX7_put := goodIn_r _ [414, 123, 64, 397, 398, 399, 5, 400, 125, 126, 127, 128, 129, 130, 131, 193, 194, 195, 63, 196, 84, 755, 756, 757, 795, 796, 797, 798, 799, 800, 801, 802, 803, 804, 805, 806, 807, 808, 809, 810, 811, 812, 813, 814, 815, 816, 817, 818, 819, 820, 821] (by decide +kernel) (by decide +kernel)
set_option maxRecDepth 20000 in
theorem gL_law_X7_put : GoodIn wsL_law (wsV RL 118 RX7 yX7_put wsX7_put) := goodIn_app (goodIn_of _ (by decide +kernel)) ggL_law_X7_put
set_option maxRecDepth 20000 in
theorem ggL_law_L_steal : GoodIn wsL_law wsL_steal := goodIn_ca (goodIn_ca (goodIn_ca (goodIn_r _ [417, 139, 418, 419, 420, 2, 421, 101, 102, 103, 104, 16, 422, 423, 340, 341, 342, 15, 343, 116, 117, 344, 27, 109, 110, 111, 379, 154, 155, 37, 156, 53, 410, 390, 391, 392, 51, 52, 424, 425, 426, 50, 427, 354, 428, 429, 430, 431, 432, 297, 220, 298, 753, 754, 782, 783, 784, 785, 786, 787, 788, 789, 790, 791, 792, 793, 794, 758, 759, 760, 761, 762, 763, 764, 765, 766, 767, 768, 769, 770, 771] (by decide +kernel) (by decide +kernel)) (goodIn_sub (fun _ h => List.mem_append_left _ (List.mem_append_left _ (List.mem_append_left _ (List.mem_append_right _ h)))) (by decide +kernel))) (goodIn_sub (fun _ h => List.mem_append_left _ (List.mem_append_left _ (List.mem_append_right _ h))) (by decide +kernel))) (goodIn_sub (fun _ h => List.mem_append_left _ (List.mem_append_right _ h)) (by decide +kernel))
set_option maxRecDepth 20000 in
theorem gL_law_L_steal : GoodIn wsL_law (va_wsS RL 119 yL_steal wsL_steal) := goodIn_app (goodIn_of _ (by decide +kernel)) ggL_law_L_steal
set_option maxRecDepth 20000 in
theorem ggL_law_X7_steal : GoodIn wsL_law wsX7_steal := goodIn_r _ [436, 123, 64, 308, 297, 220, 298, 397, 398, 399, 5, 400, 125, 126, 127, 128, 129, 130, 131, 193, 194, 195, 63, 196, 84, 755, 756, 757, 795, 796, 797, 798, 799, 800, 801, 802, 803, 804, 805, 806, 807, 808, 809, 810, 811, 812, 813, 814, 815, 816, 817, 818, 819, 820, 821] (by decide +kernel) (by decide +kernel)
set_option maxRecDepth 20000 in
theorem gL_law_X7_steal : GoodIn wsL_law (wsV RL 121 RX7 yX7_steal wsX7_steal) := goodIn_app (goodIn_of _ (by decide +kernel)) ggL_law_X7_steal
set_option maxRecDepth 20000 in
theorem ggL_law_L_end : GoodIn wsL_law wsL_end := goodIn_ca (goodIn_ca (goodIn_ca (goodIn_r _ [439, 139, 440, 441, 442, 2, 443, 101, 102, 103, 104, 16, 340, 341, 342, 15, 343, 116, 117, 344, 27, 109, 110, 111, 379, 154, 155, 37, 156, 53, 444, 445, 446, 447, 448, 449, 450, 451, 452, 453, 299, 113, 114, 115, 118, 23, 454, 455, 456, 457, 458, 459, 460, 461, 390, 391, 392, 51, 52, 753, 754, 758, 759, 760, 761, 762, 763, 764, 765, 766, 767, 768, 769, 770, 771, 782, 783, 784, 785, 786, 787, 788, 789, 790, 791, 792, 793, 794, 772, 773, 774, 775, 776] (by decide +kernel) (by decide +kernel)) (goodIn_sub (fun _ h => List.mem_append_left _ (List.mem_append_left _ (List.mem_append_left _ (List.mem_append_right _ h)))) (by decide +kernel))) (goodIn_sub (fun _ h => List.mem_append_left _ (List.mem_append_left _ (List.mem_append_right _ h))) (by decide +kernel))) (goodIn_sub (fun _ h => List.mem_append_left _ (List.mem_append_right _ h)) (by decide +kernel))
set_option maxRecDepth 20000 in
theorem gL_law_L_end : GoodIn wsL_law (va_wsS RL 122 yL_end wsL_end) := goodIn_app (goodIn_of _ (by decide +kernel)) ggL_law_L_end
set_option maxRecDepth 20000 in
theorem ggL_law_X7_end : GoodIn wsL_law wsX7_end := goodIn_r _ [465, 123, 64, 397, 398, 399, 5, 400, 125, 126, 127, 128, 129, 130, 131, 193, 194, 195, 63, 196, 84, 466, 467, 468, 469, 80, 470, 70, 75, 72, 73, 471, 472, 473, 474, 755, 756, 757, 795, 796, 797, 798, 799, 800, 801, 802, 803, 804, 805, 806, 807, 808, 809, 810, 811, 812, 813, 814, 815, 816, 817, 818, 819, 820, 821] (by decide +kernel) (by decide +kernel)
set_option maxRecDepth 20000 in
theorem gL_law_X7_end : GoodIn wsL_law (wsV RL 124 RX7 yX7_end wsX7_end) := goodIn_app (goodIn_of _ (by decide +kernel)) ggL_law_X7_end
