set_option maxRecDepth 20000 in
theorem ggL_law_X7_leader : GoodIn wsL_law wsX7_leader := goodIn_r _ [694, 123, 64, 125, 126, 5, 127, 128, 129, 130, 131, 695, 696, 697, 698, 755, 756, 757, 795, 796, 797, 798, 799, 800, 801, 802, 803, 804, 805, 806, 807, 808, 809, 810, 811, 812, 813, 814, 815, 816, 817, 818, 819, 820, 821] (by decide +kernel) (by decide +kernel)
set_option maxRecDepth 20000 in
theorem gL_law_X7_leader : GoodIn wsL_law (wsV RL 139 RX7 yX7_leader wsX7_leader) := goodIn_app (goodIn_of _ (by decide +kernel)) ggL_law_X7_leader
set_option maxRecDepth 20000 in
theorem ggL_law_L_needs : GoodIn wsL_law wsL_needs := goodIn_ca (goodIn_ca (goodIn_r _ [701, 139, 702, 703, 704, 2, 705, 144, 117, 101, 102, 16, 106, 339, 408, 109, 110, 111, 379, 154, 155, 37, 156, 53, 706, 386, 387, 388, 364, 389, 390, 391, 392, 51, 52, 707, 708, 709, 710, 362, 366, 711, 219, 220, 221, 384, 385, 753, 754, 758, 759, 760, 761, 762, 763, 764, 765, 766, 767, 768, 769, 770, 771, 792, 793, 794, 782, 783, 784, 785, 786, 787, 788, 789, 790, 791] (by decide +kernel) (by decide +kernel)) (goodIn_sub (fun _ h => List.mem_append_right _ h) (by decide +kernel))) (goodIn_sub (fun _ h => List.mem_append_left _ (List.mem_append_left _ (List.mem_append_left _ (List.mem_append_right _ h)))) (by decide +kernel))
set_option maxRecDepth 20000 in
theorem gL_law_L_needs : GoodIn wsL_law (va_wsS RL 140 yL_needs wsL_needs) := goodIn_app (goodIn_of _ (by decide +kernel)) ggL_law_L_needs
set_option maxRecDepth 20000 in
theorem ggL_law_X7_needs : GoodIn wsL_law wsX7_needs := goodIn_r _ [715, 123, 64, 308, 297, 220, 298, 716, 219, 221, 181, 182, 183, 5, 184, 125, 126, 127, 128, 129, 130, 131, 193, 194, 195, 63, 196, 84, 755, 756, 757, 795, 796, 797, 798, 799, 800, 801, 802, 803, 804, 805, 806, 807, 808, 809, 810, 811, 812, 813, 814, 815, 816, 817, 818, 819, 820, 821] (by decide +kernel) (by decide +kernel)
set_option maxRecDepth 20000 in
theorem gL_law_X7_needs : GoodIn wsL_law (wsV RL 142 RX7 yX7_needs wsX7_needs) := goodIn_app (goodIn_of _ (by decide +kernel)) ggL_law_X7_needs
set_option maxRecDepth 20000 in
theorem ggL_law_X5_mean : GoodIn wsL_law wsX5_mean := goodIn_r _ [720, 16, 339, 482, 409, 483, 379, 154, 155, 37, 156, 53, 753, 754, 758, 759, 760, 761, 762, 763, 764, 765, 766, 767, 768, 769, 770, 771, 782, 783, 784, 785, 786, 787, 788, 789, 790, 791, 792, 793, 794] (by decide +kernel) (by decide +kernel)
set_option maxRecDepth 20000 in
theorem gL_law_X5_mean : GoodIn wsL_law (wsV RL 143 RX5 yX5_mean wsX5_mean) := goodIn_app (goodIn_of _ (by decide +kernel)) ggL_law_X5_mean
set_option maxRecDepth 20000 in
theorem ggL_law_X7_mean : GoodIn wsL_law wsX7_mean := goodIn_r _ [724, 123, 64, 193, 194, 195, 63, 196, 84, 189, 190, 191, 5, 192, 755, 756, 757, 795, 796, 797, 798, 799, 800, 801, 802, 803, 804, 805, 806, 807, 808, 809, 810, 811, 812, 813, 814, 815, 816, 817, 818, 819, 820, 821] (by decide +kernel) (by decide +kernel)
set_option maxRecDepth 20000 in
theorem gL_law_X7_mean : GoodIn wsL_law (wsV RL 147 RX7 yX7_mean wsX7_mean) := goodIn_app (goodIn_of _ (by decide +kernel)) ggL_law_X7_mean
set_option maxRecDepth 20000 in
theorem ggL_law_X5_digest : GoodIn wsL_law wsX5_digest := goodIn_ca (goodIn_ca (goodIn_r _ [728, 729, 730, 731, 598, 599, 2, 600, 144, 117, 16, 265, 106, 338, 263, 212, 213, 601, 602, 603, 604, 15, 605, 27, 153, 154, 155, 37, 156, 53, 606, 607, 608, 609, 25, 172, 214, 215, 216, 217, 218, 219, 220, 221, 222, 223, 224, 225, 28, 29, 610, 732, 733, 734, 735, 736, 141, 142, 143, 108, 145, 146, 147, 148, 112, 113, 114, 115, 116, 118, 23, 149, 150, 151, 152, 157, 158, 159, 160, 51, 161, 52, 162, 163, 164, 165, 166, 167, 168, 169, 170, 171, 173, 174, 175, 176, 737, 738, 739, 740, 741, 317, 318, 319, 320, 291, 321, 322, 290, 266, 267, 268, 269, 270, 742, 743, 744, 745, 746, 479, 480, 481, 482, 408, 483, 409, 422, 378, 484, 485, 423, 486, 340, 341, 342, 343, 344, 753, 754, 758, 759, 760, 761, 762, 763, 764, 765, 766, 767, 768, 769, 770, 771, 782, 783, 784, 785, 786, 787, 788, 789, 790, 791, 777, 778, 779, 780, 781, 772, 773, 774, 775, 776, 792, 793, 794] (by decide +kernel) (by decide +kernel)) (goodIn_sub (fun _ h => List.mem_append_right _ h) (by decide +kernel))) (goodIn_sub (fun _ h => List.mem_append_left _ (List.mem_append_right _ h)) (by decide +kernel))
set_option maxRecDepth 20000 in
theorem gL_law_X5_digest : GoodIn wsL_law (wsV RL 148 RX5 yX5_digest wsX5_digest) := goodIn_app (goodIn_of _ (by decide +kernel)) ggL_law_X5_digest
set_option maxRecDepth 20000 in
theorem ggL_law_X7_digest : GoodIn wsL_law wsX7_digest := goodIn_r _ [750, 123, 751, 752, 64, 615, 616, 617, 5, 618, 69, 189, 190, 191, 192, 193, 194, 195, 63, 196, 84, 235, 236, 237, 238, 239, 240, 219, 220, 221, 185, 186, 187, 188, 197, 198, 199, 200, 201, 202, 203, 204, 327, 328, 329, 330, 491, 492, 493, 494, 755, 756, 757, 795, 796, 797, 798, 799, 800, 801, 802, 803, 804, 805, 806, 807, 808, 809, 810, 811, 812, 813, 814, 815, 816, 817, 818, 819, 820, 821] (by decide +kernel) (by decide +kernel)
set_option maxRecDepth 20000 in
theorem gL_law_X7_digest : GoodIn wsL_law (wsV RL 152 RX7 yX7_digest wsX7_digest) := goodIn_app (goodIn_of _ (by decide +kernel)) ggL_law_X7_digest
