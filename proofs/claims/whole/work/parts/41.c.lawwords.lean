theorem mem_r {big : List Cond} (ws : List Cond) (ps : List Nat) (hp : ws = ps.filterMap (fun i => big[i]?)) : ∀ w ∈ ws, w ∈ big := by
  intro w hw
  rw [hp] at hw
  obtain ⟨i, -, hi⟩ := List.mem_filterMap.mp hw
  exact List.mem_of_getElem? hi
set_option maxRecDepth 20000 in
theorem wsL_in_r1 : ∀ w ∈ wsL_law0_r1, w ∈ lw_tbl := mem_r _ [35, 36, 19, 764, 765, 25, 1089, 37, 38, 39, 40, 41, 42, 43, 44, 20, 246, 247, 45, 46, 47, 48, 49, 189] (by decide +kernel)
set_option maxRecDepth 20000 in
theorem wsL_in_r2 : ∀ w ∈ wsL_law0_r2, w ∈ lw_tbl := mem_r _ [51, 191, 53, 193, 55, 203, 213, 215, 56, 21, 87, 22, 117, 23, 58, 59, 60, 89, 90, 91, 103, 119, 120, 121] (by decide +kernel)
set_option maxRecDepth 20000 in
theorem wsL_in_r3 : ∀ w ∈ wsL_law0_r3, w ∈ lw_tbl := mem_r _ [122, 123, 24, 145, 148, 165, 125, 126, 127, 766, 767, 768, 769, 770, 771, 26, 888, 889, 773, 774, 775, 886, 781, 783] (by decide +kernel)
set_option maxRecDepth 20000 in
theorem wsL_in_r4 : ∀ w ∈ wsL_law0_r4, w ∈ lw_tbl := mem_r _ [785, 787, 789, 793, 795, 797, 799, 801, 803, 805, 807, 809, 811, 815, 817, 819, 821, 823, 776, 825, 423, 424, 18, 425] (by decide +kernel)
set_option maxRecDepth 20000 in
theorem wsL_in_r5 : ∀ w ∈ wsL_law0_r5, w ∈ lw_tbl := mem_r _ [426, 428, 429, 430, 431, 436, 30, 452, 31, 432, 195, 190, 62, 433, 434, 435, 368, 369, 370, 371, 372, 32, 196, 901] (by decide +kernel)
set_option maxRecDepth 20000 in
theorem wsL_in_r6 : ∀ w ∈ wsL_law0_r6, w ∈ lw_tbl := mem_r _ [902, 903, 904, 887, 905, 906, 907, 908, 909, 911, 4, 912, 897, 898, 899, 900, 468, 469, 470, 471, 472, 365, 366, 367] (by decide +kernel)
set_option maxRecDepth 20000 in
theorem wsL_in_r7 : ∀ w ∈ wsL_law0_r7, w ∈ lw_tbl := mem_r _ [292, 65, 68, 71, 74, 375, 376, 377, 378, 275, 258, 259, 260, 379, 380, 381, 382, 129, 383, 384, 385, 386, 94, 97] (by decide +kernel)
set_option maxRecDepth 20000 in
theorem wsL_in_r8 : ∀ w ∈ wsL_law0_r8, w ∈ lw_tbl := mem_r _ [387, 388, 389, 390, 105, 391, 392, 393, 394, 913, 914, 915, 916, 917, 919, 5, 920, 921, 923, 6, 924, 925, 927, 7] (by decide +kernel)
set_option maxRecDepth 20000 in
theorem wsL_in_r9 : ∀ w ∈ wsL_law0_r9, w ∈ lw_tbl := mem_r _ [928, 929, 930, 931, 932, 933, 935, 8, 936, 937, 939, 9, 940, 473, 474, 475, 476, 477, 478, 479, 204, 206, 280, 281] (by decide +kernel)
set_option maxRecDepth 20000 in
theorem wsL_in_r10 : ∀ w ∈ wsL_law0_r10, w ∈ lw_tbl := mem_r _ [282, 283, 288, 289, 33, 290, 284, 285, 286, 287, 483, 484, 485, 486, 66, 941, 942, 943, 944, 945, 946, 947, 948, 829] (by decide +kernel)
set_option maxRecDepth 20000 in
theorem wsL_in_r11 : ∀ w ∈ wsL_law0_r11, w ∈ lw_tbl := mem_r _ [949, 950, 951, 952, 953, 487, 488, 489, 490, 491, 492, 493, 954, 955, 956, 957, 496, 497, 498, 499, 500, 501, 502, 198] (by decide +kernel)
set_option maxRecDepth 20000 in
theorem wsL_in_r12 : ∀ w ∈ wsL_law0_r12, w ∈ lw_tbl := mem_r _ [192, 202, 404, 405, 406, 407, 197, 508, 509, 510, 511, 92, 95, 98, 100, 958, 959, 960, 961, 512, 513, 514, 515, 516] (by decide +kernel)
set_option maxRecDepth 20000 in
theorem wsL_in_r13 : ∀ w ∈ wsL_law0_r13, w ∈ lw_tbl := mem_r _ [517, 518, 104, 96, 521, 522, 523, 524, 526, 527, 528, 525, 529, 530, 531, 532, 962, 963, 964, 965, 970, 966, 968, 10] (by decide +kernel)
set_option maxRecDepth 20000 in
theorem wsL_in_r14 : ∀ w ∈ wsL_law0_r14, w ∈ lw_tbl := mem_r _ [969, 533, 534, 535, 536, 401, 402, 403, 93, 99, 101, 971, 972, 973, 974, 975, 977, 11, 978, 537, 538, 539, 540, 541] (by decide +kernel)
set_option maxRecDepth 20000 in
theorem wsL_in_r15 : ∀ w ∈ wsL_law0_r15, w ∈ lw_tbl := mem_r _ [542, 543, 200, 194, 418, 419, 420, 421, 199, 550, 551, 552, 553, 554, 555, 556, 557, 128, 132, 135, 558, 559, 560, 561] (by decide +kernel)
set_option maxRecDepth 20000 in
theorem wsL_in_r16 : ∀ w ∈ wsL_law0_r16, w ∈ lw_tbl := mem_r _ [151, 153, 154, 155, 158, 161, 163, 979, 980, 981, 982, 562, 563, 564, 565, 566, 567, 568, 162, 257, 570, 571, 572, 573] (by decide +kernel)
set_option maxRecDepth 20000 in
theorem wsL_in_r17 : ∀ w ∈ wsL_law0_r17, w ∈ lw_tbl := mem_r _ [133, 574, 575, 576, 577, 578, 579, 580, 581, 983, 984, 985, 986, 987, 989, 12, 990, 582, 583, 584, 585, 586, 587, 588] (by decide +kernel)
set_option maxRecDepth 20000 in
theorem wsL_in_r18 : ∀ w ∈ wsL_law0_r18, w ∈ lw_tbl := mem_r _ [130, 134, 591, 991, 992, 993, 994, 592, 593, 594, 595, 596, 597, 598, 159, 136, 601, 602, 603, 604, 605, 606, 607, 608] (by decide +kernel)
set_option maxRecDepth 20000 in
theorem wsL_in_r19 : ∀ w ∈ wsL_law0_r19, w ∈ lw_tbl := mem_r _ [609, 995, 996, 997, 998, 610, 611, 612, 613, 614, 615, 616, 618, 619, 620, 621, 147, 131, 63, 157, 150, 167, 622, 623] (by decide +kernel)
set_option maxRecDepth 20000 in
theorem wsL_in_r20 : ∀ w ∈ wsL_law0_r20, w ∈ lw_tbl := mem_r _ [624, 625, 205, 69, 72, 626, 999, 1000, 1001, 1002, 1003, 1004, 1005, 1006, 827, 1007, 1008, 1009, 1010, 627, 628, 629, 630, 415] (by decide +kernel)
set_option maxRecDepth 20000 in
theorem wsL_in_r21 : ∀ w ∈ wsL_law0_r21, w ∈ lw_tbl := mem_r _ [416, 417, 146, 149, 164, 166, 156, 1011, 1012, 1013, 1014, 1015, 1017, 13, 1018, 631, 632, 633, 634, 635, 636, 637, 209, 640] (by decide +kernel)
set_option maxRecDepth 20000 in
theorem wsL_in_r22 : ∀ w ∈ wsL_law0_r22, w ∈ lw_tbl := mem_r _ [641, 642, 643, 201, 644, 645, 646, 647, 210, 212, 648, 649, 650, 651, 160, 652, 653, 654, 655, 656, 657, 658, 659, 152] (by decide +kernel)
set_option maxRecDepth 20000 in
theorem wsL_in_r23 : ∀ w ∈ wsL_law0_r23, w ∈ lw_tbl := mem_r _ [660, 661, 662, 663, 664, 665, 666, 667, 668, 669, 670, 671, 672, 673, 674, 102, 675, 676, 677, 678, 679, 680, 681, 682] (by decide +kernel)
set_option maxRecDepth 20000 in
theorem wsL_in_r24 : ∀ w ∈ wsL_law0_r24, w ∈ lw_tbl := mem_r _ [683, 684, 685, 686, 687, 688, 689, 690, 691, 692, 693, 694, 695, 696, 137, 75, 207, 697, 1019, 1020, 1021, 1022, 1023, 1024] (by decide +kernel)
set_option maxRecDepth 20000 in
theorem wsL_in_r25 : ∀ w ∈ wsL_law0_r25, w ∈ lw_tbl := mem_r _ [1025, 1026, 777, 791, 813, 1029, 1030, 1027, 1028, 1031, 1033, 14, 1034, 1035, 1036, 1038, 15, 1039, 698, 699, 700, 701, 268, 269] (by decide +kernel)
set_option maxRecDepth 20000 in
theorem wsL_in_r26 : ∀ w ∈ wsL_law0_r26, w ∈ lw_tbl := mem_r _ [270, 208, 271, 272, 273, 274, 276, 277, 278, 279, 291, 1040, 1041, 1042, 1043, 1044, 1046, 16, 1047, 702, 703, 704, 705, 706] (by decide +kernel)
set_option maxRecDepth 20000 in
theorem wsL_in_r27 : ∀ w ∈ wsL_law0_r27, w ∈ lw_tbl := mem_r _ [707, 708, 214, 216, 211, 711, 712, 713, 714, 715, 716, 717, 718, 61, 64, 67, 70, 73, 719, 720, 721, 722, 723, 724] (by decide +kernel)
set_option maxRecDepth 20000 in
theorem wsL_in_r28 : ∀ w ∈ wsL_law0_r28, w ∈ lw_tbl := mem_r _ [725, 726, 727, 728, 729, 730, 731, 732, 1048, 1049, 1050, 1051, 1052, 1053, 1054, 1055, 779, 1056, 1057, 1058, 1059, 1061, 1060, 34] (by decide +kernel)
set_option maxRecDepth 20000 in
theorem wsL_in_r29 : ∀ w ∈ wsL_law0_r29, w ∈ lw_tbl := mem_r _ [1062, 1063, 1064, 1065, 733, 734, 735, 736, 737, 738, 739, 740, 741, 742, 743, 744, 745, 746, 747, 1066, 1067, 1068, 1069, 1070] (by decide +kernel)
set_option maxRecDepth 20000 in
theorem wsL_in_r30 : ∀ w ∈ wsL_law0_r30, w ∈ lw_tbl := mem_r _ [1072, 17, 1073, 749, 750, 751, 752, 753, 754, 755, 758, 759, 760, 761, 762, 763, 1074, 1075, 1076, 1077, 1078, 253, 254, 255] (by decide +kernel)
set_option maxRecDepth 20000 in
theorem wsL_in_r31 : ∀ w ∈ wsL_law0_r31, w ∈ lw_tbl := mem_r _ [256, 1079, 1080, 1081, 1082, 261, 262, 263, 264, 265, 266, 267, 360, 362, 1, 363, 364, 396, 398, 2, 399, 400, 410, 412] (by decide +kernel)
set_option maxRecDepth 20000 in
theorem wsL_in_r32 : ∀ w ∈ wsL_law0_r32, w ∈ lw_tbl := mem_r _ [3, 413, 414, 1083, 1084, 1085, 1086, 1087, 1088] (by decide +kernel)
set_option maxRecDepth 20000 in
theorem inX0 : ∀ w ∈ wsX00, w ∈ lw_tbl := mem_r _ [168, 170, 172, 174, 176, 178, 180, 182, 184, 186] (by decide +kernel)
set_option maxRecDepth 20000 in
theorem inX1 : ∀ w ∈ wsX10, w ∈ lw_tbl := mem_r _ [106, 108, 110, 112, 114] (by decide +kernel)
set_option maxRecDepth 20000 in
theorem inX2 : ∀ w ∈ wsX20, w ∈ lw_tbl := mem_r _ [76, 78, 80, 82, 84] (by decide +kernel)
set_option maxRecDepth 20000 in
theorem inX3 : ∀ w ∈ wsX30, w ∈ lw_tbl := mem_r _ [138, 140, 142] (by decide +kernel)
set_option maxRecDepth 20000 in
theorem inX4 : ∀ w ∈ wsX40, w ∈ lw_tbl := mem_r _ [217, 219, 221, 223, 225, 227, 229, 231, 233, 235, 237, 239, 241, 243] (by decide +kernel)
set_option maxRecDepth 20000 in
theorem inX5 : ∀ w ∈ wsX50, w ∈ lw_tbl := mem_r _ [248, 250] (by decide +kernel)
set_option maxRecDepth 20000 in
theorem inX6 : ∀ w ∈ wsX60, w ∈ lw_tbl := mem_r _ [831, 833, 835, 837, 839, 841, 843, 845, 847, 849, 851, 853, 855, 857, 859, 861, 863, 865, 867, 869, 871, 873, 875, 877, 879, 881, 883] (by decide +kernel)
set_option maxRecDepth 20000 in
theorem inX7 : ∀ w ∈ wsX70, w ∈ lw_tbl := mem_r _ [890, 892, 894] (by decide +kernel)
theorem mem_app {big a b : List Cond} (ha : ∀ w ∈ a, w ∈ big) (hb : ∀ w ∈ b, w ∈ big) : ∀ w ∈ a ++ b, w ∈ big := fun w h => (List.mem_append.mp h).elim (ha w) (hb w)
theorem wsL_law_in0 : ∀ w ∈ wsL_law0, w ∈ lw_tbl := mem_app (mem_app (mem_app (mem_app (mem_app (mem_app (mem_app (mem_app (mem_app (mem_app wsL_in_r1 (mem_app wsL_in_r2 (mem_app wsL_in_r3 (mem_app wsL_in_r4 (mem_app wsL_in_r5 (mem_app wsL_in_r6 (mem_app wsL_in_r7 (mem_app wsL_in_r8 (mem_app wsL_in_r9 (mem_app wsL_in_r10 (mem_app wsL_in_r11 (mem_app wsL_in_r12 (mem_app wsL_in_r13 (mem_app wsL_in_r14 (mem_app wsL_in_r15 (mem_app wsL_in_r16 (mem_app wsL_in_r17 (mem_app wsL_in_r18 (mem_app wsL_in_r19 (mem_app wsL_in_r20 (mem_app wsL_in_r21 (mem_app wsL_in_r22 (mem_app wsL_in_r23 (mem_app wsL_in_r24 (mem_app wsL_in_r25 (mem_app wsL_in_r26 (mem_app wsL_in_r27 (mem_app wsL_in_r28 (mem_app wsL_in_r29 (mem_app wsL_in_r30 (mem_app wsL_in_r31 (wsL_in_r32)))))))))))))))))))))))))))))))) inX5) inX7) inX4) inX2) inX1) inX0) inX3) inX6) (fun _ h => nomatch h)
theorem wsL_law_x0 : ∀ w ∈ (vx_atS RX5 28 "java/lang/IllegalArgumentException" ["java/lang/RuntimeException", "java/lang/Exception"]).filter goodWord, w ∈ lw_tbl := by decide +kernel
theorem wsL_law_x1 : ∀ w ∈ (vx_atS RX5 43 "java/lang/IllegalStateException" ["java/lang/RuntimeException", "java/lang/Exception"]).filter goodWord, w ∈ lw_tbl := by decide +kernel
theorem wsL_law_x2 : ∀ w ∈ (vx_atS RX4 87 "java/lang/IndexOutOfBoundsException" ["java/lang/RuntimeException", "java/lang/Exception"]).filter goodWord, w ∈ lw_tbl := by decide +kernel
theorem wsL_law_x3 : ∀ w ∈ (vx_atS RX5 82 "java/lang/IndexOutOfBoundsException" ["java/lang/RuntimeException", "java/lang/Exception"]).filter goodWord, w ∈ lw_tbl := by decide +kernel
theorem wsL_law_in : ∀ w ∈ wsL_law, w ∈ lw_tbl := fun w h => (List.mem_append.mp h).elim (fun h => (List.mem_append.mp h).elim (fun h => (List.mem_append.mp h).elim (fun h => (List.mem_append.mp h).elim (fun h => wsL_law_in0 w h) (fun h => wsL_law_x0 w h)) (fun h => wsL_law_x1 w h)) (fun h => wsL_law_x2 w h)) (fun h => wsL_law_x3 w h)
