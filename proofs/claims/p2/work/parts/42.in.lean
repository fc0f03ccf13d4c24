set_option maxRecDepth 20000 in
theorem wsL_law_in : ∀ w ∈ wsL_law, w ∈ lw_tbl := fun w h => (goodIn_p wsL_law [86, 89, 94, 109, 113, 119, 157, 161, 188, 212, 720, 258, 262, 819, 822, 266, 826, 270, 274, 278, 282, 287, 291, 295, 301, 305, 308, 315, 311, 318, 321, 327, 330, 333, 336, 341, 344, 347, 356, 359, 362, 366, 370, 374, 378, 830, 834, 838, 842, 846, 849, 853, 857, 383, 387, 392, 396, 400, 404, 408, 412, 416, 420, 424, 427, 430, 433, 437, 441, 445, 448, 452, 456, 460, 465, 468, 472, 476, 480, 861, 865, 869, 873, 877, 880, 883, 886, 890, 893, 897, 901, 904, 907, 911, 484, 488, 493, 497, 501, 504, 508, 512, 516, 520, 525, 915, 919, 923, 927, 931, 935, 939, 943, 947, 952, 955, 530, 533, 537, 959, 541, 963, 966, 971, 551, 555, 977, 981, 562, 566, 571, 574, 580, 985, 989, 992, 995, 998, 1004, 585, 589, 593, 597, 1008, 1012, 602, 1016, 606, 1020, 1024, 611, 615, 619, 623, 1029, 1033, 1037, 1041, 627, 1045, 1049, 631, 1053, 1057, 638, 1061, 642, 646, 1065, 650, 1069, 654, 658, 662, 1073, 1077, 1081, 1085, 670, 674, 679, 1092, 684, 1096, 688, 692, 696, 1100, 1104, 1108, 1112, 700, 705, 710, 1116, 1121, 1126] (by decide +kernel) (by decide +kernel) w h).1
theorem inX0 : ∀ w ∈ wsX00, w ∈ lw_tbl := fun w h => wsL_law_in w (inlX0 w h)
theorem inX1 : ∀ w ∈ wsX10, w ∈ lw_tbl := fun w h => wsL_law_in w (inlX1 w h)
theorem inX2 : ∀ w ∈ wsX20, w ∈ lw_tbl := fun w h => wsL_law_in w (inlX2 w h)
theorem inX3 : ∀ w ∈ wsX30, w ∈ lw_tbl := fun w h => wsL_law_in w (inlX3 w h)
theorem inX4 : ∀ w ∈ wsX40, w ∈ lw_tbl := fun w h => wsL_law_in w (inlX4 w h)
theorem inX5 : ∀ w ∈ wsX50, w ∈ lw_tbl := fun w h => wsL_law_in w (inlX5 w h)
theorem inX6 : ∀ w ∈ wsX60, w ∈ lw_tbl := fun w h => wsL_law_in w (inlX6 w h)
theorem inX7 : ∀ w ∈ wsX70, w ∈ lw_tbl := fun w h => wsL_law_in w (inlX7 w h)
theorem inJ11 : ∀ w ∈ wsJ110, w ∈ lw_tbl := by decide +kernel
theorem inJ9 : ∀ w ∈ wsJ90, w ∈ lw_tbl := by decide +kernel
theorem inJ0 : ∀ w ∈ wsJ00, w ∈ lw_tbl := by decide +kernel
theorem inJ1 : ∀ w ∈ wsJ10, w ∈ lw_tbl := by decide +kernel
theorem inJ2 : ∀ w ∈ wsJ20, w ∈ lw_tbl := by decide +kernel
theorem inJ7 : ∀ w ∈ wsJ70, w ∈ lw_tbl := by decide +kernel
theorem inJ3 : ∀ w ∈ wsJ30, w ∈ lw_tbl := by decide +kernel
