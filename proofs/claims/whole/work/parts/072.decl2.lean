set_option maxRecDepth 20000 in
theorem gL_law_X6_append : GoodIn wsL_law (wsV RL 104 RX6 yX6_append wsX6_append) := goodIn_app (goodIn_of _ (by decide +kernel)) ggL_law_X6_append
set_option maxRecDepth 20000 in
theorem ggL_law_X5_clearBuffer : GoodIn wsL_law wsX5_clearBuffer := goodIn_r _ [417, 25, 804, 805, 806, 807, 808, 809, 810, 811, 812, 813, 839, 840] (by decide +kernel) (by decide +kernel)
set_option maxRecDepth 20000 in
theorem gL_law_X5_clearBuffer : GoodIn wsL_law (wsV RL 105 RX5 yX5_clearBuffer wsX5_clearBuffer) := goodIn_app (goodIn_of _ (by decide +kernel)) ggL_law_X5_clearBuffer
set_option maxRecDepth 20000 in
theorem ggL_law_X6_clearBuffer : GoodIn wsL_law wsX6_clearBuffer := goodIn_r _ [421, 91, 413, 814, 815, 816, 817, 818, 819, 820, 821, 822, 823, 824, 825, 826, 827, 828, 829, 830] (by decide +kernel) (by decide +kernel)
set_option maxRecDepth 20000 in
theorem gL_law_X6_clearBuffer : GoodIn wsL_law (wsV RL 108 RX6 yX6_clearBuffer wsX6_clearBuffer) := goodIn_app (goodIn_of _ (by decide +kernel)) ggL_law_X6_clearBuffer
set_option maxRecDepth 20000 in
theorem ggL_law_X5_firstError : GoodIn wsL_law wsX5_firstError := goodIn_r _ [425, 25, 426, 427, 428, 24, 429, 408, 58, 135, 2, 136, 430, 431, 432, 433, 434, 435, 436, 437, 438, 439, 440, 441, 804, 805, 806, 807, 808, 809, 810, 811, 812, 813, 839, 840] (by decide +kernel) (by decide +kernel)
set_option maxRecDepth 20000 in
theorem gL_law_X5_firstError : GoodIn wsL_law (wsV RL 109 RX5 yX5_firstError wsX5_firstError) := goodIn_app (goodIn_of _ (by decide +kernel)) ggL_law_X5_firstError
set_option maxRecDepth 20000 in
theorem ggL_law_X6_firstError : GoodIn wsL_law wsX6_firstError := goodIn_r _ [445, 91, 413, 446, 447, 448, 449, 5, 450, 451, 452, 453, 454, 455, 89, 90, 456, 457, 458, 459, 84, 147, 148, 149, 460, 461, 462, 463, 814, 815, 816, 817, 818, 819, 820, 821, 822, 823, 824, 825, 826, 827, 828, 829, 830] (by decide +kernel) (by decide +kernel)
set_option maxRecDepth 20000 in
theorem gL_law_X6_firstError : GoodIn wsL_law (wsV RL 112 RX6 yX6_firstError wsX6_firstError) := goodIn_app (goodIn_of _ (by decide +kernel)) ggL_law_X6_firstError
set_option maxRecDepth 20000 in
theorem ggL_law_L_line : GoodIn wsL_law wsL_line := goodIn_ca (goodIn_r _ [466, 97, 467, 468, 469, 2, 470, 105, 106, 25, 16, 471, 472, 473, 24, 474, 408, 58, 475, 427, 428, 429, 135, 136, 430, 431, 432, 433, 434, 435, 436, 437, 438, 439, 440, 441, 112, 113, 114, 115, 21, 36, 116, 117, 118, 20, 119, 120, 121, 122, 123, 124, 125, 53, 126, 127, 128, 15, 129, 42, 43, 44, 130, 45, 46, 47, 476, 477, 478, 479, 480, 132, 133, 134, 137, 138, 139, 140, 141, 142, 481, 352, 353, 354, 804, 805, 806, 807, 808, 809, 810, 811, 812, 813, 839, 840, 831, 832, 833, 834, 835, 836, 837, 838] (by decide +kernel) (by decide +kernel)) (goodIn_sub (fun _ h => List.mem_append_left _ (List.mem_append_right _ h)) (by decide +kernel))
set_option maxRecDepth 20000 in
theorem gL_law_L_line : GoodIn wsL_law (va_wsS RL 113 yL_line wsL_line) := goodIn_app (goodIn_of _ (by decide +kernel)) ggL_law_L_line
set_option maxRecDepth 20000 in
theorem ggL_law_X6_line : GoodIn wsL_law wsX6_line := goodIn_r _ [485, 91, 81, 451, 89, 90, 413, 447, 448, 449, 5, 450, 446, 452, 453, 454, 455, 456, 457, 458, 459, 84, 147, 148, 149, 460, 461, 462, 463, 150, 151, 152, 153, 154, 155, 156, 157, 158, 82, 814, 815, 816, 817, 818, 819, 820, 821, 822, 823, 824, 825, 826, 827, 828, 829, 830] (by decide +kernel) (by decide +kernel)
set_option maxRecDepth 20000 in
theorem gL_law_X6_line : GoodIn wsL_law (wsV RL 116 RX6 yX6_line wsX6_line) := goodIn_app (goodIn_of _ (by decide +kernel)) ggL_law_X6_line
set_option maxRecDepth 20000 in
theorem ggL_law_L_undo : GoodIn wsL_law wsL_undo := goodIn_ca (goodIn_r _ [488, 98, 489, 490, 491, 2, 492, 107, 108, 21, 16, 36, 493, 494, 495, 20, 496, 120, 122, 123, 124, 125, 121, 53, 126, 127, 128, 15, 129, 42, 43, 44, 130, 45, 46, 47, 804, 805, 806, 807, 808, 809, 810, 811, 812, 813, 836, 837, 838, 831, 832, 833, 834, 835] (by decide +kernel) (by decide +kernel)) (goodIn_sub (fun _ h => List.mem_append_right _ h) (by decide +kernel))
set_option maxRecDepth 20000 in
theorem gL_law_L_undo : GoodIn wsL_law (va_wsS RL 117 yL_undo wsL_undo) := goodIn_app (goodIn_of _ (by decide +kernel)) ggL_law_L_undo
set_option maxRecDepth 20000 in
theorem ggL_law_X6_undo : GoodIn wsL_law wsX6_undo := goodIn_r _ [500, 91, 158, 81, 82, 150, 151, 152, 5, 153, 814, 815, 816, 817, 818, 819, 820, 821, 822, 823, 824, 825, 826, 827, 828, 829, 830] (by decide +kernel) (by decide +kernel)
set_option maxRecDepth 20000 in
theorem gL_law_X6_undo : GoodIn wsL_law (wsV RL 119 RX6 yX6_undo wsX6_undo) := goodIn_app (goodIn_of _ (by decide +kernel)) ggL_law_X6_undo
set_option maxRecDepth 20000 in
theorem ggL_law_X5_keep : GoodIn wsL_law wsX5_keep := goodIn_r _ [504, 17, 16, 505, 506, 127, 128, 15, 129, 42, 43, 44, 130, 45, 46, 2, 47, 804, 805, 806, 807, 808, 809, 810, 811, 812, 813, 831, 832, 833, 834, 835] (by decide +kernel) (by decide +kernel)
set_option maxRecDepth 20000 in
theorem gL_law_X5_keep : GoodIn wsL_law (wsV RL 120 RX5 yX5_keep wsX5_keep) := goodIn_app (goodIn_of _ (by decide +kernel)) ggL_law_X5_keep
set_option maxRecDepth 20000 in
theorem ggL_law_X6_keep : GoodIn wsL_law wsX6_keep := goodIn_r _ [510, 91, 83, 81, 511, 814, 815, 816, 817, 818, 819, 820, 821, 822, 823, 824, 825, 826, 827, 828, 829, 830] (by decide +kernel) (by decide +kernel)
set_option maxRecDepth 20000 in
theorem gL_law_X6_keep : GoodIn wsL_law (wsV RL 123 RX6 yX6_keep wsX6_keep) := goodIn_app (goodIn_of _ (by decide +kernel)) ggL_law_X6_keep
set_option maxRecDepth 20000 in
theorem ggL_law_L_restore : GoodIn wsL_law wsL_restore := goodIn_ca (goodIn_r _ [514, 98, 515, 516, 517, 2, 518, 107, 108, 505, 16, 17, 112, 113, 114, 115, 21, 36, 116, 117, 118, 20, 119, 120, 121, 122, 123, 124, 125, 53, 126, 127, 128, 15, 129, 42, 43, 44, 130, 45, 46, 47, 506, 804, 805, 806, 807, 808, 809, 810, 811, 812, 813, 831, 832, 833, 834, 835, 836, 837, 838] (by decide +kernel) (by decide +kernel)) (goodIn_sub (fun _ h => List.mem_append_right _ h) (by decide +kernel))
set_option maxRecDepth 20000 in
theorem gL_law_L_restore : GoodIn wsL_law (va_wsS RL 124 yL_restore wsL_restore) := goodIn_app (goodIn_of _ (by decide +kernel)) ggL_law_L_restore
set_option maxRecDepth 20000 in
theorem ggL_law_X6_restore : GoodIn wsL_law wsX6_restore := goodIn_r _ [522, 91, 511, 81, 83, 150, 151, 152, 5, 153, 154, 155, 156, 157, 158, 82, 814, 815, 816, 817, 818, 819, 820, 821, 822, 823, 824, 825, 826, 827, 828, 829, 830] (by decide +kernel) (by decide +kernel)
set_option maxRecDepth 20000 in
theorem gL_law_X6_restore : GoodIn wsL_law (wsV RL 126 RX6 yX6_restore wsX6_restore) := goodIn_app (goodIn_of _ (by decide +kernel)) ggL_law_X6_restore
set_option maxRecDepth 20000 in
theorem ggL_law_L_letter : GoodIn wsL_law wsL_letter := goodIn_ca (goodIn_ca (goodIn_r _ [525, 96, 97, 526, 527, 528, 2, 529, 103, 104, 105, 106, 109, 110, 111, 530, 271, 272, 531, 237, 238, 532, 235, 236] (by decide +kernel) (by decide +kernel)) (goodIn_sub (fun _ h => List.mem_append_left _ (List.mem_append_left _ (List.mem_append_right _ h))) (by decide +kernel))) (goodIn_sub (fun _ h => List.mem_append_left _ (List.mem_append_right _ h)) (by decide +kernel))
set_option maxRecDepth 20000 in
theorem gL_law_L_letter : GoodIn wsL_law (va_wsS RL 127 yL_letter wsL_letter) := goodIn_app (goodIn_of _ (by decide +kernel)) ggL_law_L_letter
set_option maxRecDepth 20000 in
theorem ggL_law_X6_letter : GoodIn wsL_law wsX6_letter := goodIn_r _ [536, 91, 147, 148, 5, 149, 150, 151, 152, 153, 339, 340, 341, 332, 333, 334, 322, 323, 324, 814, 815, 816, 817, 818, 819, 820, 821, 822, 823, 824, 825, 826, 827, 828, 829, 830] (by decide +kernel) (by decide +kernel)
set_option maxRecDepth 20000 in
theorem gL_law_X6_letter : GoodIn wsL_law (wsV RL 129 RX6 yX6_letter wsX6_letter) := goodIn_app (goodIn_of _ (by decide +kernel)) ggL_law_X6_letter
set_option maxRecDepth 20000 in
theorem ggL_law_L_indent : GoodIn wsL_law wsL_indent := goodIn_ca (goodIn_r _ [539, 96, 540, 541, 542, 2, 543, 103, 104, 16, 385, 135, 136, 544, 217, 218, 219, 220, 221, 804, 805, 806, 807, 808, 809, 810, 811, 812, 813, 831, 832, 833, 834, 835] (by decide +kernel) (by decide +kernel)) (goodIn_sub (fun _ h => List.mem_append_left _ (List.mem_append_left _ (List.mem_append_right _ h))) (by decide +kernel))
set_option maxRecDepth 20000 in
theorem gL_law_L_indent : GoodIn wsL_law (va_wsS RL 130 yL_indent wsL_indent) := goodIn_app (goodIn_of _ (by decide +kernel)) ggL_law_L_indent
set_option maxRecDepth 20000 in
theorem ggL_law_X6_indent : GoodIn wsL_law wsX6_indent := goodIn_r _ [548, 91, 147, 148, 5, 149, 325, 326, 327, 328, 81, 329, 330, 331, 150, 151, 152, 153, 814, 815, 816, 817, 818, 819, 820, 821, 822, 823, 824, 825, 826, 827, 828, 829, 830] (by decide +kernel) (by decide +kernel)
set_option maxRecDepth 20000 in
theorem gL_law_X6_indent : GoodIn wsL_law (wsV RL 132 RX6 yX6_indent wsX6_indent) := goodIn_app (goodIn_of _ (by decide +kernel)) ggL_law_X6_indent
set_option maxRecDepth 20000 in
theorem ggL_law_L_item : GoodIn wsL_law wsL_item := goodIn_ca (goodIn_ca (goodIn_r _ [551, 96, 97, 552, 553, 554, 2, 555, 103, 104, 105, 106, 16, 170, 171, 172, 15, 173, 130, 197, 198, 199, 200, 36, 29, 34, 35, 201, 202, 203, 28, 204, 62, 205, 206, 207, 208, 209, 210, 211, 212, 46, 47, 141, 142, 135, 136, 213, 214, 215, 216, 69, 217, 218, 219, 220, 221, 222, 223, 224, 225, 63, 64, 226, 227, 228, 229, 42, 230, 231, 232, 233, 234, 70, 235, 236, 237, 238, 239, 240, 241, 242, 43, 243, 244, 245, 246, 65, 247, 248, 249, 250, 251, 252, 253, 254, 255, 256, 257, 258, 259, 260, 261, 262, 263, 264, 265, 266, 267, 268, 269, 270, 66, 67, 68, 271, 272, 273, 274, 275, 33, 276, 277, 278, 279, 280, 281, 282, 283, 284, 285, 75, 286, 287, 288, 289, 76, 556, 557, 558, 559, 349, 350, 385, 560, 561, 562, 563, 564, 565, 566, 567, 568, 569, 570, 571, 572, 573, 804, 805, 806, 807, 808, 809, 810, 811, 812, 813, 831, 832, 833, 834, 835, 841, 842, 843, 844, 845, 846, 847, 848, 849, 850, 851, 852, 853, 854, 855, 856, 857, 858, 859, 860] (by decide +kernel) (by decide +kernel)) (goodIn_sub (fun _ h => List.mem_append_left _ (List.mem_append_left _ (List.mem_append_right _ h))) (by decide +kernel))) (goodIn_sub (fun _ h => List.mem_append_left _ (List.mem_append_right _ h)) (by decide +kernel))
