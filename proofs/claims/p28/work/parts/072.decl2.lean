set_option maxRecDepth 20000 in
theorem ggL_act_X5_count : GoodIn wsL_act wsX5_count := goodIn_ca (goodIn_r _ [5, 6, 7, 8, 9, 10, 4, 11, 12, 13, 14, 15, 16, 17, 18, 19, 20, 21, 22, 23, 24, 25, 26, 27, 28, 29, 30, 31, 32, 33, 34, 35, 36, 37, 38, 39, 40, 41, 42, 43, 44, 45, 46, 47, 48, 49, 50, 51, 52, 53, 54, 55, 56, 57, 58, 59, 60, 61, 62, 63, 64, 65, 66, 67, 68, 69, 70, 71, 72, 73, 74, 75, 76, 77, 78, 79, 80, 81, 82, 83, 84, 85, 86, 87, 88, 89, 90, 91, 92, 93, 94, 95, 96, 97, 98, 99, 100, 101, 102, 103, 104, 105, 106, 107, 108, 109, 110, 111, 112, 113, 114, 115, 116, 117, 118, 119, 120, 121, 122, 123, 124, 125, 126, 127, 128, 129, 130, 131, 132, 133, 134, 135, 136, 137, 138, 139, 140, 141, 142, 143, 144, 145, 146, 147, 148, 149, 150, 272, 273, 274, 275, 276, 277, 278, 279, 280, 281, 282, 283, 284, 285, 286, 287, 288, 289, 290, 291, 292, 293, 294, 295, 296, 297, 298, 299, 300, 301, 302, 303, 304, 305, 306, 307, 308, 309] (by decide +kernel) (by decide +kernel)) (goodIn_sub (fun _ h => List.mem_cons_of_mem _ (List.mem_append_left _ (List.mem_append_left _ (List.mem_append_right _ h)))) (by decide +kernel))
set_option maxRecDepth 20000 in
theorem gL_act_X5_count : GoodIn wsL_act (wsV RL 12 RX5 yX5_count wsX5_count) := goodIn_app (goodIn_of _ (by decide +kernel)) ggL_act_X5_count
set_option maxRecDepth 20000 in
theorem ggL_act_L_low : GoodIn wsL_act wsL_low := goodIn_r _ [154, 155] (by decide +kernel) (by decide +kernel)
set_option maxRecDepth 20000 in
theorem gL_act_L_low : GoodIn wsL_act (va_wsS RL 22 yL_low wsL_low) := goodIn_app (goodIn_of _ (by decide +kernel)) ggL_act_L_low
set_option maxRecDepth 20000 in
theorem ggL_act_X5_drop : GoodIn wsL_act wsX5_drop := goodIn_ca (goodIn_r _ [159, 160, 161, 14, 162, 60, 61, 56, 62, 63, 163, 164, 165, 4, 166, 136, 12, 167, 168, 169, 170, 171, 172, 173, 174, 175, 176, 177, 178, 179, 180, 181, 182, 58, 77, 183, 184, 31, 32, 185, 186, 187, 188, 35, 36, 189, 190, 191, 192, 33, 34, 272, 273, 274, 275, 276, 277, 278, 279, 280, 281, 282, 283, 284, 285, 286, 307, 308, 309] (by decide +kernel) (by decide +kernel)) (goodIn_sub (fun _ h => List.mem_cons_of_mem _ (List.mem_append_left _ (List.mem_append_right _ h))) (by decide +kernel))
set_option maxRecDepth 20000 in
theorem gL_act_X5_drop : GoodIn wsL_act (wsV RL 27 RX5 yX5_drop wsX5_drop) := goodIn_app (goodIn_of _ (by decide +kernel)) ggL_act_X5_drop
set_option maxRecDepth 20000 in
theorem ggL_act_X5_swap : GoodIn wsL_act wsX5_swap := goodIn_ca (goodIn_r _ [196, 160, 161, 14, 162, 60, 61, 56, 62, 63, 163, 164, 165, 4, 166, 136, 12, 167, 168, 169, 170, 171, 172, 173, 174, 175, 176, 177, 178, 179, 180, 181, 182, 58, 77, 183, 184, 31, 32, 197, 198, 199, 200, 35, 36, 189, 190, 191, 192, 33, 34, 8, 9, 10, 11, 13, 15, 16, 17, 18, 19, 20, 21, 22, 23, 24, 25, 26, 27, 28, 29, 30, 37, 38, 39, 40, 41, 42, 43, 44, 45, 46, 47, 48, 49, 50, 51, 52, 53, 54, 55, 57, 59, 64, 65, 66, 67, 68, 69, 70, 71, 72, 73, 74, 75, 76, 78, 79, 80, 81, 82, 83, 84, 85, 86, 87, 88, 89, 90, 91, 92, 93, 94, 95, 96, 97, 98, 99, 100, 101, 102, 103, 104, 105, 106, 107, 108, 109, 110, 111, 112, 113, 114, 115, 116, 117, 118, 119, 120, 121, 122, 123, 124, 125, 126, 127, 128, 129, 130, 131, 272, 273, 274, 275, 276, 277, 278, 279, 280, 281, 287, 288, 289, 290, 291, 292, 293, 294, 295, 296, 297, 298, 299, 300, 301, 302, 303, 282, 283, 284, 285, 286, 307, 308, 309, 304, 305, 306] (by decide +kernel) (by decide +kernel)) (goodIn_sub (fun _ h => List.mem_cons_of_mem _ (List.mem_append_left _ (List.mem_append_right _ h))) (by decide +kernel))
set_option maxRecDepth 20000 in
theorem gL_act_X5_swap : GoodIn wsL_act (wsV RL 30 RX5 yX5_swap wsX5_swap) := goodIn_app (goodIn_of _ (by decide +kernel)) ggL_act_X5_swap
set_option maxRecDepth 20000 in
theorem ggL_act_X5_item : GoodIn wsL_act wsX5_item := goodIn_ca (goodIn_ca (goodIn_r _ [204, 160, 161, 6, 7, 14, 162, 60, 61, 56, 62, 63, 8, 9, 10, 4, 11, 12, 13, 15, 16, 17, 18, 19, 20, 21, 22, 23, 24, 25, 26, 27, 28, 29, 30, 31, 32, 33, 34, 35, 36, 37, 38, 39, 40, 41, 42, 43, 44, 45, 46, 47, 48, 49, 50, 51, 52, 53, 54, 55, 57, 58, 59, 64, 65, 66, 67, 68, 69, 70, 71, 72, 73, 74, 75, 76, 77, 78, 79, 80, 81, 82, 83, 84, 85, 86, 87, 88, 89, 90, 91, 92, 93, 94, 95, 96, 97, 98, 99, 100, 101, 102, 103, 104, 105, 106, 107, 108, 109, 110, 111, 112, 113, 114, 115, 116, 117, 118, 119, 120, 121, 122, 123, 124, 125, 126, 127, 128, 129, 130, 131, 205, 206, 207, 208, 209, 210, 150, 149, 211, 212, 213, 214, 215, 216, 217, 218, 219, 220, 221, 222, 223, 272, 273, 274, 275, 276, 277, 278, 279, 280, 281, 282, 283, 284, 285, 286, 287, 288, 289, 290, 291, 292, 293, 294, 295, 296, 297, 298, 299, 300, 301, 302, 303, 304, 305, 306] (by decide +kernel) (by decide +kernel)) (goodIn_sub (fun _ h => List.mem_cons_of_mem _ (List.mem_append_left _ (List.mem_append_right _ h))) (by decide +kernel))) (goodIn_sub (fun _ h => List.mem_cons_of_mem _ (List.mem_append_left _ (List.mem_append_left _ (List.mem_append_right _ h)))) (by decide +kernel))
set_option maxRecDepth 20000 in
theorem gL_act_X5_item : GoodIn wsL_act (wsV RL 18 RX5 yX5_item wsX5_item) := goodIn_app (goodIn_of _ (by decide +kernel)) ggL_act_X5_item
set_option maxRecDepth 20000 in
theorem ggL_act_X5_kern : GoodIn wsL_act wsX5_kern := goodIn_ca (goodIn_ca (goodIn_ca (goodIn_r _ [227, 160, 161, 6, 7, 228, 229, 14, 162, 60, 61, 56, 62, 63, 209, 54, 55, 57, 58, 59, 35, 4, 36, 163, 164, 165, 166, 136, 12, 167, 168, 169, 170, 171, 172, 173, 174, 175, 176, 177, 178, 179, 180, 181, 182, 77, 183, 184, 31, 32, 210, 74, 75, 76, 230, 231, 232, 233, 33, 34, 272, 273, 274, 275, 276, 277, 278, 279, 280, 281, 282, 283, 284, 285, 286, 307, 308, 309] (by decide +kernel) (by decide +kernel)) (goodIn_sub (fun _ h => List.mem_cons_of_mem _ (List.mem_append_left _ (List.mem_append_right _ h))) (by decide +kernel))) (goodIn_sub (fun _ h => List.mem_cons_of_mem _ (List.mem_append_left _ (List.mem_append_left _ (List.mem_append_right _ h)))) (by decide +kernel))) (goodIn_sub (fun _ h => List.mem_cons_of_mem _ (List.mem_append_right _ h)) (by decide +kernel))
set_option maxRecDepth 20000 in
theorem gL_act_X5_kern : GoodIn wsL_act (wsV RL 33 RX5 yX5_kern wsX5_kern) := goodIn_app (goodIn_of _ (by decide +kernel)) ggL_act_X5_kern
set_option maxRecDepth 20000 in
theorem ggL_act_X5_board : GoodIn wsL_act wsX5_board := goodIn_ca (goodIn_r _ [237, 6, 7, 14, 163, 164, 165, 4, 166, 136, 12, 167, 168, 169, 170, 171, 172, 173, 174, 175, 176, 177, 178, 179, 180, 181, 56, 182, 58, 77, 183, 63, 184, 31, 32, 272, 273, 274, 275, 276, 277, 278, 279, 280, 281, 282, 283, 284, 285, 286, 307, 308, 309] (by decide +kernel) (by decide +kernel)) (goodIn_sub (fun _ h => List.mem_cons_of_mem _ (List.mem_append_left _ (List.mem_append_left _ (List.mem_append_right _ h)))) (by decide +kernel))
set_option maxRecDepth 20000 in
theorem gL_act_X5_board : GoodIn wsL_act (wsV RL 36 RX5 yX5_board wsX5_board) := goodIn_app (goodIn_of _ (by decide +kernel)) ggL_act_X5_board
set_option maxRecDepth 20000 in
theorem ggL_act_L_value : GoodIn wsL_act wsL_value := goodIn_r _ [240, 151, 152, 153, 154, 155] (by decide +kernel) (by decide +kernel)
set_option maxRecDepth 20000 in
theorem gL_act_L_value : GoodIn wsL_act (va_wsS RL 39 yL_value wsL_value) := goodIn_app (goodIn_of _ (by decide +kernel)) ggL_act_L_value
set_option maxRecDepth 20000 in
theorem ggL_act_X5_set : GoodIn wsL_act wsX5_set := goodIn_ca (goodIn_ca (goodIn_r _ [244, 160, 161, 6, 7, 14, 245, 246, 4, 247, 248, 249, 250, 251, 252, 150, 35, 36, 163, 164, 165, 166, 136, 12, 167, 168, 169, 170, 171, 172, 173, 174, 175, 176, 177, 178, 179, 180, 181, 56, 182, 58, 77, 183, 63, 184, 31, 32, 253, 33, 34, 272, 273, 274, 275, 276, 277, 278, 279, 280, 281, 282, 283, 284, 285, 286, 307, 308, 309] (by decide +kernel) (by decide +kernel)) (goodIn_sub (fun _ h => List.mem_cons_of_mem _ (List.mem_append_left _ (List.mem_append_right _ h))) (by decide +kernel))) (goodIn_sub (fun _ h => List.mem_cons_of_mem _ (List.mem_append_left _ (List.mem_append_left _ (List.mem_append_right _ h)))) (by decide +kernel))
set_option maxRecDepth 20000 in
theorem gL_act_X5_set : GoodIn wsL_act (wsV RL 42 RX5 yX5_set wsX5_set) := goodIn_app (goodIn_of _ (by decide +kernel)) ggL_act_X5_set
set_option maxRecDepth 20000 in
theorem ggL_act_X5_restore : GoodIn wsL_act wsX5_restore := goodIn_ca (goodIn_r _ [257, 228, 229, 258, 14, 259, 163, 164, 165, 4, 166, 136, 12, 167, 168, 169, 170, 171, 172, 173, 174, 175, 176, 177, 178, 179, 180, 181, 56, 182, 58, 77, 183, 63, 184, 31, 32, 260, 272, 273, 274, 275, 276, 277, 278, 279, 280, 281, 282, 283, 284, 285, 286, 307, 308, 309] (by decide +kernel) (by decide +kernel)) (goodIn_sub (fun _ h => List.mem_cons_of_mem _ (List.mem_append_right _ h)) (by decide +kernel))
set_option maxRecDepth 20000 in
theorem gL_act_X5_restore : GoodIn wsL_act (wsV RL 45 RX5 yX5_restore wsX5_restore) := goodIn_app (goodIn_of _ (by decide +kernel)) ggL_act_X5_restore
set_option maxRecDepth 20000 in
theorem ggL_act_X5_put : GoodIn wsL_act wsX5_put := goodIn_ca (goodIn_ca (goodIn_ca (goodIn_r _ [264, 160, 161, 6, 7, 228, 229, 14, 265, 266, 4, 267, 163, 164, 165, 166, 136, 12, 167, 168, 169, 170, 171, 172, 173, 174, 175, 176, 177, 178, 179, 180, 181, 56, 182, 58, 77, 183, 63, 184, 31, 32, 268, 269, 270, 271, 35, 36, 189, 190, 191, 192, 33, 34, 272, 273, 274, 275, 276, 277, 278, 279, 280, 281, 282, 283, 284, 285, 286, 307, 308, 309] (by decide +kernel) (by decide +kernel)) (goodIn_sub (fun _ h => List.mem_cons_of_mem _ (List.mem_append_left _ (List.mem_append_right _ h))) (by decide +kernel))) (goodIn_sub (fun _ h => List.mem_cons_of_mem _ (List.mem_append_left _ (List.mem_append_left _ (List.mem_append_right _ h)))) (by decide +kernel))) (goodIn_sub (fun _ h => List.mem_cons_of_mem _ (List.mem_append_right _ h)) (by decide +kernel))
set_option maxRecDepth 20000 in
theorem gL_act_X5_put : GoodIn wsL_act (wsV RL 49 RX5 yX5_put wsX5_put) := goodIn_app (goodIn_of _ (by decide +kernel)) ggL_act_X5_put
theorem dL_act_0 : decode cL_act 0 = .ok (.aload_n 0, 1) := by decide +kernel
theorem dL_act_1 : decode cL_act 1 = .ok (.iconst 0, 1) := by decide +kernel
theorem dL_act_2 : decode cL_act 2 = .ok (.invokevirtual 12, 3) := by decide +kernel
theorem dL_act_5 : decode cL_act 5 = .ok (.istore_n 3, 1) := by decide +kernel
theorem dL_act_6 : decode cL_act 6 = .ok (.iload_n 3, 1) := by decide +kernel
theorem dL_act_7 : decode cL_act 7 = .ok (.ifCond .ne 7, 3) := by decide +kernel
theorem dL_act_10 : decode cL_act 10 = .ok (.iconst 0, 1) := by decide +kernel
theorem dL_act_11 : decode cL_act 11 = .ok (.goto 10, 3) := by decide +kernel
theorem dL_act_14 : decode cL_act 14 = .ok (.iload_n 1, 1) := by decide +kernel
theorem dL_act_15 : decode cL_act 15 = .ok (.iconst 4, 1) := by decide +kernel
theorem dL_act_16 : decode cL_act 16 = .ok (.ishr, 1) := by decide +kernel
theorem dL_act_17 : decode cL_act 17 = .ok (.iload_n 3, 1) := by decide +kernel
theorem dL_act_18 : decode cL_act 18 = .ok (.invokestatic 22, 3) := by decide +kernel
theorem dL_act_21 : decode cL_act 21 = .ok (.istore 4, 2) := by decide +kernel
theorem dL_act_23 : decode cL_act 23 = .ok (.iload_n 1, 1) := by decide +kernel
theorem dL_act_24 : decode cL_act 24 = .ok (.bipush 15, 2) := by decide +kernel
theorem dL_act_26 : decode cL_act 26 = .ok (.iand, 1) := by decide +kernel
theorem dL_act_27 : decode cL_act 27 = .ok (.tableswitch 178 0 9 #[53, 69, 90, 90, 90, 124, 139, 139, 139, 162], 53) := by decide +kernel
theorem dL_act_80 : decode cL_act 80 = .ok (.iload_n 3, 1) := by decide +kernel
theorem dL_act_81 : decode cL_act 81 = .ok (.ifCond .ne 8, 3) := by decide +kernel
theorem dL_act_84 : decode cL_act 84 = .ok (.bipush (-9), 2) := by decide +kernel
theorem dL_act_86 : decode cL_act 86 = .ok (.goto 9, 3) := by decide +kernel
theorem dL_act_89 : decode cL_act 89 = .ok (.aload_n 0, 1) := by decide +kernel
theorem dL_act_90 : decode cL_act 90 = .ok (.iload 4, 2) := by decide +kernel
theorem dL_act_92 : decode cL_act 92 = .ok (.invokevirtual 27, 3) := by decide +kernel
theorem dL_act_95 : decode cL_act 95 = .ok (.ireturn, 1) := by decide +kernel
theorem dL_act_96 : decode cL_act 96 = .ok (.iload_n 3, 1) := by decide +kernel
theorem dL_act_97 : decode cL_act 97 = .ok (.ifCond .ne 8, 3) := by decide +kernel
theorem dL_act_100 : decode cL_act 100 = .ok (.bipush (-9), 2) := by decide +kernel
theorem dL_act_102 : decode cL_act 102 = .ok (.goto 14, 3) := by decide +kernel
theorem dL_act_105 : decode cL_act 105 = .ok (.aload_n 0, 1) := by decide +kernel
theorem dL_act_106 : decode cL_act 106 = .ok (.iload 4, 2) := by decide +kernel
theorem dL_act_108 : decode cL_act 108 = .ok (.iload_n 2, 1) := by decide +kernel
theorem dL_act_109 : decode cL_act 109 = .ok (.iload_n 3, 1) := by decide +kernel
theorem dL_act_110 : decode cL_act 110 = .ok (.invokestatic 22, 3) := by decide +kernel
theorem dL_act_113 : decode cL_act 113 = .ok (.invokevirtual 30, 3) := by decide +kernel
theorem dL_act_116 : decode cL_act 116 = .ok (.ireturn, 1) := by decide +kernel
theorem dL_act_117 : decode cL_act 117 = .ok (.iload_n 3, 1) := by decide +kernel
theorem dL_act_118 : decode cL_act 118 = .ok (.ifCond .eq 13, 3) := by decide +kernel
theorem dL_act_121 : decode cL_act 121 = .ok (.aload_n 0, 1) := by decide +kernel
theorem dL_act_122 : decode cL_act 122 = .ok (.iload 4, 2) := by decide +kernel
theorem dL_act_124 : decode cL_act 124 = .ok (.iconst 0, 1) := by decide +kernel
theorem dL_act_125 : decode cL_act 125 = .ok (.invokevirtual 18, 3) := by decide +kernel
theorem dL_act_128 : decode cL_act 128 = .ok (.ifCond .ge 8, 3) := by decide +kernel
theorem dL_act_131 : decode cL_act 131 = .ok (.bipush (-9), 2) := by decide +kernel
theorem dL_act_133 : decode cL_act 133 = .ok (.goto 17, 3) := by decide +kernel
theorem dL_act_136 : decode cL_act 136 = .ok (.aload_n 0, 1) := by decide +kernel
theorem dL_act_137 : decode cL_act 137 = .ok (.iload 4, 2) := by decide +kernel
theorem dL_act_139 : decode cL_act 139 = .ok (.iload_n 2, 1) := by decide +kernel
theorem dL_act_140 : decode cL_act 140 = .ok (.bipush 11, 2) := by decide +kernel
theorem dL_act_142 : decode cL_act 142 = .ok (.invokestatic 22, 3) := by decide +kernel
theorem dL_act_145 : decode cL_act 145 = .ok (.iconst 5, 1) := by decide +kernel
theorem dL_act_146 : decode cL_act 146 = .ok (.isub, 1) := by decide +kernel
theorem dL_act_147 : decode cL_act 147 = .ok (.invokevirtual 33, 3) := by decide +kernel
theorem dL_act_150 : decode cL_act 150 = .ok (.ireturn, 1) := by decide +kernel
theorem dL_act_151 : decode cL_act 151 = .ok (.aload_n 0, 1) := by decide +kernel
theorem dL_act_152 : decode cL_act 152 = .ok (.bipush 50, 2) := by decide +kernel
theorem dL_act_154 : decode cL_act 154 = .ok (.iload_n 2, 1) := by decide +kernel
theorem dL_act_155 : decode cL_act 155 = .ok (.sipush 551, 3) := by decide +kernel
theorem dL_act_158 : decode cL_act 158 = .ok (.invokestatic 22, 3) := by decide +kernel
theorem dL_act_161 : decode cL_act 161 = .ok (.iadd, 1) := by decide +kernel
theorem dL_act_162 : decode cL_act 162 = .ok (.invokevirtual 36, 3) := by decide +kernel
theorem dL_act_165 : decode cL_act 165 = .ok (.ireturn, 1) := by decide +kernel
theorem dL_act_166 : decode cL_act 166 = .ok (.iload_n 2, 1) := by decide +kernel
theorem dL_act_167 : decode cL_act 167 = .ok (.bipush 6, 2) := by decide +kernel
theorem dL_act_169 : decode cL_act 169 = .ok (.invokestatic 22, 3) := by decide +kernel
theorem dL_act_172 : decode cL_act 172 = .ok (.istore 5, 2) := by decide +kernel
theorem dL_act_174 : decode cL_act 174 = .ok (.aload_n 0, 1) := by decide +kernel
theorem dL_act_175 : decode cL_act 175 = .ok (.iload 5, 2) := by decide +kernel
theorem dL_act_177 : decode cL_act 177 = .ok (.iload 5, 2) := by decide +kernel
theorem dL_act_179 : decode cL_act 179 = .ok (.iload_n 2, 1) := by decide +kernel
theorem dL_act_180 : decode cL_act 180 = .ok (.iconst 3, 1) := by decide +kernel
theorem dL_act_181 : decode cL_act 181 = .ok (.ishr, 1) := by decide +kernel
theorem dL_act_182 : decode cL_act 182 = .ok (.invokestatic 39, 3) := by decide +kernel
theorem dL_act_185 : decode cL_act 185 = .ok (.invokevirtual 42, 3) := by decide +kernel
theorem dL_act_188 : decode cL_act 188 = .ok (.ireturn, 1) := by decide +kernel
theorem dL_act_189 : decode cL_act 189 = .ok (.iload_n 2, 1) := by decide +kernel
theorem dL_act_190 : decode cL_act 190 = .ok (.iconst 3, 1) := by decide +kernel
theorem dL_act_191 : decode cL_act 191 = .ok (.iand, 1) := by decide +kernel
theorem dL_act_192 : decode cL_act 192 = .ok (.ifCond .ne 10, 3) := by decide +kernel
theorem dL_act_195 : decode cL_act 195 = .ok (.aload_n 0, 1) := by decide +kernel
theorem dL_act_196 : decode cL_act 196 = .ok (.invokevirtual 45, 3) := by decide +kernel
theorem dL_act_199 : decode cL_act 199 = .ok (.goto 5, 3) := by decide +kernel
theorem dL_act_202 : decode cL_act 202 = .ok (.bipush (-9), 2) := by decide +kernel
theorem dL_act_204 : decode cL_act 204 = .ok (.ireturn, 1) := by decide +kernel
theorem dL_act_205 : decode cL_act 205 = .ok (.iload_n 3, 1) := by decide +kernel
theorem dL_act_206 : decode cL_act 206 = .ok (.bipush 20, 2) := by decide +kernel
theorem dL_act_208 : decode cL_act 208 = .ok (.if_icmp .ne 8, 3) := by decide +kernel
theorem dL_act_211 : decode cL_act 211 = .ok (.bipush (-9), 2) := by decide +kernel
theorem dL_act_213 : decode cL_act 213 = .ok (.goto 36, 3) := by decide +kernel
theorem dL_act_216 : decode cL_act 216 = .ok (.aload_n 0, 1) := by decide +kernel
theorem dL_act_217 : decode cL_act 217 = .ok (.iload_n 2, 1) := by decide +kernel
theorem dL_act_218 : decode cL_act 218 = .ok (.iconst 5, 1) := by decide +kernel
theorem dL_act_219 : decode cL_act 219 = .ok (.ishr, 1) := by decide +kernel
theorem dL_act_220 : decode cL_act 220 = .ok (.iload_n 3, 1) := by decide +kernel
theorem dL_act_221 : decode cL_act 221 = .ok (.iconst 1, 1) := by decide +kernel
theorem dL_act_222 : decode cL_act 222 = .ok (.iadd, 1) := by decide +kernel
theorem dL_act_223 : decode cL_act 223 = .ok (.invokestatic 22, 3) := by decide +kernel
theorem dL_act_226 : decode cL_act 226 = .ok (.iload_n 2, 1) := by decide +kernel
theorem dL_act_227 : decode cL_act 227 = .ok (.bipush 11, 2) := by decide +kernel
theorem dL_act_229 : decode cL_act 229 = .ok (.ishr, 1) := by decide +kernel
theorem dL_act_230 : decode cL_act 230 = .ok (.bipush 7, 2) := by decide +kernel
theorem dL_act_232 : decode cL_act 232 = .ok (.iand, 1) := by decide +kernel
theorem dL_act_233 : decode cL_act 233 = .ok (.ifCond .ne 7, 3) := by decide +kernel
theorem dL_act_236 : decode cL_act 236 = .ok (.iconst (-1), 1) := by decide +kernel
theorem dL_act_237 : decode cL_act 237 = .ok (.goto 9, 3) := by decide +kernel
theorem dL_act_240 : decode cL_act 240 = .ok (.iload_n 2, 1) := by decide +kernel
theorem dL_act_241 : decode cL_act 241 = .ok (.bipush 26, 2) := by decide +kernel
theorem dL_act_243 : decode cL_act 243 = .ok (.invokestatic 22, 3) := by decide +kernel
theorem dL_act_246 : decode cL_act 246 = .ok (.invokevirtual 49, 3) := by decide +kernel
theorem dL_act_249 : decode cL_act 249 = .ok (.ireturn, 1) := by decide +kernel
