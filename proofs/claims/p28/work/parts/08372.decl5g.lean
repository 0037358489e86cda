set_option maxRecDepth 20000 in
theorem ggL_law_L_cell : GoodIn wsL_law wsL_cell := goodIn_r _ [197] (by decide +kernel) (by decide +kernel)
set_option maxRecDepth 20000 in
theorem gL_law_L_cell : GoodIn wsL_law (va_wsS RL 72 yL_cell wsL_cell) := goodIn_app (goodIn_of _ (by decide +kernel)) ggL_law_L_cell
set_option maxRecDepth 20000 in
theorem ggL_law_X5_count : GoodIn wsL_law wsX5_count := goodIn_ca (goodIn_r _ [201, 202, 203, 87, 88, 89, 2, 90, 32, 25, 12, 30, 31, 91, 92, 93, 24, 94, 58, 95, 96, 97, 98, 99, 100, 101, 102, 42, 43, 103, 104, 105, 106, 107, 108, 109, 110, 65, 111, 112, 113, 114, 115, 116, 117, 118, 119, 59, 60, 120, 121, 122, 11, 123, 38, 124, 125, 126, 127, 82, 128, 129, 130, 131, 66, 132, 133, 134, 135, 136, 137, 138, 139, 39, 140, 141, 142, 143, 61, 144, 145, 146, 147, 148, 149, 150, 151, 152, 153, 154, 155, 156, 157, 158, 159, 160, 161, 162, 163, 164, 165, 166, 167, 62, 63, 64, 168, 169, 170, 171, 172, 29, 173, 174, 175, 176, 177, 178, 179, 180, 181, 182, 71, 183, 184, 185, 186, 72, 204, 205, 206, 207, 17, 208, 209, 210, 211, 212, 213, 214, 215, 216, 217, 218, 219, 220, 221, 366, 367, 368, 369, 370, 371, 372, 373, 374, 375, 376, 377, 378, 379, 380, 386, 387, 388, 389, 390, 391, 392, 393, 394, 395, 396, 397, 398, 399, 400, 401, 402, 403, 404, 405, 381, 382, 383] (by decide +kernel) (by decide +kernel)) (goodIn_sub (fun _ h => List.mem_append_left _ (List.mem_append_left _ (List.mem_append_right _ h))) (by decide +kernel))
set_option maxRecDepth 20000 in
theorem gL_law_X5_count : GoodIn wsL_law (wsV RL 12 RX5 yX5_count wsX5_count) := goodIn_app (goodIn_of _ (by decide +kernel)) ggL_law_X5_count
set_option maxRecDepth 20000 in
theorem ggL_law_X5_undo : GoodIn wsL_law wsX5_undo := goodIn_ca (goodIn_r _ [225, 226, 227, 17, 12, 32, 228, 229, 230, 16, 231, 232, 233, 234, 235, 236, 237, 49, 238, 79, 80, 11, 81, 38, 39, 40, 82, 41, 42, 2, 43, 366, 367, 368, 369, 370, 371, 372, 373, 374, 375, 381, 382, 383, 376, 377, 378, 379, 380] (by decide +kernel) (by decide +kernel)) (goodIn_sub (fun _ h => List.mem_append_left _ (List.mem_append_right _ h)) (by decide +kernel))
set_option maxRecDepth 20000 in
theorem gL_law_X5_undo : GoodIn wsL_law (wsV RL 76 RX5 yX5_undo wsX5_undo) := goodIn_app (goodIn_of _ (by decide +kernel)) ggL_law_X5_undo
