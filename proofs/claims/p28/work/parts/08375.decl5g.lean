set_option maxRecDepth 20000 in
theorem lp_holds_0 : GoodIn wsL_law [.code yL_holds cL_holds 12 (some .boolean)] := goodIn_r _ [350] (by decide +kernel) (by decide +kernel)
set_option maxRecDepth 20000 in
theorem lp_holds_1 : GoodIn wsL_law wsL_holds_r1 := goodIn_r wsL_holds_r1 [198, 199, 200, 2, 201, 202, 203, 87, 88, 89, 90, 32, 25, 12, 30, 31, 91, 92, 93, 24, 94, 58, 95, 96] (by decide +kernel) (by decide +kernel)
set_option maxRecDepth 20000 in
theorem lp_holds_2 : GoodIn wsL_law wsL_holds_r2 := goodIn_r wsL_holds_r2 [97, 98, 99, 100, 101, 102, 42, 43, 103, 104, 105, 106, 107, 108, 109, 110, 65, 111, 112, 113, 114, 115, 116, 117] (by decide +kernel) (by decide +kernel)
set_option maxRecDepth 20000 in
theorem lp_holds_3 : GoodIn wsL_law wsL_holds_r3 := goodIn_r wsL_holds_r3 [118, 119, 59, 60, 120, 121, 122, 11, 123, 38, 124, 125, 126, 127, 82, 128, 129, 130, 131, 66, 132, 133, 134, 135] (by decide +kernel) (by decide +kernel)
set_option maxRecDepth 20000 in
theorem lp_holds_4 : GoodIn wsL_law wsL_holds_r4 := goodIn_r wsL_holds_r4 [136, 137, 138, 139, 39, 140, 141, 142, 143, 61, 144, 145, 146, 147, 148, 149, 150, 151, 152, 153, 154, 155, 156, 157] (by decide +kernel) (by decide +kernel)
set_option maxRecDepth 20000 in
theorem lp_holds_5 : GoodIn wsL_law wsL_holds_r5 := goodIn_r wsL_holds_r5 [158, 159, 160, 161, 162, 163, 164, 165, 166, 167, 62, 63, 64, 168, 169, 170, 171, 172, 29, 173, 174, 175, 176, 177] (by decide +kernel) (by decide +kernel)
set_option maxRecDepth 20000 in
theorem lp_holds_6 : GoodIn wsL_law wsL_holds_r6 := goodIn_r wsL_holds_r6 [178, 179, 180, 181, 182, 71, 183, 184, 185, 186, 72, 204, 205, 206, 207, 17, 208, 209, 210, 211, 212, 213, 214, 215] (by decide +kernel) (by decide +kernel)
set_option maxRecDepth 20000 in
theorem lp_holds_7 : GoodIn wsL_law wsL_holds_r7 := goodIn_r wsL_holds_r7 [216, 217, 218, 219, 220, 221, 244, 245, 246, 247, 248, 249, 250, 251, 252, 253, 254, 255, 256, 257, 258, 259, 260, 261] (by decide +kernel) (by decide +kernel)
