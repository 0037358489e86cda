set_option maxRecDepth 20000 in
theorem lp_holds_8 : GoodIn wsL_law wsL_holds_r8 := goodIn_r wsL_holds_r8 [262, 263, 264, 265, 266, 267, 268, 269, 351, 352, 353, 354, 341, 342, 343, 355, 356, 357, 83, 84, 85, 86, 187, 188] (by decide +kernel) (by decide +kernel)
set_option maxRecDepth 20000 in
theorem lp_holds_9 : GoodIn wsL_law wsL_holds_r9 := goodIn_r wsL_holds_r9 [189, 358, 359, 360, 361, 362, 363, 364, 365] (by decide +kernel) (by decide +kernel)
set_option maxRecDepth 20000 in
theorem lp_holds_X5 : GoodIn wsL_law wsX50 := goodIn_r wsX50 [366, 367, 368, 369, 370, 371, 372, 373, 374, 375] (by decide +kernel) (by decide +kernel)
set_option maxRecDepth 20000 in
theorem lp_holds_X3 : GoodIn wsL_law wsX30 := goodIn_r wsX30 [376, 377, 378, 379, 380] (by decide +kernel) (by decide +kernel)
set_option maxRecDepth 20000 in
theorem lp_holds_X0 : GoodIn wsL_law wsX00 := goodIn_r wsX00 [386, 387, 388, 389, 390, 391, 392, 393, 394, 395, 396, 397, 398, 399, 400, 401, 402] (by decide +kernel) (by decide +kernel)
set_option maxRecDepth 20000 in
theorem lp_holds_X2 : GoodIn wsL_law wsX20 := goodIn_r wsX20 [403, 404, 405] (by decide +kernel) (by decide +kernel)
set_option maxRecDepth 20000 in
theorem lp_holds_X1 : GoodIn wsL_law wsX10 := goodIn_r wsX10 [381, 382, 383] (by decide +kernel) (by decide +kernel)
set_option maxRecDepth 20000 in
theorem lp_holds_t0 : GoodIn wsL_law ((vx_atS RX5 78 "java/lang/IllegalArgumentException" ["java/lang/RuntimeException", "java/lang/Exception"]).filter goodWord) := goodIn_sub (fun _ h => List.mem_append_left _ (List.mem_append_left _ (List.mem_append_right _ h))) (by decide +kernel)
set_option maxRecDepth 20000 in
theorem lp_holds_t1 : GoodIn wsL_law ((vx_atS RX5 67 "java/lang/IndexOutOfBoundsException" ["java/lang/RuntimeException", "java/lang/Exception"]).filter goodWord) := goodIn_sub (fun _ h => List.mem_append_right _ h) (by decide +kernel)
theorem goodIn_cc {big a : List Cond} {c : Cond} (h1 : GoodIn big [c]) (h2 : GoodIn big a) : GoodIn big (c :: a) := fun w h => (List.mem_cons.mp h).elim (fun e => h1 w (List.mem_singleton.mpr e)) (h2 w)
theorem ggL_law_L_holds : GoodIn wsL_law wsL_holds := goodIn_cc lp_holds_0 (goodIn_app (goodIn_app (goodIn_app (goodIn_app (goodIn_app (goodIn_app (goodIn_app (goodIn_app lp_holds_1 (goodIn_app lp_holds_2 (goodIn_app lp_holds_3 (goodIn_app lp_holds_4 (goodIn_app lp_holds_5 (goodIn_app lp_holds_6 (goodIn_app lp_holds_7 (goodIn_app lp_holds_8 lp_holds_9)))))))) lp_holds_X5) lp_holds_X3) lp_holds_X0) lp_holds_X2) lp_holds_X1) lp_holds_t0) lp_holds_t1)
set_option maxRecDepth 20000 in
theorem gL_law_L_holds : GoodIn wsL_law (va_wsS RL 87 yL_holds wsL_holds) := goodIn_app (goodIn_of _ (by decide +kernel)) ggL_law_L_holds
