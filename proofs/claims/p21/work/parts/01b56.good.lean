set_option maxRecDepth 20000 in
theorem gL_rehearsed_L_weakest : GoodIn wsL_rehearsed (va_wsS RL 129 yL_weakest wsL_weakest) := goodIn_app (goodIn_of _ (by decide +kernel)) ggL_rehearsed_L_weakest
set_option maxRecDepth 20000 in
theorem ggL_rehearsed_L_weakness : GoodIn wsL_rehearsed wsL_weakness := goodIn_ca (goodIn_r _ [38, 5, 6, 39, 40, 41, 10, 42, 12, 13, 14, 15, 16, 17, 18, 19, 43, 44, 45, 46, 47, 48, 23, 49, 25, 50, 27, 28, 29, 30, 31, 32, 33, 34, 35, 71, 72, 73, 74, 75, 76, 77, 78, 79] (by decide +kernel) (by decide +kernel)) (goodIn_sub (fun _ h => List.mem_cons_of_mem _ (List.mem_append_left _ (List.mem_append_right _ h))) (by decide +kernel))
set_option maxRecDepth 20000 in
theorem gL_rehearsed_L_weakness : GoodIn wsL_rehearsed (va_wsS RL 127 yL_weakness wsL_weakness) := goodIn_app (goodIn_of _ (by decide +kernel)) ggL_rehearsed_L_weakness
set_option maxRecDepth 20000 in
theorem ggL_rehearsed_L_rehearses : GoodIn wsL_rehearsed wsL_rehearses := goodIn_ca (goodIn_ca (goodIn_r _ [53, 5, 54, 6, 55, 56, 57, 58, 10, 59, 60, 61, 12, 13, 14, 15, 16, 17, 18, 19, 62, 63, 64, 23, 65, 31, 66, 21, 22, 24, 25, 26, 27, 28, 29, 30, 32, 33, 34, 35, 67, 68, 69, 70, 71, 72, 73, 74, 75, 76, 77, 78, 79] (by decide +kernel) (by decide +kernel)) (goodIn_sub (fun _ h => List.mem_cons_of_mem _ (List.mem_append_right _ h)) (by decide +kernel))) (goodIn_sub (fun _ h => List.mem_cons_of_mem _ (List.mem_append_left _ (List.mem_append_right _ h))) (by decide +kernel))
set_option maxRecDepth 20000 in
theorem gL_rehearsed_L_rehearses : GoodIn wsL_rehearsed (va_wsS RL 124 yL_rehearses wsL_rehearses) := goodIn_app (goodIn_of _ (by decide +kernel)) ggL_rehearsed_L_rehearses
set_option maxRecDepth 20000 in
theorem ggL_law_X2_init : GoodIn wsL_law wsX2_init := goodIn_r _ [6, 7, 8, 9, 10, 11, 12, 13, 14, 15, 16, 17, 18, 19, 20, 21, 3, 22, 23, 24, 25, 26, 27, 28, 29, 30, 31, 413, 414, 415, 416, 417, 409, 410, 411, 412, 418, 419, 420, 421, 422] (by decide +kernel) (by decide +kernel)
set_option maxRecDepth 20000 in
theorem gL_law_X2_init : GoodIn wsL_law (wsX2_init) := ggL_law_X2_init
set_option maxRecDepth 20000 in
theorem ggL_law_L_drawn : GoodIn wsL_law wsL_drawn := goodIn_r _ [35, 36, 37] (by decide +kernel) (by decide +kernel)
set_option maxRecDepth 20000 in
theorem gL_law_L_drawn : GoodIn wsL_law (va_wsS RL 135 yL_drawn wsL_drawn) := goodIn_app (goodIn_of _ (by decide +kernel)) ggL_law_L_drawn
abbrev vwCl : List vw_C := [(RX0, TX0, 5), (RX1, TX1, 5), (RX2, TX2, 4)]
