set_option maxRecDepth 20000 in
theorem gL_law_L_weakness : GoodIn wsL_law (va_wsS RL 137 yL_weakness wsL_weakness) := goodIn_app (goodIn_of _ (by decide +kernel)) ggL_law_L_weakness
set_option maxRecDepth 20000 in
theorem ggL_law_X3_weakness : GoodIn wsL_law wsX3_weakness := goodIn_r _ [561, 297, 298, 299, 5, 300, 45, 301, 302, 303, 304, 240, 85, 86, 87, 91, 92, 93, 94, 95, 546, 547, 548, 549, 47, 332, 333, 334, 335, 309, 310, 311, 312, 44, 336, 337, 338, 339, 578, 579, 580, 581, 582, 583, 584, 585, 586, 587, 588] (by decide +kernel) (by decide +kernel)
set_option maxRecDepth 20000 in
theorem gL_law_X3_weakness : GoodIn wsL_law (wsV RL 139 RX3 yX3_weakness wsX3_weakness) := goodIn_app (goodIn_of _ (by decide +kernel)) ggL_law_X3_weakness
set_option maxRecDepth 20000 in
theorem ggL_law_L_weakest : GoodIn wsL_law wsL_weakest := goodIn_ca (goodIn_r _ [564, 103, 565, 566, 567, 2, 568, 269, 270, 271, 272, 112, 113, 248, 18, 569, 527, 528, 20, 529, 209, 530, 531, 532, 533, 35, 34, 404, 171, 172, 173, 574, 575, 576, 577, 594, 595, 596, 597, 598] (by decide +kernel) (by decide +kernel)) (goodIn_sub (fun _ h => List.mem_append_right _ h) (by decide +kernel))
set_option maxRecDepth 20000 in
theorem gL_law_L_weakest : GoodIn wsL_law (va_wsS RL 140 yL_weakest wsL_weakest) := goodIn_app (goodIn_of _ (by decide +kernel)) ggL_law_L_weakest
set_option maxRecDepth 20000 in
theorem ggL_law_X3_weakest : GoodIn wsL_law wsX3_weakest := goodIn_r _ [573, 301, 302, 303, 5, 304, 240, 85, 86, 87, 91, 92, 93, 94, 95, 542, 543, 544, 545, 45, 546, 547, 548, 549, 47, 332, 333, 334, 335, 309, 310, 311, 312, 44, 336, 337, 338, 339, 578, 579, 580, 581, 582, 583, 584, 585, 586, 587, 588] (by decide +kernel) (by decide +kernel)
set_option maxRecDepth 20000 in
theorem gL_law_X3_weakest : GoodIn wsL_law (wsV RL 142 RX3 yX3_weakest wsX3_weakest) := goodIn_app (goodIn_of _ (by decide +kernel)) ggL_law_X3_weakest
abbrev vwCl : List vw_C := [(RX0, TX0, 5), (RX1, TX1, 5), (RX2, TX2, 4), (RX3, TX3, 11)]
