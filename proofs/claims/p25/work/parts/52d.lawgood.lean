set_option maxRecDepth 20000 in
theorem ggL_law_X2_takes : GoodIn wsL_law wsX2_takes := goodIn_ca (goodIn_r _ [231, 184, 185, 186, 2, 187, 188, 189, 13, 150, 58, 59, 60, 12, 61, 62, 151, 152, 153, 154, 155, 156, 157, 158, 159, 160, 161, 162, 163, 164, 165, 166, 24, 167, 74, 168, 169, 83, 86, 170, 171, 172, 173, 87, 308, 309, 310, 311, 312, 313, 314, 325, 326, 327, 328, 329, 330, 331] (by decide +kernel) (by decide +kernel)) (goodIn_sub (fun _ h => List.mem_append_left _ (List.mem_append_right _ h)) (by decide +kernel))
set_option maxRecDepth 20000 in
theorem gL_law_X2_takes : GoodIn wsL_law (wsV RL 18 RX2 yX2_takes wsX2_takes) := goodIn_app (goodIn_of _ (by decide +kernel)) ggL_law_X2_takes
