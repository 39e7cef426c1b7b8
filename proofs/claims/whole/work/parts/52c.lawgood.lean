set_option maxRecDepth 20000 in
theorem ggL_law_X3_hour : GoodIn wsL_law wsX3_hour := goodIn_r _ [413, 154, 244, 533, 534, 535, 536, 537, 538, 539, 540, 541, 542, 543] (by decide +kernel) (by decide +kernel)
set_option maxRecDepth 20000 in
theorem gL_law_X3_hour : GoodIn wsL_law (wsV RL 118 RX3 yX3_hour wsX3_hour) := goodIn_app (goodIn_of _ (by decide +kernel)) ggL_law_X3_hour
set_option maxRecDepth 20000 in
theorem ggL_law_X2_feeders : GoodIn wsL_law wsX2_feeders := goodIn_r _ [417, 16, 83, 84, 85, 15, 86, 87, 529, 530, 531, 532, 544, 545, 546] (by decide +kernel) (by decide +kernel)
set_option maxRecDepth 20000 in
theorem gL_law_X2_feeders : GoodIn wsL_law (wsV RL 119 RX2 yX2_feeders wsX2_feeders) := goodIn_app (goodIn_of _ (by decide +kernel)) ggL_law_X2_feeders
set_option maxRecDepth 20000 in
theorem ggL_law_X3_feeders : GoodIn wsL_law wsX3_feeders := goodIn_r _ [421, 154, 155, 533, 534, 535, 536, 537, 538, 539, 540, 541, 542, 543] (by decide +kernel) (by decide +kernel)
set_option maxRecDepth 20000 in
theorem gL_law_X3_feeders : GoodIn wsL_law (wsV RL 122 RX3 yX3_feeders wsX3_feeders) := goodIn_app (goodIn_of _ (by decide +kernel)) ggL_law_X3_feeders
set_option maxRecDepth 20000 in
theorem ggL_law_L_isCut : GoodIn wsL_law wsL_isCut := goodIn_ca (goodIn_r _ [424, 170, 425, 426, 427, 2, 428, 175, 176, 177, 178, 179, 180, 16, 181, 83, 84, 85, 15, 86, 87, 182, 183, 184, 185, 186, 187, 188, 189, 190, 191, 192, 193, 194, 195, 196, 197, 27, 557, 558, 559, 560, 561, 562, 563, 529, 530, 531, 532, 544, 545, 546] (by decide +kernel) (by decide +kernel)) (goodIn_sub (fun _ h => List.mem_append_left _ (List.mem_append_right _ h)) (by decide +kernel))
set_option maxRecDepth 20000 in
theorem gL_law_L_isCut : GoodIn wsL_law (va_wsS RL 123 yL_isCut wsL_isCut) := goodIn_app (goodIn_of _ (by decide +kernel)) ggL_law_L_isCut
set_option maxRecDepth 20000 in
theorem ggL_law_X3_isCut : GoodIn wsL_law wsX3_isCut := goodIn_r _ [432, 154, 59, 202, 203, 204, 5, 205, 155, 156, 157, 158, 159, 160, 161, 162, 533, 534, 535, 536, 537, 538, 539, 540, 541, 542, 543] (by decide +kernel) (by decide +kernel)
set_option maxRecDepth 20000 in
theorem gL_law_X3_isCut : GoodIn wsL_law (wsV RL 125 RX3 yX3_isCut wsX3_isCut) := goodIn_app (goodIn_of _ (by decide +kernel)) ggL_law_X3_isCut
set_option maxRecDepth 20000 in
theorem ggL_law_L_takes : GoodIn wsL_law wsL_takes := goodIn_ca (goodIn_r _ [435, 170, 436, 437, 438, 2, 439, 175, 176, 177, 178, 179, 180, 16, 181, 83, 84, 85, 15, 86, 87, 182, 183, 184, 185, 186, 187, 188, 189, 190, 191, 192, 193, 194, 195, 196, 197, 27, 269, 77, 270, 271, 91, 94, 272, 273, 274, 275, 95, 529, 530, 531, 532, 544, 545, 546, 557, 558, 559, 560, 561, 562, 563] (by decide +kernel) (by decide +kernel)) (goodIn_sub (fun _ h => List.mem_append_left _ (List.mem_append_right _ h)) (by decide +kernel))
set_option maxRecDepth 20000 in
theorem gL_law_L_takes : GoodIn wsL_law (va_wsS RL 126 yL_takes wsL_takes) := goodIn_app (goodIn_of _ (by decide +kernel)) ggL_law_L_takes
set_option maxRecDepth 20000 in
theorem ggL_law_X3_takes : GoodIn wsL_law wsX3_takes := goodIn_r _ [443, 154, 202, 203, 204, 5, 205, 155, 156, 157, 158, 312, 313, 314, 315, 59, 62, 316, 317, 318, 319, 56, 159, 160, 161, 162, 533, 534, 535, 536, 537, 538, 539, 540, 541, 542, 543] (by decide +kernel) (by decide +kernel)
set_option maxRecDepth 20000 in
theorem gL_law_X3_takes : GoodIn wsL_law (wsV RL 128 RX3 yX3_takes wsX3_takes) := goodIn_app (goodIn_of _ (by decide +kernel)) ggL_law_X3_takes
set_option maxRecDepth 20000 in
theorem ggL_law_L_cold : GoodIn wsL_law wsL_cold := goodIn_ca (goodIn_r _ [446, 170, 447, 448, 449, 2, 450, 175, 176, 177, 178, 179, 180, 16, 181, 83, 84, 85, 15, 86, 87, 182, 183, 184, 185, 186, 187, 188, 189, 190, 191, 192, 193, 194, 195, 196, 197, 27, 557, 558, 559, 560, 561, 562, 563, 529, 530, 531, 532, 544, 545, 546] (by decide +kernel) (by decide +kernel)) (goodIn_sub (fun _ h => List.mem_append_left _ (List.mem_append_right _ h)) (by decide +kernel))
set_option maxRecDepth 20000 in
theorem gL_law_L_cold : GoodIn wsL_law (va_wsS RL 129 yL_cold wsL_cold) := goodIn_app (goodIn_of _ (by decide +kernel)) ggL_law_L_cold
set_option maxRecDepth 20000 in
theorem ggL_law_X3_cold : GoodIn wsL_law wsX3_cold := goodIn_r _ [454, 154, 62, 202, 203, 204, 5, 205, 155, 156, 157, 158, 159, 160, 161, 162, 533, 534, 535, 536, 537, 538, 539, 540, 541, 542, 543] (by decide +kernel) (by decide +kernel)
set_option maxRecDepth 20000 in
theorem gL_law_X3_cold : GoodIn wsL_law (wsV RL 131 RX3 yX3_cold wsX3_cold) := goodIn_app (goodIn_of _ (by decide +kernel)) ggL_law_X3_cold
set_option maxRecDepth 20000 in
theorem ggL_law_L_hours : GoodIn wsL_law wsL_hours := goodIn_ca (goodIn_r _ [457, 170, 458, 459, 460, 2, 461, 175, 176, 177, 178, 179, 180, 16, 181, 83, 84, 85, 15, 86, 87, 182, 183, 184, 185, 186, 187, 188, 189, 190, 191, 192, 193, 194, 195, 196, 197, 27, 557, 558, 559, 560, 561, 562, 563, 529, 530, 531, 532, 544, 545, 546] (by decide +kernel) (by decide +kernel)) (goodIn_sub (fun _ h => List.mem_append_left _ (List.mem_append_right _ h)) (by decide +kernel))
set_option maxRecDepth 20000 in
theorem gL_law_L_hours : GoodIn wsL_law (va_wsS RL 132 yL_hours wsL_hours) := goodIn_app (goodIn_of _ (by decide +kernel)) ggL_law_L_hours
set_option maxRecDepth 20000 in
theorem ggL_law_X3_hours : GoodIn wsL_law wsX3_hours := goodIn_r _ [465, 154, 60, 202, 203, 204, 5, 205, 155, 156, 157, 158, 159, 160, 161, 162, 533, 534, 535, 536, 537, 538, 539, 540, 541, 542, 543] (by decide +kernel) (by decide +kernel)
set_option maxRecDepth 20000 in
theorem gL_law_X3_hours : GoodIn wsL_law (wsV RL 134 RX3 yX3_hours wsX3_hours) := goodIn_app (goodIn_of _ (by decide +kernel)) ggL_law_X3_hours
set_option maxRecDepth 20000 in
theorem ggL_law_X2_load : GoodIn wsL_law wsX2_load := goodIn_r _ [469, 16, 181, 83, 84, 85, 15, 86, 87, 182, 183, 184, 185, 186, 187, 188, 189, 190, 191, 192, 193, 194, 195, 196, 197, 27, 269, 77, 270, 271, 91, 94, 272, 273, 274, 275, 95, 529, 530, 531, 532, 544, 545, 546, 557, 558, 559, 560, 561, 562, 563] (by decide +kernel) (by decide +kernel)
set_option maxRecDepth 20000 in
theorem gL_law_X2_load : GoodIn wsL_law (wsV RL 135 RX2 yX2_load wsX2_load) := goodIn_app (goodIn_of _ (by decide +kernel)) ggL_law_X2_load
