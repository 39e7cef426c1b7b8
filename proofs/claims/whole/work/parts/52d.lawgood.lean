set_option maxRecDepth 20000 in
theorem ggL_law_X3_load : GoodIn wsL_law wsX3_load := goodIn_r _ [473, 154, 155, 312, 313, 314, 5, 315, 59, 62, 316, 317, 318, 319, 56, 533, 534, 535, 536, 537, 538, 539, 540, 541, 542, 543] (by decide +kernel) (by decide +kernel)
set_option maxRecDepth 20000 in
theorem gL_law_X3_load : GoodIn wsL_law (wsV RL 138 RX3 yX3_load wsX3_load) := goodIn_app (goodIn_of _ (by decide +kernel)) ggL_law_X3_load
set_option maxRecDepth 20000 in
theorem ggL_law_X2_spread : GoodIn wsL_law wsX2_spread := goodIn_r _ [477, 16, 181, 478, 144, 118, 145, 479, 117, 119, 83, 84, 85, 15, 86, 87, 182, 183, 184, 185, 186, 187, 188, 189, 190, 191, 192, 193, 194, 195, 196, 197, 27, 529, 530, 531, 532, 557, 558, 559, 560, 561, 562, 563, 544, 545, 546] (by decide +kernel) (by decide +kernel)
set_option maxRecDepth 20000 in
theorem gL_law_X2_spread : GoodIn wsL_law (wsV RL 139 RX2 yX2_spread wsX2_spread) := goodIn_app (goodIn_of _ (by decide +kernel)) ggL_law_X2_spread
set_option maxRecDepth 20000 in
theorem ggL_law_X3_spread : GoodIn wsL_law wsX3_spread := goodIn_r _ [483, 154, 155, 57, 60, 533, 534, 535, 536, 537, 538, 539, 540, 541, 542, 543] (by decide +kernel) (by decide +kernel)
set_option maxRecDepth 20000 in
theorem gL_law_X3_spread : GoodIn wsL_law (wsV RL 142 RX3 yX3_spread wsX3_spread) := goodIn_app (goodIn_of _ (by decide +kernel)) ggL_law_X3_spread
set_option maxRecDepth 20000 in
theorem ggL_law_L_choice : GoodIn wsL_law wsL_choice := goodIn_ca (goodIn_r _ [486, 67, 487, 488, 489, 2, 490, 78, 79, 80, 81, 82, 255, 256, 257, 258, 20, 259, 260, 261, 262, 22, 16, 181, 263, 19, 264, 265, 47, 48, 46, 49, 83, 84, 85, 15, 86, 87, 182, 183, 184, 185, 186, 187, 188, 189, 190, 191, 192, 193, 194, 195, 196, 197, 27, 266, 77, 267, 268, 91, 96, 269, 270, 271, 94, 272, 273, 274, 275, 95, 276, 277, 278, 42, 43, 44, 45, 279, 280, 281, 282, 283, 284, 285, 286, 287, 288, 50, 51, 289, 290, 291, 292, 529, 530, 531, 532, 557, 558, 559, 560, 561, 562, 563, 547, 548, 549, 550, 551, 552, 553, 554, 555, 556, 544, 545, 546] (by decide +kernel) (by decide +kernel)) (goodIn_sub (fun _ h => List.mem_append_left _ (List.mem_append_left _ (List.mem_append_right _ h))) (by decide +kernel))
set_option maxRecDepth 20000 in
theorem gL_law_L_choice : GoodIn wsL_law (va_wsS RL 143 yL_choice wsL_choice) := goodIn_app (goodIn_of _ (by decide +kernel)) ggL_law_L_choice
set_option maxRecDepth 20000 in
theorem ggL_law_X3_choice : GoodIn wsL_law wsX3_choice := goodIn_r _ [494, 154, 156, 157, 5, 158, 304, 305, 306, 307, 155, 60, 228, 308, 309, 310, 311, 59, 57, 312, 313, 314, 315, 62, 316, 317, 318, 319, 56, 159, 160, 161, 162, 533, 534, 535, 536, 537, 538, 539, 540, 541, 542, 543] (by decide +kernel) (by decide +kernel)
set_option maxRecDepth 20000 in
theorem gL_law_X3_choice : GoodIn wsL_law (wsV RL 145 RX3 yX3_choice wsX3_choice) := goodIn_app (goodIn_of _ (by decide +kernel)) ggL_law_X3_choice
set_option maxRecDepth 20000 in
theorem ggL_law_L_choiceByListing : GoodIn wsL_law wsL_choiceByListing := goodIn_ca (goodIn_ca (goodIn_r _ [497, 67, 68, 498, 499, 500, 2, 501, 73, 74, 20, 78, 79, 80, 81, 82, 259, 260, 261, 262, 22, 16, 181, 263, 19, 264, 265, 47, 48, 46, 49, 83, 84, 85, 15, 86, 87, 182, 183, 184, 185, 186, 187, 188, 189, 190, 191, 192, 193, 194, 195, 196, 197, 27, 266, 77, 267, 268, 91, 96, 269, 270, 271, 94, 272, 273, 274, 275, 95, 276, 277, 278, 42, 43, 44, 45, 502, 503, 504, 505, 506, 507, 508, 294, 295, 285, 286, 287, 288, 50, 51, 289, 290, 291, 292, 529, 530, 531, 532, 547, 548, 549, 550, 551, 552, 553, 554, 555, 556, 557, 558, 559, 560, 561, 562, 563, 544, 545, 546] (by decide +kernel) (by decide +kernel)) (goodIn_sub (fun _ h => List.mem_append_left _ (List.mem_append_left _ (List.mem_append_left _ (List.mem_append_right _ h)))) (by decide +kernel))) (goodIn_sub (fun _ h => List.mem_append_left _ (List.mem_append_left _ (List.mem_append_right _ h))) (by decide +kernel))
set_option maxRecDepth 20000 in
theorem gL_law_L_choiceByListing : GoodIn wsL_law (va_wsS RL 146 yL_choiceByListing wsL_choiceByListing) := goodIn_app (goodIn_of _ (by decide +kernel)) ggL_law_L_choiceByListing
set_option maxRecDepth 20000 in
theorem ggL_law_X3_choiceByListing : GoodIn wsL_law wsX3_choiceByListing := goodIn_r _ [512, 154, 155, 156, 157, 5, 158, 159, 160, 161, 162, 308, 309, 310, 311, 59, 57, 304, 305, 306, 307, 60, 228, 312, 313, 314, 315, 62, 316, 317, 318, 319, 56, 533, 534, 535, 536, 537, 538, 539, 540, 541, 542, 543] (by decide +kernel) (by decide +kernel)
set_option maxRecDepth 20000 in
theorem gL_law_X3_choiceByListing : GoodIn wsL_law (wsV RL 148 RX3 yX3_choiceByListing wsX3_choiceByListing) := goodIn_app (goodIn_of _ (by decide +kernel)) ggL_law_X3_choiceByListing
set_option maxRecDepth 20000 in
theorem ggL_law_X2_mostCut : GoodIn wsL_law wsX2_mostCut := goodIn_r _ [516, 16, 181, 83, 84, 85, 15, 86, 87, 182, 183, 184, 185, 186, 187, 188, 189, 190, 191, 192, 193, 194, 195, 196, 197, 27, 266, 77, 267, 268, 91, 96, 529, 530, 531, 532, 557, 558, 559, 560, 561, 562, 563, 544, 545, 546] (by decide +kernel) (by decide +kernel)
set_option maxRecDepth 20000 in
theorem gL_law_X2_mostCut : GoodIn wsL_law (wsV RL 149 RX2 yX2_mostCut wsX2_mostCut) := goodIn_app (goodIn_of _ (by decide +kernel)) ggL_law_X2_mostCut
set_option maxRecDepth 20000 in
theorem ggL_law_X3_mostCut : GoodIn wsL_law wsX3_mostCut := goodIn_r _ [520, 154, 155, 60, 308, 309, 310, 5, 311, 59, 57, 533, 534, 535, 536, 537, 538, 539, 540, 541, 542, 543] (by decide +kernel) (by decide +kernel)
set_option maxRecDepth 20000 in
theorem gL_law_X3_mostCut : GoodIn wsL_law (wsV RL 152 RX3 yX3_mostCut wsX3_mostCut) := goodIn_app (goodIn_of _ (by decide +kernel)) ggL_law_X3_mostCut
set_option maxRecDepth 20000 in
theorem ggL_law_X2_loadRestored : GoodIn wsL_law wsX2_loadRestored := goodIn_r _ [524, 16, 181, 83, 84, 85, 15, 86, 87, 182, 183, 184, 185, 186, 187, 188, 189, 190, 191, 192, 193, 194, 195, 196, 197, 27, 342, 77, 343, 344, 91, 345, 346, 347, 348, 93, 349, 144, 118, 145, 272, 273, 274, 275, 95, 299, 269, 270, 271, 94, 529, 530, 531, 532, 544, 545, 546, 557, 558, 559, 560, 561, 562, 563] (by decide +kernel) (by decide +kernel)
set_option maxRecDepth 20000 in
theorem gL_law_X2_loadRestored : GoodIn wsL_law (wsV RL 153 RX2 yX2_loadRestored wsX2_loadRestored) := goodIn_app (goodIn_of _ (by decide +kernel)) ggL_law_X2_loadRestored
set_option maxRecDepth 20000 in
theorem ggL_law_X3_loadRestored : GoodIn wsL_law wsX3_loadRestored := goodIn_r _ [528, 154, 155, 361, 362, 363, 5, 364, 59, 365, 366, 367, 368, 61, 316, 317, 318, 319, 56, 312, 313, 314, 315, 62, 533, 534, 535, 536, 537, 538, 539, 540, 541, 542, 543] (by decide +kernel) (by decide +kernel)
set_option maxRecDepth 20000 in
theorem gL_law_X3_loadRestored : GoodIn wsL_law (wsV RL 156 RX3 yX3_loadRestored wsX3_loadRestored) := goodIn_app (goodIn_of _ (by decide +kernel)) ggL_law_X3_loadRestored
