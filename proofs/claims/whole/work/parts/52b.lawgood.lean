set_option maxRecDepth 20000 in
theorem ggL_law_X3_pass : GoodIn wsL_law wsX3_pass := goodIn_r _ [243, 154, 244, 155, 59, 60, 61, 62, 156, 157, 5, 158, 159, 160, 161, 162, 533, 534, 535, 536, 537, 538, 539, 540, 541, 542, 543] (by decide +kernel) (by decide +kernel)
set_option maxRecDepth 20000 in
theorem gL_law_X3_pass : GoodIn wsL_law (wsV RL 98 RX3 yX3_pass wsX3_pass) := goodIn_app (goodIn_of _ (by decide +kernel)) ggL_law_X3_pass
set_option maxRecDepth 20000 in
theorem ggL_law_L_relieve : GoodIn wsL_law wsL_relieve := goodIn_ca (goodIn_ca (goodIn_r _ [247, 67, 248, 249, 250, 251, 2, 252, 253, 254, 16, 181, 78, 79, 80, 81, 82, 255, 256, 257, 258, 20, 259, 260, 261, 262, 22, 263, 19, 264, 265, 47, 48, 46, 49, 83, 84, 85, 15, 86, 87, 182, 183, 184, 185, 186, 187, 188, 189, 190, 191, 192, 193, 194, 195, 196, 197, 27, 266, 77, 267, 268, 91, 96, 269, 270, 271, 94, 272, 273, 274, 275, 95, 276, 277, 278, 42, 43, 44, 45, 279, 280, 281, 282, 283, 284, 285, 286, 287, 288, 50, 51, 289, 290, 291, 292, 293, 294, 295, 296, 297, 298, 93, 299, 529, 530, 531, 532, 557, 558, 559, 560, 561, 562, 563, 547, 548, 549, 550, 551, 552, 553, 554, 555, 556, 544, 545, 546] (by decide +kernel) (by decide +kernel)) (goodIn_sub (fun _ h => List.mem_append_right _ h) (by decide +kernel))) (goodIn_sub (fun _ h => List.mem_append_left _ (List.mem_append_left _ (List.mem_append_right _ h))) (by decide +kernel))
set_option maxRecDepth 20000 in
theorem gL_law_L_relieve : GoodIn wsL_law (va_wsS RL 99 yL_relieve wsL_relieve) := goodIn_app (goodIn_of _ (by decide +kernel)) ggL_law_L_relieve
set_option maxRecDepth 20000 in
theorem ggL_law_X3_relieve : GoodIn wsL_law wsX3_relieve := goodIn_r _ [303, 154, 156, 157, 5, 158, 159, 160, 161, 162, 304, 305, 306, 307, 155, 60, 228, 308, 309, 310, 311, 59, 57, 312, 313, 314, 315, 62, 316, 317, 318, 319, 56, 320, 321, 322, 323, 324, 325, 326, 327, 61, 533, 534, 535, 536, 537, 538, 539, 540, 541, 542, 543] (by decide +kernel) (by decide +kernel)
set_option maxRecDepth 20000 in
theorem gL_law_X3_relieve : GoodIn wsL_law (wsV RL 101 RX3 yX3_relieve wsX3_relieve) := goodIn_app (goodIn_of _ (by decide +kernel)) ggL_law_X3_relieve
set_option maxRecDepth 20000 in
theorem ggL_law_L_rotate : GoodIn wsL_law wsL_rotate := goodIn_ca (goodIn_ca (goodIn_r _ [330, 68, 248, 331, 332, 333, 2, 334, 73, 74, 253, 254, 335, 336, 337, 338, 16, 181, 83, 84, 85, 15, 86, 87, 182, 183, 184, 185, 186, 187, 188, 189, 190, 191, 192, 193, 194, 195, 196, 197, 27, 339, 77, 340, 341, 91, 96, 342, 343, 344, 345, 346, 347, 348, 93, 349, 144, 118, 145, 272, 273, 274, 275, 95, 299, 269, 270, 271, 94, 255, 256, 257, 258, 20, 259, 260, 261, 262, 22, 263, 19, 264, 265, 47, 48, 46, 49, 266, 267, 268, 276, 277, 278, 42, 43, 44, 45, 279, 280, 281, 282, 283, 284, 285, 286, 287, 288, 50, 51, 289, 290, 291, 292, 350, 351, 352, 353, 354, 355, 356, 293, 294, 295, 296, 297, 298, 529, 530, 531, 532, 544, 545, 546, 557, 558, 559, 560, 561, 562, 563, 547, 548, 549, 550, 551, 552, 553, 554, 555, 556] (by decide +kernel) (by decide +kernel)) (goodIn_sub (fun _ h => List.mem_append_left _ (List.mem_append_left _ (List.mem_append_left _ (List.mem_append_right _ h)))) (by decide +kernel))) (goodIn_sub (fun _ h => List.mem_append_right _ h) (by decide +kernel))
set_option maxRecDepth 20000 in
theorem gL_law_L_rotate : GoodIn wsL_law (va_wsS RL 102 yL_rotate wsL_rotate) := goodIn_app (goodIn_of _ (by decide +kernel)) ggL_law_L_rotate
set_option maxRecDepth 20000 in
theorem ggL_law_X3_rotate : GoodIn wsL_law wsX3_rotate := goodIn_r _ [360, 154, 155, 59, 57, 361, 362, 363, 5, 364, 365, 366, 367, 368, 61, 316, 317, 318, 319, 56, 312, 313, 314, 315, 62, 159, 160, 161, 162, 304, 305, 306, 307, 60, 228, 308, 309, 310, 311, 320, 321, 322, 323, 324, 325, 326, 327, 369, 370, 371, 372, 533, 534, 535, 536, 537, 538, 539, 540, 541, 542, 543] (by decide +kernel) (by decide +kernel)
set_option maxRecDepth 20000 in
theorem gL_law_X3_rotate : GoodIn wsL_law (wsV RL 105 RX3 yX3_rotate wsX3_rotate) := goodIn_app (goodIn_of _ (by decide +kernel)) ggL_law_X3_rotate
set_option maxRecDepth 20000 in
theorem ggL_law_L_trip : GoodIn wsL_law wsL_trip := goodIn_ca (goodIn_r _ [375, 67, 376, 377, 378, 2, 379, 16, 181, 78, 79, 80, 81, 82, 83, 84, 85, 15, 86, 87, 182, 183, 184, 185, 186, 187, 188, 189, 190, 191, 192, 193, 194, 195, 196, 197, 27, 266, 77, 267, 268, 91, 96, 296, 297, 298, 93, 94, 299, 269, 270, 271, 272, 273, 274, 275, 95, 529, 530, 531, 532, 557, 558, 559, 560, 561, 562, 563, 544, 545, 546] (by decide +kernel) (by decide +kernel)) (goodIn_sub (fun _ h => List.mem_append_left _ (List.mem_append_left _ (List.mem_append_right _ h))) (by decide +kernel))
set_option maxRecDepth 20000 in
theorem gL_law_L_trip : GoodIn wsL_law (va_wsS RL 106 yL_trip wsL_trip) := goodIn_app (goodIn_of _ (by decide +kernel)) ggL_law_L_trip
set_option maxRecDepth 20000 in
theorem ggL_law_X3_trip : GoodIn wsL_law wsX3_trip := goodIn_r _ [383, 154, 155, 58, 156, 157, 5, 158, 159, 160, 161, 162, 308, 309, 310, 311, 59, 57, 324, 325, 326, 327, 61, 62, 312, 313, 314, 315, 316, 317, 318, 319, 56, 533, 534, 535, 536, 537, 538, 539, 540, 541, 542, 543] (by decide +kernel) (by decide +kernel)
set_option maxRecDepth 20000 in
theorem gL_law_X3_trip : GoodIn wsL_law (wsV RL 108 RX3 yX3_trip wsX3_trip) := goodIn_app (goodIn_of _ (by decide +kernel)) ggL_law_X3_trip
set_option maxRecDepth 20000 in
theorem ggL_law_L_restore : GoodIn wsL_law wsL_restore := goodIn_ca (goodIn_ca (goodIn_r _ [386, 170, 68, 387, 388, 389, 2, 390, 73, 74, 175, 176, 177, 178, 179, 180, 16, 181, 83, 84, 85, 15, 86, 87, 182, 183, 184, 185, 186, 187, 188, 189, 190, 191, 192, 193, 194, 195, 196, 197, 27, 354, 77, 355, 356, 94, 91, 345, 346, 347, 348, 93, 349, 144, 118, 145, 269, 270, 271, 272, 273, 274, 275, 95, 557, 558, 559, 560, 561, 562, 563, 529, 530, 531, 532, 544, 545, 546] (by decide +kernel) (by decide +kernel)) (goodIn_sub (fun _ h => List.mem_append_left _ (List.mem_append_left _ (List.mem_append_left _ (List.mem_append_right _ h)))) (by decide +kernel))) (goodIn_sub (fun _ h => List.mem_append_left _ (List.mem_append_right _ h)) (by decide +kernel))
set_option maxRecDepth 20000 in
theorem gL_law_L_restore : GoodIn wsL_law (va_wsS RL 109 yL_restore wsL_restore) := goodIn_app (goodIn_of _ (by decide +kernel)) ggL_law_L_restore
set_option maxRecDepth 20000 in
theorem ggL_law_X3_restore : GoodIn wsL_law wsX3_restore := goodIn_r _ [394, 154, 59, 202, 203, 204, 5, 205, 155, 156, 157, 158, 159, 160, 161, 162, 369, 370, 371, 372, 62, 61, 365, 366, 367, 368, 312, 313, 314, 315, 316, 317, 318, 319, 56, 533, 534, 535, 536, 537, 538, 539, 540, 541, 542, 543] (by decide +kernel) (by decide +kernel)
set_option maxRecDepth 20000 in
theorem gL_law_X3_restore : GoodIn wsL_law (wsV RL 111 RX3 yX3_restore wsX3_restore) := goodIn_app (goodIn_of _ (by decide +kernel)) ggL_law_X3_restore
set_option maxRecDepth 20000 in
theorem ggL_law_L_cut : GoodIn wsL_law wsL_cut := goodIn_ca (goodIn_ca (goodIn_r _ [397, 170, 68, 398, 399, 400, 2, 401, 73, 74, 175, 176, 177, 178, 179, 180, 16, 181, 83, 84, 85, 15, 86, 87, 182, 183, 184, 185, 186, 187, 188, 189, 190, 191, 192, 193, 194, 195, 196, 197, 27, 296, 77, 297, 298, 91, 93, 94, 299, 269, 270, 271, 272, 273, 274, 275, 95, 557, 558, 559, 560, 561, 562, 563, 529, 530, 531, 532, 544, 545, 546] (by decide +kernel) (by decide +kernel)) (goodIn_sub (fun _ h => List.mem_append_left _ (List.mem_append_left _ (List.mem_append_left _ (List.mem_append_right _ h)))) (by decide +kernel))) (goodIn_sub (fun _ h => List.mem_append_left _ (List.mem_append_right _ h)) (by decide +kernel))
set_option maxRecDepth 20000 in
theorem gL_law_L_cut : GoodIn wsL_law (va_wsS RL 112 yL_cut wsL_cut) := goodIn_app (goodIn_of _ (by decide +kernel)) ggL_law_L_cut
set_option maxRecDepth 20000 in
theorem ggL_law_X3_cut : GoodIn wsL_law wsX3_cut := goodIn_r _ [405, 154, 59, 202, 203, 204, 5, 205, 155, 156, 157, 158, 159, 160, 161, 162, 324, 325, 326, 327, 61, 62, 312, 313, 314, 315, 316, 317, 318, 319, 56, 533, 534, 535, 536, 537, 538, 539, 540, 541, 542, 543] (by decide +kernel) (by decide +kernel)
set_option maxRecDepth 20000 in
theorem gL_law_X3_cut : GoodIn wsL_law (wsV RL 114 RX3 yX3_cut wsX3_cut) := goodIn_app (goodIn_of _ (by decide +kernel)) ggL_law_X3_cut
set_option maxRecDepth 20000 in
theorem ggL_law_X2_hour : GoodIn wsL_law wsX2_hour := goodIn_r _ [409, 21, 529, 530, 531, 532] (by decide +kernel) (by decide +kernel)
set_option maxRecDepth 20000 in
theorem gL_law_X2_hour : GoodIn wsL_law (wsV RL 115 RX2 yX2_hour wsX2_hour) := goodIn_app (goodIn_of _ (by decide +kernel)) ggL_law_X2_hour
