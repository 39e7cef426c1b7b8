set_option maxRecDepth 20000 in
theorem ggL_law_X2_init : GoodIn wsL_law wsX2_init := goodIn_r _ [9, 10, 11, 12, 13, 14, 15, 16, 17, 18, 19, 20, 21, 22, 23, 24, 25, 26, 27, 28, 29, 30, 31, 32, 33, 34, 35, 36, 37, 38, 39, 40, 41, 42, 43, 44, 45, 46, 47, 48, 49, 50, 51, 544, 545, 546, 529, 530, 531, 532, 547, 548, 549, 550, 551, 552, 553, 554, 555, 556] (by decide +kernel) (by decide +kernel)
set_option maxRecDepth 20000 in
theorem gL_law_X2_init : GoodIn wsL_law (wsX2_init) := ggL_law_X2_init
set_option maxRecDepth 20000 in
theorem ggL_law_X3_init : GoodIn wsL_law wsX3_init := goodIn_r _ [54, 55, 11, 12, 41, 56, 57, 58, 59, 60, 61, 62, 533, 534, 535, 536, 537, 538, 539, 540, 541, 542, 543] (by decide +kernel) (by decide +kernel)
set_option maxRecDepth 20000 in
theorem gL_law_X3_init : GoodIn wsL_law (wsX3_init) := ggL_law_X3_init
set_option maxRecDepth 20000 in
theorem ggL_law_L_feeder : GoodIn wsL_law wsL_feeder := goodIn_ca (goodIn_ca (goodIn_r _ [66, 67, 68, 69, 70, 71, 2, 72, 73, 74, 16, 75, 76, 77, 78, 79, 80, 81, 82, 83, 84, 85, 15, 86, 87, 88, 89, 90, 11, 12, 91, 92, 93, 94, 95, 96, 97, 98, 99, 100, 101, 102, 103, 27, 104, 105, 106, 107, 108, 109, 110, 111, 112, 113, 114, 115, 26, 116, 117, 118, 119, 120, 121, 122, 123, 124, 125, 126, 127, 128, 129, 130, 131, 132, 133, 134, 135, 136, 137, 138, 139, 140, 141, 142, 143, 144, 145, 146, 147, 148, 149, 529, 530, 531, 532, 557, 558, 559, 560, 561, 562, 563, 544, 545, 546] (by decide +kernel) (by decide +kernel)) (goodIn_sub (fun _ h => List.mem_append_left _ (List.mem_append_left _ (List.mem_append_left _ (List.mem_append_right _ h)))) (by decide +kernel))) (goodIn_sub (fun _ h => List.mem_append_left _ (List.mem_append_left _ (List.mem_append_right _ h))) (by decide +kernel))
set_option maxRecDepth 20000 in
theorem gL_law_L_feeder : GoodIn wsL_law (va_wsS RL 75 yL_feeder wsL_feeder) := goodIn_app (goodIn_of _ (by decide +kernel)) ggL_law_L_feeder
set_option maxRecDepth 20000 in
theorem ggL_law_X3_feeder : GoodIn wsL_law wsX3_feeder := goodIn_r _ [153, 154, 155, 56, 57, 58, 156, 157, 5, 158, 159, 160, 161, 162, 533, 534, 535, 536, 537, 538, 539, 540, 541, 542, 543] (by decide +kernel) (by decide +kernel)
set_option maxRecDepth 20000 in
theorem gL_law_X3_feeder : GoodIn wsL_law (wsV RL 80 RX3 yX3_feeder wsX3_feeder) := goodIn_app (goodIn_of _ (by decide +kernel)) ggL_law_X3_feeder
set_option maxRecDepth 20000 in
theorem ggL_law_X3_thrown : GoodIn wsL_law wsX3_thrown := goodIn_r _ [166, 154, 533, 534, 535, 536, 537, 538, 539, 540, 541, 542, 543] (by decide +kernel) (by decide +kernel)
set_option maxRecDepth 20000 in
theorem gL_law_X3_thrown : GoodIn wsL_law (wsV RL 81 RX3 yX3_thrown wsX3_thrown) := goodIn_app (goodIn_of _ (by decide +kernel)) ggL_law_X3_thrown
set_option maxRecDepth 20000 in
theorem ggL_law_L_setLoad : GoodIn wsL_law wsL_setLoad := goodIn_ca (goodIn_ca (goodIn_r _ [169, 170, 67, 171, 172, 173, 2, 174, 175, 176, 177, 178, 179, 180, 16, 181, 83, 84, 85, 15, 86, 87, 182, 183, 184, 185, 186, 187, 188, 189, 190, 191, 192, 193, 194, 195, 196, 197, 27, 78, 79, 80, 81, 82, 557, 558, 559, 560, 561, 562, 563, 529, 530, 531, 532, 544, 545, 546] (by decide +kernel) (by decide +kernel)) (goodIn_sub (fun _ h => List.mem_append_left _ (List.mem_append_right _ h)) (by decide +kernel))) (goodIn_sub (fun _ h => List.mem_append_left _ (List.mem_append_left _ (List.mem_append_right _ h))) (by decide +kernel))
set_option maxRecDepth 20000 in
theorem gL_law_L_setLoad : GoodIn wsL_law (va_wsS RL 84 yL_setLoad wsL_setLoad) := goodIn_app (goodIn_of _ (by decide +kernel)) ggL_law_L_setLoad
set_option maxRecDepth 20000 in
theorem ggL_law_X3_setLoad : GoodIn wsL_law wsX3_setLoad := goodIn_r _ [201, 154, 56, 202, 203, 204, 5, 205, 155, 156, 157, 158, 159, 160, 161, 162, 533, 534, 535, 536, 537, 538, 539, 540, 541, 542, 543] (by decide +kernel) (by decide +kernel)
set_option maxRecDepth 20000 in
theorem gL_law_X3_setLoad : GoodIn wsL_law (wsV RL 87 RX3 yX3_setLoad wsX3_setLoad) := goodIn_app (goodIn_of _ (by decide +kernel)) ggL_law_X3_setLoad
set_option maxRecDepth 20000 in
theorem ggL_law_L_setCritical : GoodIn wsL_law wsL_setCritical := goodIn_ca (goodIn_r _ [208, 170, 209, 210, 211, 2, 212, 175, 176, 177, 178, 179, 180, 16, 181, 83, 84, 85, 15, 86, 87, 182, 183, 184, 185, 186, 187, 188, 189, 190, 191, 192, 193, 194, 195, 196, 197, 27, 557, 558, 559, 560, 561, 562, 563, 529, 530, 531, 532, 544, 545, 546] (by decide +kernel) (by decide +kernel)) (goodIn_sub (fun _ h => List.mem_append_left _ (List.mem_append_right _ h)) (by decide +kernel))
set_option maxRecDepth 20000 in
theorem gL_law_L_setCritical : GoodIn wsL_law (va_wsS RL 88 yL_setCritical wsL_setCritical) := goodIn_app (goodIn_of _ (by decide +kernel)) ggL_law_L_setCritical
set_option maxRecDepth 20000 in
theorem ggL_law_X3_setCritical : GoodIn wsL_law wsX3_setCritical := goodIn_r _ [216, 154, 57, 202, 203, 204, 5, 205, 155, 156, 157, 158, 159, 160, 161, 162, 533, 534, 535, 536, 537, 538, 539, 540, 541, 542, 543] (by decide +kernel) (by decide +kernel)
set_option maxRecDepth 20000 in
theorem gL_law_X3_setCritical : GoodIn wsL_law (wsV RL 91 RX3 yX3_setCritical wsX3_setCritical) := goodIn_app (goodIn_of _ (by decide +kernel)) ggL_law_X3_setCritical
set_option maxRecDepth 20000 in
theorem ggL_law_L_setSlack : GoodIn wsL_law wsL_setSlack := goodIn_ca (goodIn_r _ [219, 67, 220, 221, 222, 2, 223, 22, 78, 79, 80, 81, 82, 529, 530, 531, 532] (by decide +kernel) (by decide +kernel)) (goodIn_sub (fun _ h => List.mem_append_left _ (List.mem_append_left _ (List.mem_append_right _ h))) (by decide +kernel))
set_option maxRecDepth 20000 in
theorem gL_law_L_setSlack : GoodIn wsL_law (va_wsS RL 92 yL_setSlack wsL_setSlack) := goodIn_app (goodIn_of _ (by decide +kernel)) ggL_law_L_setSlack
set_option maxRecDepth 20000 in
theorem ggL_law_X3_setSlack : GoodIn wsL_law wsX3_setSlack := goodIn_r _ [227, 154, 228, 156, 157, 5, 158, 159, 160, 161, 162, 533, 534, 535, 536, 537, 538, 539, 540, 541, 542, 543] (by decide +kernel) (by decide +kernel)
set_option maxRecDepth 20000 in
theorem gL_law_X3_setSlack : GoodIn wsL_law (wsV RL 95 RX3 yX3_setSlack wsX3_setSlack) := goodIn_app (goodIn_of _ (by decide +kernel)) ggL_law_X3_setSlack
set_option maxRecDepth 20000 in
theorem ggL_law_L_pass : GoodIn wsL_law wsL_pass := goodIn_ca (goodIn_r _ [231, 67, 232, 233, 234, 2, 235, 21, 16, 181, 78, 79, 80, 81, 82, 83, 84, 85, 15, 86, 87, 182, 183, 184, 185, 186, 187, 188, 189, 190, 191, 192, 193, 194, 195, 196, 197, 27, 236, 77, 237, 238, 91, 92, 93, 94, 239, 117, 118, 119, 529, 530, 531, 532, 544, 545, 546, 557, 558, 559, 560, 561, 562, 563] (by decide +kernel) (by decide +kernel)) (goodIn_sub (fun _ h => List.mem_append_left _ (List.mem_append_left _ (List.mem_append_right _ h))) (by decide +kernel))
set_option maxRecDepth 20000 in
theorem gL_law_L_pass : GoodIn wsL_law (va_wsS RL 96 yL_pass wsL_pass) := goodIn_app (goodIn_of _ (by decide +kernel)) ggL_law_L_pass
