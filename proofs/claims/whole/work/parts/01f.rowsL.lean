set_option maxRecDepth 20000 in
theorem ggL_feeder_X2_feeder : GoodIn wsL_feeder wsX2_feeder := goodIn_ca (goodIn_ca (goodIn_r _ [7, 8, 9, 10, 11, 12, 13, 14, 15, 6, 16, 17, 18, 19, 20, 21, 22, 23, 24, 25, 26, 27, 28, 29, 30, 31, 32, 33, 34, 35, 36, 37, 38, 39, 40, 41, 42, 43, 44, 45, 46, 47, 48, 49, 50, 51, 52, 53, 54, 55, 56, 57, 58, 59, 60, 61, 62, 63, 64, 65, 66, 67, 68, 69, 70, 71, 72, 73, 74, 75, 76, 77, 78, 79, 80, 81, 82, 83, 84, 85, 86, 87, 88, 89, 90, 91, 92, 93, 94, 95, 96, 97, 98, 99, 100, 101, 102, 103, 104] (by decide +kernel) (by decide +kernel)) (goodIn_sub (fun _ h => List.mem_cons_of_mem _ (List.mem_append_left _ (List.mem_append_right _ h))) (by decide +kernel))) (goodIn_sub (fun _ h => List.mem_cons_of_mem _ (List.mem_append_right _ h)) (by decide +kernel))
set_option maxRecDepth 20000 in
theorem gL_feeder_X2_feeder : GoodIn wsL_feeder (wsV RL 7 RX2 yX2_feeder wsX2_feeder) := goodIn_app (goodIn_of _ (by decide +kernel)) ggL_feeder_X2_feeder
theorem dL_feeder_0 : decode cL_feeder 0 = .ok (.aload 4, 2) := by decide +kernel
theorem dL_feeder_2 : decode cL_feeder 2 = .ok (.iconst 0, 1) := by decide +kernel
theorem dL_feeder_3 : decode cL_feeder 3 = .ok (.aload_n 0, 1) := by decide +kernel
theorem dL_feeder_4 : decode cL_feeder 4 = .ok (.iload_n 1, 1) := by decide +kernel
theorem dL_feeder_5 : decode cL_feeder 5 = .ok (.iload_n 2, 1) := by decide +kernel
theorem dL_feeder_6 : decode cL_feeder 6 = .ok (.iload_n 3, 1) := by decide +kernel
theorem dL_feeder_7 : decode cL_feeder 7 = .ok (.invokevirtual 7, 3) := by decide +kernel
theorem dL_feeder_10 : decode cL_feeder 10 = .ok (.i2l, 1) := by decide +kernel
theorem dL_feeder_11 : decode cL_feeder 11 = .ok (.lastore, 1) := by decide +kernel
theorem dL_feeder_12 : decode cL_feeder 12 = .ok (.goto 11, 3) := by decide +kernel
theorem dL_feeder_15 : decode cL_feeder 15 = .ok (.astore 5, 2) := by decide +kernel
theorem dL_feeder_17 : decode cL_feeder 17 = .ok (.iconst 1, 1) := by decide +kernel
theorem dL_feeder_18 : decode cL_feeder 18 = .ok (.ireturn, 1) := by decide +kernel
theorem dL_feeder_19 : decode cL_feeder 19 = .ok (.astore 5, 2) := by decide +kernel
theorem dL_feeder_21 : decode cL_feeder 21 = .ok (.iconst 2, 1) := by decide +kernel
theorem dL_feeder_22 : decode cL_feeder 22 = .ok (.ireturn, 1) := by decide +kernel
theorem dL_feeder_23 : decode cL_feeder 23 = .ok (.iconst 0, 1) := by decide +kernel
theorem dL_feeder_24 : decode cL_feeder 24 = .ok (.ireturn, 1) := by decide +kernel
set_option maxRecDepth 20000 in
theorem ggL_setLoad_X2_setLoad : GoodIn wsL_setLoad wsX2_setLoad := goodIn_ca (goodIn_ca (goodIn_r _ [7, 8, 9, 10, 6, 11, 12, 13, 14, 15, 16, 17, 18, 19, 20, 21, 22, 23, 24, 25, 26, 27, 28, 29, 30, 31, 32, 33, 34, 35, 36, 37, 38, 39, 40, 41, 42, 43, 44, 45, 46, 47, 48, 49, 50, 51, 52, 53, 54, 55, 56, 57] (by decide +kernel) (by decide +kernel)) (goodIn_sub (fun _ h => List.mem_cons_of_mem _ (List.mem_append_left _ (List.mem_append_right _ h))) (by decide +kernel))) (goodIn_sub (fun _ h => List.mem_cons_of_mem _ (List.mem_append_right _ h)) (by decide +kernel))
set_option maxRecDepth 20000 in
theorem gL_setLoad_X2_setLoad : GoodIn wsL_setLoad (wsV RL 17 RX2 yX2_setLoad wsX2_setLoad) := goodIn_app (goodIn_of _ (by decide +kernel)) ggL_setLoad_X2_setLoad
theorem dL_setLoad_0 : decode cL_setLoad 0 = .ok (.aload_n 3, 1) := by decide +kernel
theorem dL_setLoad_1 : decode cL_setLoad 1 = .ok (.iconst 0, 1) := by decide +kernel
theorem dL_setLoad_2 : decode cL_setLoad 2 = .ok (.aload_n 0, 1) := by decide +kernel
theorem dL_setLoad_3 : decode cL_setLoad 3 = .ok (.iload_n 1, 1) := by decide +kernel
theorem dL_setLoad_4 : decode cL_setLoad 4 = .ok (.iload_n 2, 1) := by decide +kernel
theorem dL_setLoad_5 : decode cL_setLoad 5 = .ok (.invokevirtual 17, 3) := by decide +kernel
theorem dL_setLoad_8 : decode cL_setLoad 8 = .ok (.i2l, 1) := by decide +kernel
theorem dL_setLoad_9 : decode cL_setLoad 9 = .ok (.lastore, 1) := by decide +kernel
theorem dL_setLoad_10 : decode cL_setLoad 10 = .ok (.goto 11, 3) := by decide +kernel
theorem dL_setLoad_13 : decode cL_setLoad 13 = .ok (.astore 4, 2) := by decide +kernel
theorem dL_setLoad_15 : decode cL_setLoad 15 = .ok (.iconst 1, 1) := by decide +kernel
theorem dL_setLoad_16 : decode cL_setLoad 16 = .ok (.ireturn, 1) := by decide +kernel
theorem dL_setLoad_17 : decode cL_setLoad 17 = .ok (.astore 4, 2) := by decide +kernel
theorem dL_setLoad_19 : decode cL_setLoad 19 = .ok (.iconst 2, 1) := by decide +kernel
theorem dL_setLoad_20 : decode cL_setLoad 20 = .ok (.ireturn, 1) := by decide +kernel
theorem dL_setLoad_21 : decode cL_setLoad 21 = .ok (.iconst 0, 1) := by decide +kernel
theorem dL_setLoad_22 : decode cL_setLoad 22 = .ok (.ireturn, 1) := by decide +kernel
set_option maxRecDepth 20000 in
theorem ggL_setCritical_X2_setCritical : GoodIn wsL_setCritical wsX2_setCritical := goodIn_ca (goodIn_r _ [6, 7, 8, 9, 5, 10, 11, 12, 13, 14, 15, 16, 17, 18, 19, 20, 21, 22, 23, 24, 25, 26, 27, 28, 29, 30, 31, 32, 33, 34, 35, 36, 37, 38, 39, 40, 41, 42, 43, 44, 45, 46, 47, 48, 49, 50, 51] (by decide +kernel) (by decide +kernel)) (goodIn_sub (fun _ h => List.mem_cons_of_mem _ (List.mem_append_right _ h)) (by decide +kernel))
set_option maxRecDepth 20000 in
theorem gL_setCritical_X2_setCritical : GoodIn wsL_setCritical (wsV RL 23 RX2 yX2_setCritical wsX2_setCritical) := goodIn_app (goodIn_of _ (by decide +kernel)) ggL_setCritical_X2_setCritical
theorem dL_setCritical_0 : decode cL_setCritical 0 = .ok (.aload_n 3, 1) := by decide +kernel
theorem dL_setCritical_1 : decode cL_setCritical 1 = .ok (.iconst 0, 1) := by decide +kernel
theorem dL_setCritical_2 : decode cL_setCritical 2 = .ok (.aload_n 0, 1) := by decide +kernel
theorem dL_setCritical_3 : decode cL_setCritical 3 = .ok (.iload_n 1, 1) := by decide +kernel
theorem dL_setCritical_4 : decode cL_setCritical 4 = .ok (.iload_n 2, 1) := by decide +kernel
theorem dL_setCritical_5 : decode cL_setCritical 5 = .ok (.invokevirtual 23, 3) := by decide +kernel
theorem dL_setCritical_8 : decode cL_setCritical 8 = .ok (.ifCond .eq 7, 3) := by decide +kernel
theorem dL_setCritical_11 : decode cL_setCritical 11 = .ok (.lconst 1, 1) := by decide +kernel
theorem dL_setCritical_12 : decode cL_setCritical 12 = .ok (.goto 4, 3) := by decide +kernel
theorem dL_setCritical_15 : decode cL_setCritical 15 = .ok (.lconst 0, 1) := by decide +kernel
theorem dL_setCritical_16 : decode cL_setCritical 16 = .ok (.lastore, 1) := by decide +kernel
theorem dL_setCritical_17 : decode cL_setCritical 17 = .ok (.goto 7, 3) := by decide +kernel
theorem dL_setCritical_20 : decode cL_setCritical 20 = .ok (.astore 4, 2) := by decide +kernel
theorem dL_setCritical_22 : decode cL_setCritical 22 = .ok (.iconst 1, 1) := by decide +kernel
theorem dL_setCritical_23 : decode cL_setCritical 23 = .ok (.ireturn, 1) := by decide +kernel
theorem dL_setCritical_24 : decode cL_setCritical 24 = .ok (.iconst 0, 1) := by decide +kernel
theorem dL_setCritical_25 : decode cL_setCritical 25 = .ok (.ireturn, 1) := by decide +kernel
set_option maxRecDepth 20000 in
theorem ggL_setSlack_X2_setSlack : GoodIn wsL_setSlack wsX2_setSlack := goodIn_ca (goodIn_r _ [6, 7, 8, 9, 5, 10, 11, 12, 13, 14, 15, 16] (by decide +kernel) (by decide +kernel)) (goodIn_sub (fun _ h => List.mem_cons_of_mem _ (List.mem_append_right _ h)) (by decide +kernel))
set_option maxRecDepth 20000 in
theorem gL_setSlack_X2_setSlack : GoodIn wsL_setSlack (wsV RL 27 RX2 yX2_setSlack wsX2_setSlack) := goodIn_app (goodIn_of _ (by decide +kernel)) ggL_setSlack_X2_setSlack
theorem dL_setSlack_0 : decode cL_setSlack 0 = .ok (.aload_n 2, 1) := by decide +kernel
theorem dL_setSlack_1 : decode cL_setSlack 1 = .ok (.iconst 0, 1) := by decide +kernel
theorem dL_setSlack_2 : decode cL_setSlack 2 = .ok (.aload_n 0, 1) := by decide +kernel
theorem dL_setSlack_3 : decode cL_setSlack 3 = .ok (.iload_n 1, 1) := by decide +kernel
theorem dL_setSlack_4 : decode cL_setSlack 4 = .ok (.invokevirtual 27, 3) := by decide +kernel
theorem dL_setSlack_7 : decode cL_setSlack 7 = .ok (.i2l, 1) := by decide +kernel
theorem dL_setSlack_8 : decode cL_setSlack 8 = .ok (.lastore, 1) := by decide +kernel
theorem dL_setSlack_9 : decode cL_setSlack 9 = .ok (.goto 6, 3) := by decide +kernel
theorem dL_setSlack_12 : decode cL_setSlack 12 = .ok (.astore_n 3, 1) := by decide +kernel
theorem dL_setSlack_13 : decode cL_setSlack 13 = .ok (.iconst 1, 1) := by decide +kernel
theorem dL_setSlack_14 : decode cL_setSlack 14 = .ok (.ireturn, 1) := by decide +kernel
theorem dL_setSlack_15 : decode cL_setSlack 15 = .ok (.iconst 0, 1) := by decide +kernel
theorem dL_setSlack_16 : decode cL_setSlack 16 = .ok (.ireturn, 1) := by decide +kernel
set_option maxRecDepth 20000 in
theorem ggL_pass_X2_pass : GoodIn wsL_pass wsX2_pass := goodIn_ca (goodIn_r _ [6, 7, 8, 9, 10, 11, 5, 12, 13, 14, 15, 16, 17, 18, 19, 20, 21, 22, 23, 24, 25, 26, 27, 28, 29, 30, 31, 32, 33, 34, 35, 36, 37, 38, 39, 40, 41, 42, 43, 44, 45, 46, 47, 48, 49, 50, 51, 52, 53, 54, 55, 56, 57, 58, 59, 60, 61, 62, 63] (by decide +kernel) (by decide +kernel)) (goodIn_sub (fun _ h => List.mem_cons_of_mem _ (List.mem_append_right _ h)) (by decide +kernel))
set_option maxRecDepth 20000 in
theorem gL_pass_X2_pass : GoodIn wsL_pass (wsV RL 31 RX2 yX2_pass wsX2_pass) := goodIn_app (goodIn_of _ (by decide +kernel)) ggL_pass_X2_pass
theorem dL_pass_0 : decode cL_pass 0 = .ok (.aload_n 2, 1) := by decide +kernel
theorem dL_pass_1 : decode cL_pass 1 = .ok (.iconst 0, 1) := by decide +kernel
theorem dL_pass_2 : decode cL_pass 2 = .ok (.aload_n 0, 1) := by decide +kernel
theorem dL_pass_3 : decode cL_pass 3 = .ok (.iload_n 1, 1) := by decide +kernel
theorem dL_pass_4 : decode cL_pass 4 = .ok (.invokevirtual 31, 3) := by decide +kernel
theorem dL_pass_7 : decode cL_pass 7 = .ok (.i2l, 1) := by decide +kernel
theorem dL_pass_8 : decode cL_pass 8 = .ok (.lastore, 1) := by decide +kernel
theorem dL_pass_9 : decode cL_pass 9 = .ok (.goto 6, 3) := by decide +kernel
theorem dL_pass_12 : decode cL_pass 12 = .ok (.astore_n 3, 1) := by decide +kernel
theorem dL_pass_13 : decode cL_pass 13 = .ok (.iconst 1, 1) := by decide +kernel
theorem dL_pass_14 : decode cL_pass 14 = .ok (.ireturn, 1) := by decide +kernel
theorem dL_pass_15 : decode cL_pass 15 = .ok (.iconst 0, 1) := by decide +kernel
theorem dL_pass_16 : decode cL_pass 16 = .ok (.ireturn, 1) := by decide +kernel
set_option maxRecDepth 20000 in
theorem ggL_relieve_X2_relieve : GoodIn wsL_relieve wsX2_relieve := goodIn_ca (goodIn_ca (goodIn_r _ [7, 8, 9, 10, 11, 12, 13, 6, 14, 15, 16, 17, 18, 19, 20, 21, 22, 23, 24, 25, 26, 27, 28, 29, 30, 31, 32, 33, 34, 35, 36, 37, 38, 39, 40, 41, 42, 43, 44, 45, 46, 47, 48, 49, 50, 51, 52, 53, 54, 55, 56, 57, 58, 59, 60, 61, 62, 63, 64, 65, 66, 67, 68, 69, 70, 71, 72, 73, 74, 75, 76, 77, 78, 79, 80, 81, 82, 83, 84, 85, 86, 87, 88, 89, 90, 91, 92, 93, 94, 95, 96, 97, 98, 99, 100, 101, 102, 103, 104, 105, 106, 107, 108, 109, 110, 111, 112, 113, 114, 115, 116, 117, 118, 119, 120, 121, 122, 123, 124, 125, 126, 127] (by decide +kernel) (by decide +kernel)) (goodIn_sub (fun _ h => List.mem_cons_of_mem _ (List.mem_append_left _ (List.mem_append_right _ h))) (by decide +kernel))) (goodIn_sub (fun _ h => List.mem_cons_of_mem _ (List.mem_append_right _ h)) (by decide +kernel))
set_option maxRecDepth 20000 in
theorem gL_relieve_X2_relieve : GoodIn wsL_relieve (wsV RL 34 RX2 yX2_relieve wsX2_relieve) := goodIn_app (goodIn_of _ (by decide +kernel)) ggL_relieve_X2_relieve
theorem dL_relieve_0 : decode cL_relieve 0 = .ok (.aload_n 2, 1) := by decide +kernel
theorem dL_relieve_1 : decode cL_relieve 1 = .ok (.iconst 0, 1) := by decide +kernel
theorem dL_relieve_2 : decode cL_relieve 2 = .ok (.aload_n 0, 1) := by decide +kernel
theorem dL_relieve_3 : decode cL_relieve 3 = .ok (.iload_n 1, 1) := by decide +kernel
theorem dL_relieve_4 : decode cL_relieve 4 = .ok (.invokevirtual 34, 3) := by decide +kernel
theorem dL_relieve_7 : decode cL_relieve 7 = .ok (.i2l, 1) := by decide +kernel
theorem dL_relieve_8 : decode cL_relieve 8 = .ok (.lastore, 1) := by decide +kernel
theorem dL_relieve_9 : decode cL_relieve 9 = .ok (.goto 9, 3) := by decide +kernel
theorem dL_relieve_12 : decode cL_relieve 12 = .ok (.astore_n 3, 1) := by decide +kernel
theorem dL_relieve_13 : decode cL_relieve 13 = .ok (.iconst 1, 1) := by decide +kernel
theorem dL_relieve_14 : decode cL_relieve 14 = .ok (.ireturn, 1) := by decide +kernel
theorem dL_relieve_15 : decode cL_relieve 15 = .ok (.astore_n 3, 1) := by decide +kernel
theorem dL_relieve_16 : decode cL_relieve 16 = .ok (.iconst 2, 1) := by decide +kernel
theorem dL_relieve_17 : decode cL_relieve 17 = .ok (.ireturn, 1) := by decide +kernel
theorem dL_relieve_18 : decode cL_relieve 18 = .ok (.iconst 0, 1) := by decide +kernel
theorem dL_relieve_19 : decode cL_relieve 19 = .ok (.ireturn, 1) := by decide +kernel
set_option maxRecDepth 20000 in
theorem ggL_rotate_X2_rotate : GoodIn wsL_rotate wsX2_rotate := goodIn_ca (goodIn_ca (goodIn_r _ [7, 8, 9, 10, 11, 12, 13, 14, 6, 15, 16, 17, 18, 19, 20, 21, 22, 23, 24, 25, 26, 27, 28, 29, 30, 31, 32, 33, 34, 35, 36, 37, 38, 39, 40, 41, 42, 43, 44, 45, 46, 47, 48, 49, 50, 51, 52, 53, 54, 55, 56, 57, 58, 59, 60, 61, 62, 63, 64, 65, 66, 67, 68, 69, 70, 71, 72, 73, 74, 75, 76, 77, 78, 79, 80, 81, 82, 83, 84, 85, 86, 87, 88, 89, 90, 91, 92, 93, 94, 95, 96, 97, 98, 99, 100, 101, 102, 103, 104, 105, 106, 107, 108, 109, 110, 111, 112, 113, 114, 115, 116, 117, 118, 119, 120, 121, 122, 123, 124, 125, 126, 127, 128, 129, 130, 131, 132, 133, 134, 135, 136, 137, 138, 139, 140, 141, 142, 143, 144, 145, 146, 147, 148, 149] (by decide +kernel) (by decide +kernel)) (goodIn_sub (fun _ h => List.mem_cons_of_mem _ (List.mem_append_left _ (List.mem_append_right _ h))) (by decide +kernel))) (goodIn_sub (fun _ h => List.mem_cons_of_mem _ (List.mem_append_right _ h)) (by decide +kernel))
set_option maxRecDepth 20000 in
theorem gL_rotate_X2_rotate : GoodIn wsL_rotate (wsV RL 39 RX2 yX2_rotate wsX2_rotate) := goodIn_app (goodIn_of _ (by decide +kernel)) ggL_rotate_X2_rotate
theorem dL_rotate_0 : decode cL_rotate 0 = .ok (.aload_n 1, 1) := by decide +kernel
theorem dL_rotate_1 : decode cL_rotate 1 = .ok (.iconst 0, 1) := by decide +kernel
theorem dL_rotate_2 : decode cL_rotate 2 = .ok (.aload_n 0, 1) := by decide +kernel
theorem dL_rotate_3 : decode cL_rotate 3 = .ok (.invokevirtual 39, 3) := by decide +kernel
theorem dL_rotate_6 : decode cL_rotate 6 = .ok (.i2l, 1) := by decide +kernel
theorem dL_rotate_7 : decode cL_rotate 7 = .ok (.lastore, 1) := by decide +kernel
theorem dL_rotate_8 : decode cL_rotate 8 = .ok (.goto 9, 3) := by decide +kernel
theorem dL_rotate_11 : decode cL_rotate 11 = .ok (.astore_n 2, 1) := by decide +kernel
theorem dL_rotate_12 : decode cL_rotate 12 = .ok (.iconst 1, 1) := by decide +kernel
theorem dL_rotate_13 : decode cL_rotate 13 = .ok (.ireturn, 1) := by decide +kernel
theorem dL_rotate_14 : decode cL_rotate 14 = .ok (.astore_n 2, 1) := by decide +kernel
theorem dL_rotate_15 : decode cL_rotate 15 = .ok (.iconst 2, 1) := by decide +kernel
theorem dL_rotate_16 : decode cL_rotate 16 = .ok (.ireturn, 1) := by decide +kernel
theorem dL_rotate_17 : decode cL_rotate 17 = .ok (.iconst 0, 1) := by decide +kernel
theorem dL_rotate_18 : decode cL_rotate 18 = .ok (.ireturn, 1) := by decide +kernel
set_option maxRecDepth 20000 in
theorem ggL_trip_X2_trip : GoodIn wsL_trip wsX2_trip := goodIn_ca (goodIn_r _ [6, 7, 8, 9, 10, 5, 11, 12, 13, 14, 15, 16, 17, 18, 19, 20, 21, 22, 23, 24, 25, 26, 27, 28, 29, 30, 31, 32, 33, 34, 35, 36, 37, 38, 39, 40, 41, 42, 43, 44, 45, 46, 47, 48, 49, 50, 51, 52, 53, 54, 55, 56, 57, 58, 59, 60, 61, 62, 63, 64, 65, 66, 67, 68, 69, 70] (by decide +kernel) (by decide +kernel)) (goodIn_sub (fun _ h => List.mem_cons_of_mem _ (List.mem_append_right _ h)) (by decide +kernel))
set_option maxRecDepth 20000 in
theorem gL_trip_X2_trip : GoodIn wsL_trip (wsV RL 43 RX2 yX2_trip wsX2_trip) := goodIn_app (goodIn_of _ (by decide +kernel)) ggL_trip_X2_trip
theorem dL_trip_0 : decode cL_trip 0 = .ok (.aload_n 2, 1) := by decide +kernel
theorem dL_trip_1 : decode cL_trip 1 = .ok (.iconst 0, 1) := by decide +kernel
theorem dL_trip_2 : decode cL_trip 2 = .ok (.aload_n 0, 1) := by decide +kernel
theorem dL_trip_3 : decode cL_trip 3 = .ok (.iload_n 1, 1) := by decide +kernel
theorem dL_trip_4 : decode cL_trip 4 = .ok (.invokevirtual 43, 3) := by decide +kernel
theorem dL_trip_7 : decode cL_trip 7 = .ok (.i2l, 1) := by decide +kernel
theorem dL_trip_8 : decode cL_trip 8 = .ok (.lastore, 1) := by decide +kernel
theorem dL_trip_9 : decode cL_trip 9 = .ok (.goto 6, 3) := by decide +kernel
theorem dL_trip_12 : decode cL_trip 12 = .ok (.astore_n 3, 1) := by decide +kernel
theorem dL_trip_13 : decode cL_trip 13 = .ok (.iconst 1, 1) := by decide +kernel
theorem dL_trip_14 : decode cL_trip 14 = .ok (.ireturn, 1) := by decide +kernel
theorem dL_trip_15 : decode cL_trip 15 = .ok (.iconst 0, 1) := by decide +kernel
theorem dL_trip_16 : decode cL_trip 16 = .ok (.ireturn, 1) := by decide +kernel
set_option maxRecDepth 20000 in
theorem ggL_restore_X2_restore : GoodIn wsL_restore wsX2_restore := goodIn_ca (goodIn_ca (goodIn_r _ [7, 8, 9, 10, 11, 12, 6, 13, 14, 15, 16, 17, 18, 19, 20, 21, 22, 23, 24, 25, 26, 27, 28, 29, 30, 31, 32, 33, 34, 35, 36, 37, 38, 39, 40, 41, 42, 43, 44, 45, 46, 47, 48, 49, 50, 51, 52, 53, 54, 55, 56, 57, 58, 59, 60, 61, 62, 63, 64, 65, 66, 67, 68, 69, 70, 71, 72, 73, 74, 75, 76, 77] (by decide +kernel) (by decide +kernel)) (goodIn_sub (fun _ h => List.mem_cons_of_mem _ (List.mem_append_left _ (List.mem_append_right _ h))) (by decide +kernel))) (goodIn_sub (fun _ h => List.mem_cons_of_mem _ (List.mem_append_right _ h)) (by decide +kernel))
set_option maxRecDepth 20000 in
theorem gL_restore_X2_restore : GoodIn wsL_restore (wsV RL 46 RX2 yX2_restore wsX2_restore) := goodIn_app (goodIn_of _ (by decide +kernel)) ggL_restore_X2_restore
theorem dL_restore_0 : decode cL_restore 0 = .ok (.aload_n 2, 1) := by decide +kernel
theorem dL_restore_1 : decode cL_restore 1 = .ok (.iconst 0, 1) := by decide +kernel
theorem dL_restore_2 : decode cL_restore 2 = .ok (.aload_n 0, 1) := by decide +kernel
theorem dL_restore_3 : decode cL_restore 3 = .ok (.iload_n 1, 1) := by decide +kernel
theorem dL_restore_4 : decode cL_restore 4 = .ok (.invokevirtual 46, 3) := by decide +kernel
theorem dL_restore_7 : decode cL_restore 7 = .ok (.i2l, 1) := by decide +kernel
theorem dL_restore_8 : decode cL_restore 8 = .ok (.lastore, 1) := by decide +kernel
theorem dL_restore_9 : decode cL_restore 9 = .ok (.goto 9, 3) := by decide +kernel
theorem dL_restore_12 : decode cL_restore 12 = .ok (.astore_n 3, 1) := by decide +kernel
theorem dL_restore_13 : decode cL_restore 13 = .ok (.iconst 1, 1) := by decide +kernel
theorem dL_restore_14 : decode cL_restore 14 = .ok (.ireturn, 1) := by decide +kernel
theorem dL_restore_15 : decode cL_restore 15 = .ok (.astore_n 3, 1) := by decide +kernel
theorem dL_restore_16 : decode cL_restore 16 = .ok (.iconst 2, 1) := by decide +kernel
theorem dL_restore_17 : decode cL_restore 17 = .ok (.ireturn, 1) := by decide +kernel
theorem dL_restore_18 : decode cL_restore 18 = .ok (.iconst 0, 1) := by decide +kernel
theorem dL_restore_19 : decode cL_restore 19 = .ok (.ireturn, 1) := by decide +kernel
set_option maxRecDepth 20000 in
theorem ggL_cut_X2_cut : GoodIn wsL_cut wsX2_cut := goodIn_ca (goodIn_ca (goodIn_r _ [7, 8, 9, 10, 11, 12, 6, 13, 14, 15, 16, 17, 18, 19, 20, 21, 22, 23, 24, 25, 26, 27, 28, 29, 30, 31, 32, 33, 34, 35, 36, 37, 38, 39, 40, 41, 42, 43, 44, 45, 46, 47, 48, 49, 50, 51, 52, 53, 54, 55, 56, 57, 58, 59, 60, 61, 62, 63, 64, 65, 66, 67, 68, 69, 70] (by decide +kernel) (by decide +kernel)) (goodIn_sub (fun _ h => List.mem_cons_of_mem _ (List.mem_append_left _ (List.mem_append_right _ h))) (by decide +kernel))) (goodIn_sub (fun _ h => List.mem_cons_of_mem _ (List.mem_append_right _ h)) (by decide +kernel))
set_option maxRecDepth 20000 in
theorem gL_cut_X2_cut : GoodIn wsL_cut (wsV RL 49 RX2 yX2_cut wsX2_cut) := goodIn_app (goodIn_of _ (by decide +kernel)) ggL_cut_X2_cut
theorem dL_cut_0 : decode cL_cut 0 = .ok (.aload_n 2, 1) := by decide +kernel
theorem dL_cut_1 : decode cL_cut 1 = .ok (.iconst 0, 1) := by decide +kernel
theorem dL_cut_2 : decode cL_cut 2 = .ok (.aload_n 0, 1) := by decide +kernel
theorem dL_cut_3 : decode cL_cut 3 = .ok (.iload_n 1, 1) := by decide +kernel
theorem dL_cut_4 : decode cL_cut 4 = .ok (.invokevirtual 49, 3) := by decide +kernel
theorem dL_cut_7 : decode cL_cut 7 = .ok (.i2l, 1) := by decide +kernel
theorem dL_cut_8 : decode cL_cut 8 = .ok (.lastore, 1) := by decide +kernel
theorem dL_cut_9 : decode cL_cut 9 = .ok (.goto 9, 3) := by decide +kernel
theorem dL_cut_12 : decode cL_cut 12 = .ok (.astore_n 3, 1) := by decide +kernel
theorem dL_cut_13 : decode cL_cut 13 = .ok (.iconst 1, 1) := by decide +kernel
theorem dL_cut_14 : decode cL_cut 14 = .ok (.ireturn, 1) := by decide +kernel
theorem dL_cut_15 : decode cL_cut 15 = .ok (.astore_n 3, 1) := by decide +kernel
theorem dL_cut_16 : decode cL_cut 16 = .ok (.iconst 2, 1) := by decide +kernel
theorem dL_cut_17 : decode cL_cut 17 = .ok (.ireturn, 1) := by decide +kernel
theorem dL_cut_18 : decode cL_cut 18 = .ok (.iconst 0, 1) := by decide +kernel
theorem dL_cut_19 : decode cL_cut 19 = .ok (.ireturn, 1) := by decide +kernel
set_option maxRecDepth 20000 in
theorem ggL_isCut_X2_isCut : GoodIn wsL_isCut wsX2_isCut := goodIn_ca (goodIn_r _ [6, 7, 8, 9, 5, 10, 11, 12, 13, 14, 15, 16, 17, 18, 19, 20, 21, 22, 23, 24, 25, 26, 27, 28, 29, 30, 31, 32, 33, 34, 35, 36, 37, 38, 39, 40, 41, 42, 43, 44, 45, 46, 47, 48, 49, 50, 51] (by decide +kernel) (by decide +kernel)) (goodIn_sub (fun _ h => List.mem_cons_of_mem _ (List.mem_append_right _ h)) (by decide +kernel))
set_option maxRecDepth 20000 in
theorem gL_isCut_X2_isCut : GoodIn wsL_isCut (wsV RL 52 RX2 yX2_isCut wsX2_isCut) := goodIn_app (goodIn_of _ (by decide +kernel)) ggL_isCut_X2_isCut
theorem dL_isCut_0 : decode cL_isCut 0 = .ok (.aload_n 2, 1) := by decide +kernel
theorem dL_isCut_1 : decode cL_isCut 1 = .ok (.iconst 0, 1) := by decide +kernel
theorem dL_isCut_2 : decode cL_isCut 2 = .ok (.aload_n 0, 1) := by decide +kernel
theorem dL_isCut_3 : decode cL_isCut 3 = .ok (.iload_n 1, 1) := by decide +kernel
theorem dL_isCut_4 : decode cL_isCut 4 = .ok (.invokevirtual 52, 3) := by decide +kernel
theorem dL_isCut_7 : decode cL_isCut 7 = .ok (.ifCond .eq 7, 3) := by decide +kernel
theorem dL_isCut_10 : decode cL_isCut 10 = .ok (.lconst 1, 1) := by decide +kernel
theorem dL_isCut_11 : decode cL_isCut 11 = .ok (.goto 4, 3) := by decide +kernel
theorem dL_isCut_14 : decode cL_isCut 14 = .ok (.lconst 0, 1) := by decide +kernel
theorem dL_isCut_15 : decode cL_isCut 15 = .ok (.lastore, 1) := by decide +kernel
theorem dL_isCut_16 : decode cL_isCut 16 = .ok (.goto 6, 3) := by decide +kernel
theorem dL_isCut_19 : decode cL_isCut 19 = .ok (.astore_n 3, 1) := by decide +kernel
theorem dL_isCut_20 : decode cL_isCut 20 = .ok (.iconst 1, 1) := by decide +kernel
theorem dL_isCut_21 : decode cL_isCut 21 = .ok (.ireturn, 1) := by decide +kernel
theorem dL_isCut_22 : decode cL_isCut 22 = .ok (.iconst 0, 1) := by decide +kernel
theorem dL_isCut_23 : decode cL_isCut 23 = .ok (.ireturn, 1) := by decide +kernel
set_option maxRecDepth 20000 in
theorem ggL_takes_X2_takes : GoodIn wsL_takes wsX2_takes := goodIn_ca (goodIn_r _ [6, 7, 8, 9, 5, 10, 11, 12, 13, 14, 15, 16, 17, 18, 19, 20, 21, 22, 23, 24, 25, 26, 27, 28, 29, 30, 31, 32, 33, 34, 35, 36, 37, 38, 39, 40, 41, 42, 43, 44, 45, 46, 47, 48, 49, 50, 51, 52, 53, 54, 55, 56, 57, 58, 59, 60, 61, 62] (by decide +kernel) (by decide +kernel)) (goodIn_sub (fun _ h => List.mem_cons_of_mem _ (List.mem_append_right _ h)) (by decide +kernel))
set_option maxRecDepth 20000 in
theorem gL_takes_X2_takes : GoodIn wsL_takes (wsV RL 56 RX2 yX2_takes wsX2_takes) := goodIn_app (goodIn_of _ (by decide +kernel)) ggL_takes_X2_takes
theorem dL_takes_0 : decode cL_takes 0 = .ok (.aload_n 2, 1) := by decide +kernel
theorem dL_takes_1 : decode cL_takes 1 = .ok (.iconst 0, 1) := by decide +kernel
theorem dL_takes_2 : decode cL_takes 2 = .ok (.aload_n 0, 1) := by decide +kernel
theorem dL_takes_3 : decode cL_takes 3 = .ok (.iload_n 1, 1) := by decide +kernel
theorem dL_takes_4 : decode cL_takes 4 = .ok (.invokevirtual 56, 3) := by decide +kernel
theorem dL_takes_7 : decode cL_takes 7 = .ok (.i2l, 1) := by decide +kernel
theorem dL_takes_8 : decode cL_takes 8 = .ok (.lastore, 1) := by decide +kernel
theorem dL_takes_9 : decode cL_takes 9 = .ok (.goto 6, 3) := by decide +kernel
theorem dL_takes_12 : decode cL_takes 12 = .ok (.astore_n 3, 1) := by decide +kernel
theorem dL_takes_13 : decode cL_takes 13 = .ok (.iconst 1, 1) := by decide +kernel
theorem dL_takes_14 : decode cL_takes 14 = .ok (.ireturn, 1) := by decide +kernel
theorem dL_takes_15 : decode cL_takes 15 = .ok (.iconst 0, 1) := by decide +kernel
theorem dL_takes_16 : decode cL_takes 16 = .ok (.ireturn, 1) := by decide +kernel
set_option maxRecDepth 20000 in
theorem ggL_cold_X2_cold : GoodIn wsL_cold wsX2_cold := goodIn_ca (goodIn_r _ [6, 7, 8, 9, 5, 10, 11, 12, 13, 14, 15, 16, 17, 18, 19, 20, 21, 22, 23, 24, 25, 26, 27, 28, 29, 30, 31, 32, 33, 34, 35, 36, 37, 38, 39, 40, 41, 42, 43, 44, 45, 46, 47, 48, 49, 50, 51] (by decide +kernel) (by decide +kernel)) (goodIn_sub (fun _ h => List.mem_cons_of_mem _ (List.mem_append_right _ h)) (by decide +kernel))
set_option maxRecDepth 20000 in
theorem gL_cold_X2_cold : GoodIn wsL_cold (wsV RL 59 RX2 yX2_cold wsX2_cold) := goodIn_app (goodIn_of _ (by decide +kernel)) ggL_cold_X2_cold
theorem dL_cold_0 : decode cL_cold 0 = .ok (.aload_n 2, 1) := by decide +kernel
theorem dL_cold_1 : decode cL_cold 1 = .ok (.iconst 0, 1) := by decide +kernel
theorem dL_cold_2 : decode cL_cold 2 = .ok (.aload_n 0, 1) := by decide +kernel
theorem dL_cold_3 : decode cL_cold 3 = .ok (.iload_n 1, 1) := by decide +kernel
theorem dL_cold_4 : decode cL_cold 4 = .ok (.invokevirtual 59, 3) := by decide +kernel
theorem dL_cold_7 : decode cL_cold 7 = .ok (.i2l, 1) := by decide +kernel
theorem dL_cold_8 : decode cL_cold 8 = .ok (.lastore, 1) := by decide +kernel
theorem dL_cold_9 : decode cL_cold 9 = .ok (.goto 6, 3) := by decide +kernel
theorem dL_cold_12 : decode cL_cold 12 = .ok (.astore_n 3, 1) := by decide +kernel
theorem dL_cold_13 : decode cL_cold 13 = .ok (.iconst 1, 1) := by decide +kernel
theorem dL_cold_14 : decode cL_cold 14 = .ok (.ireturn, 1) := by decide +kernel
theorem dL_cold_15 : decode cL_cold 15 = .ok (.iconst 0, 1) := by decide +kernel
theorem dL_cold_16 : decode cL_cold 16 = .ok (.ireturn, 1) := by decide +kernel
set_option maxRecDepth 20000 in
theorem ggL_hours_X2_hours : GoodIn wsL_hours wsX2_hours := goodIn_ca (goodIn_r _ [6, 7, 8, 9, 5, 10, 11, 12, 13, 14, 15, 16, 17, 18, 19, 20, 21, 22, 23, 24, 25, 26, 27, 28, 29, 30, 31, 32, 33, 34, 35, 36, 37, 38, 39, 40, 41, 42, 43, 44, 45, 46, 47, 48, 49, 50, 51] (by decide +kernel) (by decide +kernel)) (goodIn_sub (fun _ h => List.mem_cons_of_mem _ (List.mem_append_right _ h)) (by decide +kernel))
set_option maxRecDepth 20000 in
theorem gL_hours_X2_hours : GoodIn wsL_hours (wsV RL 62 RX2 yX2_hours wsX2_hours) := goodIn_app (goodIn_of _ (by decide +kernel)) ggL_hours_X2_hours
theorem dL_hours_0 : decode cL_hours 0 = .ok (.aload_n 2, 1) := by decide +kernel
theorem dL_hours_1 : decode cL_hours 1 = .ok (.iconst 0, 1) := by decide +kernel
theorem dL_hours_2 : decode cL_hours 2 = .ok (.aload_n 0, 1) := by decide +kernel
theorem dL_hours_3 : decode cL_hours 3 = .ok (.iload_n 1, 1) := by decide +kernel
theorem dL_hours_4 : decode cL_hours 4 = .ok (.invokevirtual 62, 3) := by decide +kernel
theorem dL_hours_7 : decode cL_hours 7 = .ok (.i2l, 1) := by decide +kernel
theorem dL_hours_8 : decode cL_hours 8 = .ok (.lastore, 1) := by decide +kernel
theorem dL_hours_9 : decode cL_hours 9 = .ok (.goto 6, 3) := by decide +kernel
theorem dL_hours_12 : decode cL_hours 12 = .ok (.astore_n 3, 1) := by decide +kernel
theorem dL_hours_13 : decode cL_hours 13 = .ok (.iconst 1, 1) := by decide +kernel
theorem dL_hours_14 : decode cL_hours 14 = .ok (.ireturn, 1) := by decide +kernel
theorem dL_hours_15 : decode cL_hours 15 = .ok (.iconst 0, 1) := by decide +kernel
theorem dL_hours_16 : decode cL_hours 16 = .ok (.ireturn, 1) := by decide +kernel
set_option maxRecDepth 20000 in
theorem ggL_choice_X2_choice : GoodIn wsL_choice wsX2_choice := goodIn_ca (goodIn_r _ [6, 7, 8, 5, 9, 10, 11, 12, 13, 14, 15, 16, 17, 18, 19, 20, 21, 22, 23, 24, 25, 26, 27, 28, 29, 30, 31, 32, 33, 34, 35, 36, 37, 38, 39, 40, 41, 42, 43, 44, 45, 46, 47, 48, 49, 50, 51, 52, 53, 54, 55, 56, 57, 58, 59, 60, 61, 62, 63, 64, 65, 66, 67, 68, 69, 70, 71, 72, 73, 74, 75, 76, 77, 78, 79, 80, 81, 82, 83, 84, 85, 86, 87, 88, 89, 90, 91, 92, 93, 94, 95, 96, 97, 98, 99, 100, 101, 102, 103, 104, 105, 106, 107, 108, 109, 110, 111, 112, 113, 114, 115, 116] (by decide +kernel) (by decide +kernel)) (goodIn_sub (fun _ h => List.mem_cons_of_mem _ (List.mem_append_right _ h)) (by decide +kernel))
set_option maxRecDepth 20000 in
theorem gL_choice_X2_choice : GoodIn wsL_choice (wsV RL 65 RX2 yX2_choice wsX2_choice) := goodIn_app (goodIn_of _ (by decide +kernel)) ggL_choice_X2_choice
theorem dL_choice_0 : decode cL_choice 0 = .ok (.aload_n 2, 1) := by decide +kernel
theorem dL_choice_1 : decode cL_choice 1 = .ok (.iconst 0, 1) := by decide +kernel
theorem dL_choice_2 : decode cL_choice 2 = .ok (.aload_n 0, 1) := by decide +kernel
theorem dL_choice_3 : decode cL_choice 3 = .ok (.iload_n 1, 1) := by decide +kernel
theorem dL_choice_4 : decode cL_choice 4 = .ok (.invokevirtual 65, 3) := by decide +kernel
theorem dL_choice_7 : decode cL_choice 7 = .ok (.i2l, 1) := by decide +kernel
theorem dL_choice_8 : decode cL_choice 8 = .ok (.lastore, 1) := by decide +kernel
theorem dL_choice_9 : decode cL_choice 9 = .ok (.goto 6, 3) := by decide +kernel
theorem dL_choice_12 : decode cL_choice 12 = .ok (.astore_n 3, 1) := by decide +kernel
theorem dL_choice_13 : decode cL_choice 13 = .ok (.iconst 1, 1) := by decide +kernel
theorem dL_choice_14 : decode cL_choice 14 = .ok (.ireturn, 1) := by decide +kernel
theorem dL_choice_15 : decode cL_choice 15 = .ok (.iconst 0, 1) := by decide +kernel
theorem dL_choice_16 : decode cL_choice 16 = .ok (.ireturn, 1) := by decide +kernel
set_option maxRecDepth 20000 in
theorem ggL_choiceByListing_X2_choiceByListing : GoodIn wsL_choiceByListing wsX2_choiceByListing := goodIn_ca (goodIn_ca (goodIn_r _ [7, 8, 9, 10, 11, 12, 6, 13, 14, 15, 16, 17, 18, 19, 20, 21, 22, 23, 24, 25, 26, 27, 28, 29, 30, 31, 32, 33, 34, 35, 36, 37, 38, 39, 40, 41, 42, 43, 44, 45, 46, 47, 48, 49, 50, 51, 52, 53, 54, 55, 56, 57, 58, 59, 60, 61, 62, 63, 64, 65, 66, 67, 68, 69, 70, 71, 72, 73, 74, 75, 76, 77, 78, 79, 80, 81, 82, 83, 84, 85, 86, 87, 88, 89, 90, 91, 92, 93, 94, 95, 96, 97, 98, 99, 100, 101, 102, 103, 104, 105, 106, 107, 108, 109, 110, 111, 112, 113, 114, 115, 116, 117, 118] (by decide +kernel) (by decide +kernel)) (goodIn_sub (fun _ h => List.mem_cons_of_mem _ (List.mem_append_left _ (List.mem_append_right _ h))) (by decide +kernel))) (goodIn_sub (fun _ h => List.mem_cons_of_mem _ (List.mem_append_right _ h)) (by decide +kernel))
set_option maxRecDepth 20000 in
theorem gL_choiceByListing_X2_choiceByListing : GoodIn wsL_choiceByListing (wsV RL 68 RX2 yX2_choiceByListing wsX2_choiceByListing) := goodIn_app (goodIn_of _ (by decide +kernel)) ggL_choiceByListing_X2_choiceByListing
theorem dL_choiceByListing_0 : decode cL_choiceByListing 0 = .ok (.aload_n 2, 1) := by decide +kernel
theorem dL_choiceByListing_1 : decode cL_choiceByListing 1 = .ok (.iconst 0, 1) := by decide +kernel
theorem dL_choiceByListing_2 : decode cL_choiceByListing 2 = .ok (.aload_n 0, 1) := by decide +kernel
theorem dL_choiceByListing_3 : decode cL_choiceByListing 3 = .ok (.iload_n 1, 1) := by decide +kernel
theorem dL_choiceByListing_4 : decode cL_choiceByListing 4 = .ok (.invokevirtual 68, 3) := by decide +kernel
theorem dL_choiceByListing_7 : decode cL_choiceByListing 7 = .ok (.i2l, 1) := by decide +kernel
theorem dL_choiceByListing_8 : decode cL_choiceByListing 8 = .ok (.lastore, 1) := by decide +kernel
theorem dL_choiceByListing_9 : decode cL_choiceByListing 9 = .ok (.goto 9, 3) := by decide +kernel
theorem dL_choiceByListing_12 : decode cL_choiceByListing 12 = .ok (.astore_n 3, 1) := by decide +kernel
theorem dL_choiceByListing_13 : decode cL_choiceByListing 13 = .ok (.iconst 1, 1) := by decide +kernel
theorem dL_choiceByListing_14 : decode cL_choiceByListing 14 = .ok (.ireturn, 1) := by decide +kernel
theorem dL_choiceByListing_15 : decode cL_choiceByListing 15 = .ok (.astore_n 3, 1) := by decide +kernel
theorem dL_choiceByListing_16 : decode cL_choiceByListing 16 = .ok (.iconst 2, 1) := by decide +kernel
theorem dL_choiceByListing_17 : decode cL_choiceByListing 17 = .ok (.ireturn, 1) := by decide +kernel
theorem dL_choiceByListing_18 : decode cL_choiceByListing 18 = .ok (.iconst 0, 1) := by decide +kernel
theorem dL_choiceByListing_19 : decode cL_choiceByListing 19 = .ok (.ireturn, 1) := by decide +kernel
