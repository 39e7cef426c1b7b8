theorem dL_cell_0 : decode cL_cell 0 = .ok (.iload_n 1, 1) := by decide +kernel
theorem dL_cell_1 : decode cL_cell 1 = .ok (.aload_n 0, 1) := by decide +kernel
theorem dL_cell_2 : decode cL_cell 2 = .ok (.arraylength, 1) := by decide +kernel
theorem dL_cell_3 : decode cL_cell 3 = .ok (.if_icmp .ge 9, 3) := by decide +kernel
theorem dL_cell_6 : decode cL_cell 6 = .ok (.aload_n 0, 1) := by decide +kernel
theorem dL_cell_7 : decode cL_cell 7 = .ok (.iload_n 1, 1) := by decide +kernel
theorem dL_cell_8 : decode cL_cell 8 = .ok (.iaload, 1) := by decide +kernel
theorem dL_cell_9 : decode cL_cell 9 = .ok (.goto 9, 3) := by decide +kernel
theorem dL_cell_12 : decode cL_cell 12 = .ok (.ldc 7, 2) := by decide +kernel
theorem dL_cell_14 : decode cL_cell 14 = .ok (.iload_n 1, 1) := by decide +kernel
theorem dL_cell_15 : decode cL_cell 15 = .ok (.iconst 1, 1) := by decide +kernel
theorem dL_cell_16 : decode cL_cell 16 = .ok (.iadd, 1) := by decide +kernel
theorem dL_cell_17 : decode cL_cell 17 = .ok (.imul, 1) := by decide +kernel
theorem dL_cell_18 : decode cL_cell 18 = .ok (.ireturn, 1) := by decide +kernel
theorem dL_at_0 : decode cL_at 0 = .ok (.iload_n 0, 1) := by decide +kernel
theorem dL_at_1 : decode cL_at 1 = .ok (.iconst 1, 1) := by decide +kernel
theorem dL_at_2 : decode cL_at 2 = .ok (.iushr, 1) := by decide +kernel
theorem dL_at_3 : decode cL_at 3 = .ok (.iload_n 1, 1) := by decide +kernel
theorem dL_at_4 : decode cL_at 4 = .ok (.irem, 1) := by decide +kernel
theorem dL_at_5 : decode cL_at 5 = .ok (.ireturn, 1) := by decide +kernel
set_option maxRecDepth 20000 in
theorem ggL_out_X2_feeders : GoodIn wsL_out wsX2_feeders := goodIn_r _ [5, 6, 7, 8, 9, 10, 11, 12, 41, 42, 43, 44, 45, 46, 47] (by decide +kernel) (by decide +kernel)
set_option maxRecDepth 20000 in
theorem gL_out_X2_feeders : GoodIn wsL_out (wsV RL 8 RX2 yX2_feeders wsX2_feeders) := goodIn_app (goodIn_of _ (by decide +kernel)) ggL_out_X2_feeders
set_option maxRecDepth 20000 in
theorem ggL_out_X2_isCut : GoodIn wsL_out wsX2_isCut := goodIn_ca (goodIn_r _ [16, 17, 18, 19, 4, 20, 21, 22, 6, 23, 7, 8, 9, 10, 11, 12, 24, 25, 26, 27, 28, 29, 30, 31, 32, 33, 34, 35, 36, 37, 38, 39, 40, 48, 49, 50, 51, 52, 53, 54, 41, 42, 43, 44, 45, 46, 47] (by decide +kernel) (by decide +kernel)) (goodIn_sub (fun _ h => List.mem_cons_of_mem _ (List.mem_append_right _ h)) (by decide +kernel))
set_option maxRecDepth 20000 in
theorem gL_out_X2_isCut : GoodIn wsL_out (wsV RL 14 RX2 yX2_isCut wsX2_isCut) := goodIn_app (goodIn_of _ (by decide +kernel)) ggL_out_X2_isCut
theorem dL_out_0 : decode cL_out 0 = .ok (.iconst 0, 1) := by decide +kernel
theorem dL_out_1 : decode cL_out 1 = .ok (.istore_n 1, 1) := by decide +kernel
theorem dL_out_2 : decode cL_out 2 = .ok (.iconst 0, 1) := by decide +kernel
theorem dL_out_3 : decode cL_out 3 = .ok (.istore_n 2, 1) := by decide +kernel
theorem dL_out_4 : decode cL_out 4 = .ok (.iload_n 2, 1) := by decide +kernel
theorem dL_out_5 : decode cL_out 5 = .ok (.aload_n 0, 1) := by decide +kernel
theorem dL_out_6 : decode cL_out 6 = .ok (.invokevirtual 8, 3) := by decide +kernel
theorem dL_out_9 : decode cL_out 9 = .ok (.if_icmp .ge 27, 3) := by decide +kernel
theorem dL_out_12 : decode cL_out 12 = .ok (.iload_n 1, 1) := by decide +kernel
theorem dL_out_13 : decode cL_out 13 = .ok (.aload_n 0, 1) := by decide +kernel
theorem dL_out_14 : decode cL_out 14 = .ok (.iload_n 2, 1) := by decide +kernel
theorem dL_out_15 : decode cL_out 15 = .ok (.invokevirtual 14, 3) := by decide +kernel
theorem dL_out_18 : decode cL_out 18 = .ok (.ifCond .eq 9, 3) := by decide +kernel
theorem dL_out_21 : decode cL_out 21 = .ok (.iconst 1, 1) := by decide +kernel
theorem dL_out_22 : decode cL_out 22 = .ok (.iload_n 2, 1) := by decide +kernel
theorem dL_out_23 : decode cL_out 23 = .ok (.ishl, 1) := by decide +kernel
theorem dL_out_24 : decode cL_out 24 = .ok (.goto 4, 3) := by decide +kernel
theorem dL_out_27 : decode cL_out 27 = .ok (.iconst 0, 1) := by decide +kernel
theorem dL_out_28 : decode cL_out 28 = .ok (.ior, 1) := by decide +kernel
theorem dL_out_29 : decode cL_out 29 = .ok (.istore_n 1, 1) := by decide +kernel
theorem dL_out_30 : decode cL_out 30 = .ok (.iinc 2 1, 3) := by decide +kernel
theorem dL_out_33 : decode cL_out 33 = .ok (.goto (-29), 3) := by decide +kernel
theorem dL_out_36 : decode cL_out 36 = .ok (.iload_n 1, 1) := by decide +kernel
theorem dL_out_37 : decode cL_out 37 = .ok (.ireturn, 1) := by decide +kernel
set_option maxRecDepth 20000 in
theorem ggL_taken_X2_feeders : GoodIn wsL_taken wsX2_feeders := goodIn_r _ [5, 6, 7, 8, 9, 10, 11, 12, 52, 53, 54, 55, 56, 57, 58] (by decide +kernel) (by decide +kernel)
set_option maxRecDepth 20000 in
theorem gL_taken_X2_feeders : GoodIn wsL_taken (wsV RL 8 RX2 yX2_feeders wsX2_feeders) := goodIn_app (goodIn_of _ (by decide +kernel)) ggL_taken_X2_feeders
set_option maxRecDepth 20000 in
theorem ggL_taken_X2_takes : GoodIn wsL_taken wsX2_takes := goodIn_ca (goodIn_r _ [16, 17, 18, 19, 4, 20, 21, 22, 6, 23, 7, 8, 9, 10, 11, 12, 24, 25, 26, 27, 28, 29, 30, 31, 32, 33, 34, 35, 36, 37, 38, 39, 40, 41, 42, 43, 44, 45, 46, 47, 48, 49, 50, 51, 52, 53, 54, 55, 56, 57, 58, 59, 60, 61, 62, 63, 64, 65] (by decide +kernel) (by decide +kernel)) (goodIn_sub (fun _ h => List.mem_cons_of_mem _ (List.mem_append_right _ h)) (by decide +kernel))
set_option maxRecDepth 20000 in
theorem gL_taken_X2_takes : GoodIn wsL_taken (wsV RL 18 RX2 yX2_takes wsX2_takes) := goodIn_app (goodIn_of _ (by decide +kernel)) ggL_taken_X2_takes
theorem dL_taken_0 : decode cL_taken 0 = .ok (.iconst 0, 1) := by decide +kernel
theorem dL_taken_1 : decode cL_taken 1 = .ok (.istore_n 2, 1) := by decide +kernel
theorem dL_taken_2 : decode cL_taken 2 = .ok (.iconst 0, 1) := by decide +kernel
theorem dL_taken_3 : decode cL_taken 3 = .ok (.istore_n 3, 1) := by decide +kernel
theorem dL_taken_4 : decode cL_taken 4 = .ok (.iload_n 3, 1) := by decide +kernel
theorem dL_taken_5 : decode cL_taken 5 = .ok (.aload_n 0, 1) := by decide +kernel
theorem dL_taken_6 : decode cL_taken 6 = .ok (.invokevirtual 8, 3) := by decide +kernel
theorem dL_taken_9 : decode cL_taken 9 = .ok (.if_icmp .ge 30, 3) := by decide +kernel
theorem dL_taken_12 : decode cL_taken 12 = .ok (.iload_n 2, 1) := by decide +kernel
theorem dL_taken_13 : decode cL_taken 13 = .ok (.iload_n 1, 1) := by decide +kernel
theorem dL_taken_14 : decode cL_taken 14 = .ok (.iload_n 3, 1) := by decide +kernel
theorem dL_taken_15 : decode cL_taken 15 = .ok (.ishr, 1) := by decide +kernel
theorem dL_taken_16 : decode cL_taken 16 = .ok (.iconst 1, 1) := by decide +kernel
theorem dL_taken_17 : decode cL_taken 17 = .ok (.iand, 1) := by decide +kernel
theorem dL_taken_18 : decode cL_taken 18 = .ok (.iconst 1, 1) := by decide +kernel
theorem dL_taken_19 : decode cL_taken 19 = .ok (.if_icmp .ne 11, 3) := by decide +kernel
theorem dL_taken_22 : decode cL_taken 22 = .ok (.aload_n 0, 1) := by decide +kernel
theorem dL_taken_23 : decode cL_taken 23 = .ok (.iload_n 3, 1) := by decide +kernel
theorem dL_taken_24 : decode cL_taken 24 = .ok (.invokevirtual 18, 3) := by decide +kernel
theorem dL_taken_27 : decode cL_taken 27 = .ok (.goto 4, 3) := by decide +kernel
theorem dL_taken_30 : decode cL_taken 30 = .ok (.iconst 0, 1) := by decide +kernel
theorem dL_taken_31 : decode cL_taken 31 = .ok (.iadd, 1) := by decide +kernel
theorem dL_taken_32 : decode cL_taken 32 = .ok (.istore_n 2, 1) := by decide +kernel
theorem dL_taken_33 : decode cL_taken 33 = .ok (.iinc 3 1, 3) := by decide +kernel
theorem dL_taken_36 : decode cL_taken 36 = .ok (.goto (-32), 3) := by decide +kernel
theorem dL_taken_39 : decode cL_taken 39 = .ok (.iload_n 2, 1) := by decide +kernel
theorem dL_taken_40 : decode cL_taken 40 = .ok (.ireturn, 1) := by decide +kernel
set_option maxRecDepth 20000 in
theorem ggL_relieves_L_out : GoodIn wsL_relieves wsL_out := goodIn_ca (goodIn_r _ [4, 5, 6, 7, 8, 9, 10, 11, 12, 13, 14, 15, 16, 17, 18, 19, 20, 21, 22, 23, 24, 25, 26, 27, 28, 29, 30, 31, 32, 33, 34, 35, 36, 37, 38, 39, 40, 41, 42, 43, 44, 135, 136, 137, 138, 139, 140, 141, 142, 143, 144, 145, 146, 147, 148] (by decide +kernel) (by decide +kernel)) (goodIn_sub (fun _ h => List.mem_cons_of_mem _ (List.mem_append_left _ (List.mem_append_left _ (List.mem_append_right _ h)))) (by decide +kernel))
set_option maxRecDepth 20000 in
theorem gL_relieves_L_out : GoodIn wsL_relieves (va_wsS RL 22 yL_out wsL_out) := goodIn_app (goodIn_of _ (by decide +kernel)) ggL_relieves_L_out
set_option maxRecDepth 20000 in
theorem ggL_relieves_X2_load : GoodIn wsL_relieves wsX2_load := goodIn_r _ [48, 10, 27, 11, 12, 13, 14, 15, 16, 28, 29, 30, 31, 32, 33, 34, 35, 36, 37, 38, 39, 40, 41, 42, 43, 44, 49, 50, 51, 52, 53, 54, 55, 56, 57, 58, 59, 135, 136, 137, 138, 139, 140, 141, 142, 143, 144, 145, 146, 147, 148] (by decide +kernel) (by decide +kernel)
set_option maxRecDepth 20000 in
theorem gL_relieves_X2_load : GoodIn wsL_relieves (wsV RL 28 RX2 yX2_load wsX2_load) := goodIn_app (goodIn_of _ (by decide +kernel)) ggL_relieves_X2_load
set_option maxRecDepth 20000 in
theorem ggL_relieves_X2_choice : GoodIn wsL_relieves wsX2_choice := goodIn_ca (goodIn_r _ [63, 64, 65, 8, 66, 67, 68, 69, 70, 71, 72, 73, 74, 75, 76, 77, 78, 10, 27, 79, 80, 81, 82, 83, 84, 85, 86, 11, 12, 13, 14, 15, 16, 28, 29, 30, 31, 32, 33, 34, 35, 36, 37, 38, 39, 40, 41, 42, 43, 44, 87, 50, 88, 89, 53, 90, 49, 51, 52, 54, 55, 56, 57, 58, 59, 91, 92, 93, 94, 95, 96, 97, 98, 99, 100, 101, 102, 103, 104, 105, 106, 107, 108, 109, 110, 111, 112, 113, 135, 136, 137, 138, 142, 143, 144, 145, 146, 147, 148, 149, 150, 151, 152, 153, 154, 155, 156, 157, 158, 139, 140, 141] (by decide +kernel) (by decide +kernel)) (goodIn_sub (fun _ h => List.mem_cons_of_mem _ (List.mem_append_left _ (List.mem_append_right _ h))) (by decide +kernel))
set_option maxRecDepth 20000 in
theorem gL_relieves_X2_choice : GoodIn wsL_relieves (wsV RL 31 RX2 yX2_choice wsX2_choice) := goodIn_app (goodIn_of _ (by decide +kernel)) ggL_relieves_X2_choice
set_option maxRecDepth 20000 in
theorem ggL_relieves_X2_feeders : GoodIn wsL_relieves wsX2_feeders := goodIn_r _ [9, 10, 11, 12, 13, 14, 15, 16, 135, 136, 137, 138, 139, 140, 141] (by decide +kernel) (by decide +kernel)
set_option maxRecDepth 20000 in
theorem gL_relieves_X2_feeders : GoodIn wsL_relieves (wsV RL 8 RX2 yX2_feeders wsX2_feeders) := goodIn_app (goodIn_of _ (by decide +kernel)) ggL_relieves_X2_feeders
set_option maxRecDepth 20000 in
theorem ggL_relieves_L_taken : GoodIn wsL_relieves wsL_taken := goodIn_ca (goodIn_r _ [116, 5, 6, 7, 8, 9, 10, 11, 12, 13, 14, 15, 16, 117, 118, 119, 120, 21, 22, 23, 24, 25, 26, 27, 28, 29, 30, 31, 32, 33, 34, 35, 36, 37, 38, 39, 40, 41, 42, 43, 44, 49, 50, 51, 52, 53, 54, 55, 56, 57, 58, 59, 135, 136, 137, 138, 139, 140, 141, 142, 143, 144, 145, 146, 147, 148] (by decide +kernel) (by decide +kernel)) (goodIn_sub (fun _ h => List.mem_cons_of_mem _ (List.mem_append_left _ (List.mem_append_left _ (List.mem_append_right _ h)))) (by decide +kernel))
set_option maxRecDepth 20000 in
theorem gL_relieves_L_taken : GoodIn wsL_relieves (va_wsS RL 34 yL_taken wsL_taken) := goodIn_app (goodIn_of _ (by decide +kernel)) ggL_relieves_L_taken
set_option maxRecDepth 20000 in
theorem ggL_relieves_X2_relieve : GoodIn wsL_relieves wsX2_relieve := goodIn_ca (goodIn_ca (goodIn_r _ [124, 125, 126, 10, 27, 64, 65, 8, 66, 67, 68, 69, 70, 71, 72, 73, 74, 75, 76, 77, 78, 79, 80, 81, 82, 83, 84, 85, 86, 11, 12, 13, 14, 15, 16, 28, 29, 30, 31, 32, 33, 34, 35, 36, 37, 38, 39, 40, 41, 42, 43, 44, 87, 50, 88, 89, 53, 90, 49, 51, 52, 54, 55, 56, 57, 58, 59, 91, 92, 93, 94, 95, 96, 97, 98, 99, 100, 101, 102, 103, 104, 105, 106, 107, 108, 109, 110, 111, 112, 113, 127, 128, 129, 130, 131, 132, 133, 134, 135, 136, 137, 138, 142, 143, 144, 145, 146, 147, 148, 149, 150, 151, 152, 153, 154, 155, 156, 157, 158, 139, 140, 141] (by decide +kernel) (by decide +kernel)) (goodIn_sub (fun _ h => List.mem_cons_of_mem _ (List.mem_append_right _ h)) (by decide +kernel))) (goodIn_sub (fun _ h => List.mem_cons_of_mem _ (List.mem_append_left _ (List.mem_append_right _ h))) (by decide +kernel))
set_option maxRecDepth 20000 in
theorem gL_relieves_X2_relieve : GoodIn wsL_relieves (wsV RL 38 RX2 yX2_relieve wsX2_relieve) := goodIn_app (goodIn_of _ (by decide +kernel)) ggL_relieves_X2_relieve
theorem dL_relieves_0 : decode cL_relieves 0 = .ok (.aload_n 0, 1) := by decide +kernel
theorem dL_relieves_1 : decode cL_relieves 1 = .ok (.invokestatic 22, 3) := by decide +kernel
theorem dL_relieves_4 : decode cL_relieves 4 = .ok (.istore_n 3, 1) := by decide +kernel
theorem dL_relieves_5 : decode cL_relieves 5 = .ok (.aload_n 0, 1) := by decide +kernel
theorem dL_relieves_6 : decode cL_relieves 6 = .ok (.invokevirtual 28, 3) := by decide +kernel
theorem dL_relieves_9 : decode cL_relieves 9 = .ok (.istore 4, 2) := by decide +kernel
theorem dL_relieves_11 : decode cL_relieves 11 = .ok (.aload_n 0, 1) := by decide +kernel
theorem dL_relieves_12 : decode cL_relieves 12 = .ok (.iload_n 1, 1) := by decide +kernel
theorem dL_relieves_13 : decode cL_relieves 13 = .ok (.invokevirtual 31, 3) := by decide +kernel
theorem dL_relieves_16 : decode cL_relieves 16 = .ok (.istore 5, 2) := by decide +kernel
theorem dL_relieves_18 : decode cL_relieves 18 = .ok (.iload 5, 2) := by decide +kernel
theorem dL_relieves_20 : decode cL_relieves 20 = .ok (.ifCond .ne 33, 3) := by decide +kernel
theorem dL_relieves_23 : decode cL_relieves 23 = .ok (.aload_n 0, 1) := by decide +kernel
theorem dL_relieves_24 : decode cL_relieves 24 = .ok (.iconst 1, 1) := by decide +kernel
theorem dL_relieves_25 : decode cL_relieves 25 = .ok (.aload_n 0, 1) := by decide +kernel
theorem dL_relieves_26 : decode cL_relieves 26 = .ok (.invokevirtual 8, 3) := by decide +kernel
theorem dL_relieves_29 : decode cL_relieves 29 = .ok (.ishl, 1) := by decide +kernel
theorem dL_relieves_30 : decode cL_relieves 30 = .ok (.iconst 1, 1) := by decide +kernel
theorem dL_relieves_31 : decode cL_relieves 31 = .ok (.isub, 1) := by decide +kernel
theorem dL_relieves_32 : decode cL_relieves 32 = .ok (.iload_n 2, 1) := by decide +kernel
theorem dL_relieves_33 : decode cL_relieves 33 = .ok (.iconst (-1), 1) := by decide +kernel
theorem dL_relieves_34 : decode cL_relieves 34 = .ok (.ixor, 1) := by decide +kernel
theorem dL_relieves_35 : decode cL_relieves 35 = .ok (.iand, 1) := by decide +kernel
theorem dL_relieves_36 : decode cL_relieves 36 = .ok (.iload_n 3, 1) := by decide +kernel
theorem dL_relieves_37 : decode cL_relieves 37 = .ok (.iconst (-1), 1) := by decide +kernel
theorem dL_relieves_38 : decode cL_relieves 38 = .ok (.ixor, 1) := by decide +kernel
theorem dL_relieves_39 : decode cL_relieves 39 = .ok (.iand, 1) := by decide +kernel
theorem dL_relieves_40 : decode cL_relieves 40 = .ok (.invokestatic 34, 3) := by decide +kernel
theorem dL_relieves_43 : decode cL_relieves 43 = .ok (.iload_n 1, 1) := by decide +kernel
theorem dL_relieves_44 : decode cL_relieves 44 = .ok (.if_icmp .ge 7, 3) := by decide +kernel
theorem dL_relieves_47 : decode cL_relieves 47 = .ok (.iconst 1, 1) := by decide +kernel
theorem dL_relieves_48 : decode cL_relieves 48 = .ok (.goto 4, 3) := by decide +kernel
theorem dL_relieves_51 : decode cL_relieves 51 = .ok (.iconst 0, 1) := by decide +kernel
theorem dL_relieves_52 : decode cL_relieves 52 = .ok (.ireturn, 1) := by decide +kernel
theorem dL_relieves_53 : decode cL_relieves 53 = .ok (.iload 5, 2) := by decide +kernel
theorem dL_relieves_55 : decode cL_relieves 55 = .ok (.iload_n 3, 1) := by decide +kernel
theorem dL_relieves_56 : decode cL_relieves 56 = .ok (.iand, 1) := by decide +kernel
theorem dL_relieves_57 : decode cL_relieves 57 = .ok (.ifCond .ne 20, 3) := by decide +kernel
theorem dL_relieves_60 : decode cL_relieves 60 = .ok (.iload 5, 2) := by decide +kernel
theorem dL_relieves_62 : decode cL_relieves 62 = .ok (.iload_n 2, 1) := by decide +kernel
theorem dL_relieves_63 : decode cL_relieves 63 = .ok (.iand, 1) := by decide +kernel
theorem dL_relieves_64 : decode cL_relieves 64 = .ok (.ifCond .ne 13, 3) := by decide +kernel
theorem dL_relieves_67 : decode cL_relieves 67 = .ok (.aload_n 0, 1) := by decide +kernel
theorem dL_relieves_68 : decode cL_relieves 68 = .ok (.iload 5, 2) := by decide +kernel
theorem dL_relieves_70 : decode cL_relieves 70 = .ok (.invokestatic 34, 3) := by decide +kernel
theorem dL_relieves_73 : decode cL_relieves 73 = .ok (.iload_n 1, 1) := by decide +kernel
theorem dL_relieves_74 : decode cL_relieves 74 = .ok (.if_icmp .ge 5, 3) := by decide +kernel
theorem dL_relieves_77 : decode cL_relieves 77 = .ok (.iconst 0, 1) := by decide +kernel
theorem dL_relieves_78 : decode cL_relieves 78 = .ok (.ireturn, 1) := by decide +kernel
theorem dL_relieves_79 : decode cL_relieves 79 = .ok (.aload_n 0, 1) := by decide +kernel
theorem dL_relieves_80 : decode cL_relieves 80 = .ok (.iload_n 1, 1) := by decide +kernel
theorem dL_relieves_81 : decode cL_relieves 81 = .ok (.invokevirtual 38, 3) := by decide +kernel
theorem dL_relieves_84 : decode cL_relieves 84 = .ok (.istore 6, 2) := by decide +kernel
theorem dL_relieves_86 : decode cL_relieves 86 = .ok (.iload 6, 2) := by decide +kernel
theorem dL_relieves_88 : decode cL_relieves 88 = .ok (.iload_n 1, 1) := by decide +kernel
theorem dL_relieves_89 : decode cL_relieves 89 = .ok (.if_icmp .lt 30, 3) := by decide +kernel
theorem dL_relieves_92 : decode cL_relieves 92 = .ok (.aload_n 0, 1) := by decide +kernel
theorem dL_relieves_93 : decode cL_relieves 93 = .ok (.invokestatic 22, 3) := by decide +kernel
theorem dL_relieves_96 : decode cL_relieves 96 = .ok (.iload_n 3, 1) := by decide +kernel
theorem dL_relieves_97 : decode cL_relieves 97 = .ok (.iload 5, 2) := by decide +kernel
theorem dL_relieves_99 : decode cL_relieves 99 = .ok (.ior, 1) := by decide +kernel
theorem dL_relieves_100 : decode cL_relieves 100 = .ok (.if_icmp .ne 19, 3) := by decide +kernel
theorem dL_relieves_103 : decode cL_relieves 103 = .ok (.aload_n 0, 1) := by decide +kernel
theorem dL_relieves_104 : decode cL_relieves 104 = .ok (.invokevirtual 28, 3) := by decide +kernel
theorem dL_relieves_107 : decode cL_relieves 107 = .ok (.iload 4, 2) := by decide +kernel
theorem dL_relieves_109 : decode cL_relieves 109 = .ok (.iload 6, 2) := by decide +kernel
theorem dL_relieves_111 : decode cL_relieves 111 = .ok (.isub, 1) := by decide +kernel
theorem dL_relieves_112 : decode cL_relieves 112 = .ok (.if_icmp .ne 7, 3) := by decide +kernel
theorem dL_relieves_115 : decode cL_relieves 115 = .ok (.iconst 1, 1) := by decide +kernel
theorem dL_relieves_116 : decode cL_relieves 116 = .ok (.goto 4, 3) := by decide +kernel
theorem dL_relieves_119 : decode cL_relieves 119 = .ok (.iconst 0, 1) := by decide +kernel
theorem dL_relieves_120 : decode cL_relieves 120 = .ok (.ireturn, 1) := by decide +kernel
set_option maxRecDepth 20000 in
theorem ggL_turns_L_out : GoodIn wsL_turns wsL_out := goodIn_ca (goodIn_r _ [4, 5, 6, 7, 8, 9, 10, 11, 12, 13, 14, 15, 16, 17, 18, 19, 20, 21, 22, 23, 24, 25, 26, 27, 28, 29, 30, 31, 32, 33, 34, 35, 36, 37, 38, 39, 40, 41, 42, 43, 44, 163, 164, 165, 166, 167, 168, 169, 170, 171, 172, 173, 174, 175, 176] (by decide +kernel) (by decide +kernel)) (goodIn_sub (fun _ h => List.mem_cons_of_mem _ (List.mem_append_left _ (List.mem_append_left _ (List.mem_append_left _ (List.mem_append_right _ h))))) (by decide +kernel))
set_option maxRecDepth 20000 in
theorem gL_turns_L_out : GoodIn wsL_turns (va_wsS RL 22 yL_out wsL_out) := goodIn_app (goodIn_of _ (by decide +kernel)) ggL_turns_L_out
set_option maxRecDepth 20000 in
theorem ggL_turns_X2_feeders : GoodIn wsL_turns wsX2_feeders := goodIn_r _ [9, 10, 11, 12, 13, 14, 15, 16, 163, 164, 165, 166, 167, 168, 169] (by decide +kernel) (by decide +kernel)
set_option maxRecDepth 20000 in
theorem gL_turns_X2_feeders : GoodIn wsL_turns (wsV RL 8 RX2 yX2_feeders wsX2_feeders) := goodIn_app (goodIn_of _ (by decide +kernel)) ggL_turns_X2_feeders
set_option maxRecDepth 20000 in
theorem ggL_turns_X2_loadRestored : GoodIn wsL_turns wsX2_loadRestored := goodIn_r _ [48, 10, 27, 11, 12, 13, 14, 15, 16, 28, 29, 30, 31, 32, 33, 34, 35, 36, 37, 38, 39, 40, 41, 42, 43, 44, 49, 50, 51, 52, 53, 54, 55, 56, 57, 58, 59, 60, 61, 62, 63, 64, 65, 66, 67, 68, 69, 70, 71, 72, 163, 164, 165, 166, 167, 168, 169, 170, 171, 172, 173, 174, 175, 176] (by decide +kernel) (by decide +kernel)
set_option maxRecDepth 20000 in
theorem gL_turns_X2_loadRestored : GoodIn wsL_turns (wsV RL 41 RX2 yX2_loadRestored wsX2_loadRestored) := goodIn_app (goodIn_of _ (by decide +kernel)) ggL_turns_X2_loadRestored
set_option maxRecDepth 20000 in
theorem ggL_turns_X2_load : GoodIn wsL_turns wsX2_load := goodIn_r _ [76, 10, 27, 11, 12, 13, 14, 15, 16, 28, 29, 30, 31, 32, 33, 34, 35, 36, 37, 38, 39, 40, 41, 42, 43, 44, 69, 50, 70, 71, 53, 72, 63, 64, 65, 66, 67, 163, 164, 165, 166, 167, 168, 169, 170, 171, 172, 173, 174, 175, 176] (by decide +kernel) (by decide +kernel)
set_option maxRecDepth 20000 in
theorem gL_turns_X2_load : GoodIn wsL_turns (wsV RL 28 RX2 yX2_load wsX2_load) := goodIn_app (goodIn_of _ (by decide +kernel)) ggL_turns_X2_load
set_option maxRecDepth 20000 in
theorem ggL_turns_X2_choice : GoodIn wsL_turns wsX2_choice := goodIn_ca (goodIn_r _ [80, 81, 82, 8, 83, 84, 85, 86, 87, 88, 89, 90, 91, 92, 93, 94, 95, 10, 27, 96, 97, 98, 99, 100, 101, 102, 103, 11, 12, 13, 14, 15, 16, 28, 29, 30, 31, 32, 33, 34, 35, 36, 37, 38, 39, 40, 41, 42, 43, 44, 104, 50, 105, 106, 53, 107, 69, 70, 71, 72, 63, 64, 65, 66, 67, 108, 109, 110, 111, 112, 113, 114, 115, 116, 117, 118, 119, 120, 121, 122, 123, 124, 125, 126, 127, 128, 129, 130, 163, 164, 165, 166, 170, 171, 172, 173, 174, 175, 176, 177, 178, 179, 180, 181, 182, 183, 184, 185, 186, 167, 168, 169] (by decide +kernel) (by decide +kernel)) (goodIn_sub (fun _ h => List.mem_cons_of_mem _ (List.mem_append_left _ (List.mem_append_left _ (List.mem_append_right _ h)))) (by decide +kernel))
set_option maxRecDepth 20000 in
theorem gL_turns_X2_choice : GoodIn wsL_turns (wsV RL 31 RX2 yX2_choice wsX2_choice) := goodIn_app (goodIn_of _ (by decide +kernel)) ggL_turns_X2_choice
set_option maxRecDepth 20000 in
theorem ggL_turns_X2_hours : GoodIn wsL_turns wsX2_hours := goodIn_ca (goodIn_r _ [134, 21, 22, 23, 8, 24, 25, 26, 10, 27, 11, 12, 13, 14, 15, 16, 28, 29, 30, 31, 32, 33, 34, 35, 36, 37, 38, 39, 40, 41, 42, 43, 44, 170, 171, 172, 173, 174, 175, 176, 163, 164, 165, 166, 167, 168, 169] (by decide +kernel) (by decide +kernel)) (goodIn_sub (fun _ h => List.mem_cons_of_mem _ (List.mem_append_left _ (List.mem_append_left _ (List.mem_append_left _ (List.mem_append_right _ h))))) (by decide +kernel))
set_option maxRecDepth 20000 in
theorem gL_turns_X2_hours : GoodIn wsL_turns (wsV RL 44 RX2 yX2_hours wsX2_hours) := goodIn_app (goodIn_of _ (by decide +kernel)) ggL_turns_X2_hours
set_option maxRecDepth 20000 in
theorem ggL_turns_X2_rotate : GoodIn wsL_turns wsX2_rotate := goodIn_ca (goodIn_ca (goodIn_r _ [138, 139, 140, 141, 142, 143, 144, 145, 8, 146, 10, 27, 11, 12, 13, 14, 15, 16, 28, 29, 30, 31, 32, 33, 34, 35, 36, 37, 38, 39, 40, 41, 42, 43, 44, 147, 50, 148, 149, 53, 107, 49, 51, 52, 54, 55, 56, 57, 58, 59, 60, 61, 62, 63, 64, 65, 66, 67, 68, 69, 70, 71, 72, 86, 87, 88, 89, 90, 91, 92, 93, 94, 95, 96, 97, 98, 99, 100, 101, 102, 103, 104, 105, 106, 108, 109, 110, 111, 112, 113, 114, 115, 116, 117, 118, 119, 120, 121, 122, 123, 124, 125, 126, 127, 128, 129, 130, 150, 151, 152, 153, 154, 155, 156, 157, 158, 159, 160, 161, 162, 163, 164, 165, 166, 167, 168, 169, 170, 171, 172, 173, 174, 175, 176, 177, 178, 179, 180, 181, 182, 183, 184, 185, 186] (by decide +kernel) (by decide +kernel)) (goodIn_sub (fun _ h => List.mem_cons_of_mem _ (List.mem_append_left _ (List.mem_append_right _ h))) (by decide +kernel))) (goodIn_sub (fun _ h => List.mem_cons_of_mem _ (List.mem_append_right _ h)) (by decide +kernel))
set_option maxRecDepth 20000 in
theorem gL_turns_X2_rotate : GoodIn wsL_turns (wsV RL 47 RX2 yX2_rotate wsX2_rotate) := goodIn_app (goodIn_of _ (by decide +kernel)) ggL_turns_X2_rotate
theorem dL_turns_0 : decode cL_turns 0 = .ok (.aload_n 0, 1) := by decide +kernel
theorem dL_turns_1 : decode cL_turns 1 = .ok (.invokestatic 22, 3) := by decide +kernel
theorem dL_turns_4 : decode cL_turns 4 = .ok (.istore_n 2, 1) := by decide +kernel
theorem dL_turns_5 : decode cL_turns 5 = .ok (.iconst 1, 1) := by decide +kernel
theorem dL_turns_6 : decode cL_turns 6 = .ok (.aload_n 0, 1) := by decide +kernel
theorem dL_turns_7 : decode cL_turns 7 = .ok (.invokevirtual 8, 3) := by decide +kernel
theorem dL_turns_10 : decode cL_turns 10 = .ok (.ishl, 1) := by decide +kernel
theorem dL_turns_11 : decode cL_turns 11 = .ok (.iconst 1, 1) := by decide +kernel
theorem dL_turns_12 : decode cL_turns 12 = .ok (.isub, 1) := by decide +kernel
theorem dL_turns_13 : decode cL_turns 13 = .ok (.iload_n 2, 1) := by decide +kernel
theorem dL_turns_14 : decode cL_turns 14 = .ok (.iconst (-1), 1) := by decide +kernel
theorem dL_turns_15 : decode cL_turns 15 = .ok (.ixor, 1) := by decide +kernel
theorem dL_turns_16 : decode cL_turns 16 = .ok (.iand, 1) := by decide +kernel
theorem dL_turns_17 : decode cL_turns 17 = .ok (.istore_n 3, 1) := by decide +kernel
theorem dL_turns_18 : decode cL_turns 18 = .ok (.iload_n 2, 1) := by decide +kernel
theorem dL_turns_19 : decode cL_turns 19 = .ok (.iload_n 1, 1) := by decide +kernel
theorem dL_turns_20 : decode cL_turns 20 = .ok (.iconst (-1), 1) := by decide +kernel
theorem dL_turns_21 : decode cL_turns 21 = .ok (.ixor, 1) := by decide +kernel
theorem dL_turns_22 : decode cL_turns 22 = .ok (.iand, 1) := by decide +kernel
theorem dL_turns_23 : decode cL_turns 23 = .ok (.istore 4, 2) := by decide +kernel
theorem dL_turns_25 : decode cL_turns 25 = .ok (.aload_n 0, 1) := by decide +kernel
theorem dL_turns_26 : decode cL_turns 26 = .ok (.invokevirtual 41, 3) := by decide +kernel
theorem dL_turns_29 : decode cL_turns 29 = .ok (.aload_n 0, 1) := by decide +kernel
theorem dL_turns_30 : decode cL_turns 30 = .ok (.invokevirtual 28, 3) := by decide +kernel
theorem dL_turns_33 : decode cL_turns 33 = .ok (.isub, 1) := by decide +kernel
theorem dL_turns_34 : decode cL_turns 34 = .ok (.istore 5, 2) := by decide +kernel
theorem dL_turns_36 : decode cL_turns 36 = .ok (.iload 4, 2) := by decide +kernel
theorem dL_turns_38 : decode cL_turns 38 = .ok (.ifCond .eq 17, 3) := by decide +kernel
theorem dL_turns_41 : decode cL_turns 41 = .ok (.iload_n 2, 1) := by decide +kernel
theorem dL_turns_42 : decode cL_turns 42 = .ok (.iload_n 1, 1) := by decide +kernel
theorem dL_turns_43 : decode cL_turns 43 = .ok (.iand, 1) := by decide +kernel
theorem dL_turns_44 : decode cL_turns 44 = .ok (.ifCond .ne 11, 3) := by decide +kernel
theorem dL_turns_47 : decode cL_turns 47 = .ok (.iload 5, 2) := by decide +kernel
theorem dL_turns_49 : decode cL_turns 49 = .ok (.sipush 20000, 3) := by decide +kernel
theorem dL_turns_52 : decode cL_turns 52 = .ok (.if_icmp .le 5, 3) := by decide +kernel
theorem dL_turns_55 : decode cL_turns 55 = .ok (.iconst 1, 1) := by decide +kernel
theorem dL_turns_56 : decode cL_turns 56 = .ok (.ireturn, 1) := by decide +kernel
theorem dL_turns_57 : decode cL_turns 57 = .ok (.aload_n 0, 1) := by decide +kernel
theorem dL_turns_58 : decode cL_turns 58 = .ok (.iload 5, 2) := by decide +kernel
theorem dL_turns_60 : decode cL_turns 60 = .ok (.invokevirtual 31, 3) := by decide +kernel
theorem dL_turns_63 : decode cL_turns 63 = .ok (.istore 6, 2) := by decide +kernel
theorem dL_turns_65 : decode cL_turns 65 = .ok (.iload 6, 2) := by decide +kernel
theorem dL_turns_67 : decode cL_turns 67 = .ok (.ifCond .ne 5, 3) := by decide +kernel
theorem dL_turns_70 : decode cL_turns 70 = .ok (.iconst 1, 1) := by decide +kernel
theorem dL_turns_71 : decode cL_turns 71 = .ok (.ireturn, 1) := by decide +kernel
theorem dL_turns_72 : decode cL_turns 72 = .ok (.iconst 0, 1) := by decide +kernel
theorem dL_turns_73 : decode cL_turns 73 = .ok (.istore 7, 2) := by decide +kernel
theorem dL_turns_75 : decode cL_turns 75 = .ok (.iconst 0, 1) := by decide +kernel
theorem dL_turns_76 : decode cL_turns 76 = .ok (.istore 8, 2) := by decide +kernel
theorem dL_turns_78 : decode cL_turns 78 = .ok (.iload 8, 2) := by decide +kernel
theorem dL_turns_80 : decode cL_turns 80 = .ok (.aload_n 0, 1) := by decide +kernel
theorem dL_turns_81 : decode cL_turns 81 = .ok (.invokevirtual 8, 3) := by decide +kernel
theorem dL_turns_84 : decode cL_turns 84 = .ok (.if_icmp .ge 20, 3) := by decide +kernel
theorem dL_turns_87 : decode cL_turns 87 = .ok (.iload 7, 2) := by decide +kernel
theorem dL_turns_89 : decode cL_turns 89 = .ok (.aload_n 0, 1) := by decide +kernel
theorem dL_turns_90 : decode cL_turns 90 = .ok (.iload 8, 2) := by decide +kernel
theorem dL_turns_92 : decode cL_turns 92 = .ok (.invokevirtual 44, 3) := by decide +kernel
theorem dL_turns_95 : decode cL_turns 95 = .ok (.iadd, 1) := by decide +kernel
theorem dL_turns_96 : decode cL_turns 96 = .ok (.istore 7, 2) := by decide +kernel
theorem dL_turns_98 : decode cL_turns 98 = .ok (.iinc 8 1, 3) := by decide +kernel
theorem dL_turns_101 : decode cL_turns 101 = .ok (.goto (-23), 3) := by decide +kernel
theorem dL_turns_104 : decode cL_turns 104 = .ok (.aload_n 0, 1) := by decide +kernel
theorem dL_turns_105 : decode cL_turns 105 = .ok (.invokevirtual 28, 3) := by decide +kernel
theorem dL_turns_108 : decode cL_turns 108 = .ok (.istore 8, 2) := by decide +kernel
theorem dL_turns_110 : decode cL_turns 110 = .ok (.aload_n 0, 1) := by decide +kernel
theorem dL_turns_111 : decode cL_turns 111 = .ok (.invokevirtual 47, 3) := by decide +kernel
theorem dL_turns_114 : decode cL_turns 114 = .ok (.istore 9, 2) := by decide +kernel
theorem dL_turns_116 : decode cL_turns 116 = .ok (.iconst 0, 1) := by decide +kernel
theorem dL_turns_117 : decode cL_turns 117 = .ok (.istore 10, 2) := by decide +kernel
theorem dL_turns_119 : decode cL_turns 119 = .ok (.iconst 0, 1) := by decide +kernel
theorem dL_turns_120 : decode cL_turns 120 = .ok (.istore 11, 2) := by decide +kernel
theorem dL_turns_122 : decode cL_turns 122 = .ok (.iload 11, 2) := by decide +kernel
theorem dL_turns_124 : decode cL_turns 124 = .ok (.aload_n 0, 1) := by decide +kernel
theorem dL_turns_125 : decode cL_turns 125 = .ok (.invokevirtual 8, 3) := by decide +kernel
theorem dL_turns_128 : decode cL_turns 128 = .ok (.if_icmp .ge 32, 3) := by decide +kernel
theorem dL_turns_131 : decode cL_turns 131 = .ok (.iload 10, 2) := by decide +kernel
theorem dL_turns_133 : decode cL_turns 133 = .ok (.iload 4, 2) := by decide +kernel
theorem dL_turns_135 : decode cL_turns 135 = .ok (.iload 11, 2) := by decide +kernel
theorem dL_turns_137 : decode cL_turns 137 = .ok (.ishr, 1) := by decide +kernel
theorem dL_turns_138 : decode cL_turns 138 = .ok (.iconst 1, 1) := by decide +kernel
theorem dL_turns_139 : decode cL_turns 139 = .ok (.iand, 1) := by decide +kernel
theorem dL_turns_140 : decode cL_turns 140 = .ok (.iadd, 1) := by decide +kernel
theorem dL_turns_141 : decode cL_turns 141 = .ok (.istore 10, 2) := by decide +kernel
theorem dL_turns_143 : decode cL_turns 143 = .ok (.iload 7, 2) := by decide +kernel
theorem dL_turns_145 : decode cL_turns 145 = .ok (.aload_n 0, 1) := by decide +kernel
theorem dL_turns_146 : decode cL_turns 146 = .ok (.iload 11, 2) := by decide +kernel
theorem dL_turns_148 : decode cL_turns 148 = .ok (.invokevirtual 44, 3) := by decide +kernel
theorem dL_turns_151 : decode cL_turns 151 = .ok (.isub, 1) := by decide +kernel
theorem dL_turns_152 : decode cL_turns 152 = .ok (.istore 7, 2) := by decide +kernel
theorem dL_turns_154 : decode cL_turns 154 = .ok (.iinc 11 1, 3) := by decide +kernel
theorem dL_turns_157 : decode cL_turns 157 = .ok (.goto (-35), 3) := by decide +kernel
theorem dL_turns_160 : decode cL_turns 160 = .ok (.iload 9, 2) := by decide +kernel
theorem dL_turns_162 : decode cL_turns 162 = .ok (.iload 10, 2) := by decide +kernel
theorem dL_turns_164 : decode cL_turns 164 = .ok (.if_icmp .ne 39, 3) := by decide +kernel
theorem dL_turns_167 : decode cL_turns 167 = .ok (.aload_n 0, 1) := by decide +kernel
theorem dL_turns_168 : decode cL_turns 168 = .ok (.invokestatic 22, 3) := by decide +kernel
theorem dL_turns_171 : decode cL_turns 171 = .ok (.iload 6, 2) := by decide +kernel
theorem dL_turns_173 : decode cL_turns 173 = .ok (.if_icmp .ne 30, 3) := by decide +kernel
theorem dL_turns_176 : decode cL_turns 176 = .ok (.iload 6, 2) := by decide +kernel
theorem dL_turns_178 : decode cL_turns 178 = .ok (.iload_n 3, 1) := by decide +kernel
theorem dL_turns_179 : decode cL_turns 179 = .ok (.iand, 1) := by decide +kernel
theorem dL_turns_180 : decode cL_turns 180 = .ok (.iload 6, 2) := by decide +kernel
theorem dL_turns_182 : decode cL_turns 182 = .ok (.if_icmp .ne 21, 3) := by decide +kernel
theorem dL_turns_185 : decode cL_turns 185 = .ok (.iload 7, 2) := by decide +kernel
theorem dL_turns_187 : decode cL_turns 187 = .ok (.ifCond .ne 16, 3) := by decide +kernel
theorem dL_turns_190 : decode cL_turns 190 = .ok (.aload_n 0, 1) := by decide +kernel
theorem dL_turns_191 : decode cL_turns 191 = .ok (.invokevirtual 28, 3) := by decide +kernel
theorem dL_turns_194 : decode cL_turns 194 = .ok (.iload 8, 2) := by decide +kernel
theorem dL_turns_196 : decode cL_turns 196 = .ok (.if_icmp .gt 7, 3) := by decide +kernel
theorem dL_turns_199 : decode cL_turns 199 = .ok (.iconst 1, 1) := by decide +kernel
theorem dL_turns_200 : decode cL_turns 200 = .ok (.goto 4, 3) := by decide +kernel
theorem dL_turns_203 : decode cL_turns 203 = .ok (.iconst 0, 1) := by decide +kernel
theorem dL_turns_204 : decode cL_turns 204 = .ok (.ireturn, 1) := by decide +kernel
set_option maxRecDepth 20000 in
theorem ggL_passes_L_out : GoodIn wsL_passes wsL_out := goodIn_ca (goodIn_r _ [4, 5, 6, 7, 8, 9, 10, 11, 12, 13, 14, 15, 16, 17, 18, 19, 20, 21, 22, 23, 24, 25, 26, 27, 28, 29, 30, 31, 32, 33, 34, 35, 36, 37, 38, 39, 40, 41, 42, 43, 44, 113, 114, 115, 116, 117, 118, 119, 120, 121, 122, 123, 124, 125, 126] (by decide +kernel) (by decide +kernel)) (goodIn_sub (fun _ h => List.mem_cons_of_mem _ (List.mem_append_left _ (List.mem_append_right _ h))) (by decide +kernel))
set_option maxRecDepth 20000 in
theorem gL_passes_L_out : GoodIn wsL_passes (va_wsS RL 22 yL_out wsL_out) := goodIn_app (goodIn_of _ (by decide +kernel)) ggL_passes_L_out
set_option maxRecDepth 20000 in
theorem ggL_passes_X2_load : GoodIn wsL_passes wsX2_load := goodIn_r _ [48, 10, 27, 11, 12, 13, 14, 15, 16, 28, 29, 30, 31, 32, 33, 34, 35, 36, 37, 38, 39, 40, 41, 42, 43, 44, 49, 50, 51, 52, 53, 54, 55, 56, 57, 58, 59, 113, 114, 115, 116, 117, 118, 119, 120, 121, 122, 123, 124, 125, 126] (by decide +kernel) (by decide +kernel)
set_option maxRecDepth 20000 in
theorem gL_passes_X2_load : GoodIn wsL_passes (wsV RL 28 RX2 yX2_load wsX2_load) := goodIn_app (goodIn_of _ (by decide +kernel)) ggL_passes_X2_load
set_option maxRecDepth 20000 in
theorem ggL_passes_X2_feeders : GoodIn wsL_passes wsX2_feeders := goodIn_r _ [9, 10, 11, 12, 13, 14, 15, 16, 113, 114, 115, 116, 117, 118, 119] (by decide +kernel) (by decide +kernel)
set_option maxRecDepth 20000 in
theorem gL_passes_X2_feeders : GoodIn wsL_passes (wsV RL 8 RX2 yX2_feeders wsX2_feeders) := goodIn_app (goodIn_of _ (by decide +kernel)) ggL_passes_X2_feeders
set_option maxRecDepth 20000 in
theorem ggL_passes_X2_hours : GoodIn wsL_passes wsX2_hours := goodIn_ca (goodIn_r _ [63, 21, 22, 23, 8, 24, 25, 26, 10, 27, 11, 12, 13, 14, 15, 16, 28, 29, 30, 31, 32, 33, 34, 35, 36, 37, 38, 39, 40, 41, 42, 43, 44, 120, 121, 122, 123, 124, 125, 126, 113, 114, 115, 116, 117, 118, 119] (by decide +kernel) (by decide +kernel)) (goodIn_sub (fun _ h => List.mem_cons_of_mem _ (List.mem_append_left _ (List.mem_append_right _ h))) (by decide +kernel))
set_option maxRecDepth 20000 in
theorem gL_passes_X2_hours : GoodIn wsL_passes (wsV RL 44 RX2 yX2_hours wsX2_hours) := goodIn_app (goodIn_of _ (by decide +kernel)) ggL_passes_X2_hours
set_option maxRecDepth 20000 in
theorem ggL_passes_X2_hour : GoodIn wsL_passes wsX2_hour := goodIn_r _ [67, 68, 113, 114, 115, 116] (by decide +kernel) (by decide +kernel)
set_option maxRecDepth 20000 in
theorem gL_passes_X2_hour : GoodIn wsL_passes (wsV RL 50 RX2 yX2_hour wsX2_hour) := goodIn_app (goodIn_of _ (by decide +kernel)) ggL_passes_X2_hour
set_option maxRecDepth 20000 in
theorem ggL_passes_X2_pass : GoodIn wsL_passes wsX2_pass := goodIn_ca (goodIn_r _ [72, 68, 10, 27, 73, 74, 8, 75, 76, 77, 11, 12, 13, 14, 15, 16, 28, 29, 30, 31, 32, 33, 34, 35, 36, 37, 38, 39, 40, 41, 42, 43, 44, 78, 50, 79, 80, 53, 81, 82, 54, 83, 84, 85, 86, 113, 114, 115, 116, 117, 118, 119, 120, 121, 122, 123, 124, 125, 126] (by decide +kernel) (by decide +kernel)) (goodIn_sub (fun _ h => List.mem_cons_of_mem _ (List.mem_append_right _ h)) (by decide +kernel))
set_option maxRecDepth 20000 in
theorem gL_passes_X2_pass : GoodIn wsL_passes (wsV RL 53 RX2 yX2_pass wsX2_pass) := goodIn_app (goodIn_of _ (by decide +kernel)) ggL_passes_X2_pass
set_option maxRecDepth 20000 in
theorem ggL_passes_X2_cold : GoodIn wsL_passes wsX2_cold := goodIn_ca (goodIn_r _ [90, 21, 22, 23, 8, 24, 25, 26, 10, 27, 11, 12, 13, 14, 15, 16, 28, 29, 30, 31, 32, 33, 34, 35, 36, 37, 38, 39, 40, 41, 42, 43, 44, 120, 121, 122, 123, 124, 125, 126, 113, 114, 115, 116, 117, 118, 119] (by decide +kernel) (by decide +kernel)) (goodIn_sub (fun _ h => List.mem_cons_of_mem _ (List.mem_append_left _ (List.mem_append_right _ h))) (by decide +kernel))
set_option maxRecDepth 20000 in
theorem gL_passes_X2_cold : GoodIn wsL_passes (wsV RL 56 RX2 yX2_cold wsX2_cold) := goodIn_app (goodIn_of _ (by decide +kernel)) ggL_passes_X2_cold
set_option maxRecDepth 20000 in
theorem ggL_passes_X2_isCut : GoodIn wsL_passes wsX2_isCut := goodIn_ca (goodIn_r _ [20, 21, 22, 23, 8, 24, 25, 26, 10, 27, 11, 12, 13, 14, 15, 16, 28, 29, 30, 31, 32, 33, 34, 35, 36, 37, 38, 39, 40, 41, 42, 43, 44, 120, 121, 122, 123, 124, 125, 126, 113, 114, 115, 116, 117, 118, 119] (by decide +kernel) (by decide +kernel)) (goodIn_sub (fun _ h => List.mem_cons_of_mem _ (List.mem_append_left _ (List.mem_append_right _ h))) (by decide +kernel))
set_option maxRecDepth 20000 in
theorem gL_passes_X2_isCut : GoodIn wsL_passes (wsV RL 14 RX2 yX2_isCut wsX2_isCut) := goodIn_app (goodIn_of _ (by decide +kernel)) ggL_passes_X2_isCut
set_option maxRecDepth 20000 in
theorem ggL_passes_X2_takes : GoodIn wsL_passes wsX2_takes := goodIn_ca (goodIn_r _ [94, 21, 22, 23, 8, 24, 25, 26, 10, 27, 11, 12, 13, 14, 15, 16, 28, 29, 30, 31, 32, 33, 34, 35, 36, 37, 38, 39, 40, 41, 42, 43, 44, 49, 50, 51, 52, 53, 54, 55, 56, 57, 58, 59, 113, 114, 115, 116, 117, 118, 119, 120, 121, 122, 123, 124, 125, 126] (by decide +kernel) (by decide +kernel)) (goodIn_sub (fun _ h => List.mem_cons_of_mem _ (List.mem_append_left _ (List.mem_append_right _ h))) (by decide +kernel))
set_option maxRecDepth 20000 in
theorem gL_passes_X2_takes : GoodIn wsL_passes (wsV RL 18 RX2 yX2_takes wsX2_takes) := goodIn_app (goodIn_of _ (by decide +kernel)) ggL_passes_X2_takes
set_option maxRecDepth 20000 in
theorem ggL_passes_X2_loadRestored : GoodIn wsL_passes wsX2_loadRestored := goodIn_r _ [98, 10, 27, 11, 12, 13, 14, 15, 16, 28, 29, 30, 31, 32, 33, 34, 35, 36, 37, 38, 39, 40, 41, 42, 43, 44, 99, 50, 100, 101, 53, 102, 103, 104, 105, 82, 106, 107, 85, 108, 55, 56, 57, 58, 59, 109, 49, 51, 52, 54, 113, 114, 115, 116, 117, 118, 119, 120, 121, 122, 123, 124, 125, 126] (by decide +kernel) (by decide +kernel)
set_option maxRecDepth 20000 in
theorem gL_passes_X2_loadRestored : GoodIn wsL_passes (wsV RL 41 RX2 yX2_loadRestored wsX2_loadRestored) := goodIn_app (goodIn_of _ (by decide +kernel)) ggL_passes_X2_loadRestored
set_option maxRecDepth 20000 in
theorem ggL_passes_L_noneCold : GoodIn wsL_passes wsL_noneCold := goodIn_ca (goodIn_r _ [112, 5, 6, 7, 8, 9, 10, 11, 12, 13, 14, 15, 16, 87, 88, 89, 90, 21, 22, 23, 24, 25, 26, 27, 28, 29, 30, 31, 32, 33, 34, 35, 36, 37, 38, 39, 40, 41, 42, 43, 44, 113, 114, 115, 116, 117, 118, 119, 120, 121, 122, 123, 124, 125, 126] (by decide +kernel) (by decide +kernel)) (goodIn_sub (fun _ h => List.mem_cons_of_mem _ (List.mem_append_left _ (List.mem_append_right _ h))) (by decide +kernel))
set_option maxRecDepth 20000 in
theorem gL_passes_L_noneCold : GoodIn wsL_passes (va_wsS RL 59 yL_noneCold wsL_noneCold) := goodIn_app (goodIn_of _ (by decide +kernel)) ggL_passes_L_noneCold
theorem dL_passes_0 : decode cL_passes 0 = .ok (.aload_n 0, 1) := by decide +kernel
theorem dL_passes_1 : decode cL_passes 1 = .ok (.invokestatic 22, 3) := by decide +kernel
theorem dL_passes_4 : decode cL_passes 4 = .ok (.istore_n 2, 1) := by decide +kernel
theorem dL_passes_5 : decode cL_passes 5 = .ok (.iconst 0, 1) := by decide +kernel
theorem dL_passes_6 : decode cL_passes 6 = .ok (.istore_n 3, 1) := by decide +kernel
theorem dL_passes_7 : decode cL_passes 7 = .ok (.aload_n 0, 1) := by decide +kernel
theorem dL_passes_8 : decode cL_passes 8 = .ok (.invokevirtual 28, 3) := by decide +kernel
theorem dL_passes_11 : decode cL_passes 11 = .ok (.istore 4, 2) := by decide +kernel
theorem dL_passes_13 : decode cL_passes 13 = .ok (.iconst 0, 1) := by decide +kernel
theorem dL_passes_14 : decode cL_passes 14 = .ok (.istore 5, 2) := by decide +kernel
theorem dL_passes_16 : decode cL_passes 16 = .ok (.iconst 0, 1) := by decide +kernel
theorem dL_passes_17 : decode cL_passes 17 = .ok (.istore 6, 2) := by decide +kernel
theorem dL_passes_19 : decode cL_passes 19 = .ok (.iload 6, 2) := by decide +kernel
theorem dL_passes_21 : decode cL_passes 21 = .ok (.aload_n 0, 1) := by decide +kernel
theorem dL_passes_22 : decode cL_passes 22 = .ok (.invokevirtual 8, 3) := by decide +kernel
theorem dL_passes_25 : decode cL_passes 25 = .ok (.if_icmp .ge 34, 3) := by decide +kernel
theorem dL_passes_28 : decode cL_passes 28 = .ok (.iload_n 3, 1) := by decide +kernel
theorem dL_passes_29 : decode cL_passes 29 = .ok (.aload_n 0, 1) := by decide +kernel
theorem dL_passes_30 : decode cL_passes 30 = .ok (.iload 6, 2) := by decide +kernel
theorem dL_passes_32 : decode cL_passes 32 = .ok (.invokevirtual 44, 3) := by decide +kernel
theorem dL_passes_35 : decode cL_passes 35 = .ok (.iload_n 2, 1) := by decide +kernel
theorem dL_passes_36 : decode cL_passes 36 = .ok (.iload 6, 2) := by decide +kernel
theorem dL_passes_38 : decode cL_passes 38 = .ok (.ishr, 1) := by decide +kernel
theorem dL_passes_39 : decode cL_passes 39 = .ok (.iconst 1, 1) := by decide +kernel
theorem dL_passes_40 : decode cL_passes 40 = .ok (.iand, 1) := by decide +kernel
theorem dL_passes_41 : decode cL_passes 41 = .ok (.iconst 1, 1) := by decide +kernel
theorem dL_passes_42 : decode cL_passes 42 = .ok (.if_icmp .ne 7, 3) := by decide +kernel
theorem dL_passes_45 : decode cL_passes 45 = .ok (.iload_n 1, 1) := by decide +kernel
theorem dL_passes_46 : decode cL_passes 46 = .ok (.goto 4, 3) := by decide +kernel
theorem dL_passes_49 : decode cL_passes 49 = .ok (.iconst 0, 1) := by decide +kernel
theorem dL_passes_50 : decode cL_passes 50 = .ok (.iadd, 1) := by decide +kernel
theorem dL_passes_51 : decode cL_passes 51 = .ok (.iadd, 1) := by decide +kernel
theorem dL_passes_52 : decode cL_passes 52 = .ok (.istore_n 3, 1) := by decide +kernel
theorem dL_passes_53 : decode cL_passes 53 = .ok (.iinc 6 1, 3) := by decide +kernel
theorem dL_passes_56 : decode cL_passes 56 = .ok (.goto (-37), 3) := by decide +kernel
theorem dL_passes_59 : decode cL_passes 59 = .ok (.aload_n 0, 1) := by decide +kernel
theorem dL_passes_60 : decode cL_passes 60 = .ok (.invokevirtual 50, 3) := by decide +kernel
theorem dL_passes_63 : decode cL_passes 63 = .ok (.istore 6, 2) := by decide +kernel
theorem dL_passes_65 : decode cL_passes 65 = .ok (.aload_n 0, 1) := by decide +kernel
theorem dL_passes_66 : decode cL_passes 66 = .ok (.iload_n 1, 1) := by decide +kernel
theorem dL_passes_67 : decode cL_passes 67 = .ok (.invokevirtual 53, 3) := by decide +kernel
theorem dL_passes_70 : decode cL_passes 70 = .ok (.iload 6, 2) := by decide +kernel
theorem dL_passes_72 : decode cL_passes 72 = .ok (.iload_n 1, 1) := by decide +kernel
theorem dL_passes_73 : decode cL_passes 73 = .ok (.iadd, 1) := by decide +kernel
theorem dL_passes_74 : decode cL_passes 74 = .ok (.if_icmp .ne 20, 3) := by decide +kernel
theorem dL_passes_77 : decode cL_passes 77 = .ok (.aload_n 0, 1) := by decide +kernel
theorem dL_passes_78 : decode cL_passes 78 = .ok (.invokestatic 22, 3) := by decide +kernel
theorem dL_passes_81 : decode cL_passes 81 = .ok (.iload_n 2, 1) := by decide +kernel
theorem dL_passes_82 : decode cL_passes 82 = .ok (.if_icmp .ne 12, 3) := by decide +kernel
theorem dL_passes_85 : decode cL_passes 85 = .ok (.aload_n 0, 1) := by decide +kernel
theorem dL_passes_86 : decode cL_passes 86 = .ok (.invokevirtual 28, 3) := by decide +kernel
theorem dL_passes_89 : decode cL_passes 89 = .ok (.iload 4, 2) := by decide +kernel
theorem dL_passes_91 : decode cL_passes 91 = .ok (.if_icmp .le 5, 3) := by decide +kernel
theorem dL_passes_94 : decode cL_passes 94 = .ok (.iconst 0, 1) := by decide +kernel
theorem dL_passes_95 : decode cL_passes 95 = .ok (.ireturn, 1) := by decide +kernel
theorem dL_passes_96 : decode cL_passes 96 = .ok (.iconst 0, 1) := by decide +kernel
theorem dL_passes_97 : decode cL_passes 97 = .ok (.istore 7, 2) := by decide +kernel
theorem dL_passes_99 : decode cL_passes 99 = .ok (.iload 7, 2) := by decide +kernel
theorem dL_passes_101 : decode cL_passes 101 = .ok (.aload_n 0, 1) := by decide +kernel
theorem dL_passes_102 : decode cL_passes 102 = .ok (.invokevirtual 8, 3) := by decide +kernel
theorem dL_passes_105 : decode cL_passes 105 = .ok (.if_icmp .ge 78, 3) := by decide +kernel
theorem dL_passes_108 : decode cL_passes 108 = .ok (.iload_n 3, 1) := by decide +kernel
theorem dL_passes_109 : decode cL_passes 109 = .ok (.aload_n 0, 1) := by decide +kernel
theorem dL_passes_110 : decode cL_passes 110 = .ok (.iload 7, 2) := by decide +kernel
theorem dL_passes_112 : decode cL_passes 112 = .ok (.invokevirtual 44, 3) := by decide +kernel
theorem dL_passes_115 : decode cL_passes 115 = .ok (.isub, 1) := by decide +kernel
theorem dL_passes_116 : decode cL_passes 116 = .ok (.istore_n 3, 1) := by decide +kernel
theorem dL_passes_117 : decode cL_passes 117 = .ok (.aload_n 0, 1) := by decide +kernel
theorem dL_passes_118 : decode cL_passes 118 = .ok (.iload 7, 2) := by decide +kernel
theorem dL_passes_120 : decode cL_passes 120 = .ok (.invokevirtual 56, 3) := by decide +kernel
theorem dL_passes_123 : decode cL_passes 123 = .ok (.ifCond .lt 41, 3) := by decide +kernel
theorem dL_passes_126 : decode cL_passes 126 = .ok (.aload_n 0, 1) := by decide +kernel
theorem dL_passes_127 : decode cL_passes 127 = .ok (.iload 7, 2) := by decide +kernel
theorem dL_passes_129 : decode cL_passes 129 = .ok (.invokevirtual 56, 3) := by decide +kernel
theorem dL_passes_132 : decode cL_passes 132 = .ok (.bipush 100, 2) := by decide +kernel
theorem dL_passes_134 : decode cL_passes 134 = .ok (.if_icmp .gt 30, 3) := by decide +kernel
theorem dL_passes_137 : decode cL_passes 137 = .ok (.aload_n 0, 1) := by decide +kernel
theorem dL_passes_138 : decode cL_passes 138 = .ok (.iload 7, 2) := by decide +kernel
theorem dL_passes_140 : decode cL_passes 140 = .ok (.invokevirtual 14, 3) := by decide +kernel
theorem dL_passes_143 : decode cL_passes 143 = .ok (.ifCond .eq 23, 3) := by decide +kernel
theorem dL_passes_146 : decode cL_passes 146 = .ok (.aload_n 0, 1) := by decide +kernel
theorem dL_passes_147 : decode cL_passes 147 = .ok (.iload 7, 2) := by decide +kernel
theorem dL_passes_149 : decode cL_passes 149 = .ok (.invokevirtual 18, 3) := by decide +kernel
theorem dL_passes_152 : decode cL_passes 152 = .ok (.ifCond .ne 12, 3) := by decide +kernel
theorem dL_passes_155 : decode cL_passes 155 = .ok (.aload_n 0, 1) := by decide +kernel
theorem dL_passes_156 : decode cL_passes 156 = .ok (.iload 7, 2) := by decide +kernel
theorem dL_passes_158 : decode cL_passes 158 = .ok (.invokevirtual 56, 3) := by decide +kernel
theorem dL_passes_161 : decode cL_passes 161 = .ok (.ifCond .eq 5, 3) := by decide +kernel
theorem dL_passes_164 : decode cL_passes 164 = .ok (.iconst 0, 1) := by decide +kernel
theorem dL_passes_165 : decode cL_passes 165 = .ok (.ireturn, 1) := by decide +kernel
theorem dL_passes_166 : decode cL_passes 166 = .ok (.iload 5, 2) := by decide +kernel
theorem dL_passes_168 : decode cL_passes 168 = .ok (.aload_n 0, 1) := by decide +kernel
theorem dL_passes_169 : decode cL_passes 169 = .ok (.iload 7, 2) := by decide +kernel
theorem dL_passes_171 : decode cL_passes 171 = .ok (.invokevirtual 18, 3) := by decide +kernel
theorem dL_passes_174 : decode cL_passes 174 = .ok (.iadd, 1) := by decide +kernel
theorem dL_passes_175 : decode cL_passes 175 = .ok (.istore 5, 2) := by decide +kernel
theorem dL_passes_177 : decode cL_passes 177 = .ok (.iinc 7 1, 3) := by decide +kernel
theorem dL_passes_180 : decode cL_passes 180 = .ok (.goto (-81), 3) := by decide +kernel
theorem dL_passes_183 : decode cL_passes 183 = .ok (.iload_n 3, 1) := by decide +kernel
theorem dL_passes_184 : decode cL_passes 184 = .ok (.ifCond .ne 37, 3) := by decide +kernel
theorem dL_passes_187 : decode cL_passes 187 = .ok (.iload 5, 2) := by decide +kernel
theorem dL_passes_189 : decode cL_passes 189 = .ok (.aload_n 0, 1) := by decide +kernel
theorem dL_passes_190 : decode cL_passes 190 = .ok (.invokevirtual 28, 3) := by decide +kernel
theorem dL_passes_193 : decode cL_passes 193 = .ok (.if_icmp .ne 28, 3) := by decide +kernel
theorem dL_passes_196 : decode cL_passes 196 = .ok (.aload_n 0, 1) := by decide +kernel
theorem dL_passes_197 : decode cL_passes 197 = .ok (.invokevirtual 41, 3) := by decide +kernel
theorem dL_passes_200 : decode cL_passes 200 = .ok (.iload 5, 2) := by decide +kernel
theorem dL_passes_202 : decode cL_passes 202 = .ok (.if_icmp .lt 19, 3) := by decide +kernel
theorem dL_passes_205 : decode cL_passes 205 = .ok (.iload_n 1, 1) := by decide +kernel
theorem dL_passes_206 : decode cL_passes 206 = .ok (.iconst 5, 1) := by decide +kernel
theorem dL_passes_207 : decode cL_passes 207 = .ok (.if_icmp .lt 10, 3) := by decide +kernel
theorem dL_passes_210 : decode cL_passes 210 = .ok (.aload_n 0, 1) := by decide +kernel
theorem dL_passes_211 : decode cL_passes 211 = .ok (.invokestatic 59, 3) := by decide +kernel
theorem dL_passes_214 : decode cL_passes 214 = .ok (.ifCond .eq 7, 3) := by decide +kernel
theorem dL_passes_217 : decode cL_passes 217 = .ok (.iconst 1, 1) := by decide +kernel
theorem dL_passes_218 : decode cL_passes 218 = .ok (.goto 4, 3) := by decide +kernel
theorem dL_passes_221 : decode cL_passes 221 = .ok (.iconst 0, 1) := by decide +kernel
theorem dL_passes_222 : decode cL_passes 222 = .ok (.ireturn, 1) := by decide +kernel
set_option maxRecDepth 20000 in
theorem ggL_noneCold_X2_feeders : GoodIn wsL_noneCold wsX2_feeders := goodIn_r _ [5, 6, 7, 8, 9, 10, 11, 12, 41, 42, 43, 44, 45, 46, 47] (by decide +kernel) (by decide +kernel)
set_option maxRecDepth 20000 in
theorem gL_noneCold_X2_feeders : GoodIn wsL_noneCold (wsV RL 8 RX2 yX2_feeders wsX2_feeders) := goodIn_app (goodIn_of _ (by decide +kernel)) ggL_noneCold_X2_feeders
set_option maxRecDepth 20000 in
theorem ggL_noneCold_X2_cold : GoodIn wsL_noneCold wsX2_cold := goodIn_ca (goodIn_r _ [16, 17, 18, 19, 4, 20, 21, 22, 6, 23, 7, 8, 9, 10, 11, 12, 24, 25, 26, 27, 28, 29, 30, 31, 32, 33, 34, 35, 36, 37, 38, 39, 40, 48, 49, 50, 51, 52, 53, 54, 41, 42, 43, 44, 45, 46, 47] (by decide +kernel) (by decide +kernel)) (goodIn_sub (fun _ h => List.mem_cons_of_mem _ (List.mem_append_right _ h)) (by decide +kernel))
set_option maxRecDepth 20000 in
theorem gL_noneCold_X2_cold : GoodIn wsL_noneCold (wsV RL 56 RX2 yX2_cold wsX2_cold) := goodIn_app (goodIn_of _ (by decide +kernel)) ggL_noneCold_X2_cold
theorem dL_noneCold_0 : decode cL_noneCold 0 = .ok (.iconst 0, 1) := by decide +kernel
theorem dL_noneCold_1 : decode cL_noneCold 1 = .ok (.istore_n 1, 1) := by decide +kernel
theorem dL_noneCold_2 : decode cL_noneCold 2 = .ok (.iload_n 1, 1) := by decide +kernel
theorem dL_noneCold_3 : decode cL_noneCold 3 = .ok (.aload_n 0, 1) := by decide +kernel
theorem dL_noneCold_4 : decode cL_noneCold 4 = .ok (.invokevirtual 8, 3) := by decide +kernel
theorem dL_noneCold_7 : decode cL_noneCold 7 = .ok (.if_icmp .ge 19, 3) := by decide +kernel
theorem dL_noneCold_10 : decode cL_noneCold 10 = .ok (.aload_n 0, 1) := by decide +kernel
theorem dL_noneCold_11 : decode cL_noneCold 11 = .ok (.iload_n 1, 1) := by decide +kernel
theorem dL_noneCold_12 : decode cL_noneCold 12 = .ok (.invokevirtual 56, 3) := by decide +kernel
theorem dL_noneCold_15 : decode cL_noneCold 15 = .ok (.ifCond .eq 5, 3) := by decide +kernel
theorem dL_noneCold_18 : decode cL_noneCold 18 = .ok (.iconst 0, 1) := by decide +kernel
theorem dL_noneCold_19 : decode cL_noneCold 19 = .ok (.ireturn, 1) := by decide +kernel
theorem dL_noneCold_20 : decode cL_noneCold 20 = .ok (.iinc 1 1, 3) := by decide +kernel
theorem dL_noneCold_23 : decode cL_noneCold 23 = .ok (.goto (-21), 3) := by decide +kernel
theorem dL_noneCold_26 : decode cL_noneCold 26 = .ok (.iconst 1, 1) := by decide +kernel
theorem dL_noneCold_27 : decode cL_noneCold 27 = .ok (.ireturn, 1) := by decide +kernel
