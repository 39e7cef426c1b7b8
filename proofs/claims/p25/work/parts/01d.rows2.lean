set_option maxRecDepth 20000 in
theorem ggX2_init_Jx4a65c_init_da8c8 : GoodIn wsX2_init wsJx4a65c_init_da8c8 := goodIn_r _ [16, 17, 18, 19, 20, 21, 22, 23, 24, 25, 26, 27, 28, 2, 3, 43, 44, 45] (by decide +kernel) (by decide +kernel)
set_option maxRecDepth 20000 in
theorem gX2_init_Jx4a65c_init_da8c8 : GoodIn wsX2_init (wsJx4a65c_init_da8c8) := ggX2_init_Jx4a65c_init_da8c8
set_option maxRecDepth 20000 in
theorem ggX2_init_X1_init : GoodIn wsX2_init wsX1_init := goodIn_r _ [30, 31, 2, 3, 32, 33, 34, 35, 36, 37, 38, 39, 40, 41, 42, 50, 51, 52, 53, 54, 55, 56, 57, 58, 59] (by decide +kernel) (by decide +kernel)
set_option maxRecDepth 20000 in
theorem gX2_init_X1_init_n18 : GoodIn wsX2_init (wsX1_init) := ggX2_init_X1_init
theorem dX2_init_0 : decode cX2_init 0 = .ok (.aload_n 0, 1) := by decide +kernel
theorem dX2_init_1 : decode cX2_init 1 = .ok (.invokespecial 1, 3) := by decide +kernel
theorem dX2_init_4 : decode cX2_init 4 = .ok (.aload_n 0, 1) := by decide +kernel
theorem dX2_init_5 : decode cX2_init 5 = .ok (.new 7, 3) := by decide +kernel
theorem dX2_init_8 : decode cX2_init 8 = .ok (.dup, 1) := by decide +kernel
theorem dX2_init_9 : decode cX2_init 9 = .ok (.invokespecial 9, 3) := by decide +kernel
theorem dX2_init_12 : decode cX2_init 12 = .ok (.putfield 10, 3) := by decide +kernel
theorem dX2_init_15 : decode cX2_init 15 = .ok (.aload_n 0, 1) := by decide +kernel
theorem dX2_init_16 : decode cX2_init 16 = .ok (.new 16, 3) := by decide +kernel
theorem dX2_init_19 : decode cX2_init 19 = .ok (.dup, 1) := by decide +kernel
theorem dX2_init_20 : decode cX2_init 20 = .ok (.invokespecial 18, 3) := by decide +kernel
theorem dX2_init_23 : decode cX2_init 23 = .ok (.putfield 19, 3) := by decide +kernel
theorem dX2_init_26 : decode cX2_init 26 = .ok (.aload_n 0, 1) := by decide +kernel
theorem dX2_init_27 : decode cX2_init 27 = .ok (.iconst 0, 1) := by decide +kernel
theorem dX2_init_28 : decode cX2_init 28 = .ok (.putfield 23, 3) := by decide +kernel
theorem dX2_init_31 : decode cX2_init 31 = .ok (.aload_n 0, 1) := by decide +kernel
theorem dX2_init_32 : decode cX2_init 32 = .ok (.iconst 0, 1) := by decide +kernel
theorem dX2_init_33 : decode cX2_init 33 = .ok (.putfield 27, 3) := by decide +kernel
theorem dX2_init_36 : decode cX2_init 36 = .ok (.return_, 1) := by decide +kernel
set_option maxRecDepth 20000 in
theorem ggX2_feeder_X2_requireWithin : GoodIn wsX2_feeder wsX2_requireWithin := goodIn_ca (goodIn_r _ [10, 11, 12] (by decide +kernel) (by decide +kernel)) (goodIn_sub (fun _ h => List.mem_cons_of_mem _ (List.mem_append_right _ h)) (by decide +kernel))
set_option maxRecDepth 20000 in
theorem gX2_feeder_X2_requireWithin : GoodIn wsX2_feeder (va_wsS RX2 30 yX2_requireWithin wsX2_requireWithin) := goodIn_app (goodIn_of _ (by decide +kernel)) ggX2_feeder_X2_requireWithin
set_option maxRecDepth 20000 in
theorem ggX2_feeder_Jx4a65c_size_8abf5 : GoodIn wsX2_feeder wsJx4a65c_size_8abf5 := goodIn_r _ [17, 18, 96, 97, 98] (by decide +kernel) (by decide +kernel)
set_option maxRecDepth 20000 in
theorem gX2_feeder_Jx4a65c_size_8abf5 : GoodIn wsX2_feeder (wsV RX2 34 RJx4a65c yJx4a65c_size_8abf5 wsJx4a65c_size_8abf5) := goodIn_app (goodIn_of _ (by decide +kernel)) ggX2_feeder_Jx4a65c_size_8abf5
set_option maxRecDepth 20000 in
theorem ggX2_feeder_X0_init : GoodIn wsX2_feeder wsX0_init := goodIn_r _ [20, 21, 22, 23, 24, 25, 26, 27, 28, 29, 30, 89, 90, 91, 92, 93, 94, 95] (by decide +kernel) (by decide +kernel)
set_option maxRecDepth 20000 in
theorem gX2_feeder_X0_init_n47 : GoodIn wsX2_feeder (wsX0_init) := ggX2_feeder_X0_init
set_option maxRecDepth 20000 in
theorem ggX2_feeder_Jx4a65c_add_9ea2d : GoodIn wsX2_feeder wsJx4a65c_add_9ea2d := goodIn_r _ [34, 35, 36, 37, 18, 38, 39, 40, 16, 41, 42, 43, 44, 45, 46, 47, 48, 49, 50, 51, 52, 53, 54, 55, 56, 57, 58, 59, 60, 61, 62, 63, 64, 65, 66, 67, 68, 69, 70, 71, 72, 73, 74, 75, 76, 77, 78, 79, 80, 81, 82, 83, 84, 96, 97, 98] (by decide +kernel) (by decide +kernel)
set_option maxRecDepth 20000 in
theorem gX2_feeder_Jx4a65c_add_9ea2d : GoodIn wsX2_feeder (wsV RX2 50 RJx4a65c yJx4a65c_add_9ea2d wsJx4a65c_add_9ea2d) := goodIn_app (goodIn_of _ (by decide +kernel)) ggX2_feeder_Jx4a65c_add_9ea2d
theorem dX2_feeder_0 : decode cX2_feeder 0 = .ok (.iload_n 1, 1) := by decide +kernel
theorem dX2_feeder_1 : decode cX2_feeder 1 = .ok (.iconst 1, 1) := by decide +kernel
theorem dX2_feeder_2 : decode cX2_feeder 2 = .ok (.sipush 999, 3) := by decide +kernel
theorem dX2_feeder_5 : decode cX2_feeder 5 = .ok (.invokestatic 30, 3) := by decide +kernel
theorem dX2_feeder_8 : decode cX2_feeder 8 = .ok (.iload_n 3, 1) := by decide +kernel
theorem dX2_feeder_9 : decode cX2_feeder 9 = .ok (.iconst 0, 1) := by decide +kernel
theorem dX2_feeder_10 : decode cX2_feeder 10 = .ok (.iconst 3, 1) := by decide +kernel
theorem dX2_feeder_11 : decode cX2_feeder 11 = .ok (.invokestatic 30, 3) := by decide +kernel
theorem dX2_feeder_14 : decode cX2_feeder 14 = .ok (.aload_n 0, 1) := by decide +kernel
theorem dX2_feeder_15 : decode cX2_feeder 15 = .ok (.getfield 10, 3) := by decide +kernel
theorem dX2_feeder_18 : decode cX2_feeder 18 = .ok (.invokevirtual 34, 3) := by decide +kernel
theorem dX2_feeder_21 : decode cX2_feeder 21 = .ok (.bipush 12, 2) := by decide +kernel
theorem dX2_feeder_23 : decode cX2_feeder 23 = .ok (.if_icmp .lt 13, 3) := by decide +kernel
theorem dX2_feeder_26 : decode cX2_feeder 26 = .ok (.new 38, 3) := by decide +kernel
theorem dX2_feeder_29 : decode cX2_feeder 29 = .ok (.dup, 1) := by decide +kernel
theorem dX2_feeder_30 : decode cX2_feeder 30 = .ok (.ldc 40, 2) := by decide +kernel
theorem dX2_feeder_32 : decode cX2_feeder 32 = .ok (.invokespecial 42, 3) := by decide +kernel
theorem dX2_feeder_35 : decode cX2_feeder 35 = .ok (.athrow, 1) := by decide +kernel
theorem dX2_feeder_36 : decode cX2_feeder 36 = .ok (.aload_n 0, 1) := by decide +kernel
theorem dX2_feeder_37 : decode cX2_feeder 37 = .ok (.getfield 10, 3) := by decide +kernel
theorem dX2_feeder_40 : decode cX2_feeder 40 = .ok (.new 45, 3) := by decide +kernel
theorem dX2_feeder_43 : decode cX2_feeder 43 = .ok (.dup, 1) := by decide +kernel
theorem dX2_feeder_44 : decode cX2_feeder 44 = .ok (.iload_n 1, 1) := by decide +kernel
theorem dX2_feeder_45 : decode cX2_feeder 45 = .ok (.iload_n 2, 1) := by decide +kernel
theorem dX2_feeder_46 : decode cX2_feeder 46 = .ok (.iload_n 3, 1) := by decide +kernel
theorem dX2_feeder_47 : decode cX2_feeder 47 = .ok (.invokespecial 47, 3) := by decide +kernel
theorem dX2_feeder_50 : decode cX2_feeder 50 = .ok (.invokevirtual 50, 3) := by decide +kernel
theorem dX2_feeder_53 : decode cX2_feeder 53 = .ok (.pop, 1) := by decide +kernel
theorem dX2_feeder_54 : decode cX2_feeder 54 = .ok (.aload_n 0, 1) := by decide +kernel
theorem dX2_feeder_55 : decode cX2_feeder 55 = .ok (.getfield 10, 3) := by decide +kernel
theorem dX2_feeder_58 : decode cX2_feeder 58 = .ok (.invokevirtual 34, 3) := by decide +kernel
theorem dX2_feeder_61 : decode cX2_feeder 61 = .ok (.iconst 1, 1) := by decide +kernel
theorem dX2_feeder_62 : decode cX2_feeder 62 = .ok (.isub, 1) := by decide +kernel
theorem dX2_feeder_63 : decode cX2_feeder 63 = .ok (.ireturn, 1) := by decide +kernel
set_option maxRecDepth 20000 in
theorem ggX2_setSlack_X2_requireWithin : GoodIn wsX2_setSlack wsX2_requireWithin := goodIn_ca (goodIn_r _ [5, 6, 7] (by decide +kernel) (by decide +kernel)) (goodIn_sub (fun _ h => List.mem_cons_of_mem _ (List.mem_append_right _ h)) (by decide +kernel))
set_option maxRecDepth 20000 in
theorem gX2_setSlack_X2_requireWithin : GoodIn wsX2_setSlack (va_wsS RX2 30 yX2_requireWithin wsX2_requireWithin) := goodIn_app (goodIn_of _ (by decide +kernel)) ggX2_setSlack_X2_requireWithin
theorem dX2_setSlack_0 : decode cX2_setSlack 0 = .ok (.iload_n 1, 1) := by decide +kernel
theorem dX2_setSlack_1 : decode cX2_setSlack 1 = .ok (.iconst 0, 1) := by decide +kernel
theorem dX2_setSlack_2 : decode cX2_setSlack 2 = .ok (.sipush 999, 3) := by decide +kernel
theorem dX2_setSlack_5 : decode cX2_setSlack 5 = .ok (.invokestatic 30, 3) := by decide +kernel
theorem dX2_setSlack_8 : decode cX2_setSlack 8 = .ok (.aload_n 0, 1) := by decide +kernel
theorem dX2_setSlack_9 : decode cX2_setSlack 9 = .ok (.getfield 27, 3) := by decide +kernel
theorem dX2_setSlack_12 : decode cX2_setSlack 12 = .ok (.istore_n 2, 1) := by decide +kernel
theorem dX2_setSlack_13 : decode cX2_setSlack 13 = .ok (.aload_n 0, 1) := by decide +kernel
theorem dX2_setSlack_14 : decode cX2_setSlack 14 = .ok (.iload_n 1, 1) := by decide +kernel
theorem dX2_setSlack_15 : decode cX2_setSlack 15 = .ok (.putfield 27, 3) := by decide +kernel
theorem dX2_setSlack_18 : decode cX2_setSlack 18 = .ok (.iload_n 2, 1) := by decide +kernel
theorem dX2_setSlack_19 : decode cX2_setSlack 19 = .ok (.ireturn, 1) := by decide +kernel
set_option maxRecDepth 20000 in
theorem ggX2_pass_X2_requireWithin : GoodIn wsX2_pass wsX2_requireWithin := goodIn_ca (goodIn_r _ [7, 8, 9] (by decide +kernel) (by decide +kernel)) (goodIn_sub (fun _ h => List.mem_cons_of_mem _ (List.mem_append_right _ h)) (by decide +kernel))
set_option maxRecDepth 20000 in
theorem gX2_pass_X2_requireWithin : GoodIn wsX2_pass (va_wsS RX2 30 yX2_requireWithin wsX2_requireWithin) := goodIn_app (goodIn_of _ (by decide +kernel)) ggX2_pass_X2_requireWithin
set_option maxRecDepth 20000 in
theorem ggX2_pass_Jx4a65c_size_8abf5 : GoodIn wsX2_pass wsJx4a65c_size_8abf5 := goodIn_r _ [14, 15, 49, 50, 51] (by decide +kernel) (by decide +kernel)
set_option maxRecDepth 20000 in
theorem gX2_pass_Jx4a65c_size_8abf5 : GoodIn wsX2_pass (wsV RX2 34 RJx4a65c yJx4a65c_size_8abf5 wsJx4a65c_size_8abf5) := goodIn_app (goodIn_of _ (by decide +kernel)) ggX2_pass_Jx4a65c_size_8abf5
set_option maxRecDepth 20000 in
theorem ggX2_pass_Jx4a65c_get_915e3 : GoodIn wsX2_pass wsJx4a65c_get_915e3 := goodIn_r _ [19, 15, 20, 21, 22, 23, 24, 25, 26, 27, 28, 29, 30, 13, 31, 32, 49, 50, 51] (by decide +kernel) (by decide +kernel)
set_option maxRecDepth 20000 in
theorem gX2_pass_Jx4a65c_get_915e3 : GoodIn wsX2_pass (wsV RX2 65 RJx4a65c yJx4a65c_get_915e3 wsJx4a65c_get_915e3) := goodIn_app (goodIn_of _ (by decide +kernel)) ggX2_pass_Jx4a65c_get_915e3
set_option maxRecDepth 20000 in
theorem ggX2_pass_X0_letPass : GoodIn wsX2_pass wsX0_letPass := goodIn_r _ [36, 37, 38, 39, 40, 41, 42, 43, 44, 52, 53, 54, 55, 56, 57, 58] (by decide +kernel) (by decide +kernel)
set_option maxRecDepth 20000 in
theorem gX2_pass_X0_letPass_n69 : GoodIn wsX2_pass (wsX0_letPass) := ggX2_pass_X0_letPass
theorem dX2_pass_0 : decode cX2_pass 0 = .ok (.iload_n 1, 1) := by decide +kernel
theorem dX2_pass_1 : decode cX2_pass 1 = .ok (.iconst 1, 1) := by decide +kernel
theorem dX2_pass_2 : decode cX2_pass 2 = .ok (.bipush 100, 2) := by decide +kernel
theorem dX2_pass_4 : decode cX2_pass 4 = .ok (.invokestatic 30, 3) := by decide +kernel
theorem dX2_pass_7 : decode cX2_pass 7 = .ok (.aload_n 0, 1) := by decide +kernel
theorem dX2_pass_8 : decode cX2_pass 8 = .ok (.dup, 1) := by decide +kernel
theorem dX2_pass_9 : decode cX2_pass 9 = .ok (.getfield 23, 3) := by decide +kernel
theorem dX2_pass_12 : decode cX2_pass 12 = .ok (.iload_n 1, 1) := by decide +kernel
theorem dX2_pass_13 : decode cX2_pass 13 = .ok (.iadd, 1) := by decide +kernel
theorem dX2_pass_14 : decode cX2_pass 14 = .ok (.putfield 23, 3) := by decide +kernel
theorem dX2_pass_17 : decode cX2_pass 17 = .ok (.iconst 0, 1) := by decide +kernel
theorem dX2_pass_18 : decode cX2_pass 18 = .ok (.istore_n 2, 1) := by decide +kernel
theorem dX2_pass_19 : decode cX2_pass 19 = .ok (.iload_n 2, 1) := by decide +kernel
theorem dX2_pass_20 : decode cX2_pass 20 = .ok (.aload_n 0, 1) := by decide +kernel
theorem dX2_pass_21 : decode cX2_pass 21 = .ok (.getfield 10, 3) := by decide +kernel
theorem dX2_pass_24 : decode cX2_pass 24 = .ok (.invokevirtual 34, 3) := by decide +kernel
theorem dX2_pass_27 : decode cX2_pass 27 = .ok (.if_icmp .ge 24, 3) := by decide +kernel
theorem dX2_pass_30 : decode cX2_pass 30 = .ok (.aload_n 0, 1) := by decide +kernel
theorem dX2_pass_31 : decode cX2_pass 31 = .ok (.getfield 10, 3) := by decide +kernel
theorem dX2_pass_34 : decode cX2_pass 34 = .ok (.iload_n 2, 1) := by decide +kernel
theorem dX2_pass_35 : decode cX2_pass 35 = .ok (.invokevirtual 65, 3) := by decide +kernel
theorem dX2_pass_38 : decode cX2_pass 38 = .ok (.checkcast 45, 3) := by decide +kernel
theorem dX2_pass_41 : decode cX2_pass 41 = .ok (.iload_n 1, 1) := by decide +kernel
theorem dX2_pass_42 : decode cX2_pass 42 = .ok (.invokevirtual 69, 3) := by decide +kernel
theorem dX2_pass_45 : decode cX2_pass 45 = .ok (.iinc 2 1, 3) := by decide +kernel
theorem dX2_pass_48 : decode cX2_pass 48 = .ok (.goto (-29), 3) := by decide +kernel
theorem dX2_pass_51 : decode cX2_pass 51 = .ok (.aload_n 0, 1) := by decide +kernel
theorem dX2_pass_52 : decode cX2_pass 52 = .ok (.getfield 23, 3) := by decide +kernel
theorem dX2_pass_55 : decode cX2_pass 55 = .ok (.ireturn, 1) := by decide +kernel
set_option maxRecDepth 20000 in
theorem ggX2_relieve_X2_requireWithin : GoodIn wsX2_relieve wsX2_requireWithin := goodIn_ca (goodIn_r _ [8, 9, 10] (by decide +kernel) (by decide +kernel)) (goodIn_sub (fun _ h => List.mem_cons_of_mem _ (List.mem_append_right _ h)) (by decide +kernel))
set_option maxRecDepth 20000 in
theorem gX2_relieve_X2_requireWithin : GoodIn wsX2_relieve (va_wsS RX2 30 yX2_requireWithin wsX2_requireWithin) := goodIn_app (goodIn_of _ (by decide +kernel)) ggX2_relieve_X2_requireWithin
set_option maxRecDepth 20000 in
theorem ggX2_relieve_X2_chosenFor : GoodIn wsX2_relieve wsX2_chosenFor := goodIn_r _ [14, 15, 16, 17, 18, 7, 19, 20, 3, 4, 21, 22, 23, 24, 25, 26, 27, 28, 29, 30, 31, 32, 33, 34, 35, 36, 37, 38, 39, 40, 41, 42, 43, 44, 45, 46, 47, 48, 49, 50, 51, 52, 53, 54, 55, 56, 57, 58, 59, 60, 61, 62, 63, 64, 65, 66, 67, 68, 69, 70, 71, 72, 73, 74, 75, 76, 77, 78, 79, 80, 81, 82, 83, 84, 85, 86, 87, 88, 89, 98, 99, 100, 101, 102, 103, 104, 105, 106, 107, 108, 109, 110, 111, 112, 113, 114, 115, 116, 117, 118, 119, 120, 121] (by decide +kernel) (by decide +kernel)
set_option maxRecDepth 20000 in
theorem gX2_relieve_X2_chosenFor : GoodIn wsX2_relieve (wsV RX2 73 RX2 yX2_chosenFor wsX2_chosenFor) := goodIn_app (goodIn_of _ (by decide +kernel)) ggX2_relieve_X2_chosenFor
set_option maxRecDepth 20000 in
theorem ggX2_relieve_Jx4a65c_size_8abf5 : GoodIn wsX2_relieve wsJx4a65c_size_8abf5 := goodIn_r _ [33, 34, 119, 120, 121] (by decide +kernel) (by decide +kernel)
set_option maxRecDepth 20000 in
theorem gX2_relieve_Jx4a65c_size_8abf5 : GoodIn wsX2_relieve (wsV RX2 34 RJx4a65c yJx4a65c_size_8abf5 wsJx4a65c_size_8abf5) := goodIn_app (goodIn_of _ (by decide +kernel)) ggX2_relieve_Jx4a65c_size_8abf5
set_option maxRecDepth 20000 in
theorem ggX2_relieve_X2_holds : GoodIn wsX2_relieve wsX2_holds := goodIn_r _ [92] (by decide +kernel) (by decide +kernel)
set_option maxRecDepth 20000 in
theorem gX2_relieve_X2_holds : GoodIn wsX2_relieve (va_wsS RX2 82 yX2_holds wsX2_holds) := goodIn_app (goodIn_of _ (by decide +kernel)) ggX2_relieve_X2_holds
set_option maxRecDepth 20000 in
theorem ggX2_relieve_Jx4a65c_get_915e3 : GoodIn wsX2_relieve wsJx4a65c_get_915e3 := goodIn_r _ [38, 34, 39, 40, 41, 42, 43, 44, 45, 46, 47, 48, 49, 32, 50, 51, 119, 120, 121] (by decide +kernel) (by decide +kernel)
set_option maxRecDepth 20000 in
theorem gX2_relieve_Jx4a65c_get_915e3 : GoodIn wsX2_relieve (wsV RX2 65 RJx4a65c yJx4a65c_get_915e3 wsJx4a65c_get_915e3) := goodIn_app (goodIn_of _ (by decide +kernel)) ggX2_relieve_Jx4a65c_get_915e3
set_option maxRecDepth 20000 in
theorem ggX2_relieve_X0_switchOff : GoodIn wsX2_relieve wsX0_switchOff := goodIn_r _ [95, 56, 96, 61, 97, 58, 59, 53, 60, 62, 63, 64, 65, 66, 102, 103, 104, 105, 106, 107, 108] (by decide +kernel) (by decide +kernel)
set_option maxRecDepth 20000 in
theorem gX2_relieve_X0_switchOff_n86 : GoodIn wsX2_relieve (wsX0_switchOff) := ggX2_relieve_X0_switchOff
theorem dX2_relieve_0 : decode cX2_relieve 0 = .ok (.iload_n 1, 1) := by decide +kernel
theorem dX2_relieve_1 : decode cX2_relieve 1 = .ok (.iconst 1, 1) := by decide +kernel
theorem dX2_relieve_2 : decode cX2_relieve 2 = .ok (.sipush 20000, 3) := by decide +kernel
theorem dX2_relieve_5 : decode cX2_relieve 5 = .ok (.invokestatic 30, 3) := by decide +kernel
theorem dX2_relieve_8 : decode cX2_relieve 8 = .ok (.aload_n 0, 1) := by decide +kernel
theorem dX2_relieve_9 : decode cX2_relieve 9 = .ok (.iload_n 1, 1) := by decide +kernel
theorem dX2_relieve_10 : decode cX2_relieve 10 = .ok (.invokevirtual 73, 3) := by decide +kernel
theorem dX2_relieve_13 : decode cX2_relieve 13 = .ok (.istore_n 2, 1) := by decide +kernel
theorem dX2_relieve_14 : decode cX2_relieve 14 = .ok (.iload_n 2, 1) := by decide +kernel
theorem dX2_relieve_15 : decode cX2_relieve 15 = .ok (.ifCond .ne 13, 3) := by decide +kernel
theorem dX2_relieve_18 : decode cX2_relieve 18 = .ok (.new 77, 3) := by decide +kernel
theorem dX2_relieve_21 : decode cX2_relieve 21 = .ok (.dup, 1) := by decide +kernel
theorem dX2_relieve_22 : decode cX2_relieve 22 = .ok (.ldc 79, 2) := by decide +kernel
theorem dX2_relieve_24 : decode cX2_relieve 24 = .ok (.invokespecial 81, 3) := by decide +kernel
theorem dX2_relieve_27 : decode cX2_relieve 27 = .ok (.athrow, 1) := by decide +kernel
theorem dX2_relieve_28 : decode cX2_relieve 28 = .ok (.iconst 0, 1) := by decide +kernel
theorem dX2_relieve_29 : decode cX2_relieve 29 = .ok (.istore_n 3, 1) := by decide +kernel
theorem dX2_relieve_30 : decode cX2_relieve 30 = .ok (.iconst 0, 1) := by decide +kernel
theorem dX2_relieve_31 : decode cX2_relieve 31 = .ok (.istore 4, 2) := by decide +kernel
theorem dX2_relieve_33 : decode cX2_relieve 33 = .ok (.iload 4, 2) := by decide +kernel
theorem dX2_relieve_35 : decode cX2_relieve 35 = .ok (.aload_n 0, 1) := by decide +kernel
theorem dX2_relieve_36 : decode cX2_relieve 36 = .ok (.getfield 10, 3) := by decide +kernel
theorem dX2_relieve_39 : decode cX2_relieve 39 = .ok (.invokevirtual 34, 3) := by decide +kernel
theorem dX2_relieve_42 : decode cX2_relieve 42 = .ok (.if_icmp .ge 36, 3) := by decide +kernel
theorem dX2_relieve_45 : decode cX2_relieve 45 = .ok (.iload_n 2, 1) := by decide +kernel
theorem dX2_relieve_46 : decode cX2_relieve 46 = .ok (.iload 4, 2) := by decide +kernel
theorem dX2_relieve_48 : decode cX2_relieve 48 = .ok (.invokestatic 82, 3) := by decide +kernel
theorem dX2_relieve_51 : decode cX2_relieve 51 = .ok (.ifCond .eq 21, 3) := by decide +kernel
theorem dX2_relieve_54 : decode cX2_relieve 54 = .ok (.iload_n 3, 1) := by decide +kernel
theorem dX2_relieve_55 : decode cX2_relieve 55 = .ok (.aload_n 0, 1) := by decide +kernel
theorem dX2_relieve_56 : decode cX2_relieve 56 = .ok (.getfield 10, 3) := by decide +kernel
theorem dX2_relieve_59 : decode cX2_relieve 59 = .ok (.iload 4, 2) := by decide +kernel
theorem dX2_relieve_61 : decode cX2_relieve 61 = .ok (.invokevirtual 65, 3) := by decide +kernel
theorem dX2_relieve_64 : decode cX2_relieve 64 = .ok (.checkcast 45, 3) := by decide +kernel
theorem dX2_relieve_67 : decode cX2_relieve 67 = .ok (.invokevirtual 86, 3) := by decide +kernel
theorem dX2_relieve_70 : decode cX2_relieve 70 = .ok (.iadd, 1) := by decide +kernel
theorem dX2_relieve_71 : decode cX2_relieve 71 = .ok (.istore_n 3, 1) := by decide +kernel
theorem dX2_relieve_72 : decode cX2_relieve 72 = .ok (.iinc 4 1, 3) := by decide +kernel
theorem dX2_relieve_75 : decode cX2_relieve 75 = .ok (.goto (-42), 3) := by decide +kernel
theorem dX2_relieve_78 : decode cX2_relieve 78 = .ok (.iload_n 3, 1) := by decide +kernel
theorem dX2_relieve_79 : decode cX2_relieve 79 = .ok (.ireturn, 1) := by decide +kernel
set_option maxRecDepth 20000 in
theorem ggX2_rotate_X2_takenByReturning : GoodIn wsX2_rotate wsX2_takenByReturning := goodIn_r _ [9, 10, 11, 12, 13, 14, 15, 16, 17, 18, 19, 20, 21, 22, 23, 24, 25, 26, 27, 28, 29, 30, 31, 32, 33, 34, 35, 36, 37, 38, 39, 40, 41, 42, 43, 44, 45, 46, 47, 48, 49, 50, 51, 52, 53, 54, 55, 56, 57, 58, 59, 60, 61, 62, 120, 121, 122, 123, 124, 125, 126, 127, 128, 129, 130, 131, 132, 133] (by decide +kernel) (by decide +kernel)
set_option maxRecDepth 20000 in
theorem gX2_rotate_X2_takenByReturning : GoodIn wsX2_rotate (wsV RX2 89 RX2 yX2_takenByReturning wsX2_takenByReturning) := goodIn_app (goodIn_of _ (by decide +kernel)) ggX2_rotate_X2_takenByReturning
set_option maxRecDepth 20000 in
theorem ggX2_rotate_X2_chosenFor : GoodIn wsX2_rotate wsX2_chosenFor := goodIn_r _ [66, 67, 68, 69, 70, 8, 71, 72, 10, 11, 73, 74, 75, 76, 77, 78, 79, 80, 12, 13, 14, 15, 16, 17, 18, 19, 20, 21, 22, 23, 24, 25, 26, 27, 28, 29, 30, 31, 32, 33, 34, 81, 36, 82, 83, 39, 40, 59, 60, 61, 62, 53, 54, 55, 56, 57, 84, 85, 86, 87, 88, 89, 90, 91, 92, 93, 94, 95, 96, 97, 98, 99, 100, 101, 102, 103, 104, 105, 106, 120, 121, 122, 123, 127, 128, 129, 130, 131, 132, 133, 134, 135, 136, 137, 138, 139, 140, 141, 142, 143, 124, 125, 126] (by decide +kernel) (by decide +kernel)
set_option maxRecDepth 20000 in
theorem gX2_rotate_X2_chosenFor : GoodIn wsX2_rotate (wsV RX2 73 RX2 yX2_chosenFor wsX2_chosenFor) := goodIn_app (goodIn_of _ (by decide +kernel)) ggX2_rotate_X2_chosenFor
set_option maxRecDepth 20000 in
theorem ggX2_rotate_X2_swapFor : GoodIn wsX2_rotate wsX2_swapFor := goodIn_r _ [110, 10, 11, 12, 13, 14, 15, 16, 17, 18, 19, 20, 21, 22, 23, 24, 25, 26, 27, 28, 29, 30, 31, 32, 33, 34, 35, 36, 37, 38, 39, 40, 111, 112, 113, 62, 44, 45, 46, 47, 48, 49, 50, 51, 52, 114, 115, 8, 116, 117, 118, 119, 58, 59, 60, 61, 53, 54, 55, 56, 57, 120, 121, 122, 123, 124, 125, 126, 127, 128, 129, 130, 131, 132, 133] (by decide +kernel) (by decide +kernel)
set_option maxRecDepth 20000 in
theorem gX2_rotate_X2_swapFor : GoodIn wsX2_rotate (wsV RX2 94 RX2 yX2_swapFor wsX2_swapFor) := goodIn_app (goodIn_of _ (by decide +kernel)) ggX2_rotate_X2_swapFor
theorem dX2_rotate_0 : decode cX2_rotate 0 = .ok (.aload_n 0, 1) := by decide +kernel
theorem dX2_rotate_1 : decode cX2_rotate 1 = .ok (.invokevirtual 89, 3) := by decide +kernel
theorem dX2_rotate_4 : decode cX2_rotate 4 = .ok (.istore_n 1, 1) := by decide +kernel
theorem dX2_rotate_5 : decode cX2_rotate 5 = .ok (.iload_n 1, 1) := by decide +kernel
theorem dX2_rotate_6 : decode cX2_rotate 6 = .ok (.ifCond .ne 13, 3) := by decide +kernel
theorem dX2_rotate_9 : decode cX2_rotate 9 = .ok (.new 38, 3) := by decide +kernel
theorem dX2_rotate_12 : decode cX2_rotate 12 = .ok (.dup, 1) := by decide +kernel
theorem dX2_rotate_13 : decode cX2_rotate 13 = .ok (.ldc 92, 2) := by decide +kernel
theorem dX2_rotate_15 : decode cX2_rotate 15 = .ok (.invokespecial 42, 3) := by decide +kernel
theorem dX2_rotate_18 : decode cX2_rotate 18 = .ok (.athrow, 1) := by decide +kernel
theorem dX2_rotate_19 : decode cX2_rotate 19 = .ok (.aload_n 0, 1) := by decide +kernel
theorem dX2_rotate_20 : decode cX2_rotate 20 = .ok (.iload_n 1, 1) := by decide +kernel
theorem dX2_rotate_21 : decode cX2_rotate 21 = .ok (.invokevirtual 73, 3) := by decide +kernel
theorem dX2_rotate_24 : decode cX2_rotate 24 = .ok (.istore_n 2, 1) := by decide +kernel
theorem dX2_rotate_25 : decode cX2_rotate 25 = .ok (.iload_n 2, 1) := by decide +kernel
theorem dX2_rotate_26 : decode cX2_rotate 26 = .ok (.ifCond .ne 13, 3) := by decide +kernel
theorem dX2_rotate_29 : decode cX2_rotate 29 = .ok (.new 77, 3) := by decide +kernel
theorem dX2_rotate_32 : decode cX2_rotate 32 = .ok (.dup, 1) := by decide +kernel
theorem dX2_rotate_33 : decode cX2_rotate 33 = .ok (.ldc 79, 2) := by decide +kernel
theorem dX2_rotate_35 : decode cX2_rotate 35 = .ok (.invokespecial 81, 3) := by decide +kernel
theorem dX2_rotate_38 : decode cX2_rotate 38 = .ok (.athrow, 1) := by decide +kernel
theorem dX2_rotate_39 : decode cX2_rotate 39 = .ok (.aload_n 0, 1) := by decide +kernel
theorem dX2_rotate_40 : decode cX2_rotate 40 = .ok (.iload_n 2, 1) := by decide +kernel
theorem dX2_rotate_41 : decode cX2_rotate 41 = .ok (.invokevirtual 94, 3) := by decide +kernel
theorem dX2_rotate_44 : decode cX2_rotate 44 = .ok (.ireturn, 1) := by decide +kernel
set_option maxRecDepth 20000 in
theorem ggX2_restore_X2_feederOf : GoodIn wsX2_restore wsX2_feederOf := goodIn_ca (goodIn_r _ [7, 8, 9, 10, 11, 12, 13, 14, 15, 16, 17, 18, 19, 20, 21, 22, 23, 24, 25, 26, 27, 28, 29, 30, 31, 32, 33, 34, 65, 66, 67, 68, 69, 70, 71] (by decide +kernel) (by decide +kernel)) (goodIn_sub (fun _ h => List.mem_cons_of_mem _ (List.mem_append_right _ h)) (by decide +kernel))
set_option maxRecDepth 20000 in
theorem gX2_restore_X2_feederOf : GoodIn wsX2_restore (wsV RX2 54 RX2 yX2_feederOf wsX2_feederOf) := goodIn_app (goodIn_of _ (by decide +kernel)) ggX2_restore_X2_feederOf
set_option maxRecDepth 20000 in
theorem ggX2_restore_X0_switchOn : GoodIn wsX2_restore wsX0_switchOn := goodIn_r _ [38, 39, 40, 41, 42, 43, 36, 44, 45, 46, 47, 48, 49, 58, 59, 60, 61, 62, 63, 64] (by decide +kernel) (by decide +kernel)
set_option maxRecDepth 20000 in
theorem gX2_restore_X0_switchOn_n109 : GoodIn wsX2_restore (wsX0_switchOn) := ggX2_restore_X0_switchOn
set_option maxRecDepth 20000 in
theorem ggX2_restore_X0_taken : GoodIn wsX2_restore wsX0_taken := goodIn_r _ [52, 40, 39, 53, 54, 55, 36, 56, 57, 58, 59, 60, 61, 62, 63, 64] (by decide +kernel) (by decide +kernel)
set_option maxRecDepth 20000 in
theorem gX2_restore_X0_taken_n112 : GoodIn wsX2_restore (wsX0_taken) := ggX2_restore_X0_taken
theorem dX2_restore_0 : decode cX2_restore 0 = .ok (.aload_n 0, 1) := by decide +kernel
theorem dX2_restore_1 : decode cX2_restore 1 = .ok (.iload_n 1, 1) := by decide +kernel
theorem dX2_restore_2 : decode cX2_restore 2 = .ok (.invokevirtual 54, 3) := by decide +kernel
theorem dX2_restore_5 : decode cX2_restore 5 = .ok (.astore_n 2, 1) := by decide +kernel
theorem dX2_restore_6 : decode cX2_restore 6 = .ok (.aload_n 2, 1) := by decide +kernel
theorem dX2_restore_7 : decode cX2_restore 7 = .ok (.getfield 104, 3) := by decide +kernel
theorem dX2_restore_10 : decode cX2_restore 10 = .ok (.ifCond .ne 13, 3) := by decide +kernel
theorem dX2_restore_13 : decode cX2_restore 13 = .ok (.new 38, 3) := by decide +kernel
theorem dX2_restore_16 : decode cX2_restore 16 = .ok (.dup, 1) := by decide +kernel
theorem dX2_restore_17 : decode cX2_restore 17 = .ok (.ldc 107, 2) := by decide +kernel
theorem dX2_restore_19 : decode cX2_restore 19 = .ok (.invokespecial 42, 3) := by decide +kernel
theorem dX2_restore_22 : decode cX2_restore 22 = .ok (.athrow, 1) := by decide +kernel
theorem dX2_restore_23 : decode cX2_restore 23 = .ok (.aload_n 2, 1) := by decide +kernel
theorem dX2_restore_24 : decode cX2_restore 24 = .ok (.invokevirtual 109, 3) := by decide +kernel
theorem dX2_restore_27 : decode cX2_restore 27 = .ok (.aload_n 2, 1) := by decide +kernel
theorem dX2_restore_28 : decode cX2_restore 28 = .ok (.invokevirtual 112, 3) := by decide +kernel
theorem dX2_restore_31 : decode cX2_restore 31 = .ok (.ireturn, 1) := by decide +kernel
theorem dX2_hour_0 : decode cX2_hour 0 = .ok (.aload_n 0, 1) := by decide +kernel
theorem dX2_hour_1 : decode cX2_hour 1 = .ok (.getfield 23, 3) := by decide +kernel
theorem dX2_hour_4 : decode cX2_hour 4 = .ok (.ireturn, 1) := by decide +kernel
set_option maxRecDepth 20000 in
theorem ggX2_feeders_Jx4a65c_size_8abf5 : GoodIn wsX2_feeders wsJx4a65c_size_8abf5 := goodIn_r _ [6, 7, 12, 13, 14] (by decide +kernel) (by decide +kernel)
set_option maxRecDepth 20000 in
theorem gX2_feeders_Jx4a65c_size_8abf5 : GoodIn wsX2_feeders (wsV RX2 34 RJx4a65c yJx4a65c_size_8abf5 wsJx4a65c_size_8abf5) := goodIn_app (goodIn_of _ (by decide +kernel)) ggX2_feeders_Jx4a65c_size_8abf5
theorem dX2_feeders_0 : decode cX2_feeders 0 = .ok (.aload_n 0, 1) := by decide +kernel
theorem dX2_feeders_1 : decode cX2_feeders 1 = .ok (.getfield 10, 3) := by decide +kernel
theorem dX2_feeders_4 : decode cX2_feeders 4 = .ok (.invokevirtual 34, 3) := by decide +kernel
theorem dX2_feeders_7 : decode cX2_feeders 7 = .ok (.ireturn, 1) := by decide +kernel
set_option maxRecDepth 20000 in
theorem ggX2_isCut_X2_feederOf : GoodIn wsX2_isCut wsX2_feederOf := goodIn_ca (goodIn_r _ [5, 6, 7, 8, 9, 10, 11, 12, 13, 14, 15, 16, 17, 18, 19, 20, 21, 22, 23, 24, 25, 26, 27, 28, 29, 30, 31, 32, 40, 41, 42, 43, 44, 45, 46] (by decide +kernel) (by decide +kernel)) (goodIn_sub (fun _ h => List.mem_cons_of_mem _ (List.mem_append_right _ h)) (by decide +kernel))
set_option maxRecDepth 20000 in
theorem gX2_isCut_X2_feederOf : GoodIn wsX2_isCut (wsV RX2 54 RX2 yX2_feederOf wsX2_feederOf) := goodIn_app (goodIn_of _ (by decide +kernel)) ggX2_isCut_X2_feederOf
theorem dX2_isCut_0 : decode cX2_isCut 0 = .ok (.aload_n 0, 1) := by decide +kernel
theorem dX2_isCut_1 : decode cX2_isCut 1 = .ok (.iload_n 1, 1) := by decide +kernel
theorem dX2_isCut_2 : decode cX2_isCut 2 = .ok (.invokevirtual 54, 3) := by decide +kernel
theorem dX2_isCut_5 : decode cX2_isCut 5 = .ok (.getfield 104, 3) := by decide +kernel
theorem dX2_isCut_8 : decode cX2_isCut 8 = .ok (.ireturn, 1) := by decide +kernel
set_option maxRecDepth 20000 in
theorem ggX2_takes_X2_feederOf : GoodIn wsX2_takes wsX2_feederOf := goodIn_ca (goodIn_r _ [5, 6, 7, 8, 9, 10, 11, 12, 13, 14, 15, 16, 17, 18, 19, 20, 21, 22, 23, 24, 25, 26, 27, 28, 29, 30, 31, 32, 44, 45, 46, 47, 48, 49, 50] (by decide +kernel) (by decide +kernel)) (goodIn_sub (fun _ h => List.mem_cons_of_mem _ (List.mem_append_right _ h)) (by decide +kernel))
set_option maxRecDepth 20000 in
theorem gX2_takes_X2_feederOf : GoodIn wsX2_takes (wsV RX2 54 RX2 yX2_feederOf wsX2_feederOf) := goodIn_app (goodIn_of _ (by decide +kernel)) ggX2_takes_X2_feederOf
set_option maxRecDepth 20000 in
theorem ggX2_takes_X0_taken : GoodIn wsX2_takes wsX0_taken := goodIn_r _ [36, 37, 38, 39, 40, 41, 34, 42, 43, 51, 52, 53, 54, 55, 56, 57] (by decide +kernel) (by decide +kernel)
set_option maxRecDepth 20000 in
theorem gX2_takes_X0_taken_n112 : GoodIn wsX2_takes (wsX0_taken) := ggX2_takes_X0_taken
theorem dX2_takes_0 : decode cX2_takes 0 = .ok (.aload_n 0, 1) := by decide +kernel
theorem dX2_takes_1 : decode cX2_takes 1 = .ok (.iload_n 1, 1) := by decide +kernel
theorem dX2_takes_2 : decode cX2_takes 2 = .ok (.invokevirtual 54, 3) := by decide +kernel
theorem dX2_takes_5 : decode cX2_takes 5 = .ok (.invokevirtual 112, 3) := by decide +kernel
theorem dX2_takes_8 : decode cX2_takes 8 = .ok (.ireturn, 1) := by decide +kernel
set_option maxRecDepth 20000 in
theorem ggX2_cold_X2_feederOf : GoodIn wsX2_cold wsX2_feederOf := goodIn_ca (goodIn_r _ [5, 6, 7, 8, 9, 10, 11, 12, 13, 14, 15, 16, 17, 18, 19, 20, 21, 22, 23, 24, 25, 26, 27, 28, 29, 30, 31, 32, 40, 41, 42, 43, 44, 45, 46] (by decide +kernel) (by decide +kernel)) (goodIn_sub (fun _ h => List.mem_cons_of_mem _ (List.mem_append_right _ h)) (by decide +kernel))
set_option maxRecDepth 20000 in
theorem gX2_cold_X2_feederOf : GoodIn wsX2_cold (wsV RX2 54 RX2 yX2_feederOf wsX2_feederOf) := goodIn_app (goodIn_of _ (by decide +kernel)) ggX2_cold_X2_feederOf
theorem dX2_cold_0 : decode cX2_cold 0 = .ok (.aload_n 0, 1) := by decide +kernel
theorem dX2_cold_1 : decode cX2_cold 1 = .ok (.iload_n 1, 1) := by decide +kernel
theorem dX2_cold_2 : decode cX2_cold 2 = .ok (.invokevirtual 54, 3) := by decide +kernel
theorem dX2_cold_5 : decode cX2_cold 5 = .ok (.getfield 117, 3) := by decide +kernel
theorem dX2_cold_8 : decode cX2_cold 8 = .ok (.ireturn, 1) := by decide +kernel
set_option maxRecDepth 20000 in
theorem ggX2_hours_X2_feederOf : GoodIn wsX2_hours wsX2_feederOf := goodIn_ca (goodIn_r _ [5, 6, 7, 8, 9, 10, 11, 12, 13, 14, 15, 16, 17, 18, 19, 20, 21, 22, 23, 24, 25, 26, 27, 28, 29, 30, 31, 32, 40, 41, 42, 43, 44, 45, 46] (by decide +kernel) (by decide +kernel)) (goodIn_sub (fun _ h => List.mem_cons_of_mem _ (List.mem_append_right _ h)) (by decide +kernel))
set_option maxRecDepth 20000 in
theorem gX2_hours_X2_feederOf : GoodIn wsX2_hours (wsV RX2 54 RX2 yX2_feederOf wsX2_feederOf) := goodIn_app (goodIn_of _ (by decide +kernel)) ggX2_hours_X2_feederOf
theorem dX2_hours_0 : decode cX2_hours 0 = .ok (.aload_n 0, 1) := by decide +kernel
theorem dX2_hours_1 : decode cX2_hours 1 = .ok (.iload_n 1, 1) := by decide +kernel
theorem dX2_hours_2 : decode cX2_hours 2 = .ok (.invokevirtual 54, 3) := by decide +kernel
theorem dX2_hours_5 : decode cX2_hours 5 = .ok (.getfield 120, 3) := by decide +kernel
theorem dX2_hours_8 : decode cX2_hours 8 = .ok (.ireturn, 1) := by decide +kernel
set_option maxRecDepth 20000 in
theorem ggX2_load_Jx4a65c_size_8abf5 : GoodIn wsX2_load wsJx4a65c_size_8abf5 := goodIn_r _ [7, 8, 41, 42, 43] (by decide +kernel) (by decide +kernel)
set_option maxRecDepth 20000 in
theorem gX2_load_Jx4a65c_size_8abf5 : GoodIn wsX2_load (wsV RX2 34 RJx4a65c yJx4a65c_size_8abf5 wsJx4a65c_size_8abf5) := goodIn_app (goodIn_of _ (by decide +kernel)) ggX2_load_Jx4a65c_size_8abf5
set_option maxRecDepth 20000 in
theorem ggX2_load_Jx4a65c_get_915e3 : GoodIn wsX2_load wsJx4a65c_get_915e3 := goodIn_r _ [12, 8, 13, 14, 15, 16, 17, 18, 19, 20, 21, 22, 23, 6, 24, 25, 41, 42, 43] (by decide +kernel) (by decide +kernel)
set_option maxRecDepth 20000 in
theorem gX2_load_Jx4a65c_get_915e3 : GoodIn wsX2_load (wsV RX2 65 RJx4a65c yJx4a65c_get_915e3 wsJx4a65c_get_915e3) := goodIn_app (goodIn_of _ (by decide +kernel)) ggX2_load_Jx4a65c_get_915e3
set_option maxRecDepth 20000 in
theorem ggX2_load_X0_taken : GoodIn wsX2_load wsX0_taken := goodIn_r _ [29, 30, 31, 32, 33, 34, 27, 35, 36, 44, 45, 46, 47, 48, 49, 50] (by decide +kernel) (by decide +kernel)
set_option maxRecDepth 20000 in
theorem gX2_load_X0_taken_n112 : GoodIn wsX2_load (wsX0_taken) := ggX2_load_X0_taken
theorem dX2_load_0 : decode cX2_load 0 = .ok (.iconst 0, 1) := by decide +kernel
theorem dX2_load_1 : decode cX2_load 1 = .ok (.istore_n 1, 1) := by decide +kernel
theorem dX2_load_2 : decode cX2_load 2 = .ok (.iconst 0, 1) := by decide +kernel
theorem dX2_load_3 : decode cX2_load 3 = .ok (.istore_n 2, 1) := by decide +kernel
theorem dX2_load_4 : decode cX2_load 4 = .ok (.iload_n 2, 1) := by decide +kernel
theorem dX2_load_5 : decode cX2_load 5 = .ok (.aload_n 0, 1) := by decide +kernel
theorem dX2_load_6 : decode cX2_load 6 = .ok (.getfield 10, 3) := by decide +kernel
theorem dX2_load_9 : decode cX2_load 9 = .ok (.invokevirtual 34, 3) := by decide +kernel
theorem dX2_load_12 : decode cX2_load 12 = .ok (.if_icmp .ge 26, 3) := by decide +kernel
theorem dX2_load_15 : decode cX2_load 15 = .ok (.iload_n 1, 1) := by decide +kernel
theorem dX2_load_16 : decode cX2_load 16 = .ok (.aload_n 0, 1) := by decide +kernel
theorem dX2_load_17 : decode cX2_load 17 = .ok (.getfield 10, 3) := by decide +kernel
theorem dX2_load_20 : decode cX2_load 20 = .ok (.iload_n 2, 1) := by decide +kernel
theorem dX2_load_21 : decode cX2_load 21 = .ok (.invokevirtual 65, 3) := by decide +kernel
theorem dX2_load_24 : decode cX2_load 24 = .ok (.checkcast 45, 3) := by decide +kernel
theorem dX2_load_27 : decode cX2_load 27 = .ok (.invokevirtual 112, 3) := by decide +kernel
theorem dX2_load_30 : decode cX2_load 30 = .ok (.iadd, 1) := by decide +kernel
theorem dX2_load_31 : decode cX2_load 31 = .ok (.istore_n 1, 1) := by decide +kernel
theorem dX2_load_32 : decode cX2_load 32 = .ok (.iinc 2 1, 3) := by decide +kernel
theorem dX2_load_35 : decode cX2_load 35 = .ok (.goto (-31), 3) := by decide +kernel
theorem dX2_load_38 : decode cX2_load 38 = .ok (.iload_n 1, 1) := by decide +kernel
theorem dX2_load_39 : decode cX2_load 39 = .ok (.ireturn, 1) := by decide +kernel
set_option maxRecDepth 20000 in
theorem ggX2_choice_X2_requireWithin : GoodIn wsX2_choice wsX2_requireWithin := goodIn_ca (goodIn_r _ [4, 5, 6] (by decide +kernel) (by decide +kernel)) (goodIn_sub (fun _ h => List.mem_cons_of_mem _ (List.mem_append_right _ h)) (by decide +kernel))
set_option maxRecDepth 20000 in
theorem gX2_choice_X2_requireWithin : GoodIn wsX2_choice (va_wsS RX2 30 yX2_requireWithin wsX2_requireWithin) := goodIn_app (goodIn_of _ (by decide +kernel)) ggX2_choice_X2_requireWithin
set_option maxRecDepth 20000 in
theorem ggX2_choice_X2_chosenFor : GoodIn wsX2_choice wsX2_chosenFor := goodIn_r _ [10, 11, 12, 13, 14, 3, 15, 16, 17, 18, 19, 20, 21, 22, 23, 24, 25, 26, 27, 28, 29, 30, 31, 32, 33, 34, 35, 36, 37, 38, 39, 40, 41, 42, 43, 44, 45, 46, 47, 48, 49, 50, 51, 52, 53, 54, 55, 56, 57, 58, 59, 60, 61, 62, 63, 64, 65, 66, 67, 68, 69, 70, 71, 72, 73, 74, 75, 76, 77, 78, 79, 80, 81, 82, 83, 84, 85, 86, 87, 88, 89, 90, 91, 92, 93, 94, 95, 96, 97, 98, 99, 100, 101, 102, 103, 104, 105, 106, 107, 108, 109, 110, 111] (by decide +kernel) (by decide +kernel)
set_option maxRecDepth 20000 in
theorem gX2_choice_X2_chosenFor : GoodIn wsX2_choice (wsV RX2 73 RX2 yX2_chosenFor wsX2_chosenFor) := goodIn_app (goodIn_of _ (by decide +kernel)) ggX2_choice_X2_chosenFor
theorem dX2_choice_0 : decode cX2_choice 0 = .ok (.iload_n 1, 1) := by decide +kernel
theorem dX2_choice_1 : decode cX2_choice 1 = .ok (.iconst 1, 1) := by decide +kernel
theorem dX2_choice_2 : decode cX2_choice 2 = .ok (.sipush 20000, 3) := by decide +kernel
theorem dX2_choice_5 : decode cX2_choice 5 = .ok (.invokestatic 30, 3) := by decide +kernel
theorem dX2_choice_8 : decode cX2_choice 8 = .ok (.aload_n 0, 1) := by decide +kernel
theorem dX2_choice_9 : decode cX2_choice 9 = .ok (.iload_n 1, 1) := by decide +kernel
theorem dX2_choice_10 : decode cX2_choice 10 = .ok (.invokevirtual 73, 3) := by decide +kernel
theorem dX2_choice_13 : decode cX2_choice 13 = .ok (.ireturn, 1) := by decide +kernel
set_option maxRecDepth 20000 in
theorem ggX2_loadRestored_Jx4a65c_size_8abf5 : GoodIn wsX2_loadRestored wsJx4a65c_size_8abf5 := goodIn_r _ [7, 8, 54, 55, 56] (by decide +kernel) (by decide +kernel)
set_option maxRecDepth 20000 in
theorem gX2_loadRestored_Jx4a65c_size_8abf5 : GoodIn wsX2_loadRestored (wsV RX2 34 RJx4a65c yJx4a65c_size_8abf5 wsJx4a65c_size_8abf5) := goodIn_app (goodIn_of _ (by decide +kernel)) ggX2_loadRestored_Jx4a65c_size_8abf5
set_option maxRecDepth 20000 in
theorem ggX2_loadRestored_Jx4a65c_get_915e3 : GoodIn wsX2_loadRestored wsJx4a65c_get_915e3 := goodIn_r _ [12, 8, 13, 14, 15, 16, 17, 18, 19, 20, 21, 22, 23, 6, 24, 25, 54, 55, 56] (by decide +kernel) (by decide +kernel)
set_option maxRecDepth 20000 in
theorem gX2_loadRestored_Jx4a65c_get_915e3 : GoodIn wsX2_loadRestored (wsV RX2 65 RJx4a65c yJx4a65c_get_915e3 wsJx4a65c_get_915e3) := goodIn_app (goodIn_of _ (by decide +kernel)) ggX2_loadRestored_Jx4a65c_get_915e3
set_option maxRecDepth 20000 in
theorem ggX2_loadRestored_X0_takenIfRestored : GoodIn wsX2_loadRestored wsX0_takenIfRestored := goodIn_r _ [29, 30, 31, 32, 33, 27, 34, 35, 36, 37, 38, 39, 40, 41, 42, 43, 44, 45, 46, 47, 48, 49, 57, 58, 59, 60, 61, 62, 63] (by decide +kernel) (by decide +kernel)
set_option maxRecDepth 20000 in
theorem gX2_loadRestored_X0_takenIfRestored_n143 : GoodIn wsX2_loadRestored (wsX0_takenIfRestored) := ggX2_loadRestored_X0_takenIfRestored
theorem dX2_loadRestored_0 : decode cX2_loadRestored 0 = .ok (.iconst 0, 1) := by decide +kernel
theorem dX2_loadRestored_1 : decode cX2_loadRestored 1 = .ok (.istore_n 1, 1) := by decide +kernel
theorem dX2_loadRestored_2 : decode cX2_loadRestored 2 = .ok (.iconst 0, 1) := by decide +kernel
theorem dX2_loadRestored_3 : decode cX2_loadRestored 3 = .ok (.istore_n 2, 1) := by decide +kernel
theorem dX2_loadRestored_4 : decode cX2_loadRestored 4 = .ok (.iload_n 2, 1) := by decide +kernel
theorem dX2_loadRestored_5 : decode cX2_loadRestored 5 = .ok (.aload_n 0, 1) := by decide +kernel
theorem dX2_loadRestored_6 : decode cX2_loadRestored 6 = .ok (.getfield 10, 3) := by decide +kernel
theorem dX2_loadRestored_9 : decode cX2_loadRestored 9 = .ok (.invokevirtual 34, 3) := by decide +kernel
theorem dX2_loadRestored_12 : decode cX2_loadRestored 12 = .ok (.if_icmp .ge 26, 3) := by decide +kernel
theorem dX2_loadRestored_15 : decode cX2_loadRestored 15 = .ok (.iload_n 1, 1) := by decide +kernel
theorem dX2_loadRestored_16 : decode cX2_loadRestored 16 = .ok (.aload_n 0, 1) := by decide +kernel
theorem dX2_loadRestored_17 : decode cX2_loadRestored 17 = .ok (.getfield 10, 3) := by decide +kernel
theorem dX2_loadRestored_20 : decode cX2_loadRestored 20 = .ok (.iload_n 2, 1) := by decide +kernel
theorem dX2_loadRestored_21 : decode cX2_loadRestored 21 = .ok (.invokevirtual 65, 3) := by decide +kernel
theorem dX2_loadRestored_24 : decode cX2_loadRestored 24 = .ok (.checkcast 45, 3) := by decide +kernel
theorem dX2_loadRestored_27 : decode cX2_loadRestored 27 = .ok (.invokevirtual 143, 3) := by decide +kernel
theorem dX2_loadRestored_30 : decode cX2_loadRestored 30 = .ok (.iadd, 1) := by decide +kernel
theorem dX2_loadRestored_31 : decode cX2_loadRestored 31 = .ok (.istore_n 1, 1) := by decide +kernel
theorem dX2_loadRestored_32 : decode cX2_loadRestored 32 = .ok (.iinc 2 1, 3) := by decide +kernel
theorem dX2_loadRestored_35 : decode cX2_loadRestored 35 = .ok (.goto (-31), 3) := by decide +kernel
theorem dX2_loadRestored_38 : decode cX2_loadRestored 38 = .ok (.iload_n 1, 1) := by decide +kernel
theorem dX2_loadRestored_39 : decode cX2_loadRestored 39 = .ok (.ireturn, 1) := by decide +kernel
theorem dX2_requireWithin_0 : decode cX2_requireWithin 0 = .ok (.iload_n 0, 1) := by decide +kernel
theorem dX2_requireWithin_1 : decode cX2_requireWithin 1 = .ok (.iload_n 1, 1) := by decide +kernel
theorem dX2_requireWithin_2 : decode cX2_requireWithin 2 = .ok (.if_icmp .lt 8, 3) := by decide +kernel
theorem dX2_requireWithin_5 : decode cX2_requireWithin 5 = .ok (.iload_n 0, 1) := by decide +kernel
theorem dX2_requireWithin_6 : decode cX2_requireWithin 6 = .ok (.iload_n 2, 1) := by decide +kernel
theorem dX2_requireWithin_7 : decode cX2_requireWithin 7 = .ok (.if_icmp .le 13, 3) := by decide +kernel
theorem dX2_requireWithin_10 : decode cX2_requireWithin 10 = .ok (.new 146, 3) := by decide +kernel
theorem dX2_requireWithin_13 : decode cX2_requireWithin 13 = .ok (.dup, 1) := by decide +kernel
theorem dX2_requireWithin_14 : decode cX2_requireWithin 14 = .ok (.ldc 148, 2) := by decide +kernel
theorem dX2_requireWithin_16 : decode cX2_requireWithin 16 = .ok (.invokespecial 150, 3) := by decide +kernel
theorem dX2_requireWithin_19 : decode cX2_requireWithin 19 = .ok (.athrow, 1) := by decide +kernel
theorem dX2_requireWithin_20 : decode cX2_requireWithin 20 = .ok (.return_, 1) := by decide +kernel
set_option maxRecDepth 20000 in
theorem ggX2_feederOf_Jx4a65c_size_8abf5 : GoodIn wsX2_feederOf wsJx4a65c_size_8abf5 := goodIn_r _ [9, 10, 32, 33, 34] (by decide +kernel) (by decide +kernel)
set_option maxRecDepth 20000 in
theorem gX2_feederOf_Jx4a65c_size_8abf5 : GoodIn wsX2_feederOf (wsV RX2 34 RJx4a65c yJx4a65c_size_8abf5 wsJx4a65c_size_8abf5) := goodIn_app (goodIn_of _ (by decide +kernel)) ggX2_feederOf_Jx4a65c_size_8abf5
set_option maxRecDepth 20000 in
theorem ggX2_feederOf_Jx4a65c_get_915e3 : GoodIn wsX2_feederOf wsJx4a65c_get_915e3 := goodIn_r _ [14, 10, 15, 16, 17, 18, 19, 20, 21, 22, 23, 24, 25, 8, 26, 27, 32, 33, 34] (by decide +kernel) (by decide +kernel)
set_option maxRecDepth 20000 in
theorem gX2_feederOf_Jx4a65c_get_915e3 : GoodIn wsX2_feederOf (wsV RX2 65 RJx4a65c yJx4a65c_get_915e3 wsJx4a65c_get_915e3) := goodIn_app (goodIn_of _ (by decide +kernel)) ggX2_feederOf_Jx4a65c_get_915e3
theorem dX2_feederOf_0 : decode cX2_feederOf 0 = .ok (.iload_n 1, 1) := by decide +kernel
theorem dX2_feederOf_1 : decode cX2_feederOf 1 = .ok (.ifCond .lt 14, 3) := by decide +kernel
theorem dX2_feederOf_4 : decode cX2_feederOf 4 = .ok (.iload_n 1, 1) := by decide +kernel
theorem dX2_feederOf_5 : decode cX2_feederOf 5 = .ok (.aload_n 0, 1) := by decide +kernel
theorem dX2_feederOf_6 : decode cX2_feederOf 6 = .ok (.getfield 10, 3) := by decide +kernel
theorem dX2_feederOf_9 : decode cX2_feederOf 9 = .ok (.invokevirtual 34, 3) := by decide +kernel
theorem dX2_feederOf_12 : decode cX2_feederOf 12 = .ok (.if_icmp .lt 13, 3) := by decide +kernel
theorem dX2_feederOf_15 : decode cX2_feederOf 15 = .ok (.new 151, 3) := by decide +kernel
theorem dX2_feederOf_18 : decode cX2_feederOf 18 = .ok (.dup, 1) := by decide +kernel
theorem dX2_feederOf_19 : decode cX2_feederOf 19 = .ok (.ldc 153, 2) := by decide +kernel
theorem dX2_feederOf_21 : decode cX2_feederOf 21 = .ok (.invokespecial 155, 3) := by decide +kernel
theorem dX2_feederOf_24 : decode cX2_feederOf 24 = .ok (.athrow, 1) := by decide +kernel
theorem dX2_feederOf_25 : decode cX2_feederOf 25 = .ok (.aload_n 0, 1) := by decide +kernel
theorem dX2_feederOf_26 : decode cX2_feederOf 26 = .ok (.getfield 10, 3) := by decide +kernel
theorem dX2_feederOf_29 : decode cX2_feederOf 29 = .ok (.iload_n 1, 1) := by decide +kernel
theorem dX2_feederOf_30 : decode cX2_feederOf 30 = .ok (.invokevirtual 65, 3) := by decide +kernel
theorem dX2_feederOf_33 : decode cX2_feederOf 33 = .ok (.checkcast 45, 3) := by decide +kernel
theorem dX2_feederOf_36 : decode cX2_feederOf 36 = .ok (.areturn, 1) := by decide +kernel
theorem dX2_holds_0 : decode cX2_holds 0 = .ok (.iload_n 0, 1) := by decide +kernel
theorem dX2_holds_1 : decode cX2_holds 1 = .ok (.iload_n 1, 1) := by decide +kernel
theorem dX2_holds_2 : decode cX2_holds 2 = .ok (.ishr, 1) := by decide +kernel
theorem dX2_holds_3 : decode cX2_holds 3 = .ok (.iconst 1, 1) := by decide +kernel
theorem dX2_holds_4 : decode cX2_holds 4 = .ok (.iand, 1) := by decide +kernel
theorem dX2_holds_5 : decode cX2_holds 5 = .ok (.ifCond .eq 7, 3) := by decide +kernel
theorem dX2_holds_8 : decode cX2_holds 8 = .ok (.iconst 1, 1) := by decide +kernel
theorem dX2_holds_9 : decode cX2_holds 9 = .ok (.goto 4, 3) := by decide +kernel
theorem dX2_holds_12 : decode cX2_holds 12 = .ok (.iconst 0, 1) := by decide +kernel
theorem dX2_holds_13 : decode cX2_holds 13 = .ok (.ireturn, 1) := by decide +kernel
set_option maxRecDepth 20000 in
theorem ggX2_takenByReturning_Jx4a65c_size_8abf5 : GoodIn wsX2_takenByReturning wsJx4a65c_size_8abf5 := goodIn_r _ [7, 8, 58, 59, 60] (by decide +kernel) (by decide +kernel)
set_option maxRecDepth 20000 in
theorem gX2_takenByReturning_Jx4a65c_size_8abf5 : GoodIn wsX2_takenByReturning (wsV RX2 34 RJx4a65c yJx4a65c_size_8abf5 wsJx4a65c_size_8abf5) := goodIn_app (goodIn_of _ (by decide +kernel)) ggX2_takenByReturning_Jx4a65c_size_8abf5
set_option maxRecDepth 20000 in
theorem ggX2_takenByReturning_Jx4a65c_get_915e3 : GoodIn wsX2_takenByReturning wsJx4a65c_get_915e3 := goodIn_r _ [12, 8, 13, 14, 15, 16, 17, 18, 19, 20, 21, 22, 23, 6, 24, 25, 58, 59, 60] (by decide +kernel) (by decide +kernel)
set_option maxRecDepth 20000 in
theorem gX2_takenByReturning_Jx4a65c_get_915e3 : GoodIn wsX2_takenByReturning (wsV RX2 65 RJx4a65c yJx4a65c_get_915e3 wsJx4a65c_get_915e3) := goodIn_app (goodIn_of _ (by decide +kernel)) ggX2_takenByReturning_Jx4a65c_get_915e3
set_option maxRecDepth 20000 in
theorem ggX2_takenByReturning_X0_mayReturn : GoodIn wsX2_takenByReturning wsX0_mayReturn := goodIn_r _ [29, 30, 31, 61, 62, 63, 64, 65, 66, 67] (by decide +kernel) (by decide +kernel)
set_option maxRecDepth 20000 in
theorem gX2_takenByReturning_X0_mayReturn_n156 : GoodIn wsX2_takenByReturning (wsX0_mayReturn) := ggX2_takenByReturning_X0_mayReturn
set_option maxRecDepth 20000 in
theorem ggX2_takenByReturning_X0_takenIfRestored : GoodIn wsX2_takenByReturning wsX0_takenIfRestored := goodIn_r _ [34, 30, 35, 36, 37, 27, 38, 39, 40, 41, 42, 43, 44, 45, 46, 47, 48, 49, 50, 51, 52, 53, 61, 62, 63, 64, 65, 66, 67] (by decide +kernel) (by decide +kernel)
set_option maxRecDepth 20000 in
theorem gX2_takenByReturning_X0_takenIfRestored_n143 : GoodIn wsX2_takenByReturning (wsX0_takenIfRestored) := ggX2_takenByReturning_X0_takenIfRestored
theorem dX2_takenByReturning_0 : decode cX2_takenByReturning 0 = .ok (.iconst 0, 1) := by decide +kernel
theorem dX2_takenByReturning_1 : decode cX2_takenByReturning 1 = .ok (.istore_n 1, 1) := by decide +kernel
theorem dX2_takenByReturning_2 : decode cX2_takenByReturning 2 = .ok (.iconst 0, 1) := by decide +kernel
theorem dX2_takenByReturning_3 : decode cX2_takenByReturning 3 = .ok (.istore_n 2, 1) := by decide +kernel
theorem dX2_takenByReturning_4 : decode cX2_takenByReturning 4 = .ok (.iload_n 2, 1) := by decide +kernel
theorem dX2_takenByReturning_5 : decode cX2_takenByReturning 5 = .ok (.aload_n 0, 1) := by decide +kernel
theorem dX2_takenByReturning_6 : decode cX2_takenByReturning 6 = .ok (.getfield 10, 3) := by decide +kernel
theorem dX2_takenByReturning_9 : decode cX2_takenByReturning 9 = .ok (.invokevirtual 34, 3) := by decide +kernel
theorem dX2_takenByReturning_12 : decode cX2_takenByReturning 12 = .ok (.if_icmp .ge 35, 3) := by decide +kernel
theorem dX2_takenByReturning_15 : decode cX2_takenByReturning 15 = .ok (.aload_n 0, 1) := by decide +kernel
theorem dX2_takenByReturning_16 : decode cX2_takenByReturning 16 = .ok (.getfield 10, 3) := by decide +kernel
theorem dX2_takenByReturning_19 : decode cX2_takenByReturning 19 = .ok (.iload_n 2, 1) := by decide +kernel
theorem dX2_takenByReturning_20 : decode cX2_takenByReturning 20 = .ok (.invokevirtual 65, 3) := by decide +kernel
theorem dX2_takenByReturning_23 : decode cX2_takenByReturning 23 = .ok (.checkcast 45, 3) := by decide +kernel
theorem dX2_takenByReturning_26 : decode cX2_takenByReturning 26 = .ok (.astore_n 3, 1) := by decide +kernel
theorem dX2_takenByReturning_27 : decode cX2_takenByReturning 27 = .ok (.aload_n 3, 1) := by decide +kernel
theorem dX2_takenByReturning_28 : decode cX2_takenByReturning 28 = .ok (.invokevirtual 156, 3) := by decide +kernel
theorem dX2_takenByReturning_31 : decode cX2_takenByReturning 31 = .ok (.ifCond .eq 10, 3) := by decide +kernel
theorem dX2_takenByReturning_34 : decode cX2_takenByReturning 34 = .ok (.iload_n 1, 1) := by decide +kernel
theorem dX2_takenByReturning_35 : decode cX2_takenByReturning 35 = .ok (.aload_n 3, 1) := by decide +kernel
theorem dX2_takenByReturning_36 : decode cX2_takenByReturning 36 = .ok (.invokevirtual 143, 3) := by decide +kernel
theorem dX2_takenByReturning_39 : decode cX2_takenByReturning 39 = .ok (.iadd, 1) := by decide +kernel
theorem dX2_takenByReturning_40 : decode cX2_takenByReturning 40 = .ok (.istore_n 1, 1) := by decide +kernel
theorem dX2_takenByReturning_41 : decode cX2_takenByReturning 41 = .ok (.iinc 2 1, 3) := by decide +kernel
theorem dX2_takenByReturning_44 : decode cX2_takenByReturning 44 = .ok (.goto (-40), 3) := by decide +kernel
theorem dX2_takenByReturning_47 : decode cX2_takenByReturning 47 = .ok (.iload_n 1, 1) := by decide +kernel
theorem dX2_takenByReturning_48 : decode cX2_takenByReturning 48 = .ok (.ireturn, 1) := by decide +kernel
set_option maxRecDepth 20000 in
theorem ggX2_swapFor_Jx4a65c_size_8abf5 : GoodIn wsX2_swapFor wsJx4a65c_size_8abf5 := goodIn_r _ [7, 8, 65, 66, 67] (by decide +kernel) (by decide +kernel)
set_option maxRecDepth 20000 in
theorem gX2_swapFor_Jx4a65c_size_8abf5 : GoodIn wsX2_swapFor (wsV RX2 34 RJx4a65c yJx4a65c_size_8abf5 wsJx4a65c_size_8abf5) := goodIn_app (goodIn_of _ (by decide +kernel)) ggX2_swapFor_Jx4a65c_size_8abf5
set_option maxRecDepth 20000 in
theorem ggX2_swapFor_Jx4a65c_get_915e3 : GoodIn wsX2_swapFor wsJx4a65c_get_915e3 := goodIn_r _ [12, 8, 13, 14, 15, 16, 17, 18, 19, 20, 21, 22, 23, 6, 24, 25, 65, 66, 67] (by decide +kernel) (by decide +kernel)
set_option maxRecDepth 20000 in
theorem gX2_swapFor_Jx4a65c_get_915e3 : GoodIn wsX2_swapFor (wsV RX2 65 RJx4a65c yJx4a65c_get_915e3 wsJx4a65c_get_915e3) := goodIn_app (goodIn_of _ (by decide +kernel)) ggX2_swapFor_Jx4a65c_get_915e3
set_option maxRecDepth 20000 in
theorem ggX2_swapFor_X0_mayReturn : GoodIn wsX2_swapFor wsX0_mayReturn := goodIn_r _ [29, 30, 31, 68, 69, 70, 71, 72, 73, 74] (by decide +kernel) (by decide +kernel)
set_option maxRecDepth 20000 in
theorem gX2_swapFor_X0_mayReturn_n156 : GoodIn wsX2_swapFor (wsX0_mayReturn) := ggX2_swapFor_X0_mayReturn
set_option maxRecDepth 20000 in
theorem ggX2_swapFor_X0_switchOn : GoodIn wsX2_swapFor wsX0_switchOn := goodIn_r _ [34, 35, 30, 36, 37, 38, 27, 39, 40, 41, 42, 43, 44, 68, 69, 70, 71, 72, 73, 74] (by decide +kernel) (by decide +kernel)
set_option maxRecDepth 20000 in
theorem gX2_swapFor_X0_switchOn_n109 : GoodIn wsX2_swapFor (wsX0_switchOn) := ggX2_swapFor_X0_switchOn
set_option maxRecDepth 20000 in
theorem ggX2_swapFor_X2_holds : GoodIn wsX2_swapFor wsX2_holds := goodIn_r _ [48] (by decide +kernel) (by decide +kernel)
set_option maxRecDepth 20000 in
theorem gX2_swapFor_X2_holds : GoodIn wsX2_swapFor (va_wsS RX2 82 yX2_holds wsX2_holds) := goodIn_app (goodIn_of _ (by decide +kernel)) ggX2_swapFor_X2_holds
set_option maxRecDepth 20000 in
theorem ggX2_swapFor_X0_switchOff : GoodIn wsX2_swapFor wsX0_switchOff := goodIn_r _ [51, 30, 40, 35, 52, 53, 54, 27, 55, 56, 57, 58, 59, 60, 68, 69, 70, 71, 72, 73, 74] (by decide +kernel) (by decide +kernel)
set_option maxRecDepth 20000 in
theorem gX2_swapFor_X0_switchOff_n86 : GoodIn wsX2_swapFor (wsX0_switchOff) := ggX2_swapFor_X0_switchOff
theorem dX2_swapFor_0 : decode cX2_swapFor 0 = .ok (.iconst 0, 1) := by decide +kernel
theorem dX2_swapFor_1 : decode cX2_swapFor 1 = .ok (.istore_n 2, 1) := by decide +kernel
theorem dX2_swapFor_2 : decode cX2_swapFor 2 = .ok (.iconst 0, 1) := by decide +kernel
theorem dX2_swapFor_3 : decode cX2_swapFor 3 = .ok (.istore_n 3, 1) := by decide +kernel
theorem dX2_swapFor_4 : decode cX2_swapFor 4 = .ok (.iload_n 3, 1) := by decide +kernel
theorem dX2_swapFor_5 : decode cX2_swapFor 5 = .ok (.aload_n 0, 1) := by decide +kernel
theorem dX2_swapFor_6 : decode cX2_swapFor 6 = .ok (.getfield 10, 3) := by decide +kernel
theorem dX2_swapFor_9 : decode cX2_swapFor 9 = .ok (.invokevirtual 34, 3) := by decide +kernel
theorem dX2_swapFor_12 : decode cX2_swapFor 12 = .ok (.if_icmp .ge 55, 3) := by decide +kernel
theorem dX2_swapFor_15 : decode cX2_swapFor 15 = .ok (.aload_n 0, 1) := by decide +kernel
theorem dX2_swapFor_16 : decode cX2_swapFor 16 = .ok (.getfield 10, 3) := by decide +kernel
theorem dX2_swapFor_19 : decode cX2_swapFor 19 = .ok (.iload_n 3, 1) := by decide +kernel
theorem dX2_swapFor_20 : decode cX2_swapFor 20 = .ok (.invokevirtual 65, 3) := by decide +kernel
theorem dX2_swapFor_23 : decode cX2_swapFor 23 = .ok (.checkcast 45, 3) := by decide +kernel
theorem dX2_swapFor_26 : decode cX2_swapFor 26 = .ok (.astore 4, 2) := by decide +kernel
theorem dX2_swapFor_28 : decode cX2_swapFor 28 = .ok (.aload 4, 2) := by decide +kernel
theorem dX2_swapFor_30 : decode cX2_swapFor 30 = .ok (.invokevirtual 156, 3) := by decide +kernel
theorem dX2_swapFor_33 : decode cX2_swapFor 33 = .ok (.ifCond .eq 14, 3) := by decide +kernel
theorem dX2_swapFor_36 : decode cX2_swapFor 36 = .ok (.aload 4, 2) := by decide +kernel
theorem dX2_swapFor_38 : decode cX2_swapFor 38 = .ok (.invokevirtual 109, 3) := by decide +kernel
theorem dX2_swapFor_41 : decode cX2_swapFor 41 = .ok (.iinc 2 1, 3) := by decide +kernel
theorem dX2_swapFor_44 : decode cX2_swapFor 44 = .ok (.goto 17, 3) := by decide +kernel
theorem dX2_swapFor_47 : decode cX2_swapFor 47 = .ok (.iload_n 1, 1) := by decide +kernel
theorem dX2_swapFor_48 : decode cX2_swapFor 48 = .ok (.iload_n 3, 1) := by decide +kernel
theorem dX2_swapFor_49 : decode cX2_swapFor 49 = .ok (.invokestatic 82, 3) := by decide +kernel
theorem dX2_swapFor_52 : decode cX2_swapFor 52 = .ok (.ifCond .eq 9, 3) := by decide +kernel
theorem dX2_swapFor_55 : decode cX2_swapFor 55 = .ok (.aload 4, 2) := by decide +kernel
theorem dX2_swapFor_57 : decode cX2_swapFor 57 = .ok (.invokevirtual 86, 3) := by decide +kernel
theorem dX2_swapFor_60 : decode cX2_swapFor 60 = .ok (.pop, 1) := by decide +kernel
theorem dX2_swapFor_61 : decode cX2_swapFor 61 = .ok (.iinc 3 1, 3) := by decide +kernel
theorem dX2_swapFor_64 : decode cX2_swapFor 64 = .ok (.goto (-60), 3) := by decide +kernel
theorem dX2_swapFor_67 : decode cX2_swapFor 67 = .ok (.iload_n 2, 1) := by decide +kernel
theorem dX2_swapFor_68 : decode cX2_swapFor 68 = .ok (.ireturn, 1) := by decide +kernel
set_option maxRecDepth 20000 in
theorem ggX2_chosenFor_X2_prepareSearch : GoodIn wsX2_chosenFor wsX2_prepareSearch := goodIn_r _ [6, 1, 7, 8, 9, 10, 11, 12, 13, 14, 15, 16, 17, 18, 19, 20, 21, 22, 23, 24, 25, 26, 27, 28, 29, 30, 31, 32, 33, 34, 35, 36, 37, 38, 39, 40, 41, 42, 43, 44, 45, 46, 47, 48, 49, 50, 51, 52, 53, 54, 55, 56, 57, 58, 59, 60, 61, 62, 79, 80, 81, 82, 83, 84, 85, 86, 87, 88, 89, 90, 91, 92, 93, 94, 95, 96, 97, 98, 99, 100, 101, 102] (by decide +kernel) (by decide +kernel)
set_option maxRecDepth 20000 in
theorem gX2_chosenFor_X2_prepareSearch : GoodIn wsX2_chosenFor (wsV RX2 132 RX2 yX2_prepareSearch wsX2_prepareSearch) := goodIn_app (goodIn_of _ (by decide +kernel)) ggX2_chosenFor_X2_prepareSearch
set_option maxRecDepth 20000 in
theorem ggX2_chosenFor_X1_bestByWalking : GoodIn wsX2_chosenFor wsX1_bestByWalking := goodIn_r _ [65, 16, 17, 66, 67, 11, 68, 14, 62, 59, 60, 61, 69, 70, 71, 72, 73, 74, 75, 76, 77, 78, 15, 90, 91, 92, 93, 94, 95, 96, 97, 98, 99] (by decide +kernel) (by decide +kernel)
set_option maxRecDepth 20000 in
theorem gX2_chosenFor_X1_bestByWalking_n159 : GoodIn wsX2_chosenFor (wsX1_bestByWalking) := ggX2_chosenFor_X1_bestByWalking
theorem dX2_chosenFor_0 : decode cX2_chosenFor 0 = .ok (.aload_n 0, 1) := by decide +kernel
theorem dX2_chosenFor_1 : decode cX2_chosenFor 1 = .ok (.iload_n 1, 1) := by decide +kernel
theorem dX2_chosenFor_2 : decode cX2_chosenFor 2 = .ok (.invokevirtual 132, 3) := by decide +kernel
theorem dX2_chosenFor_5 : decode cX2_chosenFor 5 = .ok (.aload_n 0, 1) := by decide +kernel
theorem dX2_chosenFor_6 : decode cX2_chosenFor 6 = .ok (.getfield 19, 3) := by decide +kernel
theorem dX2_chosenFor_9 : decode cX2_chosenFor 9 = .ok (.invokevirtual 159, 3) := by decide +kernel
theorem dX2_chosenFor_12 : decode cX2_chosenFor 12 = .ok (.ireturn, 1) := by decide +kernel
set_option maxRecDepth 20000 in
theorem ggX2_prepareSearch_X1_begin : GoodIn wsX2_prepareSearch wsX1_begin := goodIn_r _ [8, 9, 10, 11, 12, 69, 70, 71, 72, 73, 74, 75, 76, 77, 78] (by decide +kernel) (by decide +kernel)
set_option maxRecDepth 20000 in
theorem gX2_prepareSearch_X1_begin_n162 : GoodIn wsX2_prepareSearch (wsX1_begin) := ggX2_prepareSearch_X1_begin
set_option maxRecDepth 20000 in
theorem ggX2_prepareSearch_Jx4a65c_size_8abf5 : GoodIn wsX2_prepareSearch wsJx4a65c_size_8abf5 := goodIn_r _ [17, 18, 79, 80, 81] (by decide +kernel) (by decide +kernel)
set_option maxRecDepth 20000 in
theorem gX2_prepareSearch_Jx4a65c_size_8abf5 : GoodIn wsX2_prepareSearch (wsV RX2 34 RJx4a65c yJx4a65c_size_8abf5 wsJx4a65c_size_8abf5) := goodIn_app (goodIn_of _ (by decide +kernel)) ggX2_prepareSearch_Jx4a65c_size_8abf5
set_option maxRecDepth 20000 in
theorem ggX2_prepareSearch_Jx4a65c_get_915e3 : GoodIn wsX2_prepareSearch wsJx4a65c_get_915e3 := goodIn_r _ [22, 18, 23, 24, 25, 26, 27, 28, 29, 30, 31, 32, 33, 16, 34, 35, 79, 80, 81] (by decide +kernel) (by decide +kernel)
set_option maxRecDepth 20000 in
theorem gX2_prepareSearch_Jx4a65c_get_915e3 : GoodIn wsX2_prepareSearch (wsV RX2 65 RJx4a65c yJx4a65c_get_915e3 wsJx4a65c_get_915e3) := goodIn_app (goodIn_of _ (by decide +kernel)) ggX2_prepareSearch_Jx4a65c_get_915e3
set_option maxRecDepth 20000 in
theorem ggX2_prepareSearch_X0_mayBeCut : GoodIn wsX2_prepareSearch wsX0_mayBeCut := goodIn_r _ [39, 40, 41, 62, 63, 64, 65, 66, 67, 68] (by decide +kernel) (by decide +kernel)
set_option maxRecDepth 20000 in
theorem gX2_prepareSearch_X0_mayBeCut_n97 : GoodIn wsX2_prepareSearch (wsX0_mayBeCut) := ggX2_prepareSearch_X0_mayBeCut
set_option maxRecDepth 20000 in
theorem ggX2_prepareSearch_X0_taken : GoodIn wsX2_prepareSearch wsX0_taken := goodIn_r _ [44, 40, 45, 46, 47, 48, 37, 49, 50, 62, 63, 64, 65, 66, 67, 68] (by decide +kernel) (by decide +kernel)
set_option maxRecDepth 20000 in
theorem gX2_prepareSearch_X0_taken_n112 : GoodIn wsX2_prepareSearch (wsX0_taken) := ggX2_prepareSearch_X0_taken
set_option maxRecDepth 20000 in
theorem ggX2_prepareSearch_X1_offer : GoodIn wsX2_prepareSearch wsX1_offer := goodIn_r _ [53, 11, 54, 55, 56, 57, 69, 70, 71, 72, 73, 74, 75, 76, 77, 78] (by decide +kernel) (by decide +kernel)
set_option maxRecDepth 20000 in
theorem gX2_prepareSearch_X1_offer_n166 : GoodIn wsX2_prepareSearch (wsX1_offer) := ggX2_prepareSearch_X1_offer
theorem dX2_prepareSearch_0 : decode cX2_prepareSearch 0 = .ok (.aload_n 0, 1) := by decide +kernel
theorem dX2_prepareSearch_1 : decode cX2_prepareSearch 1 = .ok (.getfield 19, 3) := by decide +kernel
theorem dX2_prepareSearch_4 : decode cX2_prepareSearch 4 = .ok (.iload_n 1, 1) := by decide +kernel
theorem dX2_prepareSearch_5 : decode cX2_prepareSearch 5 = .ok (.aload_n 0, 1) := by decide +kernel
theorem dX2_prepareSearch_6 : decode cX2_prepareSearch 6 = .ok (.getfield 27, 3) := by decide +kernel
theorem dX2_prepareSearch_9 : decode cX2_prepareSearch 9 = .ok (.invokevirtual 162, 3) := by decide +kernel
theorem dX2_prepareSearch_12 : decode cX2_prepareSearch 12 = .ok (.iconst 0, 1) := by decide +kernel
theorem dX2_prepareSearch_13 : decode cX2_prepareSearch 13 = .ok (.istore_n 2, 1) := by decide +kernel
theorem dX2_prepareSearch_14 : decode cX2_prepareSearch 14 = .ok (.iload_n 2, 1) := by decide +kernel
theorem dX2_prepareSearch_15 : decode cX2_prepareSearch 15 = .ok (.aload_n 0, 1) := by decide +kernel
theorem dX2_prepareSearch_16 : decode cX2_prepareSearch 16 = .ok (.getfield 10, 3) := by decide +kernel
theorem dX2_prepareSearch_19 : decode cX2_prepareSearch 19 = .ok (.invokevirtual 34, 3) := by decide +kernel
theorem dX2_prepareSearch_22 : decode cX2_prepareSearch 22 = .ok (.if_icmp .ge 44, 3) := by decide +kernel
theorem dX2_prepareSearch_25 : decode cX2_prepareSearch 25 = .ok (.aload_n 0, 1) := by decide +kernel
theorem dX2_prepareSearch_26 : decode cX2_prepareSearch 26 = .ok (.getfield 10, 3) := by decide +kernel
theorem dX2_prepareSearch_29 : decode cX2_prepareSearch 29 = .ok (.iload_n 2, 1) := by decide +kernel
theorem dX2_prepareSearch_30 : decode cX2_prepareSearch 30 = .ok (.invokevirtual 65, 3) := by decide +kernel
theorem dX2_prepareSearch_33 : decode cX2_prepareSearch 33 = .ok (.checkcast 45, 3) := by decide +kernel
theorem dX2_prepareSearch_36 : decode cX2_prepareSearch 36 = .ok (.astore_n 3, 1) := by decide +kernel
theorem dX2_prepareSearch_37 : decode cX2_prepareSearch 37 = .ok (.aload_n 3, 1) := by decide +kernel
theorem dX2_prepareSearch_38 : decode cX2_prepareSearch 38 = .ok (.invokevirtual 97, 3) := by decide +kernel
theorem dX2_prepareSearch_41 : decode cX2_prepareSearch 41 = .ok (.ifCond .eq 19, 3) := by decide +kernel
theorem dX2_prepareSearch_44 : decode cX2_prepareSearch 44 = .ok (.aload_n 0, 1) := by decide +kernel
theorem dX2_prepareSearch_45 : decode cX2_prepareSearch 45 = .ok (.getfield 19, 3) := by decide +kernel
theorem dX2_prepareSearch_48 : decode cX2_prepareSearch 48 = .ok (.iload_n 2, 1) := by decide +kernel
theorem dX2_prepareSearch_49 : decode cX2_prepareSearch 49 = .ok (.aload_n 3, 1) := by decide +kernel
theorem dX2_prepareSearch_50 : decode cX2_prepareSearch 50 = .ok (.invokevirtual 112, 3) := by decide +kernel
theorem dX2_prepareSearch_53 : decode cX2_prepareSearch 53 = .ok (.aload_n 3, 1) := by decide +kernel
theorem dX2_prepareSearch_54 : decode cX2_prepareSearch 54 = .ok (.getfield 120, 3) := by decide +kernel
theorem dX2_prepareSearch_57 : decode cX2_prepareSearch 57 = .ok (.invokevirtual 166, 3) := by decide +kernel
theorem dX2_prepareSearch_60 : decode cX2_prepareSearch 60 = .ok (.iinc 2 1, 3) := by decide +kernel
theorem dX2_prepareSearch_63 : decode cX2_prepareSearch 63 = .ok (.goto (-49), 3) := by decide +kernel
theorem dX2_prepareSearch_66 : decode cX2_prepareSearch 66 = .ok (.return_, 1) := by decide +kernel
