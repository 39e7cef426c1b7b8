theorem dX3_init_0 : decode cX3_init 0 = .ok (.aload_n 0, 1) := by decide +kernel
theorem dX3_init_1 : decode cX3_init 1 = .ok (.invokespecial 1, 3) := by decide +kernel
theorem dX3_init_4 : decode cX3_init 4 = .ok (.aload_n 0, 1) := by decide +kernel
theorem dX3_init_5 : decode cX3_init 5 = .ok (.bipush 12, 2) := by decide +kernel
theorem dX3_init_7 : decode cX3_init 7 = .ok (.newarray .int, 2) := by decide +kernel
theorem dX3_init_9 : decode cX3_init 9 = .ok (.putfield 7, 3) := by decide +kernel
theorem dX3_init_12 : decode cX3_init 12 = .ok (.aload_n 0, 1) := by decide +kernel
theorem dX3_init_13 : decode cX3_init 13 = .ok (.bipush 12, 2) := by decide +kernel
theorem dX3_init_15 : decode cX3_init 15 = .ok (.newarray .int, 2) := by decide +kernel
theorem dX3_init_17 : decode cX3_init 17 = .ok (.putfield 13, 3) := by decide +kernel
theorem dX3_init_20 : decode cX3_init 20 = .ok (.aload_n 0, 1) := by decide +kernel
theorem dX3_init_21 : decode cX3_init 21 = .ok (.bipush 12, 2) := by decide +kernel
theorem dX3_init_23 : decode cX3_init 23 = .ok (.newarray .int, 2) := by decide +kernel
theorem dX3_init_25 : decode cX3_init 25 = .ok (.putfield 16, 3) := by decide +kernel
theorem dX3_init_28 : decode cX3_init 28 = .ok (.aload_n 0, 1) := by decide +kernel
theorem dX3_init_29 : decode cX3_init 29 = .ok (.bipush 12, 2) := by decide +kernel
theorem dX3_init_31 : decode cX3_init 31 = .ok (.newarray .int, 2) := by decide +kernel
theorem dX3_init_33 : decode cX3_init 33 = .ok (.putfield 19, 3) := by decide +kernel
theorem dX3_init_36 : decode cX3_init 36 = .ok (.aload_n 0, 1) := by decide +kernel
theorem dX3_init_37 : decode cX3_init 37 = .ok (.bipush 12, 2) := by decide +kernel
theorem dX3_init_39 : decode cX3_init 39 = .ok (.newarray .int, 2) := by decide +kernel
theorem dX3_init_41 : decode cX3_init 41 = .ok (.putfield 22, 3) := by decide +kernel
theorem dX3_init_44 : decode cX3_init 44 = .ok (.aload_n 0, 1) := by decide +kernel
theorem dX3_init_45 : decode cX3_init 45 = .ok (.bipush 12, 2) := by decide +kernel
theorem dX3_init_47 : decode cX3_init 47 = .ok (.newarray .int, 2) := by decide +kernel
theorem dX3_init_49 : decode cX3_init 49 = .ok (.putfield 25, 3) := by decide +kernel
theorem dX3_init_52 : decode cX3_init 52 = .ok (.aload_n 0, 1) := by decide +kernel
theorem dX3_init_53 : decode cX3_init 53 = .ok (.bipush 12, 2) := by decide +kernel
theorem dX3_init_55 : decode cX3_init 55 = .ok (.newarray .int, 2) := by decide +kernel
theorem dX3_init_57 : decode cX3_init 57 = .ok (.putfield 28, 3) := by decide +kernel
theorem dX3_init_60 : decode cX3_init 60 = .ok (.return_, 1) := by decide +kernel
theorem dX3_thrown_0 : decode cX3_thrown 0 = .ok (.aload_n 0, 1) := by decide +kernel
theorem dX3_thrown_1 : decode cX3_thrown 1 = .ok (.getfield 31, 3) := by decide +kernel
theorem dX3_thrown_4 : decode cX3_thrown 4 = .ok (.ireturn, 1) := by decide +kernel
theorem dX3_fails_0 : decode cX3_fails 0 = .ok (.aload_n 0, 1) := by decide +kernel
theorem dX3_fails_1 : decode cX3_fails 1 = .ok (.iload_n 1, 1) := by decide +kernel
theorem dX3_fails_2 : decode cX3_fails 2 = .ok (.putfield 31, 3) := by decide +kernel
theorem dX3_fails_5 : decode cX3_fails 5 = .ok (.iconst 0, 1) := by decide +kernel
theorem dX3_fails_6 : decode cX3_fails 6 = .ok (.ireturn, 1) := by decide +kernel
theorem dX3_in_0 : decode cX3_in 0 = .ok (.iload_n 0, 1) := by decide +kernel
theorem dX3_in_1 : decode cX3_in 1 = .ok (.iload_n 1, 1) := by decide +kernel
theorem dX3_in_2 : decode cX3_in 2 = .ok (.if_icmp .lt 12, 3) := by decide +kernel
theorem dX3_in_5 : decode cX3_in 5 = .ok (.iload_n 0, 1) := by decide +kernel
theorem dX3_in_6 : decode cX3_in 6 = .ok (.iload_n 2, 1) := by decide +kernel
theorem dX3_in_7 : decode cX3_in 7 = .ok (.if_icmp .gt 7, 3) := by decide +kernel
theorem dX3_in_10 : decode cX3_in 10 = .ok (.iconst 1, 1) := by decide +kernel
theorem dX3_in_11 : decode cX3_in 11 = .ok (.goto 4, 3) := by decide +kernel
theorem dX3_in_14 : decode cX3_in 14 = .ok (.iconst 0, 1) := by decide +kernel
theorem dX3_in_15 : decode cX3_in 15 = .ok (.ireturn, 1) := by decide +kernel
set_option maxRecDepth 20000 in
theorem ggX3_isThere_X3_in : GoodIn wsX3_isThere wsX3_in := goodIn_r _ [5] (by decide +kernel) (by decide +kernel)
set_option maxRecDepth 20000 in
theorem gX3_isThere_X3_in : GoodIn wsX3_isThere (va_wsS RX3 38 yX3_in wsX3_in) := goodIn_app (goodIn_of _ (by decide +kernel)) ggX3_isThere_X3_in
theorem dX3_isThere_0 : decode cX3_isThere 0 = .ok (.iload_n 1, 1) := by decide +kernel
theorem dX3_isThere_1 : decode cX3_isThere 1 = .ok (.iconst 0, 1) := by decide +kernel
theorem dX3_isThere_2 : decode cX3_isThere 2 = .ok (.aload_n 0, 1) := by decide +kernel
theorem dX3_isThere_3 : decode cX3_isThere 3 = .ok (.getfield 35, 3) := by decide +kernel
theorem dX3_isThere_6 : decode cX3_isThere 6 = .ok (.iconst 1, 1) := by decide +kernel
theorem dX3_isThere_7 : decode cX3_isThere 7 = .ok (.isub, 1) := by decide +kernel
theorem dX3_isThere_8 : decode cX3_isThere 8 = .ok (.invokestatic 38, 3) := by decide +kernel
theorem dX3_isThere_11 : decode cX3_isThere 11 = .ok (.ireturn, 1) := by decide +kernel
set_option maxRecDepth 20000 in
theorem ggX3_feeder_X3_in : GoodIn wsX3_feeder wsX3_in := goodIn_r _ [9] (by decide +kernel) (by decide +kernel)
set_option maxRecDepth 20000 in
theorem gX3_feeder_X3_in : GoodIn wsX3_feeder (va_wsS RX3 38 yX3_in wsX3_in) := goodIn_app (goodIn_of _ (by decide +kernel)) ggX3_feeder_X3_in
set_option maxRecDepth 20000 in
theorem ggX3_feeder_X3_fails : GoodIn wsX3_feeder wsX3_fails := goodIn_r _ [13, 1, 14, 15, 16, 17, 18, 19, 20, 21, 22, 23, 24] (by decide +kernel) (by decide +kernel)
set_option maxRecDepth 20000 in
theorem gX3_feeder_X3_fails : GoodIn wsX3_feeder (wsV RX3 42 RX3 yX3_fails wsX3_fails) := goodIn_app (goodIn_of _ (by decide +kernel)) ggX3_feeder_X3_fails
theorem dX3_feeder_0 : decode cX3_feeder 0 = .ok (.aload_n 0, 1) := by decide +kernel
theorem dX3_feeder_1 : decode cX3_feeder 1 = .ok (.iconst 0, 1) := by decide +kernel
theorem dX3_feeder_2 : decode cX3_feeder 2 = .ok (.putfield 31, 3) := by decide +kernel
theorem dX3_feeder_5 : decode cX3_feeder 5 = .ok (.iload_n 1, 1) := by decide +kernel
theorem dX3_feeder_6 : decode cX3_feeder 6 = .ok (.iconst 1, 1) := by decide +kernel
theorem dX3_feeder_7 : decode cX3_feeder 7 = .ok (.sipush 999, 3) := by decide +kernel
theorem dX3_feeder_10 : decode cX3_feeder 10 = .ok (.invokestatic 38, 3) := by decide +kernel
theorem dX3_feeder_13 : decode cX3_feeder 13 = .ok (.ifCond .eq 12, 3) := by decide +kernel
theorem dX3_feeder_16 : decode cX3_feeder 16 = .ok (.iload_n 3, 1) := by decide +kernel
theorem dX3_feeder_17 : decode cX3_feeder 17 = .ok (.iconst 0, 1) := by decide +kernel
theorem dX3_feeder_18 : decode cX3_feeder 18 = .ok (.iconst 3, 1) := by decide +kernel
theorem dX3_feeder_19 : decode cX3_feeder 19 = .ok (.invokestatic 38, 3) := by decide +kernel
theorem dX3_feeder_22 : decode cX3_feeder 22 = .ok (.ifCond .ne 9, 3) := by decide +kernel
theorem dX3_feeder_25 : decode cX3_feeder 25 = .ok (.aload_n 0, 1) := by decide +kernel
theorem dX3_feeder_26 : decode cX3_feeder 26 = .ok (.iconst 1, 1) := by decide +kernel
theorem dX3_feeder_27 : decode cX3_feeder 27 = .ok (.invokevirtual 42, 3) := by decide +kernel
theorem dX3_feeder_30 : decode cX3_feeder 30 = .ok (.ireturn, 1) := by decide +kernel
theorem dX3_feeder_31 : decode cX3_feeder 31 = .ok (.aload_n 0, 1) := by decide +kernel
theorem dX3_feeder_32 : decode cX3_feeder 32 = .ok (.getfield 35, 3) := by decide +kernel
theorem dX3_feeder_35 : decode cX3_feeder 35 = .ok (.bipush 12, 2) := by decide +kernel
theorem dX3_feeder_37 : decode cX3_feeder 37 = .ok (.if_icmp .ne 9, 3) := by decide +kernel
theorem dX3_feeder_40 : decode cX3_feeder 40 = .ok (.aload_n 0, 1) := by decide +kernel
theorem dX3_feeder_41 : decode cX3_feeder 41 = .ok (.iconst 2, 1) := by decide +kernel
theorem dX3_feeder_42 : decode cX3_feeder 42 = .ok (.invokevirtual 42, 3) := by decide +kernel
theorem dX3_feeder_45 : decode cX3_feeder 45 = .ok (.ireturn, 1) := by decide +kernel
theorem dX3_feeder_46 : decode cX3_feeder 46 = .ok (.aload_n 0, 1) := by decide +kernel
theorem dX3_feeder_47 : decode cX3_feeder 47 = .ok (.getfield 7, 3) := by decide +kernel
theorem dX3_feeder_50 : decode cX3_feeder 50 = .ok (.aload_n 0, 1) := by decide +kernel
theorem dX3_feeder_51 : decode cX3_feeder 51 = .ok (.getfield 35, 3) := by decide +kernel
theorem dX3_feeder_54 : decode cX3_feeder 54 = .ok (.iload_n 1, 1) := by decide +kernel
theorem dX3_feeder_55 : decode cX3_feeder 55 = .ok (.iastore, 1) := by decide +kernel
theorem dX3_feeder_56 : decode cX3_feeder 56 = .ok (.aload_n 0, 1) := by decide +kernel
theorem dX3_feeder_57 : decode cX3_feeder 57 = .ok (.getfield 13, 3) := by decide +kernel
theorem dX3_feeder_60 : decode cX3_feeder 60 = .ok (.aload_n 0, 1) := by decide +kernel
theorem dX3_feeder_61 : decode cX3_feeder 61 = .ok (.getfield 35, 3) := by decide +kernel
theorem dX3_feeder_64 : decode cX3_feeder 64 = .ok (.iload_n 2, 1) := by decide +kernel
theorem dX3_feeder_65 : decode cX3_feeder 65 = .ok (.ifCond .eq 7, 3) := by decide +kernel
theorem dX3_feeder_68 : decode cX3_feeder 68 = .ok (.iconst 1, 1) := by decide +kernel
theorem dX3_feeder_69 : decode cX3_feeder 69 = .ok (.goto 4, 3) := by decide +kernel
theorem dX3_feeder_72 : decode cX3_feeder 72 = .ok (.iconst 0, 1) := by decide +kernel
theorem dX3_feeder_73 : decode cX3_feeder 73 = .ok (.iastore, 1) := by decide +kernel
theorem dX3_feeder_74 : decode cX3_feeder 74 = .ok (.aload_n 0, 1) := by decide +kernel
theorem dX3_feeder_75 : decode cX3_feeder 75 = .ok (.getfield 16, 3) := by decide +kernel
theorem dX3_feeder_78 : decode cX3_feeder 78 = .ok (.aload_n 0, 1) := by decide +kernel
theorem dX3_feeder_79 : decode cX3_feeder 79 = .ok (.getfield 35, 3) := by decide +kernel
theorem dX3_feeder_82 : decode cX3_feeder 82 = .ok (.iload_n 3, 1) := by decide +kernel
theorem dX3_feeder_83 : decode cX3_feeder 83 = .ok (.iastore, 1) := by decide +kernel
theorem dX3_feeder_84 : decode cX3_feeder 84 = .ok (.aload_n 0, 1) := by decide +kernel
theorem dX3_feeder_85 : decode cX3_feeder 85 = .ok (.dup, 1) := by decide +kernel
theorem dX3_feeder_86 : decode cX3_feeder 86 = .ok (.getfield 35, 3) := by decide +kernel
theorem dX3_feeder_89 : decode cX3_feeder 89 = .ok (.iconst 1, 1) := by decide +kernel
theorem dX3_feeder_90 : decode cX3_feeder 90 = .ok (.iadd, 1) := by decide +kernel
theorem dX3_feeder_91 : decode cX3_feeder 91 = .ok (.putfield 35, 3) := by decide +kernel
theorem dX3_feeder_94 : decode cX3_feeder 94 = .ok (.aload_n 0, 1) := by decide +kernel
theorem dX3_feeder_95 : decode cX3_feeder 95 = .ok (.getfield 35, 3) := by decide +kernel
theorem dX3_feeder_98 : decode cX3_feeder 98 = .ok (.iconst 1, 1) := by decide +kernel
theorem dX3_feeder_99 : decode cX3_feeder 99 = .ok (.isub, 1) := by decide +kernel
theorem dX3_feeder_100 : decode cX3_feeder 100 = .ok (.ireturn, 1) := by decide +kernel
set_option maxRecDepth 20000 in
theorem ggX3_setLoad_X3_isThere : GoodIn wsX3_setLoad wsX3_isThere := goodIn_r _ [7, 8, 9, 10, 6, 11, 16, 17, 18, 19, 20, 21, 22, 23, 24, 25, 26] (by decide +kernel) (by decide +kernel)
set_option maxRecDepth 20000 in
theorem gX3_setLoad_X3_isThere : GoodIn wsX3_setLoad (wsV RX3 46 RX3 yX3_isThere wsX3_isThere) := goodIn_app (goodIn_of _ (by decide +kernel)) ggX3_setLoad_X3_isThere
set_option maxRecDepth 20000 in
theorem ggX3_setLoad_X3_fails : GoodIn wsX3_setLoad wsX3_fails := goodIn_r _ [15, 1, 16, 17, 18, 19, 20, 21, 22, 23, 24, 25, 26] (by decide +kernel) (by decide +kernel)
set_option maxRecDepth 20000 in
theorem gX3_setLoad_X3_fails : GoodIn wsX3_setLoad (wsV RX3 42 RX3 yX3_fails wsX3_fails) := goodIn_app (goodIn_of _ (by decide +kernel)) ggX3_setLoad_X3_fails
set_option maxRecDepth 20000 in
theorem ggX3_setLoad_X3_in : GoodIn wsX3_setLoad wsX3_in := goodIn_r _ [11] (by decide +kernel) (by decide +kernel)
set_option maxRecDepth 20000 in
theorem gX3_setLoad_X3_in : GoodIn wsX3_setLoad (va_wsS RX3 38 yX3_in wsX3_in) := goodIn_app (goodIn_of _ (by decide +kernel)) ggX3_setLoad_X3_in
theorem dX3_setLoad_0 : decode cX3_setLoad 0 = .ok (.aload_n 0, 1) := by decide +kernel
theorem dX3_setLoad_1 : decode cX3_setLoad 1 = .ok (.iconst 0, 1) := by decide +kernel
theorem dX3_setLoad_2 : decode cX3_setLoad 2 = .ok (.putfield 31, 3) := by decide +kernel
theorem dX3_setLoad_5 : decode cX3_setLoad 5 = .ok (.aload_n 0, 1) := by decide +kernel
theorem dX3_setLoad_6 : decode cX3_setLoad 6 = .ok (.iload_n 1, 1) := by decide +kernel
theorem dX3_setLoad_7 : decode cX3_setLoad 7 = .ok (.invokevirtual 46, 3) := by decide +kernel
theorem dX3_setLoad_10 : decode cX3_setLoad 10 = .ok (.ifCond .ne 9, 3) := by decide +kernel
theorem dX3_setLoad_13 : decode cX3_setLoad 13 = .ok (.aload_n 0, 1) := by decide +kernel
theorem dX3_setLoad_14 : decode cX3_setLoad 14 = .ok (.iconst 1, 1) := by decide +kernel
theorem dX3_setLoad_15 : decode cX3_setLoad 15 = .ok (.invokevirtual 42, 3) := by decide +kernel
theorem dX3_setLoad_18 : decode cX3_setLoad 18 = .ok (.ireturn, 1) := by decide +kernel
theorem dX3_setLoad_19 : decode cX3_setLoad 19 = .ok (.iload_n 2, 1) := by decide +kernel
theorem dX3_setLoad_20 : decode cX3_setLoad 20 = .ok (.iconst 1, 1) := by decide +kernel
theorem dX3_setLoad_21 : decode cX3_setLoad 21 = .ok (.sipush 999, 3) := by decide +kernel
theorem dX3_setLoad_24 : decode cX3_setLoad 24 = .ok (.invokestatic 38, 3) := by decide +kernel
theorem dX3_setLoad_27 : decode cX3_setLoad 27 = .ok (.ifCond .ne 9, 3) := by decide +kernel
theorem dX3_setLoad_30 : decode cX3_setLoad 30 = .ok (.aload_n 0, 1) := by decide +kernel
theorem dX3_setLoad_31 : decode cX3_setLoad 31 = .ok (.iconst 2, 1) := by decide +kernel
theorem dX3_setLoad_32 : decode cX3_setLoad 32 = .ok (.invokevirtual 42, 3) := by decide +kernel
theorem dX3_setLoad_35 : decode cX3_setLoad 35 = .ok (.ireturn, 1) := by decide +kernel
theorem dX3_setLoad_36 : decode cX3_setLoad 36 = .ok (.aload_n 0, 1) := by decide +kernel
theorem dX3_setLoad_37 : decode cX3_setLoad 37 = .ok (.getfield 7, 3) := by decide +kernel
theorem dX3_setLoad_40 : decode cX3_setLoad 40 = .ok (.iload_n 1, 1) := by decide +kernel
theorem dX3_setLoad_41 : decode cX3_setLoad 41 = .ok (.iaload, 1) := by decide +kernel
theorem dX3_setLoad_42 : decode cX3_setLoad 42 = .ok (.istore_n 3, 1) := by decide +kernel
theorem dX3_setLoad_43 : decode cX3_setLoad 43 = .ok (.aload_n 0, 1) := by decide +kernel
theorem dX3_setLoad_44 : decode cX3_setLoad 44 = .ok (.getfield 7, 3) := by decide +kernel
theorem dX3_setLoad_47 : decode cX3_setLoad 47 = .ok (.iload_n 1, 1) := by decide +kernel
theorem dX3_setLoad_48 : decode cX3_setLoad 48 = .ok (.iload_n 2, 1) := by decide +kernel
theorem dX3_setLoad_49 : decode cX3_setLoad 49 = .ok (.iastore, 1) := by decide +kernel
theorem dX3_setLoad_50 : decode cX3_setLoad 50 = .ok (.iload_n 3, 1) := by decide +kernel
theorem dX3_setLoad_51 : decode cX3_setLoad 51 = .ok (.ireturn, 1) := by decide +kernel
set_option maxRecDepth 20000 in
theorem ggX3_setCritical_X3_isThere : GoodIn wsX3_setCritical wsX3_isThere := goodIn_r _ [7, 8, 9, 10, 6, 11, 16, 17, 18, 19, 20, 21, 22, 23, 24, 25, 26] (by decide +kernel) (by decide +kernel)
set_option maxRecDepth 20000 in
theorem gX3_setCritical_X3_isThere : GoodIn wsX3_setCritical (wsV RX3 46 RX3 yX3_isThere wsX3_isThere) := goodIn_app (goodIn_of _ (by decide +kernel)) ggX3_setCritical_X3_isThere
set_option maxRecDepth 20000 in
theorem ggX3_setCritical_X3_fails : GoodIn wsX3_setCritical wsX3_fails := goodIn_r _ [15, 1, 16, 17, 18, 19, 20, 21, 22, 23, 24, 25, 26] (by decide +kernel) (by decide +kernel)
set_option maxRecDepth 20000 in
theorem gX3_setCritical_X3_fails : GoodIn wsX3_setCritical (wsV RX3 42 RX3 yX3_fails wsX3_fails) := goodIn_app (goodIn_of _ (by decide +kernel)) ggX3_setCritical_X3_fails
theorem dX3_setCritical_0 : decode cX3_setCritical 0 = .ok (.aload_n 0, 1) := by decide +kernel
theorem dX3_setCritical_1 : decode cX3_setCritical 1 = .ok (.iconst 0, 1) := by decide +kernel
theorem dX3_setCritical_2 : decode cX3_setCritical 2 = .ok (.putfield 31, 3) := by decide +kernel
theorem dX3_setCritical_5 : decode cX3_setCritical 5 = .ok (.aload_n 0, 1) := by decide +kernel
theorem dX3_setCritical_6 : decode cX3_setCritical 6 = .ok (.iload_n 1, 1) := by decide +kernel
theorem dX3_setCritical_7 : decode cX3_setCritical 7 = .ok (.invokevirtual 46, 3) := by decide +kernel
theorem dX3_setCritical_10 : decode cX3_setCritical 10 = .ok (.ifCond .ne 11, 3) := by decide +kernel
theorem dX3_setCritical_13 : decode cX3_setCritical 13 = .ok (.aload_n 0, 1) := by decide +kernel
theorem dX3_setCritical_14 : decode cX3_setCritical 14 = .ok (.iconst 1, 1) := by decide +kernel
theorem dX3_setCritical_15 : decode cX3_setCritical 15 = .ok (.invokevirtual 42, 3) := by decide +kernel
theorem dX3_setCritical_18 : decode cX3_setCritical 18 = .ok (.pop, 1) := by decide +kernel
theorem dX3_setCritical_19 : decode cX3_setCritical 19 = .ok (.iconst 0, 1) := by decide +kernel
theorem dX3_setCritical_20 : decode cX3_setCritical 20 = .ok (.ireturn, 1) := by decide +kernel
theorem dX3_setCritical_21 : decode cX3_setCritical 21 = .ok (.aload_n 0, 1) := by decide +kernel
theorem dX3_setCritical_22 : decode cX3_setCritical 22 = .ok (.getfield 13, 3) := by decide +kernel
theorem dX3_setCritical_25 : decode cX3_setCritical 25 = .ok (.iload_n 1, 1) := by decide +kernel
theorem dX3_setCritical_26 : decode cX3_setCritical 26 = .ok (.iaload, 1) := by decide +kernel
theorem dX3_setCritical_27 : decode cX3_setCritical 27 = .ok (.iconst 1, 1) := by decide +kernel
theorem dX3_setCritical_28 : decode cX3_setCritical 28 = .ok (.if_icmp .ne 7, 3) := by decide +kernel
theorem dX3_setCritical_31 : decode cX3_setCritical 31 = .ok (.iconst 1, 1) := by decide +kernel
theorem dX3_setCritical_32 : decode cX3_setCritical 32 = .ok (.goto 4, 3) := by decide +kernel
theorem dX3_setCritical_35 : decode cX3_setCritical 35 = .ok (.iconst 0, 1) := by decide +kernel
theorem dX3_setCritical_36 : decode cX3_setCritical 36 = .ok (.istore_n 3, 1) := by decide +kernel
theorem dX3_setCritical_37 : decode cX3_setCritical 37 = .ok (.aload_n 0, 1) := by decide +kernel
theorem dX3_setCritical_38 : decode cX3_setCritical 38 = .ok (.getfield 13, 3) := by decide +kernel
theorem dX3_setCritical_41 : decode cX3_setCritical 41 = .ok (.iload_n 1, 1) := by decide +kernel
theorem dX3_setCritical_42 : decode cX3_setCritical 42 = .ok (.iload_n 2, 1) := by decide +kernel
theorem dX3_setCritical_43 : decode cX3_setCritical 43 = .ok (.ifCond .eq 7, 3) := by decide +kernel
theorem dX3_setCritical_46 : decode cX3_setCritical 46 = .ok (.iconst 1, 1) := by decide +kernel
theorem dX3_setCritical_47 : decode cX3_setCritical 47 = .ok (.goto 4, 3) := by decide +kernel
theorem dX3_setCritical_50 : decode cX3_setCritical 50 = .ok (.iconst 0, 1) := by decide +kernel
theorem dX3_setCritical_51 : decode cX3_setCritical 51 = .ok (.iastore, 1) := by decide +kernel
theorem dX3_setCritical_52 : decode cX3_setCritical 52 = .ok (.iload_n 3, 1) := by decide +kernel
theorem dX3_setCritical_53 : decode cX3_setCritical 53 = .ok (.ireturn, 1) := by decide +kernel
set_option maxRecDepth 20000 in
theorem ggX3_setSlack_X3_in : GoodIn wsX3_setSlack wsX3_in := goodIn_r _ [6] (by decide +kernel) (by decide +kernel)
set_option maxRecDepth 20000 in
theorem gX3_setSlack_X3_in : GoodIn wsX3_setSlack (va_wsS RX3 38 yX3_in wsX3_in) := goodIn_app (goodIn_of _ (by decide +kernel)) ggX3_setSlack_X3_in
set_option maxRecDepth 20000 in
theorem ggX3_setSlack_X3_fails : GoodIn wsX3_setSlack wsX3_fails := goodIn_r _ [10, 1, 11, 12, 13, 14, 15, 16, 17, 18, 19, 20, 21] (by decide +kernel) (by decide +kernel)
set_option maxRecDepth 20000 in
theorem gX3_setSlack_X3_fails : GoodIn wsX3_setSlack (wsV RX3 42 RX3 yX3_fails wsX3_fails) := goodIn_app (goodIn_of _ (by decide +kernel)) ggX3_setSlack_X3_fails
theorem dX3_setSlack_0 : decode cX3_setSlack 0 = .ok (.aload_n 0, 1) := by decide +kernel
theorem dX3_setSlack_1 : decode cX3_setSlack 1 = .ok (.iconst 0, 1) := by decide +kernel
theorem dX3_setSlack_2 : decode cX3_setSlack 2 = .ok (.putfield 31, 3) := by decide +kernel
theorem dX3_setSlack_5 : decode cX3_setSlack 5 = .ok (.iload_n 1, 1) := by decide +kernel
theorem dX3_setSlack_6 : decode cX3_setSlack 6 = .ok (.iconst 0, 1) := by decide +kernel
theorem dX3_setSlack_7 : decode cX3_setSlack 7 = .ok (.sipush 999, 3) := by decide +kernel
theorem dX3_setSlack_10 : decode cX3_setSlack 10 = .ok (.invokestatic 38, 3) := by decide +kernel
theorem dX3_setSlack_13 : decode cX3_setSlack 13 = .ok (.ifCond .ne 9, 3) := by decide +kernel
theorem dX3_setSlack_16 : decode cX3_setSlack 16 = .ok (.aload_n 0, 1) := by decide +kernel
theorem dX3_setSlack_17 : decode cX3_setSlack 17 = .ok (.iconst 1, 1) := by decide +kernel
theorem dX3_setSlack_18 : decode cX3_setSlack 18 = .ok (.invokevirtual 42, 3) := by decide +kernel
theorem dX3_setSlack_21 : decode cX3_setSlack 21 = .ok (.ireturn, 1) := by decide +kernel
theorem dX3_setSlack_22 : decode cX3_setSlack 22 = .ok (.aload_n 0, 1) := by decide +kernel
theorem dX3_setSlack_23 : decode cX3_setSlack 23 = .ok (.getfield 50, 3) := by decide +kernel
theorem dX3_setSlack_26 : decode cX3_setSlack 26 = .ok (.istore_n 2, 1) := by decide +kernel
theorem dX3_setSlack_27 : decode cX3_setSlack 27 = .ok (.aload_n 0, 1) := by decide +kernel
theorem dX3_setSlack_28 : decode cX3_setSlack 28 = .ok (.iload_n 1, 1) := by decide +kernel
theorem dX3_setSlack_29 : decode cX3_setSlack 29 = .ok (.putfield 50, 3) := by decide +kernel
theorem dX3_setSlack_32 : decode cX3_setSlack 32 = .ok (.iload_n 2, 1) := by decide +kernel
theorem dX3_setSlack_33 : decode cX3_setSlack 33 = .ok (.ireturn, 1) := by decide +kernel
set_option maxRecDepth 20000 in
theorem ggX3_pass_X3_in : GoodIn wsX3_pass wsX3_in := goodIn_r _ [11] (by decide +kernel) (by decide +kernel)
set_option maxRecDepth 20000 in
theorem gX3_pass_X3_in : GoodIn wsX3_pass (va_wsS RX3 38 yX3_in wsX3_in) := goodIn_app (goodIn_of _ (by decide +kernel)) ggX3_pass_X3_in
set_option maxRecDepth 20000 in
theorem ggX3_pass_X3_fails : GoodIn wsX3_pass wsX3_fails := goodIn_r _ [15, 1, 16, 17, 18, 19, 20, 21, 22, 23, 24, 25, 26] (by decide +kernel) (by decide +kernel)
set_option maxRecDepth 20000 in
theorem gX3_pass_X3_fails : GoodIn wsX3_pass (wsV RX3 42 RX3 yX3_fails wsX3_fails) := goodIn_app (goodIn_of _ (by decide +kernel)) ggX3_pass_X3_fails
theorem dX3_pass_0 : decode cX3_pass 0 = .ok (.aload_n 0, 1) := by decide +kernel
theorem dX3_pass_1 : decode cX3_pass 1 = .ok (.iconst 0, 1) := by decide +kernel
theorem dX3_pass_2 : decode cX3_pass 2 = .ok (.putfield 31, 3) := by decide +kernel
theorem dX3_pass_5 : decode cX3_pass 5 = .ok (.iload_n 1, 1) := by decide +kernel
theorem dX3_pass_6 : decode cX3_pass 6 = .ok (.iconst 1, 1) := by decide +kernel
theorem dX3_pass_7 : decode cX3_pass 7 = .ok (.bipush 100, 2) := by decide +kernel
theorem dX3_pass_9 : decode cX3_pass 9 = .ok (.invokestatic 38, 3) := by decide +kernel
theorem dX3_pass_12 : decode cX3_pass 12 = .ok (.ifCond .ne 9, 3) := by decide +kernel
theorem dX3_pass_15 : decode cX3_pass 15 = .ok (.aload_n 0, 1) := by decide +kernel
theorem dX3_pass_16 : decode cX3_pass 16 = .ok (.iconst 1, 1) := by decide +kernel
theorem dX3_pass_17 : decode cX3_pass 17 = .ok (.invokevirtual 42, 3) := by decide +kernel
theorem dX3_pass_20 : decode cX3_pass 20 = .ok (.ireturn, 1) := by decide +kernel
theorem dX3_pass_21 : decode cX3_pass 21 = .ok (.aload_n 0, 1) := by decide +kernel
theorem dX3_pass_22 : decode cX3_pass 22 = .ok (.dup, 1) := by decide +kernel
theorem dX3_pass_23 : decode cX3_pass 23 = .ok (.getfield 53, 3) := by decide +kernel
theorem dX3_pass_26 : decode cX3_pass 26 = .ok (.iload_n 1, 1) := by decide +kernel
theorem dX3_pass_27 : decode cX3_pass 27 = .ok (.iadd, 1) := by decide +kernel
theorem dX3_pass_28 : decode cX3_pass 28 = .ok (.putfield 53, 3) := by decide +kernel
theorem dX3_pass_31 : decode cX3_pass 31 = .ok (.iconst 0, 1) := by decide +kernel
theorem dX3_pass_32 : decode cX3_pass 32 = .ok (.istore_n 2, 1) := by decide +kernel
theorem dX3_pass_33 : decode cX3_pass 33 = .ok (.iload_n 2, 1) := by decide +kernel
theorem dX3_pass_34 : decode cX3_pass 34 = .ok (.aload_n 0, 1) := by decide +kernel
theorem dX3_pass_35 : decode cX3_pass 35 = .ok (.getfield 35, 3) := by decide +kernel
theorem dX3_pass_38 : decode cX3_pass 38 = .ok (.if_icmp .ge 76, 3) := by decide +kernel
theorem dX3_pass_41 : decode cX3_pass 41 = .ok (.aload_n 0, 1) := by decide +kernel
theorem dX3_pass_42 : decode cX3_pass 42 = .ok (.getfield 19, 3) := by decide +kernel
theorem dX3_pass_45 : decode cX3_pass 45 = .ok (.iload_n 2, 1) := by decide +kernel
theorem dX3_pass_46 : decode cX3_pass 46 = .ok (.iaload, 1) := by decide +kernel
theorem dX3_pass_47 : decode cX3_pass 47 = .ok (.iconst 1, 1) := by decide +kernel
theorem dX3_pass_48 : decode cX3_pass 48 = .ok (.if_icmp .ne 26, 3) := by decide +kernel
theorem dX3_pass_51 : decode cX3_pass 51 = .ok (.aload_n 0, 1) := by decide +kernel
theorem dX3_pass_52 : decode cX3_pass 52 = .ok (.getfield 22, 3) := by decide +kernel
theorem dX3_pass_55 : decode cX3_pass 55 = .ok (.iload_n 2, 1) := by decide +kernel
theorem dX3_pass_56 : decode cX3_pass 56 = .ok (.dup2, 1) := by decide +kernel
theorem dX3_pass_57 : decode cX3_pass 57 = .ok (.iaload, 1) := by decide +kernel
theorem dX3_pass_58 : decode cX3_pass 58 = .ok (.iload_n 1, 1) := by decide +kernel
theorem dX3_pass_59 : decode cX3_pass 59 = .ok (.iadd, 1) := by decide +kernel
theorem dX3_pass_60 : decode cX3_pass 60 = .ok (.iastore, 1) := by decide +kernel
theorem dX3_pass_61 : decode cX3_pass 61 = .ok (.aload_n 0, 1) := by decide +kernel
theorem dX3_pass_62 : decode cX3_pass 62 = .ok (.getfield 25, 3) := by decide +kernel
theorem dX3_pass_65 : decode cX3_pass 65 = .ok (.iload_n 2, 1) := by decide +kernel
theorem dX3_pass_66 : decode cX3_pass 66 = .ok (.dup2, 1) := by decide +kernel
theorem dX3_pass_67 : decode cX3_pass 67 = .ok (.iaload, 1) := by decide +kernel
theorem dX3_pass_68 : decode cX3_pass 68 = .ok (.iload_n 1, 1) := by decide +kernel
theorem dX3_pass_69 : decode cX3_pass 69 = .ok (.iadd, 1) := by decide +kernel
theorem dX3_pass_70 : decode cX3_pass 70 = .ok (.iastore, 1) := by decide +kernel
theorem dX3_pass_71 : decode cX3_pass 71 = .ok (.goto 37, 3) := by decide +kernel
theorem dX3_pass_74 : decode cX3_pass 74 = .ok (.aload_n 0, 1) := by decide +kernel
theorem dX3_pass_75 : decode cX3_pass 75 = .ok (.getfield 28, 3) := by decide +kernel
theorem dX3_pass_78 : decode cX3_pass 78 = .ok (.iload_n 2, 1) := by decide +kernel
theorem dX3_pass_79 : decode cX3_pass 79 = .ok (.aload_n 0, 1) := by decide +kernel
theorem dX3_pass_80 : decode cX3_pass 80 = .ok (.getfield 28, 3) := by decide +kernel
theorem dX3_pass_83 : decode cX3_pass 83 = .ok (.iload_n 2, 1) := by decide +kernel
theorem dX3_pass_84 : decode cX3_pass 84 = .ok (.iaload, 1) := by decide +kernel
theorem dX3_pass_85 : decode cX3_pass 85 = .ok (.bipush 20, 2) := by decide +kernel
theorem dX3_pass_87 : decode cX3_pass 87 = .ok (.iload_n 1, 1) := by decide +kernel
theorem dX3_pass_88 : decode cX3_pass 88 = .ok (.imul, 1) := by decide +kernel
theorem dX3_pass_89 : decode cX3_pass 89 = .ok (.if_icmp .le 17, 3) := by decide +kernel
theorem dX3_pass_92 : decode cX3_pass 92 = .ok (.aload_n 0, 1) := by decide +kernel
theorem dX3_pass_93 : decode cX3_pass 93 = .ok (.getfield 28, 3) := by decide +kernel
theorem dX3_pass_96 : decode cX3_pass 96 = .ok (.iload_n 2, 1) := by decide +kernel
theorem dX3_pass_97 : decode cX3_pass 97 = .ok (.iaload, 1) := by decide +kernel
theorem dX3_pass_98 : decode cX3_pass 98 = .ok (.bipush 20, 2) := by decide +kernel
theorem dX3_pass_100 : decode cX3_pass 100 = .ok (.iload_n 1, 1) := by decide +kernel
theorem dX3_pass_101 : decode cX3_pass 101 = .ok (.imul, 1) := by decide +kernel
theorem dX3_pass_102 : decode cX3_pass 102 = .ok (.isub, 1) := by decide +kernel
theorem dX3_pass_103 : decode cX3_pass 103 = .ok (.goto 4, 3) := by decide +kernel
theorem dX3_pass_106 : decode cX3_pass 106 = .ok (.iconst 0, 1) := by decide +kernel
theorem dX3_pass_107 : decode cX3_pass 107 = .ok (.iastore, 1) := by decide +kernel
theorem dX3_pass_108 : decode cX3_pass 108 = .ok (.iinc 2 1, 3) := by decide +kernel
theorem dX3_pass_111 : decode cX3_pass 111 = .ok (.goto (-78), 3) := by decide +kernel
theorem dX3_pass_114 : decode cX3_pass 114 = .ok (.aload_n 0, 1) := by decide +kernel
theorem dX3_pass_115 : decode cX3_pass 115 = .ok (.getfield 53, 3) := by decide +kernel
theorem dX3_pass_118 : decode cX3_pass 118 = .ok (.ireturn, 1) := by decide +kernel
theorem dX3_coldThen_0 : decode cX3_coldThen 0 = .ok (.aload_n 0, 1) := by decide +kernel
theorem dX3_coldThen_1 : decode cX3_coldThen 1 = .ok (.getfield 25, 3) := by decide +kernel
theorem dX3_coldThen_4 : decode cX3_coldThen 4 = .ok (.iload_n 1, 1) := by decide +kernel
theorem dX3_coldThen_5 : decode cX3_coldThen 5 = .ok (.iaload, 1) := by decide +kernel
theorem dX3_coldThen_6 : decode cX3_coldThen 6 = .ok (.bipush 10, 2) := by decide +kernel
theorem dX3_coldThen_8 : decode cX3_coldThen 8 = .ok (.if_icmp .le 8, 3) := by decide +kernel
theorem dX3_coldThen_11 : decode cX3_coldThen 11 = .ok (.bipush 100, 2) := by decide +kernel
theorem dX3_coldThen_13 : decode cX3_coldThen 13 = .ok (.goto 12, 3) := by decide +kernel
theorem dX3_coldThen_16 : decode cX3_coldThen 16 = .ok (.bipush 10, 2) := by decide +kernel
theorem dX3_coldThen_18 : decode cX3_coldThen 18 = .ok (.aload_n 0, 1) := by decide +kernel
theorem dX3_coldThen_19 : decode cX3_coldThen 19 = .ok (.getfield 25, 3) := by decide +kernel
theorem dX3_coldThen_22 : decode cX3_coldThen 22 = .ok (.iload_n 1, 1) := by decide +kernel
theorem dX3_coldThen_23 : decode cX3_coldThen 23 = .ok (.iaload, 1) := by decide +kernel
theorem dX3_coldThen_24 : decode cX3_coldThen 24 = .ok (.imul, 1) := by decide +kernel
theorem dX3_coldThen_25 : decode cX3_coldThen 25 = .ok (.ireturn, 1) := by decide +kernel
theorem dX3_takesWith_0 : decode cX3_takesWith 0 = .ok (.aload_n 0, 1) := by decide +kernel
theorem dX3_takesWith_1 : decode cX3_takesWith 1 = .ok (.getfield 7, 3) := by decide +kernel
theorem dX3_takesWith_4 : decode cX3_takesWith 4 = .ok (.iload_n 1, 1) := by decide +kernel
theorem dX3_takesWith_5 : decode cX3_takesWith 5 = .ok (.iaload, 1) := by decide +kernel
theorem dX3_takesWith_6 : decode cX3_takesWith 6 = .ok (.bipush 100, 2) := by decide +kernel
theorem dX3_takesWith_8 : decode cX3_takesWith 8 = .ok (.iload_n 2, 1) := by decide +kernel
theorem dX3_takesWith_9 : decode cX3_takesWith 9 = .ok (.iadd, 1) := by decide +kernel
theorem dX3_takesWith_10 : decode cX3_takesWith 10 = .ok (.imul, 1) := by decide +kernel
theorem dX3_takesWith_11 : decode cX3_takesWith 11 = .ok (.bipush 100, 2) := by decide +kernel
theorem dX3_takesWith_13 : decode cX3_takesWith 13 = .ok (.idiv, 1) := by decide +kernel
theorem dX3_takesWith_14 : decode cX3_takesWith 14 = .ok (.ireturn, 1) := by decide +kernel
set_option maxRecDepth 20000 in
theorem ggX3_takesOf_X3_takesWith : GoodIn wsX3_takesOf wsX3_takesWith := goodIn_r _ [7, 8, 9, 10, 11, 12, 13, 14, 15, 16, 17, 18, 19] (by decide +kernel) (by decide +kernel)
set_option maxRecDepth 20000 in
theorem gX3_takesOf_X3_takesWith : GoodIn wsX3_takesOf (wsV RX3 56 RX3 yX3_takesWith wsX3_takesWith) := goodIn_app (goodIn_of _ (by decide +kernel)) ggX3_takesOf_X3_takesWith
theorem dX3_takesOf_0 : decode cX3_takesOf 0 = .ok (.aload_n 0, 1) := by decide +kernel
theorem dX3_takesOf_1 : decode cX3_takesOf 1 = .ok (.getfield 19, 3) := by decide +kernel
theorem dX3_takesOf_4 : decode cX3_takesOf 4 = .ok (.iload_n 1, 1) := by decide +kernel
theorem dX3_takesOf_5 : decode cX3_takesOf 5 = .ok (.iaload, 1) := by decide +kernel
theorem dX3_takesOf_6 : decode cX3_takesOf 6 = .ok (.iconst 1, 1) := by decide +kernel
theorem dX3_takesOf_7 : decode cX3_takesOf 7 = .ok (.if_icmp .ne 7, 3) := by decide +kernel
theorem dX3_takesOf_10 : decode cX3_takesOf 10 = .ok (.iconst 0, 1) := by decide +kernel
theorem dX3_takesOf_11 : decode cX3_takesOf 11 = .ok (.goto 14, 3) := by decide +kernel
theorem dX3_takesOf_14 : decode cX3_takesOf 14 = .ok (.aload_n 0, 1) := by decide +kernel
theorem dX3_takesOf_15 : decode cX3_takesOf 15 = .ok (.iload_n 1, 1) := by decide +kernel
theorem dX3_takesOf_16 : decode cX3_takesOf 16 = .ok (.aload_n 0, 1) := by decide +kernel
theorem dX3_takesOf_17 : decode cX3_takesOf 17 = .ok (.getfield 28, 3) := by decide +kernel
theorem dX3_takesOf_20 : decode cX3_takesOf 20 = .ok (.iload_n 1, 1) := by decide +kernel
theorem dX3_takesOf_21 : decode cX3_takesOf 21 = .ok (.iaload, 1) := by decide +kernel
theorem dX3_takesOf_22 : decode cX3_takesOf 22 = .ok (.invokevirtual 56, 3) := by decide +kernel
theorem dX3_takesOf_25 : decode cX3_takesOf 25 = .ok (.ireturn, 1) := by decide +kernel
set_option maxRecDepth 20000 in
theorem ggX3_restoredOf_X3_coldThen : GoodIn wsX3_restoredOf wsX3_coldThen := goodIn_r _ [6, 7, 18, 19, 20, 21, 22, 23, 24, 25, 26, 27, 28] (by decide +kernel) (by decide +kernel)
set_option maxRecDepth 20000 in
theorem gX3_restoredOf_X3_coldThen : GoodIn wsX3_restoredOf (wsV RX3 60 RX3 yX3_coldThen wsX3_coldThen) := goodIn_app (goodIn_of _ (by decide +kernel)) ggX3_restoredOf_X3_coldThen
set_option maxRecDepth 20000 in
theorem ggX3_restoredOf_X3_takesWith : GoodIn wsX3_restoredOf wsX3_takesWith := goodIn_r _ [11, 12, 18, 19, 20, 21, 22, 23, 24, 25, 26, 27, 28] (by decide +kernel) (by decide +kernel)
set_option maxRecDepth 20000 in
theorem gX3_restoredOf_X3_takesWith : GoodIn wsX3_restoredOf (wsV RX3 56 RX3 yX3_takesWith wsX3_takesWith) := goodIn_app (goodIn_of _ (by decide +kernel)) ggX3_restoredOf_X3_takesWith
set_option maxRecDepth 20000 in
theorem ggX3_restoredOf_X3_takesOf : GoodIn wsX3_restoredOf wsX3_takesOf := goodIn_r _ [16, 1, 17, 8, 9, 10, 5, 11, 12, 18, 19, 20, 21, 22, 23, 24, 25, 26, 27, 28] (by decide +kernel) (by decide +kernel)
set_option maxRecDepth 20000 in
theorem gX3_restoredOf_X3_takesOf : GoodIn wsX3_restoredOf (wsV RX3 63 RX3 yX3_takesOf wsX3_takesOf) := goodIn_app (goodIn_of _ (by decide +kernel)) ggX3_restoredOf_X3_takesOf
theorem dX3_restoredOf_0 : decode cX3_restoredOf 0 = .ok (.aload_n 0, 1) := by decide +kernel
theorem dX3_restoredOf_1 : decode cX3_restoredOf 1 = .ok (.getfield 19, 3) := by decide +kernel
theorem dX3_restoredOf_4 : decode cX3_restoredOf 4 = .ok (.iload_n 1, 1) := by decide +kernel
theorem dX3_restoredOf_5 : decode cX3_restoredOf 5 = .ok (.iaload, 1) := by decide +kernel
theorem dX3_restoredOf_6 : decode cX3_restoredOf 6 = .ok (.iconst 1, 1) := by decide +kernel
theorem dX3_restoredOf_7 : decode cX3_restoredOf 7 = .ok (.if_icmp .ne 16, 3) := by decide +kernel
theorem dX3_restoredOf_10 : decode cX3_restoredOf 10 = .ok (.aload_n 0, 1) := by decide +kernel
theorem dX3_restoredOf_11 : decode cX3_restoredOf 11 = .ok (.iload_n 1, 1) := by decide +kernel
theorem dX3_restoredOf_12 : decode cX3_restoredOf 12 = .ok (.aload_n 0, 1) := by decide +kernel
theorem dX3_restoredOf_13 : decode cX3_restoredOf 13 = .ok (.iload_n 1, 1) := by decide +kernel
theorem dX3_restoredOf_14 : decode cX3_restoredOf 14 = .ok (.invokevirtual 60, 3) := by decide +kernel
theorem dX3_restoredOf_17 : decode cX3_restoredOf 17 = .ok (.invokevirtual 56, 3) := by decide +kernel
theorem dX3_restoredOf_20 : decode cX3_restoredOf 20 = .ok (.goto 8, 3) := by decide +kernel
theorem dX3_restoredOf_23 : decode cX3_restoredOf 23 = .ok (.aload_n 0, 1) := by decide +kernel
theorem dX3_restoredOf_24 : decode cX3_restoredOf 24 = .ok (.iload_n 1, 1) := by decide +kernel
theorem dX3_restoredOf_25 : decode cX3_restoredOf 25 = .ok (.invokevirtual 63, 3) := by decide +kernel
theorem dX3_restoredOf_28 : decode cX3_restoredOf 28 = .ok (.ireturn, 1) := by decide +kernel
set_option maxRecDepth 20000 in
theorem ggX3_cutOff_X3_takesOf : GoodIn wsX3_cutOff wsX3_takesOf := goodIn_r _ [8, 1, 3, 9, 10, 11, 7, 12, 13, 14, 15, 16, 17, 18, 19, 20, 21, 22, 23, 24] (by decide +kernel) (by decide +kernel)
set_option maxRecDepth 20000 in
theorem gX3_cutOff_X3_takesOf : GoodIn wsX3_cutOff (wsV RX3 63 RX3 yX3_takesOf wsX3_takesOf) := goodIn_app (goodIn_of _ (by decide +kernel)) ggX3_cutOff_X3_takesOf
theorem dX3_cutOff_0 : decode cX3_cutOff 0 = .ok (.aload_n 0, 1) := by decide +kernel
theorem dX3_cutOff_1 : decode cX3_cutOff 1 = .ok (.iload_n 1, 1) := by decide +kernel
theorem dX3_cutOff_2 : decode cX3_cutOff 2 = .ok (.invokevirtual 63, 3) := by decide +kernel
theorem dX3_cutOff_5 : decode cX3_cutOff 5 = .ok (.istore_n 2, 1) := by decide +kernel
theorem dX3_cutOff_6 : decode cX3_cutOff 6 = .ok (.aload_n 0, 1) := by decide +kernel
theorem dX3_cutOff_7 : decode cX3_cutOff 7 = .ok (.getfield 19, 3) := by decide +kernel
theorem dX3_cutOff_10 : decode cX3_cutOff 10 = .ok (.iload_n 1, 1) := by decide +kernel
theorem dX3_cutOff_11 : decode cX3_cutOff 11 = .ok (.iconst 1, 1) := by decide +kernel
theorem dX3_cutOff_12 : decode cX3_cutOff 12 = .ok (.iastore, 1) := by decide +kernel
theorem dX3_cutOff_13 : decode cX3_cutOff 13 = .ok (.aload_n 0, 1) := by decide +kernel
theorem dX3_cutOff_14 : decode cX3_cutOff 14 = .ok (.getfield 25, 3) := by decide +kernel
theorem dX3_cutOff_17 : decode cX3_cutOff 17 = .ok (.iload_n 1, 1) := by decide +kernel
theorem dX3_cutOff_18 : decode cX3_cutOff 18 = .ok (.iconst 0, 1) := by decide +kernel
theorem dX3_cutOff_19 : decode cX3_cutOff 19 = .ok (.iastore, 1) := by decide +kernel
theorem dX3_cutOff_20 : decode cX3_cutOff 20 = .ok (.aload_n 0, 1) := by decide +kernel
theorem dX3_cutOff_21 : decode cX3_cutOff 21 = .ok (.getfield 28, 3) := by decide +kernel
theorem dX3_cutOff_24 : decode cX3_cutOff 24 = .ok (.iload_n 1, 1) := by decide +kernel
theorem dX3_cutOff_25 : decode cX3_cutOff 25 = .ok (.iconst 0, 1) := by decide +kernel
theorem dX3_cutOff_26 : decode cX3_cutOff 26 = .ok (.iastore, 1) := by decide +kernel
theorem dX3_cutOff_27 : decode cX3_cutOff 27 = .ok (.iload_n 2, 1) := by decide +kernel
theorem dX3_cutOff_28 : decode cX3_cutOff 28 = .ok (.ireturn, 1) := by decide +kernel
set_option maxRecDepth 20000 in
theorem ggX3_bringBack_X3_coldThen : GoodIn wsX3_bringBack wsX3_coldThen := goodIn_r _ [8, 3, 9, 10, 11, 12, 13, 14, 15, 16, 17, 18, 19] (by decide +kernel) (by decide +kernel)
set_option maxRecDepth 20000 in
theorem gX3_bringBack_X3_coldThen : GoodIn wsX3_bringBack (wsV RX3 60 RX3 yX3_coldThen wsX3_coldThen) := goodIn_app (goodIn_of _ (by decide +kernel)) ggX3_bringBack_X3_coldThen
theorem dX3_bringBack_0 : decode cX3_bringBack 0 = .ok (.aload_n 0, 1) := by decide +kernel
theorem dX3_bringBack_1 : decode cX3_bringBack 1 = .ok (.getfield 28, 3) := by decide +kernel
theorem dX3_bringBack_4 : decode cX3_bringBack 4 = .ok (.iload_n 1, 1) := by decide +kernel
theorem dX3_bringBack_5 : decode cX3_bringBack 5 = .ok (.aload_n 0, 1) := by decide +kernel
theorem dX3_bringBack_6 : decode cX3_bringBack 6 = .ok (.iload_n 1, 1) := by decide +kernel
theorem dX3_bringBack_7 : decode cX3_bringBack 7 = .ok (.invokevirtual 60, 3) := by decide +kernel
theorem dX3_bringBack_10 : decode cX3_bringBack 10 = .ok (.iastore, 1) := by decide +kernel
theorem dX3_bringBack_11 : decode cX3_bringBack 11 = .ok (.aload_n 0, 1) := by decide +kernel
theorem dX3_bringBack_12 : decode cX3_bringBack 12 = .ok (.getfield 19, 3) := by decide +kernel
theorem dX3_bringBack_15 : decode cX3_bringBack 15 = .ok (.iload_n 1, 1) := by decide +kernel
theorem dX3_bringBack_16 : decode cX3_bringBack 16 = .ok (.iconst 0, 1) := by decide +kernel
theorem dX3_bringBack_17 : decode cX3_bringBack 17 = .ok (.iastore, 1) := by decide +kernel
theorem dX3_bringBack_18 : decode cX3_bringBack 18 = .ok (.aload_n 0, 1) := by decide +kernel
theorem dX3_bringBack_19 : decode cX3_bringBack 19 = .ok (.getfield 25, 3) := by decide +kernel
theorem dX3_bringBack_22 : decode cX3_bringBack 22 = .ok (.iload_n 1, 1) := by decide +kernel
theorem dX3_bringBack_23 : decode cX3_bringBack 23 = .ok (.iconst 0, 1) := by decide +kernel
theorem dX3_bringBack_24 : decode cX3_bringBack 24 = .ok (.iastore, 1) := by decide +kernel
theorem dX3_bringBack_25 : decode cX3_bringBack 25 = .ok (.return_, 1) := by decide +kernel
theorem dX3_isFree_0 : decode cX3_isFree 0 = .ok (.aload_n 0, 1) := by decide +kernel
theorem dX3_isFree_1 : decode cX3_isFree 1 = .ok (.getfield 19, 3) := by decide +kernel
theorem dX3_isFree_4 : decode cX3_isFree 4 = .ok (.iload_n 1, 1) := by decide +kernel
theorem dX3_isFree_5 : decode cX3_isFree 5 = .ok (.iaload, 1) := by decide +kernel
theorem dX3_isFree_6 : decode cX3_isFree 6 = .ok (.ifCond .ne 16, 3) := by decide +kernel
theorem dX3_isFree_9 : decode cX3_isFree 9 = .ok (.aload_n 0, 1) := by decide +kernel
theorem dX3_isFree_10 : decode cX3_isFree 10 = .ok (.getfield 13, 3) := by decide +kernel
theorem dX3_isFree_13 : decode cX3_isFree 13 = .ok (.iload_n 1, 1) := by decide +kernel
theorem dX3_isFree_14 : decode cX3_isFree 14 = .ok (.iaload, 1) := by decide +kernel
theorem dX3_isFree_15 : decode cX3_isFree 15 = .ok (.ifCond .ne 7, 3) := by decide +kernel
theorem dX3_isFree_18 : decode cX3_isFree 18 = .ok (.iconst 1, 1) := by decide +kernel
theorem dX3_isFree_19 : decode cX3_isFree 19 = .ok (.goto 4, 3) := by decide +kernel
theorem dX3_isFree_22 : decode cX3_isFree 22 = .ok (.iconst 0, 1) := by decide +kernel
theorem dX3_isFree_23 : decode cX3_isFree 23 = .ok (.ireturn, 1) := by decide +kernel
set_option maxRecDepth 20000 in
theorem ggX3_choose_X3_isFree : GoodIn wsX3_choose wsX3_isFree := goodIn_r _ [8, 9, 10, 21, 22, 23, 24, 25, 26, 27, 28, 29, 30, 31] (by decide +kernel) (by decide +kernel)
set_option maxRecDepth 20000 in
theorem gX3_choose_X3_isFree : GoodIn wsX3_choose (wsV RX3 66 RX3 yX3_isFree wsX3_isFree) := goodIn_app (goodIn_of _ (by decide +kernel)) ggX3_choose_X3_isFree
set_option maxRecDepth 20000 in
theorem ggX3_choose_X3_takesOf : GoodIn wsX3_choose wsX3_takesOf := goodIn_r _ [14, 9, 15, 16, 17, 18, 7, 19, 20, 21, 22, 23, 24, 25, 26, 27, 28, 29, 30, 31] (by decide +kernel) (by decide +kernel)
set_option maxRecDepth 20000 in
theorem gX3_choose_X3_takesOf : GoodIn wsX3_choose (wsV RX3 63 RX3 yX3_takesOf wsX3_takesOf) := goodIn_app (goodIn_of _ (by decide +kernel)) ggX3_choose_X3_takesOf
theorem dX3_choose_0 : decode cX3_choose 0 = .ok (.iconst 0, 1) := by decide +kernel
theorem dX3_choose_1 : decode cX3_choose 1 = .ok (.istore_n 2, 1) := by decide +kernel
theorem dX3_choose_2 : decode cX3_choose 2 = .ok (.iconst 0, 1) := by decide +kernel
theorem dX3_choose_3 : decode cX3_choose 3 = .ok (.istore_n 3, 1) := by decide +kernel
theorem dX3_choose_4 : decode cX3_choose 4 = .ok (.iconst 0, 1) := by decide +kernel
theorem dX3_choose_5 : decode cX3_choose 5 = .ok (.istore 4, 2) := by decide +kernel
theorem dX3_choose_7 : decode cX3_choose 7 = .ok (.iconst 0, 1) := by decide +kernel
theorem dX3_choose_8 : decode cX3_choose 8 = .ok (.istore 5, 2) := by decide +kernel
theorem dX3_choose_10 : decode cX3_choose 10 = .ok (.iconst 1, 1) := by decide +kernel
theorem dX3_choose_11 : decode cX3_choose 11 = .ok (.istore 6, 2) := by decide +kernel
theorem dX3_choose_13 : decode cX3_choose 13 = .ok (.iload 6, 2) := by decide +kernel
theorem dX3_choose_15 : decode cX3_choose 15 = .ok (.iconst 1, 1) := by decide +kernel
theorem dX3_choose_16 : decode cX3_choose 16 = .ok (.aload_n 0, 1) := by decide +kernel
theorem dX3_choose_17 : decode cX3_choose 17 = .ok (.getfield 35, 3) := by decide +kernel
theorem dX3_choose_20 : decode cX3_choose 20 = .ok (.ishl, 1) := by decide +kernel
theorem dX3_choose_21 : decode cX3_choose 21 = .ok (.if_icmp .ge 222, 3) := by decide +kernel
theorem dX3_choose_24 : decode cX3_choose 24 = .ok (.iconst 1, 1) := by decide +kernel
theorem dX3_choose_25 : decode cX3_choose 25 = .ok (.istore 7, 2) := by decide +kernel
theorem dX3_choose_27 : decode cX3_choose 27 = .ok (.iconst 0, 1) := by decide +kernel
theorem dX3_choose_28 : decode cX3_choose 28 = .ok (.istore 8, 2) := by decide +kernel
theorem dX3_choose_30 : decode cX3_choose 30 = .ok (.iconst 0, 1) := by decide +kernel
theorem dX3_choose_31 : decode cX3_choose 31 = .ok (.istore 9, 2) := by decide +kernel
theorem dX3_choose_33 : decode cX3_choose 33 = .ok (.iconst 0, 1) := by decide +kernel
theorem dX3_choose_34 : decode cX3_choose 34 = .ok (.istore 10, 2) := by decide +kernel
theorem dX3_choose_36 : decode cX3_choose 36 = .ok (.iload 10, 2) := by decide +kernel
theorem dX3_choose_38 : decode cX3_choose 38 = .ok (.aload_n 0, 1) := by decide +kernel
theorem dX3_choose_39 : decode cX3_choose 39 = .ok (.getfield 35, 3) := by decide +kernel
theorem dX3_choose_42 : decode cX3_choose 42 = .ok (.if_icmp .ge 54, 3) := by decide +kernel
theorem dX3_choose_45 : decode cX3_choose 45 = .ok (.iload 6, 2) := by decide +kernel
theorem dX3_choose_47 : decode cX3_choose 47 = .ok (.iload 10, 2) := by decide +kernel
theorem dX3_choose_49 : decode cX3_choose 49 = .ok (.ishr, 1) := by decide +kernel
theorem dX3_choose_50 : decode cX3_choose 50 = .ok (.iconst 1, 1) := by decide +kernel
theorem dX3_choose_51 : decode cX3_choose 51 = .ok (.iand, 1) := by decide +kernel
theorem dX3_choose_52 : decode cX3_choose 52 = .ok (.iconst 1, 1) := by decide +kernel
theorem dX3_choose_53 : decode cX3_choose 53 = .ok (.if_icmp .ne 37, 3) := by decide +kernel
theorem dX3_choose_56 : decode cX3_choose 56 = .ok (.iload 7, 2) := by decide +kernel
theorem dX3_choose_58 : decode cX3_choose 58 = .ok (.aload_n 0, 1) := by decide +kernel
theorem dX3_choose_59 : decode cX3_choose 59 = .ok (.iload 10, 2) := by decide +kernel
theorem dX3_choose_61 : decode cX3_choose 61 = .ok (.invokevirtual 66, 3) := by decide +kernel
theorem dX3_choose_64 : decode cX3_choose 64 = .ok (.iand, 1) := by decide +kernel
theorem dX3_choose_65 : decode cX3_choose 65 = .ok (.istore 7, 2) := by decide +kernel
theorem dX3_choose_67 : decode cX3_choose 67 = .ok (.iload 8, 2) := by decide +kernel
theorem dX3_choose_69 : decode cX3_choose 69 = .ok (.aload_n 0, 1) := by decide +kernel
theorem dX3_choose_70 : decode cX3_choose 70 = .ok (.iload 10, 2) := by decide +kernel
theorem dX3_choose_72 : decode cX3_choose 72 = .ok (.invokevirtual 63, 3) := by decide +kernel
theorem dX3_choose_75 : decode cX3_choose 75 = .ok (.iadd, 1) := by decide +kernel
theorem dX3_choose_76 : decode cX3_choose 76 = .ok (.istore 8, 2) := by decide +kernel
theorem dX3_choose_78 : decode cX3_choose 78 = .ok (.iload 9, 2) := by decide +kernel
theorem dX3_choose_80 : decode cX3_choose 80 = .ok (.aload_n 0, 1) := by decide +kernel
theorem dX3_choose_81 : decode cX3_choose 81 = .ok (.getfield 22, 3) := by decide +kernel
theorem dX3_choose_84 : decode cX3_choose 84 = .ok (.iload 10, 2) := by decide +kernel
theorem dX3_choose_86 : decode cX3_choose 86 = .ok (.iaload, 1) := by decide +kernel
theorem dX3_choose_87 : decode cX3_choose 87 = .ok (.iadd, 1) := by decide +kernel
theorem dX3_choose_88 : decode cX3_choose 88 = .ok (.istore 9, 2) := by decide +kernel
theorem dX3_choose_90 : decode cX3_choose 90 = .ok (.iinc 10 1, 3) := by decide +kernel
theorem dX3_choose_93 : decode cX3_choose 93 = .ok (.goto (-57), 3) := by decide +kernel
theorem dX3_choose_96 : decode cX3_choose 96 = .ok (.iload 8, 2) := by decide +kernel
theorem dX3_choose_98 : decode cX3_choose 98 = .ok (.iload_n 1, 1) := by decide +kernel
theorem dX3_choose_99 : decode cX3_choose 99 = .ok (.aload_n 0, 1) := by decide +kernel
theorem dX3_choose_100 : decode cX3_choose 100 = .ok (.getfield 50, 3) := by decide +kernel
theorem dX3_choose_103 : decode cX3_choose 103 = .ok (.iadd, 1) := by decide +kernel
theorem dX3_choose_104 : decode cX3_choose 104 = .ok (.if_icmp .gt 7, 3) := by decide +kernel
theorem dX3_choose_107 : decode cX3_choose 107 = .ok (.iconst 1, 1) := by decide +kernel
theorem dX3_choose_108 : decode cX3_choose 108 = .ok (.goto 4, 3) := by decide +kernel
theorem dX3_choose_111 : decode cX3_choose 111 = .ok (.iconst 0, 1) := by decide +kernel
theorem dX3_choose_112 : decode cX3_choose 112 = .ok (.istore 10, 2) := by decide +kernel
theorem dX3_choose_114 : decode cX3_choose 114 = .ok (.iload_n 2, 1) := by decide +kernel
theorem dX3_choose_115 : decode cX3_choose 115 = .ok (.ifCond .eq 13, 3) := by decide +kernel
theorem dX3_choose_118 : decode cX3_choose 118 = .ok (.iload 10, 2) := by decide +kernel
theorem dX3_choose_120 : decode cX3_choose 120 = .ok (.ifCond .eq 12, 3) := by decide +kernel
theorem dX3_choose_123 : decode cX3_choose 123 = .ok (.iload 5, 2) := by decide +kernel
theorem dX3_choose_125 : decode cX3_choose 125 = .ok (.ifCond .ne 7, 3) := by decide +kernel
theorem dX3_choose_128 : decode cX3_choose 128 = .ok (.iconst 1, 1) := by decide +kernel
theorem dX3_choose_129 : decode cX3_choose 129 = .ok (.goto 4, 3) := by decide +kernel
theorem dX3_choose_132 : decode cX3_choose 132 = .ok (.iconst 0, 1) := by decide +kernel
theorem dX3_choose_133 : decode cX3_choose 133 = .ok (.istore 11, 2) := by decide +kernel
theorem dX3_choose_135 : decode cX3_choose 135 = .ok (.iload 11, 2) := by decide +kernel
theorem dX3_choose_137 : decode cX3_choose 137 = .ok (.ifCond .ne 70, 3) := by decide +kernel
theorem dX3_choose_140 : decode cX3_choose 140 = .ok (.iload 10, 2) := by decide +kernel
theorem dX3_choose_142 : decode cX3_choose 142 = .ok (.iload 5, 2) := by decide +kernel
theorem dX3_choose_144 : decode cX3_choose 144 = .ok (.if_icmp .ne 63, 3) := by decide +kernel
theorem dX3_choose_147 : decode cX3_choose 147 = .ok (.iload 10, 2) := by decide +kernel
theorem dX3_choose_149 : decode cX3_choose 149 = .ok (.ifCond .eq 11, 3) := by decide +kernel
theorem dX3_choose_152 : decode cX3_choose 152 = .ok (.iload 9, 2) := by decide +kernel
theorem dX3_choose_154 : decode cX3_choose 154 = .ok (.iload 4, 2) := by decide +kernel
theorem dX3_choose_156 : decode cX3_choose 156 = .ok (.isub, 1) := by decide +kernel
theorem dX3_choose_157 : decode cX3_choose 157 = .ok (.goto 7, 3) := by decide +kernel
theorem dX3_choose_160 : decode cX3_choose 160 = .ok (.iload 8, 2) := by decide +kernel
theorem dX3_choose_162 : decode cX3_choose 162 = .ok (.iload_n 3, 1) := by decide +kernel
theorem dX3_choose_163 : decode cX3_choose 163 = .ok (.isub, 1) := by decide +kernel
theorem dX3_choose_164 : decode cX3_choose 164 = .ok (.istore 12, 2) := by decide +kernel
theorem dX3_choose_166 : decode cX3_choose 166 = .ok (.iload 12, 2) := by decide +kernel
theorem dX3_choose_168 : decode cX3_choose 168 = .ok (.ifCond .eq 8, 3) := by decide +kernel
theorem dX3_choose_171 : decode cX3_choose 171 = .ok (.iload 12, 2) := by decide +kernel
theorem dX3_choose_173 : decode cX3_choose 173 = .ok (.goto 20, 3) := by decide +kernel
theorem dX3_choose_176 : decode cX3_choose 176 = .ok (.iload 10, 2) := by decide +kernel
theorem dX3_choose_178 : decode cX3_choose 178 = .ok (.ifCond .eq 10, 3) := by decide +kernel
theorem dX3_choose_181 : decode cX3_choose 181 = .ok (.iload 8, 2) := by decide +kernel
theorem dX3_choose_183 : decode cX3_choose 183 = .ok (.iload_n 3, 1) := by decide +kernel
theorem dX3_choose_184 : decode cX3_choose 184 = .ok (.isub, 1) := by decide +kernel
theorem dX3_choose_185 : decode cX3_choose 185 = .ok (.goto 8, 3) := by decide +kernel
theorem dX3_choose_188 : decode cX3_choose 188 = .ok (.iload 9, 2) := by decide +kernel
theorem dX3_choose_190 : decode cX3_choose 190 = .ok (.iload 4, 2) := by decide +kernel
theorem dX3_choose_192 : decode cX3_choose 192 = .ok (.isub, 1) := by decide +kernel
theorem dX3_choose_193 : decode cX3_choose 193 = .ok (.istore 12, 2) := by decide +kernel
theorem dX3_choose_195 : decode cX3_choose 195 = .ok (.iload 12, 2) := by decide +kernel
theorem dX3_choose_197 : decode cX3_choose 197 = .ok (.ifCond .ge 7, 3) := by decide +kernel
theorem dX3_choose_200 : decode cX3_choose 200 = .ok (.iconst 1, 1) := by decide +kernel
theorem dX3_choose_201 : decode cX3_choose 201 = .ok (.goto 4, 3) := by decide +kernel
theorem dX3_choose_204 : decode cX3_choose 204 = .ok (.iconst 0, 1) := by decide +kernel
theorem dX3_choose_205 : decode cX3_choose 205 = .ok (.istore 11, 2) := by decide +kernel
theorem dX3_choose_207 : decode cX3_choose 207 = .ok (.iload 7, 2) := by decide +kernel
theorem dX3_choose_209 : decode cX3_choose 209 = .ok (.ifCond .eq 28, 3) := by decide +kernel
theorem dX3_choose_212 : decode cX3_choose 212 = .ok (.iload 8, 2) := by decide +kernel
theorem dX3_choose_214 : decode cX3_choose 214 = .ok (.iload_n 1, 1) := by decide +kernel
theorem dX3_choose_215 : decode cX3_choose 215 = .ok (.if_icmp .lt 22, 3) := by decide +kernel
theorem dX3_choose_218 : decode cX3_choose 218 = .ok (.iload 11, 2) := by decide +kernel
theorem dX3_choose_220 : decode cX3_choose 220 = .ok (.ifCond .eq 17, 3) := by decide +kernel
theorem dX3_choose_223 : decode cX3_choose 223 = .ok (.iload 6, 2) := by decide +kernel
theorem dX3_choose_225 : decode cX3_choose 225 = .ok (.istore_n 2, 1) := by decide +kernel
theorem dX3_choose_226 : decode cX3_choose 226 = .ok (.iload 8, 2) := by decide +kernel
theorem dX3_choose_228 : decode cX3_choose 228 = .ok (.istore_n 3, 1) := by decide +kernel
theorem dX3_choose_229 : decode cX3_choose 229 = .ok (.iload 9, 2) := by decide +kernel
theorem dX3_choose_231 : decode cX3_choose 231 = .ok (.istore 4, 2) := by decide +kernel
theorem dX3_choose_233 : decode cX3_choose 233 = .ok (.iload 10, 2) := by decide +kernel
theorem dX3_choose_235 : decode cX3_choose 235 = .ok (.istore 5, 2) := by decide +kernel
theorem dX3_choose_237 : decode cX3_choose 237 = .ok (.iinc 6 1, 3) := by decide +kernel
theorem dX3_choose_240 : decode cX3_choose 240 = .ok (.goto (-227), 3) := by decide +kernel
theorem dX3_choose_243 : decode cX3_choose 243 = .ok (.iload_n 2, 1) := by decide +kernel
theorem dX3_choose_244 : decode cX3_choose 244 = .ok (.ireturn, 1) := by decide +kernel
set_option maxRecDepth 20000 in
theorem ggX3_cutAll_X3_cutOff : GoodIn wsX3_cutAll wsX3_cutOff := goodIn_r _ [6, 7, 8, 9, 10, 11, 12, 5, 13, 14, 15, 16, 17, 18, 19, 20, 21, 22, 23, 24, 25, 26, 27, 28, 29] (by decide +kernel) (by decide +kernel)
set_option maxRecDepth 20000 in
theorem gX3_cutAll_X3_cutOff : GoodIn wsX3_cutAll (wsV RX3 69 RX3 yX3_cutOff wsX3_cutOff) := goodIn_app (goodIn_of _ (by decide +kernel)) ggX3_cutAll_X3_cutOff
theorem dX3_cutAll_0 : decode cX3_cutAll 0 = .ok (.iconst 0, 1) := by decide +kernel
theorem dX3_cutAll_1 : decode cX3_cutAll 1 = .ok (.istore_n 2, 1) := by decide +kernel
theorem dX3_cutAll_2 : decode cX3_cutAll 2 = .ok (.iconst 0, 1) := by decide +kernel
theorem dX3_cutAll_3 : decode cX3_cutAll 3 = .ok (.istore_n 3, 1) := by decide +kernel
theorem dX3_cutAll_4 : decode cX3_cutAll 4 = .ok (.iload_n 3, 1) := by decide +kernel
theorem dX3_cutAll_5 : decode cX3_cutAll 5 = .ok (.aload_n 0, 1) := by decide +kernel
theorem dX3_cutAll_6 : decode cX3_cutAll 6 = .ok (.getfield 35, 3) := by decide +kernel
theorem dX3_cutAll_9 : decode cX3_cutAll 9 = .ok (.if_icmp .ge 30, 3) := by decide +kernel
theorem dX3_cutAll_12 : decode cX3_cutAll 12 = .ok (.iload_n 2, 1) := by decide +kernel
theorem dX3_cutAll_13 : decode cX3_cutAll 13 = .ok (.iload_n 1, 1) := by decide +kernel
theorem dX3_cutAll_14 : decode cX3_cutAll 14 = .ok (.iload_n 3, 1) := by decide +kernel
theorem dX3_cutAll_15 : decode cX3_cutAll 15 = .ok (.ishr, 1) := by decide +kernel
theorem dX3_cutAll_16 : decode cX3_cutAll 16 = .ok (.iconst 1, 1) := by decide +kernel
theorem dX3_cutAll_17 : decode cX3_cutAll 17 = .ok (.iand, 1) := by decide +kernel
theorem dX3_cutAll_18 : decode cX3_cutAll 18 = .ok (.iconst 1, 1) := by decide +kernel
theorem dX3_cutAll_19 : decode cX3_cutAll 19 = .ok (.if_icmp .ne 11, 3) := by decide +kernel
theorem dX3_cutAll_22 : decode cX3_cutAll 22 = .ok (.aload_n 0, 1) := by decide +kernel
theorem dX3_cutAll_23 : decode cX3_cutAll 23 = .ok (.iload_n 3, 1) := by decide +kernel
theorem dX3_cutAll_24 : decode cX3_cutAll 24 = .ok (.invokevirtual 69, 3) := by decide +kernel
theorem dX3_cutAll_27 : decode cX3_cutAll 27 = .ok (.goto 4, 3) := by decide +kernel
theorem dX3_cutAll_30 : decode cX3_cutAll 30 = .ok (.iconst 0, 1) := by decide +kernel
theorem dX3_cutAll_31 : decode cX3_cutAll 31 = .ok (.iadd, 1) := by decide +kernel
theorem dX3_cutAll_32 : decode cX3_cutAll 32 = .ok (.istore_n 2, 1) := by decide +kernel
theorem dX3_cutAll_33 : decode cX3_cutAll 33 = .ok (.iinc 3 1, 3) := by decide +kernel
theorem dX3_cutAll_36 : decode cX3_cutAll 36 = .ok (.goto (-32), 3) := by decide +kernel
theorem dX3_cutAll_39 : decode cX3_cutAll 39 = .ok (.iload_n 2, 1) := by decide +kernel
theorem dX3_cutAll_40 : decode cX3_cutAll 40 = .ok (.ireturn, 1) := by decide +kernel
set_option maxRecDepth 20000 in
theorem ggX3_relieve_X3_in : GoodIn wsX3_relieve wsX3_in := goodIn_r _ [5] (by decide +kernel) (by decide +kernel)
set_option maxRecDepth 20000 in
theorem gX3_relieve_X3_in : GoodIn wsX3_relieve (va_wsS RX3 38 yX3_in wsX3_in) := goodIn_app (goodIn_of _ (by decide +kernel)) ggX3_relieve_X3_in
set_option maxRecDepth 20000 in
theorem ggX3_relieve_X3_fails : GoodIn wsX3_relieve wsX3_fails := goodIn_r _ [9, 1, 42, 43, 44, 45, 46, 47, 48, 49, 50, 51, 52] (by decide +kernel) (by decide +kernel)
set_option maxRecDepth 20000 in
theorem gX3_relieve_X3_fails : GoodIn wsX3_relieve (wsV RX3 42 RX3 yX3_fails wsX3_fails) := goodIn_app (goodIn_of _ (by decide +kernel)) ggX3_relieve_X3_fails
set_option maxRecDepth 20000 in
theorem ggX3_relieve_X3_choose : GoodIn wsX3_relieve wsX3_choose := goodIn_r _ [13, 14, 15, 16, 17, 18, 19, 4, 20, 21, 22, 23, 24, 25, 26, 27, 28, 29, 30, 31, 32, 42, 43, 44, 45, 46, 47, 48, 49, 50, 51, 52] (by decide +kernel) (by decide +kernel)
set_option maxRecDepth 20000 in
theorem gX3_relieve_X3_choose : GoodIn wsX3_relieve (wsV RX3 72 RX3 yX3_choose wsX3_choose) := goodIn_app (goodIn_of _ (by decide +kernel)) ggX3_relieve_X3_choose
set_option maxRecDepth 20000 in
theorem ggX3_relieve_X3_cutAll : GoodIn wsX3_relieve wsX3_cutAll := goodIn_r _ [36, 14, 37, 38, 39, 4, 40, 21, 41, 27, 23, 24, 25, 26, 28, 29, 30, 31, 32, 42, 43, 44, 45, 46, 47, 48, 49, 50, 51, 52] (by decide +kernel) (by decide +kernel)
set_option maxRecDepth 20000 in
theorem gX3_relieve_X3_cutAll : GoodIn wsX3_relieve (wsV RX3 75 RX3 yX3_cutAll wsX3_cutAll) := goodIn_app (goodIn_of _ (by decide +kernel)) ggX3_relieve_X3_cutAll
theorem dX3_relieve_0 : decode cX3_relieve 0 = .ok (.aload_n 0, 1) := by decide +kernel
theorem dX3_relieve_1 : decode cX3_relieve 1 = .ok (.iconst 0, 1) := by decide +kernel
theorem dX3_relieve_2 : decode cX3_relieve 2 = .ok (.putfield 31, 3) := by decide +kernel
theorem dX3_relieve_5 : decode cX3_relieve 5 = .ok (.iload_n 1, 1) := by decide +kernel
theorem dX3_relieve_6 : decode cX3_relieve 6 = .ok (.iconst 1, 1) := by decide +kernel
theorem dX3_relieve_7 : decode cX3_relieve 7 = .ok (.sipush 20000, 3) := by decide +kernel
theorem dX3_relieve_10 : decode cX3_relieve 10 = .ok (.invokestatic 38, 3) := by decide +kernel
theorem dX3_relieve_13 : decode cX3_relieve 13 = .ok (.ifCond .ne 9, 3) := by decide +kernel
theorem dX3_relieve_16 : decode cX3_relieve 16 = .ok (.aload_n 0, 1) := by decide +kernel
theorem dX3_relieve_17 : decode cX3_relieve 17 = .ok (.iconst 1, 1) := by decide +kernel
theorem dX3_relieve_18 : decode cX3_relieve 18 = .ok (.invokevirtual 42, 3) := by decide +kernel
theorem dX3_relieve_21 : decode cX3_relieve 21 = .ok (.ireturn, 1) := by decide +kernel
theorem dX3_relieve_22 : decode cX3_relieve 22 = .ok (.aload_n 0, 1) := by decide +kernel
theorem dX3_relieve_23 : decode cX3_relieve 23 = .ok (.iload_n 1, 1) := by decide +kernel
theorem dX3_relieve_24 : decode cX3_relieve 24 = .ok (.invokevirtual 72, 3) := by decide +kernel
theorem dX3_relieve_27 : decode cX3_relieve 27 = .ok (.istore_n 2, 1) := by decide +kernel
theorem dX3_relieve_28 : decode cX3_relieve 28 = .ok (.iload_n 2, 1) := by decide +kernel
theorem dX3_relieve_29 : decode cX3_relieve 29 = .ok (.ifCond .ne 11, 3) := by decide +kernel
theorem dX3_relieve_32 : decode cX3_relieve 32 = .ok (.aload_n 0, 1) := by decide +kernel
theorem dX3_relieve_33 : decode cX3_relieve 33 = .ok (.iconst 2, 1) := by decide +kernel
theorem dX3_relieve_34 : decode cX3_relieve 34 = .ok (.invokevirtual 42, 3) := by decide +kernel
theorem dX3_relieve_37 : decode cX3_relieve 37 = .ok (.goto 8, 3) := by decide +kernel
theorem dX3_relieve_40 : decode cX3_relieve 40 = .ok (.aload_n 0, 1) := by decide +kernel
theorem dX3_relieve_41 : decode cX3_relieve 41 = .ok (.iload_n 2, 1) := by decide +kernel
theorem dX3_relieve_42 : decode cX3_relieve 42 = .ok (.invokevirtual 75, 3) := by decide +kernel
theorem dX3_relieve_45 : decode cX3_relieve 45 = .ok (.ireturn, 1) := by decide +kernel
set_option maxRecDepth 20000 in
theorem ggX3_rotate_X3_restoredOf : GoodIn wsX3_rotate wsX3_restoredOf := goodIn_r _ [9, 3, 10, 11, 12, 8, 13, 14, 15, 16, 17, 18, 19, 20, 21, 22, 23, 24, 51, 52, 53, 54, 55, 56, 57, 58, 59, 60, 61] (by decide +kernel) (by decide +kernel)
set_option maxRecDepth 20000 in
theorem gX3_rotate_X3_restoredOf : GoodIn wsX3_rotate (wsV RX3 78 RX3 yX3_restoredOf wsX3_restoredOf) := goodIn_app (goodIn_of _ (by decide +kernel)) ggX3_rotate_X3_restoredOf
set_option maxRecDepth 20000 in
theorem ggX3_rotate_X3_fails : GoodIn wsX3_rotate wsX3_fails := goodIn_r _ [28, 1, 51, 52, 53, 54, 55, 56, 57, 58, 59, 60, 61] (by decide +kernel) (by decide +kernel)
set_option maxRecDepth 20000 in
theorem gX3_rotate_X3_fails : GoodIn wsX3_rotate (wsV RX3 42 RX3 yX3_fails wsX3_fails) := goodIn_app (goodIn_of _ (by decide +kernel)) ggX3_rotate_X3_fails
set_option maxRecDepth 20000 in
theorem ggX3_rotate_X3_choose : GoodIn wsX3_rotate wsX3_choose := goodIn_r _ [32, 2, 33, 34, 35, 36, 37, 8, 38, 3, 4, 20, 21, 22, 23, 24, 15, 16, 17, 18, 19, 51, 52, 53, 54, 55, 56, 57, 58, 59, 60, 61] (by decide +kernel) (by decide +kernel)
set_option maxRecDepth 20000 in
theorem gX3_rotate_X3_choose : GoodIn wsX3_rotate (wsV RX3 72 RX3 yX3_choose wsX3_choose) := goodIn_app (goodIn_of _ (by decide +kernel)) ggX3_rotate_X3_choose
set_option maxRecDepth 20000 in
theorem ggX3_rotate_X3_cutAll : GoodIn wsX3_rotate wsX3_cutAll := goodIn_r _ [42, 2, 43, 44, 45, 8, 46, 3, 14, 24, 20, 21, 22, 23, 15, 16, 17, 18, 19, 51, 52, 53, 54, 55, 56, 57, 58, 59, 60, 61] (by decide +kernel) (by decide +kernel)
set_option maxRecDepth 20000 in
theorem gX3_rotate_X3_cutAll : GoodIn wsX3_rotate (wsV RX3 75 RX3 yX3_cutAll wsX3_cutAll) := goodIn_app (goodIn_of _ (by decide +kernel)) ggX3_rotate_X3_cutAll
set_option maxRecDepth 20000 in
theorem ggX3_rotate_X3_bringBack : GoodIn wsX3_rotate wsX3_bringBack := goodIn_r _ [50, 24, 3, 14, 10, 11, 12, 8, 13, 51, 52, 53, 54, 55, 56, 57, 58, 59, 60, 61] (by decide +kernel) (by decide +kernel)
set_option maxRecDepth 20000 in
theorem gX3_rotate_X3_bringBack : GoodIn wsX3_rotate (wsV RX3 81 RX3 yX3_bringBack wsX3_bringBack) := goodIn_app (goodIn_of _ (by decide +kernel)) ggX3_rotate_X3_bringBack
theorem dX3_rotate_0 : decode cX3_rotate 0 = .ok (.aload_n 0, 1) := by decide +kernel
theorem dX3_rotate_1 : decode cX3_rotate 1 = .ok (.iconst 0, 1) := by decide +kernel
theorem dX3_rotate_2 : decode cX3_rotate 2 = .ok (.putfield 31, 3) := by decide +kernel
theorem dX3_rotate_5 : decode cX3_rotate 5 = .ok (.iconst 0, 1) := by decide +kernel
theorem dX3_rotate_6 : decode cX3_rotate 6 = .ok (.istore_n 1, 1) := by decide +kernel
theorem dX3_rotate_7 : decode cX3_rotate 7 = .ok (.iconst 0, 1) := by decide +kernel
theorem dX3_rotate_8 : decode cX3_rotate 8 = .ok (.istore_n 2, 1) := by decide +kernel
theorem dX3_rotate_9 : decode cX3_rotate 9 = .ok (.iconst 0, 1) := by decide +kernel
theorem dX3_rotate_10 : decode cX3_rotate 10 = .ok (.istore_n 3, 1) := by decide +kernel
theorem dX3_rotate_11 : decode cX3_rotate 11 = .ok (.iconst 0, 1) := by decide +kernel
theorem dX3_rotate_12 : decode cX3_rotate 12 = .ok (.istore 4, 2) := by decide +kernel
theorem dX3_rotate_14 : decode cX3_rotate 14 = .ok (.iload 4, 2) := by decide +kernel
theorem dX3_rotate_16 : decode cX3_rotate 16 = .ok (.aload_n 0, 1) := by decide +kernel
theorem dX3_rotate_17 : decode cX3_rotate 17 = .ok (.getfield 35, 3) := by decide +kernel
theorem dX3_rotate_20 : decode cX3_rotate 20 = .ok (.if_icmp .ge 49, 3) := by decide +kernel
theorem dX3_rotate_23 : decode cX3_rotate 23 = .ok (.aload_n 0, 1) := by decide +kernel
theorem dX3_rotate_24 : decode cX3_rotate 24 = .ok (.getfield 19, 3) := by decide +kernel
theorem dX3_rotate_27 : decode cX3_rotate 27 = .ok (.iload 4, 2) := by decide +kernel
theorem dX3_rotate_29 : decode cX3_rotate 29 = .ok (.iaload, 1) := by decide +kernel
theorem dX3_rotate_30 : decode cX3_rotate 30 = .ok (.iconst 1, 1) := by decide +kernel
theorem dX3_rotate_31 : decode cX3_rotate 31 = .ok (.if_icmp .ne 32, 3) := by decide +kernel
theorem dX3_rotate_34 : decode cX3_rotate 34 = .ok (.aload_n 0, 1) := by decide +kernel
theorem dX3_rotate_35 : decode cX3_rotate 35 = .ok (.getfield 13, 3) := by decide +kernel
theorem dX3_rotate_38 : decode cX3_rotate 38 = .ok (.iload 4, 2) := by decide +kernel
theorem dX3_rotate_40 : decode cX3_rotate 40 = .ok (.iaload, 1) := by decide +kernel
theorem dX3_rotate_41 : decode cX3_rotate 41 = .ok (.ifCond .ne 22, 3) := by decide +kernel
theorem dX3_rotate_44 : decode cX3_rotate 44 = .ok (.iload_n 1, 1) := by decide +kernel
theorem dX3_rotate_45 : decode cX3_rotate 45 = .ok (.iconst 1, 1) := by decide +kernel
theorem dX3_rotate_46 : decode cX3_rotate 46 = .ok (.iload 4, 2) := by decide +kernel
theorem dX3_rotate_48 : decode cX3_rotate 48 = .ok (.ishl, 1) := by decide +kernel
theorem dX3_rotate_49 : decode cX3_rotate 49 = .ok (.ior, 1) := by decide +kernel
theorem dX3_rotate_50 : decode cX3_rotate 50 = .ok (.istore_n 1, 1) := by decide +kernel
theorem dX3_rotate_51 : decode cX3_rotate 51 = .ok (.iload_n 2, 1) := by decide +kernel
theorem dX3_rotate_52 : decode cX3_rotate 52 = .ok (.aload_n 0, 1) := by decide +kernel
theorem dX3_rotate_53 : decode cX3_rotate 53 = .ok (.iload 4, 2) := by decide +kernel
theorem dX3_rotate_55 : decode cX3_rotate 55 = .ok (.invokevirtual 78, 3) := by decide +kernel
theorem dX3_rotate_58 : decode cX3_rotate 58 = .ok (.iadd, 1) := by decide +kernel
theorem dX3_rotate_59 : decode cX3_rotate 59 = .ok (.istore_n 2, 1) := by decide +kernel
theorem dX3_rotate_60 : decode cX3_rotate 60 = .ok (.iinc 3 1, 3) := by decide +kernel
theorem dX3_rotate_63 : decode cX3_rotate 63 = .ok (.iinc 4 1, 3) := by decide +kernel
theorem dX3_rotate_66 : decode cX3_rotate 66 = .ok (.goto (-52), 3) := by decide +kernel
theorem dX3_rotate_69 : decode cX3_rotate 69 = .ok (.iload_n 3, 1) := by decide +kernel
theorem dX3_rotate_70 : decode cX3_rotate 70 = .ok (.ifCond .ne 9, 3) := by decide +kernel
theorem dX3_rotate_73 : decode cX3_rotate 73 = .ok (.aload_n 0, 1) := by decide +kernel
theorem dX3_rotate_74 : decode cX3_rotate 74 = .ok (.iconst 1, 1) := by decide +kernel
theorem dX3_rotate_75 : decode cX3_rotate 75 = .ok (.invokevirtual 42, 3) := by decide +kernel
theorem dX3_rotate_78 : decode cX3_rotate 78 = .ok (.ireturn, 1) := by decide +kernel
theorem dX3_rotate_79 : decode cX3_rotate 79 = .ok (.aload_n 0, 1) := by decide +kernel
theorem dX3_rotate_80 : decode cX3_rotate 80 = .ok (.iload_n 2, 1) := by decide +kernel
theorem dX3_rotate_81 : decode cX3_rotate 81 = .ok (.invokevirtual 72, 3) := by decide +kernel
theorem dX3_rotate_84 : decode cX3_rotate 84 = .ok (.istore 4, 2) := by decide +kernel
theorem dX3_rotate_86 : decode cX3_rotate 86 = .ok (.iload 4, 2) := by decide +kernel
theorem dX3_rotate_88 : decode cX3_rotate 88 = .ok (.ifCond .ne 9, 3) := by decide +kernel
theorem dX3_rotate_91 : decode cX3_rotate 91 = .ok (.aload_n 0, 1) := by decide +kernel
theorem dX3_rotate_92 : decode cX3_rotate 92 = .ok (.iconst 2, 1) := by decide +kernel
theorem dX3_rotate_93 : decode cX3_rotate 93 = .ok (.invokevirtual 42, 3) := by decide +kernel
theorem dX3_rotate_96 : decode cX3_rotate 96 = .ok (.ireturn, 1) := by decide +kernel
theorem dX3_rotate_97 : decode cX3_rotate 97 = .ok (.aload_n 0, 1) := by decide +kernel
theorem dX3_rotate_98 : decode cX3_rotate 98 = .ok (.iload 4, 2) := by decide +kernel
theorem dX3_rotate_100 : decode cX3_rotate 100 = .ok (.invokevirtual 75, 3) := by decide +kernel
theorem dX3_rotate_103 : decode cX3_rotate 103 = .ok (.pop, 1) := by decide +kernel
theorem dX3_rotate_104 : decode cX3_rotate 104 = .ok (.iconst 0, 1) := by decide +kernel
theorem dX3_rotate_105 : decode cX3_rotate 105 = .ok (.istore 5, 2) := by decide +kernel
theorem dX3_rotate_107 : decode cX3_rotate 107 = .ok (.iload 5, 2) := by decide +kernel
theorem dX3_rotate_109 : decode cX3_rotate 109 = .ok (.aload_n 0, 1) := by decide +kernel
theorem dX3_rotate_110 : decode cX3_rotate 110 = .ok (.getfield 35, 3) := by decide +kernel
theorem dX3_rotate_113 : decode cX3_rotate 113 = .ok (.if_icmp .ge 25, 3) := by decide +kernel
theorem dX3_rotate_116 : decode cX3_rotate 116 = .ok (.iload_n 1, 1) := by decide +kernel
theorem dX3_rotate_117 : decode cX3_rotate 117 = .ok (.iload 5, 2) := by decide +kernel
theorem dX3_rotate_119 : decode cX3_rotate 119 = .ok (.ishr, 1) := by decide +kernel
theorem dX3_rotate_120 : decode cX3_rotate 120 = .ok (.iconst 1, 1) := by decide +kernel
theorem dX3_rotate_121 : decode cX3_rotate 121 = .ok (.iand, 1) := by decide +kernel
theorem dX3_rotate_122 : decode cX3_rotate 122 = .ok (.iconst 1, 1) := by decide +kernel
theorem dX3_rotate_123 : decode cX3_rotate 123 = .ok (.if_icmp .ne 9, 3) := by decide +kernel
theorem dX3_rotate_126 : decode cX3_rotate 126 = .ok (.aload_n 0, 1) := by decide +kernel
theorem dX3_rotate_127 : decode cX3_rotate 127 = .ok (.iload 5, 2) := by decide +kernel
theorem dX3_rotate_129 : decode cX3_rotate 129 = .ok (.invokevirtual 81, 3) := by decide +kernel
theorem dX3_rotate_132 : decode cX3_rotate 132 = .ok (.iinc 5 1, 3) := by decide +kernel
theorem dX3_rotate_135 : decode cX3_rotate 135 = .ok (.goto (-28), 3) := by decide +kernel
theorem dX3_rotate_138 : decode cX3_rotate 138 = .ok (.iload_n 3, 1) := by decide +kernel
theorem dX3_rotate_139 : decode cX3_rotate 139 = .ok (.ireturn, 1) := by decide +kernel
set_option maxRecDepth 20000 in
theorem ggX3_trip_X3_in : GoodIn wsX3_trip wsX3_in := goodIn_r _ [7] (by decide +kernel) (by decide +kernel)
set_option maxRecDepth 20000 in
theorem gX3_trip_X3_in : GoodIn wsX3_trip (va_wsS RX3 38 yX3_in wsX3_in) := goodIn_app (goodIn_of _ (by decide +kernel)) ggX3_trip_X3_in
set_option maxRecDepth 20000 in
theorem ggX3_trip_X3_fails : GoodIn wsX3_trip wsX3_fails := goodIn_r _ [11, 1, 33, 34, 35, 36, 37, 38, 39, 40, 41, 42, 43] (by decide +kernel) (by decide +kernel)
set_option maxRecDepth 20000 in
theorem gX3_trip_X3_fails : GoodIn wsX3_trip (wsV RX3 42 RX3 yX3_fails wsX3_fails) := goodIn_app (goodIn_of _ (by decide +kernel)) ggX3_trip_X3_fails
set_option maxRecDepth 20000 in
theorem ggX3_trip_X3_isFree : GoodIn wsX3_trip wsX3_isFree := goodIn_r _ [15, 16, 17, 33, 34, 35, 36, 37, 38, 39, 40, 41, 42, 43] (by decide +kernel) (by decide +kernel)
set_option maxRecDepth 20000 in
theorem gX3_trip_X3_isFree : GoodIn wsX3_trip (wsV RX3 66 RX3 yX3_isFree wsX3_isFree) := goodIn_app (goodIn_of _ (by decide +kernel)) ggX3_trip_X3_isFree
set_option maxRecDepth 20000 in
theorem ggX3_trip_X3_cutOff : GoodIn wsX3_trip wsX3_cutOff := goodIn_r _ [21, 16, 22, 23, 24, 25, 26, 6, 27, 28, 29, 30, 31, 32, 33, 34, 35, 36, 37, 38, 39, 40, 41, 42, 43] (by decide +kernel) (by decide +kernel)
set_option maxRecDepth 20000 in
theorem gX3_trip_X3_cutOff : GoodIn wsX3_trip (wsV RX3 69 RX3 yX3_cutOff wsX3_cutOff) := goodIn_app (goodIn_of _ (by decide +kernel)) ggX3_trip_X3_cutOff
theorem dX3_trip_0 : decode cX3_trip 0 = .ok (.aload_n 0, 1) := by decide +kernel
theorem dX3_trip_1 : decode cX3_trip 1 = .ok (.iconst 0, 1) := by decide +kernel
theorem dX3_trip_2 : decode cX3_trip 2 = .ok (.putfield 31, 3) := by decide +kernel
theorem dX3_trip_5 : decode cX3_trip 5 = .ok (.iload_n 1, 1) := by decide +kernel
theorem dX3_trip_6 : decode cX3_trip 6 = .ok (.iconst 1, 1) := by decide +kernel
theorem dX3_trip_7 : decode cX3_trip 7 = .ok (.iconst 3, 1) := by decide +kernel
theorem dX3_trip_8 : decode cX3_trip 8 = .ok (.invokestatic 38, 3) := by decide +kernel
theorem dX3_trip_11 : decode cX3_trip 11 = .ok (.ifCond .ne 9, 3) := by decide +kernel
theorem dX3_trip_14 : decode cX3_trip 14 = .ok (.aload_n 0, 1) := by decide +kernel
theorem dX3_trip_15 : decode cX3_trip 15 = .ok (.iconst 1, 1) := by decide +kernel
theorem dX3_trip_16 : decode cX3_trip 16 = .ok (.invokevirtual 42, 3) := by decide +kernel
theorem dX3_trip_19 : decode cX3_trip 19 = .ok (.ireturn, 1) := by decide +kernel
theorem dX3_trip_20 : decode cX3_trip 20 = .ok (.iconst 0, 1) := by decide +kernel
theorem dX3_trip_21 : decode cX3_trip 21 = .ok (.istore_n 2, 1) := by decide +kernel
theorem dX3_trip_22 : decode cX3_trip 22 = .ok (.iconst 0, 1) := by decide +kernel
theorem dX3_trip_23 : decode cX3_trip 23 = .ok (.istore_n 3, 1) := by decide +kernel
theorem dX3_trip_24 : decode cX3_trip 24 = .ok (.iload_n 3, 1) := by decide +kernel
theorem dX3_trip_25 : decode cX3_trip 25 = .ok (.aload_n 0, 1) := by decide +kernel
theorem dX3_trip_26 : decode cX3_trip 26 = .ok (.getfield 35, 3) := by decide +kernel
theorem dX3_trip_29 : decode cX3_trip 29 = .ok (.if_icmp .ge 43, 3) := by decide +kernel
theorem dX3_trip_32 : decode cX3_trip 32 = .ok (.iload_n 2, 1) := by decide +kernel
theorem dX3_trip_33 : decode cX3_trip 33 = .ok (.aload_n 0, 1) := by decide +kernel
theorem dX3_trip_34 : decode cX3_trip 34 = .ok (.iload_n 3, 1) := by decide +kernel
theorem dX3_trip_35 : decode cX3_trip 35 = .ok (.invokevirtual 66, 3) := by decide +kernel
theorem dX3_trip_38 : decode cX3_trip 38 = .ok (.ifCond .eq 25, 3) := by decide +kernel
theorem dX3_trip_41 : decode cX3_trip 41 = .ok (.aload_n 0, 1) := by decide +kernel
theorem dX3_trip_42 : decode cX3_trip 42 = .ok (.getfield 16, 3) := by decide +kernel
theorem dX3_trip_45 : decode cX3_trip 45 = .ok (.iload_n 3, 1) := by decide +kernel
theorem dX3_trip_46 : decode cX3_trip 46 = .ok (.iaload, 1) := by decide +kernel
theorem dX3_trip_47 : decode cX3_trip 47 = .ok (.iconst 1, 1) := by decide +kernel
theorem dX3_trip_48 : decode cX3_trip 48 = .ok (.iload_n 1, 1) := by decide +kernel
theorem dX3_trip_49 : decode cX3_trip 49 = .ok (.invokestatic 38, 3) := by decide +kernel
theorem dX3_trip_52 : decode cX3_trip 52 = .ok (.ifCond .eq 11, 3) := by decide +kernel
theorem dX3_trip_55 : decode cX3_trip 55 = .ok (.aload_n 0, 1) := by decide +kernel
theorem dX3_trip_56 : decode cX3_trip 56 = .ok (.iload_n 3, 1) := by decide +kernel
theorem dX3_trip_57 : decode cX3_trip 57 = .ok (.invokevirtual 69, 3) := by decide +kernel
theorem dX3_trip_60 : decode cX3_trip 60 = .ok (.goto 4, 3) := by decide +kernel
theorem dX3_trip_63 : decode cX3_trip 63 = .ok (.iconst 0, 1) := by decide +kernel
theorem dX3_trip_64 : decode cX3_trip 64 = .ok (.iadd, 1) := by decide +kernel
theorem dX3_trip_65 : decode cX3_trip 65 = .ok (.istore_n 2, 1) := by decide +kernel
theorem dX3_trip_66 : decode cX3_trip 66 = .ok (.iinc 3 1, 3) := by decide +kernel
theorem dX3_trip_69 : decode cX3_trip 69 = .ok (.goto (-45), 3) := by decide +kernel
theorem dX3_trip_72 : decode cX3_trip 72 = .ok (.iload_n 2, 1) := by decide +kernel
theorem dX3_trip_73 : decode cX3_trip 73 = .ok (.ireturn, 1) := by decide +kernel
set_option maxRecDepth 20000 in
theorem ggX3_restore_X3_isThere : GoodIn wsX3_restore wsX3_isThere := goodIn_r _ [7, 8, 9, 10, 6, 11, 35, 36, 37, 38, 39, 40, 41, 42, 43, 44, 45] (by decide +kernel) (by decide +kernel)
set_option maxRecDepth 20000 in
theorem gX3_restore_X3_isThere : GoodIn wsX3_restore (wsV RX3 46 RX3 yX3_isThere wsX3_isThere) := goodIn_app (goodIn_of _ (by decide +kernel)) ggX3_restore_X3_isThere
set_option maxRecDepth 20000 in
theorem ggX3_restore_X3_fails : GoodIn wsX3_restore wsX3_fails := goodIn_r _ [15, 1, 35, 36, 37, 38, 39, 40, 41, 42, 43, 44, 45] (by decide +kernel) (by decide +kernel)
set_option maxRecDepth 20000 in
theorem gX3_restore_X3_fails : GoodIn wsX3_restore (wsV RX3 42 RX3 yX3_fails wsX3_fails) := goodIn_app (goodIn_of _ (by decide +kernel)) ggX3_restore_X3_fails
set_option maxRecDepth 20000 in
theorem ggX3_restore_X3_bringBack : GoodIn wsX3_restore wsX3_bringBack := goodIn_r _ [19, 20, 2, 21, 22, 23, 24, 6, 25, 35, 36, 37, 38, 39, 40, 41, 42, 43, 44, 45] (by decide +kernel) (by decide +kernel)
set_option maxRecDepth 20000 in
theorem gX3_restore_X3_bringBack : GoodIn wsX3_restore (wsV RX3 81 RX3 yX3_bringBack wsX3_bringBack) := goodIn_app (goodIn_of _ (by decide +kernel)) ggX3_restore_X3_bringBack
set_option maxRecDepth 20000 in
theorem ggX3_restore_X3_takesOf : GoodIn wsX3_restore wsX3_takesOf := goodIn_r _ [29, 2, 20, 30, 31, 32, 6, 33, 34, 35, 36, 37, 38, 39, 40, 41, 42, 43, 44, 45] (by decide +kernel) (by decide +kernel)
set_option maxRecDepth 20000 in
theorem gX3_restore_X3_takesOf : GoodIn wsX3_restore (wsV RX3 63 RX3 yX3_takesOf wsX3_takesOf) := goodIn_app (goodIn_of _ (by decide +kernel)) ggX3_restore_X3_takesOf
theorem dX3_restore_0 : decode cX3_restore 0 = .ok (.aload_n 0, 1) := by decide +kernel
theorem dX3_restore_1 : decode cX3_restore 1 = .ok (.iconst 0, 1) := by decide +kernel
theorem dX3_restore_2 : decode cX3_restore 2 = .ok (.putfield 31, 3) := by decide +kernel
theorem dX3_restore_5 : decode cX3_restore 5 = .ok (.aload_n 0, 1) := by decide +kernel
theorem dX3_restore_6 : decode cX3_restore 6 = .ok (.iload_n 1, 1) := by decide +kernel
theorem dX3_restore_7 : decode cX3_restore 7 = .ok (.invokevirtual 46, 3) := by decide +kernel
theorem dX3_restore_10 : decode cX3_restore 10 = .ok (.ifCond .ne 9, 3) := by decide +kernel
theorem dX3_restore_13 : decode cX3_restore 13 = .ok (.aload_n 0, 1) := by decide +kernel
theorem dX3_restore_14 : decode cX3_restore 14 = .ok (.iconst 1, 1) := by decide +kernel
theorem dX3_restore_15 : decode cX3_restore 15 = .ok (.invokevirtual 42, 3) := by decide +kernel
theorem dX3_restore_18 : decode cX3_restore 18 = .ok (.ireturn, 1) := by decide +kernel
theorem dX3_restore_19 : decode cX3_restore 19 = .ok (.aload_n 0, 1) := by decide +kernel
theorem dX3_restore_20 : decode cX3_restore 20 = .ok (.getfield 19, 3) := by decide +kernel
theorem dX3_restore_23 : decode cX3_restore 23 = .ok (.iload_n 1, 1) := by decide +kernel
theorem dX3_restore_24 : decode cX3_restore 24 = .ok (.iaload, 1) := by decide +kernel
theorem dX3_restore_25 : decode cX3_restore 25 = .ok (.ifCond .ne 9, 3) := by decide +kernel
theorem dX3_restore_28 : decode cX3_restore 28 = .ok (.aload_n 0, 1) := by decide +kernel
theorem dX3_restore_29 : decode cX3_restore 29 = .ok (.iconst 2, 1) := by decide +kernel
theorem dX3_restore_30 : decode cX3_restore 30 = .ok (.invokevirtual 42, 3) := by decide +kernel
theorem dX3_restore_33 : decode cX3_restore 33 = .ok (.ireturn, 1) := by decide +kernel
theorem dX3_restore_34 : decode cX3_restore 34 = .ok (.aload_n 0, 1) := by decide +kernel
theorem dX3_restore_35 : decode cX3_restore 35 = .ok (.iload_n 1, 1) := by decide +kernel
theorem dX3_restore_36 : decode cX3_restore 36 = .ok (.invokevirtual 81, 3) := by decide +kernel
theorem dX3_restore_39 : decode cX3_restore 39 = .ok (.aload_n 0, 1) := by decide +kernel
theorem dX3_restore_40 : decode cX3_restore 40 = .ok (.iload_n 1, 1) := by decide +kernel
theorem dX3_restore_41 : decode cX3_restore 41 = .ok (.invokevirtual 63, 3) := by decide +kernel
theorem dX3_restore_44 : decode cX3_restore 44 = .ok (.ireturn, 1) := by decide +kernel
set_option maxRecDepth 20000 in
theorem ggX3_cut_X3_isThere : GoodIn wsX3_cut wsX3_isThere := goodIn_r _ [7, 8, 9, 10, 6, 11, 31, 32, 33, 34, 35, 36, 37, 38, 39, 40, 41] (by decide +kernel) (by decide +kernel)
set_option maxRecDepth 20000 in
theorem gX3_cut_X3_isThere : GoodIn wsX3_cut (wsV RX3 46 RX3 yX3_isThere wsX3_isThere) := goodIn_app (goodIn_of _ (by decide +kernel)) ggX3_cut_X3_isThere
set_option maxRecDepth 20000 in
theorem ggX3_cut_X3_fails : GoodIn wsX3_cut wsX3_fails := goodIn_r _ [15, 1, 31, 32, 33, 34, 35, 36, 37, 38, 39, 40, 41] (by decide +kernel) (by decide +kernel)
set_option maxRecDepth 20000 in
theorem gX3_cut_X3_fails : GoodIn wsX3_cut (wsV RX3 42 RX3 yX3_fails wsX3_fails) := goodIn_app (goodIn_of _ (by decide +kernel)) ggX3_cut_X3_fails
set_option maxRecDepth 20000 in
theorem ggX3_cut_X3_cutOff : GoodIn wsX3_cut wsX3_cutOff := goodIn_r _ [19, 2, 20, 21, 22, 23, 24, 6, 25, 26, 27, 28, 29, 30, 31, 32, 33, 34, 35, 36, 37, 38, 39, 40, 41] (by decide +kernel) (by decide +kernel)
set_option maxRecDepth 20000 in
theorem gX3_cut_X3_cutOff : GoodIn wsX3_cut (wsV RX3 69 RX3 yX3_cutOff wsX3_cutOff) := goodIn_app (goodIn_of _ (by decide +kernel)) ggX3_cut_X3_cutOff
theorem dX3_cut_0 : decode cX3_cut 0 = .ok (.aload_n 0, 1) := by decide +kernel
theorem dX3_cut_1 : decode cX3_cut 1 = .ok (.iconst 0, 1) := by decide +kernel
theorem dX3_cut_2 : decode cX3_cut 2 = .ok (.putfield 31, 3) := by decide +kernel
theorem dX3_cut_5 : decode cX3_cut 5 = .ok (.aload_n 0, 1) := by decide +kernel
theorem dX3_cut_6 : decode cX3_cut 6 = .ok (.iload_n 1, 1) := by decide +kernel
theorem dX3_cut_7 : decode cX3_cut 7 = .ok (.invokevirtual 46, 3) := by decide +kernel
theorem dX3_cut_10 : decode cX3_cut 10 = .ok (.ifCond .ne 9, 3) := by decide +kernel
theorem dX3_cut_13 : decode cX3_cut 13 = .ok (.aload_n 0, 1) := by decide +kernel
theorem dX3_cut_14 : decode cX3_cut 14 = .ok (.iconst 1, 1) := by decide +kernel
theorem dX3_cut_15 : decode cX3_cut 15 = .ok (.invokevirtual 42, 3) := by decide +kernel
theorem dX3_cut_18 : decode cX3_cut 18 = .ok (.ireturn, 1) := by decide +kernel
theorem dX3_cut_19 : decode cX3_cut 19 = .ok (.aload_n 0, 1) := by decide +kernel
theorem dX3_cut_20 : decode cX3_cut 20 = .ok (.getfield 19, 3) := by decide +kernel
theorem dX3_cut_23 : decode cX3_cut 23 = .ok (.iload_n 1, 1) := by decide +kernel
theorem dX3_cut_24 : decode cX3_cut 24 = .ok (.iaload, 1) := by decide +kernel
theorem dX3_cut_25 : decode cX3_cut 25 = .ok (.iconst 1, 1) := by decide +kernel
theorem dX3_cut_26 : decode cX3_cut 26 = .ok (.if_icmp .ne 11, 3) := by decide +kernel
theorem dX3_cut_29 : decode cX3_cut 29 = .ok (.aload_n 0, 1) := by decide +kernel
theorem dX3_cut_30 : decode cX3_cut 30 = .ok (.iconst 2, 1) := by decide +kernel
theorem dX3_cut_31 : decode cX3_cut 31 = .ok (.invokevirtual 42, 3) := by decide +kernel
theorem dX3_cut_34 : decode cX3_cut 34 = .ok (.goto 8, 3) := by decide +kernel
theorem dX3_cut_37 : decode cX3_cut 37 = .ok (.aload_n 0, 1) := by decide +kernel
theorem dX3_cut_38 : decode cX3_cut 38 = .ok (.iload_n 1, 1) := by decide +kernel
theorem dX3_cut_39 : decode cX3_cut 39 = .ok (.invokevirtual 69, 3) := by decide +kernel
theorem dX3_cut_42 : decode cX3_cut 42 = .ok (.ireturn, 1) := by decide +kernel
theorem dX3_hour_0 : decode cX3_hour 0 = .ok (.aload_n 0, 1) := by decide +kernel
theorem dX3_hour_1 : decode cX3_hour 1 = .ok (.iconst 0, 1) := by decide +kernel
theorem dX3_hour_2 : decode cX3_hour 2 = .ok (.putfield 31, 3) := by decide +kernel
theorem dX3_hour_5 : decode cX3_hour 5 = .ok (.aload_n 0, 1) := by decide +kernel
theorem dX3_hour_6 : decode cX3_hour 6 = .ok (.getfield 53, 3) := by decide +kernel
theorem dX3_hour_9 : decode cX3_hour 9 = .ok (.ireturn, 1) := by decide +kernel
theorem dX3_feeders_0 : decode cX3_feeders 0 = .ok (.aload_n 0, 1) := by decide +kernel
theorem dX3_feeders_1 : decode cX3_feeders 1 = .ok (.iconst 0, 1) := by decide +kernel
theorem dX3_feeders_2 : decode cX3_feeders 2 = .ok (.putfield 31, 3) := by decide +kernel
theorem dX3_feeders_5 : decode cX3_feeders 5 = .ok (.aload_n 0, 1) := by decide +kernel
theorem dX3_feeders_6 : decode cX3_feeders 6 = .ok (.getfield 35, 3) := by decide +kernel
theorem dX3_feeders_9 : decode cX3_feeders 9 = .ok (.ireturn, 1) := by decide +kernel
set_option maxRecDepth 20000 in
theorem ggX3_isCut_X3_isThere : GoodIn wsX3_isCut wsX3_isThere := goodIn_r _ [7, 8, 9, 10, 6, 11, 16, 17, 18, 19, 20, 21, 22, 23, 24, 25, 26] (by decide +kernel) (by decide +kernel)
set_option maxRecDepth 20000 in
theorem gX3_isCut_X3_isThere : GoodIn wsX3_isCut (wsV RX3 46 RX3 yX3_isThere wsX3_isThere) := goodIn_app (goodIn_of _ (by decide +kernel)) ggX3_isCut_X3_isThere
set_option maxRecDepth 20000 in
theorem ggX3_isCut_X3_fails : GoodIn wsX3_isCut wsX3_fails := goodIn_r _ [15, 1, 16, 17, 18, 19, 20, 21, 22, 23, 24, 25, 26] (by decide +kernel) (by decide +kernel)
set_option maxRecDepth 20000 in
theorem gX3_isCut_X3_fails : GoodIn wsX3_isCut (wsV RX3 42 RX3 yX3_fails wsX3_fails) := goodIn_app (goodIn_of _ (by decide +kernel)) ggX3_isCut_X3_fails
theorem dX3_isCut_0 : decode cX3_isCut 0 = .ok (.aload_n 0, 1) := by decide +kernel
theorem dX3_isCut_1 : decode cX3_isCut 1 = .ok (.iconst 0, 1) := by decide +kernel
theorem dX3_isCut_2 : decode cX3_isCut 2 = .ok (.putfield 31, 3) := by decide +kernel
theorem dX3_isCut_5 : decode cX3_isCut 5 = .ok (.aload_n 0, 1) := by decide +kernel
theorem dX3_isCut_6 : decode cX3_isCut 6 = .ok (.iload_n 1, 1) := by decide +kernel
theorem dX3_isCut_7 : decode cX3_isCut 7 = .ok (.invokevirtual 46, 3) := by decide +kernel
theorem dX3_isCut_10 : decode cX3_isCut 10 = .ok (.ifCond .ne 11, 3) := by decide +kernel
theorem dX3_isCut_13 : decode cX3_isCut 13 = .ok (.aload_n 0, 1) := by decide +kernel
theorem dX3_isCut_14 : decode cX3_isCut 14 = .ok (.iconst 1, 1) := by decide +kernel
theorem dX3_isCut_15 : decode cX3_isCut 15 = .ok (.invokevirtual 42, 3) := by decide +kernel
theorem dX3_isCut_18 : decode cX3_isCut 18 = .ok (.pop, 1) := by decide +kernel
theorem dX3_isCut_19 : decode cX3_isCut 19 = .ok (.iconst 0, 1) := by decide +kernel
theorem dX3_isCut_20 : decode cX3_isCut 20 = .ok (.ireturn, 1) := by decide +kernel
theorem dX3_isCut_21 : decode cX3_isCut 21 = .ok (.aload_n 0, 1) := by decide +kernel
theorem dX3_isCut_22 : decode cX3_isCut 22 = .ok (.getfield 19, 3) := by decide +kernel
theorem dX3_isCut_25 : decode cX3_isCut 25 = .ok (.iload_n 1, 1) := by decide +kernel
theorem dX3_isCut_26 : decode cX3_isCut 26 = .ok (.iaload, 1) := by decide +kernel
theorem dX3_isCut_27 : decode cX3_isCut 27 = .ok (.iconst 1, 1) := by decide +kernel
theorem dX3_isCut_28 : decode cX3_isCut 28 = .ok (.if_icmp .ne 7, 3) := by decide +kernel
theorem dX3_isCut_31 : decode cX3_isCut 31 = .ok (.iconst 1, 1) := by decide +kernel
theorem dX3_isCut_32 : decode cX3_isCut 32 = .ok (.goto 4, 3) := by decide +kernel
theorem dX3_isCut_35 : decode cX3_isCut 35 = .ok (.iconst 0, 1) := by decide +kernel
theorem dX3_isCut_36 : decode cX3_isCut 36 = .ok (.ireturn, 1) := by decide +kernel
set_option maxRecDepth 20000 in
theorem ggX3_takes_X3_isThere : GoodIn wsX3_takes wsX3_isThere := goodIn_r _ [6, 7, 8, 9, 5, 10, 26, 27, 28, 29, 30, 31, 32, 33, 34, 35, 36] (by decide +kernel) (by decide +kernel)
set_option maxRecDepth 20000 in
theorem gX3_takes_X3_isThere : GoodIn wsX3_takes (wsV RX3 46 RX3 yX3_isThere wsX3_isThere) := goodIn_app (goodIn_of _ (by decide +kernel)) ggX3_takes_X3_isThere
set_option maxRecDepth 20000 in
theorem ggX3_takes_X3_takesOf : GoodIn wsX3_takes wsX3_takesOf := goodIn_r _ [14, 15, 16, 17, 18, 19, 5, 20, 21, 26, 27, 28, 29, 30, 31, 32, 33, 34, 35, 36] (by decide +kernel) (by decide +kernel)
set_option maxRecDepth 20000 in
theorem gX3_takes_X3_takesOf : GoodIn wsX3_takes (wsV RX3 63 RX3 yX3_takesOf wsX3_takesOf) := goodIn_app (goodIn_of _ (by decide +kernel)) ggX3_takes_X3_takesOf
set_option maxRecDepth 20000 in
theorem ggX3_takes_X3_fails : GoodIn wsX3_takes wsX3_fails := goodIn_r _ [25, 1, 26, 27, 28, 29, 30, 31, 32, 33, 34, 35, 36] (by decide +kernel) (by decide +kernel)
set_option maxRecDepth 20000 in
theorem gX3_takes_X3_fails : GoodIn wsX3_takes (wsV RX3 42 RX3 yX3_fails wsX3_fails) := goodIn_app (goodIn_of _ (by decide +kernel)) ggX3_takes_X3_fails
theorem dX3_takes_0 : decode cX3_takes 0 = .ok (.aload_n 0, 1) := by decide +kernel
theorem dX3_takes_1 : decode cX3_takes 1 = .ok (.iconst 0, 1) := by decide +kernel
theorem dX3_takes_2 : decode cX3_takes 2 = .ok (.putfield 31, 3) := by decide +kernel
theorem dX3_takes_5 : decode cX3_takes 5 = .ok (.aload_n 0, 1) := by decide +kernel
theorem dX3_takes_6 : decode cX3_takes 6 = .ok (.iload_n 1, 1) := by decide +kernel
theorem dX3_takes_7 : decode cX3_takes 7 = .ok (.invokevirtual 46, 3) := by decide +kernel
theorem dX3_takes_10 : decode cX3_takes 10 = .ok (.ifCond .eq 11, 3) := by decide +kernel
theorem dX3_takes_13 : decode cX3_takes 13 = .ok (.aload_n 0, 1) := by decide +kernel
theorem dX3_takes_14 : decode cX3_takes 14 = .ok (.iload_n 1, 1) := by decide +kernel
theorem dX3_takes_15 : decode cX3_takes 15 = .ok (.invokevirtual 63, 3) := by decide +kernel
theorem dX3_takes_18 : decode cX3_takes 18 = .ok (.goto 8, 3) := by decide +kernel
theorem dX3_takes_21 : decode cX3_takes 21 = .ok (.aload_n 0, 1) := by decide +kernel
theorem dX3_takes_22 : decode cX3_takes 22 = .ok (.iconst 1, 1) := by decide +kernel
theorem dX3_takes_23 : decode cX3_takes 23 = .ok (.invokevirtual 42, 3) := by decide +kernel
theorem dX3_takes_26 : decode cX3_takes 26 = .ok (.ireturn, 1) := by decide +kernel
set_option maxRecDepth 20000 in
theorem ggX3_cold_X3_isThere : GoodIn wsX3_cold wsX3_isThere := goodIn_r _ [7, 8, 9, 10, 6, 11, 16, 17, 18, 19, 20, 21, 22, 23, 24, 25, 26] (by decide +kernel) (by decide +kernel)
set_option maxRecDepth 20000 in
theorem gX3_cold_X3_isThere : GoodIn wsX3_cold (wsV RX3 46 RX3 yX3_isThere wsX3_isThere) := goodIn_app (goodIn_of _ (by decide +kernel)) ggX3_cold_X3_isThere
set_option maxRecDepth 20000 in
theorem ggX3_cold_X3_fails : GoodIn wsX3_cold wsX3_fails := goodIn_r _ [15, 1, 16, 17, 18, 19, 20, 21, 22, 23, 24, 25, 26] (by decide +kernel) (by decide +kernel)
set_option maxRecDepth 20000 in
theorem gX3_cold_X3_fails : GoodIn wsX3_cold (wsV RX3 42 RX3 yX3_fails wsX3_fails) := goodIn_app (goodIn_of _ (by decide +kernel)) ggX3_cold_X3_fails
theorem dX3_cold_0 : decode cX3_cold 0 = .ok (.aload_n 0, 1) := by decide +kernel
theorem dX3_cold_1 : decode cX3_cold 1 = .ok (.iconst 0, 1) := by decide +kernel
theorem dX3_cold_2 : decode cX3_cold 2 = .ok (.putfield 31, 3) := by decide +kernel
theorem dX3_cold_5 : decode cX3_cold 5 = .ok (.aload_n 0, 1) := by decide +kernel
theorem dX3_cold_6 : decode cX3_cold 6 = .ok (.iload_n 1, 1) := by decide +kernel
theorem dX3_cold_7 : decode cX3_cold 7 = .ok (.invokevirtual 46, 3) := by decide +kernel
theorem dX3_cold_10 : decode cX3_cold 10 = .ok (.ifCond .eq 12, 3) := by decide +kernel
theorem dX3_cold_13 : decode cX3_cold 13 = .ok (.aload_n 0, 1) := by decide +kernel
theorem dX3_cold_14 : decode cX3_cold 14 = .ok (.getfield 28, 3) := by decide +kernel
theorem dX3_cold_17 : decode cX3_cold 17 = .ok (.iload_n 1, 1) := by decide +kernel
theorem dX3_cold_18 : decode cX3_cold 18 = .ok (.iaload, 1) := by decide +kernel
theorem dX3_cold_19 : decode cX3_cold 19 = .ok (.goto 8, 3) := by decide +kernel
theorem dX3_cold_22 : decode cX3_cold 22 = .ok (.aload_n 0, 1) := by decide +kernel
theorem dX3_cold_23 : decode cX3_cold 23 = .ok (.iconst 1, 1) := by decide +kernel
theorem dX3_cold_24 : decode cX3_cold 24 = .ok (.invokevirtual 42, 3) := by decide +kernel
theorem dX3_cold_27 : decode cX3_cold 27 = .ok (.ireturn, 1) := by decide +kernel
set_option maxRecDepth 20000 in
theorem ggX3_hours_X3_isThere : GoodIn wsX3_hours wsX3_isThere := goodIn_r _ [7, 8, 9, 10, 6, 11, 16, 17, 18, 19, 20, 21, 22, 23, 24, 25, 26] (by decide +kernel) (by decide +kernel)
set_option maxRecDepth 20000 in
theorem gX3_hours_X3_isThere : GoodIn wsX3_hours (wsV RX3 46 RX3 yX3_isThere wsX3_isThere) := goodIn_app (goodIn_of _ (by decide +kernel)) ggX3_hours_X3_isThere
set_option maxRecDepth 20000 in
theorem ggX3_hours_X3_fails : GoodIn wsX3_hours wsX3_fails := goodIn_r _ [15, 1, 16, 17, 18, 19, 20, 21, 22, 23, 24, 25, 26] (by decide +kernel) (by decide +kernel)
set_option maxRecDepth 20000 in
theorem gX3_hours_X3_fails : GoodIn wsX3_hours (wsV RX3 42 RX3 yX3_fails wsX3_fails) := goodIn_app (goodIn_of _ (by decide +kernel)) ggX3_hours_X3_fails
theorem dX3_hours_0 : decode cX3_hours 0 = .ok (.aload_n 0, 1) := by decide +kernel
theorem dX3_hours_1 : decode cX3_hours 1 = .ok (.iconst 0, 1) := by decide +kernel
theorem dX3_hours_2 : decode cX3_hours 2 = .ok (.putfield 31, 3) := by decide +kernel
theorem dX3_hours_5 : decode cX3_hours 5 = .ok (.aload_n 0, 1) := by decide +kernel
theorem dX3_hours_6 : decode cX3_hours 6 = .ok (.iload_n 1, 1) := by decide +kernel
theorem dX3_hours_7 : decode cX3_hours 7 = .ok (.invokevirtual 46, 3) := by decide +kernel
theorem dX3_hours_10 : decode cX3_hours 10 = .ok (.ifCond .eq 12, 3) := by decide +kernel
theorem dX3_hours_13 : decode cX3_hours 13 = .ok (.aload_n 0, 1) := by decide +kernel
theorem dX3_hours_14 : decode cX3_hours 14 = .ok (.getfield 22, 3) := by decide +kernel
theorem dX3_hours_17 : decode cX3_hours 17 = .ok (.iload_n 1, 1) := by decide +kernel
theorem dX3_hours_18 : decode cX3_hours 18 = .ok (.iaload, 1) := by decide +kernel
theorem dX3_hours_19 : decode cX3_hours 19 = .ok (.goto 8, 3) := by decide +kernel
theorem dX3_hours_22 : decode cX3_hours 22 = .ok (.aload_n 0, 1) := by decide +kernel
theorem dX3_hours_23 : decode cX3_hours 23 = .ok (.iconst 1, 1) := by decide +kernel
theorem dX3_hours_24 : decode cX3_hours 24 = .ok (.invokevirtual 42, 3) := by decide +kernel
theorem dX3_hours_27 : decode cX3_hours 27 = .ok (.ireturn, 1) := by decide +kernel
set_option maxRecDepth 20000 in
theorem ggX3_load_X3_takesOf : GoodIn wsX3_load wsX3_takesOf := goodIn_r _ [7, 8, 9, 10, 11, 12, 6, 13, 14, 15, 16, 17, 18, 19, 20, 21, 22, 23, 24, 25] (by decide +kernel) (by decide +kernel)
set_option maxRecDepth 20000 in
theorem gX3_load_X3_takesOf : GoodIn wsX3_load (wsV RX3 63 RX3 yX3_takesOf wsX3_takesOf) := goodIn_app (goodIn_of _ (by decide +kernel)) ggX3_load_X3_takesOf
theorem dX3_load_0 : decode cX3_load 0 = .ok (.aload_n 0, 1) := by decide +kernel
theorem dX3_load_1 : decode cX3_load 1 = .ok (.iconst 0, 1) := by decide +kernel
theorem dX3_load_2 : decode cX3_load 2 = .ok (.putfield 31, 3) := by decide +kernel
theorem dX3_load_5 : decode cX3_load 5 = .ok (.iconst 0, 1) := by decide +kernel
theorem dX3_load_6 : decode cX3_load 6 = .ok (.istore_n 1, 1) := by decide +kernel
theorem dX3_load_7 : decode cX3_load 7 = .ok (.iconst 0, 1) := by decide +kernel
theorem dX3_load_8 : decode cX3_load 8 = .ok (.istore_n 2, 1) := by decide +kernel
theorem dX3_load_9 : decode cX3_load 9 = .ok (.iload_n 2, 1) := by decide +kernel
theorem dX3_load_10 : decode cX3_load 10 = .ok (.aload_n 0, 1) := by decide +kernel
theorem dX3_load_11 : decode cX3_load 11 = .ok (.getfield 35, 3) := by decide +kernel
theorem dX3_load_14 : decode cX3_load 14 = .ok (.if_icmp .ge 17, 3) := by decide +kernel
theorem dX3_load_17 : decode cX3_load 17 = .ok (.iload_n 1, 1) := by decide +kernel
theorem dX3_load_18 : decode cX3_load 18 = .ok (.aload_n 0, 1) := by decide +kernel
theorem dX3_load_19 : decode cX3_load 19 = .ok (.iload_n 2, 1) := by decide +kernel
theorem dX3_load_20 : decode cX3_load 20 = .ok (.invokevirtual 63, 3) := by decide +kernel
theorem dX3_load_23 : decode cX3_load 23 = .ok (.iadd, 1) := by decide +kernel
theorem dX3_load_24 : decode cX3_load 24 = .ok (.istore_n 1, 1) := by decide +kernel
theorem dX3_load_25 : decode cX3_load 25 = .ok (.iinc 2 1, 3) := by decide +kernel
theorem dX3_load_28 : decode cX3_load 28 = .ok (.goto (-19), 3) := by decide +kernel
theorem dX3_load_31 : decode cX3_load 31 = .ok (.iload_n 1, 1) := by decide +kernel
theorem dX3_load_32 : decode cX3_load 32 = .ok (.ireturn, 1) := by decide +kernel
theorem dX3_spread_0 : decode cX3_spread 0 = .ok (.aload_n 0, 1) := by decide +kernel
theorem dX3_spread_1 : decode cX3_spread 1 = .ok (.iconst 0, 1) := by decide +kernel
theorem dX3_spread_2 : decode cX3_spread 2 = .ok (.putfield 31, 3) := by decide +kernel
theorem dX3_spread_5 : decode cX3_spread 5 = .ok (.iconst (-1), 1) := by decide +kernel
theorem dX3_spread_6 : decode cX3_spread 6 = .ok (.istore_n 1, 1) := by decide +kernel
theorem dX3_spread_7 : decode cX3_spread 7 = .ok (.iconst (-1), 1) := by decide +kernel
theorem dX3_spread_8 : decode cX3_spread 8 = .ok (.istore_n 2, 1) := by decide +kernel
theorem dX3_spread_9 : decode cX3_spread 9 = .ok (.iconst 0, 1) := by decide +kernel
theorem dX3_spread_10 : decode cX3_spread 10 = .ok (.istore_n 3, 1) := by decide +kernel
theorem dX3_spread_11 : decode cX3_spread 11 = .ok (.iload_n 3, 1) := by decide +kernel
theorem dX3_spread_12 : decode cX3_spread 12 = .ok (.aload_n 0, 1) := by decide +kernel
theorem dX3_spread_13 : decode cX3_spread 13 = .ok (.getfield 35, 3) := by decide +kernel
theorem dX3_spread_16 : decode cX3_spread 16 = .ok (.if_icmp .ge 64, 3) := by decide +kernel
theorem dX3_spread_19 : decode cX3_spread 19 = .ok (.aload_n 0, 1) := by decide +kernel
theorem dX3_spread_20 : decode cX3_spread 20 = .ok (.getfield 13, 3) := by decide +kernel
theorem dX3_spread_23 : decode cX3_spread 23 = .ok (.iload_n 3, 1) := by decide +kernel
theorem dX3_spread_24 : decode cX3_spread 24 = .ok (.iaload, 1) := by decide +kernel
theorem dX3_spread_25 : decode cX3_spread 25 = .ok (.ifCond .ne 49, 3) := by decide +kernel
theorem dX3_spread_28 : decode cX3_spread 28 = .ok (.iload_n 1, 1) := by decide +kernel
theorem dX3_spread_29 : decode cX3_spread 29 = .ok (.ifCond .lt 13, 3) := by decide +kernel
theorem dX3_spread_32 : decode cX3_spread 32 = .ok (.aload_n 0, 1) := by decide +kernel
theorem dX3_spread_33 : decode cX3_spread 33 = .ok (.getfield 22, 3) := by decide +kernel
theorem dX3_spread_36 : decode cX3_spread 36 = .ok (.iload_n 3, 1) := by decide +kernel
theorem dX3_spread_37 : decode cX3_spread 37 = .ok (.iaload, 1) := by decide +kernel
theorem dX3_spread_38 : decode cX3_spread 38 = .ok (.iload_n 1, 1) := by decide +kernel
theorem dX3_spread_39 : decode cX3_spread 39 = .ok (.if_icmp .ge 12, 3) := by decide +kernel
theorem dX3_spread_42 : decode cX3_spread 42 = .ok (.aload_n 0, 1) := by decide +kernel
theorem dX3_spread_43 : decode cX3_spread 43 = .ok (.getfield 22, 3) := by decide +kernel
theorem dX3_spread_46 : decode cX3_spread 46 = .ok (.iload_n 3, 1) := by decide +kernel
theorem dX3_spread_47 : decode cX3_spread 47 = .ok (.iaload, 1) := by decide +kernel
theorem dX3_spread_48 : decode cX3_spread 48 = .ok (.goto 4, 3) := by decide +kernel
theorem dX3_spread_51 : decode cX3_spread 51 = .ok (.iload_n 1, 1) := by decide +kernel
theorem dX3_spread_52 : decode cX3_spread 52 = .ok (.istore_n 1, 1) := by decide +kernel
theorem dX3_spread_53 : decode cX3_spread 53 = .ok (.aload_n 0, 1) := by decide +kernel
theorem dX3_spread_54 : decode cX3_spread 54 = .ok (.getfield 22, 3) := by decide +kernel
theorem dX3_spread_57 : decode cX3_spread 57 = .ok (.iload_n 3, 1) := by decide +kernel
theorem dX3_spread_58 : decode cX3_spread 58 = .ok (.iaload, 1) := by decide +kernel
theorem dX3_spread_59 : decode cX3_spread 59 = .ok (.iload_n 2, 1) := by decide +kernel
theorem dX3_spread_60 : decode cX3_spread 60 = .ok (.if_icmp .le 12, 3) := by decide +kernel
theorem dX3_spread_63 : decode cX3_spread 63 = .ok (.aload_n 0, 1) := by decide +kernel
theorem dX3_spread_64 : decode cX3_spread 64 = .ok (.getfield 22, 3) := by decide +kernel
theorem dX3_spread_67 : decode cX3_spread 67 = .ok (.iload_n 3, 1) := by decide +kernel
theorem dX3_spread_68 : decode cX3_spread 68 = .ok (.iaload, 1) := by decide +kernel
theorem dX3_spread_69 : decode cX3_spread 69 = .ok (.goto 4, 3) := by decide +kernel
theorem dX3_spread_72 : decode cX3_spread 72 = .ok (.iload_n 2, 1) := by decide +kernel
theorem dX3_spread_73 : decode cX3_spread 73 = .ok (.istore_n 2, 1) := by decide +kernel
theorem dX3_spread_74 : decode cX3_spread 74 = .ok (.iinc 3 1, 3) := by decide +kernel
theorem dX3_spread_77 : decode cX3_spread 77 = .ok (.goto (-66), 3) := by decide +kernel
theorem dX3_spread_80 : decode cX3_spread 80 = .ok (.iload_n 2, 1) := by decide +kernel
theorem dX3_spread_81 : decode cX3_spread 81 = .ok (.iload_n 1, 1) := by decide +kernel
theorem dX3_spread_82 : decode cX3_spread 82 = .ok (.isub, 1) := by decide +kernel
theorem dX3_spread_83 : decode cX3_spread 83 = .ok (.ireturn, 1) := by decide +kernel
set_option maxRecDepth 20000 in
theorem ggX3_choice_X3_in : GoodIn wsX3_choice wsX3_in := goodIn_r _ [5] (by decide +kernel) (by decide +kernel)
set_option maxRecDepth 20000 in
theorem gX3_choice_X3_in : GoodIn wsX3_choice (va_wsS RX3 38 yX3_in wsX3_in) := goodIn_app (goodIn_of _ (by decide +kernel)) ggX3_choice_X3_in
set_option maxRecDepth 20000 in
theorem ggX3_choice_X3_choose : GoodIn wsX3_choice wsX3_choose := goodIn_r _ [9, 10, 11, 12, 13, 14, 15, 4, 16, 17, 18, 19, 20, 21, 22, 23, 24, 25, 26, 27, 28, 33, 34, 35, 36, 37, 38, 39, 40, 41, 42, 43] (by decide +kernel) (by decide +kernel)
set_option maxRecDepth 20000 in
theorem gX3_choice_X3_choose : GoodIn wsX3_choice (wsV RX3 72 RX3 yX3_choose wsX3_choose) := goodIn_app (goodIn_of _ (by decide +kernel)) ggX3_choice_X3_choose
set_option maxRecDepth 20000 in
theorem ggX3_choice_X3_fails : GoodIn wsX3_choice wsX3_fails := goodIn_r _ [32, 1, 33, 34, 35, 36, 37, 38, 39, 40, 41, 42, 43] (by decide +kernel) (by decide +kernel)
set_option maxRecDepth 20000 in
theorem gX3_choice_X3_fails : GoodIn wsX3_choice (wsV RX3 42 RX3 yX3_fails wsX3_fails) := goodIn_app (goodIn_of _ (by decide +kernel)) ggX3_choice_X3_fails
theorem dX3_choice_0 : decode cX3_choice 0 = .ok (.aload_n 0, 1) := by decide +kernel
theorem dX3_choice_1 : decode cX3_choice 1 = .ok (.iconst 0, 1) := by decide +kernel
theorem dX3_choice_2 : decode cX3_choice 2 = .ok (.putfield 31, 3) := by decide +kernel
theorem dX3_choice_5 : decode cX3_choice 5 = .ok (.iload_n 1, 1) := by decide +kernel
theorem dX3_choice_6 : decode cX3_choice 6 = .ok (.iconst 1, 1) := by decide +kernel
theorem dX3_choice_7 : decode cX3_choice 7 = .ok (.sipush 20000, 3) := by decide +kernel
theorem dX3_choice_10 : decode cX3_choice 10 = .ok (.invokestatic 38, 3) := by decide +kernel
theorem dX3_choice_13 : decode cX3_choice 13 = .ok (.ifCond .eq 11, 3) := by decide +kernel
theorem dX3_choice_16 : decode cX3_choice 16 = .ok (.aload_n 0, 1) := by decide +kernel
theorem dX3_choice_17 : decode cX3_choice 17 = .ok (.iload_n 1, 1) := by decide +kernel
theorem dX3_choice_18 : decode cX3_choice 18 = .ok (.invokevirtual 72, 3) := by decide +kernel
theorem dX3_choice_21 : decode cX3_choice 21 = .ok (.goto 8, 3) := by decide +kernel
theorem dX3_choice_24 : decode cX3_choice 24 = .ok (.aload_n 0, 1) := by decide +kernel
theorem dX3_choice_25 : decode cX3_choice 25 = .ok (.iconst 1, 1) := by decide +kernel
theorem dX3_choice_26 : decode cX3_choice 26 = .ok (.invokevirtual 42, 3) := by decide +kernel
theorem dX3_choice_29 : decode cX3_choice 29 = .ok (.ireturn, 1) := by decide +kernel
set_option maxRecDepth 20000 in
theorem ggX3_choiceByListing_X3_in : GoodIn wsX3_choiceByListing wsX3_in := goodIn_r _ [6] (by decide +kernel) (by decide +kernel)
set_option maxRecDepth 20000 in
theorem gX3_choiceByListing_X3_in : GoodIn wsX3_choiceByListing (va_wsS RX3 38 yX3_in wsX3_in) := goodIn_app (goodIn_of _ (by decide +kernel)) ggX3_choiceByListing_X3_in
set_option maxRecDepth 20000 in
theorem ggX3_choiceByListing_X3_fails : GoodIn wsX3_choiceByListing wsX3_fails := goodIn_r _ [10, 1, 33, 34, 35, 36, 37, 38, 39, 40, 41, 42, 43] (by decide +kernel) (by decide +kernel)
set_option maxRecDepth 20000 in
theorem gX3_choiceByListing_X3_fails : GoodIn wsX3_choiceByListing (wsV RX3 42 RX3 yX3_fails wsX3_fails) := goodIn_app (goodIn_of _ (by decide +kernel)) ggX3_choiceByListing_X3_fails
set_option maxRecDepth 20000 in
theorem ggX3_choiceByListing_X3_isFree : GoodIn wsX3_choiceByListing wsX3_isFree := goodIn_r _ [14, 15, 16, 33, 34, 35, 36, 37, 38, 39, 40, 41, 42, 43] (by decide +kernel) (by decide +kernel)
set_option maxRecDepth 20000 in
theorem gX3_choiceByListing_X3_isFree : GoodIn wsX3_choiceByListing (wsV RX3 66 RX3 yX3_isFree wsX3_isFree) := goodIn_app (goodIn_of _ (by decide +kernel)) ggX3_choiceByListing_X3_isFree
set_option maxRecDepth 20000 in
theorem ggX3_choiceByListing_X3_choose : GoodIn wsX3_choiceByListing wsX3_choose := goodIn_r _ [20, 2, 21, 22, 11, 12, 13, 5, 14, 15, 16, 23, 24, 25, 26, 27, 28, 29, 30, 31, 32, 33, 34, 35, 36, 37, 38, 39, 40, 41, 42, 43] (by decide +kernel) (by decide +kernel)
set_option maxRecDepth 20000 in
theorem gX3_choiceByListing_X3_choose : GoodIn wsX3_choiceByListing (wsV RX3 72 RX3 yX3_choose wsX3_choose) := goodIn_app (goodIn_of _ (by decide +kernel)) ggX3_choiceByListing_X3_choose
theorem dX3_choiceByListing_0 : decode cX3_choiceByListing 0 = .ok (.aload_n 0, 1) := by decide +kernel
theorem dX3_choiceByListing_1 : decode cX3_choiceByListing 1 = .ok (.iconst 0, 1) := by decide +kernel
theorem dX3_choiceByListing_2 : decode cX3_choiceByListing 2 = .ok (.putfield 31, 3) := by decide +kernel
theorem dX3_choiceByListing_5 : decode cX3_choiceByListing 5 = .ok (.iload_n 1, 1) := by decide +kernel
theorem dX3_choiceByListing_6 : decode cX3_choiceByListing 6 = .ok (.iconst 1, 1) := by decide +kernel
theorem dX3_choiceByListing_7 : decode cX3_choiceByListing 7 = .ok (.sipush 20000, 3) := by decide +kernel
theorem dX3_choiceByListing_10 : decode cX3_choiceByListing 10 = .ok (.invokestatic 38, 3) := by decide +kernel
theorem dX3_choiceByListing_13 : decode cX3_choiceByListing 13 = .ok (.ifCond .ne 9, 3) := by decide +kernel
theorem dX3_choiceByListing_16 : decode cX3_choiceByListing 16 = .ok (.aload_n 0, 1) := by decide +kernel
theorem dX3_choiceByListing_17 : decode cX3_choiceByListing 17 = .ok (.iconst 1, 1) := by decide +kernel
theorem dX3_choiceByListing_18 : decode cX3_choiceByListing 18 = .ok (.invokevirtual 42, 3) := by decide +kernel
theorem dX3_choiceByListing_21 : decode cX3_choiceByListing 21 = .ok (.ireturn, 1) := by decide +kernel
theorem dX3_choiceByListing_22 : decode cX3_choiceByListing 22 = .ok (.iconst 0, 1) := by decide +kernel
theorem dX3_choiceByListing_23 : decode cX3_choiceByListing 23 = .ok (.istore_n 2, 1) := by decide +kernel
theorem dX3_choiceByListing_24 : decode cX3_choiceByListing 24 = .ok (.iconst 0, 1) := by decide +kernel
theorem dX3_choiceByListing_25 : decode cX3_choiceByListing 25 = .ok (.istore_n 3, 1) := by decide +kernel
theorem dX3_choiceByListing_26 : decode cX3_choiceByListing 26 = .ok (.iload_n 3, 1) := by decide +kernel
theorem dX3_choiceByListing_27 : decode cX3_choiceByListing 27 = .ok (.aload_n 0, 1) := by decide +kernel
theorem dX3_choiceByListing_28 : decode cX3_choiceByListing 28 = .ok (.getfield 35, 3) := by decide +kernel
theorem dX3_choiceByListing_31 : decode cX3_choiceByListing 31 = .ok (.if_icmp .ge 25, 3) := by decide +kernel
theorem dX3_choiceByListing_34 : decode cX3_choiceByListing 34 = .ok (.iload_n 2, 1) := by decide +kernel
theorem dX3_choiceByListing_35 : decode cX3_choiceByListing 35 = .ok (.aload_n 0, 1) := by decide +kernel
theorem dX3_choiceByListing_36 : decode cX3_choiceByListing 36 = .ok (.iload_n 3, 1) := by decide +kernel
theorem dX3_choiceByListing_37 : decode cX3_choiceByListing 37 = .ok (.invokevirtual 66, 3) := by decide +kernel
theorem dX3_choiceByListing_40 : decode cX3_choiceByListing 40 = .ok (.ifCond .eq 7, 3) := by decide +kernel
theorem dX3_choiceByListing_43 : decode cX3_choiceByListing 43 = .ok (.iconst 1, 1) := by decide +kernel
theorem dX3_choiceByListing_44 : decode cX3_choiceByListing 44 = .ok (.goto 4, 3) := by decide +kernel
theorem dX3_choiceByListing_47 : decode cX3_choiceByListing 47 = .ok (.iconst 0, 1) := by decide +kernel
theorem dX3_choiceByListing_48 : decode cX3_choiceByListing 48 = .ok (.iadd, 1) := by decide +kernel
theorem dX3_choiceByListing_49 : decode cX3_choiceByListing 49 = .ok (.istore_n 2, 1) := by decide +kernel
theorem dX3_choiceByListing_50 : decode cX3_choiceByListing 50 = .ok (.iinc 3 1, 3) := by decide +kernel
theorem dX3_choiceByListing_53 : decode cX3_choiceByListing 53 = .ok (.goto (-27), 3) := by decide +kernel
theorem dX3_choiceByListing_56 : decode cX3_choiceByListing 56 = .ok (.iload_n 2, 1) := by decide +kernel
theorem dX3_choiceByListing_57 : decode cX3_choiceByListing 57 = .ok (.bipush 8, 2) := by decide +kernel
theorem dX3_choiceByListing_59 : decode cX3_choiceByListing 59 = .ok (.if_icmp .le 11, 3) := by decide +kernel
theorem dX3_choiceByListing_62 : decode cX3_choiceByListing 62 = .ok (.aload_n 0, 1) := by decide +kernel
theorem dX3_choiceByListing_63 : decode cX3_choiceByListing 63 = .ok (.iconst 2, 1) := by decide +kernel
theorem dX3_choiceByListing_64 : decode cX3_choiceByListing 64 = .ok (.invokevirtual 42, 3) := by decide +kernel
theorem dX3_choiceByListing_67 : decode cX3_choiceByListing 67 = .ok (.goto 8, 3) := by decide +kernel
theorem dX3_choiceByListing_70 : decode cX3_choiceByListing 70 = .ok (.aload_n 0, 1) := by decide +kernel
theorem dX3_choiceByListing_71 : decode cX3_choiceByListing 71 = .ok (.iload_n 1, 1) := by decide +kernel
theorem dX3_choiceByListing_72 : decode cX3_choiceByListing 72 = .ok (.invokevirtual 72, 3) := by decide +kernel
theorem dX3_choiceByListing_75 : decode cX3_choiceByListing 75 = .ok (.ireturn, 1) := by decide +kernel
set_option maxRecDepth 20000 in
theorem ggX3_mostCut_X3_isFree : GoodIn wsX3_mostCut wsX3_isFree := goodIn_r _ [8, 9, 10, 11, 12, 13, 14, 15, 16, 17, 18, 19, 20, 21] (by decide +kernel) (by decide +kernel)
set_option maxRecDepth 20000 in
theorem gX3_mostCut_X3_isFree : GoodIn wsX3_mostCut (wsV RX3 66 RX3 yX3_isFree wsX3_isFree) := goodIn_app (goodIn_of _ (by decide +kernel)) ggX3_mostCut_X3_isFree
theorem dX3_mostCut_0 : decode cX3_mostCut 0 = .ok (.aload_n 0, 1) := by decide +kernel
theorem dX3_mostCut_1 : decode cX3_mostCut 1 = .ok (.iconst 0, 1) := by decide +kernel
theorem dX3_mostCut_2 : decode cX3_mostCut 2 = .ok (.putfield 31, 3) := by decide +kernel
theorem dX3_mostCut_5 : decode cX3_mostCut 5 = .ok (.iconst (-1), 1) := by decide +kernel
theorem dX3_mostCut_6 : decode cX3_mostCut 6 = .ok (.istore_n 1, 1) := by decide +kernel
theorem dX3_mostCut_7 : decode cX3_mostCut 7 = .ok (.iconst 0, 1) := by decide +kernel
theorem dX3_mostCut_8 : decode cX3_mostCut 8 = .ok (.istore_n 2, 1) := by decide +kernel
theorem dX3_mostCut_9 : decode cX3_mostCut 9 = .ok (.iload_n 2, 1) := by decide +kernel
theorem dX3_mostCut_10 : decode cX3_mostCut 10 = .ok (.aload_n 0, 1) := by decide +kernel
theorem dX3_mostCut_11 : decode cX3_mostCut 11 = .ok (.getfield 35, 3) := by decide +kernel
theorem dX3_mostCut_14 : decode cX3_mostCut 14 = .ok (.if_icmp .ge 38, 3) := by decide +kernel
theorem dX3_mostCut_17 : decode cX3_mostCut 17 = .ok (.aload_n 0, 1) := by decide +kernel
theorem dX3_mostCut_18 : decode cX3_mostCut 18 = .ok (.iload_n 2, 1) := by decide +kernel
theorem dX3_mostCut_19 : decode cX3_mostCut 19 = .ok (.invokevirtual 66, 3) := by decide +kernel
theorem dX3_mostCut_22 : decode cX3_mostCut 22 = .ok (.ifCond .eq 24, 3) := by decide +kernel
theorem dX3_mostCut_25 : decode cX3_mostCut 25 = .ok (.iload_n 1, 1) := by decide +kernel
theorem dX3_mostCut_26 : decode cX3_mostCut 26 = .ok (.ifCond .lt 18, 3) := by decide +kernel
theorem dX3_mostCut_29 : decode cX3_mostCut 29 = .ok (.aload_n 0, 1) := by decide +kernel
theorem dX3_mostCut_30 : decode cX3_mostCut 30 = .ok (.getfield 22, 3) := by decide +kernel
theorem dX3_mostCut_33 : decode cX3_mostCut 33 = .ok (.iload_n 2, 1) := by decide +kernel
theorem dX3_mostCut_34 : decode cX3_mostCut 34 = .ok (.iaload, 1) := by decide +kernel
theorem dX3_mostCut_35 : decode cX3_mostCut 35 = .ok (.aload_n 0, 1) := by decide +kernel
theorem dX3_mostCut_36 : decode cX3_mostCut 36 = .ok (.getfield 22, 3) := by decide +kernel
theorem dX3_mostCut_39 : decode cX3_mostCut 39 = .ok (.iload_n 1, 1) := by decide +kernel
theorem dX3_mostCut_40 : decode cX3_mostCut 40 = .ok (.iaload, 1) := by decide +kernel
theorem dX3_mostCut_41 : decode cX3_mostCut 41 = .ok (.if_icmp .le 5, 3) := by decide +kernel
theorem dX3_mostCut_44 : decode cX3_mostCut 44 = .ok (.iload_n 2, 1) := by decide +kernel
theorem dX3_mostCut_45 : decode cX3_mostCut 45 = .ok (.istore_n 1, 1) := by decide +kernel
theorem dX3_mostCut_46 : decode cX3_mostCut 46 = .ok (.iinc 2 1, 3) := by decide +kernel
theorem dX3_mostCut_49 : decode cX3_mostCut 49 = .ok (.goto (-40), 3) := by decide +kernel
theorem dX3_mostCut_52 : decode cX3_mostCut 52 = .ok (.iload_n 1, 1) := by decide +kernel
theorem dX3_mostCut_53 : decode cX3_mostCut 53 = .ok (.ireturn, 1) := by decide +kernel
set_option maxRecDepth 20000 in
theorem ggX3_loadRestored_X3_restoredOf : GoodIn wsX3_loadRestored wsX3_restoredOf := goodIn_r _ [7, 8, 9, 10, 11, 6, 12, 13, 14, 15, 16, 17, 18, 19, 20, 21, 22, 23, 24, 25, 26, 27, 28, 29, 30, 31, 32, 33, 34] (by decide +kernel) (by decide +kernel)
set_option maxRecDepth 20000 in
theorem gX3_loadRestored_X3_restoredOf : GoodIn wsX3_loadRestored (wsV RX3 78 RX3 yX3_restoredOf wsX3_restoredOf) := goodIn_app (goodIn_of _ (by decide +kernel)) ggX3_loadRestored_X3_restoredOf
theorem dX3_loadRestored_0 : decode cX3_loadRestored 0 = .ok (.aload_n 0, 1) := by decide +kernel
theorem dX3_loadRestored_1 : decode cX3_loadRestored 1 = .ok (.iconst 0, 1) := by decide +kernel
theorem dX3_loadRestored_2 : decode cX3_loadRestored 2 = .ok (.putfield 31, 3) := by decide +kernel
theorem dX3_loadRestored_5 : decode cX3_loadRestored 5 = .ok (.iconst 0, 1) := by decide +kernel
theorem dX3_loadRestored_6 : decode cX3_loadRestored 6 = .ok (.istore_n 1, 1) := by decide +kernel
theorem dX3_loadRestored_7 : decode cX3_loadRestored 7 = .ok (.iconst 0, 1) := by decide +kernel
theorem dX3_loadRestored_8 : decode cX3_loadRestored 8 = .ok (.istore_n 2, 1) := by decide +kernel
theorem dX3_loadRestored_9 : decode cX3_loadRestored 9 = .ok (.iload_n 2, 1) := by decide +kernel
theorem dX3_loadRestored_10 : decode cX3_loadRestored 10 = .ok (.aload_n 0, 1) := by decide +kernel
theorem dX3_loadRestored_11 : decode cX3_loadRestored 11 = .ok (.getfield 35, 3) := by decide +kernel
theorem dX3_loadRestored_14 : decode cX3_loadRestored 14 = .ok (.if_icmp .ge 17, 3) := by decide +kernel
theorem dX3_loadRestored_17 : decode cX3_loadRestored 17 = .ok (.iload_n 1, 1) := by decide +kernel
theorem dX3_loadRestored_18 : decode cX3_loadRestored 18 = .ok (.aload_n 0, 1) := by decide +kernel
theorem dX3_loadRestored_19 : decode cX3_loadRestored 19 = .ok (.iload_n 2, 1) := by decide +kernel
theorem dX3_loadRestored_20 : decode cX3_loadRestored 20 = .ok (.invokevirtual 78, 3) := by decide +kernel
theorem dX3_loadRestored_23 : decode cX3_loadRestored 23 = .ok (.iadd, 1) := by decide +kernel
theorem dX3_loadRestored_24 : decode cX3_loadRestored 24 = .ok (.istore_n 1, 1) := by decide +kernel
theorem dX3_loadRestored_25 : decode cX3_loadRestored 25 = .ok (.iinc 2 1, 3) := by decide +kernel
theorem dX3_loadRestored_28 : decode cX3_loadRestored 28 = .ok (.goto (-19), 3) := by decide +kernel
theorem dX3_loadRestored_31 : decode cX3_loadRestored 31 = .ok (.iload_n 1, 1) := by decide +kernel
theorem dX3_loadRestored_32 : decode cX3_loadRestored 32 = .ok (.ireturn, 1) := by decide +kernel
