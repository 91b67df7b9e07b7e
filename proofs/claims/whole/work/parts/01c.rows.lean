theorem dX5_init_0 : decode cX5_init 0 = .ok (.aload_n 0, 1) := by decide +kernel
theorem dX5_init_1 : decode cX5_init 1 = .ok (.invokespecial 1, 3) := by decide +kernel
theorem dX5_init_4 : decode cX5_init 4 = .ok (.return_, 1) := by decide +kernel
theorem dX5_add_0 : decode cX5_add 0 = .ok (.aload_n 0, 1) := by decide +kernel
theorem dX5_add_1 : decode cX5_add 1 = .ok (.dup, 1) := by decide +kernel
theorem dX5_add_2 : decode cX5_add 2 = .ok (.getfield 7, 3) := by decide +kernel
theorem dX5_add_5 : decode cX5_add 5 = .ok (.iconst 1, 1) := by decide +kernel
theorem dX5_add_6 : decode cX5_add 6 = .ok (.iadd, 1) := by decide +kernel
theorem dX5_add_7 : decode cX5_add 7 = .ok (.putfield 7, 3) := by decide +kernel
theorem dX5_add_10 : decode cX5_add 10 = .ok (.aload_n 0, 1) := by decide +kernel
theorem dX5_add_11 : decode cX5_add 11 = .ok (.dup, 1) := by decide +kernel
theorem dX5_add_12 : decode cX5_add 12 = .ok (.getfield 13, 3) := by decide +kernel
theorem dX5_add_15 : decode cX5_add 15 = .ok (.iload_n 2, 1) := by decide +kernel
theorem dX5_add_16 : decode cX5_add 16 = .ok (.iadd, 1) := by decide +kernel
theorem dX5_add_17 : decode cX5_add 17 = .ok (.putfield 13, 3) := by decide +kernel
theorem dX5_add_20 : decode cX5_add 20 = .ok (.iload_n 1, 1) := by decide +kernel
theorem dX5_add_21 : decode cX5_add 21 = .ok (.ifCond .eq 23, 3) := by decide +kernel
theorem dX5_add_24 : decode cX5_add 24 = .ok (.aload_n 0, 1) := by decide +kernel
theorem dX5_add_25 : decode cX5_add 25 = .ok (.dup, 1) := by decide +kernel
theorem dX5_add_26 : decode cX5_add 26 = .ok (.getfield 16, 3) := by decide +kernel
theorem dX5_add_29 : decode cX5_add 29 = .ok (.iconst 1, 1) := by decide +kernel
theorem dX5_add_30 : decode cX5_add 30 = .ok (.iadd, 1) := by decide +kernel
theorem dX5_add_31 : decode cX5_add 31 = .ok (.putfield 16, 3) := by decide +kernel
theorem dX5_add_34 : decode cX5_add 34 = .ok (.aload_n 0, 1) := by decide +kernel
theorem dX5_add_35 : decode cX5_add 35 = .ok (.dup, 1) := by decide +kernel
theorem dX5_add_36 : decode cX5_add 36 = .ok (.getfield 19, 3) := by decide +kernel
theorem dX5_add_39 : decode cX5_add 39 = .ok (.iload_n 2, 1) := by decide +kernel
theorem dX5_add_40 : decode cX5_add 40 = .ok (.iadd, 1) := by decide +kernel
theorem dX5_add_41 : decode cX5_add 41 = .ok (.putfield 19, 3) := by decide +kernel
theorem dX5_add_44 : decode cX5_add 44 = .ok (.return_, 1) := by decide +kernel
set_option maxRecDepth 20000 in
theorem ggX5_ways_X9_choose : GoodIn wsX5_ways wsX9_choose := goodIn_r _ [5] (by decide +kernel) (by decide +kernel)
set_option maxRecDepth 20000 in
theorem gX5_ways_X9_choose_n22 : GoodIn wsX5_ways (wsX9_choose) := ggX5_ways_X9_choose
theorem dX5_ways_0 : decode cX5_ways 0 = .ok (.aload_n 0, 1) := by decide +kernel
theorem dX5_ways_1 : decode cX5_ways 1 = .ok (.getfield 7, 3) := by decide +kernel
theorem dX5_ways_4 : decode cX5_ways 4 = .ok (.aload_n 0, 1) := by decide +kernel
theorem dX5_ways_5 : decode cX5_ways 5 = .ok (.getfield 16, 3) := by decide +kernel
theorem dX5_ways_8 : decode cX5_ways 8 = .ok (.invokestatic 22, 3) := by decide +kernel
theorem dX5_ways_11 : decode cX5_ways 11 = .ok (.lreturn, 1) := by decide +kernel
set_option maxRecDepth 20000 in
theorem ggX5_luckyWays_X9_choose : GoodIn wsX5_luckyWays wsX9_choose := goodIn_r _ [11] (by decide +kernel) (by decide +kernel)
set_option maxRecDepth 20000 in
theorem gX5_luckyWays_X9_choose_n22 : GoodIn wsX5_luckyWays (wsX9_choose) := ggX5_luckyWays_X9_choose
theorem dX5_luckyWays_0 : decode cX5_luckyWays 0 = .ok (.lconst 0, 1) := by decide +kernel
theorem dX5_luckyWays_1 : decode cX5_luckyWays 1 = .ok (.lstore_n 1, 1) := by decide +kernel
theorem dX5_luckyWays_2 : decode cX5_luckyWays 2 = .ok (.aload_n 0, 1) := by decide +kernel
theorem dX5_luckyWays_3 : decode cX5_luckyWays 3 = .ok (.getfield 19, 3) := by decide +kernel
theorem dX5_luckyWays_6 : decode cX5_luckyWays 6 = .ok (.istore_n 3, 1) := by decide +kernel
theorem dX5_luckyWays_7 : decode cX5_luckyWays 7 = .ok (.iload_n 3, 1) := by decide +kernel
theorem dX5_luckyWays_8 : decode cX5_luckyWays 8 = .ok (.aload_n 0, 1) := by decide +kernel
theorem dX5_luckyWays_9 : decode cX5_luckyWays 9 = .ok (.getfield 16, 3) := by decide +kernel
theorem dX5_luckyWays_12 : decode cX5_luckyWays 12 = .ok (.aload_n 0, 1) := by decide +kernel
theorem dX5_luckyWays_13 : decode cX5_luckyWays 13 = .ok (.getfield 13, 3) := by decide +kernel
theorem dX5_luckyWays_16 : decode cX5_luckyWays 16 = .ok (.invokestatic 28, 3) := by decide +kernel
theorem dX5_luckyWays_19 : decode cX5_luckyWays 19 = .ok (.if_icmp .gt 39, 3) := by decide +kernel
theorem dX5_luckyWays_22 : decode cX5_luckyWays 22 = .ok (.lload_n 1, 1) := by decide +kernel
theorem dX5_luckyWays_23 : decode cX5_luckyWays 23 = .ok (.aload_n 0, 1) := by decide +kernel
theorem dX5_luckyWays_24 : decode cX5_luckyWays 24 = .ok (.getfield 13, 3) := by decide +kernel
theorem dX5_luckyWays_27 : decode cX5_luckyWays 27 = .ok (.iload_n 3, 1) := by decide +kernel
theorem dX5_luckyWays_28 : decode cX5_luckyWays 28 = .ok (.invokestatic 22, 3) := by decide +kernel
theorem dX5_luckyWays_31 : decode cX5_luckyWays 31 = .ok (.aload_n 0, 1) := by decide +kernel
theorem dX5_luckyWays_32 : decode cX5_luckyWays 32 = .ok (.getfield 7, 3) := by decide +kernel
theorem dX5_luckyWays_35 : decode cX5_luckyWays 35 = .ok (.aload_n 0, 1) := by decide +kernel
theorem dX5_luckyWays_36 : decode cX5_luckyWays 36 = .ok (.getfield 13, 3) := by decide +kernel
theorem dX5_luckyWays_39 : decode cX5_luckyWays 39 = .ok (.isub, 1) := by decide +kernel
theorem dX5_luckyWays_40 : decode cX5_luckyWays 40 = .ok (.aload_n 0, 1) := by decide +kernel
theorem dX5_luckyWays_41 : decode cX5_luckyWays 41 = .ok (.getfield 16, 3) := by decide +kernel
theorem dX5_luckyWays_44 : decode cX5_luckyWays 44 = .ok (.iload_n 3, 1) := by decide +kernel
theorem dX5_luckyWays_45 : decode cX5_luckyWays 45 = .ok (.isub, 1) := by decide +kernel
theorem dX5_luckyWays_46 : decode cX5_luckyWays 46 = .ok (.invokestatic 22, 3) := by decide +kernel
theorem dX5_luckyWays_49 : decode cX5_luckyWays 49 = .ok (.lmul, 1) := by decide +kernel
theorem dX5_luckyWays_50 : decode cX5_luckyWays 50 = .ok (.ladd, 1) := by decide +kernel
theorem dX5_luckyWays_51 : decode cX5_luckyWays 51 = .ok (.lstore_n 1, 1) := by decide +kernel
theorem dX5_luckyWays_52 : decode cX5_luckyWays 52 = .ok (.iinc 3 1, 3) := by decide +kernel
theorem dX5_luckyWays_55 : decode cX5_luckyWays 55 = .ok (.goto (-48), 3) := by decide +kernel
theorem dX5_luckyWays_58 : decode cX5_luckyWays 58 = .ok (.lload_n 1, 1) := by decide +kernel
theorem dX5_luckyWays_59 : decode cX5_luckyWays 59 = .ok (.lreturn, 1) := by decide +kernel
theorem dX6_init_0 : decode cX6_init 0 = .ok (.aload_n 0, 1) := by decide +kernel
theorem dX6_init_1 : decode cX6_init 1 = .ok (.invokespecial 3, 3) := by decide +kernel
theorem dX6_init_4 : decode cX6_init 4 = .ok (.iconst 0, 1) := by decide +kernel
theorem dX6_init_5 : decode cX6_init 5 = .ok (.iload_n 1, 1) := by decide +kernel
theorem dX6_init_6 : decode cX6_init 6 = .ok (.invokestatic 9, 3) := by decide +kernel
theorem dX6_init_9 : decode cX6_init 9 = .ok (.istore_n 2, 1) := by decide +kernel
theorem dX6_init_10 : decode cX6_init 10 = .ok (.aload_n 0, 1) := by decide +kernel
theorem dX6_init_11 : decode cX6_init 11 = .ok (.iload_n 2, 1) := by decide +kernel
theorem dX6_init_12 : decode cX6_init 12 = .ok (.newarray .int, 2) := by decide +kernel
theorem dX6_init_14 : decode cX6_init 14 = .ok (.putfield 15, 3) := by decide +kernel
theorem dX6_init_17 : decode cX6_init 17 = .ok (.aload_n 0, 1) := by decide +kernel
theorem dX6_init_18 : decode cX6_init 18 = .ok (.iload_n 2, 1) := by decide +kernel
theorem dX6_init_19 : decode cX6_init 19 = .ok (.newarray .int, 2) := by decide +kernel
theorem dX6_init_21 : decode cX6_init 21 = .ok (.putfield 21, 3) := by decide +kernel
theorem dX6_init_24 : decode cX6_init 24 = .ok (.return_, 1) := by decide +kernel
set_option maxRecDepth 20000 in
theorem ggX6_erase_X9_put : GoodIn wsX6_erase wsX9_put := goodIn_r _ [5] (by decide +kernel) (by decide +kernel)
set_option maxRecDepth 20000 in
theorem gX6_erase_X9_put_n24 : GoodIn wsX6_erase (wsX9_put) := ggX6_erase_X9_put
theorem dX6_erase_0 : decode cX6_erase 0 = .ok (.iconst 0, 1) := by decide +kernel
theorem dX6_erase_1 : decode cX6_erase 1 = .ok (.istore_n 1, 1) := by decide +kernel
theorem dX6_erase_2 : decode cX6_erase 2 = .ok (.iload_n 1, 1) := by decide +kernel
theorem dX6_erase_3 : decode cX6_erase 3 = .ok (.aload_n 0, 1) := by decide +kernel
theorem dX6_erase_4 : decode cX6_erase 4 = .ok (.getfield 21, 3) := by decide +kernel
theorem dX6_erase_7 : decode cX6_erase 7 = .ok (.arraylength, 1) := by decide +kernel
theorem dX6_erase_8 : decode cX6_erase 8 = .ok (.if_icmp .ge 27, 3) := by decide +kernel
theorem dX6_erase_11 : decode cX6_erase 11 = .ok (.aload_n 0, 1) := by decide +kernel
theorem dX6_erase_12 : decode cX6_erase 12 = .ok (.getfield 15, 3) := by decide +kernel
theorem dX6_erase_15 : decode cX6_erase 15 = .ok (.iload_n 1, 1) := by decide +kernel
theorem dX6_erase_16 : decode cX6_erase 16 = .ok (.iconst 0, 1) := by decide +kernel
theorem dX6_erase_17 : decode cX6_erase 17 = .ok (.invokestatic 24, 3) := by decide +kernel
theorem dX6_erase_20 : decode cX6_erase 20 = .ok (.aload_n 0, 1) := by decide +kernel
theorem dX6_erase_21 : decode cX6_erase 21 = .ok (.getfield 21, 3) := by decide +kernel
theorem dX6_erase_24 : decode cX6_erase 24 = .ok (.iload_n 1, 1) := by decide +kernel
theorem dX6_erase_25 : decode cX6_erase 25 = .ok (.iconst 0, 1) := by decide +kernel
theorem dX6_erase_26 : decode cX6_erase 26 = .ok (.invokestatic 24, 3) := by decide +kernel
theorem dX6_erase_29 : decode cX6_erase 29 = .ok (.iinc 1 1, 3) := by decide +kernel
theorem dX6_erase_32 : decode cX6_erase 32 = .ok (.goto (-30), 3) := by decide +kernel
theorem dX6_erase_35 : decode cX6_erase 35 = .ok (.return_, 1) := by decide +kernel
set_option maxRecDepth 20000 in
theorem ggX6_add_X9_at : GoodIn wsX6_add wsX9_at := goodIn_r _ [5] (by decide +kernel) (by decide +kernel)
set_option maxRecDepth 20000 in
theorem gX6_add_X9_at_n28 : GoodIn wsX6_add (wsX9_at) := ggX6_add_X9_at
set_option maxRecDepth 20000 in
theorem ggX6_add_X9_put : GoodIn wsX6_add wsX9_put := goodIn_r _ [7] (by decide +kernel) (by decide +kernel)
set_option maxRecDepth 20000 in
theorem gX6_add_X9_put_n24 : GoodIn wsX6_add (wsX9_put) := ggX6_add_X9_put
theorem dX6_add_0 : decode cX6_add 0 = .ok (.iload_n 2, 1) := by decide +kernel
theorem dX6_add_1 : decode cX6_add 1 = .ok (.bipush (-6), 2) := by decide +kernel
theorem dX6_add_3 : decode cX6_add 3 = .ok (.if_icmp .eq 52, 3) := by decide +kernel
theorem dX6_add_6 : decode cX6_add 6 = .ok (.iload_n 2, 1) := by decide +kernel
theorem dX6_add_7 : decode cX6_add 7 = .ok (.sipush 1000, 3) := by decide +kernel
theorem dX6_add_10 : decode cX6_add 10 = .ok (.iload_n 3, 1) := by decide +kernel
theorem dX6_add_11 : decode cX6_add 11 = .ok (.imul, 1) := by decide +kernel
theorem dX6_add_12 : decode cX6_add 12 = .ok (.isub, 1) := by decide +kernel
theorem dX6_add_13 : decode cX6_add 13 = .ok (.istore 4, 2) := by decide +kernel
theorem dX6_add_15 : decode cX6_add 15 = .ok (.aload_n 0, 1) := by decide +kernel
theorem dX6_add_16 : decode cX6_add 16 = .ok (.getfield 15, 3) := by decide +kernel
theorem dX6_add_19 : decode cX6_add 19 = .ok (.iload_n 1, 1) := by decide +kernel
theorem dX6_add_20 : decode cX6_add 20 = .ok (.aload_n 0, 1) := by decide +kernel
theorem dX6_add_21 : decode cX6_add 21 = .ok (.getfield 15, 3) := by decide +kernel
theorem dX6_add_24 : decode cX6_add 24 = .ok (.iload_n 1, 1) := by decide +kernel
theorem dX6_add_25 : decode cX6_add 25 = .ok (.invokestatic 28, 3) := by decide +kernel
theorem dX6_add_28 : decode cX6_add 28 = .ok (.iload 4, 2) := by decide +kernel
theorem dX6_add_30 : decode cX6_add 30 = .ok (.iload 4, 2) := by decide +kernel
theorem dX6_add_32 : decode cX6_add 32 = .ok (.imul, 1) := by decide +kernel
theorem dX6_add_33 : decode cX6_add 33 = .ok (.iadd, 1) := by decide +kernel
theorem dX6_add_34 : decode cX6_add 34 = .ok (.invokestatic 24, 3) := by decide +kernel
theorem dX6_add_37 : decode cX6_add 37 = .ok (.aload_n 0, 1) := by decide +kernel
theorem dX6_add_38 : decode cX6_add 38 = .ok (.getfield 21, 3) := by decide +kernel
theorem dX6_add_41 : decode cX6_add 41 = .ok (.iload_n 1, 1) := by decide +kernel
theorem dX6_add_42 : decode cX6_add 42 = .ok (.aload_n 0, 1) := by decide +kernel
theorem dX6_add_43 : decode cX6_add 43 = .ok (.getfield 21, 3) := by decide +kernel
theorem dX6_add_46 : decode cX6_add 46 = .ok (.iload_n 1, 1) := by decide +kernel
theorem dX6_add_47 : decode cX6_add 47 = .ok (.invokestatic 28, 3) := by decide +kernel
theorem dX6_add_50 : decode cX6_add 50 = .ok (.iconst 1, 1) := by decide +kernel
theorem dX6_add_51 : decode cX6_add 51 = .ok (.iadd, 1) := by decide +kernel
theorem dX6_add_52 : decode cX6_add 52 = .ok (.invokestatic 24, 3) := by decide +kernel
theorem dX6_add_55 : decode cX6_add 55 = .ok (.return_, 1) := by decide +kernel
set_option maxRecDepth 20000 in
theorem ggX6_squaresOf_X9_at : GoodIn wsX6_squaresOf wsX9_at := goodIn_r _ [4] (by decide +kernel) (by decide +kernel)
set_option maxRecDepth 20000 in
theorem gX6_squaresOf_X9_at_n28 : GoodIn wsX6_squaresOf (wsX9_at) := ggX6_squaresOf_X9_at
theorem dX6_squaresOf_0 : decode cX6_squaresOf 0 = .ok (.aload_n 0, 1) := by decide +kernel
theorem dX6_squaresOf_1 : decode cX6_squaresOf 1 = .ok (.getfield 15, 3) := by decide +kernel
theorem dX6_squaresOf_4 : decode cX6_squaresOf 4 = .ok (.iload_n 1, 1) := by decide +kernel
theorem dX6_squaresOf_5 : decode cX6_squaresOf 5 = .ok (.invokestatic 28, 3) := by decide +kernel
theorem dX6_squaresOf_8 : decode cX6_squaresOf 8 = .ok (.ireturn, 1) := by decide +kernel
set_option maxRecDepth 20000 in
theorem ggX6_daysOf_X9_at : GoodIn wsX6_daysOf wsX9_at := goodIn_r _ [4] (by decide +kernel) (by decide +kernel)
set_option maxRecDepth 20000 in
theorem gX6_daysOf_X9_at_n28 : GoodIn wsX6_daysOf (wsX9_at) := ggX6_daysOf_X9_at
theorem dX6_daysOf_0 : decode cX6_daysOf 0 = .ok (.aload_n 0, 1) := by decide +kernel
theorem dX6_daysOf_1 : decode cX6_daysOf 1 = .ok (.getfield 21, 3) := by decide +kernel
theorem dX6_daysOf_4 : decode cX6_daysOf 4 = .ok (.iload_n 1, 1) := by decide +kernel
theorem dX6_daysOf_5 : decode cX6_daysOf 5 = .ok (.invokestatic 28, 3) := by decide +kernel
theorem dX6_daysOf_8 : decode cX6_daysOf 8 = .ok (.ireturn, 1) := by decide +kernel
set_option maxRecDepth 20000 in
theorem ggX6_least_X6_daysOf : GoodIn wsX6_least wsX6_daysOf := goodIn_r _ [6, 1, 7, 8, 9, 26, 27] (by decide +kernel) (by decide +kernel)
set_option maxRecDepth 20000 in
theorem gX6_least_X6_daysOf : GoodIn wsX6_least (wsV RX6 32 RX6 yX6_daysOf wsX6_daysOf) := goodIn_app (goodIn_of _ (by decide +kernel)) ggX6_least_X6_daysOf
set_option maxRecDepth 20000 in
theorem ggX6_least_X6_isBetter : GoodIn wsX6_least wsX6_isBetter := goodIn_r _ [13, 14, 15, 16, 5, 17, 18, 7, 8, 9, 2, 3, 4, 6, 1, 19, 20, 21, 22, 23, 24, 25, 26, 27] (by decide +kernel) (by decide +kernel)
set_option maxRecDepth 20000 in
theorem gX6_least_X6_isBetter : GoodIn wsX6_least (wsV RX6 36 RX6 yX6_isBetter wsX6_isBetter) := goodIn_app (goodIn_of _ (by decide +kernel)) ggX6_least_X6_isBetter
theorem dX6_least_0 : decode cX6_least 0 = .ok (.bipush (-6), 2) := by decide +kernel
theorem dX6_least_2 : decode cX6_least 2 = .ok (.istore_n 2, 1) := by decide +kernel
theorem dX6_least_3 : decode cX6_least 3 = .ok (.iconst 0, 1) := by decide +kernel
theorem dX6_least_4 : decode cX6_least 4 = .ok (.istore_n 3, 1) := by decide +kernel
theorem dX6_least_5 : decode cX6_least 5 = .ok (.iload_n 3, 1) := by decide +kernel
theorem dX6_least_6 : decode cX6_least 6 = .ok (.aload_n 0, 1) := by decide +kernel
theorem dX6_least_7 : decode cX6_least 7 = .ok (.getfield 21, 3) := by decide +kernel
theorem dX6_least_10 : decode cX6_least 10 = .ok (.arraylength, 1) := by decide +kernel
theorem dX6_least_11 : decode cX6_least 11 = .ok (.if_icmp .ge 35, 3) := by decide +kernel
theorem dX6_least_14 : decode cX6_least 14 = .ok (.aload_n 0, 1) := by decide +kernel
theorem dX6_least_15 : decode cX6_least 15 = .ok (.iload_n 3, 1) := by decide +kernel
theorem dX6_least_16 : decode cX6_least 16 = .ok (.invokevirtual 32, 3) := by decide +kernel
theorem dX6_least_19 : decode cX6_least 19 = .ok (.ifCond .le 21, 3) := by decide +kernel
theorem dX6_least_22 : decode cX6_least 22 = .ok (.iload_n 2, 1) := by decide +kernel
theorem dX6_least_23 : decode cX6_least 23 = .ok (.bipush (-6), 2) := by decide +kernel
theorem dX6_least_25 : decode cX6_least 25 = .ok (.if_icmp .eq 13, 3) := by decide +kernel
theorem dX6_least_28 : decode cX6_least 28 = .ok (.aload_n 0, 1) := by decide +kernel
theorem dX6_least_29 : decode cX6_least 29 = .ok (.iload_n 3, 1) := by decide +kernel
theorem dX6_least_30 : decode cX6_least 30 = .ok (.iload_n 2, 1) := by decide +kernel
theorem dX6_least_31 : decode cX6_least 31 = .ok (.iload_n 1, 1) := by decide +kernel
theorem dX6_least_32 : decode cX6_least 32 = .ok (.invokevirtual 36, 3) := by decide +kernel
theorem dX6_least_35 : decode cX6_least 35 = .ok (.ifCond .eq 5, 3) := by decide +kernel
theorem dX6_least_38 : decode cX6_least 38 = .ok (.iload_n 3, 1) := by decide +kernel
theorem dX6_least_39 : decode cX6_least 39 = .ok (.istore_n 2, 1) := by decide +kernel
theorem dX6_least_40 : decode cX6_least 40 = .ok (.iinc 3 1, 3) := by decide +kernel
theorem dX6_least_43 : decode cX6_least 43 = .ok (.goto (-38), 3) := by decide +kernel
theorem dX6_least_46 : decode cX6_least 46 = .ok (.iload_n 2, 1) := by decide +kernel
theorem dX6_least_47 : decode cX6_least 47 = .ok (.ireturn, 1) := by decide +kernel
set_option maxRecDepth 20000 in
theorem ggX6_isBetter_X6_squaresOf : GoodIn wsX6_isBetter wsX6_squaresOf := goodIn_r _ [5, 6, 7, 8, 9, 22, 23] (by decide +kernel) (by decide +kernel)
set_option maxRecDepth 20000 in
theorem gX6_isBetter_X6_squaresOf : GoodIn wsX6_isBetter (wsV RX6 40 RX6 yX6_squaresOf wsX6_squaresOf) := goodIn_app (goodIn_of _ (by decide +kernel)) ggX6_isBetter_X6_squaresOf
set_option maxRecDepth 20000 in
theorem ggX6_isBetter_X6_daysOf : GoodIn wsX6_isBetter wsX6_daysOf := goodIn_r _ [13, 14, 7, 8, 9, 22, 23] (by decide +kernel) (by decide +kernel)
set_option maxRecDepth 20000 in
theorem gX6_isBetter_X6_daysOf : GoodIn wsX6_isBetter (wsV RX6 32 RX6 yX6_daysOf wsX6_daysOf) := goodIn_app (goodIn_of _ (by decide +kernel)) ggX6_isBetter_X6_daysOf
set_option maxRecDepth 20000 in
theorem ggX6_isBetter_J6_bitCount_0f7a4 : GoodIn wsX6_isBetter wsJ6_bitCount_0f7a4 := goodIn_r _ [18, 19, 20, 21] (by decide +kernel) (by decide +kernel)
set_option maxRecDepth 20000 in
theorem gX6_isBetter_J6_bitCount_0f7a4 : GoodIn wsX6_isBetter (va_wsS RX6 43 yJ6_bitCount_0f7a4 wsJ6_bitCount_0f7a4) := goodIn_app (goodIn_of _ (by decide +kernel)) ggX6_isBetter_J6_bitCount_0f7a4
theorem dX6_isBetter_0 : decode cX6_isBetter 0 = .ok (.aload_n 0, 1) := by decide +kernel
theorem dX6_isBetter_1 : decode cX6_isBetter 1 = .ok (.iload_n 1, 1) := by decide +kernel
theorem dX6_isBetter_2 : decode cX6_isBetter 2 = .ok (.invokevirtual 40, 3) := by decide +kernel
theorem dX6_isBetter_5 : decode cX6_isBetter 5 = .ok (.i2l, 1) := by decide +kernel
theorem dX6_isBetter_6 : decode cX6_isBetter 6 = .ok (.aload_n 0, 1) := by decide +kernel
theorem dX6_isBetter_7 : decode cX6_isBetter 7 = .ok (.iload_n 2, 1) := by decide +kernel
theorem dX6_isBetter_8 : decode cX6_isBetter 8 = .ok (.invokevirtual 32, 3) := by decide +kernel
theorem dX6_isBetter_11 : decode cX6_isBetter 11 = .ok (.i2l, 1) := by decide +kernel
theorem dX6_isBetter_12 : decode cX6_isBetter 12 = .ok (.lmul, 1) := by decide +kernel
theorem dX6_isBetter_13 : decode cX6_isBetter 13 = .ok (.lstore 4, 2) := by decide +kernel
theorem dX6_isBetter_15 : decode cX6_isBetter 15 = .ok (.aload_n 0, 1) := by decide +kernel
theorem dX6_isBetter_16 : decode cX6_isBetter 16 = .ok (.iload_n 2, 1) := by decide +kernel
theorem dX6_isBetter_17 : decode cX6_isBetter 17 = .ok (.invokevirtual 40, 3) := by decide +kernel
theorem dX6_isBetter_20 : decode cX6_isBetter 20 = .ok (.i2l, 1) := by decide +kernel
theorem dX6_isBetter_21 : decode cX6_isBetter 21 = .ok (.aload_n 0, 1) := by decide +kernel
theorem dX6_isBetter_22 : decode cX6_isBetter 22 = .ok (.iload_n 1, 1) := by decide +kernel
theorem dX6_isBetter_23 : decode cX6_isBetter 23 = .ok (.invokevirtual 32, 3) := by decide +kernel
theorem dX6_isBetter_26 : decode cX6_isBetter 26 = .ok (.i2l, 1) := by decide +kernel
theorem dX6_isBetter_27 : decode cX6_isBetter 27 = .ok (.lmul, 1) := by decide +kernel
theorem dX6_isBetter_28 : decode cX6_isBetter 28 = .ok (.lstore 6, 2) := by decide +kernel
theorem dX6_isBetter_30 : decode cX6_isBetter 30 = .ok (.lload 4, 2) := by decide +kernel
theorem dX6_isBetter_32 : decode cX6_isBetter 32 = .ok (.lload 6, 2) := by decide +kernel
theorem dX6_isBetter_34 : decode cX6_isBetter 34 = .ok (.lcmp, 1) := by decide +kernel
theorem dX6_isBetter_35 : decode cX6_isBetter 35 = .ok (.ifCond .eq 17, 3) := by decide +kernel
theorem dX6_isBetter_38 : decode cX6_isBetter 38 = .ok (.lload 4, 2) := by decide +kernel
theorem dX6_isBetter_40 : decode cX6_isBetter 40 = .ok (.lload 6, 2) := by decide +kernel
theorem dX6_isBetter_42 : decode cX6_isBetter 42 = .ok (.lcmp, 1) := by decide +kernel
theorem dX6_isBetter_43 : decode cX6_isBetter 43 = .ok (.ifCond .ge 7, 3) := by decide +kernel
theorem dX6_isBetter_46 : decode cX6_isBetter 46 = .ok (.iconst 1, 1) := by decide +kernel
theorem dX6_isBetter_47 : decode cX6_isBetter 47 = .ok (.goto 4, 3) := by decide +kernel
theorem dX6_isBetter_50 : decode cX6_isBetter 50 = .ok (.iconst 0, 1) := by decide +kernel
theorem dX6_isBetter_51 : decode cX6_isBetter 51 = .ok (.ireturn, 1) := by decide +kernel
theorem dX6_isBetter_52 : decode cX6_isBetter 52 = .ok (.iload_n 3, 1) := by decide +kernel
theorem dX6_isBetter_53 : decode cX6_isBetter 53 = .ok (.ifCond .eq 18, 3) := by decide +kernel
theorem dX6_isBetter_56 : decode cX6_isBetter 56 = .ok (.iload_n 1, 1) := by decide +kernel
theorem dX6_isBetter_57 : decode cX6_isBetter 57 = .ok (.invokestatic 43, 3) := by decide +kernel
theorem dX6_isBetter_60 : decode cX6_isBetter 60 = .ok (.iload_n 2, 1) := by decide +kernel
theorem dX6_isBetter_61 : decode cX6_isBetter 61 = .ok (.invokestatic 43, 3) := by decide +kernel
theorem dX6_isBetter_64 : decode cX6_isBetter 64 = .ok (.if_icmp .ge 7, 3) := by decide +kernel
theorem dX6_isBetter_67 : decode cX6_isBetter 67 = .ok (.iconst 1, 1) := by decide +kernel
theorem dX6_isBetter_68 : decode cX6_isBetter 68 = .ok (.goto 4, 3) := by decide +kernel
theorem dX6_isBetter_71 : decode cX6_isBetter 71 = .ok (.iconst 0, 1) := by decide +kernel
theorem dX6_isBetter_72 : decode cX6_isBetter 72 = .ok (.ireturn, 1) := by decide +kernel
set_option maxRecDepth 20000 in
theorem ggX7_init_X1_init : GoodIn wsX7_init wsX1_init := goodIn_r _ [24, 25, 2, 3, 26, 27, 28, 52, 53, 54] (by decide +kernel) (by decide +kernel)
set_option maxRecDepth 20000 in
theorem gX7_init_X1_init_n11 : GoodIn wsX7_init (wsX1_init) := ggX7_init_X1_init
set_option maxRecDepth 20000 in
theorem ggX7_init_X0_init : GoodIn wsX7_init wsX0_init := goodIn_r _ [30, 31, 2, 3, 32, 33, 34, 35, 36, 37, 38, 39, 40, 62, 63, 64, 65, 66, 67, 68, 69, 70] (by decide +kernel) (by decide +kernel)
set_option maxRecDepth 20000 in
theorem gX7_init_X0_init_n20 : GoodIn wsX7_init (wsX0_init) := ggX7_init_X0_init
set_option maxRecDepth 20000 in
theorem ggX7_init_X2_init : GoodIn wsX7_init wsX2_init := goodIn_r _ [42, 43, 2, 3, 32, 44, 45, 46, 47, 71, 72, 73, 74, 75] (by decide +kernel) (by decide +kernel)
set_option maxRecDepth 20000 in
theorem gX7_init_X2_init_n27 : GoodIn wsX7_init (wsX2_init) := ggX7_init_X2_init
set_option maxRecDepth 20000 in
theorem ggX7_init_X8_init : GoodIn wsX7_init wsX8_init := goodIn_r _ [49, 50, 2, 3, 32, 51, 76, 77] (by decide +kernel) (by decide +kernel)
set_option maxRecDepth 20000 in
theorem gX7_init_X8_init_n48 : GoodIn wsX7_init (wsX8_init) := ggX7_init_X8_init
theorem dX7_init_0 : decode cX7_init 0 = .ok (.aload_n 0, 1) := by decide +kernel
theorem dX7_init_1 : decode cX7_init 1 = .ok (.invokespecial 3, 3) := by decide +kernel
theorem dX7_init_4 : decode cX7_init 4 = .ok (.aload_n 0, 1) := by decide +kernel
theorem dX7_init_5 : decode cX7_init 5 = .ok (.new 9, 3) := by decide +kernel
theorem dX7_init_8 : decode cX7_init 8 = .ok (.dup, 1) := by decide +kernel
theorem dX7_init_9 : decode cX7_init 9 = .ok (.invokespecial 11, 3) := by decide +kernel
theorem dX7_init_12 : decode cX7_init 12 = .ok (.putfield 12, 3) := by decide +kernel
theorem dX7_init_15 : decode cX7_init 15 = .ok (.aload_n 0, 1) := by decide +kernel
theorem dX7_init_16 : decode cX7_init 16 = .ok (.new 18, 3) := by decide +kernel
theorem dX7_init_19 : decode cX7_init 19 = .ok (.dup, 1) := by decide +kernel
theorem dX7_init_20 : decode cX7_init 20 = .ok (.invokespecial 20, 3) := by decide +kernel
theorem dX7_init_23 : decode cX7_init 23 = .ok (.putfield 21, 3) := by decide +kernel
theorem dX7_init_26 : decode cX7_init 26 = .ok (.aload_n 0, 1) := by decide +kernel
theorem dX7_init_27 : decode cX7_init 27 = .ok (.new 25, 3) := by decide +kernel
theorem dX7_init_30 : decode cX7_init 30 = .ok (.dup, 1) := by decide +kernel
theorem dX7_init_31 : decode cX7_init 31 = .ok (.invokespecial 27, 3) := by decide +kernel
theorem dX7_init_34 : decode cX7_init 34 = .ok (.putfield 28, 3) := by decide +kernel
theorem dX7_init_37 : decode cX7_init 37 = .ok (.aload_n 0, 1) := by decide +kernel
theorem dX7_init_38 : decode cX7_init 38 = .ok (.iconst 4, 1) := by decide +kernel
theorem dX7_init_39 : decode cX7_init 39 = .ok (.anewarray 32, 3) := by decide +kernel
theorem dX7_init_42 : decode cX7_init 42 = .ok (.putfield 34, 3) := by decide +kernel
theorem dX7_init_45 : decode cX7_init 45 = .ok (.aload_n 0, 1) := by decide +kernel
theorem dX7_init_46 : decode cX7_init 46 = .ok (.iconst 4, 1) := by decide +kernel
theorem dX7_init_47 : decode cX7_init 47 = .ok (.putfield 38, 3) := by decide +kernel
theorem dX7_init_50 : decode cX7_init 50 = .ok (.aload_n 0, 1) := by decide +kernel
theorem dX7_init_51 : decode cX7_init 51 = .ok (.iconst 5, 1) := by decide +kernel
theorem dX7_init_52 : decode cX7_init 52 = .ok (.putfield 42, 3) := by decide +kernel
theorem dX7_init_55 : decode cX7_init 55 = .ok (.aload_n 0, 1) := by decide +kernel
theorem dX7_init_56 : decode cX7_init 56 = .ok (.iconst 3, 1) := by decide +kernel
theorem dX7_init_57 : decode cX7_init 57 = .ok (.putfield 45, 3) := by decide +kernel
theorem dX7_init_60 : decode cX7_init 60 = .ok (.iconst 0, 1) := by decide +kernel
theorem dX7_init_61 : decode cX7_init 61 = .ok (.istore_n 1, 1) := by decide +kernel
theorem dX7_init_62 : decode cX7_init 62 = .ok (.iload_n 1, 1) := by decide +kernel
theorem dX7_init_63 : decode cX7_init 63 = .ok (.aload_n 0, 1) := by decide +kernel
theorem dX7_init_64 : decode cX7_init 64 = .ok (.getfield 34, 3) := by decide +kernel
theorem dX7_init_67 : decode cX7_init 67 = .ok (.arraylength, 1) := by decide +kernel
theorem dX7_init_68 : decode cX7_init 68 = .ok (.if_icmp .ge 22, 3) := by decide +kernel
theorem dX7_init_71 : decode cX7_init 71 = .ok (.aload_n 0, 1) := by decide +kernel
theorem dX7_init_72 : decode cX7_init 72 = .ok (.getfield 34, 3) := by decide +kernel
theorem dX7_init_75 : decode cX7_init 75 = .ok (.iload_n 1, 1) := by decide +kernel
theorem dX7_init_76 : decode cX7_init 76 = .ok (.new 32, 3) := by decide +kernel
theorem dX7_init_79 : decode cX7_init 79 = .ok (.dup, 1) := by decide +kernel
theorem dX7_init_80 : decode cX7_init 80 = .ok (.invokespecial 48, 3) := by decide +kernel
theorem dX7_init_83 : decode cX7_init 83 = .ok (.aastore, 1) := by decide +kernel
theorem dX7_init_84 : decode cX7_init 84 = .ok (.iinc 1 1, 3) := by decide +kernel
theorem dX7_init_87 : decode cX7_init 87 = .ok (.goto (-25), 3) := by decide +kernel
theorem dX7_init_90 : decode cX7_init 90 = .ok (.return_, 1) := by decide +kernel
set_option maxRecDepth 20000 in
theorem ggX7_takeAll_X1_take : GoodIn wsX7_takeAll wsX1_take := goodIn_r _ [12, 13, 14, 15, 70, 71, 72] (by decide +kernel) (by decide +kernel)
set_option maxRecDepth 20000 in
theorem gX7_takeAll_X1_take : GoodIn wsX7_takeAll (wsV RX7 49 RX1 yX1_take wsX1_take) := goodIn_app (goodIn_of _ (by decide +kernel)) ggX7_takeAll_X1_take
set_option maxRecDepth 20000 in
theorem ggX7_takeAll_X0_take : GoodIn wsX7_takeAll wsX0_take := goodIn_r _ [20, 21, 22, 23, 24, 25, 26, 27, 28, 29, 30, 31, 32, 33, 34, 35, 36, 37, 38, 39, 40, 73, 74, 75, 76, 77, 78, 79, 80, 81] (by decide +kernel) (by decide +kernel)
set_option maxRecDepth 20000 in
theorem gX7_takeAll_X0_take : GoodIn wsX7_takeAll (wsV RX7 53 RX0 yX0_take wsX0_take) := goodIn_app (goodIn_of _ (by decide +kernel)) ggX7_takeAll_X0_take
set_option maxRecDepth 20000 in
theorem ggX7_takeAll_X2_take : GoodIn wsX7_takeAll wsX2_take := goodIn_r _ [45, 46, 47, 48, 49, 50, 30, 31, 32, 33, 34, 35, 36, 37, 38, 39, 40, 82, 83, 84, 85, 86] (by decide +kernel) (by decide +kernel)
set_option maxRecDepth 20000 in
theorem gX7_takeAll_X2_take : GoodIn wsX7_takeAll (wsV RX7 56 RX2 yX2_take wsX2_take) := goodIn_app (goodIn_of _ (by decide +kernel)) ggX7_takeAll_X2_take
set_option maxRecDepth 20000 in
theorem ggX7_takeAll_X7_sayingAt : GoodIn wsX7_takeAll wsX7_sayingAt := goodIn_r _ [55, 4, 63, 64, 65, 66, 67, 68, 69] (by decide +kernel) (by decide +kernel)
set_option maxRecDepth 20000 in
theorem gX7_takeAll_X7_sayingAt : GoodIn wsX7_takeAll (wsV RX7 59 RX7 yX7_sayingAt wsX7_sayingAt) := goodIn_app (goodIn_of _ (by decide +kernel)) ggX7_takeAll_X7_sayingAt
set_option maxRecDepth 20000 in
theorem ggX7_takeAll_X8_take : GoodIn wsX7_takeAll wsX8_take := goodIn_r _ [60, 61, 62, 30, 31, 32, 33, 34, 35, 36, 37, 38, 39, 40, 87, 88] (by decide +kernel) (by decide +kernel)
set_option maxRecDepth 20000 in
theorem gX7_takeAll_X8_take : GoodIn wsX7_takeAll (wsV RX7 63 RX8 yX8_take wsX8_take) := goodIn_app (goodIn_of _ (by decide +kernel)) ggX7_takeAll_X8_take
theorem dX7_takeAll_0 : decode cX7_takeAll 0 = .ok (.aload_n 0, 1) := by decide +kernel
theorem dX7_takeAll_1 : decode cX7_takeAll 1 = .ok (.getfield 12, 3) := by decide +kernel
theorem dX7_takeAll_4 : decode cX7_takeAll 4 = .ok (.aload_n 1, 1) := by decide +kernel
theorem dX7_takeAll_5 : decode cX7_takeAll 5 = .ok (.getfield 12, 3) := by decide +kernel
theorem dX7_takeAll_8 : decode cX7_takeAll 8 = .ok (.invokevirtual 49, 3) := by decide +kernel
theorem dX7_takeAll_11 : decode cX7_takeAll 11 = .ok (.aload_n 0, 1) := by decide +kernel
theorem dX7_takeAll_12 : decode cX7_takeAll 12 = .ok (.getfield 21, 3) := by decide +kernel
theorem dX7_takeAll_15 : decode cX7_takeAll 15 = .ok (.aload_n 1, 1) := by decide +kernel
theorem dX7_takeAll_16 : decode cX7_takeAll 16 = .ok (.getfield 21, 3) := by decide +kernel
theorem dX7_takeAll_19 : decode cX7_takeAll 19 = .ok (.invokevirtual 53, 3) := by decide +kernel
theorem dX7_takeAll_22 : decode cX7_takeAll 22 = .ok (.aload_n 0, 1) := by decide +kernel
theorem dX7_takeAll_23 : decode cX7_takeAll 23 = .ok (.getfield 28, 3) := by decide +kernel
theorem dX7_takeAll_26 : decode cX7_takeAll 26 = .ok (.aload_n 1, 1) := by decide +kernel
theorem dX7_takeAll_27 : decode cX7_takeAll 27 = .ok (.getfield 28, 3) := by decide +kernel
theorem dX7_takeAll_30 : decode cX7_takeAll 30 = .ok (.invokevirtual 56, 3) := by decide +kernel
theorem dX7_takeAll_33 : decode cX7_takeAll 33 = .ok (.iconst 0, 1) := by decide +kernel
theorem dX7_takeAll_34 : decode cX7_takeAll 34 = .ok (.istore_n 2, 1) := by decide +kernel
theorem dX7_takeAll_35 : decode cX7_takeAll 35 = .ok (.iload_n 2, 1) := by decide +kernel
theorem dX7_takeAll_36 : decode cX7_takeAll 36 = .ok (.aload_n 0, 1) := by decide +kernel
theorem dX7_takeAll_37 : decode cX7_takeAll 37 = .ok (.getfield 34, 3) := by decide +kernel
theorem dX7_takeAll_40 : decode cX7_takeAll 40 = .ok (.arraylength, 1) := by decide +kernel
theorem dX7_takeAll_41 : decode cX7_takeAll 41 = .ok (.if_icmp .ge 37, 3) := by decide +kernel
theorem dX7_takeAll_44 : decode cX7_takeAll 44 = .ok (.aload_n 0, 1) := by decide +kernel
theorem dX7_takeAll_45 : decode cX7_takeAll 45 = .ok (.iload_n 2, 1) := by decide +kernel
theorem dX7_takeAll_46 : decode cX7_takeAll 46 = .ok (.invokevirtual 59, 3) := by decide +kernel
theorem dX7_takeAll_49 : decode cX7_takeAll 49 = .ok (.astore_n 3, 1) := by decide +kernel
theorem dX7_takeAll_50 : decode cX7_takeAll 50 = .ok (.aload_n 1, 1) := by decide +kernel
theorem dX7_takeAll_51 : decode cX7_takeAll 51 = .ok (.iload_n 2, 1) := by decide +kernel
theorem dX7_takeAll_52 : decode cX7_takeAll 52 = .ok (.invokevirtual 59, 3) := by decide +kernel
theorem dX7_takeAll_55 : decode cX7_takeAll 55 = .ok (.astore 4, 2) := by decide +kernel
theorem dX7_takeAll_57 : decode cX7_takeAll 57 = .ok (.aload_n 3, 1) := by decide +kernel
theorem dX7_takeAll_58 : decode cX7_takeAll 58 = .ok (.ifnull 14, 3) := by decide +kernel
theorem dX7_takeAll_61 : decode cX7_takeAll 61 = .ok (.aload 4, 2) := by decide +kernel
theorem dX7_takeAll_63 : decode cX7_takeAll 63 = .ok (.ifnull 9, 3) := by decide +kernel
theorem dX7_takeAll_66 : decode cX7_takeAll 66 = .ok (.aload_n 3, 1) := by decide +kernel
theorem dX7_takeAll_67 : decode cX7_takeAll 67 = .ok (.aload 4, 2) := by decide +kernel
theorem dX7_takeAll_69 : decode cX7_takeAll 69 = .ok (.invokevirtual 63, 3) := by decide +kernel
theorem dX7_takeAll_72 : decode cX7_takeAll 72 = .ok (.iinc 2 1, 3) := by decide +kernel
theorem dX7_takeAll_75 : decode cX7_takeAll 75 = .ok (.goto (-40), 3) := by decide +kernel
theorem dX7_takeAll_78 : decode cX7_takeAll 78 = .ok (.aload_n 0, 1) := by decide +kernel
theorem dX7_takeAll_79 : decode cX7_takeAll 79 = .ok (.aload_n 1, 1) := by decide +kernel
theorem dX7_takeAll_80 : decode cX7_takeAll 80 = .ok (.getfield 38, 3) := by decide +kernel
theorem dX7_takeAll_83 : decode cX7_takeAll 83 = .ok (.putfield 38, 3) := by decide +kernel
theorem dX7_takeAll_86 : decode cX7_takeAll 86 = .ok (.aload_n 0, 1) := by decide +kernel
theorem dX7_takeAll_87 : decode cX7_takeAll 87 = .ok (.aload_n 1, 1) := by decide +kernel
theorem dX7_takeAll_88 : decode cX7_takeAll 88 = .ok (.getfield 42, 3) := by decide +kernel
theorem dX7_takeAll_91 : decode cX7_takeAll 91 = .ok (.putfield 42, 3) := by decide +kernel
theorem dX7_takeAll_94 : decode cX7_takeAll 94 = .ok (.aload_n 0, 1) := by decide +kernel
theorem dX7_takeAll_95 : decode cX7_takeAll 95 = .ok (.aload_n 1, 1) := by decide +kernel
theorem dX7_takeAll_96 : decode cX7_takeAll 96 = .ok (.getfield 45, 3) := by decide +kernel
theorem dX7_takeAll_99 : decode cX7_takeAll 99 = .ok (.putfield 45, 3) := by decide +kernel
theorem dX7_takeAll_102 : decode cX7_takeAll 102 = .ok (.return_, 1) := by decide +kernel
theorem dX7_sayingAt_0 : decode cX7_sayingAt 0 = .ok (.iload_n 1, 1) := by decide +kernel
theorem dX7_sayingAt_1 : decode cX7_sayingAt 1 = .ok (.ifCond .lt 21, 3) := by decide +kernel
theorem dX7_sayingAt_4 : decode cX7_sayingAt 4 = .ok (.iload_n 1, 1) := by decide +kernel
theorem dX7_sayingAt_5 : decode cX7_sayingAt 5 = .ok (.aload_n 0, 1) := by decide +kernel
theorem dX7_sayingAt_6 : decode cX7_sayingAt 6 = .ok (.getfield 34, 3) := by decide +kernel
theorem dX7_sayingAt_9 : decode cX7_sayingAt 9 = .ok (.arraylength, 1) := by decide +kernel
theorem dX7_sayingAt_10 : decode cX7_sayingAt 10 = .ok (.if_icmp .ge 12, 3) := by decide +kernel
theorem dX7_sayingAt_13 : decode cX7_sayingAt 13 = .ok (.aload_n 0, 1) := by decide +kernel
theorem dX7_sayingAt_14 : decode cX7_sayingAt 14 = .ok (.getfield 34, 3) := by decide +kernel
theorem dX7_sayingAt_17 : decode cX7_sayingAt 17 = .ok (.iload_n 1, 1) := by decide +kernel
theorem dX7_sayingAt_18 : decode cX7_sayingAt 18 = .ok (.aaload, 1) := by decide +kernel
theorem dX7_sayingAt_19 : decode cX7_sayingAt 19 = .ok (.goto 4, 3) := by decide +kernel
theorem dX7_sayingAt_22 : decode cX7_sayingAt 22 = .ok (.aconst_null, 1) := by decide +kernel
theorem dX7_sayingAt_23 : decode cX7_sayingAt 23 = .ok (.areturn, 1) := by decide +kernel
set_option maxRecDepth 20000 in
theorem ggX7_oddsOf_X0_lookOf : GoodIn wsX7_oddsOf wsX0_lookOf := goodIn_r _ [8, 9, 10, 11, 12, 13, 14, 15, 16, 17, 18, 19, 7, 20, 21, 22, 23, 24, 183, 184, 185, 186, 187, 188, 189, 190, 191] (by decide +kernel) (by decide +kernel)
set_option maxRecDepth 20000 in
theorem gX7_oddsOf_X0_lookOf : GoodIn wsX7_oddsOf (wsV RX7 66 RX0 yX0_lookOf wsX0_lookOf) := goodIn_app (goodIn_of _ (by decide +kernel)) ggX7_oddsOf_X0_lookOf
set_option maxRecDepth 20000 in
theorem ggX7_oddsOf_X0_monthOdds : GoodIn wsX7_oddsOf wsX0_monthOdds := goodIn_r _ [28, 29, 12, 30, 31, 32, 7, 33, 14, 15, 16, 17, 34, 35, 36, 37, 13, 38, 39, 183, 184, 185, 186, 187, 188, 189, 190, 191] (by decide +kernel) (by decide +kernel)
set_option maxRecDepth 20000 in
theorem gX7_oddsOf_X0_monthOdds : GoodIn wsX7_oddsOf (wsV RX7 70 RX0 yX0_monthOdds wsX0_monthOdds) := goodIn_app (goodIn_of _ (by decide +kernel)) ggX7_oddsOf_X0_monthOdds
set_option maxRecDepth 20000 in
theorem ggX7_oddsOf_X0_likeOdds : GoodIn wsX7_oddsOf wsX0_likeOdds := goodIn_r _ [43, 29, 44, 45, 46, 7, 47, 30, 31, 32, 33, 14, 15, 16, 17, 48, 49, 50, 51, 52, 34, 35, 36, 37, 13, 38, 39, 183, 184, 185, 186, 187, 188, 189, 190, 191] (by decide +kernel) (by decide +kernel)
set_option maxRecDepth 20000 in
theorem gX7_oddsOf_X0_likeOdds : GoodIn wsX7_oddsOf (wsV RX7 74 RX0 yX0_likeOdds wsX0_likeOdds) := goodIn_app (goodIn_of _ (by decide +kernel)) ggX7_oddsOf_X0_likeOdds
set_option maxRecDepth 20000 in
theorem ggX7_oddsOf_X0_wireOf : GoodIn wsX7_oddsOf wsX0_wireOf := goodIn_r _ [56, 57, 15, 16, 17, 183, 184, 185, 186, 187, 188, 189, 190, 191] (by decide +kernel) (by decide +kernel)
set_option maxRecDepth 20000 in
theorem gX7_oddsOf_X0_wireOf : GoodIn wsX7_oddsOf (wsV RX7 77 RX0 yX0_wireOf wsX0_wireOf) := goodIn_app (goodIn_of _ (by decide +kernel)) ggX7_oddsOf_X0_wireOf
set_option maxRecDepth 20000 in
theorem ggX7_oddsOf_X7_join : GoodIn wsX7_oddsOf wsX7_join := goodIn_r _ [61] (by decide +kernel) (by decide +kernel)
set_option maxRecDepth 20000 in
theorem gX7_oddsOf_X7_join : GoodIn wsX7_oddsOf (va_wsS RX7 80 yX7_join wsX7_join) := goodIn_app (goodIn_of _ (by decide +kernel)) ggX7_oddsOf_X7_join
set_option maxRecDepth 20000 in
theorem ggX7_oddsOf_X7_sayingAt : GoodIn wsX7_oddsOf wsX7_sayingAt := goodIn_r _ [65, 66, 176, 177, 178, 179, 180, 181, 182] (by decide +kernel) (by decide +kernel)
set_option maxRecDepth 20000 in
theorem gX7_oddsOf_X7_sayingAt : GoodIn wsX7_oddsOf (wsV RX7 59 RX7 yX7_sayingAt wsX7_sayingAt) := goodIn_app (goodIn_of _ (by decide +kernel)) ggX7_oddsOf_X7_sayingAt
set_option maxRecDepth 20000 in
theorem ggX7_oddsOf_X8_oddsTold : GoodIn wsX7_oddsOf wsX8_oddsTold := goodIn_r _ [71, 72, 73, 15, 16, 17, 74, 75, 70, 76, 77, 78, 79, 80, 81, 82, 83, 84, 85, 86, 87, 88, 89, 90, 91, 92, 93, 94, 95, 96, 97, 98, 99, 100, 101, 102, 103, 104, 105, 106, 107, 108, 22, 23, 24, 109, 110, 111, 112, 113, 114, 115, 116, 117, 118, 119, 120, 121, 122, 123, 124, 125, 126, 127, 128, 129, 130, 131, 132, 133, 134, 135, 136, 137, 138, 139, 140, 141, 142, 143, 144, 145, 146, 147, 148, 149, 150, 151, 152, 153, 154, 155, 156, 157, 158, 159, 160, 161, 162, 163, 164, 165, 166, 5, 6, 7, 8, 9, 10, 11, 12, 13, 14, 18, 19, 20, 21, 167, 168, 169, 170, 171, 172, 173, 174, 175, 192, 193, 183, 184, 185, 186, 187, 188, 189, 190, 191] (by decide +kernel) (by decide +kernel)
set_option maxRecDepth 20000 in
theorem gX7_oddsOf_X8_oddsTold : GoodIn wsX7_oddsOf (wsV RX7 84 RX8 yX8_oddsTold wsX8_oddsTold) := goodIn_app (goodIn_of _ (by decide +kernel)) ggX7_oddsOf_X8_oddsTold
theorem dX7_oddsOf_0 : decode cX7_oddsOf 0 = .ok (.iload_n 1, 1) := by decide +kernel
theorem dX7_oddsOf_1 : decode cX7_oddsOf 1 = .ok (.tableswitch 137 0 8 #[51, 78, 137, 137, 137, 137, 87, 100, 109], 51) := by decide +kernel
theorem dX7_oddsOf_52 : decode cX7_oddsOf 52 = .ok (.aload_n 0, 1) := by decide +kernel
theorem dX7_oddsOf_53 : decode cX7_oddsOf 53 = .ok (.getfield 21, 3) := by decide +kernel
theorem dX7_oddsOf_56 : decode cX7_oddsOf 56 = .ok (.iload_n 2, 1) := by decide +kernel
theorem dX7_oddsOf_57 : decode cX7_oddsOf 57 = .ok (.iconst 4, 1) := by decide +kernel
theorem dX7_oddsOf_58 : decode cX7_oddsOf 58 = .ok (.invokevirtual 66, 3) := by decide +kernel
theorem dX7_oddsOf_61 : decode cX7_oddsOf 61 = .ok (.istore_n 3, 1) := by decide +kernel
theorem dX7_oddsOf_62 : decode cX7_oddsOf 62 = .ok (.iload_n 3, 1) := by decide +kernel
theorem dX7_oddsOf_63 : decode cX7_oddsOf 63 = .ok (.bipush (-6), 2) := by decide +kernel
theorem dX7_oddsOf_65 : decode cX7_oddsOf 65 = .ok (.if_icmp .ne 8, 3) := by decide +kernel
theorem dX7_oddsOf_68 : decode cX7_oddsOf 68 = .ok (.bipush (-6), 2) := by decide +kernel
theorem dX7_oddsOf_70 : decode cX7_oddsOf 70 = .ok (.goto 8, 3) := by decide +kernel
theorem dX7_oddsOf_73 : decode cX7_oddsOf 73 = .ok (.sipush 1000, 3) := by decide +kernel
theorem dX7_oddsOf_76 : decode cX7_oddsOf 76 = .ok (.iload_n 3, 1) := by decide +kernel
theorem dX7_oddsOf_77 : decode cX7_oddsOf 77 = .ok (.imul, 1) := by decide +kernel
theorem dX7_oddsOf_78 : decode cX7_oddsOf 78 = .ok (.ireturn, 1) := by decide +kernel
theorem dX7_oddsOf_79 : decode cX7_oddsOf 79 = .ok (.aload_n 0, 1) := by decide +kernel
theorem dX7_oddsOf_80 : decode cX7_oddsOf 80 = .ok (.getfield 21, 3) := by decide +kernel
theorem dX7_oddsOf_83 : decode cX7_oddsOf 83 = .ok (.iload_n 2, 1) := by decide +kernel
theorem dX7_oddsOf_84 : decode cX7_oddsOf 84 = .ok (.invokevirtual 70, 3) := by decide +kernel
theorem dX7_oddsOf_87 : decode cX7_oddsOf 87 = .ok (.ireturn, 1) := by decide +kernel
theorem dX7_oddsOf_88 : decode cX7_oddsOf 88 = .ok (.aload_n 0, 1) := by decide +kernel
theorem dX7_oddsOf_89 : decode cX7_oddsOf 89 = .ok (.getfield 21, 3) := by decide +kernel
theorem dX7_oddsOf_92 : decode cX7_oddsOf 92 = .ok (.iload_n 2, 1) := by decide +kernel
theorem dX7_oddsOf_93 : decode cX7_oddsOf 93 = .ok (.aload_n 0, 1) := by decide +kernel
theorem dX7_oddsOf_94 : decode cX7_oddsOf 94 = .ok (.getfield 38, 3) := by decide +kernel
theorem dX7_oddsOf_97 : decode cX7_oddsOf 97 = .ok (.invokevirtual 74, 3) := by decide +kernel
theorem dX7_oddsOf_100 : decode cX7_oddsOf 100 = .ok (.ireturn, 1) := by decide +kernel
theorem dX7_oddsOf_101 : decode cX7_oddsOf 101 = .ok (.aload_n 0, 1) := by decide +kernel
theorem dX7_oddsOf_102 : decode cX7_oddsOf 102 = .ok (.getfield 21, 3) := by decide +kernel
theorem dX7_oddsOf_105 : decode cX7_oddsOf 105 = .ok (.iload_n 2, 1) := by decide +kernel
theorem dX7_oddsOf_106 : decode cX7_oddsOf 106 = .ok (.invokevirtual 77, 3) := by decide +kernel
theorem dX7_oddsOf_109 : decode cX7_oddsOf 109 = .ok (.ireturn, 1) := by decide +kernel
theorem dX7_oddsOf_110 : decode cX7_oddsOf 110 = .ok (.aload_n 0, 1) := by decide +kernel
theorem dX7_oddsOf_111 : decode cX7_oddsOf 111 = .ok (.getfield 21, 3) := by decide +kernel
theorem dX7_oddsOf_114 : decode cX7_oddsOf 114 = .ok (.iload_n 2, 1) := by decide +kernel
theorem dX7_oddsOf_115 : decode cX7_oddsOf 115 = .ok (.aload_n 0, 1) := by decide +kernel
theorem dX7_oddsOf_116 : decode cX7_oddsOf 116 = .ok (.getfield 38, 3) := by decide +kernel
theorem dX7_oddsOf_119 : decode cX7_oddsOf 119 = .ok (.invokevirtual 74, 3) := by decide +kernel
theorem dX7_oddsOf_122 : decode cX7_oddsOf 122 = .ok (.aload_n 0, 1) := by decide +kernel
theorem dX7_oddsOf_123 : decode cX7_oddsOf 123 = .ok (.getfield 21, 3) := by decide +kernel
theorem dX7_oddsOf_126 : decode cX7_oddsOf 126 = .ok (.iload_n 2, 1) := by decide +kernel
theorem dX7_oddsOf_127 : decode cX7_oddsOf 127 = .ok (.invokevirtual 77, 3) := by decide +kernel
theorem dX7_oddsOf_130 : decode cX7_oddsOf 130 = .ok (.aload_n 0, 1) := by decide +kernel
theorem dX7_oddsOf_131 : decode cX7_oddsOf 131 = .ok (.getfield 42, 3) := by decide +kernel
theorem dX7_oddsOf_134 : decode cX7_oddsOf 134 = .ok (.invokestatic 80, 3) := by decide +kernel
theorem dX7_oddsOf_137 : decode cX7_oddsOf 137 = .ok (.ireturn, 1) := by decide +kernel
theorem dX7_oddsOf_138 : decode cX7_oddsOf 138 = .ok (.aload_n 0, 1) := by decide +kernel
theorem dX7_oddsOf_139 : decode cX7_oddsOf 139 = .ok (.iload_n 1, 1) := by decide +kernel
theorem dX7_oddsOf_140 : decode cX7_oddsOf 140 = .ok (.iconst 2, 1) := by decide +kernel
theorem dX7_oddsOf_141 : decode cX7_oddsOf 141 = .ok (.isub, 1) := by decide +kernel
theorem dX7_oddsOf_142 : decode cX7_oddsOf 142 = .ok (.invokevirtual 59, 3) := by decide +kernel
theorem dX7_oddsOf_145 : decode cX7_oddsOf 145 = .ok (.astore 4, 2) := by decide +kernel
theorem dX7_oddsOf_147 : decode cX7_oddsOf 147 = .ok (.aload 4, 2) := by decide +kernel
theorem dX7_oddsOf_149 : decode cX7_oddsOf 149 = .ok (.ifnonnull 8, 3) := by decide +kernel
theorem dX7_oddsOf_152 : decode cX7_oddsOf 152 = .ok (.bipush (-6), 2) := by decide +kernel
theorem dX7_oddsOf_154 : decode cX7_oddsOf 154 = .ok (.goto 13, 3) := by decide +kernel
theorem dX7_oddsOf_157 : decode cX7_oddsOf 157 = .ok (.aload 4, 2) := by decide +kernel
theorem dX7_oddsOf_159 : decode cX7_oddsOf 159 = .ok (.aload_n 0, 1) := by decide +kernel
theorem dX7_oddsOf_160 : decode cX7_oddsOf 160 = .ok (.getfield 21, 3) := by decide +kernel
theorem dX7_oddsOf_163 : decode cX7_oddsOf 163 = .ok (.iload_n 2, 1) := by decide +kernel
theorem dX7_oddsOf_164 : decode cX7_oddsOf 164 = .ok (.invokevirtual 84, 3) := by decide +kernel
theorem dX7_oddsOf_167 : decode cX7_oddsOf 167 = .ok (.ireturn, 1) := by decide +kernel
theorem dX7_join_0 : decode cX7_join 0 = .ok (.iload_n 0, 1) := by decide +kernel
theorem dX7_join_1 : decode cX7_join 1 = .ok (.bipush (-6), 2) := by decide +kernel
theorem dX7_join_3 : decode cX7_join 3 = .ok (.if_icmp .eq 9, 3) := by decide +kernel
theorem dX7_join_6 : decode cX7_join 6 = .ok (.iload_n 1, 1) := by decide +kernel
theorem dX7_join_7 : decode cX7_join 7 = .ok (.bipush (-6), 2) := by decide +kernel
theorem dX7_join_9 : decode cX7_join 9 = .ok (.if_icmp .ne 6, 3) := by decide +kernel
theorem dX7_join_12 : decode cX7_join 12 = .ok (.bipush (-6), 2) := by decide +kernel
theorem dX7_join_14 : decode cX7_join 14 = .ok (.ireturn, 1) := by decide +kernel
theorem dX7_join_15 : decode cX7_join 15 = .ok (.iload_n 0, 1) := by decide +kernel
theorem dX7_join_16 : decode cX7_join 16 = .ok (.iload_n 2, 1) := by decide +kernel
theorem dX7_join_17 : decode cX7_join 17 = .ok (.imul, 1) := by decide +kernel
theorem dX7_join_18 : decode cX7_join 18 = .ok (.iload_n 1, 1) := by decide +kernel
theorem dX7_join_19 : decode cX7_join 19 = .ok (.bipush 10, 2) := by decide +kernel
theorem dX7_join_21 : decode cX7_join 21 = .ok (.iload_n 2, 1) := by decide +kernel
theorem dX7_join_22 : decode cX7_join 22 = .ok (.isub, 1) := by decide +kernel
theorem dX7_join_23 : decode cX7_join 23 = .ok (.imul, 1) := by decide +kernel
theorem dX7_join_24 : decode cX7_join 24 = .ok (.iadd, 1) := by decide +kernel
theorem dX7_join_25 : decode cX7_join 25 = .ok (.bipush 10, 2) := by decide +kernel
theorem dX7_join_27 : decode cX7_join 27 = .ok (.idiv, 1) := by decide +kernel
theorem dX7_join_28 : decode cX7_join 28 = .ok (.ireturn, 1) := by decide +kernel
set_option maxRecDepth 20000 in
theorem ggX7_scoreTeller_X6_erase : GoodIn wsX7_scoreTeller wsX6_erase := goodIn_r _ [7, 8, 9, 10, 11, 12, 211, 212] (by decide +kernel) (by decide +kernel)
set_option maxRecDepth 20000 in
theorem gX7_scoreTeller_X6_erase : GoodIn wsX7_scoreTeller (wsV RX7 88 RX6 yX6_erase wsX6_erase) := goodIn_app (goodIn_of _ (by decide +kernel)) ggX7_scoreTeller_X6_erase
set_option maxRecDepth 20000 in
theorem ggX7_scoreTeller_X7_oddsOf : GoodIn wsX7_scoreTeller wsX7_oddsOf := goodIn_r _ [17, 1, 18, 19, 20, 21, 22, 23, 24, 25, 26, 27, 28, 29, 30, 31, 11, 32, 33, 34, 35, 36, 37, 38, 39, 40, 41, 42, 43, 44, 45, 46, 47, 48, 49, 50, 51, 52, 53, 54, 55, 56, 57, 58, 59, 60, 61, 62, 63, 64, 65, 66, 67, 68, 69, 70, 71, 72, 73, 74, 16, 75, 76, 77, 78, 79, 80, 81, 82, 83, 84, 85, 86, 87, 88, 89, 90, 91, 92, 93, 94, 95, 96, 97, 98, 99, 100, 101, 102, 103, 104, 105, 106, 107, 108, 109, 110, 111, 112, 113, 114, 115, 116, 117, 118, 119, 120, 121, 122, 123, 124, 125, 126, 127, 128, 129, 130, 131, 132, 133, 134, 135, 136, 137, 138, 139, 140, 141, 142, 143, 144, 145, 146, 147, 148, 149, 150, 151, 152, 153, 154, 155, 156, 157, 158, 159, 160, 161, 162, 163, 164, 165, 166, 167, 168, 169, 170, 171, 172, 173, 174, 175, 176, 177, 178, 179, 180, 181, 182, 183, 184, 185, 186, 187, 188, 189, 195, 196, 197, 198, 199, 200, 201, 202, 203, 204, 205, 206, 207, 208, 209, 210, 213, 214] (by decide +kernel) (by decide +kernel)
set_option maxRecDepth 20000 in
theorem gX7_scoreTeller_X7_oddsOf : GoodIn wsX7_scoreTeller (wsV RX7 96 RX7 yX7_oddsOf wsX7_oddsOf) := goodIn_app (goodIn_of _ (by decide +kernel)) ggX7_scoreTeller_X7_oddsOf
set_option maxRecDepth 20000 in
theorem ggX7_scoreTeller_X0_rainOf : GoodIn wsX7_scoreTeller wsX0_rainOf := goodIn_r _ [52, 29, 31, 11, 32, 202, 203, 204, 205, 206, 207, 208, 209, 210] (by decide +kernel) (by decide +kernel)
set_option maxRecDepth 20000 in
theorem gX7_scoreTeller_X0_rainOf : GoodIn wsX7_scoreTeller (wsV RX7 99 RX0 yX0_rainOf wsX0_rainOf) := goodIn_app (goodIn_of _ (by decide +kernel)) ggX7_scoreTeller_X0_rainOf
set_option maxRecDepth 20000 in
theorem ggX7_scoreTeller_X6_add : GoodIn wsX7_scoreTeller wsX6_add := goodIn_r _ [194, 9, 8, 31, 11, 32, 10, 12, 211, 212] (by decide +kernel) (by decide +kernel)
set_option maxRecDepth 20000 in
theorem gX7_scoreTeller_X6_add : GoodIn wsX7_scoreTeller (wsV RX7 102 RX6 yX6_add wsX6_add) := goodIn_app (goodIn_of _ (by decide +kernel)) ggX7_scoreTeller_X6_add
theorem dX7_scoreTeller_0 : decode cX7_scoreTeller 0 = .ok (.aload_n 2, 1) := by decide +kernel
theorem dX7_scoreTeller_1 : decode cX7_scoreTeller 1 = .ok (.invokevirtual 88, 3) := by decide +kernel
theorem dX7_scoreTeller_4 : decode cX7_scoreTeller 4 = .ok (.iconst 0, 1) := by decide +kernel
theorem dX7_scoreTeller_5 : decode cX7_scoreTeller 5 = .ok (.istore_n 3, 1) := by decide +kernel
theorem dX7_scoreTeller_6 : decode cX7_scoreTeller 6 = .ok (.iload_n 3, 1) := by decide +kernel
theorem dX7_scoreTeller_7 : decode cX7_scoreTeller 7 = .ok (.aload_n 0, 1) := by decide +kernel
theorem dX7_scoreTeller_8 : decode cX7_scoreTeller 8 = .ok (.getfield 21, 3) := by decide +kernel
theorem dX7_scoreTeller_11 : decode cX7_scoreTeller 11 = .ok (.getfield 93, 3) := by decide +kernel
theorem dX7_scoreTeller_14 : decode cX7_scoreTeller 14 = .ok (.if_icmp .ge 28, 3) := by decide +kernel
theorem dX7_scoreTeller_17 : decode cX7_scoreTeller 17 = .ok (.aload_n 2, 1) := by decide +kernel
theorem dX7_scoreTeller_18 : decode cX7_scoreTeller 18 = .ok (.iconst 0, 1) := by decide +kernel
theorem dX7_scoreTeller_19 : decode cX7_scoreTeller 19 = .ok (.aload_n 0, 1) := by decide +kernel
theorem dX7_scoreTeller_20 : decode cX7_scoreTeller 20 = .ok (.iload_n 1, 1) := by decide +kernel
theorem dX7_scoreTeller_21 : decode cX7_scoreTeller 21 = .ok (.iload_n 3, 1) := by decide +kernel
theorem dX7_scoreTeller_22 : decode cX7_scoreTeller 22 = .ok (.invokevirtual 96, 3) := by decide +kernel
theorem dX7_scoreTeller_25 : decode cX7_scoreTeller 25 = .ok (.aload_n 0, 1) := by decide +kernel
theorem dX7_scoreTeller_26 : decode cX7_scoreTeller 26 = .ok (.getfield 21, 3) := by decide +kernel
theorem dX7_scoreTeller_29 : decode cX7_scoreTeller 29 = .ok (.iload_n 3, 1) := by decide +kernel
theorem dX7_scoreTeller_30 : decode cX7_scoreTeller 30 = .ok (.invokevirtual 99, 3) := by decide +kernel
theorem dX7_scoreTeller_33 : decode cX7_scoreTeller 33 = .ok (.invokevirtual 102, 3) := by decide +kernel
theorem dX7_scoreTeller_36 : decode cX7_scoreTeller 36 = .ok (.iinc 3 1, 3) := by decide +kernel
theorem dX7_scoreTeller_39 : decode cX7_scoreTeller 39 = .ok (.goto (-33), 3) := by decide +kernel
theorem dX7_scoreTeller_42 : decode cX7_scoreTeller 42 = .ok (.return_, 1) := by decide +kernel
set_option maxRecDepth 20000 in
theorem ggX7_scoreWeights_X6_erase : GoodIn wsX7_scoreWeights wsX6_erase := goodIn_r _ [8, 9, 10, 11, 12, 13, 73, 74] (by decide +kernel) (by decide +kernel)
set_option maxRecDepth 20000 in
theorem gX7_scoreWeights_X6_erase : GoodIn wsX7_scoreWeights (wsV RX7 88 RX6 yX6_erase wsX6_erase) := goodIn_app (goodIn_of _ (by decide +kernel)) ggX7_scoreWeights_X6_erase
set_option maxRecDepth 20000 in
theorem ggX7_scoreWeights_X0_likeOdds : GoodIn wsX7_scoreWeights wsX0_likeOdds := goodIn_r _ [18, 19, 20, 21, 22, 17, 23, 24, 25, 26, 27, 28, 29, 12, 30, 31, 32, 33, 34, 35, 36, 37, 38, 39, 40, 41, 42, 64, 65, 66, 67, 68, 69, 70, 71, 72] (by decide +kernel) (by decide +kernel)
set_option maxRecDepth 20000 in
theorem gX7_scoreWeights_X0_likeOdds : GoodIn wsX7_scoreWeights (wsV RX7 74 RX0 yX0_likeOdds wsX0_likeOdds) := goodIn_app (goodIn_of _ (by decide +kernel)) ggX7_scoreWeights_X0_likeOdds
set_option maxRecDepth 20000 in
theorem ggX7_scoreWeights_X0_wireOf : GoodIn wsX7_scoreWeights wsX0_wireOf := goodIn_r _ [46, 47, 29, 12, 30, 64, 65, 66, 67, 68, 69, 70, 71, 72] (by decide +kernel) (by decide +kernel)
set_option maxRecDepth 20000 in
theorem gX7_scoreWeights_X0_wireOf : GoodIn wsX7_scoreWeights (wsV RX7 77 RX0 yX0_wireOf wsX0_wireOf) := goodIn_app (goodIn_of _ (by decide +kernel)) ggX7_scoreWeights_X0_wireOf
set_option maxRecDepth 20000 in
theorem ggX7_scoreWeights_X7_join : GoodIn wsX7_scoreWeights wsX7_join := goodIn_r _ [51] (by decide +kernel) (by decide +kernel)
set_option maxRecDepth 20000 in
theorem gX7_scoreWeights_X7_join : GoodIn wsX7_scoreWeights (va_wsS RX7 80 yX7_join wsX7_join) := goodIn_app (goodIn_of _ (by decide +kernel)) ggX7_scoreWeights_X7_join
set_option maxRecDepth 20000 in
theorem ggX7_scoreWeights_X0_rainOf : GoodIn wsX7_scoreWeights wsX0_rainOf := goodIn_r _ [39, 40, 29, 12, 30, 64, 65, 66, 67, 68, 69, 70, 71, 72] (by decide +kernel) (by decide +kernel)
set_option maxRecDepth 20000 in
theorem gX7_scoreWeights_X0_rainOf : GoodIn wsX7_scoreWeights (wsV RX7 99 RX0 yX0_rainOf wsX0_rainOf) := goodIn_app (goodIn_of _ (by decide +kernel)) ggX7_scoreWeights_X0_rainOf
set_option maxRecDepth 20000 in
theorem ggX7_scoreWeights_X6_add : GoodIn wsX7_scoreWeights wsX6_add := goodIn_r _ [56, 10, 9, 29, 12, 30, 11, 13, 73, 74] (by decide +kernel) (by decide +kernel)
set_option maxRecDepth 20000 in
theorem gX7_scoreWeights_X6_add : GoodIn wsX7_scoreWeights (wsV RX7 102 RX6 yX6_add wsX6_add) := goodIn_app (goodIn_of _ (by decide +kernel)) ggX7_scoreWeights_X6_add
theorem dX7_scoreWeights_0 : decode cX7_scoreWeights 0 = .ok (.aload_n 1, 1) := by decide +kernel
theorem dX7_scoreWeights_1 : decode cX7_scoreWeights 1 = .ok (.invokevirtual 88, 3) := by decide +kernel
theorem dX7_scoreWeights_4 : decode cX7_scoreWeights 4 = .ok (.iconst 0, 1) := by decide +kernel
theorem dX7_scoreWeights_5 : decode cX7_scoreWeights 5 = .ok (.istore_n 2, 1) := by decide +kernel
theorem dX7_scoreWeights_6 : decode cX7_scoreWeights 6 = .ok (.iload_n 2, 1) := by decide +kernel
theorem dX7_scoreWeights_7 : decode cX7_scoreWeights 7 = .ok (.aload_n 0, 1) := by decide +kernel
theorem dX7_scoreWeights_8 : decode cX7_scoreWeights 8 = .ok (.getfield 21, 3) := by decide +kernel
theorem dX7_scoreWeights_11 : decode cX7_scoreWeights 11 = .ok (.getfield 93, 3) := by decide +kernel
theorem dX7_scoreWeights_14 : decode cX7_scoreWeights 14 = .ok (.if_icmp .ge 66, 3) := by decide +kernel
theorem dX7_scoreWeights_17 : decode cX7_scoreWeights 17 = .ok (.aload_n 0, 1) := by decide +kernel
theorem dX7_scoreWeights_18 : decode cX7_scoreWeights 18 = .ok (.getfield 21, 3) := by decide +kernel
theorem dX7_scoreWeights_21 : decode cX7_scoreWeights 21 = .ok (.iload_n 2, 1) := by decide +kernel
theorem dX7_scoreWeights_22 : decode cX7_scoreWeights 22 = .ok (.aload_n 0, 1) := by decide +kernel
theorem dX7_scoreWeights_23 : decode cX7_scoreWeights 23 = .ok (.getfield 38, 3) := by decide +kernel
theorem dX7_scoreWeights_26 : decode cX7_scoreWeights 26 = .ok (.invokevirtual 74, 3) := by decide +kernel
theorem dX7_scoreWeights_29 : decode cX7_scoreWeights 29 = .ok (.istore_n 3, 1) := by decide +kernel
theorem dX7_scoreWeights_30 : decode cX7_scoreWeights 30 = .ok (.iconst 0, 1) := by decide +kernel
theorem dX7_scoreWeights_31 : decode cX7_scoreWeights 31 = .ok (.istore 4, 2) := by decide +kernel
theorem dX7_scoreWeights_33 : decode cX7_scoreWeights 33 = .ok (.iload 4, 2) := by decide +kernel
theorem dX7_scoreWeights_35 : decode cX7_scoreWeights 35 = .ok (.bipush 10, 2) := by decide +kernel
theorem dX7_scoreWeights_37 : decode cX7_scoreWeights 37 = .ok (.if_icmp .gt 37, 3) := by decide +kernel
theorem dX7_scoreWeights_40 : decode cX7_scoreWeights 40 = .ok (.aload_n 1, 1) := by decide +kernel
theorem dX7_scoreWeights_41 : decode cX7_scoreWeights 41 = .ok (.iload 4, 2) := by decide +kernel
theorem dX7_scoreWeights_43 : decode cX7_scoreWeights 43 = .ok (.iload_n 3, 1) := by decide +kernel
theorem dX7_scoreWeights_44 : decode cX7_scoreWeights 44 = .ok (.aload_n 0, 1) := by decide +kernel
theorem dX7_scoreWeights_45 : decode cX7_scoreWeights 45 = .ok (.getfield 21, 3) := by decide +kernel
theorem dX7_scoreWeights_48 : decode cX7_scoreWeights 48 = .ok (.iload_n 2, 1) := by decide +kernel
theorem dX7_scoreWeights_49 : decode cX7_scoreWeights 49 = .ok (.invokevirtual 77, 3) := by decide +kernel
theorem dX7_scoreWeights_52 : decode cX7_scoreWeights 52 = .ok (.iload 4, 2) := by decide +kernel
theorem dX7_scoreWeights_54 : decode cX7_scoreWeights 54 = .ok (.invokestatic 80, 3) := by decide +kernel
theorem dX7_scoreWeights_57 : decode cX7_scoreWeights 57 = .ok (.aload_n 0, 1) := by decide +kernel
theorem dX7_scoreWeights_58 : decode cX7_scoreWeights 58 = .ok (.getfield 21, 3) := by decide +kernel
theorem dX7_scoreWeights_61 : decode cX7_scoreWeights 61 = .ok (.iload_n 2, 1) := by decide +kernel
theorem dX7_scoreWeights_62 : decode cX7_scoreWeights 62 = .ok (.invokevirtual 99, 3) := by decide +kernel
theorem dX7_scoreWeights_65 : decode cX7_scoreWeights 65 = .ok (.invokevirtual 102, 3) := by decide +kernel
theorem dX7_scoreWeights_68 : decode cX7_scoreWeights 68 = .ok (.iinc 4 1, 3) := by decide +kernel
theorem dX7_scoreWeights_71 : decode cX7_scoreWeights 71 = .ok (.goto (-38), 3) := by decide +kernel
theorem dX7_scoreWeights_74 : decode cX7_scoreWeights 74 = .ok (.iinc 2 1, 3) := by decide +kernel
theorem dX7_scoreWeights_77 : decode cX7_scoreWeights 77 = .ok (.goto (-71), 3) := by decide +kernel
theorem dX7_scoreWeights_80 : decode cX7_scoreWeights 80 = .ok (.return_, 1) := by decide +kernel
set_option maxRecDepth 20000 in
theorem ggX7_countSaid_X0_rainOf : GoodIn wsX7_countSaid wsX0_rainOf := goodIn_r _ [7, 8, 9, 10, 11, 189, 190, 191, 192, 193, 194, 195, 196, 197] (by decide +kernel) (by decide +kernel)
set_option maxRecDepth 20000 in
theorem gX7_countSaid_X0_rainOf : GoodIn wsX7_countSaid (wsV RX7 99 RX0 yX0_rainOf wsX0_rainOf) := goodIn_app (goodIn_of _ (by decide +kernel)) ggX7_countSaid_X0_rainOf
set_option maxRecDepth 20000 in
theorem ggX7_countSaid_X7_oddsOf : GoodIn wsX7_countSaid wsX7_oddsOf := goodIn_r _ [16, 1, 17, 18, 19, 20, 21, 6, 22, 23, 24, 25, 26, 8, 27, 9, 10, 11, 28, 29, 30, 31, 32, 33, 34, 35, 36, 37, 38, 39, 40, 41, 42, 43, 44, 4, 5, 7, 45, 46, 47, 48, 49, 50, 51, 52, 53, 54, 55, 56, 57, 58, 59, 60, 61, 62, 63, 64, 65, 66, 15, 67, 68, 69, 70, 71, 72, 73, 74, 75, 76, 77, 78, 79, 80, 81, 82, 83, 84, 85, 86, 87, 88, 89, 90, 91, 92, 93, 94, 95, 96, 97, 98, 99, 100, 101, 102, 103, 104, 105, 106, 107, 108, 109, 110, 111, 112, 113, 114, 115, 116, 117, 118, 119, 120, 121, 122, 123, 124, 125, 126, 127, 128, 129, 130, 131, 132, 133, 134, 135, 136, 137, 138, 139, 140, 141, 142, 143, 144, 145, 146, 147, 148, 149, 150, 151, 152, 153, 154, 155, 156, 157, 158, 159, 160, 161, 162, 163, 164, 165, 166, 167, 168, 169, 170, 171, 172, 173, 174, 175, 176, 177, 178, 179, 180, 181, 182, 183, 184, 185, 186, 187, 188, 189, 190, 191, 192, 193, 194, 195, 196, 197, 198, 199] (by decide +kernel) (by decide +kernel)
set_option maxRecDepth 20000 in
theorem gX7_countSaid_X7_oddsOf : GoodIn wsX7_countSaid (wsV RX7 96 RX7 yX7_oddsOf wsX7_oddsOf) := goodIn_app (goodIn_of _ (by decide +kernel)) ggX7_countSaid_X7_oddsOf
set_option maxRecDepth 20000 in
theorem ggX7_countSaid_X9_within : GoodIn wsX7_countSaid wsX9_within := goodIn_r _ [181] (by decide +kernel) (by decide +kernel)
set_option maxRecDepth 20000 in
theorem gX7_countSaid_X9_within_n106 : GoodIn wsX7_countSaid (wsX9_within) := ggX7_countSaid_X9_within
theorem dX7_countSaid_0 : decode cX7_countSaid 0 = .ok (.iconst 0, 1) := by decide +kernel
theorem dX7_countSaid_1 : decode cX7_countSaid 1 = .ok (.istore 5, 2) := by decide +kernel
theorem dX7_countSaid_3 : decode cX7_countSaid 3 = .ok (.iconst 0, 1) := by decide +kernel
theorem dX7_countSaid_4 : decode cX7_countSaid 4 = .ok (.istore 6, 2) := by decide +kernel
theorem dX7_countSaid_6 : decode cX7_countSaid 6 = .ok (.iload 6, 2) := by decide +kernel
theorem dX7_countSaid_8 : decode cX7_countSaid 8 = .ok (.aload_n 0, 1) := by decide +kernel
theorem dX7_countSaid_9 : decode cX7_countSaid 9 = .ok (.getfield 21, 3) := by decide +kernel
theorem dX7_countSaid_12 : decode cX7_countSaid 12 = .ok (.getfield 93, 3) := by decide +kernel
theorem dX7_countSaid_15 : decode cX7_countSaid 15 = .ok (.if_icmp .ge 41, 3) := by decide +kernel
theorem dX7_countSaid_18 : decode cX7_countSaid 18 = .ok (.aload_n 0, 1) := by decide +kernel
theorem dX7_countSaid_19 : decode cX7_countSaid 19 = .ok (.getfield 21, 3) := by decide +kernel
theorem dX7_countSaid_22 : decode cX7_countSaid 22 = .ok (.iload 6, 2) := by decide +kernel
theorem dX7_countSaid_24 : decode cX7_countSaid 24 = .ok (.invokevirtual 99, 3) := by decide +kernel
theorem dX7_countSaid_27 : decode cX7_countSaid 27 = .ok (.iload 4, 2) := by decide +kernel
theorem dX7_countSaid_29 : decode cX7_countSaid 29 = .ok (.if_icmp .lt 21, 3) := by decide +kernel
theorem dX7_countSaid_32 : decode cX7_countSaid 32 = .ok (.aload_n 0, 1) := by decide +kernel
theorem dX7_countSaid_33 : decode cX7_countSaid 33 = .ok (.iload_n 1, 1) := by decide +kernel
theorem dX7_countSaid_34 : decode cX7_countSaid 34 = .ok (.iload 6, 2) := by decide +kernel
theorem dX7_countSaid_36 : decode cX7_countSaid 36 = .ok (.invokevirtual 96, 3) := by decide +kernel
theorem dX7_countSaid_39 : decode cX7_countSaid 39 = .ok (.iload_n 2, 1) := by decide +kernel
theorem dX7_countSaid_40 : decode cX7_countSaid 40 = .ok (.iload_n 3, 1) := by decide +kernel
theorem dX7_countSaid_41 : decode cX7_countSaid 41 = .ok (.invokestatic 106, 3) := by decide +kernel
theorem dX7_countSaid_44 : decode cX7_countSaid 44 = .ok (.ifCond .eq 6, 3) := by decide +kernel
theorem dX7_countSaid_47 : decode cX7_countSaid 47 = .ok (.iinc 5 1, 3) := by decide +kernel
theorem dX7_countSaid_50 : decode cX7_countSaid 50 = .ok (.iinc 6 1, 3) := by decide +kernel
theorem dX7_countSaid_53 : decode cX7_countSaid 53 = .ok (.goto (-47), 3) := by decide +kernel
theorem dX7_countSaid_56 : decode cX7_countSaid 56 = .ok (.iload 5, 2) := by decide +kernel
theorem dX7_countSaid_58 : decode cX7_countSaid 58 = .ok (.ireturn, 1) := by decide +kernel
set_option maxRecDepth 20000 in
theorem ggX7_lotOfSaying_X5_init : GoodIn wsX7_lotOfSaying wsX5_init := goodIn_r _ [7, 8, 9, 10] (by decide +kernel) (by decide +kernel)
set_option maxRecDepth 20000 in
theorem gX7_lotOfSaying_X5_init_n112 : GoodIn wsX7_lotOfSaying (wsX5_init) := ggX7_lotOfSaying_X5_init
set_option maxRecDepth 20000 in
theorem ggX7_lotOfSaying_X7_oddsOf : GoodIn wsX7_lotOfSaying wsX7_oddsOf := goodIn_r _ [15, 4, 16, 17, 18, 19, 20, 21, 22, 23, 24, 25, 26, 27, 28, 29, 30, 31, 32, 33, 34, 35, 36, 37, 38, 39, 40, 41, 42, 43, 44, 45, 46, 47, 48, 49, 50, 51, 52, 53, 54, 55, 56, 57, 58, 59, 60, 61, 62, 63, 64, 65, 66, 67, 68, 69, 70, 71, 72, 73, 14, 74, 75, 76, 77, 78, 79, 80, 81, 82, 83, 84, 85, 86, 87, 88, 89, 90, 91, 92, 93, 94, 95, 96, 97, 98, 99, 100, 101, 102, 103, 104, 105, 106, 107, 108, 109, 110, 111, 112, 113, 114, 115, 116, 117, 118, 119, 120, 121, 122, 123, 124, 125, 126, 127, 128, 129, 130, 131, 132, 133, 134, 135, 136, 137, 138, 139, 140, 141, 142, 143, 144, 145, 146, 147, 148, 149, 150, 151, 152, 153, 154, 155, 156, 157, 158, 159, 160, 161, 162, 163, 164, 165, 166, 167, 168, 169, 170, 171, 172, 173, 174, 175, 176, 177, 178, 179, 180, 181, 182, 183, 184, 185, 186, 187, 188, 202, 203, 204, 205, 206, 207, 208, 209, 210, 211, 212, 213, 214, 215, 216, 217, 218, 219] (by decide +kernel) (by decide +kernel)
set_option maxRecDepth 20000 in
theorem gX7_lotOfSaying_X7_oddsOf : GoodIn wsX7_lotOfSaying (wsV RX7 96 RX7 yX7_oddsOf wsX7_oddsOf) := goodIn_app (goodIn_of _ (by decide +kernel)) ggX7_lotOfSaying_X7_oddsOf
set_option maxRecDepth 20000 in
theorem ggX7_lotOfSaying_X0_rainOf : GoodIn wsX7_lotOfSaying wsX0_rainOf := goodIn_r _ [51, 27, 29, 30, 31, 209, 210, 211, 212, 213, 214, 215, 216, 217] (by decide +kernel) (by decide +kernel)
set_option maxRecDepth 20000 in
theorem gX7_lotOfSaying_X0_rainOf : GoodIn wsX7_lotOfSaying (wsV RX7 99 RX0 yX0_rainOf wsX0_rainOf) := goodIn_app (goodIn_of _ (by decide +kernel)) ggX7_lotOfSaying_X0_rainOf
set_option maxRecDepth 20000 in
theorem ggX7_lotOfSaying_X5_add : GoodIn wsX7_lotOfSaying wsX5_add := goodIn_r _ [193, 194, 195, 196, 197, 198, 199, 200, 201] (by decide +kernel) (by decide +kernel)
set_option maxRecDepth 20000 in
theorem gX7_lotOfSaying_X5_add : GoodIn wsX7_lotOfSaying (wsV RX7 113 RX5 yX5_add wsX5_add) := goodIn_app (goodIn_of _ (by decide +kernel)) ggX7_lotOfSaying_X5_add
theorem dX7_lotOfSaying_0 : decode cX7_lotOfSaying 0 = .ok (.new 110, 3) := by decide +kernel
theorem dX7_lotOfSaying_3 : decode cX7_lotOfSaying 3 = .ok (.dup, 1) := by decide +kernel
theorem dX7_lotOfSaying_4 : decode cX7_lotOfSaying 4 = .ok (.invokespecial 112, 3) := by decide +kernel
theorem dX7_lotOfSaying_7 : decode cX7_lotOfSaying 7 = .ok (.astore_n 2, 1) := by decide +kernel
theorem dX7_lotOfSaying_8 : decode cX7_lotOfSaying 8 = .ok (.iconst 0, 1) := by decide +kernel
theorem dX7_lotOfSaying_9 : decode cX7_lotOfSaying 9 = .ok (.istore_n 3, 1) := by decide +kernel
theorem dX7_lotOfSaying_10 : decode cX7_lotOfSaying 10 = .ok (.iload_n 3, 1) := by decide +kernel
theorem dX7_lotOfSaying_11 : decode cX7_lotOfSaying 11 = .ok (.aload_n 0, 1) := by decide +kernel
theorem dX7_lotOfSaying_12 : decode cX7_lotOfSaying 12 = .ok (.getfield 21, 3) := by decide +kernel
theorem dX7_lotOfSaying_15 : decode cX7_lotOfSaying 15 = .ok (.getfield 93, 3) := by decide +kernel
theorem dX7_lotOfSaying_18 : decode cX7_lotOfSaying 18 = .ok (.if_icmp .ge 51, 3) := by decide +kernel
theorem dX7_lotOfSaying_21 : decode cX7_lotOfSaying 21 = .ok (.aload_n 0, 1) := by decide +kernel
theorem dX7_lotOfSaying_22 : decode cX7_lotOfSaying 22 = .ok (.iconst 2, 1) := by decide +kernel
theorem dX7_lotOfSaying_23 : decode cX7_lotOfSaying 23 = .ok (.iload_n 1, 1) := by decide +kernel
theorem dX7_lotOfSaying_24 : decode cX7_lotOfSaying 24 = .ok (.iadd, 1) := by decide +kernel
theorem dX7_lotOfSaying_25 : decode cX7_lotOfSaying 25 = .ok (.iload_n 3, 1) := by decide +kernel
theorem dX7_lotOfSaying_26 : decode cX7_lotOfSaying 26 = .ok (.invokevirtual 96, 3) := by decide +kernel
theorem dX7_lotOfSaying_29 : decode cX7_lotOfSaying 29 = .ok (.istore 4, 2) := by decide +kernel
theorem dX7_lotOfSaying_31 : decode cX7_lotOfSaying 31 = .ok (.iload 4, 2) := by decide +kernel
theorem dX7_lotOfSaying_33 : decode cX7_lotOfSaying 33 = .ok (.bipush (-6), 2) := by decide +kernel
theorem dX7_lotOfSaying_35 : decode cX7_lotOfSaying 35 = .ok (.if_icmp .eq 28, 3) := by decide +kernel
theorem dX7_lotOfSaying_38 : decode cX7_lotOfSaying 38 = .ok (.aload_n 2, 1) := by decide +kernel
theorem dX7_lotOfSaying_39 : decode cX7_lotOfSaying 39 = .ok (.iload 4, 2) := by decide +kernel
theorem dX7_lotOfSaying_41 : decode cX7_lotOfSaying 41 = .ok (.sipush 500, 3) := by decide +kernel
theorem dX7_lotOfSaying_44 : decode cX7_lotOfSaying 44 = .ok (.if_icmp .lt 7, 3) := by decide +kernel
theorem dX7_lotOfSaying_47 : decode cX7_lotOfSaying 47 = .ok (.iconst 1, 1) := by decide +kernel
theorem dX7_lotOfSaying_48 : decode cX7_lotOfSaying 48 = .ok (.goto 4, 3) := by decide +kernel
theorem dX7_lotOfSaying_51 : decode cX7_lotOfSaying 51 = .ok (.iconst 0, 1) := by decide +kernel
theorem dX7_lotOfSaying_52 : decode cX7_lotOfSaying 52 = .ok (.aload_n 0, 1) := by decide +kernel
theorem dX7_lotOfSaying_53 : decode cX7_lotOfSaying 53 = .ok (.getfield 21, 3) := by decide +kernel
theorem dX7_lotOfSaying_56 : decode cX7_lotOfSaying 56 = .ok (.iload_n 3, 1) := by decide +kernel
theorem dX7_lotOfSaying_57 : decode cX7_lotOfSaying 57 = .ok (.invokevirtual 99, 3) := by decide +kernel
theorem dX7_lotOfSaying_60 : decode cX7_lotOfSaying 60 = .ok (.invokevirtual 113, 3) := by decide +kernel
theorem dX7_lotOfSaying_63 : decode cX7_lotOfSaying 63 = .ok (.iinc 3 1, 3) := by decide +kernel
theorem dX7_lotOfSaying_66 : decode cX7_lotOfSaying 66 = .ok (.goto (-56), 3) := by decide +kernel
theorem dX7_lotOfSaying_69 : decode cX7_lotOfSaying 69 = .ok (.aload_n 2, 1) := by decide +kernel
theorem dX7_lotOfSaying_70 : decode cX7_lotOfSaying 70 = .ok (.areturn, 1) := by decide +kernel
set_option maxRecDepth 20000 in
theorem ggX7_wash_X7_oddsOf : GoodIn wsX7_wash wsX7_oddsOf := goodIn_r _ [7, 1, 8, 9, 10, 11, 12, 13, 14, 15, 16, 17, 18, 19, 20, 21, 22, 23, 24, 25, 26, 27, 28, 29, 30, 31, 32, 33, 34, 35, 36, 37, 38, 39, 40, 41, 42, 43, 44, 45, 46, 47, 48, 49, 50, 51, 52, 53, 54, 55, 56, 57, 58, 59, 60, 61, 62, 63, 64, 65, 6, 66, 67, 68, 69, 70, 71, 72, 73, 74, 75, 76, 77, 78, 79, 80, 81, 82, 83, 84, 85, 86, 87, 88, 89, 90, 91, 92, 93, 94, 95, 96, 97, 98, 99, 100, 101, 102, 103, 104, 105, 106, 107, 108, 109, 110, 111, 112, 113, 114, 115, 116, 117, 118, 119, 120, 121, 122, 123, 124, 125, 126, 127, 128, 129, 130, 131, 132, 133, 134, 135, 136, 137, 138, 139, 140, 141, 142, 143, 144, 145, 146, 147, 148, 149, 150, 151, 152, 153, 154, 155, 156, 157, 158, 159, 160, 161, 162, 163, 164, 165, 166, 167, 168, 169, 170, 171, 172, 173, 174, 175, 176, 177, 178, 179, 180, 182, 183, 184, 185, 186, 187, 188, 189, 190, 191, 192, 193, 194, 195, 196, 197, 198, 199] (by decide +kernel) (by decide +kernel)
set_option maxRecDepth 20000 in
theorem gX7_wash_X7_oddsOf : GoodIn wsX7_wash (wsV RX7 96 RX7 yX7_oddsOf wsX7_oddsOf) := goodIn_app (goodIn_of _ (by decide +kernel)) ggX7_wash_X7_oddsOf
set_option maxRecDepth 20000 in
theorem ggX7_wash_X0_rainOf : GoodIn wsX7_wash wsX0_rainOf := goodIn_r _ [43, 19, 21, 22, 23, 189, 190, 191, 192, 193, 194, 195, 196, 197] (by decide +kernel) (by decide +kernel)
set_option maxRecDepth 20000 in
theorem gX7_wash_X0_rainOf : GoodIn wsX7_wash (wsV RX7 99 RX0 yX0_rainOf wsX0_rainOf) := goodIn_app (goodIn_of _ (by decide +kernel)) ggX7_wash_X0_rainOf
theorem dX7_wash_0 : decode cX7_wash 0 = .ok (.iconst 0, 1) := by decide +kernel
theorem dX7_wash_1 : decode cX7_wash 1 = .ok (.istore 4, 2) := by decide +kernel
theorem dX7_wash_3 : decode cX7_wash 3 = .ok (.iconst 0, 1) := by decide +kernel
theorem dX7_wash_4 : decode cX7_wash 4 = .ok (.istore 5, 2) := by decide +kernel
theorem dX7_wash_6 : decode cX7_wash 6 = .ok (.iload 5, 2) := by decide +kernel
theorem dX7_wash_8 : decode cX7_wash 8 = .ok (.aload_n 0, 1) := by decide +kernel
theorem dX7_wash_9 : decode cX7_wash 9 = .ok (.getfield 21, 3) := by decide +kernel
theorem dX7_wash_12 : decode cX7_wash 12 = .ok (.getfield 93, 3) := by decide +kernel
theorem dX7_wash_15 : decode cX7_wash 15 = .ok (.if_icmp .ge 64, 3) := by decide +kernel
theorem dX7_wash_18 : decode cX7_wash 18 = .ok (.aload_n 0, 1) := by decide +kernel
theorem dX7_wash_19 : decode cX7_wash 19 = .ok (.iload_n 1, 1) := by decide +kernel
theorem dX7_wash_20 : decode cX7_wash 20 = .ok (.iload 5, 2) := by decide +kernel
theorem dX7_wash_22 : decode cX7_wash 22 = .ok (.invokevirtual 96, 3) := by decide +kernel
theorem dX7_wash_25 : decode cX7_wash 25 = .ok (.istore 6, 2) := by decide +kernel
theorem dX7_wash_27 : decode cX7_wash 27 = .ok (.iload 6, 2) := by decide +kernel
theorem dX7_wash_29 : decode cX7_wash 29 = .ok (.bipush (-6), 2) := by decide +kernel
theorem dX7_wash_31 : decode cX7_wash 31 = .ok (.if_icmp .eq 42, 3) := by decide +kernel
theorem dX7_wash_34 : decode cX7_wash 34 = .ok (.iload_n 2, 1) := by decide +kernel
theorem dX7_wash_35 : decode cX7_wash 35 = .ok (.sipush 1000, 3) := by decide +kernel
theorem dX7_wash_38 : decode cX7_wash 38 = .ok (.iload 6, 2) := by decide +kernel
theorem dX7_wash_40 : decode cX7_wash 40 = .ok (.isub, 1) := by decide +kernel
theorem dX7_wash_41 : decode cX7_wash 41 = .ok (.imul, 1) := by decide +kernel
theorem dX7_wash_42 : decode cX7_wash 42 = .ok (.iload_n 3, 1) := by decide +kernel
theorem dX7_wash_43 : decode cX7_wash 43 = .ok (.iload 6, 2) := by decide +kernel
theorem dX7_wash_45 : decode cX7_wash 45 = .ok (.imul, 1) := by decide +kernel
theorem dX7_wash_46 : decode cX7_wash 46 = .ok (.if_icmp .le 27, 3) := by decide +kernel
theorem dX7_wash_49 : decode cX7_wash 49 = .ok (.iload 4, 2) := by decide +kernel
theorem dX7_wash_51 : decode cX7_wash 51 = .ok (.aload_n 0, 1) := by decide +kernel
theorem dX7_wash_52 : decode cX7_wash 52 = .ok (.getfield 21, 3) := by decide +kernel
theorem dX7_wash_55 : decode cX7_wash 55 = .ok (.iload 5, 2) := by decide +kernel
theorem dX7_wash_57 : decode cX7_wash 57 = .ok (.invokevirtual 99, 3) := by decide +kernel
theorem dX7_wash_60 : decode cX7_wash 60 = .ok (.iconst 1, 1) := by decide +kernel
theorem dX7_wash_61 : decode cX7_wash 61 = .ok (.if_icmp .ne 8, 3) := by decide +kernel
theorem dX7_wash_64 : decode cX7_wash 64 = .ok (.iload_n 3, 1) := by decide +kernel
theorem dX7_wash_65 : decode cX7_wash 65 = .ok (.ineg, 1) := by decide +kernel
theorem dX7_wash_66 : decode cX7_wash 66 = .ok (.goto 4, 3) := by decide +kernel
theorem dX7_wash_69 : decode cX7_wash 69 = .ok (.iload_n 2, 1) := by decide +kernel
theorem dX7_wash_70 : decode cX7_wash 70 = .ok (.iadd, 1) := by decide +kernel
theorem dX7_wash_71 : decode cX7_wash 71 = .ok (.istore 4, 2) := by decide +kernel
theorem dX7_wash_73 : decode cX7_wash 73 = .ok (.iinc 5 1, 3) := by decide +kernel
theorem dX7_wash_76 : decode cX7_wash 76 = .ok (.goto (-70), 3) := by decide +kernel
theorem dX7_wash_79 : decode cX7_wash 79 = .ok (.iload 4, 2) := by decide +kernel
theorem dX7_wash_81 : decode cX7_wash 81 = .ok (.ireturn, 1) := by decide +kernel
theorem dX8_init_0 : decode cX8_init 0 = .ok (.aload_n 0, 1) := by decide +kernel
theorem dX8_init_1 : decode cX8_init 1 = .ok (.invokespecial 3, 3) := by decide +kernel
theorem dX8_init_4 : decode cX8_init 4 = .ok (.aload_n 0, 1) := by decide +kernel
theorem dX8_init_5 : decode cX8_init 5 = .ok (.bipush 50, 2) := by decide +kernel
theorem dX8_init_7 : decode cX8_init 7 = .ok (.newarray .int, 2) := by decide +kernel
theorem dX8_init_9 : decode cX8_init 9 = .ok (.putfield 9, 3) := by decide +kernel
theorem dX8_init_12 : decode cX8_init 12 = .ok (.return_, 1) := by decide +kernel
set_option maxRecDepth 20000 in
theorem ggX8_take_X9_copy : GoodIn wsX8_take wsX9_copy := goodIn_r _ [5, 6, 7, 8, 9, 10, 11, 12, 13] (by decide +kernel) (by decide +kernel)
set_option maxRecDepth 20000 in
theorem gX8_take_X9_copy_n19 : GoodIn wsX8_take (wsX9_copy) := ggX8_take_X9_copy
theorem dX8_take_0 : decode cX8_take 0 = .ok (.aload_n 0, 1) := by decide +kernel
theorem dX8_take_1 : decode cX8_take 1 = .ok (.aload_n 1, 1) := by decide +kernel
theorem dX8_take_2 : decode cX8_take 2 = .ok (.getfield 15, 3) := by decide +kernel
theorem dX8_take_5 : decode cX8_take 5 = .ok (.putfield 15, 3) := by decide +kernel
theorem dX8_take_8 : decode cX8_take 8 = .ok (.aload_n 1, 1) := by decide +kernel
theorem dX8_take_9 : decode cX8_take 9 = .ok (.getfield 9, 3) := by decide +kernel
theorem dX8_take_12 : decode cX8_take 12 = .ok (.aload_n 0, 1) := by decide +kernel
theorem dX8_take_13 : decode cX8_take 13 = .ok (.getfield 9, 3) := by decide +kernel
theorem dX8_take_16 : decode cX8_take 16 = .ok (.invokestatic 19, 3) := by decide +kernel
theorem dX8_take_19 : decode cX8_take 19 = .ok (.return_, 1) := by decide +kernel
set_option maxRecDepth 20000 in
theorem ggX8_add_X9_put : GoodIn wsX8_add wsX9_put := goodIn_r _ [5] (by decide +kernel) (by decide +kernel)
set_option maxRecDepth 20000 in
theorem gX8_add_X9_put_n23 : GoodIn wsX8_add (wsX9_put) := ggX8_add_X9_put
theorem dX8_add_0 : decode cX8_add 0 = .ok (.aload_n 0, 1) := by decide +kernel
theorem dX8_add_1 : decode cX8_add 1 = .ok (.getfield 15, 3) := by decide +kernel
theorem dX8_add_4 : decode cX8_add 4 = .ok (.bipush 50, 2) := by decide +kernel
theorem dX8_add_6 : decode cX8_add 6 = .ok (.if_icmp .lt 6, 3) := by decide +kernel
theorem dX8_add_9 : decode cX8_add 9 = .ok (.bipush (-4), 2) := by decide +kernel
theorem dX8_add_11 : decode cX8_add 11 = .ok (.ireturn, 1) := by decide +kernel
theorem dX8_add_12 : decode cX8_add 12 = .ok (.aload_n 0, 1) := by decide +kernel
theorem dX8_add_13 : decode cX8_add 13 = .ok (.getfield 9, 3) := by decide +kernel
theorem dX8_add_16 : decode cX8_add 16 = .ok (.aload_n 0, 1) := by decide +kernel
theorem dX8_add_17 : decode cX8_add 17 = .ok (.getfield 15, 3) := by decide +kernel
theorem dX8_add_20 : decode cX8_add 20 = .ok (.iload_n 1, 1) := by decide +kernel
theorem dX8_add_21 : decode cX8_add 21 = .ok (.invokestatic 23, 3) := by decide +kernel
theorem dX8_add_24 : decode cX8_add 24 = .ok (.aload_n 0, 1) := by decide +kernel
theorem dX8_add_25 : decode cX8_add 25 = .ok (.dup, 1) := by decide +kernel
theorem dX8_add_26 : decode cX8_add 26 = .ok (.getfield 15, 3) := by decide +kernel
theorem dX8_add_29 : decode cX8_add 29 = .ok (.iconst 1, 1) := by decide +kernel
theorem dX8_add_30 : decode cX8_add 30 = .ok (.iadd, 1) := by decide +kernel
theorem dX8_add_31 : decode cX8_add 31 = .ok (.putfield 15, 3) := by decide +kernel
theorem dX8_add_34 : decode cX8_add 34 = .ok (.aload_n 0, 1) := by decide +kernel
theorem dX8_add_35 : decode cX8_add 35 = .ok (.getfield 15, 3) := by decide +kernel
theorem dX8_add_38 : decode cX8_add 38 = .ok (.ireturn, 1) := by decide +kernel
theorem dX8_erase_0 : decode cX8_erase 0 = .ok (.aload_n 0, 1) := by decide +kernel
theorem dX8_erase_1 : decode cX8_erase 1 = .ok (.getfield 15, 3) := by decide +kernel
theorem dX8_erase_4 : decode cX8_erase 4 = .ok (.istore_n 1, 1) := by decide +kernel
theorem dX8_erase_5 : decode cX8_erase 5 = .ok (.aload_n 0, 1) := by decide +kernel
theorem dX8_erase_6 : decode cX8_erase 6 = .ok (.iconst 0, 1) := by decide +kernel
theorem dX8_erase_7 : decode cX8_erase 7 = .ok (.putfield 15, 3) := by decide +kernel
theorem dX8_erase_10 : decode cX8_erase 10 = .ok (.iload_n 1, 1) := by decide +kernel
theorem dX8_erase_11 : decode cX8_erase 11 = .ok (.ireturn, 1) := by decide +kernel
set_option maxRecDepth 20000 in
theorem ggX8_firstFault_X9_at : GoodIn wsX8_firstFault wsX9_at := goodIn_r _ [5] (by decide +kernel) (by decide +kernel)
set_option maxRecDepth 20000 in
theorem gX8_firstFault_X9_at_n27 : GoodIn wsX8_firstFault (wsX9_at) := ggX8_firstFault_X9_at
set_option maxRecDepth 20000 in
theorem ggX8_firstFault_X8_placeBehind : GoodIn wsX8_firstFault wsX8_placeBehind := goodIn_r _ [9, 10, 11, 8, 12, 13, 14, 15, 16, 17, 18, 19, 20, 21, 22, 23, 24, 25, 26, 27, 28, 29, 30, 31, 32, 33, 34, 35, 36, 37, 38, 39, 40, 41, 42, 43, 44, 45, 46, 47, 48, 49, 50, 51, 52, 53, 54, 55, 56, 57, 58, 59, 60, 61, 62, 63, 64, 65, 66, 67, 68, 69, 70, 71, 72, 73, 74, 75, 76, 77, 78, 79, 80, 81, 82, 83, 84, 85, 86, 87, 88, 89, 90, 91, 92, 93, 94, 95, 96, 97, 98, 99, 100, 101, 102, 4, 103, 104, 105, 106, 107, 108, 109] (by decide +kernel) (by decide +kernel)
set_option maxRecDepth 20000 in
theorem gX8_firstFault_X8_placeBehind : GoodIn wsX8_firstFault (va_wsS RX8 31 yX8_placeBehind wsX8_placeBehind) := goodIn_app (goodIn_of _ (by decide +kernel)) ggX8_firstFault_X8_placeBehind
theorem dX8_firstFault_0 : decode cX8_firstFault 0 = .ok (.iconst 0, 1) := by decide +kernel
theorem dX8_firstFault_1 : decode cX8_firstFault 1 = .ok (.istore_n 1, 1) := by decide +kernel
theorem dX8_firstFault_2 : decode cX8_firstFault 2 = .ok (.iconst 0, 1) := by decide +kernel
theorem dX8_firstFault_3 : decode cX8_firstFault 3 = .ok (.istore_n 2, 1) := by decide +kernel
theorem dX8_firstFault_4 : decode cX8_firstFault 4 = .ok (.iload_n 2, 1) := by decide +kernel
theorem dX8_firstFault_5 : decode cX8_firstFault 5 = .ok (.aload_n 0, 1) := by decide +kernel
theorem dX8_firstFault_6 : decode cX8_firstFault 6 = .ok (.getfield 15, 3) := by decide +kernel
theorem dX8_firstFault_9 : decode cX8_firstFault 9 = .ok (.if_icmp .ge 30, 3) := by decide +kernel
theorem dX8_firstFault_12 : decode cX8_firstFault 12 = .ok (.iload_n 1, 1) := by decide +kernel
theorem dX8_firstFault_13 : decode cX8_firstFault 13 = .ok (.aload_n 0, 1) := by decide +kernel
theorem dX8_firstFault_14 : decode cX8_firstFault 14 = .ok (.getfield 9, 3) := by decide +kernel
theorem dX8_firstFault_17 : decode cX8_firstFault 17 = .ok (.iload_n 2, 1) := by decide +kernel
theorem dX8_firstFault_18 : decode cX8_firstFault 18 = .ok (.invokestatic 27, 3) := by decide +kernel
theorem dX8_firstFault_21 : decode cX8_firstFault 21 = .ok (.invokestatic 31, 3) := by decide +kernel
theorem dX8_firstFault_24 : decode cX8_firstFault 24 = .ok (.istore_n 1, 1) := by decide +kernel
theorem dX8_firstFault_25 : decode cX8_firstFault 25 = .ok (.iload_n 1, 1) := by decide +kernel
theorem dX8_firstFault_26 : decode cX8_firstFault 26 = .ok (.bipush (-6), 2) := by decide +kernel
theorem dX8_firstFault_28 : decode cX8_firstFault 28 = .ok (.if_icmp .ne 5, 3) := by decide +kernel
theorem dX8_firstFault_31 : decode cX8_firstFault 31 = .ok (.iload_n 2, 1) := by decide +kernel
theorem dX8_firstFault_32 : decode cX8_firstFault 32 = .ok (.ireturn, 1) := by decide +kernel
theorem dX8_firstFault_33 : decode cX8_firstFault 33 = .ok (.iinc 2 1, 3) := by decide +kernel
theorem dX8_firstFault_36 : decode cX8_firstFault 36 = .ok (.goto (-32), 3) := by decide +kernel
theorem dX8_firstFault_39 : decode cX8_firstFault 39 = .ok (.iload_n 1, 1) := by decide +kernel
theorem dX8_firstFault_40 : decode cX8_firstFault 40 = .ok (.bipush 8, 2) := by decide +kernel
theorem dX8_firstFault_42 : decode cX8_firstFault 42 = .ok (.if_icmp .ne 8, 3) := by decide +kernel
theorem dX8_firstFault_45 : decode cX8_firstFault 45 = .ok (.bipush (-6), 2) := by decide +kernel
theorem dX8_firstFault_47 : decode cX8_firstFault 47 = .ok (.goto 7, 3) := by decide +kernel
theorem dX8_firstFault_50 : decode cX8_firstFault 50 = .ok (.aload_n 0, 1) := by decide +kernel
theorem dX8_firstFault_51 : decode cX8_firstFault 51 = .ok (.getfield 15, 3) := by decide +kernel
theorem dX8_firstFault_54 : decode cX8_firstFault 54 = .ok (.ireturn, 1) := by decide +kernel
set_option maxRecDepth 20000 in
theorem ggX8_placeBehind_X8_isLetter : GoodIn wsX8_placeBehind wsX8_isLetter := goodIn_r _ [4, 5, 6, 7, 8, 9, 10, 11, 12, 13, 14, 15, 16, 17, 18, 19, 20, 21, 22, 23, 24, 25, 26, 27, 28, 29, 30, 31, 32, 33, 34, 35, 36, 37, 38, 39, 40, 41, 42, 43, 44, 45, 46, 47, 48, 49, 50, 51, 52, 53, 54, 55, 56, 57, 58, 59, 60, 61, 62, 63, 64, 65, 66, 67, 68, 69, 70, 71, 72, 73, 74, 75, 76, 77, 78, 79, 80, 81, 82, 83, 84, 85, 86, 87, 88, 89, 90, 91, 92, 93] (by decide +kernel) (by decide +kernel)
set_option maxRecDepth 20000 in
theorem gX8_placeBehind_X8_isLetter : GoodIn wsX8_placeBehind (va_wsS RX8 35 yX8_isLetter wsX8_isLetter) := goodIn_app (goodIn_of _ (by decide +kernel)) ggX8_placeBehind_X8_isLetter
set_option maxRecDepth 20000 in
theorem ggX8_placeBehind_X9_isDigit : GoodIn wsX8_placeBehind wsX9_isDigit := goodIn_r _ [96, 97, 98, 95, 99] (by decide +kernel) (by decide +kernel)
set_option maxRecDepth 20000 in
theorem gX8_placeBehind_X9_isDigit_n39 : GoodIn wsX8_placeBehind (wsX9_isDigit) := ggX8_placeBehind_X9_isDigit
set_option maxRecDepth 20000 in
theorem ggX8_placeBehind_X8_placeBehindNumber : GoodIn wsX8_placeBehind wsX8_placeBehindNumber := goodIn_r _ [102] (by decide +kernel) (by decide +kernel)
set_option maxRecDepth 20000 in
theorem gX8_placeBehind_X8_placeBehindNumber : GoodIn wsX8_placeBehind (va_wsS RX8 42 yX8_placeBehindNumber wsX8_placeBehindNumber) := goodIn_app (goodIn_of _ (by decide +kernel)) ggX8_placeBehind_X8_placeBehindNumber
theorem dX8_placeBehind_0 : decode cX8_placeBehind 0 = .ok (.iload_n 0, 1) := by decide +kernel
theorem dX8_placeBehind_1 : decode cX8_placeBehind 1 = .ok (.tableswitch 198 0 8 #[51, 76, 90, 115, 129, 145, 150, 164, 185], 51) := by decide +kernel
theorem dX8_placeBehind_52 : decode cX8_placeBehind 52 = .ok (.iload_n 1, 1) := by decide +kernel
theorem dX8_placeBehind_53 : decode cX8_placeBehind 53 = .ok (.bipush 42, 2) := by decide +kernel
theorem dX8_placeBehind_55 : decode cX8_placeBehind 55 = .ok (.if_icmp .ne 8, 3) := by decide +kernel
theorem dX8_placeBehind_58 : decode cX8_placeBehind 58 = .ok (.bipush 6, 2) := by decide +kernel
theorem dX8_placeBehind_60 : decode cX8_placeBehind 60 = .ok (.goto 16, 3) := by decide +kernel
theorem dX8_placeBehind_63 : decode cX8_placeBehind 63 = .ok (.iload_n 1, 1) := by decide +kernel
theorem dX8_placeBehind_64 : decode cX8_placeBehind 64 = .ok (.invokestatic 35, 3) := by decide +kernel
theorem dX8_placeBehind_67 : decode cX8_placeBehind 67 = .ok (.ifCond .eq 7, 3) := by decide +kernel
theorem dX8_placeBehind_70 : decode cX8_placeBehind 70 = .ok (.iconst 2, 1) := by decide +kernel
theorem dX8_placeBehind_71 : decode cX8_placeBehind 71 = .ok (.goto 5, 3) := by decide +kernel
theorem dX8_placeBehind_74 : decode cX8_placeBehind 74 = .ok (.bipush (-6), 2) := by decide +kernel
theorem dX8_placeBehind_76 : decode cX8_placeBehind 76 = .ok (.ireturn, 1) := by decide +kernel
theorem dX8_placeBehind_77 : decode cX8_placeBehind 77 = .ok (.iload_n 1, 1) := by decide +kernel
theorem dX8_placeBehind_78 : decode cX8_placeBehind 78 = .ok (.invokestatic 35, 3) := by decide +kernel
theorem dX8_placeBehind_81 : decode cX8_placeBehind 81 = .ok (.ifCond .eq 7, 3) := by decide +kernel
theorem dX8_placeBehind_84 : decode cX8_placeBehind 84 = .ok (.iconst 2, 1) := by decide +kernel
theorem dX8_placeBehind_85 : decode cX8_placeBehind 85 = .ok (.goto 5, 3) := by decide +kernel
theorem dX8_placeBehind_88 : decode cX8_placeBehind 88 = .ok (.bipush (-6), 2) := by decide +kernel
theorem dX8_placeBehind_90 : decode cX8_placeBehind 90 = .ok (.ireturn, 1) := by decide +kernel
theorem dX8_placeBehind_91 : decode cX8_placeBehind 91 = .ok (.iload_n 1, 1) := by decide +kernel
theorem dX8_placeBehind_92 : decode cX8_placeBehind 92 = .ok (.bipush 60, 2) := by decide +kernel
theorem dX8_placeBehind_94 : decode cX8_placeBehind 94 = .ok (.if_icmp .eq 15, 3) := by decide +kernel
theorem dX8_placeBehind_97 : decode cX8_placeBehind 97 = .ok (.iload_n 1, 1) := by decide +kernel
theorem dX8_placeBehind_98 : decode cX8_placeBehind 98 = .ok (.bipush 62, 2) := by decide +kernel
theorem dX8_placeBehind_100 : decode cX8_placeBehind 100 = .ok (.if_icmp .eq 9, 3) := by decide +kernel
theorem dX8_placeBehind_103 : decode cX8_placeBehind 103 = .ok (.iload_n 1, 1) := by decide +kernel
theorem dX8_placeBehind_104 : decode cX8_placeBehind 104 = .ok (.bipush 61, 2) := by decide +kernel
theorem dX8_placeBehind_106 : decode cX8_placeBehind 106 = .ok (.if_icmp .ne 7, 3) := by decide +kernel
theorem dX8_placeBehind_109 : decode cX8_placeBehind 109 = .ok (.iconst 3, 1) := by decide +kernel
theorem dX8_placeBehind_110 : decode cX8_placeBehind 110 = .ok (.goto 5, 3) := by decide +kernel
theorem dX8_placeBehind_113 : decode cX8_placeBehind 113 = .ok (.bipush (-6), 2) := by decide +kernel
theorem dX8_placeBehind_115 : decode cX8_placeBehind 115 = .ok (.ireturn, 1) := by decide +kernel
theorem dX8_placeBehind_116 : decode cX8_placeBehind 116 = .ok (.iload_n 1, 1) := by decide +kernel
theorem dX8_placeBehind_117 : decode cX8_placeBehind 117 = .ok (.invokestatic 39, 3) := by decide +kernel
theorem dX8_placeBehind_120 : decode cX8_placeBehind 120 = .ok (.ifCond .eq 7, 3) := by decide +kernel
theorem dX8_placeBehind_123 : decode cX8_placeBehind 123 = .ok (.iconst 4, 1) := by decide +kernel
theorem dX8_placeBehind_124 : decode cX8_placeBehind 124 = .ok (.goto 5, 3) := by decide +kernel
theorem dX8_placeBehind_127 : decode cX8_placeBehind 127 = .ok (.bipush (-6), 2) := by decide +kernel
theorem dX8_placeBehind_129 : decode cX8_placeBehind 129 = .ok (.ireturn, 1) := by decide +kernel
theorem dX8_placeBehind_130 : decode cX8_placeBehind 130 = .ok (.iload_n 1, 1) := by decide +kernel
theorem dX8_placeBehind_131 : decode cX8_placeBehind 131 = .ok (.invokestatic 39, 3) := by decide +kernel
theorem dX8_placeBehind_134 : decode cX8_placeBehind 134 = .ok (.ifCond .eq 7, 3) := by decide +kernel
theorem dX8_placeBehind_137 : decode cX8_placeBehind 137 = .ok (.iconst 5, 1) := by decide +kernel
theorem dX8_placeBehind_138 : decode cX8_placeBehind 138 = .ok (.goto 7, 3) := by decide +kernel
theorem dX8_placeBehind_141 : decode cX8_placeBehind 141 = .ok (.iload_n 1, 1) := by decide +kernel
theorem dX8_placeBehind_142 : decode cX8_placeBehind 142 = .ok (.invokestatic 42, 3) := by decide +kernel
theorem dX8_placeBehind_145 : decode cX8_placeBehind 145 = .ok (.ireturn, 1) := by decide +kernel
theorem dX8_placeBehind_146 : decode cX8_placeBehind 146 = .ok (.iload_n 1, 1) := by decide +kernel
theorem dX8_placeBehind_147 : decode cX8_placeBehind 147 = .ok (.invokestatic 42, 3) := by decide +kernel
theorem dX8_placeBehind_150 : decode cX8_placeBehind 150 = .ok (.ireturn, 1) := by decide +kernel
theorem dX8_placeBehind_151 : decode cX8_placeBehind 151 = .ok (.iload_n 1, 1) := by decide +kernel
theorem dX8_placeBehind_152 : decode cX8_placeBehind 152 = .ok (.bipush 58, 2) := by decide +kernel
theorem dX8_placeBehind_154 : decode cX8_placeBehind 154 = .ok (.if_icmp .ne 8, 3) := by decide +kernel
theorem dX8_placeBehind_157 : decode cX8_placeBehind 157 = .ok (.bipush 7, 2) := by decide +kernel
theorem dX8_placeBehind_159 : decode cX8_placeBehind 159 = .ok (.goto 5, 3) := by decide +kernel
theorem dX8_placeBehind_162 : decode cX8_placeBehind 162 = .ok (.bipush (-6), 2) := by decide +kernel
theorem dX8_placeBehind_164 : decode cX8_placeBehind 164 = .ok (.ireturn, 1) := by decide +kernel
theorem dX8_placeBehind_165 : decode cX8_placeBehind 165 = .ok (.iload_n 1, 1) := by decide +kernel
theorem dX8_placeBehind_166 : decode cX8_placeBehind 166 = .ok (.invokestatic 39, 3) := by decide +kernel
theorem dX8_placeBehind_169 : decode cX8_placeBehind 169 = .ok (.ifCond .ne 9, 3) := by decide +kernel
theorem dX8_placeBehind_172 : decode cX8_placeBehind 172 = .ok (.iload_n 1, 1) := by decide +kernel
theorem dX8_placeBehind_173 : decode cX8_placeBehind 173 = .ok (.bipush 120, 2) := by decide +kernel
theorem dX8_placeBehind_175 : decode cX8_placeBehind 175 = .ok (.if_icmp .ne 8, 3) := by decide +kernel
theorem dX8_placeBehind_178 : decode cX8_placeBehind 178 = .ok (.bipush 8, 2) := by decide +kernel
theorem dX8_placeBehind_180 : decode cX8_placeBehind 180 = .ok (.goto 5, 3) := by decide +kernel
theorem dX8_placeBehind_183 : decode cX8_placeBehind 183 = .ok (.bipush (-6), 2) := by decide +kernel
theorem dX8_placeBehind_185 : decode cX8_placeBehind 185 = .ok (.ireturn, 1) := by decide +kernel
theorem dX8_placeBehind_186 : decode cX8_placeBehind 186 = .ok (.iload_n 1, 1) := by decide +kernel
theorem dX8_placeBehind_187 : decode cX8_placeBehind 187 = .ok (.bipush 59, 2) := by decide +kernel
theorem dX8_placeBehind_189 : decode cX8_placeBehind 189 = .ok (.if_icmp .ne 7, 3) := by decide +kernel
theorem dX8_placeBehind_192 : decode cX8_placeBehind 192 = .ok (.iconst 0, 1) := by decide +kernel
theorem dX8_placeBehind_193 : decode cX8_placeBehind 193 = .ok (.goto 5, 3) := by decide +kernel
theorem dX8_placeBehind_196 : decode cX8_placeBehind 196 = .ok (.bipush (-6), 2) := by decide +kernel
theorem dX8_placeBehind_198 : decode cX8_placeBehind 198 = .ok (.ireturn, 1) := by decide +kernel
theorem dX8_placeBehind_199 : decode cX8_placeBehind 199 = .ok (.bipush (-6), 2) := by decide +kernel
theorem dX8_placeBehind_201 : decode cX8_placeBehind 201 = .ok (.ireturn, 1) := by decide +kernel
theorem dX8_placeBehindNumber_0 : decode cX8_placeBehindNumber 0 = .ok (.iload_n 0, 1) := by decide +kernel
theorem dX8_placeBehindNumber_1 : decode cX8_placeBehindNumber 1 = .ok (.bipush 38, 2) := by decide +kernel
theorem dX8_placeBehindNumber_3 : decode cX8_placeBehindNumber 3 = .ok (.if_icmp .ne 7, 3) := by decide +kernel
theorem dX8_placeBehindNumber_6 : decode cX8_placeBehindNumber 6 = .ok (.iconst 1, 1) := by decide +kernel
theorem dX8_placeBehindNumber_7 : decode cX8_placeBehindNumber 7 = .ok (.goto 16, 3) := by decide +kernel
theorem dX8_placeBehindNumber_10 : decode cX8_placeBehindNumber 10 = .ok (.iload_n 0, 1) := by decide +kernel
theorem dX8_placeBehindNumber_11 : decode cX8_placeBehindNumber 11 = .ok (.bipush 58, 2) := by decide +kernel
theorem dX8_placeBehindNumber_13 : decode cX8_placeBehindNumber 13 = .ok (.if_icmp .ne 8, 3) := by decide +kernel
theorem dX8_placeBehindNumber_16 : decode cX8_placeBehindNumber 16 = .ok (.bipush 7, 2) := by decide +kernel
theorem dX8_placeBehindNumber_18 : decode cX8_placeBehindNumber 18 = .ok (.goto 5, 3) := by decide +kernel
theorem dX8_placeBehindNumber_21 : decode cX8_placeBehindNumber 21 = .ok (.bipush (-6), 2) := by decide +kernel
theorem dX8_placeBehindNumber_23 : decode cX8_placeBehindNumber 23 = .ok (.ireturn, 1) := by decide +kernel
set_option maxRecDepth 20000 in
theorem ggX8_isLetter_J0_indexOf_0f7a4 : GoodIn wsX8_isLetter wsJ0_indexOf_0f7a4 := goodIn_r _ [5, 6, 7, 8, 4, 9, 10, 11, 12, 13, 14, 15, 16, 17, 18, 19, 20, 21, 22, 23, 24, 25, 26, 27, 28, 29, 30, 31, 32, 33, 34, 35, 36, 37, 38, 39, 40, 41, 42, 43, 44, 45, 46, 47, 48, 49, 50, 51, 52, 53, 54, 55, 56, 57, 58, 59, 60, 61, 62, 63, 64, 65, 66, 67, 68, 69, 70, 71, 72, 73, 74, 75, 76, 77, 78, 79, 80, 81, 82, 83, 84, 85, 86, 87, 88, 89] (by decide +kernel) (by decide +kernel)
set_option maxRecDepth 20000 in
theorem gX8_isLetter_J0_indexOf_0f7a4 : GoodIn wsX8_isLetter (wsV RX8 48 RJ0 yJ0_indexOf_0f7a4 wsJ0_indexOf_0f7a4) := goodIn_app (goodIn_of _ (by decide +kernel)) ggX8_isLetter_J0_indexOf_0f7a4
theorem dX8_isLetter_0 : decode cX8_isLetter 0 = .ok (.ldc 46, 2) := by decide +kernel
theorem dX8_isLetter_2 : decode cX8_isLetter 2 = .ok (.iload_n 0, 1) := by decide +kernel
theorem dX8_isLetter_3 : decode cX8_isLetter 3 = .ok (.i2c, 1) := by decide +kernel
theorem dX8_isLetter_4 : decode cX8_isLetter 4 = .ok (.invokevirtual 48, 3) := by decide +kernel
theorem dX8_isLetter_7 : decode cX8_isLetter 7 = .ok (.ifCond .lt 7, 3) := by decide +kernel
theorem dX8_isLetter_10 : decode cX8_isLetter 10 = .ok (.iconst 1, 1) := by decide +kernel
theorem dX8_isLetter_11 : decode cX8_isLetter 11 = .ok (.goto 4, 3) := by decide +kernel
theorem dX8_isLetter_14 : decode cX8_isLetter 14 = .ok (.iconst 0, 1) := by decide +kernel
theorem dX8_isLetter_15 : decode cX8_isLetter 15 = .ok (.ireturn, 1) := by decide +kernel
set_option maxRecDepth 20000 in
theorem ggX8_countCases_X9_at : GoodIn wsX8_countCases wsX9_at := goodIn_r _ [5] (by decide +kernel) (by decide +kernel)
set_option maxRecDepth 20000 in
theorem gX8_countCases_X9_at_n27 : GoodIn wsX8_countCases (wsX9_at) := ggX8_countCases_X9_at
theorem dX8_countCases_0 : decode cX8_countCases 0 = .ok (.aload_n 0, 1) := by decide +kernel
theorem dX8_countCases_1 : decode cX8_countCases 1 = .ok (.getfield 15, 3) := by decide +kernel
theorem dX8_countCases_4 : decode cX8_countCases 4 = .ok (.ifCond .le 7, 3) := by decide +kernel
theorem dX8_countCases_7 : decode cX8_countCases 7 = .ok (.iconst 1, 1) := by decide +kernel
theorem dX8_countCases_8 : decode cX8_countCases 8 = .ok (.goto 4, 3) := by decide +kernel
theorem dX8_countCases_11 : decode cX8_countCases 11 = .ok (.iconst 0, 1) := by decide +kernel
theorem dX8_countCases_12 : decode cX8_countCases 12 = .ok (.istore_n 1, 1) := by decide +kernel
theorem dX8_countCases_13 : decode cX8_countCases 13 = .ok (.iconst 0, 1) := by decide +kernel
theorem dX8_countCases_14 : decode cX8_countCases 14 = .ok (.istore_n 2, 1) := by decide +kernel
theorem dX8_countCases_15 : decode cX8_countCases 15 = .ok (.iload_n 2, 1) := by decide +kernel
theorem dX8_countCases_16 : decode cX8_countCases 16 = .ok (.aload_n 0, 1) := by decide +kernel
theorem dX8_countCases_17 : decode cX8_countCases 17 = .ok (.getfield 15, 3) := by decide +kernel
theorem dX8_countCases_20 : decode cX8_countCases 20 = .ok (.if_icmp .ge 25, 3) := by decide +kernel
theorem dX8_countCases_23 : decode cX8_countCases 23 = .ok (.aload_n 0, 1) := by decide +kernel
theorem dX8_countCases_24 : decode cX8_countCases 24 = .ok (.getfield 9, 3) := by decide +kernel
theorem dX8_countCases_27 : decode cX8_countCases 27 = .ok (.iload_n 2, 1) := by decide +kernel
theorem dX8_countCases_28 : decode cX8_countCases 28 = .ok (.invokestatic 27, 3) := by decide +kernel
theorem dX8_countCases_31 : decode cX8_countCases 31 = .ok (.bipush 59, 2) := by decide +kernel
theorem dX8_countCases_33 : decode cX8_countCases 33 = .ok (.if_icmp .ne 6, 3) := by decide +kernel
theorem dX8_countCases_36 : decode cX8_countCases 36 = .ok (.iinc 1 1, 3) := by decide +kernel
theorem dX8_countCases_39 : decode cX8_countCases 39 = .ok (.iinc 2 1, 3) := by decide +kernel
theorem dX8_countCases_42 : decode cX8_countCases 42 = .ok (.goto (-27), 3) := by decide +kernel
theorem dX8_countCases_45 : decode cX8_countCases 45 = .ok (.iload_n 1, 1) := by decide +kernel
theorem dX8_countCases_46 : decode cX8_countCases 46 = .ok (.ireturn, 1) := by decide +kernel
set_option maxRecDepth 20000 in
theorem ggX8_oddsTold_X9_at : GoodIn wsX8_oddsTold wsX9_at := goodIn_r _ [5] (by decide +kernel) (by decide +kernel)
set_option maxRecDepth 20000 in
theorem gX8_oddsTold_X9_at_n27 : GoodIn wsX8_oddsTold (wsX9_at) := ggX8_oddsTold_X9_at
set_option maxRecDepth 20000 in
theorem ggX8_oddsTold_X8_oddsBy : GoodIn wsX8_oddsTold wsX8_oddsBy := goodIn_r _ [9] (by decide +kernel) (by decide +kernel)
set_option maxRecDepth 20000 in
theorem gX8_oddsTold_X8_oddsBy : GoodIn wsX8_oddsTold (va_wsS RX8 53 yX8_oddsBy wsX8_oddsBy) := goodIn_app (goodIn_of _ (by decide +kernel)) ggX8_oddsTold_X8_oddsBy
set_option maxRecDepth 20000 in
theorem ggX8_oddsTold_X8_isLetter : GoodIn wsX8_oddsTold wsX8_isLetter := goodIn_r _ [12, 13, 14, 15, 16, 17, 18, 19, 20, 21, 22, 23, 24, 25, 26, 27, 28, 29, 30, 31, 32, 33, 34, 35, 36, 37, 38, 39, 40, 41, 42, 43, 44, 45, 46, 47, 48, 49, 50, 51, 52, 53, 54, 55, 56, 57, 58, 59, 60, 61, 62, 63, 64, 65, 66, 67, 68, 69, 70, 71, 72, 73, 74, 75, 76, 77, 78, 79, 80, 81, 82, 83, 84, 85, 86, 87, 88, 89, 90, 91, 92, 93, 94, 95, 96, 97, 98, 99, 100, 101] (by decide +kernel) (by decide +kernel)
set_option maxRecDepth 20000 in
theorem gX8_oddsTold_X8_isLetter : GoodIn wsX8_oddsTold (va_wsS RX8 35 yX8_isLetter wsX8_isLetter) := goodIn_app (goodIn_of _ (by decide +kernel)) ggX8_oddsTold_X8_isLetter
set_option maxRecDepth 20000 in
theorem ggX8_oddsTold_J0_indexOf_0f7a4 : GoodIn wsX8_oddsTold wsJ0_indexOf_0f7a4 := goodIn_r _ [17, 18, 19, 20, 16, 21, 22, 23, 24, 25, 26, 27, 28, 29, 30, 31, 32, 33, 34, 35, 36, 37, 38, 39, 40, 41, 42, 43, 44, 45, 46, 47, 48, 49, 50, 51, 52, 53, 54, 55, 56, 57, 58, 59, 60, 61, 62, 63, 64, 65, 66, 67, 68, 69, 70, 71, 72, 73, 74, 75, 76, 77, 78, 79, 80, 81, 82, 83, 84, 85, 86, 87, 88, 89, 90, 91, 92, 93, 94, 95, 96, 97, 98, 99, 100, 101] (by decide +kernel) (by decide +kernel)
set_option maxRecDepth 20000 in
theorem gX8_oddsTold_J0_indexOf_0f7a4 : GoodIn wsX8_oddsTold (wsV RX8 48 RJ0 yJ0_indexOf_0f7a4 wsJ0_indexOf_0f7a4) := goodIn_app (goodIn_of _ (by decide +kernel)) ggX8_oddsTold_J0_indexOf_0f7a4
set_option maxRecDepth 20000 in
theorem ggX8_oddsTold_X0_lookOf : GoodIn wsX8_oddsTold wsX0_lookOf := goodIn_r _ [106, 107, 108, 109, 110, 111, 112, 3, 4, 5, 113, 114, 105, 115, 116, 42, 43, 44, 128, 129, 130, 131, 132, 133, 134, 135, 136] (by decide +kernel) (by decide +kernel)
set_option maxRecDepth 20000 in
theorem gX8_oddsTold_X0_lookOf : GoodIn wsX8_oddsTold (wsV RX8 56 RX0 yX0_lookOf wsX0_lookOf) := goodIn_app (goodIn_of _ (by decide +kernel)) ggX8_oddsTold_X0_lookOf
set_option maxRecDepth 20000 in
theorem ggX8_oddsTold_X8_testFits : GoodIn wsX8_oddsTold wsX8_testFits := goodIn_r _ [120, 2, 3, 4, 5, 121, 122, 123, 124, 125, 126, 127] (by decide +kernel) (by decide +kernel)
set_option maxRecDepth 20000 in
theorem gX8_oddsTold_X8_testFits : GoodIn wsX8_oddsTold (wsV RX8 61 RX8 yX8_testFits wsX8_testFits) := goodIn_app (goodIn_of _ (by decide +kernel)) ggX8_oddsTold_X8_testFits
theorem dX8_oddsTold_0 : decode cX8_oddsTold 0 = .ok (.iconst 1, 1) := by decide +kernel
theorem dX8_oddsTold_1 : decode cX8_oddsTold 1 = .ok (.istore_n 3, 1) := by decide +kernel
theorem dX8_oddsTold_2 : decode cX8_oddsTold 2 = .ok (.iconst 0, 1) := by decide +kernel
theorem dX8_oddsTold_3 : decode cX8_oddsTold 3 = .ok (.istore 4, 2) := by decide +kernel
theorem dX8_oddsTold_5 : decode cX8_oddsTold 5 = .ok (.iload 4, 2) := by decide +kernel
theorem dX8_oddsTold_7 : decode cX8_oddsTold 7 = .ok (.aload_n 0, 1) := by decide +kernel
theorem dX8_oddsTold_8 : decode cX8_oddsTold 8 = .ok (.getfield 15, 3) := by decide +kernel
theorem dX8_oddsTold_11 : decode cX8_oddsTold 11 = .ok (.if_icmp .ge 97, 3) := by decide +kernel
theorem dX8_oddsTold_14 : decode cX8_oddsTold 14 = .ok (.aload_n 0, 1) := by decide +kernel
theorem dX8_oddsTold_15 : decode cX8_oddsTold 15 = .ok (.getfield 9, 3) := by decide +kernel
theorem dX8_oddsTold_18 : decode cX8_oddsTold 18 = .ok (.iload 4, 2) := by decide +kernel
theorem dX8_oddsTold_20 : decode cX8_oddsTold 20 = .ok (.invokestatic 27, 3) := by decide +kernel
theorem dX8_oddsTold_23 : decode cX8_oddsTold 23 = .ok (.istore 5, 2) := by decide +kernel
theorem dX8_oddsTold_25 : decode cX8_oddsTold 25 = .ok (.iload 5, 2) := by decide +kernel
theorem dX8_oddsTold_27 : decode cX8_oddsTold 27 = .ok (.bipush 58, 2) := by decide +kernel
theorem dX8_oddsTold_29 : decode cX8_oddsTold 29 = .ok (.if_icmp .ne 27, 3) := by decide +kernel
theorem dX8_oddsTold_32 : decode cX8_oddsTold 32 = .ok (.iload_n 3, 1) := by decide +kernel
theorem dX8_oddsTold_33 : decode cX8_oddsTold 33 = .ok (.ifCond .eq 18, 3) := by decide +kernel
theorem dX8_oddsTold_36 : decode cX8_oddsTold 36 = .ok (.aload_n 0, 1) := by decide +kernel
theorem dX8_oddsTold_37 : decode cX8_oddsTold 37 = .ok (.getfield 9, 3) := by decide +kernel
theorem dX8_oddsTold_40 : decode cX8_oddsTold 40 = .ok (.iload 4, 2) := by decide +kernel
theorem dX8_oddsTold_42 : decode cX8_oddsTold 42 = .ok (.iconst 1, 1) := by decide +kernel
theorem dX8_oddsTold_43 : decode cX8_oddsTold 43 = .ok (.iadd, 1) := by decide +kernel
theorem dX8_oddsTold_44 : decode cX8_oddsTold 44 = .ok (.invokestatic 27, 3) := by decide +kernel
theorem dX8_oddsTold_47 : decode cX8_oddsTold 47 = .ok (.invokestatic 53, 3) := by decide +kernel
theorem dX8_oddsTold_50 : decode cX8_oddsTold 50 = .ok (.ireturn, 1) := by decide +kernel
theorem dX8_oddsTold_51 : decode cX8_oddsTold 51 = .ok (.iconst 1, 1) := by decide +kernel
theorem dX8_oddsTold_52 : decode cX8_oddsTold 52 = .ok (.istore_n 3, 1) := by decide +kernel
theorem dX8_oddsTold_53 : decode cX8_oddsTold 53 = .ok (.goto 49, 3) := by decide +kernel
theorem dX8_oddsTold_56 : decode cX8_oddsTold 56 = .ok (.iload 5, 2) := by decide +kernel
theorem dX8_oddsTold_58 : decode cX8_oddsTold 58 = .ok (.invokestatic 35, 3) := by decide +kernel
theorem dX8_oddsTold_61 : decode cX8_oddsTold 61 = .ok (.ifCond .eq 41, 3) := by decide +kernel
theorem dX8_oddsTold_64 : decode cX8_oddsTold 64 = .ok (.aload_n 1, 1) := by decide +kernel
theorem dX8_oddsTold_65 : decode cX8_oddsTold 65 = .ok (.iload_n 2, 1) := by decide +kernel
theorem dX8_oddsTold_66 : decode cX8_oddsTold 66 = .ok (.ldc 46, 2) := by decide +kernel
theorem dX8_oddsTold_68 : decode cX8_oddsTold 68 = .ok (.iload 5, 2) := by decide +kernel
theorem dX8_oddsTold_70 : decode cX8_oddsTold 70 = .ok (.i2c, 1) := by decide +kernel
theorem dX8_oddsTold_71 : decode cX8_oddsTold 71 = .ok (.invokevirtual 48, 3) := by decide +kernel
theorem dX8_oddsTold_74 : decode cX8_oddsTold 74 = .ok (.invokevirtual 56, 3) := by decide +kernel
theorem dX8_oddsTold_77 : decode cX8_oddsTold 77 = .ok (.istore 6, 2) := by decide +kernel
theorem dX8_oddsTold_79 : decode cX8_oddsTold 79 = .ok (.iload_n 3, 1) := by decide +kernel
theorem dX8_oddsTold_80 : decode cX8_oddsTold 80 = .ok (.ifCond .eq 20, 3) := by decide +kernel
theorem dX8_oddsTold_83 : decode cX8_oddsTold 83 = .ok (.aload_n 0, 1) := by decide +kernel
theorem dX8_oddsTold_84 : decode cX8_oddsTold 84 = .ok (.iload 6, 2) := by decide +kernel
theorem dX8_oddsTold_86 : decode cX8_oddsTold 86 = .ok (.iload 4, 2) := by decide +kernel
theorem dX8_oddsTold_88 : decode cX8_oddsTold 88 = .ok (.iconst 1, 1) := by decide +kernel
theorem dX8_oddsTold_89 : decode cX8_oddsTold 89 = .ok (.iadd, 1) := by decide +kernel
theorem dX8_oddsTold_90 : decode cX8_oddsTold 90 = .ok (.invokevirtual 61, 3) := by decide +kernel
theorem dX8_oddsTold_93 : decode cX8_oddsTold 93 = .ok (.ifCond .eq 7, 3) := by decide +kernel
theorem dX8_oddsTold_96 : decode cX8_oddsTold 96 = .ok (.iconst 1, 1) := by decide +kernel
theorem dX8_oddsTold_97 : decode cX8_oddsTold 97 = .ok (.goto 4, 3) := by decide +kernel
theorem dX8_oddsTold_100 : decode cX8_oddsTold 100 = .ok (.iconst 0, 1) := by decide +kernel
theorem dX8_oddsTold_101 : decode cX8_oddsTold 101 = .ok (.istore_n 3, 1) := by decide +kernel
theorem dX8_oddsTold_102 : decode cX8_oddsTold 102 = .ok (.iinc 4 1, 3) := by decide +kernel
theorem dX8_oddsTold_105 : decode cX8_oddsTold 105 = .ok (.goto (-100), 3) := by decide +kernel
theorem dX8_oddsTold_108 : decode cX8_oddsTold 108 = .ok (.bipush (-6), 2) := by decide +kernel
theorem dX8_oddsTold_110 : decode cX8_oddsTold 110 = .ok (.ireturn, 1) := by decide +kernel
theorem dX8_oddsBy_0 : decode cX8_oddsBy 0 = .ok (.iload_n 0, 1) := by decide +kernel
theorem dX8_oddsBy_1 : decode cX8_oddsBy 1 = .ok (.bipush 120, 2) := by decide +kernel
theorem dX8_oddsBy_3 : decode cX8_oddsBy 3 = .ok (.if_icmp .ne 9, 3) := by decide +kernel
theorem dX8_oddsBy_6 : decode cX8_oddsBy 6 = .ok (.sipush 1000, 3) := by decide +kernel
theorem dX8_oddsBy_9 : decode cX8_oddsBy 9 = .ok (.goto 14, 3) := by decide +kernel
theorem dX8_oddsBy_12 : decode cX8_oddsBy 12 = .ok (.iload_n 0, 1) := by decide +kernel
theorem dX8_oddsBy_13 : decode cX8_oddsBy 13 = .ok (.bipush 48, 2) := by decide +kernel
theorem dX8_oddsBy_15 : decode cX8_oddsBy 15 = .ok (.isub, 1) := by decide +kernel
theorem dX8_oddsBy_16 : decode cX8_oddsBy 16 = .ok (.sipush 1000, 3) := by decide +kernel
theorem dX8_oddsBy_19 : decode cX8_oddsBy 19 = .ok (.imul, 1) := by decide +kernel
theorem dX8_oddsBy_20 : decode cX8_oddsBy 20 = .ok (.bipush 10, 2) := by decide +kernel
theorem dX8_oddsBy_22 : decode cX8_oddsBy 22 = .ok (.idiv, 1) := by decide +kernel
theorem dX8_oddsBy_23 : decode cX8_oddsBy 23 = .ok (.ireturn, 1) := by decide +kernel
set_option maxRecDepth 20000 in
theorem ggX8_testFits_X9_at : GoodIn wsX8_testFits wsX9_at := goodIn_r _ [4] (by decide +kernel) (by decide +kernel)
set_option maxRecDepth 20000 in
theorem gX8_testFits_X9_at_n27 : GoodIn wsX8_testFits (wsX9_at) := ggX8_testFits_X9_at
set_option maxRecDepth 20000 in
theorem ggX8_testFits_X9_isDigit : GoodIn wsX8_testFits wsX9_isDigit := goodIn_r _ [6, 7, 8, 3, 9] (by decide +kernel) (by decide +kernel)
set_option maxRecDepth 20000 in
theorem gX8_testFits_X9_isDigit_n39 : GoodIn wsX8_testFits (wsX9_isDigit) := ggX8_testFits_X9_isDigit
theorem dX8_testFits_0 : decode cX8_testFits 0 = .ok (.iload_n 1, 1) := by decide +kernel
theorem dX8_testFits_1 : decode cX8_testFits 1 = .ok (.bipush (-6), 2) := by decide +kernel
theorem dX8_testFits_3 : decode cX8_testFits 3 = .ok (.if_icmp .ne 5, 3) := by decide +kernel
theorem dX8_testFits_6 : decode cX8_testFits 6 = .ok (.iconst 0, 1) := by decide +kernel
theorem dX8_testFits_7 : decode cX8_testFits 7 = .ok (.ireturn, 1) := by decide +kernel
theorem dX8_testFits_8 : decode cX8_testFits 8 = .ok (.aload_n 0, 1) := by decide +kernel
theorem dX8_testFits_9 : decode cX8_testFits 9 = .ok (.getfield 9, 3) := by decide +kernel
theorem dX8_testFits_12 : decode cX8_testFits 12 = .ok (.iload_n 2, 1) := by decide +kernel
theorem dX8_testFits_13 : decode cX8_testFits 13 = .ok (.iconst 1, 1) := by decide +kernel
theorem dX8_testFits_14 : decode cX8_testFits 14 = .ok (.iadd, 1) := by decide +kernel
theorem dX8_testFits_15 : decode cX8_testFits 15 = .ok (.invokestatic 27, 3) := by decide +kernel
theorem dX8_testFits_18 : decode cX8_testFits 18 = .ok (.bipush 48, 2) := by decide +kernel
theorem dX8_testFits_20 : decode cX8_testFits 20 = .ok (.isub, 1) := by decide +kernel
theorem dX8_testFits_21 : decode cX8_testFits 21 = .ok (.istore_n 3, 1) := by decide +kernel
theorem dX8_testFits_22 : decode cX8_testFits 22 = .ok (.aload_n 0, 1) := by decide +kernel
theorem dX8_testFits_23 : decode cX8_testFits 23 = .ok (.getfield 9, 3) := by decide +kernel
theorem dX8_testFits_26 : decode cX8_testFits 26 = .ok (.iload_n 2, 1) := by decide +kernel
theorem dX8_testFits_27 : decode cX8_testFits 27 = .ok (.iconst 2, 1) := by decide +kernel
theorem dX8_testFits_28 : decode cX8_testFits 28 = .ok (.iadd, 1) := by decide +kernel
theorem dX8_testFits_29 : decode cX8_testFits 29 = .ok (.invokestatic 27, 3) := by decide +kernel
theorem dX8_testFits_32 : decode cX8_testFits 32 = .ok (.istore 4, 2) := by decide +kernel
theorem dX8_testFits_34 : decode cX8_testFits 34 = .ok (.iload 4, 2) := by decide +kernel
theorem dX8_testFits_36 : decode cX8_testFits 36 = .ok (.invokestatic 39, 3) := by decide +kernel
theorem dX8_testFits_39 : decode cX8_testFits 39 = .ok (.ifCond .eq 14, 3) := by decide +kernel
theorem dX8_testFits_42 : decode cX8_testFits 42 = .ok (.bipush 10, 2) := by decide +kernel
theorem dX8_testFits_44 : decode cX8_testFits 44 = .ok (.iload_n 3, 1) := by decide +kernel
theorem dX8_testFits_45 : decode cX8_testFits 45 = .ok (.imul, 1) := by decide +kernel
theorem dX8_testFits_46 : decode cX8_testFits 46 = .ok (.iload 4, 2) := by decide +kernel
theorem dX8_testFits_48 : decode cX8_testFits 48 = .ok (.iadd, 1) := by decide +kernel
theorem dX8_testFits_49 : decode cX8_testFits 49 = .ok (.bipush 48, 2) := by decide +kernel
theorem dX8_testFits_51 : decode cX8_testFits 51 = .ok (.isub, 1) := by decide +kernel
theorem dX8_testFits_52 : decode cX8_testFits 52 = .ok (.istore_n 3, 1) := by decide +kernel
theorem dX8_testFits_53 : decode cX8_testFits 53 = .ok (.aload_n 0, 1) := by decide +kernel
theorem dX8_testFits_54 : decode cX8_testFits 54 = .ok (.getfield 9, 3) := by decide +kernel
theorem dX8_testFits_57 : decode cX8_testFits 57 = .ok (.iload_n 2, 1) := by decide +kernel
theorem dX8_testFits_58 : decode cX8_testFits 58 = .ok (.invokestatic 27, 3) := by decide +kernel
theorem dX8_testFits_61 : decode cX8_testFits 61 = .ok (.lookupswitch 49 #[(60, 27), (62, 38)], 27) := by decide +kernel
theorem dX8_testFits_88 : decode cX8_testFits 88 = .ok (.iload_n 1, 1) := by decide +kernel
theorem dX8_testFits_89 : decode cX8_testFits 89 = .ok (.iload_n 3, 1) := by decide +kernel
theorem dX8_testFits_90 : decode cX8_testFits 90 = .ok (.if_icmp .ge 7, 3) := by decide +kernel
theorem dX8_testFits_93 : decode cX8_testFits 93 = .ok (.iconst 1, 1) := by decide +kernel
theorem dX8_testFits_94 : decode cX8_testFits 94 = .ok (.goto 4, 3) := by decide +kernel
theorem dX8_testFits_97 : decode cX8_testFits 97 = .ok (.iconst 0, 1) := by decide +kernel
theorem dX8_testFits_98 : decode cX8_testFits 98 = .ok (.ireturn, 1) := by decide +kernel
theorem dX8_testFits_99 : decode cX8_testFits 99 = .ok (.iload_n 1, 1) := by decide +kernel
theorem dX8_testFits_100 : decode cX8_testFits 100 = .ok (.iload_n 3, 1) := by decide +kernel
theorem dX8_testFits_101 : decode cX8_testFits 101 = .ok (.if_icmp .le 7, 3) := by decide +kernel
theorem dX8_testFits_104 : decode cX8_testFits 104 = .ok (.iconst 1, 1) := by decide +kernel
theorem dX8_testFits_105 : decode cX8_testFits 105 = .ok (.goto 4, 3) := by decide +kernel
theorem dX8_testFits_108 : decode cX8_testFits 108 = .ok (.iconst 0, 1) := by decide +kernel
theorem dX8_testFits_109 : decode cX8_testFits 109 = .ok (.ireturn, 1) := by decide +kernel
theorem dX8_testFits_110 : decode cX8_testFits 110 = .ok (.iload_n 1, 1) := by decide +kernel
theorem dX8_testFits_111 : decode cX8_testFits 111 = .ok (.iload_n 3, 1) := by decide +kernel
theorem dX8_testFits_112 : decode cX8_testFits 112 = .ok (.if_icmp .ne 7, 3) := by decide +kernel
theorem dX8_testFits_115 : decode cX8_testFits 115 = .ok (.iconst 1, 1) := by decide +kernel
theorem dX8_testFits_116 : decode cX8_testFits 116 = .ok (.goto 4, 3) := by decide +kernel
theorem dX8_testFits_119 : decode cX8_testFits 119 = .ok (.iconst 0, 1) := by decide +kernel
theorem dX8_testFits_120 : decode cX8_testFits 120 = .ok (.ireturn, 1) := by decide +kernel
set_option maxRecDepth 20000 in
theorem ggJ0_length_8abf5_J0_coder_7d493 : GoodIn wsJ0_length_8abf5 wsJ0_coder_7d493 := goodIn_r _ [6, 7, 8] (by decide +kernel) (by decide +kernel)
set_option maxRecDepth 20000 in
theorem gJ0_length_8abf5_J0_coder_7d493 : GoodIn wsJ0_length_8abf5 (wsV RJ0 335 RJ0 yJ0_coder_7d493 wsJ0_coder_7d493) := goodIn_app (goodIn_of _ (by decide +kernel)) ggJ0_length_8abf5_J0_coder_7d493
theorem dJ0_length_8abf5_0 : decode cJ0_length_8abf5 0 = .ok (.aload_n 0, 1) := by decide +kernel
theorem dJ0_length_8abf5_1 : decode cJ0_length_8abf5 1 = .ok (.getfield 9, 3) := by decide +kernel
theorem dJ0_length_8abf5_4 : decode cJ0_length_8abf5 4 = .ok (.arraylength, 1) := by decide +kernel
theorem dJ0_length_8abf5_5 : decode cJ0_length_8abf5 5 = .ok (.aload_n 0, 1) := by decide +kernel
theorem dJ0_length_8abf5_6 : decode cJ0_length_8abf5 6 = .ok (.invokevirtual 335, 3) := by decide +kernel
theorem dJ0_length_8abf5_9 : decode cJ0_length_8abf5 9 = .ok (.ishr, 1) := by decide +kernel
theorem dJ0_length_8abf5_10 : decode cJ0_length_8abf5 10 = .ok (.ireturn, 1) := by decide +kernel
set_option maxRecDepth 20000 in
theorem ggJ0_indexOf_0f7a4_J0_indexOf_7cf53 : GoodIn wsJ0_indexOf_0f7a4 wsJ0_indexOf_7cf53 := goodIn_r _ [5, 6, 7, 8, 9, 4, 10, 11, 12, 13, 14, 15, 16, 17, 18, 19, 20, 21, 22, 23, 24, 25, 26, 27, 28, 29, 30, 31, 32, 33, 34, 35, 36, 37, 38, 39, 40, 41, 42, 43, 44, 45, 46, 47, 48, 49, 50, 51, 52, 53, 54, 55, 56, 57, 58, 59, 60, 61, 62, 63, 64, 65, 66, 67, 68, 69, 70, 71, 72, 73, 74, 75, 76, 77, 78, 79, 80, 81, 82, 83, 84, 85] (by decide +kernel) (by decide +kernel)
set_option maxRecDepth 20000 in
theorem gJ0_indexOf_0f7a4_J0_indexOf_7cf53 : GoodIn wsJ0_indexOf_0f7a4 (wsV RJ0 633 RJ0 yJ0_indexOf_7cf53 wsJ0_indexOf_7cf53) := goodIn_app (goodIn_of _ (by decide +kernel)) ggJ0_indexOf_0f7a4_J0_indexOf_7cf53
theorem dJ0_indexOf_0f7a4_0 : decode cJ0_indexOf_0f7a4 0 = .ok (.aload_n 0, 1) := by decide +kernel
theorem dJ0_indexOf_0f7a4_1 : decode cJ0_indexOf_0f7a4 1 = .ok (.iload_n 1, 1) := by decide +kernel
theorem dJ0_indexOf_0f7a4_2 : decode cJ0_indexOf_0f7a4 2 = .ok (.iconst 0, 1) := by decide +kernel
theorem dJ0_indexOf_0f7a4_3 : decode cJ0_indexOf_0f7a4 3 = .ok (.invokevirtual 633, 3) := by decide +kernel
theorem dJ0_indexOf_0f7a4_6 : decode cJ0_indexOf_0f7a4 6 = .ok (.ireturn, 1) := by decide +kernel
set_option maxRecDepth 20000 in
theorem ggJ0_indexOf_7cf53_J0_isLatin1_aae02 : GoodIn wsJ0_indexOf_7cf53 wsJ0_isLatin1_aae02 := goodIn_r _ [6, 7, 8] (by decide +kernel) (by decide +kernel)
set_option maxRecDepth 20000 in
theorem gJ0_indexOf_7cf53_J0_isLatin1_aae02 : GoodIn wsJ0_indexOf_7cf53 (wsV RJ0 492 RJ0 yJ0_isLatin1_aae02 wsJ0_isLatin1_aae02) := goodIn_app (goodIn_of _ (by decide +kernel)) ggJ0_indexOf_7cf53_J0_isLatin1_aae02
set_option maxRecDepth 20000 in
theorem ggJ0_indexOf_7cf53_J0_length_8abf5 : GoodIn wsJ0_indexOf_7cf53 wsJ0_length_8abf5 := goodIn_r _ [12, 1, 13, 14, 15, 5, 16, 7, 8] (by decide +kernel) (by decide +kernel)
set_option maxRecDepth 20000 in
theorem gJ0_indexOf_7cf53_J0_length_8abf5 : GoodIn wsJ0_indexOf_7cf53 (wsV RJ0 505 RJ0 yJ0_length_8abf5 wsJ0_length_8abf5) := goodIn_app (goodIn_of _ (by decide +kernel)) ggJ0_indexOf_7cf53_J0_length_8abf5
set_option maxRecDepth 20000 in
theorem ggJ0_indexOf_7cf53_J1_indexOf_4cfef : GoodIn wsJ0_indexOf_7cf53 wsJ1_indexOf_4cfef := goodIn_r _ [20, 21, 22, 23, 24, 25, 26, 27, 28, 29, 19, 30, 31, 32, 33] (by decide +kernel) (by decide +kernel)
set_option maxRecDepth 20000 in
theorem gJ0_indexOf_7cf53_J1_indexOf_4cfef : GoodIn wsJ0_indexOf_7cf53 (va_wsS RJ0 637 yJ1_indexOf_4cfef wsJ1_indexOf_4cfef) := goodIn_app (goodIn_of _ (by decide +kernel)) ggJ0_indexOf_7cf53_J1_indexOf_4cfef
set_option maxRecDepth 20000 in
theorem ggJ0_indexOf_7cf53_J2_indexOf_4cfef : GoodIn wsJ0_indexOf_7cf53 wsJ2_indexOf_4cfef := goodIn_r _ [37, 38, 22, 23, 24, 39, 26, 27, 40, 41, 42, 36, 43, 44, 45, 46, 47, 48, 49, 50, 51, 5, 52, 53, 54, 55, 56, 57, 58, 59, 60, 61, 62, 63, 64, 65, 66, 67, 68, 69, 70, 71, 72, 73, 74, 75, 76, 77, 78, 79, 80, 81] (by decide +kernel) (by decide +kernel)
set_option maxRecDepth 20000 in
theorem gJ0_indexOf_7cf53_J2_indexOf_4cfef : GoodIn wsJ0_indexOf_7cf53 (va_wsS RJ0 640 yJ2_indexOf_4cfef wsJ2_indexOf_4cfef) := goodIn_app (goodIn_of _ (by decide +kernel)) ggJ0_indexOf_7cf53_J2_indexOf_4cfef
theorem dJ0_indexOf_7cf53_0 : decode cJ0_indexOf_7cf53 0 = .ok (.aload_n 0, 1) := by decide +kernel
theorem dJ0_indexOf_7cf53_1 : decode cJ0_indexOf_7cf53 1 = .ok (.invokevirtual 492, 3) := by decide +kernel
theorem dJ0_indexOf_7cf53_4 : decode cJ0_indexOf_7cf53 4 = .ok (.ifCond .eq 19, 3) := by decide +kernel
theorem dJ0_indexOf_7cf53_7 : decode cJ0_indexOf_7cf53 7 = .ok (.aload_n 0, 1) := by decide +kernel
theorem dJ0_indexOf_7cf53_8 : decode cJ0_indexOf_7cf53 8 = .ok (.getfield 9, 3) := by decide +kernel
theorem dJ0_indexOf_7cf53_11 : decode cJ0_indexOf_7cf53 11 = .ok (.iload_n 1, 1) := by decide +kernel
theorem dJ0_indexOf_7cf53_12 : decode cJ0_indexOf_7cf53 12 = .ok (.iload_n 2, 1) := by decide +kernel
theorem dJ0_indexOf_7cf53_13 : decode cJ0_indexOf_7cf53 13 = .ok (.aload_n 0, 1) := by decide +kernel
theorem dJ0_indexOf_7cf53_14 : decode cJ0_indexOf_7cf53 14 = .ok (.invokevirtual 505, 3) := by decide +kernel
theorem dJ0_indexOf_7cf53_17 : decode cJ0_indexOf_7cf53 17 = .ok (.invokestatic 637, 3) := by decide +kernel
theorem dJ0_indexOf_7cf53_20 : decode cJ0_indexOf_7cf53 20 = .ok (.goto 16, 3) := by decide +kernel
theorem dJ0_indexOf_7cf53_23 : decode cJ0_indexOf_7cf53 23 = .ok (.aload_n 0, 1) := by decide +kernel
theorem dJ0_indexOf_7cf53_24 : decode cJ0_indexOf_7cf53 24 = .ok (.getfield 9, 3) := by decide +kernel
theorem dJ0_indexOf_7cf53_27 : decode cJ0_indexOf_7cf53 27 = .ok (.iload_n 1, 1) := by decide +kernel
theorem dJ0_indexOf_7cf53_28 : decode cJ0_indexOf_7cf53 28 = .ok (.iload_n 2, 1) := by decide +kernel
theorem dJ0_indexOf_7cf53_29 : decode cJ0_indexOf_7cf53 29 = .ok (.aload_n 0, 1) := by decide +kernel
theorem dJ0_indexOf_7cf53_30 : decode cJ0_indexOf_7cf53 30 = .ok (.invokevirtual 505, 3) := by decide +kernel
theorem dJ0_indexOf_7cf53_33 : decode cJ0_indexOf_7cf53 33 = .ok (.invokestatic 640, 3) := by decide +kernel
theorem dJ0_indexOf_7cf53_36 : decode cJ0_indexOf_7cf53 36 = .ok (.ireturn, 1) := by decide +kernel
theorem dJ0_coder_7d493_0 : decode cJ0_coder_7d493 0 = .ok (.getstatic 38, 3) := by decide +kernel
theorem dJ0_coder_7d493_3 : decode cJ0_coder_7d493 3 = .ok (.ifCond .eq 10, 3) := by decide +kernel
theorem dJ0_coder_7d493_6 : decode cJ0_coder_7d493 6 = .ok (.aload_n 0, 1) := by decide +kernel
theorem dJ0_coder_7d493_7 : decode cJ0_coder_7d493 7 = .ok (.getfield 15, 3) := by decide +kernel
theorem dJ0_coder_7d493_10 : decode cJ0_coder_7d493 10 = .ok (.goto 4, 3) := by decide +kernel
theorem dJ0_coder_7d493_13 : decode cJ0_coder_7d493 13 = .ok (.iconst 1, 1) := by decide +kernel
theorem dJ0_coder_7d493_14 : decode cJ0_coder_7d493 14 = .ok (.ireturn, 1) := by decide +kernel
theorem dJ0_isLatin1_aae02_0 : decode cJ0_isLatin1_aae02 0 = .ok (.getstatic 38, 3) := by decide +kernel
theorem dJ0_isLatin1_aae02_3 : decode cJ0_isLatin1_aae02 3 = .ok (.ifCond .eq 14, 3) := by decide +kernel
theorem dJ0_isLatin1_aae02_6 : decode cJ0_isLatin1_aae02 6 = .ok (.aload_n 0, 1) := by decide +kernel
theorem dJ0_isLatin1_aae02_7 : decode cJ0_isLatin1_aae02 7 = .ok (.getfield 15, 3) := by decide +kernel
theorem dJ0_isLatin1_aae02_10 : decode cJ0_isLatin1_aae02 10 = .ok (.ifCond .ne 7, 3) := by decide +kernel
theorem dJ0_isLatin1_aae02_13 : decode cJ0_isLatin1_aae02 13 = .ok (.iconst 1, 1) := by decide +kernel
theorem dJ0_isLatin1_aae02_14 : decode cJ0_isLatin1_aae02 14 = .ok (.goto 4, 3) := by decide +kernel
theorem dJ0_isLatin1_aae02_17 : decode cJ0_isLatin1_aae02 17 = .ok (.iconst 0, 1) := by decide +kernel
theorem dJ0_isLatin1_aae02_18 : decode cJ0_isLatin1_aae02 18 = .ok (.ireturn, 1) := by decide +kernel
set_option maxRecDepth 20000 in
theorem ggJ0_checkBoundsBeginEnd_23922_J3_checkFromToIndex_8c36e : GoodIn wsJ0_checkBoundsBeginEnd_23922 wsJ3_checkFromToIndex_8c36e := goodIn_r _ [5] (by decide +kernel) (by decide +kernel)
set_option maxRecDepth 20000 in
theorem gJ0_checkBoundsBeginEnd_23922_J3_checkFromToIndex_8c36e : GoodIn wsJ0_checkBoundsBeginEnd_23922 (va_wsS RJ0 1062 yJ3_checkFromToIndex_8c36e wsJ3_checkFromToIndex_8c36e) := goodIn_app (goodIn_of _ (by decide +kernel)) ggJ0_checkBoundsBeginEnd_23922_J3_checkFromToIndex_8c36e
theorem dJ0_checkBoundsBeginEnd_23922_0 : decode cJ0_checkBoundsBeginEnd_23922 0 = .ok (.iload_n 0, 1) := by decide +kernel
theorem dJ0_checkBoundsBeginEnd_23922_1 : decode cJ0_checkBoundsBeginEnd_23922 1 = .ok (.iload_n 1, 1) := by decide +kernel
theorem dJ0_checkBoundsBeginEnd_23922_2 : decode cJ0_checkBoundsBeginEnd_23922 2 = .ok (.iload_n 2, 1) := by decide +kernel
theorem dJ0_checkBoundsBeginEnd_23922_3 : decode cJ0_checkBoundsBeginEnd_23922 3 = .ok (.getstatic 1053, 3) := by decide +kernel
theorem dJ0_checkBoundsBeginEnd_23922_6 : decode cJ0_checkBoundsBeginEnd_23922 6 = .ok (.invokestatic 1062, 3) := by decide +kernel
theorem dJ0_checkBoundsBeginEnd_23922_9 : decode cJ0_checkBoundsBeginEnd_23922 9 = .ok (.pop, 1) := by decide +kernel
theorem dJ0_checkBoundsBeginEnd_23922_10 : decode cJ0_checkBoundsBeginEnd_23922 10 = .ok (.return_, 1) := by decide +kernel
theorem dJ1_canEncode_9a6ad_0 : decode cJ1_canEncode_9a6ad 0 = .ok (.iload_n 0, 1) := by decide +kernel
theorem dJ1_canEncode_9a6ad_1 : decode cJ1_canEncode_9a6ad 1 = .ok (.ifCond .lt 14, 3) := by decide +kernel
theorem dJ1_canEncode_9a6ad_4 : decode cJ1_canEncode_9a6ad 4 = .ok (.iload_n 0, 1) := by decide +kernel
theorem dJ1_canEncode_9a6ad_5 : decode cJ1_canEncode_9a6ad 5 = .ok (.sipush 255, 3) := by decide +kernel
theorem dJ1_canEncode_9a6ad_8 : decode cJ1_canEncode_9a6ad 8 = .ok (.if_icmp .gt 7, 3) := by decide +kernel
theorem dJ1_canEncode_9a6ad_11 : decode cJ1_canEncode_9a6ad 11 = .ok (.iconst 1, 1) := by decide +kernel
theorem dJ1_canEncode_9a6ad_12 : decode cJ1_canEncode_9a6ad 12 = .ok (.goto 4, 3) := by decide +kernel
theorem dJ1_canEncode_9a6ad_15 : decode cJ1_canEncode_9a6ad 15 = .ok (.iconst 0, 1) := by decide +kernel
theorem dJ1_canEncode_9a6ad_16 : decode cJ1_canEncode_9a6ad 16 = .ok (.ireturn, 1) := by decide +kernel
set_option maxRecDepth 20000 in
theorem ggJ1_indexOf_4cfef_J1_canEncode_9a6ad : GoodIn wsJ1_indexOf_4cfef wsJ1_canEncode_9a6ad := goodIn_r _ [11] (by decide +kernel) (by decide +kernel)
set_option maxRecDepth 20000 in
theorem gJ1_indexOf_4cfef_J1_canEncode_9a6ad : GoodIn wsJ1_indexOf_4cfef (va_wsS RJ1 88 yJ1_canEncode_9a6ad wsJ1_canEncode_9a6ad) := goodIn_app (goodIn_of _ (by decide +kernel)) ggJ1_indexOf_4cfef_J1_canEncode_9a6ad
set_option maxRecDepth 20000 in
theorem ggJ1_indexOf_4cfef_J1_indexOfChar_4cfef : GoodIn wsJ1_indexOf_4cfef wsJ1_indexOfChar_4cfef := goodIn_r _ [14] (by decide +kernel) (by decide +kernel)
set_option maxRecDepth 20000 in
theorem gJ1_indexOf_4cfef_J1_indexOfChar_4cfef : GoodIn wsJ1_indexOf_4cfef (va_wsS RJ1 95 yJ1_indexOfChar_4cfef wsJ1_indexOfChar_4cfef) := goodIn_app (goodIn_of _ (by decide +kernel)) ggJ1_indexOf_4cfef_J1_indexOfChar_4cfef
theorem dJ1_indexOf_4cfef_0 : decode cJ1_indexOf_4cfef 0 = .ok (.iload_n 1, 1) := by decide +kernel
theorem dJ1_indexOf_4cfef_1 : decode cJ1_indexOf_4cfef 1 = .ok (.invokestatic 88, 3) := by decide +kernel
theorem dJ1_indexOf_4cfef_4 : decode cJ1_indexOf_4cfef 4 = .ok (.ifCond .ne 5, 3) := by decide +kernel
theorem dJ1_indexOf_4cfef_7 : decode cJ1_indexOf_4cfef 7 = .ok (.iconst (-1), 1) := by decide +kernel
theorem dJ1_indexOf_4cfef_8 : decode cJ1_indexOf_4cfef 8 = .ok (.ireturn, 1) := by decide +kernel
theorem dJ1_indexOf_4cfef_9 : decode cJ1_indexOf_4cfef 9 = .ok (.iload_n 2, 1) := by decide +kernel
theorem dJ1_indexOf_4cfef_10 : decode cJ1_indexOf_4cfef 10 = .ok (.iconst 0, 1) := by decide +kernel
theorem dJ1_indexOf_4cfef_11 : decode cJ1_indexOf_4cfef 11 = .ok (.invokestatic 92, 3) := by decide +kernel
theorem dJ1_indexOf_4cfef_14 : decode cJ1_indexOf_4cfef 14 = .ok (.istore_n 2, 1) := by decide +kernel
theorem dJ1_indexOf_4cfef_15 : decode cJ1_indexOf_4cfef 15 = .ok (.iload_n 3, 1) := by decide +kernel
theorem dJ1_indexOf_4cfef_16 : decode cJ1_indexOf_4cfef 16 = .ok (.aload_n 0, 1) := by decide +kernel
theorem dJ1_indexOf_4cfef_17 : decode cJ1_indexOf_4cfef 17 = .ok (.arraylength, 1) := by decide +kernel
theorem dJ1_indexOf_4cfef_18 : decode cJ1_indexOf_4cfef 18 = .ok (.invokestatic 38, 3) := by decide +kernel
theorem dJ1_indexOf_4cfef_21 : decode cJ1_indexOf_4cfef 21 = .ok (.istore_n 3, 1) := by decide +kernel
theorem dJ1_indexOf_4cfef_22 : decode cJ1_indexOf_4cfef 22 = .ok (.iload_n 2, 1) := by decide +kernel
theorem dJ1_indexOf_4cfef_23 : decode cJ1_indexOf_4cfef 23 = .ok (.iload_n 3, 1) := by decide +kernel
theorem dJ1_indexOf_4cfef_24 : decode cJ1_indexOf_4cfef 24 = .ok (.if_icmp .lt 5, 3) := by decide +kernel
theorem dJ1_indexOf_4cfef_27 : decode cJ1_indexOf_4cfef 27 = .ok (.iconst (-1), 1) := by decide +kernel
theorem dJ1_indexOf_4cfef_28 : decode cJ1_indexOf_4cfef 28 = .ok (.ireturn, 1) := by decide +kernel
theorem dJ1_indexOf_4cfef_29 : decode cJ1_indexOf_4cfef 29 = .ok (.aload_n 0, 1) := by decide +kernel
theorem dJ1_indexOf_4cfef_30 : decode cJ1_indexOf_4cfef 30 = .ok (.iload_n 1, 1) := by decide +kernel
theorem dJ1_indexOf_4cfef_31 : decode cJ1_indexOf_4cfef 31 = .ok (.iload_n 2, 1) := by decide +kernel
theorem dJ1_indexOf_4cfef_32 : decode cJ1_indexOf_4cfef 32 = .ok (.iload_n 3, 1) := by decide +kernel
theorem dJ1_indexOf_4cfef_33 : decode cJ1_indexOf_4cfef 33 = .ok (.invokestatic 95, 3) := by decide +kernel
theorem dJ1_indexOf_4cfef_36 : decode cJ1_indexOf_4cfef 36 = .ok (.ireturn, 1) := by decide +kernel
theorem dJ1_indexOfChar_4cfef_0 : decode cJ1_indexOfChar_4cfef 0 = .ok (.iload_n 1, 1) := by decide +kernel
theorem dJ1_indexOfChar_4cfef_1 : decode cJ1_indexOfChar_4cfef 1 = .ok (.i2b, 1) := by decide +kernel
theorem dJ1_indexOfChar_4cfef_2 : decode cJ1_indexOfChar_4cfef 2 = .ok (.istore 4, 2) := by decide +kernel
theorem dJ1_indexOfChar_4cfef_4 : decode cJ1_indexOfChar_4cfef 4 = .ok (.iload_n 2, 1) := by decide +kernel
theorem dJ1_indexOfChar_4cfef_5 : decode cJ1_indexOfChar_4cfef 5 = .ok (.istore 5, 2) := by decide +kernel
theorem dJ1_indexOfChar_4cfef_7 : decode cJ1_indexOfChar_4cfef 7 = .ok (.iload 5, 2) := by decide +kernel
theorem dJ1_indexOfChar_4cfef_9 : decode cJ1_indexOfChar_4cfef 9 = .ok (.iload_n 3, 1) := by decide +kernel
theorem dJ1_indexOfChar_4cfef_10 : decode cJ1_indexOfChar_4cfef 10 = .ok (.if_icmp .ge 21, 3) := by decide +kernel
theorem dJ1_indexOfChar_4cfef_13 : decode cJ1_indexOfChar_4cfef 13 = .ok (.aload_n 0, 1) := by decide +kernel
theorem dJ1_indexOfChar_4cfef_14 : decode cJ1_indexOfChar_4cfef 14 = .ok (.iload 5, 2) := by decide +kernel
theorem dJ1_indexOfChar_4cfef_16 : decode cJ1_indexOfChar_4cfef 16 = .ok (.baload, 1) := by decide +kernel
theorem dJ1_indexOfChar_4cfef_17 : decode cJ1_indexOfChar_4cfef 17 = .ok (.iload 4, 2) := by decide +kernel
theorem dJ1_indexOfChar_4cfef_19 : decode cJ1_indexOfChar_4cfef 19 = .ok (.if_icmp .ne 6, 3) := by decide +kernel
theorem dJ1_indexOfChar_4cfef_22 : decode cJ1_indexOfChar_4cfef 22 = .ok (.iload 5, 2) := by decide +kernel
theorem dJ1_indexOfChar_4cfef_24 : decode cJ1_indexOfChar_4cfef 24 = .ok (.ireturn, 1) := by decide +kernel
theorem dJ1_indexOfChar_4cfef_25 : decode cJ1_indexOfChar_4cfef 25 = .ok (.iinc 5 1, 3) := by decide +kernel
theorem dJ1_indexOfChar_4cfef_28 : decode cJ1_indexOfChar_4cfef 28 = .ok (.goto (-21), 3) := by decide +kernel
theorem dJ1_indexOfChar_4cfef_31 : decode cJ1_indexOfChar_4cfef 31 = .ok (.iconst (-1), 1) := by decide +kernel
theorem dJ1_indexOfChar_4cfef_32 : decode cJ1_indexOfChar_4cfef 32 = .ok (.ireturn, 1) := by decide +kernel
theorem dJ6_bitCount_0f7a4_0 : decode cJ6_bitCount_0f7a4 0 = .ok (.iload_n 0, 1) := by decide +kernel
theorem dJ6_bitCount_0f7a4_1 : decode cJ6_bitCount_0f7a4 1 = .ok (.iload_n 0, 1) := by decide +kernel
theorem dJ6_bitCount_0f7a4_2 : decode cJ6_bitCount_0f7a4 2 = .ok (.iconst 1, 1) := by decide +kernel
theorem dJ6_bitCount_0f7a4_3 : decode cJ6_bitCount_0f7a4 3 = .ok (.iushr, 1) := by decide +kernel
theorem dJ6_bitCount_0f7a4_4 : decode cJ6_bitCount_0f7a4 4 = .ok (.ldc_w 265, 3) := by decide +kernel
theorem dJ6_bitCount_0f7a4_7 : decode cJ6_bitCount_0f7a4 7 = .ok (.iand, 1) := by decide +kernel
theorem dJ6_bitCount_0f7a4_8 : decode cJ6_bitCount_0f7a4 8 = .ok (.isub, 1) := by decide +kernel
theorem dJ6_bitCount_0f7a4_9 : decode cJ6_bitCount_0f7a4 9 = .ok (.istore_n 0, 1) := by decide +kernel
theorem dJ6_bitCount_0f7a4_10 : decode cJ6_bitCount_0f7a4 10 = .ok (.iload_n 0, 1) := by decide +kernel
theorem dJ6_bitCount_0f7a4_11 : decode cJ6_bitCount_0f7a4 11 = .ok (.ldc_w 266, 3) := by decide +kernel
theorem dJ6_bitCount_0f7a4_14 : decode cJ6_bitCount_0f7a4 14 = .ok (.iand, 1) := by decide +kernel
theorem dJ6_bitCount_0f7a4_15 : decode cJ6_bitCount_0f7a4 15 = .ok (.iload_n 0, 1) := by decide +kernel
theorem dJ6_bitCount_0f7a4_16 : decode cJ6_bitCount_0f7a4 16 = .ok (.iconst 2, 1) := by decide +kernel
theorem dJ6_bitCount_0f7a4_17 : decode cJ6_bitCount_0f7a4 17 = .ok (.iushr, 1) := by decide +kernel
theorem dJ6_bitCount_0f7a4_18 : decode cJ6_bitCount_0f7a4 18 = .ok (.ldc_w 266, 3) := by decide +kernel
theorem dJ6_bitCount_0f7a4_21 : decode cJ6_bitCount_0f7a4 21 = .ok (.iand, 1) := by decide +kernel
theorem dJ6_bitCount_0f7a4_22 : decode cJ6_bitCount_0f7a4 22 = .ok (.iadd, 1) := by decide +kernel
theorem dJ6_bitCount_0f7a4_23 : decode cJ6_bitCount_0f7a4 23 = .ok (.istore_n 0, 1) := by decide +kernel
theorem dJ6_bitCount_0f7a4_24 : decode cJ6_bitCount_0f7a4 24 = .ok (.iload_n 0, 1) := by decide +kernel
theorem dJ6_bitCount_0f7a4_25 : decode cJ6_bitCount_0f7a4 25 = .ok (.iload_n 0, 1) := by decide +kernel
theorem dJ6_bitCount_0f7a4_26 : decode cJ6_bitCount_0f7a4 26 = .ok (.iconst 4, 1) := by decide +kernel
theorem dJ6_bitCount_0f7a4_27 : decode cJ6_bitCount_0f7a4 27 = .ok (.iushr, 1) := by decide +kernel
theorem dJ6_bitCount_0f7a4_28 : decode cJ6_bitCount_0f7a4 28 = .ok (.iadd, 1) := by decide +kernel
theorem dJ6_bitCount_0f7a4_29 : decode cJ6_bitCount_0f7a4 29 = .ok (.ldc_w 267, 3) := by decide +kernel
theorem dJ6_bitCount_0f7a4_32 : decode cJ6_bitCount_0f7a4 32 = .ok (.iand, 1) := by decide +kernel
theorem dJ6_bitCount_0f7a4_33 : decode cJ6_bitCount_0f7a4 33 = .ok (.istore_n 0, 1) := by decide +kernel
theorem dJ6_bitCount_0f7a4_34 : decode cJ6_bitCount_0f7a4 34 = .ok (.iload_n 0, 1) := by decide +kernel
theorem dJ6_bitCount_0f7a4_35 : decode cJ6_bitCount_0f7a4 35 = .ok (.iload_n 0, 1) := by decide +kernel
theorem dJ6_bitCount_0f7a4_36 : decode cJ6_bitCount_0f7a4 36 = .ok (.bipush 8, 2) := by decide +kernel
theorem dJ6_bitCount_0f7a4_38 : decode cJ6_bitCount_0f7a4 38 = .ok (.iushr, 1) := by decide +kernel
theorem dJ6_bitCount_0f7a4_39 : decode cJ6_bitCount_0f7a4 39 = .ok (.iadd, 1) := by decide +kernel
theorem dJ6_bitCount_0f7a4_40 : decode cJ6_bitCount_0f7a4 40 = .ok (.istore_n 0, 1) := by decide +kernel
theorem dJ6_bitCount_0f7a4_41 : decode cJ6_bitCount_0f7a4 41 = .ok (.iload_n 0, 1) := by decide +kernel
theorem dJ6_bitCount_0f7a4_42 : decode cJ6_bitCount_0f7a4 42 = .ok (.iload_n 0, 1) := by decide +kernel
theorem dJ6_bitCount_0f7a4_43 : decode cJ6_bitCount_0f7a4 43 = .ok (.bipush 16, 2) := by decide +kernel
theorem dJ6_bitCount_0f7a4_45 : decode cJ6_bitCount_0f7a4 45 = .ok (.iushr, 1) := by decide +kernel
theorem dJ6_bitCount_0f7a4_46 : decode cJ6_bitCount_0f7a4 46 = .ok (.iadd, 1) := by decide +kernel
theorem dJ6_bitCount_0f7a4_47 : decode cJ6_bitCount_0f7a4 47 = .ok (.istore_n 0, 1) := by decide +kernel
theorem dJ6_bitCount_0f7a4_48 : decode cJ6_bitCount_0f7a4 48 = .ok (.iload_n 0, 1) := by decide +kernel
theorem dJ6_bitCount_0f7a4_49 : decode cJ6_bitCount_0f7a4 49 = .ok (.bipush 63, 2) := by decide +kernel
theorem dJ6_bitCount_0f7a4_51 : decode cJ6_bitCount_0f7a4 51 = .ok (.iand, 1) := by decide +kernel
theorem dJ6_bitCount_0f7a4_52 : decode cJ6_bitCount_0f7a4 52 = .ok (.ireturn, 1) := by decide +kernel
theorem dJ6_signum_0f7a4_0 : decode cJ6_signum_0f7a4 0 = .ok (.iload_n 0, 1) := by decide +kernel
theorem dJ6_signum_0f7a4_1 : decode cJ6_signum_0f7a4 1 = .ok (.bipush 31, 2) := by decide +kernel
theorem dJ6_signum_0f7a4_3 : decode cJ6_signum_0f7a4 3 = .ok (.ishr, 1) := by decide +kernel
theorem dJ6_signum_0f7a4_4 : decode cJ6_signum_0f7a4 4 = .ok (.iload_n 0, 1) := by decide +kernel
theorem dJ6_signum_0f7a4_5 : decode cJ6_signum_0f7a4 5 = .ok (.ineg, 1) := by decide +kernel
theorem dJ6_signum_0f7a4_6 : decode cJ6_signum_0f7a4 6 = .ok (.bipush 31, 2) := by decide +kernel
theorem dJ6_signum_0f7a4_8 : decode cJ6_signum_0f7a4 8 = .ok (.iushr, 1) := by decide +kernel
theorem dJ6_signum_0f7a4_9 : decode cJ6_signum_0f7a4 9 = .ok (.ior, 1) := by decide +kernel
theorem dJ6_signum_0f7a4_10 : decode cJ6_signum_0f7a4 10 = .ok (.ireturn, 1) := by decide +kernel
theorem dJ9_abs_0f7a4_0 : decode cJ9_abs_0f7a4 0 = .ok (.iload_n 0, 1) := by decide +kernel
theorem dJ9_abs_0f7a4_1 : decode cJ9_abs_0f7a4 1 = .ok (.ifCond .ge 8, 3) := by decide +kernel
theorem dJ9_abs_0f7a4_4 : decode cJ9_abs_0f7a4 4 = .ok (.iload_n 0, 1) := by decide +kernel
theorem dJ9_abs_0f7a4_5 : decode cJ9_abs_0f7a4 5 = .ok (.ineg, 1) := by decide +kernel
theorem dJ9_abs_0f7a4_6 : decode cJ9_abs_0f7a4 6 = .ok (.goto 4, 3) := by decide +kernel
theorem dJ9_abs_0f7a4_9 : decode cJ9_abs_0f7a4 9 = .ok (.iload_n 0, 1) := by decide +kernel
theorem dJ9_abs_0f7a4_10 : decode cJ9_abs_0f7a4 10 = .ok (.ireturn, 1) := by decide +kernel
theorem dJ9_max_7cf53_0 : decode cJ9_max_7cf53 0 = .ok (.iload_n 0, 1) := by decide +kernel
theorem dJ9_max_7cf53_1 : decode cJ9_max_7cf53 1 = .ok (.iload_n 1, 1) := by decide +kernel
theorem dJ9_max_7cf53_2 : decode cJ9_max_7cf53 2 = .ok (.if_icmp .lt 7, 3) := by decide +kernel
theorem dJ9_max_7cf53_5 : decode cJ9_max_7cf53 5 = .ok (.iload_n 0, 1) := by decide +kernel
theorem dJ9_max_7cf53_6 : decode cJ9_max_7cf53 6 = .ok (.goto 4, 3) := by decide +kernel
theorem dJ9_max_7cf53_9 : decode cJ9_max_7cf53 9 = .ok (.iload_n 1, 1) := by decide +kernel
theorem dJ9_max_7cf53_10 : decode cJ9_max_7cf53 10 = .ok (.ireturn, 1) := by decide +kernel
theorem dJ9_min_7cf53_0 : decode cJ9_min_7cf53 0 = .ok (.iload_n 0, 1) := by decide +kernel
theorem dJ9_min_7cf53_1 : decode cJ9_min_7cf53 1 = .ok (.iload_n 1, 1) := by decide +kernel
theorem dJ9_min_7cf53_2 : decode cJ9_min_7cf53 2 = .ok (.if_icmp .gt 7, 3) := by decide +kernel
theorem dJ9_min_7cf53_5 : decode cJ9_min_7cf53 5 = .ok (.iload_n 0, 1) := by decide +kernel
theorem dJ9_min_7cf53_6 : decode cJ9_min_7cf53 6 = .ok (.goto 4, 3) := by decide +kernel
theorem dJ9_min_7cf53_9 : decode cJ9_min_7cf53 9 = .ok (.iload_n 1, 1) := by decide +kernel
theorem dJ9_min_7cf53_10 : decode cJ9_min_7cf53 10 = .ok (.ireturn, 1) := by decide +kernel
