set_option maxRecDepth 20000 in
theorem ggX9_init_X7_init : GoodIn wsX9_init wsX7_init := goodIn_r _ [24, 25, 2, 3, 26, 27, 28, 29, 30, 31, 32, 33, 34, 35, 36, 37, 38, 39, 40, 41, 42, 9, 10, 43, 44, 45, 46, 47, 48, 49, 50, 51, 52, 53, 54, 55, 56, 57, 58, 59, 60, 61, 62, 63, 64, 65, 66, 67, 68, 69, 70, 71, 110, 111, 112, 90, 91, 92, 93, 94, 95, 96, 113, 114, 115, 116, 117, 118, 119, 120, 121, 122, 123, 124, 125, 126, 103, 104] (by decide +kernel) (by decide +kernel)
set_option maxRecDepth 20000 in
theorem gX9_init_X7_init : GoodIn wsX9_init (wsX7_init) := ggX9_init_X7_init
set_option maxRecDepth 20000 in
theorem ggX9_init_X8_init : GoodIn wsX9_init wsX8_init := goodIn_r _ [69, 70, 2, 3, 52, 71, 103, 104] (by decide +kernel) (by decide +kernel)
set_option maxRecDepth 20000 in
theorem gX9_init_X8_init_n18 : GoodIn wsX9_init (wsX8_init) := ggX9_init_X8_init
set_option maxRecDepth 20000 in
theorem ggX9_init_X6_init : GoodIn wsX9_init wsX6_init := goodIn_r _ [74, 75, 2, 3, 76, 77, 78, 79, 52, 80, 81, 105, 106] (by decide +kernel) (by decide +kernel)
set_option maxRecDepth 20000 in
theorem gX9_init_X6_init : GoodIn wsX9_init (wsX6_init) := ggX9_init_X6_init
set_option maxRecDepth 20000 in
theorem ggX9_init_X4_init : GoodIn wsX9_init wsX4_init := goodIn_r _ [83, 84, 2, 3, 52, 85, 86, 87, 14, 15, 88, 89, 73, 74, 75, 76, 77, 78, 79, 80, 81, 107, 108, 109, 105, 106] (by decide +kernel) (by decide +kernel)
set_option maxRecDepth 20000 in
theorem gX9_init_X4_init_n41 : GoodIn wsX9_init (wsX4_init) := ggX9_init_X4_init
theorem dX9_init_0 : decode cX9_init 0 = .ok (.aload_n 0, 1) := by decide +kernel
theorem dX9_init_1 : decode cX9_init 1 = .ok (.invokespecial 1, 3) := by decide +kernel
theorem dX9_init_4 : decode cX9_init 4 = .ok (.aload_n 0, 1) := by decide +kernel
theorem dX9_init_5 : decode cX9_init 5 = .ok (.new 7, 3) := by decide +kernel
theorem dX9_init_8 : decode cX9_init 8 = .ok (.dup, 1) := by decide +kernel
theorem dX9_init_9 : decode cX9_init 9 = .ok (.invokespecial 9, 3) := by decide +kernel
theorem dX9_init_12 : decode cX9_init 12 = .ok (.putfield 10, 3) := by decide +kernel
theorem dX9_init_15 : decode cX9_init 15 = .ok (.aload_n 0, 1) := by decide +kernel
theorem dX9_init_16 : decode cX9_init 16 = .ok (.new 16, 3) := by decide +kernel
theorem dX9_init_19 : decode cX9_init 19 = .ok (.dup, 1) := by decide +kernel
theorem dX9_init_20 : decode cX9_init 20 = .ok (.invokespecial 18, 3) := by decide +kernel
theorem dX9_init_23 : decode cX9_init 23 = .ok (.putfield 19, 3) := by decide +kernel
theorem dX9_init_26 : decode cX9_init 26 = .ok (.aload_n 0, 1) := by decide +kernel
theorem dX9_init_27 : decode cX9_init 27 = .ok (.iconst 2, 1) := by decide +kernel
theorem dX9_init_28 : decode cX9_init 28 = .ok (.anewarray 7, 3) := by decide +kernel
theorem dX9_init_31 : decode cX9_init 31 = .ok (.putfield 23, 3) := by decide +kernel
theorem dX9_init_34 : decode cX9_init 34 = .ok (.aload_n 0, 1) := by decide +kernel
theorem dX9_init_35 : decode cX9_init 35 = .ok (.new 27, 3) := by decide +kernel
theorem dX9_init_38 : decode cX9_init 38 = .ok (.dup, 1) := by decide +kernel
theorem dX9_init_39 : decode cX9_init 39 = .ok (.iconst 1, 1) := by decide +kernel
theorem dX9_init_40 : decode cX9_init 40 = .ok (.invokespecial 29, 3) := by decide +kernel
theorem dX9_init_43 : decode cX9_init 43 = .ok (.putfield 32, 3) := by decide +kernel
theorem dX9_init_46 : decode cX9_init 46 = .ok (.aload_n 0, 1) := by decide +kernel
theorem dX9_init_47 : decode cX9_init 47 = .ok (.new 27, 3) := by decide +kernel
theorem dX9_init_50 : decode cX9_init 50 = .ok (.dup, 1) := by decide +kernel
theorem dX9_init_51 : decode cX9_init 51 = .ok (.bipush 11, 2) := by decide +kernel
theorem dX9_init_53 : decode cX9_init 53 = .ok (.invokespecial 29, 3) := by decide +kernel
theorem dX9_init_56 : decode cX9_init 56 = .ok (.putfield 36, 3) := by decide +kernel
theorem dX9_init_59 : decode cX9_init 59 = .ok (.aload_n 0, 1) := by decide +kernel
theorem dX9_init_60 : decode cX9_init 60 = .ok (.new 39, 3) := by decide +kernel
theorem dX9_init_63 : decode cX9_init 63 = .ok (.dup, 1) := by decide +kernel
theorem dX9_init_64 : decode cX9_init 64 = .ok (.invokespecial 41, 3) := by decide +kernel
theorem dX9_init_67 : decode cX9_init 67 = .ok (.putfield 42, 3) := by decide +kernel
theorem dX9_init_70 : decode cX9_init 70 = .ok (.return_, 1) := by decide +kernel
set_option maxRecDepth 20000 in
theorem ggX9_hour_X9_within : GoodIn wsX9_hour wsX9_within := goodIn_r _ [6] (by decide +kernel) (by decide +kernel)
set_option maxRecDepth 20000 in
theorem gX9_hour_X9_within : GoodIn wsX9_hour (va_wsS RX9 46 yX9_within wsX9_within) := goodIn_app (goodIn_of _ (by decide +kernel)) ggX9_hour_X9_within
set_option maxRecDepth 20000 in
theorem ggX9_hour_X1_follow : GoodIn wsX9_hour wsX1_follow := goodIn_r _ [11, 12, 13, 14, 15, 16, 17, 18, 32, 33, 34] (by decide +kernel) (by decide +kernel)
set_option maxRecDepth 20000 in
theorem gX9_hour_X1_follow : GoodIn wsX9_hour (wsV RX9 54 RX1 yX1_follow wsX1_follow) := goodIn_app (goodIn_of _ (by decide +kernel)) ggX9_hour_X1_follow
theorem dX9_hour_0 : decode cX9_hour 0 = .ok (.iload_n 1, 1) := by decide +kernel
theorem dX9_hour_1 : decode cX9_hour 1 = .ok (.iconst 0, 1) := by decide +kernel
theorem dX9_hour_2 : decode cX9_hour 2 = .ok (.bipush 99, 2) := by decide +kernel
theorem dX9_hour_4 : decode cX9_hour 4 = .ok (.invokestatic 46, 3) := by decide +kernel
theorem dX9_hour_7 : decode cX9_hour 7 = .ok (.ifCond .eq 17, 3) := by decide +kernel
theorem dX9_hour_10 : decode cX9_hour 10 = .ok (.aload_n 0, 1) := by decide +kernel
theorem dX9_hour_11 : decode cX9_hour 11 = .ok (.getfield 10, 3) := by decide +kernel
theorem dX9_hour_14 : decode cX9_hour 14 = .ok (.getfield 50, 3) := by decide +kernel
theorem dX9_hour_17 : decode cX9_hour 17 = .ok (.iload_n 1, 1) := by decide +kernel
theorem dX9_hour_18 : decode cX9_hour 18 = .ok (.invokevirtual 54, 3) := by decide +kernel
theorem dX9_hour_21 : decode cX9_hour 21 = .ok (.goto 5, 3) := by decide +kernel
theorem dX9_hour_24 : decode cX9_hour 24 = .ok (.bipush (-2), 2) := by decide +kernel
theorem dX9_hour_26 : decode cX9_hour 26 = .ok (.ireturn, 1) := by decide +kernel
set_option maxRecDepth 20000 in
theorem ggX9_tap_X1_settle : GoodIn wsX9_tap wsX1_settle := goodIn_r _ [7, 8, 9, 23, 24, 25] (by decide +kernel) (by decide +kernel)
set_option maxRecDepth 20000 in
theorem gX9_tap_X1_settle : GoodIn wsX9_tap (wsV RX9 60 RX1 yX1_settle wsX1_settle) := goodIn_app (goodIn_of _ (by decide +kernel)) ggX9_tap_X1_settle
theorem dX9_tap_0 : decode cX9_tap 0 = .ok (.aload_n 0, 1) := by decide +kernel
theorem dX9_tap_1 : decode cX9_tap 1 = .ok (.getfield 10, 3) := by decide +kernel
theorem dX9_tap_4 : decode cX9_tap 4 = .ok (.getfield 50, 3) := by decide +kernel
theorem dX9_tap_7 : decode cX9_tap 7 = .ok (.invokevirtual 60, 3) := by decide +kernel
theorem dX9_tap_10 : decode cX9_tap 10 = .ok (.ireturn, 1) := by decide +kernel
set_option maxRecDepth 20000 in
theorem ggX9_stick_X9_within : GoodIn wsX9_stick wsX9_within := goodIn_r _ [7] (by decide +kernel) (by decide +kernel)
set_option maxRecDepth 20000 in
theorem gX9_stick_X9_within : GoodIn wsX9_stick (va_wsS RX9 46 yX9_within wsX9_within) := goodIn_app (goodIn_of _ (by decide +kernel)) ggX9_stick_X9_within
theorem dX9_stick_0 : decode cX9_stick 0 = .ok (.iload_n 1, 1) := by decide +kernel
theorem dX9_stick_1 : decode cX9_stick 1 = .ok (.iconst 0, 1) := by decide +kernel
theorem dX9_stick_2 : decode cX9_stick 2 = .ok (.bipush 9, 2) := by decide +kernel
theorem dX9_stick_4 : decode cX9_stick 4 = .ok (.invokestatic 46, 3) := by decide +kernel
theorem dX9_stick_7 : decode cX9_stick 7 = .ok (.ifCond .ne 6, 3) := by decide +kernel
theorem dX9_stick_10 : decode cX9_stick 10 = .ok (.bipush (-2), 2) := by decide +kernel
theorem dX9_stick_12 : decode cX9_stick 12 = .ok (.ireturn, 1) := by decide +kernel
theorem dX9_stick_13 : decode cX9_stick 13 = .ok (.aload_n 0, 1) := by decide +kernel
theorem dX9_stick_14 : decode cX9_stick 14 = .ok (.getfield 10, 3) := by decide +kernel
theorem dX9_stick_17 : decode cX9_stick 17 = .ok (.getfield 50, 3) := by decide +kernel
theorem dX9_stick_20 : decode cX9_stick 20 = .ok (.getfield 64, 3) := by decide +kernel
theorem dX9_stick_23 : decode cX9_stick 23 = .ok (.istore_n 2, 1) := by decide +kernel
theorem dX9_stick_24 : decode cX9_stick 24 = .ok (.aload_n 0, 1) := by decide +kernel
theorem dX9_stick_25 : decode cX9_stick 25 = .ok (.getfield 10, 3) := by decide +kernel
theorem dX9_stick_28 : decode cX9_stick 28 = .ok (.getfield 50, 3) := by decide +kernel
theorem dX9_stick_31 : decode cX9_stick 31 = .ok (.iload_n 1, 1) := by decide +kernel
theorem dX9_stick_32 : decode cX9_stick 32 = .ok (.putfield 64, 3) := by decide +kernel
theorem dX9_stick_35 : decode cX9_stick 35 = .ok (.iload_n 2, 1) := by decide +kernel
theorem dX9_stick_36 : decode cX9_stick 36 = .ok (.ireturn, 1) := by decide +kernel
set_option maxRecDepth 20000 in
theorem ggX9_day_X9_within : GoodIn wsX9_day wsX9_within := goodIn_r _ [6] (by decide +kernel) (by decide +kernel)
set_option maxRecDepth 20000 in
theorem gX9_day_X9_within : GoodIn wsX9_day (va_wsS RX9 46 yX9_within wsX9_within) := goodIn_app (goodIn_of _ (by decide +kernel)) ggX9_day_X9_within
set_option maxRecDepth 20000 in
theorem ggX9_day_X0_write : GoodIn wsX9_day wsX0_write := goodIn_r _ [11, 12, 13, 14, 15, 16, 17, 18, 19, 20, 21, 5, 22, 23, 24, 25, 10, 26, 27, 28, 29, 30, 31, 32, 33, 34, 35, 36, 37, 38, 39, 40, 41, 42, 56, 57, 58, 59, 60, 61, 62, 63, 64] (by decide +kernel) (by decide +kernel)
set_option maxRecDepth 20000 in
theorem gX9_day_X0_write : GoodIn wsX9_day (wsV RX9 72 RX0 yX0_write wsX0_write) := goodIn_app (goodIn_of _ (by decide +kernel)) ggX9_day_X0_write
theorem dX9_day_0 : decode cX9_day 0 = .ok (.iload_n 1, 1) := by decide +kernel
theorem dX9_day_1 : decode cX9_day 1 = .ok (.iconst 0, 1) := by decide +kernel
theorem dX9_day_2 : decode cX9_day 2 = .ok (.bipush 9, 2) := by decide +kernel
theorem dX9_day_4 : decode cX9_day 4 = .ok (.invokestatic 46, 3) := by decide +kernel
theorem dX9_day_7 : decode cX9_day 7 = .ok (.ifCond .eq 17, 3) := by decide +kernel
theorem dX9_day_10 : decode cX9_day 10 = .ok (.iload_n 2, 1) := by decide +kernel
theorem dX9_day_11 : decode cX9_day 11 = .ok (.iconst 0, 1) := by decide +kernel
theorem dX9_day_12 : decode cX9_day 12 = .ok (.bipush 11, 2) := by decide +kernel
theorem dX9_day_14 : decode cX9_day 14 = .ok (.invokestatic 46, 3) := by decide +kernel
theorem dX9_day_17 : decode cX9_day 17 = .ok (.ifCond .eq 7, 3) := by decide +kernel
theorem dX9_day_20 : decode cX9_day 20 = .ok (.iconst 1, 1) := by decide +kernel
theorem dX9_day_21 : decode cX9_day 21 = .ok (.goto 4, 3) := by decide +kernel
theorem dX9_day_24 : decode cX9_day 24 = .ok (.iconst 0, 1) := by decide +kernel
theorem dX9_day_25 : decode cX9_day 25 = .ok (.istore 7, 2) := by decide +kernel
theorem dX9_day_27 : decode cX9_day 27 = .ok (.iload_n 3, 1) := by decide +kernel
theorem dX9_day_28 : decode cX9_day 28 = .ok (.iconst (-1), 1) := by decide +kernel
theorem dX9_day_29 : decode cX9_day 29 = .ok (.bipush 99, 2) := by decide +kernel
theorem dX9_day_31 : decode cX9_day 31 = .ok (.invokestatic 46, 3) := by decide +kernel
theorem dX9_day_34 : decode cX9_day 34 = .ok (.ifCond .eq 18, 3) := by decide +kernel
theorem dX9_day_37 : decode cX9_day 37 = .ok (.iload 4, 2) := by decide +kernel
theorem dX9_day_39 : decode cX9_day 39 = .ok (.iconst 0, 1) := by decide +kernel
theorem dX9_day_40 : decode cX9_day 40 = .ok (.bipush 7, 2) := by decide +kernel
theorem dX9_day_42 : decode cX9_day 42 = .ok (.invokestatic 46, 3) := by decide +kernel
theorem dX9_day_45 : decode cX9_day 45 = .ok (.ifCond .eq 7, 3) := by decide +kernel
theorem dX9_day_48 : decode cX9_day 48 = .ok (.iconst 1, 1) := by decide +kernel
theorem dX9_day_49 : decode cX9_day 49 = .ok (.goto 4, 3) := by decide +kernel
theorem dX9_day_52 : decode cX9_day 52 = .ok (.iconst 0, 1) := by decide +kernel
theorem dX9_day_53 : decode cX9_day 53 = .ok (.istore 8, 2) := by decide +kernel
theorem dX9_day_55 : decode cX9_day 55 = .ok (.iload 5, 2) := by decide +kernel
theorem dX9_day_57 : decode cX9_day 57 = .ok (.iconst 0, 1) := by decide +kernel
theorem dX9_day_58 : decode cX9_day 58 = .ok (.iconst 3, 1) := by decide +kernel
theorem dX9_day_59 : decode cX9_day 59 = .ok (.invokestatic 46, 3) := by decide +kernel
theorem dX9_day_62 : decode cX9_day 62 = .ok (.ifCond .eq 17, 3) := by decide +kernel
theorem dX9_day_65 : decode cX9_day 65 = .ok (.iload 6, 2) := by decide +kernel
theorem dX9_day_67 : decode cX9_day 67 = .ok (.iconst 0, 1) := by decide +kernel
theorem dX9_day_68 : decode cX9_day 68 = .ok (.iconst 1, 1) := by decide +kernel
theorem dX9_day_69 : decode cX9_day 69 = .ok (.invokestatic 46, 3) := by decide +kernel
theorem dX9_day_72 : decode cX9_day 72 = .ok (.ifCond .eq 7, 3) := by decide +kernel
theorem dX9_day_75 : decode cX9_day 75 = .ok (.iconst 1, 1) := by decide +kernel
theorem dX9_day_76 : decode cX9_day 76 = .ok (.goto 4, 3) := by decide +kernel
theorem dX9_day_79 : decode cX9_day 79 = .ok (.iconst 0, 1) := by decide +kernel
theorem dX9_day_80 : decode cX9_day 80 = .ok (.istore 9, 2) := by decide +kernel
theorem dX9_day_82 : decode cX9_day 82 = .ok (.iload 7, 2) := by decide +kernel
theorem dX9_day_84 : decode cX9_day 84 = .ok (.ifCond .eq 13, 3) := by decide +kernel
theorem dX9_day_87 : decode cX9_day 87 = .ok (.iload 8, 2) := by decide +kernel
theorem dX9_day_89 : decode cX9_day 89 = .ok (.ifCond .eq 8, 3) := by decide +kernel
theorem dX9_day_92 : decode cX9_day 92 = .ok (.iload 9, 2) := by decide +kernel
theorem dX9_day_94 : decode cX9_day 94 = .ok (.ifCond .ne 6, 3) := by decide +kernel
theorem dX9_day_97 : decode cX9_day 97 = .ok (.bipush (-2), 2) := by decide +kernel
theorem dX9_day_99 : decode cX9_day 99 = .ok (.ireturn, 1) := by decide +kernel
theorem dX9_day_100 : decode cX9_day 100 = .ok (.aload_n 0, 1) := by decide +kernel
theorem dX9_day_101 : decode cX9_day 101 = .ok (.getfield 10, 3) := by decide +kernel
theorem dX9_day_104 : decode cX9_day 104 = .ok (.getfield 68, 3) := by decide +kernel
theorem dX9_day_107 : decode cX9_day 107 = .ok (.iload_n 1, 1) := by decide +kernel
theorem dX9_day_108 : decode cX9_day 108 = .ok (.iload_n 2, 1) := by decide +kernel
theorem dX9_day_109 : decode cX9_day 109 = .ok (.iload_n 3, 1) := by decide +kernel
theorem dX9_day_110 : decode cX9_day 110 = .ok (.iload 4, 2) := by decide +kernel
theorem dX9_day_112 : decode cX9_day 112 = .ok (.iload 5, 2) := by decide +kernel
theorem dX9_day_114 : decode cX9_day 114 = .ok (.iload 6, 2) := by decide +kernel
theorem dX9_day_116 : decode cX9_day 116 = .ok (.invokevirtual 72, 3) := by decide +kernel
theorem dX9_day_119 : decode cX9_day 119 = .ok (.ireturn, 1) := by decide +kernel
set_option maxRecDepth 20000 in
theorem ggX9_tear_X0_dropLast : GoodIn wsX9_tear wsX0_dropLast := goodIn_r _ [7, 8, 22, 23, 24, 25, 26, 27, 28, 29, 30] (by decide +kernel) (by decide +kernel)
set_option maxRecDepth 20000 in
theorem gX9_tear_X0_dropLast : GoodIn wsX9_tear (wsV RX9 78 RX0 yX0_dropLast wsX0_dropLast) := goodIn_app (goodIn_of _ (by decide +kernel)) ggX9_tear_X0_dropLast
theorem dX9_tear_0 : decode cX9_tear 0 = .ok (.aload_n 0, 1) := by decide +kernel
theorem dX9_tear_1 : decode cX9_tear 1 = .ok (.getfield 10, 3) := by decide +kernel
theorem dX9_tear_4 : decode cX9_tear 4 = .ok (.getfield 68, 3) := by decide +kernel
theorem dX9_tear_7 : decode cX9_tear 7 = .ok (.invokevirtual 78, 3) := by decide +kernel
theorem dX9_tear_10 : decode cX9_tear 10 = .ok (.ireturn, 1) := by decide +kernel
set_option maxRecDepth 20000 in
theorem ggX9_look_X0_has : GoodIn wsX9_look wsX0_has := goodIn_r _ [7, 8, 45, 46, 47, 48, 49, 50, 51, 52, 53] (by decide +kernel) (by decide +kernel)
set_option maxRecDepth 20000 in
theorem gX9_look_X0_has : GoodIn wsX9_look (wsV RX9 81 RX0 yX0_has wsX0_has) := goodIn_app (goodIn_of _ (by decide +kernel)) ggX9_look_X0_has
set_option maxRecDepth 20000 in
theorem ggX9_look_X9_within : GoodIn wsX9_look wsX9_within := goodIn_r _ [12] (by decide +kernel) (by decide +kernel)
set_option maxRecDepth 20000 in
theorem gX9_look_X9_within : GoodIn wsX9_look (va_wsS RX9 46 yX9_within wsX9_within) := goodIn_app (goodIn_of _ (by decide +kernel)) ggX9_look_X9_within
set_option maxRecDepth 20000 in
theorem ggX9_look_X0_lookOf : GoodIn wsX9_look wsX0_lookOf := goodIn_r _ [16, 17, 18, 19, 20, 21, 22, 23, 11, 24, 25, 26, 6, 27, 28, 29, 30, 31, 45, 46, 47, 48, 49, 50, 51, 52, 53] (by decide +kernel) (by decide +kernel)
set_option maxRecDepth 20000 in
theorem gX9_look_X0_lookOf : GoodIn wsX9_look (wsV RX9 85 RX0 yX0_lookOf wsX0_lookOf) := goodIn_app (goodIn_of _ (by decide +kernel)) ggX9_look_X0_lookOf
theorem dX9_look_0 : decode cX9_look 0 = .ok (.aload_n 0, 1) := by decide +kernel
theorem dX9_look_1 : decode cX9_look 1 = .ok (.getfield 10, 3) := by decide +kernel
theorem dX9_look_4 : decode cX9_look 4 = .ok (.getfield 68, 3) := by decide +kernel
theorem dX9_look_7 : decode cX9_look 7 = .ok (.iload_n 1, 1) := by decide +kernel
theorem dX9_look_8 : decode cX9_look 8 = .ok (.invokevirtual 81, 3) := by decide +kernel
theorem dX9_look_11 : decode cX9_look 11 = .ok (.ifCond .ne 5, 3) := by decide +kernel
theorem dX9_look_14 : decode cX9_look 14 = .ok (.iconst (-1), 1) := by decide +kernel
theorem dX9_look_15 : decode cX9_look 15 = .ok (.ireturn, 1) := by decide +kernel
theorem dX9_look_16 : decode cX9_look 16 = .ok (.iload_n 2, 1) := by decide +kernel
theorem dX9_look_17 : decode cX9_look 17 = .ok (.iconst 0, 1) := by decide +kernel
theorem dX9_look_18 : decode cX9_look 18 = .ok (.bipush 8, 2) := by decide +kernel
theorem dX9_look_20 : decode cX9_look 20 = .ok (.invokestatic 46, 3) := by decide +kernel
theorem dX9_look_23 : decode cX9_look 23 = .ok (.ifCond .eq 18, 3) := by decide +kernel
theorem dX9_look_26 : decode cX9_look 26 = .ok (.aload_n 0, 1) := by decide +kernel
theorem dX9_look_27 : decode cX9_look 27 = .ok (.getfield 10, 3) := by decide +kernel
theorem dX9_look_30 : decode cX9_look 30 = .ok (.getfield 68, 3) := by decide +kernel
theorem dX9_look_33 : decode cX9_look 33 = .ok (.iload_n 1, 1) := by decide +kernel
theorem dX9_look_34 : decode cX9_look 34 = .ok (.iload_n 2, 1) := by decide +kernel
theorem dX9_look_35 : decode cX9_look 35 = .ok (.invokevirtual 85, 3) := by decide +kernel
theorem dX9_look_38 : decode cX9_look 38 = .ok (.goto 5, 3) := by decide +kernel
theorem dX9_look_41 : decode cX9_look 41 = .ok (.bipush (-2), 2) := by decide +kernel
theorem dX9_look_43 : decode cX9_look 43 = .ok (.ireturn, 1) := by decide +kernel
set_option maxRecDepth 20000 in
theorem ggX9_say_X9_within : GoodIn wsX9_say wsX9_within := goodIn_r _ [5] (by decide +kernel) (by decide +kernel)
set_option maxRecDepth 20000 in
theorem gX9_say_X9_within : GoodIn wsX9_say (va_wsS RX9 46 yX9_within wsX9_within) := goodIn_app (goodIn_of _ (by decide +kernel)) ggX9_say_X9_within
set_option maxRecDepth 20000 in
theorem ggX9_say_X8_add : GoodIn wsX9_say wsX8_add := goodIn_r _ [10, 11, 12, 13, 4, 14, 21, 22] (by decide +kernel) (by decide +kernel)
set_option maxRecDepth 20000 in
theorem gX9_say_X8_add : GoodIn wsX9_say (wsV RX9 89 RX8 yX8_add wsX8_add) := goodIn_app (goodIn_of _ (by decide +kernel)) ggX9_say_X8_add
theorem dX9_say_0 : decode cX9_say 0 = .ok (.iload_n 1, 1) := by decide +kernel
theorem dX9_say_1 : decode cX9_say 1 = .ok (.bipush 33, 2) := by decide +kernel
theorem dX9_say_3 : decode cX9_say 3 = .ok (.bipush 126, 2) := by decide +kernel
theorem dX9_say_5 : decode cX9_say 5 = .ok (.invokestatic 46, 3) := by decide +kernel
theorem dX9_say_8 : decode cX9_say 8 = .ok (.ifCond .eq 14, 3) := by decide +kernel
theorem dX9_say_11 : decode cX9_say 11 = .ok (.aload_n 0, 1) := by decide +kernel
theorem dX9_say_12 : decode cX9_say 12 = .ok (.getfield 19, 3) := by decide +kernel
theorem dX9_say_15 : decode cX9_say 15 = .ok (.iload_n 1, 1) := by decide +kernel
theorem dX9_say_16 : decode cX9_say 16 = .ok (.invokevirtual 89, 3) := by decide +kernel
theorem dX9_say_19 : decode cX9_say 19 = .ok (.goto 5, 3) := by decide +kernel
theorem dX9_say_22 : decode cX9_say 22 = .ok (.bipush (-2), 2) := by decide +kernel
theorem dX9_say_24 : decode cX9_say 24 = .ok (.ireturn, 1) := by decide +kernel
set_option maxRecDepth 20000 in
theorem ggX9_wipe_X8_erase : GoodIn wsX9_wipe wsX8_erase := goodIn_r _ [6, 7, 14, 15] (by decide +kernel) (by decide +kernel)
set_option maxRecDepth 20000 in
theorem gX9_wipe_X8_erase : GoodIn wsX9_wipe (wsV RX9 92 RX8 yX8_erase wsX8_erase) := goodIn_app (goodIn_of _ (by decide +kernel)) ggX9_wipe_X8_erase
theorem dX9_wipe_0 : decode cX9_wipe 0 = .ok (.aload_n 0, 1) := by decide +kernel
theorem dX9_wipe_1 : decode cX9_wipe 1 = .ok (.getfield 19, 3) := by decide +kernel
theorem dX9_wipe_4 : decode cX9_wipe 4 = .ok (.invokevirtual 92, 3) := by decide +kernel
theorem dX9_wipe_7 : decode cX9_wipe 7 = .ok (.ireturn, 1) := by decide +kernel
set_option maxRecDepth 20000 in
theorem ggX9_fault_X8_firstFault : GoodIn wsX9_fault wsX8_firstFault := goodIn_r _ [6, 7, 8, 9, 10, 11, 12, 13, 5, 14, 15, 16, 17, 18, 19, 20, 21, 22, 23, 24, 25, 26, 27, 28, 29, 30, 31, 32, 33, 34, 35, 36, 37, 38, 39, 40, 41, 42, 43, 44, 45, 46, 47, 48, 49, 50, 51, 52, 53, 54, 55, 56, 57, 58, 59, 60, 61, 62, 63, 64, 65, 66, 67, 68, 69, 70, 71, 72, 73, 74, 75, 76, 77, 78, 79, 80, 81, 82, 83, 84, 85, 86, 87, 88, 89, 90, 91, 92, 93, 94, 95, 96, 97, 98, 99, 100, 101, 102, 103, 104, 105, 106, 107, 108, 109, 110, 111, 112, 113, 114, 121, 122] (by decide +kernel) (by decide +kernel)
set_option maxRecDepth 20000 in
theorem gX9_fault_X8_firstFault : GoodIn wsX9_fault (wsV RX9 95 RX8 yX8_firstFault wsX8_firstFault) := goodIn_app (goodIn_of _ (by decide +kernel)) ggX9_fault_X8_firstFault
theorem dX9_fault_0 : decode cX9_fault 0 = .ok (.aload_n 0, 1) := by decide +kernel
theorem dX9_fault_1 : decode cX9_fault 1 = .ok (.getfield 19, 3) := by decide +kernel
theorem dX9_fault_4 : decode cX9_fault 4 = .ok (.invokevirtual 95, 3) := by decide +kernel
theorem dX9_fault_7 : decode cX9_fault 7 = .ok (.ireturn, 1) := by decide +kernel
set_option maxRecDepth 20000 in
theorem ggX9_saying_X7_sayingAt : GoodIn wsX9_saying wsX7_sayingAt := goodIn_r _ [8, 9, 150, 151, 152, 153, 154, 155, 156] (by decide +kernel) (by decide +kernel)
set_option maxRecDepth 20000 in
theorem gX9_saying_X7_sayingAt : GoodIn wsX9_saying (wsV RX9 98 RX7 yX7_sayingAt wsX7_sayingAt) := goodIn_app (goodIn_of _ (by decide +kernel)) ggX9_saying_X7_sayingAt
set_option maxRecDepth 20000 in
theorem ggX9_saying_X8_firstFault : GoodIn wsX9_saying wsX8_firstFault := goodIn_r _ [14, 15, 16, 17, 18, 19, 20, 21, 13, 22, 23, 24, 25, 26, 27, 28, 29, 30, 31, 32, 33, 34, 35, 36, 37, 38, 39, 40, 41, 42, 43, 44, 45, 46, 47, 48, 49, 50, 51, 52, 53, 54, 55, 56, 57, 58, 59, 60, 61, 62, 63, 64, 65, 66, 67, 68, 69, 70, 71, 72, 73, 74, 75, 76, 77, 78, 79, 80, 81, 82, 83, 84, 85, 86, 87, 88, 89, 90, 91, 92, 93, 94, 95, 96, 97, 98, 99, 100, 101, 102, 103, 104, 105, 106, 107, 108, 109, 110, 111, 112, 113, 114, 115, 116, 117, 118, 119, 120, 121, 122, 148, 149] (by decide +kernel) (by decide +kernel)
set_option maxRecDepth 20000 in
theorem gX9_saying_X8_firstFault : GoodIn wsX9_saying (wsV RX9 95 RX8 yX8_firstFault wsX8_firstFault) := goodIn_app (goodIn_of _ (by decide +kernel)) ggX9_saying_X8_firstFault
set_option maxRecDepth 20000 in
theorem ggX9_saying_X8_take : GoodIn wsX9_saying wsX8_take := goodIn_r _ [126, 15, 16, 127, 18, 128, 129, 59, 56, 60, 130, 131, 132, 133, 148, 149] (by decide +kernel) (by decide +kernel)
set_option maxRecDepth 20000 in
theorem gX9_saying_X8_take : GoodIn wsX9_saying (wsV RX9 105 RX8 yX8_take wsX8_take) := goodIn_app (goodIn_of _ (by decide +kernel)) ggX9_saying_X8_take
set_option maxRecDepth 20000 in
theorem ggX9_saying_X8_erase : GoodIn wsX9_saying wsX8_erase := goodIn_r _ [137, 15, 148, 149] (by decide +kernel) (by decide +kernel)
set_option maxRecDepth 20000 in
theorem gX9_saying_X8_erase : GoodIn wsX9_saying (wsV RX9 92 RX8 yX8_erase wsX8_erase) := goodIn_app (goodIn_of _ (by decide +kernel)) ggX9_saying_X8_erase
set_option maxRecDepth 20000 in
theorem ggX9_saying_X8_countCases : GoodIn wsX9_saying wsX8_countCases := goodIn_r _ [141, 15, 16, 17, 18, 19, 148, 149] (by decide +kernel) (by decide +kernel)
set_option maxRecDepth 20000 in
theorem gX9_saying_X8_countCases : GoodIn wsX9_saying (wsV RX9 109 RX8 yX8_countCases wsX8_countCases) := goodIn_app (goodIn_of _ (by decide +kernel)) ggX9_saying_X8_countCases
theorem dX9_saying_0 : decode cX9_saying 0 = .ok (.aload_n 0, 1) := by decide +kernel
theorem dX9_saying_1 : decode cX9_saying 1 = .ok (.getfield 10, 3) := by decide +kernel
theorem dX9_saying_4 : decode cX9_saying 4 = .ok (.iload_n 1, 1) := by decide +kernel
theorem dX9_saying_5 : decode cX9_saying 5 = .ok (.invokevirtual 98, 3) := by decide +kernel
theorem dX9_saying_8 : decode cX9_saying 8 = .ok (.astore_n 2, 1) := by decide +kernel
theorem dX9_saying_9 : decode cX9_saying 9 = .ok (.aload_n 2, 1) := by decide +kernel
theorem dX9_saying_10 : decode cX9_saying 10 = .ok (.ifnonnull 5, 3) := by decide +kernel
theorem dX9_saying_13 : decode cX9_saying 13 = .ok (.iconst (-1), 1) := by decide +kernel
theorem dX9_saying_14 : decode cX9_saying 14 = .ok (.ireturn, 1) := by decide +kernel
theorem dX9_saying_15 : decode cX9_saying 15 = .ok (.aload_n 0, 1) := by decide +kernel
theorem dX9_saying_16 : decode cX9_saying 16 = .ok (.getfield 19, 3) := by decide +kernel
theorem dX9_saying_19 : decode cX9_saying 19 = .ok (.getfield 102, 3) := by decide +kernel
theorem dX9_saying_22 : decode cX9_saying 22 = .ok (.ifCond .le 18, 3) := by decide +kernel
theorem dX9_saying_25 : decode cX9_saying 25 = .ok (.aload_n 0, 1) := by decide +kernel
theorem dX9_saying_26 : decode cX9_saying 26 = .ok (.getfield 19, 3) := by decide +kernel
theorem dX9_saying_29 : decode cX9_saying 29 = .ok (.invokevirtual 95, 3) := by decide +kernel
theorem dX9_saying_32 : decode cX9_saying 32 = .ok (.bipush (-6), 2) := by decide +kernel
theorem dX9_saying_34 : decode cX9_saying 34 = .ok (.if_icmp .eq 6, 3) := by decide +kernel
theorem dX9_saying_37 : decode cX9_saying 37 = .ok (.bipush (-5), 2) := by decide +kernel
theorem dX9_saying_39 : decode cX9_saying 39 = .ok (.ireturn, 1) := by decide +kernel
theorem dX9_saying_40 : decode cX9_saying 40 = .ok (.aload_n 2, 1) := by decide +kernel
theorem dX9_saying_41 : decode cX9_saying 41 = .ok (.aload_n 0, 1) := by decide +kernel
theorem dX9_saying_42 : decode cX9_saying 42 = .ok (.getfield 19, 3) := by decide +kernel
theorem dX9_saying_45 : decode cX9_saying 45 = .ok (.invokevirtual 105, 3) := by decide +kernel
theorem dX9_saying_48 : decode cX9_saying 48 = .ok (.aload_n 0, 1) := by decide +kernel
theorem dX9_saying_49 : decode cX9_saying 49 = .ok (.getfield 19, 3) := by decide +kernel
theorem dX9_saying_52 : decode cX9_saying 52 = .ok (.invokevirtual 92, 3) := by decide +kernel
theorem dX9_saying_55 : decode cX9_saying 55 = .ok (.pop, 1) := by decide +kernel
theorem dX9_saying_56 : decode cX9_saying 56 = .ok (.aload_n 2, 1) := by decide +kernel
theorem dX9_saying_57 : decode cX9_saying 57 = .ok (.invokevirtual 109, 3) := by decide +kernel
theorem dX9_saying_60 : decode cX9_saying 60 = .ok (.ireturn, 1) := by decide +kernel
set_option maxRecDepth 20000 in
theorem ggX9_odds_X9_isTeller : GoodIn wsX9_odds wsX9_isTeller := goodIn_r _ [6, 7, 8, 5, 9] (by decide +kernel) (by decide +kernel)
set_option maxRecDepth 20000 in
theorem gX9_odds_X9_isTeller : GoodIn wsX9_odds (va_wsS RX9 112 yX9_isTeller wsX9_isTeller) := goodIn_app (goodIn_of _ (by decide +kernel)) ggX9_odds_X9_isTeller
set_option maxRecDepth 20000 in
theorem ggX9_odds_X0_has : GoodIn wsX9_odds wsX0_has := goodIn_r _ [14, 15, 202, 203, 204, 205, 206, 207, 208, 209, 210] (by decide +kernel) (by decide +kernel)
set_option maxRecDepth 20000 in
theorem gX9_odds_X0_has : GoodIn wsX9_odds (wsV RX9 81 RX0 yX0_has wsX0_has) := goodIn_app (goodIn_of _ (by decide +kernel)) ggX9_odds_X0_has
set_option maxRecDepth 20000 in
theorem ggX9_odds_X7_oddsOf : GoodIn wsX9_odds wsX7_oddsOf := goodIn_r _ [20, 21, 22, 23, 24, 25, 26, 13, 27, 28, 29, 30, 31, 32, 33, 34, 5, 35, 36, 37, 38, 39, 40, 41, 42, 43, 44, 45, 46, 15, 47, 48, 49, 50, 51, 52, 53, 54, 55, 56, 57, 58, 59, 60, 61, 62, 63, 64, 65, 66, 67, 68, 69, 70, 71, 72, 73, 74, 75, 76, 19, 77, 78, 79, 80, 81, 82, 83, 84, 85, 86, 87, 88, 89, 90, 91, 92, 93, 94, 95, 96, 97, 98, 99, 100, 101, 102, 103, 104, 105, 106, 107, 108, 109, 110, 111, 112, 113, 114, 115, 116, 117, 118, 119, 120, 121, 122, 123, 124, 125, 126, 127, 128, 129, 130, 131, 132, 133, 134, 135, 136, 137, 138, 139, 140, 141, 142, 143, 144, 145, 146, 147, 148, 149, 150, 151, 152, 153, 154, 155, 156, 157, 158, 159, 160, 161, 162, 163, 164, 165, 166, 167, 168, 169, 170, 171, 172, 173, 174, 175, 176, 177, 178, 179, 180, 181, 182, 183, 184, 185, 186, 187, 188, 7, 8, 9, 195, 196, 197, 198, 199, 200, 201, 202, 203, 204, 205, 206, 207, 208, 209, 210, 211, 212] (by decide +kernel) (by decide +kernel)
set_option maxRecDepth 20000 in
theorem gX9_odds_X7_oddsOf : GoodIn wsX9_odds (wsV RX9 115 RX7 yX7_oddsOf wsX7_oddsOf) := goodIn_app (goodIn_of _ (by decide +kernel)) ggX9_odds_X7_oddsOf
theorem dX9_odds_0 : decode cX9_odds 0 = .ok (.iload_n 1, 1) := by decide +kernel
theorem dX9_odds_1 : decode cX9_odds 1 = .ok (.invokestatic 112, 3) := by decide +kernel
theorem dX9_odds_4 : decode cX9_odds 4 = .ok (.ifCond .eq 17, 3) := by decide +kernel
theorem dX9_odds_7 : decode cX9_odds 7 = .ok (.aload_n 0, 1) := by decide +kernel
theorem dX9_odds_8 : decode cX9_odds 8 = .ok (.getfield 10, 3) := by decide +kernel
theorem dX9_odds_11 : decode cX9_odds 11 = .ok (.getfield 68, 3) := by decide +kernel
theorem dX9_odds_14 : decode cX9_odds 14 = .ok (.iload_n 2, 1) := by decide +kernel
theorem dX9_odds_15 : decode cX9_odds 15 = .ok (.invokevirtual 81, 3) := by decide +kernel
theorem dX9_odds_18 : decode cX9_odds 18 = .ok (.ifCond .ne 5, 3) := by decide +kernel
theorem dX9_odds_21 : decode cX9_odds 21 = .ok (.iconst (-1), 1) := by decide +kernel
theorem dX9_odds_22 : decode cX9_odds 22 = .ok (.ireturn, 1) := by decide +kernel
theorem dX9_odds_23 : decode cX9_odds 23 = .ok (.aload_n 0, 1) := by decide +kernel
theorem dX9_odds_24 : decode cX9_odds 24 = .ok (.getfield 10, 3) := by decide +kernel
theorem dX9_odds_27 : decode cX9_odds 27 = .ok (.iload_n 1, 1) := by decide +kernel
theorem dX9_odds_28 : decode cX9_odds 28 = .ok (.iload_n 2, 1) := by decide +kernel
theorem dX9_odds_29 : decode cX9_odds 29 = .ok (.invokevirtual 115, 3) := by decide +kernel
theorem dX9_odds_32 : decode cX9_odds 32 = .ok (.ireturn, 1) := by decide +kernel
set_option maxRecDepth 20000 in
theorem ggX9_such_X0_has : GoodIn wsX9_such wsX0_has := goodIn_r _ [8, 9, 52, 53, 54, 55, 56, 57, 58, 59, 60] (by decide +kernel) (by decide +kernel)
set_option maxRecDepth 20000 in
theorem gX9_such_X0_has : GoodIn wsX9_such (wsV RX9 81 RX0 yX0_has wsX0_has) := goodIn_app (goodIn_of _ (by decide +kernel)) ggX9_such_X0_has
set_option maxRecDepth 20000 in
theorem ggX9_such_X9_within : GoodIn wsX9_such wsX9_within := goodIn_r _ [13] (by decide +kernel) (by decide +kernel)
set_option maxRecDepth 20000 in
theorem gX9_such_X9_within : GoodIn wsX9_such (va_wsS RX9 46 yX9_within wsX9_within) := goodIn_app (goodIn_of _ (by decide +kernel)) ggX9_such_X9_within
set_option maxRecDepth 20000 in
theorem ggX9_such_X0_countLike : GoodIn wsX9_such wsX0_countLike := goodIn_r _ [17, 9, 18, 19, 20, 7, 21, 22, 23, 12, 24, 25, 26, 27, 28, 29, 30, 31, 32, 33, 34, 35, 36, 37, 38, 52, 53, 54, 55, 56, 57, 58, 59, 60] (by decide +kernel) (by decide +kernel)
set_option maxRecDepth 20000 in
theorem gX9_such_X0_countLike : GoodIn wsX9_such (wsV RX9 121 RX0 yX0_countLike wsX0_countLike) := goodIn_app (goodIn_of _ (by decide +kernel)) ggX9_such_X0_countLike
theorem dX9_such_0 : decode cX9_such 0 = .ok (.aload_n 0, 1) := by decide +kernel
theorem dX9_such_1 : decode cX9_such 1 = .ok (.getfield 10, 3) := by decide +kernel
theorem dX9_such_4 : decode cX9_such 4 = .ok (.getfield 68, 3) := by decide +kernel
theorem dX9_such_7 : decode cX9_such 7 = .ok (.iload_n 1, 1) := by decide +kernel
theorem dX9_such_8 : decode cX9_such 8 = .ok (.invokevirtual 81, 3) := by decide +kernel
theorem dX9_such_11 : decode cX9_such 11 = .ok (.ifCond .ne 5, 3) := by decide +kernel
theorem dX9_such_14 : decode cX9_such 14 = .ok (.iconst (-1), 1) := by decide +kernel
theorem dX9_such_15 : decode cX9_such 15 = .ok (.ireturn, 1) := by decide +kernel
theorem dX9_such_16 : decode cX9_such 16 = .ok (.iload_n 2, 1) := by decide +kernel
theorem dX9_such_17 : decode cX9_such 17 = .ok (.iconst 0, 1) := by decide +kernel
theorem dX9_such_18 : decode cX9_such 18 = .ok (.iconst 1, 1) := by decide +kernel
theorem dX9_such_19 : decode cX9_such 19 = .ok (.invokestatic 46, 3) := by decide +kernel
theorem dX9_such_22 : decode cX9_such 22 = .ok (.ifCond .eq 25, 3) := by decide +kernel
theorem dX9_such_25 : decode cX9_such 25 = .ok (.aload_n 0, 1) := by decide +kernel
theorem dX9_such_26 : decode cX9_such 26 = .ok (.getfield 10, 3) := by decide +kernel
theorem dX9_such_29 : decode cX9_such 29 = .ok (.getfield 68, 3) := by decide +kernel
theorem dX9_such_32 : decode cX9_such 32 = .ok (.iload_n 1, 1) := by decide +kernel
theorem dX9_such_33 : decode cX9_such 33 = .ok (.aload_n 0, 1) := by decide +kernel
theorem dX9_such_34 : decode cX9_such 34 = .ok (.getfield 10, 3) := by decide +kernel
theorem dX9_such_37 : decode cX9_such 37 = .ok (.getfield 118, 3) := by decide +kernel
theorem dX9_such_40 : decode cX9_such 40 = .ok (.iload_n 2, 1) := by decide +kernel
theorem dX9_such_41 : decode cX9_such 41 = .ok (.invokevirtual 121, 3) := by decide +kernel
theorem dX9_such_44 : decode cX9_such 44 = .ok (.goto 5, 3) := by decide +kernel
theorem dX9_such_47 : decode cX9_such 47 = .ok (.bipush (-2), 2) := by decide +kernel
theorem dX9_such_49 : decode cX9_such 49 = .ok (.ireturn, 1) := by decide +kernel
set_option maxRecDepth 20000 in
theorem ggX9_wire_X0_has : GoodIn wsX9_wire wsX0_has := goodIn_r _ [7, 8, 39, 40, 41, 42, 43, 44, 45, 46, 47] (by decide +kernel) (by decide +kernel)
set_option maxRecDepth 20000 in
theorem gX9_wire_X0_has : GoodIn wsX9_wire (wsV RX9 81 RX0 yX0_has wsX0_has) := goodIn_app (goodIn_of _ (by decide +kernel)) ggX9_wire_X0_has
set_option maxRecDepth 20000 in
theorem ggX9_wire_X9_within : GoodIn wsX9_wire wsX9_within := goodIn_r _ [12] (by decide +kernel) (by decide +kernel)
set_option maxRecDepth 20000 in
theorem gX9_wire_X9_within : GoodIn wsX9_wire (va_wsS RX9 46 yX9_within wsX9_within) := goodIn_app (goodIn_of _ (by decide +kernel)) ggX9_wire_X9_within
set_option maxRecDepth 20000 in
theorem ggX9_wire_X0_hear : GoodIn wsX9_wire wsX0_hear := goodIn_r _ [16, 17, 18, 19, 20, 6, 21, 22, 11, 23, 24, 25, 39, 40, 41, 42, 43, 44, 45, 46, 47] (by decide +kernel) (by decide +kernel)
set_option maxRecDepth 20000 in
theorem gX9_wire_X0_hear : GoodIn wsX9_wire (wsV RX9 125 RX0 yX0_hear wsX0_hear) := goodIn_app (goodIn_of _ (by decide +kernel)) ggX9_wire_X0_hear
theorem dX9_wire_0 : decode cX9_wire 0 = .ok (.aload_n 0, 1) := by decide +kernel
theorem dX9_wire_1 : decode cX9_wire 1 = .ok (.getfield 10, 3) := by decide +kernel
theorem dX9_wire_4 : decode cX9_wire 4 = .ok (.getfield 68, 3) := by decide +kernel
theorem dX9_wire_7 : decode cX9_wire 7 = .ok (.iload_n 1, 1) := by decide +kernel
theorem dX9_wire_8 : decode cX9_wire 8 = .ok (.invokevirtual 81, 3) := by decide +kernel
theorem dX9_wire_11 : decode cX9_wire 11 = .ok (.ifCond .ne 5, 3) := by decide +kernel
theorem dX9_wire_14 : decode cX9_wire 14 = .ok (.iconst (-1), 1) := by decide +kernel
theorem dX9_wire_15 : decode cX9_wire 15 = .ok (.ireturn, 1) := by decide +kernel
theorem dX9_wire_16 : decode cX9_wire 16 = .ok (.iload_n 2, 1) := by decide +kernel
theorem dX9_wire_17 : decode cX9_wire 17 = .ok (.iconst (-1), 1) := by decide +kernel
theorem dX9_wire_18 : decode cX9_wire 18 = .ok (.sipush 1000, 3) := by decide +kernel
theorem dX9_wire_21 : decode cX9_wire 21 = .ok (.invokestatic 46, 3) := by decide +kernel
theorem dX9_wire_24 : decode cX9_wire 24 = .ok (.ifCond .eq 18, 3) := by decide +kernel
theorem dX9_wire_27 : decode cX9_wire 27 = .ok (.aload_n 0, 1) := by decide +kernel
theorem dX9_wire_28 : decode cX9_wire 28 = .ok (.getfield 10, 3) := by decide +kernel
theorem dX9_wire_31 : decode cX9_wire 31 = .ok (.getfield 68, 3) := by decide +kernel
theorem dX9_wire_34 : decode cX9_wire 34 = .ok (.iload_n 1, 1) := by decide +kernel
theorem dX9_wire_35 : decode cX9_wire 35 = .ok (.iload_n 2, 1) := by decide +kernel
theorem dX9_wire_36 : decode cX9_wire 36 = .ok (.invokevirtual 125, 3) := by decide +kernel
theorem dX9_wire_39 : decode cX9_wire 39 = .ok (.goto 5, 3) := by decide +kernel
theorem dX9_wire_42 : decode cX9_wire 42 = .ok (.bipush (-2), 2) := by decide +kernel
theorem dX9_wire_44 : decode cX9_wire 44 = .ok (.ireturn, 1) := by decide +kernel
set_option maxRecDepth 20000 in
theorem ggX9_set_X9_within : GoodIn wsX9_set wsX9_within := goodIn_r _ [8] (by decide +kernel) (by decide +kernel)
set_option maxRecDepth 20000 in
theorem gX9_set_X9_within : GoodIn wsX9_set (va_wsS RX9 46 yX9_within wsX9_within) := goodIn_app (goodIn_of _ (by decide +kernel)) ggX9_set_X9_within
theorem dX9_set_0 : decode cX9_set 0 = .ok (.bipush (-2), 2) := by decide +kernel
theorem dX9_set_2 : decode cX9_set 2 = .ok (.istore_n 3, 1) := by decide +kernel
theorem dX9_set_3 : decode cX9_set 3 = .ok (.iload_n 1, 1) := by decide +kernel
theorem dX9_set_4 : decode cX9_set 4 = .ok (.ifCond .ne 32, 3) := by decide +kernel
theorem dX9_set_7 : decode cX9_set 7 = .ok (.iload_n 2, 1) := by decide +kernel
theorem dX9_set_8 : decode cX9_set 8 = .ok (.iconst 0, 1) := by decide +kernel
theorem dX9_set_9 : decode cX9_set 9 = .ok (.bipush 63, 2) := by decide +kernel
theorem dX9_set_11 : decode cX9_set 11 = .ok (.invokestatic 46, 3) := by decide +kernel
theorem dX9_set_14 : decode cX9_set 14 = .ok (.ifCond .eq 22, 3) := by decide +kernel
theorem dX9_set_17 : decode cX9_set 17 = .ok (.aload_n 0, 1) := by decide +kernel
theorem dX9_set_18 : decode cX9_set 18 = .ok (.getfield 10, 3) := by decide +kernel
theorem dX9_set_21 : decode cX9_set 21 = .ok (.getfield 118, 3) := by decide +kernel
theorem dX9_set_24 : decode cX9_set 24 = .ok (.istore_n 3, 1) := by decide +kernel
theorem dX9_set_25 : decode cX9_set 25 = .ok (.aload_n 0, 1) := by decide +kernel
theorem dX9_set_26 : decode cX9_set 26 = .ok (.getfield 10, 3) := by decide +kernel
theorem dX9_set_29 : decode cX9_set 29 = .ok (.iload_n 2, 1) := by decide +kernel
theorem dX9_set_30 : decode cX9_set 30 = .ok (.putfield 118, 3) := by decide +kernel
theorem dX9_set_33 : decode cX9_set 33 = .ok (.goto 68, 3) := by decide +kernel
theorem dX9_set_36 : decode cX9_set 36 = .ok (.iload_n 1, 1) := by decide +kernel
theorem dX9_set_37 : decode cX9_set 37 = .ok (.iconst 1, 1) := by decide +kernel
theorem dX9_set_38 : decode cX9_set 38 = .ok (.if_icmp .ne 32, 3) := by decide +kernel
theorem dX9_set_41 : decode cX9_set 41 = .ok (.iload_n 2, 1) := by decide +kernel
theorem dX9_set_42 : decode cX9_set 42 = .ok (.iconst 0, 1) := by decide +kernel
theorem dX9_set_43 : decode cX9_set 43 = .ok (.bipush 10, 2) := by decide +kernel
theorem dX9_set_45 : decode cX9_set 45 = .ok (.invokestatic 46, 3) := by decide +kernel
theorem dX9_set_48 : decode cX9_set 48 = .ok (.ifCond .eq 22, 3) := by decide +kernel
theorem dX9_set_51 : decode cX9_set 51 = .ok (.aload_n 0, 1) := by decide +kernel
theorem dX9_set_52 : decode cX9_set 52 = .ok (.getfield 10, 3) := by decide +kernel
theorem dX9_set_55 : decode cX9_set 55 = .ok (.getfield 128, 3) := by decide +kernel
theorem dX9_set_58 : decode cX9_set 58 = .ok (.istore_n 3, 1) := by decide +kernel
theorem dX9_set_59 : decode cX9_set 59 = .ok (.aload_n 0, 1) := by decide +kernel
theorem dX9_set_60 : decode cX9_set 60 = .ok (.getfield 10, 3) := by decide +kernel
theorem dX9_set_63 : decode cX9_set 63 = .ok (.iload_n 2, 1) := by decide +kernel
theorem dX9_set_64 : decode cX9_set 64 = .ok (.putfield 128, 3) := by decide +kernel
theorem dX9_set_67 : decode cX9_set 67 = .ok (.goto 34, 3) := by decide +kernel
theorem dX9_set_70 : decode cX9_set 70 = .ok (.iload_n 1, 1) := by decide +kernel
theorem dX9_set_71 : decode cX9_set 71 = .ok (.iconst 2, 1) := by decide +kernel
theorem dX9_set_72 : decode cX9_set 72 = .ok (.if_icmp .ne 29, 3) := by decide +kernel
theorem dX9_set_75 : decode cX9_set 75 = .ok (.iload_n 2, 1) := by decide +kernel
theorem dX9_set_76 : decode cX9_set 76 = .ok (.iconst 0, 1) := by decide +kernel
theorem dX9_set_77 : decode cX9_set 77 = .ok (.bipush 20, 2) := by decide +kernel
theorem dX9_set_79 : decode cX9_set 79 = .ok (.invokestatic 46, 3) := by decide +kernel
theorem dX9_set_82 : decode cX9_set 82 = .ok (.ifCond .eq 19, 3) := by decide +kernel
theorem dX9_set_85 : decode cX9_set 85 = .ok (.aload_n 0, 1) := by decide +kernel
theorem dX9_set_86 : decode cX9_set 86 = .ok (.getfield 10, 3) := by decide +kernel
theorem dX9_set_89 : decode cX9_set 89 = .ok (.getfield 131, 3) := by decide +kernel
theorem dX9_set_92 : decode cX9_set 92 = .ok (.istore_n 3, 1) := by decide +kernel
theorem dX9_set_93 : decode cX9_set 93 = .ok (.aload_n 0, 1) := by decide +kernel
theorem dX9_set_94 : decode cX9_set 94 = .ok (.getfield 10, 3) := by decide +kernel
theorem dX9_set_97 : decode cX9_set 97 = .ok (.iload_n 2, 1) := by decide +kernel
theorem dX9_set_98 : decode cX9_set 98 = .ok (.putfield 131, 3) := by decide +kernel
theorem dX9_set_101 : decode cX9_set 101 = .ok (.iload_n 3, 1) := by decide +kernel
theorem dX9_set_102 : decode cX9_set 102 = .ok (.ireturn, 1) := by decide +kernel
set_option maxRecDepth 20000 in
theorem ggX9_score_X9_isTeller : GoodIn wsX9_score wsX9_isTeller := goodIn_r _ [9, 10, 11, 8, 12] (by decide +kernel) (by decide +kernel)
set_option maxRecDepth 20000 in
theorem gX9_score_X9_isTeller : GoodIn wsX9_score (va_wsS RX9 112 yX9_isTeller wsX9_isTeller) := goodIn_app (goodIn_of _ (by decide +kernel)) ggX9_score_X9_isTeller
set_option maxRecDepth 20000 in
theorem ggX9_score_X9_within : GoodIn wsX9_score wsX9_within := goodIn_r _ [12] (by decide +kernel) (by decide +kernel)
set_option maxRecDepth 20000 in
theorem gX9_score_X9_within : GoodIn wsX9_score (va_wsS RX9 46 yX9_within wsX9_within) := goodIn_app (goodIn_of _ (by decide +kernel)) ggX9_score_X9_within
set_option maxRecDepth 20000 in
theorem ggX9_score_X7_scoreTeller : GoodIn wsX9_score wsX7_scoreTeller := goodIn_r _ [17, 18, 19, 20, 21, 22, 23, 24, 25, 26, 27, 8, 28, 29, 30, 31, 16, 32, 33, 34, 35, 36, 37, 38, 39, 40, 41, 42, 43, 44, 45, 46, 47, 48, 49, 50, 51, 52, 53, 54, 55, 56, 57, 58, 59, 60, 61, 62, 63, 64, 65, 66, 67, 68, 69, 70, 71, 72, 73, 74, 75, 76, 77, 78, 79, 80, 81, 82, 83, 84, 85, 86, 87, 88, 89, 90, 91, 92, 93, 94, 95, 96, 97, 98, 99, 100, 101, 102, 103, 104, 105, 106, 107, 108, 109, 110, 111, 112, 113, 114, 115, 116, 117, 118, 119, 120, 121, 122, 123, 124, 125, 126, 127, 128, 129, 130, 131, 132, 133, 134, 135, 136, 137, 138, 139, 140, 141, 142, 143, 144, 145, 146, 147, 148, 149, 150, 151, 152, 153, 154, 155, 156, 157, 158, 159, 160, 161, 162, 163, 164, 165, 166, 167, 168, 169, 170, 171, 172, 173, 174, 175, 176, 177, 178, 179, 180, 181, 182, 183, 184, 185, 186, 187, 188, 189, 190, 191, 192, 193, 194, 195, 196, 197, 198, 199, 200, 201, 10, 11, 12, 202, 203, 204, 205, 206, 227, 228, 229, 230, 231, 232, 233, 234, 235, 236, 237, 238, 239, 240, 241, 242, 243, 244, 245, 246] (by decide +kernel) (by decide +kernel)
set_option maxRecDepth 20000 in
theorem gX9_score_X7_scoreTeller : GoodIn wsX9_score (wsV RX9 138 RX7 yX7_scoreTeller wsX7_scoreTeller) := goodIn_app (goodIn_of _ (by decide +kernel)) ggX9_score_X7_scoreTeller
set_option maxRecDepth 20000 in
theorem ggX9_score_X6_daysOf : GoodIn wsX9_score wsX6_daysOf := goodIn_r _ [210, 25, 46, 8, 47, 243, 244] (by decide +kernel) (by decide +kernel)
set_option maxRecDepth 20000 in
theorem gX9_score_X6_daysOf : GoodIn wsX9_score (wsV RX9 142 RX6 yX6_daysOf wsX6_daysOf) := goodIn_app (goodIn_of _ (by decide +kernel)) ggX9_score_X6_daysOf
set_option maxRecDepth 20000 in
theorem ggX9_score_X6_squaresOf : GoodIn wsX9_score wsX6_squaresOf := goodIn_r _ [214, 26, 46, 8, 47, 243, 244] (by decide +kernel) (by decide +kernel)
set_option maxRecDepth 20000 in
theorem gX9_score_X6_squaresOf : GoodIn wsX9_score (wsV RX9 145 RX6 yX6_squaresOf wsX6_squaresOf) := goodIn_app (goodIn_of _ (by decide +kernel)) ggX9_score_X6_squaresOf
set_option maxRecDepth 20000 in
theorem ggX9_score_X9_fraction : GoodIn wsX9_score wsX9_fraction := goodIn_r _ [217, 218, 219, 8, 220] (by decide +kernel) (by decide +kernel)
set_option maxRecDepth 20000 in
theorem gX9_score_X9_fraction : GoodIn wsX9_score (va_wsS RX9 148 yX9_fraction wsX9_fraction) := goodIn_app (goodIn_of _ (by decide +kernel)) ggX9_score_X9_fraction
theorem dX9_score_0 : decode cX9_score 0 = .ok (.iload_n 1, 1) := by decide +kernel
theorem dX9_score_1 : decode cX9_score 1 = .ok (.invokestatic 112, 3) := by decide +kernel
theorem dX9_score_4 : decode cX9_score 4 = .ok (.ifCond .ne 7, 3) := by decide +kernel
theorem dX9_score_7 : decode cX9_score 7 = .ok (.ldc2_w 134, 3) := by decide +kernel
theorem dX9_score_10 : decode cX9_score 10 = .ok (.lreturn, 1) := by decide +kernel
theorem dX9_score_11 : decode cX9_score 11 = .ok (.iload_n 2, 1) := by decide +kernel
theorem dX9_score_12 : decode cX9_score 12 = .ok (.iconst 0, 1) := by decide +kernel
theorem dX9_score_13 : decode cX9_score 13 = .ok (.iconst 1, 1) := by decide +kernel
theorem dX9_score_14 : decode cX9_score 14 = .ok (.invokestatic 46, 3) := by decide +kernel
theorem dX9_score_17 : decode cX9_score 17 = .ok (.ifCond .ne 7, 3) := by decide +kernel
theorem dX9_score_20 : decode cX9_score 20 = .ok (.ldc2_w 136, 3) := by decide +kernel
theorem dX9_score_23 : decode cX9_score 23 = .ok (.lreturn, 1) := by decide +kernel
theorem dX9_score_24 : decode cX9_score 24 = .ok (.aload_n 0, 1) := by decide +kernel
theorem dX9_score_25 : decode cX9_score 25 = .ok (.getfield 10, 3) := by decide +kernel
theorem dX9_score_28 : decode cX9_score 28 = .ok (.iload_n 1, 1) := by decide +kernel
theorem dX9_score_29 : decode cX9_score 29 = .ok (.aload_n 0, 1) := by decide +kernel
theorem dX9_score_30 : decode cX9_score 30 = .ok (.getfield 32, 3) := by decide +kernel
theorem dX9_score_33 : decode cX9_score 33 = .ok (.invokevirtual 138, 3) := by decide +kernel
theorem dX9_score_36 : decode cX9_score 36 = .ok (.aload_n 0, 1) := by decide +kernel
theorem dX9_score_37 : decode cX9_score 37 = .ok (.getfield 32, 3) := by decide +kernel
theorem dX9_score_40 : decode cX9_score 40 = .ok (.iconst 0, 1) := by decide +kernel
theorem dX9_score_41 : decode cX9_score 41 = .ok (.invokevirtual 142, 3) := by decide +kernel
theorem dX9_score_44 : decode cX9_score 44 = .ok (.ifCond .le 28, 3) := by decide +kernel
theorem dX9_score_47 : decode cX9_score 47 = .ok (.aload_n 0, 1) := by decide +kernel
theorem dX9_score_48 : decode cX9_score 48 = .ok (.getfield 32, 3) := by decide +kernel
theorem dX9_score_51 : decode cX9_score 51 = .ok (.iconst 0, 1) := by decide +kernel
theorem dX9_score_52 : decode cX9_score 52 = .ok (.invokevirtual 145, 3) := by decide +kernel
theorem dX9_score_55 : decode cX9_score 55 = .ok (.i2l, 1) := by decide +kernel
theorem dX9_score_56 : decode cX9_score 56 = .ok (.aload_n 0, 1) := by decide +kernel
theorem dX9_score_57 : decode cX9_score 57 = .ok (.getfield 32, 3) := by decide +kernel
theorem dX9_score_60 : decode cX9_score 60 = .ok (.iconst 0, 1) := by decide +kernel
theorem dX9_score_61 : decode cX9_score 61 = .ok (.invokevirtual 142, 3) := by decide +kernel
theorem dX9_score_64 : decode cX9_score 64 = .ok (.i2l, 1) := by decide +kernel
theorem dX9_score_65 : decode cX9_score 65 = .ok (.iload_n 2, 1) := by decide +kernel
theorem dX9_score_66 : decode cX9_score 66 = .ok (.invokestatic 148, 3) := by decide +kernel
theorem dX9_score_69 : decode cX9_score 69 = .ok (.goto 6, 3) := by decide +kernel
theorem dX9_score_72 : decode cX9_score 72 = .ok (.ldc2_w 152, 3) := by decide +kernel
theorem dX9_score_75 : decode cX9_score 75 = .ok (.lreturn, 1) := by decide +kernel
set_option maxRecDepth 20000 in
theorem ggX9_means_X9_isTeller : GoodIn wsX9_means wsX9_isTeller := goodIn_r _ [5, 6, 7, 4, 8] (by decide +kernel) (by decide +kernel)
set_option maxRecDepth 20000 in
theorem gX9_means_X9_isTeller : GoodIn wsX9_means (va_wsS RX9 112 yX9_isTeller wsX9_isTeller) := goodIn_app (goodIn_of _ (by decide +kernel)) ggX9_means_X9_isTeller
set_option maxRecDepth 20000 in
theorem ggX9_means_X9_within : GoodIn wsX9_means wsX9_within := goodIn_r _ [8] (by decide +kernel) (by decide +kernel)
set_option maxRecDepth 20000 in
theorem gX9_means_X9_within : GoodIn wsX9_means (va_wsS RX9 46 yX9_within wsX9_within) := goodIn_app (goodIn_of _ (by decide +kernel)) ggX9_means_X9_within
set_option maxRecDepth 20000 in
theorem ggX9_means_X7_countSaid : GoodIn wsX9_means wsX7_countSaid := goodIn_r _ [13, 14, 15, 16, 17, 18, 19, 20, 21, 22, 4, 23, 24, 25, 26, 12, 27, 28, 29, 30, 31, 32, 33, 34, 35, 36, 37, 38, 39, 40, 41, 42, 43, 44, 45, 46, 47, 48, 49, 50, 51, 52, 53, 54, 55, 56, 57, 58, 59, 60, 61, 62, 63, 64, 65, 66, 67, 68, 69, 70, 71, 72, 73, 74, 75, 76, 77, 78, 79, 80, 81, 82, 83, 84, 85, 86, 87, 88, 89, 90, 91, 92, 93, 94, 95, 96, 97, 98, 99, 100, 101, 102, 103, 104, 105, 106, 107, 108, 109, 110, 111, 112, 113, 114, 115, 116, 117, 118, 119, 120, 121, 122, 123, 124, 125, 126, 127, 128, 129, 130, 131, 132, 133, 134, 135, 136, 137, 138, 139, 140, 141, 142, 143, 144, 145, 146, 147, 148, 149, 150, 151, 152, 153, 154, 155, 156, 157, 158, 159, 160, 161, 162, 163, 164, 165, 166, 167, 168, 169, 170, 171, 172, 173, 174, 175, 176, 177, 178, 179, 180, 181, 182, 183, 184, 185, 186, 187, 188, 189, 6, 7, 8, 196, 197, 198, 199, 200, 201, 202, 203, 204, 205, 206, 207, 208, 209, 210, 211, 212, 213] (by decide +kernel) (by decide +kernel)
set_option maxRecDepth 20000 in
theorem gX9_means_X7_countSaid : GoodIn wsX9_means (wsV RX9 154 RX7 yX7_countSaid wsX7_countSaid) := goodIn_app (goodIn_of _ (by decide +kernel)) ggX9_means_X7_countSaid
theorem dX9_means_0 : decode cX9_means 0 = .ok (.iload_n 1, 1) := by decide +kernel
theorem dX9_means_1 : decode cX9_means 1 = .ok (.invokestatic 112, 3) := by decide +kernel
theorem dX9_means_4 : decode cX9_means 4 = .ok (.ifCond .ne 5, 3) := by decide +kernel
theorem dX9_means_7 : decode cX9_means 7 = .ok (.iconst (-1), 1) := by decide +kernel
theorem dX9_means_8 : decode cX9_means 8 = .ok (.ireturn, 1) := by decide +kernel
theorem dX9_means_9 : decode cX9_means 9 = .ok (.iload_n 2, 1) := by decide +kernel
theorem dX9_means_10 : decode cX9_means 10 = .ok (.ifCond .lt 25, 3) := by decide +kernel
theorem dX9_means_13 : decode cX9_means 13 = .ok (.iload_n 2, 1) := by decide +kernel
theorem dX9_means_14 : decode cX9_means 14 = .ok (.iload_n 3, 1) := by decide +kernel
theorem dX9_means_15 : decode cX9_means 15 = .ok (.if_icmp .gt 20, 3) := by decide +kernel
theorem dX9_means_18 : decode cX9_means 18 = .ok (.iload_n 3, 1) := by decide +kernel
theorem dX9_means_19 : decode cX9_means 19 = .ok (.sipush 1000, 3) := by decide +kernel
theorem dX9_means_22 : decode cX9_means 22 = .ok (.if_icmp .gt 13, 3) := by decide +kernel
theorem dX9_means_25 : decode cX9_means 25 = .ok (.iload 4, 2) := by decide +kernel
theorem dX9_means_27 : decode cX9_means 27 = .ok (.iconst 0, 1) := by decide +kernel
theorem dX9_means_28 : decode cX9_means 28 = .ok (.iconst 1, 1) := by decide +kernel
theorem dX9_means_29 : decode cX9_means 29 = .ok (.invokestatic 46, 3) := by decide +kernel
theorem dX9_means_32 : decode cX9_means 32 = .ok (.ifCond .ne 6, 3) := by decide +kernel
theorem dX9_means_35 : decode cX9_means 35 = .ok (.bipush (-2), 2) := by decide +kernel
theorem dX9_means_37 : decode cX9_means 37 = .ok (.ireturn, 1) := by decide +kernel
theorem dX9_means_38 : decode cX9_means 38 = .ok (.aload_n 0, 1) := by decide +kernel
theorem dX9_means_39 : decode cX9_means 39 = .ok (.getfield 10, 3) := by decide +kernel
theorem dX9_means_42 : decode cX9_means 42 = .ok (.iload_n 1, 1) := by decide +kernel
theorem dX9_means_43 : decode cX9_means 43 = .ok (.iload_n 2, 1) := by decide +kernel
theorem dX9_means_44 : decode cX9_means 44 = .ok (.iload_n 3, 1) := by decide +kernel
theorem dX9_means_45 : decode cX9_means 45 = .ok (.iload 4, 2) := by decide +kernel
theorem dX9_means_47 : decode cX9_means 47 = .ok (.invokevirtual 154, 3) := by decide +kernel
theorem dX9_means_50 : decode cX9_means 50 = .ok (.ireturn, 1) := by decide +kernel
set_option maxRecDepth 20000 in
theorem ggX9_best_X4_leastKeys : GoodIn wsX9_best wsX4_leastKeys := goodIn_r _ [9, 10, 11, 12, 13, 14, 15, 16, 17, 18, 19, 20, 21, 22, 23, 24, 25, 26, 8, 27, 28, 29, 30, 31, 32, 33, 34, 35, 36, 37, 38, 39, 40, 41, 42, 43, 44, 45, 46, 47, 48, 49, 50, 51, 52, 53, 54, 55, 56, 57, 58, 59, 60, 61, 62, 63, 64, 65, 66, 67, 68, 69, 70, 71, 72, 73, 74, 75, 76, 77, 123, 124, 125, 126, 127, 128, 129, 130, 131, 132, 133, 134, 135, 136] (by decide +kernel) (by decide +kernel)
set_option maxRecDepth 20000 in
theorem gX9_best_X4_leastKeys : GoodIn wsX9_best (wsV RX9 158 RX4 yX4_leastKeys wsX4_leastKeys) := goodIn_app (goodIn_of _ (by decide +kernel)) ggX9_best_X4_leastKeys
set_option maxRecDepth 20000 in
theorem ggX9_best_X7_scoreWeights : GoodIn wsX9_best wsX7_scoreWeights := goodIn_r _ [82, 83, 84, 85, 86, 15, 16, 17, 18, 19, 20, 21, 22, 23, 87, 88, 89, 31, 90, 91, 92, 93, 94, 95, 96, 29, 30, 32, 33, 34, 35, 97, 37, 38, 39, 40, 98, 42, 43, 44, 45, 49, 50, 99, 100, 101, 102, 103, 104, 105, 81, 106, 107, 108, 52, 53, 54, 116, 117, 118, 119, 120, 121, 122, 126, 127, 128, 129, 130, 131, 132, 133, 134, 135, 136] (by decide +kernel) (by decide +kernel)
set_option maxRecDepth 20000 in
theorem gX9_best_X7_scoreWeights : GoodIn wsX9_best (wsV RX9 162 RX7 yX7_scoreWeights wsX7_scoreWeights) := goodIn_app (goodIn_of _ (by decide +kernel)) ggX9_best_X7_scoreWeights
set_option maxRecDepth 20000 in
theorem ggX9_best_X6_least : GoodIn wsX9_best wsX6_least := goodIn_r _ [58, 19, 59, 60, 61, 17, 62, 34, 22, 35, 63, 64, 65, 66, 67, 68, 69, 70, 20, 71, 72, 73, 74, 75, 76, 77, 135, 136] (by decide +kernel) (by decide +kernel)
set_option maxRecDepth 20000 in
theorem gX9_best_X6_least : GoodIn wsX9_best (wsV RX9 166 RX6 yX6_least wsX6_least) := goodIn_app (goodIn_of _ (by decide +kernel)) ggX9_best_X6_least
theorem dX9_best_0 : decode cX9_best 0 = .ok (.iload_n 1, 1) := by decide +kernel
theorem dX9_best_1 : decode cX9_best 1 = .ok (.ifCond .ne 18, 3) := by decide +kernel
theorem dX9_best_4 : decode cX9_best 4 = .ok (.aload_n 0, 1) := by decide +kernel
theorem dX9_best_5 : decode cX9_best 5 = .ok (.getfield 42, 3) := by decide +kernel
theorem dX9_best_8 : decode cX9_best 8 = .ok (.aload_n 0, 1) := by decide +kernel
theorem dX9_best_9 : decode cX9_best 9 = .ok (.getfield 10, 3) := by decide +kernel
theorem dX9_best_12 : decode cX9_best 12 = .ok (.getfield 68, 3) := by decide +kernel
theorem dX9_best_15 : decode cX9_best 15 = .ok (.invokevirtual 158, 3) := by decide +kernel
theorem dX9_best_18 : decode cX9_best 18 = .ok (.ireturn, 1) := by decide +kernel
theorem dX9_best_19 : decode cX9_best 19 = .ok (.iload_n 1, 1) := by decide +kernel
theorem dX9_best_20 : decode cX9_best 20 = .ok (.iconst 1, 1) := by decide +kernel
theorem dX9_best_21 : decode cX9_best 21 = .ok (.if_icmp .ne 23, 3) := by decide +kernel
theorem dX9_best_24 : decode cX9_best 24 = .ok (.aload_n 0, 1) := by decide +kernel
theorem dX9_best_25 : decode cX9_best 25 = .ok (.getfield 10, 3) := by decide +kernel
theorem dX9_best_28 : decode cX9_best 28 = .ok (.aload_n 0, 1) := by decide +kernel
theorem dX9_best_29 : decode cX9_best 29 = .ok (.getfield 36, 3) := by decide +kernel
theorem dX9_best_32 : decode cX9_best 32 = .ok (.invokevirtual 162, 3) := by decide +kernel
theorem dX9_best_35 : decode cX9_best 35 = .ok (.aload_n 0, 1) := by decide +kernel
theorem dX9_best_36 : decode cX9_best 36 = .ok (.getfield 36, 3) := by decide +kernel
theorem dX9_best_39 : decode cX9_best 39 = .ok (.iconst 0, 1) := by decide +kernel
theorem dX9_best_40 : decode cX9_best 40 = .ok (.invokevirtual 166, 3) := by decide +kernel
theorem dX9_best_43 : decode cX9_best 43 = .ok (.ireturn, 1) := by decide +kernel
theorem dX9_best_44 : decode cX9_best 44 = .ok (.bipush (-2), 2) := by decide +kernel
theorem dX9_best_46 : decode cX9_best 46 = .ok (.ireturn, 1) := by decide +kernel
set_option maxRecDepth 20000 in
theorem ggX9_tried_X7_sayingAt : GoodIn wsX9_tried wsX7_sayingAt := goodIn_r _ [9, 10, 217, 218, 219, 220, 221, 222, 223] (by decide +kernel) (by decide +kernel)
set_option maxRecDepth 20000 in
theorem gX9_tried_X7_sayingAt : GoodIn wsX9_tried (wsV RX9 98 RX7 yX7_sayingAt wsX7_sayingAt) := goodIn_app (goodIn_of _ (by decide +kernel)) ggX9_tried_X7_sayingAt
set_option maxRecDepth 20000 in
theorem ggX9_tried_X9_within : GoodIn wsX9_tried wsX9_within := goodIn_r _ [14] (by decide +kernel) (by decide +kernel)
set_option maxRecDepth 20000 in
theorem gX9_tried_X9_within : GoodIn wsX9_tried (va_wsS RX9 46 yX9_within wsX9_within) := goodIn_app (goodIn_of _ (by decide +kernel)) ggX9_tried_X9_within
set_option maxRecDepth 20000 in
theorem ggX9_tried_X7_lotOfSaying : GoodIn wsX9_tried wsX7_lotOfSaying := goodIn_r _ [18, 19, 20, 21, 22, 23, 24, 25, 26, 27, 28, 29, 30, 31, 8, 32, 33, 34, 35, 36, 37, 38, 39, 40, 41, 42, 43, 44, 45, 46, 13, 47, 48, 49, 50, 51, 52, 53, 54, 55, 56, 57, 58, 59, 60, 61, 62, 63, 64, 65, 66, 67, 68, 69, 70, 71, 72, 73, 74, 75, 76, 77, 78, 79, 80, 81, 82, 83, 84, 85, 86, 87, 88, 89, 90, 91, 6, 7, 9, 10, 92, 93, 94, 95, 96, 97, 98, 99, 100, 101, 102, 103, 104, 105, 106, 107, 108, 109, 110, 111, 112, 113, 114, 115, 116, 117, 118, 119, 120, 121, 122, 123, 124, 125, 126, 127, 128, 129, 130, 131, 132, 133, 134, 135, 136, 137, 138, 139, 140, 141, 142, 143, 144, 145, 146, 147, 148, 149, 150, 151, 152, 153, 154, 155, 156, 157, 158, 159, 160, 161, 162, 163, 164, 165, 166, 167, 168, 169, 170, 171, 172, 173, 174, 175, 176, 177, 178, 179, 180, 181, 182, 183, 184, 185, 186, 187, 188, 189, 190, 191, 192, 193, 194, 195, 196, 197, 11, 12, 14, 198, 199, 200, 201, 202, 203, 204, 205, 206, 213, 214, 215, 216, 217, 218, 219, 220, 221, 222, 223, 224, 225, 226, 227, 228, 229, 230, 231, 232, 233, 234] (by decide +kernel) (by decide +kernel)
set_option maxRecDepth 20000 in
theorem gX9_tried_X7_lotOfSaying : GoodIn wsX9_tried (wsV RX9 170 RX7 yX7_lotOfSaying wsX7_lotOfSaying) := goodIn_app (goodIn_of _ (by decide +kernel)) ggX9_tried_X7_lotOfSaying
theorem dX9_tried_0 : decode cX9_tried 0 = .ok (.aload_n 0, 1) := by decide +kernel
theorem dX9_tried_1 : decode cX9_tried 1 = .ok (.getfield 10, 3) := by decide +kernel
theorem dX9_tried_4 : decode cX9_tried 4 = .ok (.iload_n 1, 1) := by decide +kernel
theorem dX9_tried_5 : decode cX9_tried 5 = .ok (.invokevirtual 98, 3) := by decide +kernel
theorem dX9_tried_8 : decode cX9_tried 8 = .ok (.ifnonnull 5, 3) := by decide +kernel
theorem dX9_tried_11 : decode cX9_tried 11 = .ok (.iconst (-1), 1) := by decide +kernel
theorem dX9_tried_12 : decode cX9_tried 12 = .ok (.ireturn, 1) := by decide +kernel
theorem dX9_tried_13 : decode cX9_tried 13 = .ok (.iload_n 2, 1) := by decide +kernel
theorem dX9_tried_14 : decode cX9_tried 14 = .ok (.iconst 0, 1) := by decide +kernel
theorem dX9_tried_15 : decode cX9_tried 15 = .ok (.iconst 2, 1) := by decide +kernel
theorem dX9_tried_16 : decode cX9_tried 16 = .ok (.invokestatic 46, 3) := by decide +kernel
theorem dX9_tried_19 : decode cX9_tried 19 = .ok (.ifCond .ne 6, 3) := by decide +kernel
theorem dX9_tried_22 : decode cX9_tried 22 = .ok (.bipush (-2), 2) := by decide +kernel
theorem dX9_tried_24 : decode cX9_tried 24 = .ok (.ireturn, 1) := by decide +kernel
theorem dX9_tried_25 : decode cX9_tried 25 = .ok (.aload_n 0, 1) := by decide +kernel
theorem dX9_tried_26 : decode cX9_tried 26 = .ok (.getfield 10, 3) := by decide +kernel
theorem dX9_tried_29 : decode cX9_tried 29 = .ok (.iload_n 1, 1) := by decide +kernel
theorem dX9_tried_30 : decode cX9_tried 30 = .ok (.invokevirtual 170, 3) := by decide +kernel
theorem dX9_tried_33 : decode cX9_tried 33 = .ok (.astore_n 3, 1) := by decide +kernel
theorem dX9_tried_34 : decode cX9_tried 34 = .ok (.iload_n 2, 1) := by decide +kernel
theorem dX9_tried_35 : decode cX9_tried 35 = .ok (.ifCond .ne 10, 3) := by decide +kernel
theorem dX9_tried_38 : decode cX9_tried 38 = .ok (.aload_n 3, 1) := by decide +kernel
theorem dX9_tried_39 : decode cX9_tried 39 = .ok (.getfield 174, 3) := by decide +kernel
theorem dX9_tried_42 : decode cX9_tried 42 = .ok (.goto 19, 3) := by decide +kernel
theorem dX9_tried_45 : decode cX9_tried 45 = .ok (.iload_n 2, 1) := by decide +kernel
theorem dX9_tried_46 : decode cX9_tried 46 = .ok (.iconst 1, 1) := by decide +kernel
theorem dX9_tried_47 : decode cX9_tried 47 = .ok (.if_icmp .ne 10, 3) := by decide +kernel
theorem dX9_tried_50 : decode cX9_tried 50 = .ok (.aload_n 3, 1) := by decide +kernel
theorem dX9_tried_51 : decode cX9_tried 51 = .ok (.getfield 179, 3) := by decide +kernel
theorem dX9_tried_54 : decode cX9_tried 54 = .ok (.goto 7, 3) := by decide +kernel
theorem dX9_tried_57 : decode cX9_tried 57 = .ok (.aload_n 3, 1) := by decide +kernel
theorem dX9_tried_58 : decode cX9_tried 58 = .ok (.getfield 182, 3) := by decide +kernel
theorem dX9_tried_61 : decode cX9_tried 61 = .ok (.ireturn, 1) := by decide +kernel
set_option maxRecDepth 20000 in
theorem ggX9_lot_X7_sayingAt : GoodIn wsX9_lot wsX7_sayingAt := goodIn_r _ [8, 9, 229, 230, 231, 232, 233, 234, 235] (by decide +kernel) (by decide +kernel)
set_option maxRecDepth 20000 in
theorem gX9_lot_X7_sayingAt : GoodIn wsX9_lot (wsV RX9 98 RX7 yX7_sayingAt wsX7_sayingAt) := goodIn_app (goodIn_of _ (by decide +kernel)) ggX9_lot_X7_sayingAt
set_option maxRecDepth 20000 in
theorem ggX9_lot_X9_within : GoodIn wsX9_lot wsX9_within := goodIn_r _ [13] (by decide +kernel) (by decide +kernel)
set_option maxRecDepth 20000 in
theorem gX9_lot_X9_within : GoodIn wsX9_lot (va_wsS RX9 46 yX9_within wsX9_within) := goodIn_app (goodIn_of _ (by decide +kernel)) ggX9_lot_X9_within
set_option maxRecDepth 20000 in
theorem ggX9_lot_X7_lotOfSaying : GoodIn wsX9_lot wsX7_lotOfSaying := goodIn_r _ [17, 18, 19, 20, 21, 22, 23, 24, 25, 26, 27, 28, 29, 30, 7, 31, 32, 33, 34, 35, 36, 37, 38, 39, 40, 41, 42, 43, 44, 45, 12, 46, 47, 48, 49, 50, 51, 52, 53, 54, 55, 56, 57, 58, 59, 60, 61, 62, 63, 64, 65, 66, 67, 68, 69, 70, 71, 72, 73, 74, 75, 76, 77, 78, 79, 80, 81, 82, 83, 84, 85, 86, 87, 88, 89, 90, 5, 6, 8, 9, 91, 92, 93, 94, 95, 96, 97, 98, 99, 100, 101, 102, 103, 104, 105, 106, 107, 108, 109, 110, 111, 112, 113, 114, 115, 116, 117, 118, 119, 120, 121, 122, 123, 124, 125, 126, 127, 128, 129, 130, 131, 132, 133, 134, 135, 136, 137, 138, 139, 140, 141, 142, 143, 144, 145, 146, 147, 148, 149, 150, 151, 152, 153, 154, 155, 156, 157, 158, 159, 160, 161, 162, 163, 164, 165, 166, 167, 168, 169, 170, 171, 172, 173, 174, 175, 176, 177, 178, 179, 180, 181, 182, 183, 184, 185, 186, 187, 188, 189, 190, 191, 192, 193, 194, 195, 196, 10, 11, 13, 197, 198, 199, 200, 201, 202, 203, 204, 205, 236, 237, 238, 239, 229, 230, 231, 232, 233, 234, 235, 240, 241, 242, 243, 244, 245, 246, 247, 248, 249, 250] (by decide +kernel) (by decide +kernel)
set_option maxRecDepth 20000 in
theorem gX9_lot_X7_lotOfSaying : GoodIn wsX9_lot (wsV RX9 170 RX7 yX7_lotOfSaying wsX7_lotOfSaying) := goodIn_app (goodIn_of _ (by decide +kernel)) ggX9_lot_X7_lotOfSaying
set_option maxRecDepth 20000 in
theorem ggX9_lot_X5_luckyWays : GoodIn wsX9_lot wsX5_luckyWays := goodIn_r _ [209, 205, 204, 203, 210, 134, 52, 135, 202, 211, 12, 212, 236, 237, 238, 239] (by decide +kernel) (by decide +kernel)
set_option maxRecDepth 20000 in
theorem gX9_lot_X5_luckyWays : GoodIn wsX9_lot (wsV RX9 185 RX5 yX5_luckyWays wsX5_luckyWays) := goodIn_app (goodIn_of _ (by decide +kernel)) ggX9_lot_X5_luckyWays
set_option maxRecDepth 20000 in
theorem ggX9_lot_X5_ways : GoodIn wsX9_lot wsX5_ways := goodIn_r _ [216, 202, 204, 211, 12, 212, 236, 237, 238, 239] (by decide +kernel) (by decide +kernel)
set_option maxRecDepth 20000 in
theorem gX9_lot_X5_ways : GoodIn wsX9_lot (wsV RX9 189 RX5 yX5_ways wsX5_ways) := goodIn_app (goodIn_of _ (by decide +kernel)) ggX9_lot_X5_ways
set_option maxRecDepth 20000 in
theorem ggX9_lot_X9_fraction : GoodIn wsX9_lot wsX9_fraction := goodIn_r _ [219, 220, 221, 12, 222] (by decide +kernel) (by decide +kernel)
set_option maxRecDepth 20000 in
theorem gX9_lot_X9_fraction : GoodIn wsX9_lot (va_wsS RX9 148 yX9_fraction wsX9_fraction) := goodIn_app (goodIn_of _ (by decide +kernel)) ggX9_lot_X9_fraction
theorem dX9_lot_0 : decode cX9_lot 0 = .ok (.aload_n 0, 1) := by decide +kernel
theorem dX9_lot_1 : decode cX9_lot 1 = .ok (.getfield 10, 3) := by decide +kernel
theorem dX9_lot_4 : decode cX9_lot 4 = .ok (.iload_n 1, 1) := by decide +kernel
theorem dX9_lot_5 : decode cX9_lot 5 = .ok (.invokevirtual 98, 3) := by decide +kernel
theorem dX9_lot_8 : decode cX9_lot 8 = .ok (.ifnonnull 7, 3) := by decide +kernel
theorem dX9_lot_11 : decode cX9_lot 11 = .ok (.ldc2_w 134, 3) := by decide +kernel
theorem dX9_lot_14 : decode cX9_lot 14 = .ok (.lreturn, 1) := by decide +kernel
theorem dX9_lot_15 : decode cX9_lot 15 = .ok (.iload_n 2, 1) := by decide +kernel
theorem dX9_lot_16 : decode cX9_lot 16 = .ok (.iconst 0, 1) := by decide +kernel
theorem dX9_lot_17 : decode cX9_lot 17 = .ok (.iconst 1, 1) := by decide +kernel
theorem dX9_lot_18 : decode cX9_lot 18 = .ok (.invokestatic 46, 3) := by decide +kernel
theorem dX9_lot_21 : decode cX9_lot 21 = .ok (.ifCond .ne 7, 3) := by decide +kernel
theorem dX9_lot_24 : decode cX9_lot 24 = .ok (.ldc2_w 136, 3) := by decide +kernel
theorem dX9_lot_27 : decode cX9_lot 27 = .ok (.lreturn, 1) := by decide +kernel
theorem dX9_lot_28 : decode cX9_lot 28 = .ok (.aload_n 0, 1) := by decide +kernel
theorem dX9_lot_29 : decode cX9_lot 29 = .ok (.getfield 10, 3) := by decide +kernel
theorem dX9_lot_32 : decode cX9_lot 32 = .ok (.iload_n 1, 1) := by decide +kernel
theorem dX9_lot_33 : decode cX9_lot 33 = .ok (.invokevirtual 170, 3) := by decide +kernel
theorem dX9_lot_36 : decode cX9_lot 36 = .ok (.astore_n 3, 1) := by decide +kernel
theorem dX9_lot_37 : decode cX9_lot 37 = .ok (.aload_n 3, 1) := by decide +kernel
theorem dX9_lot_38 : decode cX9_lot 38 = .ok (.invokevirtual 185, 3) := by decide +kernel
theorem dX9_lot_41 : decode cX9_lot 41 = .ok (.aload_n 3, 1) := by decide +kernel
theorem dX9_lot_42 : decode cX9_lot 42 = .ok (.invokevirtual 189, 3) := by decide +kernel
theorem dX9_lot_45 : decode cX9_lot 45 = .ok (.iload_n 2, 1) := by decide +kernel
theorem dX9_lot_46 : decode cX9_lot 46 = .ok (.invokestatic 148, 3) := by decide +kernel
theorem dX9_lot_49 : decode cX9_lot 49 = .ok (.lreturn, 1) := by decide +kernel
set_option maxRecDepth 20000 in
theorem ggX9_changed_X9_within : GoodIn wsX9_changed wsX9_within := goodIn_r _ [7] (by decide +kernel) (by decide +kernel)
set_option maxRecDepth 20000 in
theorem gX9_changed_X9_within : GoodIn wsX9_changed (va_wsS RX9 46 yX9_within wsX9_within) := goodIn_app (goodIn_of _ (by decide +kernel)) ggX9_changed_X9_within
set_option maxRecDepth 20000 in
theorem ggX9_changed_X0_lotFrom : GoodIn wsX9_changed wsX0_lotFrom := goodIn_r _ [12, 13, 14, 15, 16, 17, 18, 19, 20, 21, 22, 23, 6, 24, 25, 26, 27, 11, 28, 29, 30, 31, 32, 33, 34, 35, 36, 37, 71, 72, 73, 74, 75, 76, 77, 78, 79, 80, 81, 82, 83] (by decide +kernel) (by decide +kernel)
set_option maxRecDepth 20000 in
theorem gX9_changed_X0_lotFrom : GoodIn wsX9_changed (wsV RX9 192 RX0 yX0_lotFrom wsX0_lotFrom) := goodIn_app (goodIn_of _ (by decide +kernel)) ggX9_changed_X0_lotFrom
set_option maxRecDepth 20000 in
theorem ggX9_changed_X5_luckyWays : GoodIn wsX9_changed wsX5_luckyWays := goodIn_r _ [41, 37, 36, 35, 42, 43, 44, 45, 34, 46, 6, 47, 71, 72, 73, 74] (by decide +kernel) (by decide +kernel)
set_option maxRecDepth 20000 in
theorem gX9_changed_X5_luckyWays : GoodIn wsX9_changed (wsV RX9 185 RX5 yX5_luckyWays wsX5_luckyWays) := goodIn_app (goodIn_of _ (by decide +kernel)) ggX9_changed_X5_luckyWays
set_option maxRecDepth 20000 in
theorem ggX9_changed_X5_ways : GoodIn wsX9_changed wsX5_ways := goodIn_r _ [51, 34, 36, 46, 6, 47, 71, 72, 73, 74] (by decide +kernel) (by decide +kernel)
set_option maxRecDepth 20000 in
theorem gX9_changed_X5_ways : GoodIn wsX9_changed (wsV RX9 189 RX5 yX5_ways wsX5_ways) := goodIn_app (goodIn_of _ (by decide +kernel)) ggX9_changed_X5_ways
set_option maxRecDepth 20000 in
theorem ggX9_changed_X9_fraction : GoodIn wsX9_changed wsX9_fraction := goodIn_r _ [54, 55, 56, 6, 57] (by decide +kernel) (by decide +kernel)
set_option maxRecDepth 20000 in
theorem gX9_changed_X9_fraction : GoodIn wsX9_changed (va_wsS RX9 148 yX9_fraction wsX9_fraction) := goodIn_app (goodIn_of _ (by decide +kernel)) ggX9_changed_X9_fraction
theorem dX9_changed_0 : decode cX9_changed 0 = .ok (.iload_n 1, 1) := by decide +kernel
theorem dX9_changed_1 : decode cX9_changed 1 = .ok (.iconst 0, 1) := by decide +kernel
theorem dX9_changed_2 : decode cX9_changed 2 = .ok (.bipush 10, 2) := by decide +kernel
theorem dX9_changed_4 : decode cX9_changed 4 = .ok (.invokestatic 46, 3) := by decide +kernel
theorem dX9_changed_7 : decode cX9_changed 7 = .ok (.ifCond .eq 12, 3) := by decide +kernel
theorem dX9_changed_10 : decode cX9_changed 10 = .ok (.iload_n 2, 1) := by decide +kernel
theorem dX9_changed_11 : decode cX9_changed 11 = .ok (.iconst 0, 1) := by decide +kernel
theorem dX9_changed_12 : decode cX9_changed 12 = .ok (.iconst 1, 1) := by decide +kernel
theorem dX9_changed_13 : decode cX9_changed 13 = .ok (.invokestatic 46, 3) := by decide +kernel
theorem dX9_changed_16 : decode cX9_changed 16 = .ok (.ifCond .ne 7, 3) := by decide +kernel
theorem dX9_changed_19 : decode cX9_changed 19 = .ok (.ldc2_w 136, 3) := by decide +kernel
theorem dX9_changed_22 : decode cX9_changed 22 = .ok (.lreturn, 1) := by decide +kernel
theorem dX9_changed_23 : decode cX9_changed 23 = .ok (.aload_n 0, 1) := by decide +kernel
theorem dX9_changed_24 : decode cX9_changed 24 = .ok (.getfield 10, 3) := by decide +kernel
theorem dX9_changed_27 : decode cX9_changed 27 = .ok (.getfield 68, 3) := by decide +kernel
theorem dX9_changed_30 : decode cX9_changed 30 = .ok (.iload_n 1, 1) := by decide +kernel
theorem dX9_changed_31 : decode cX9_changed 31 = .ok (.invokevirtual 192, 3) := by decide +kernel
theorem dX9_changed_34 : decode cX9_changed 34 = .ok (.astore_n 3, 1) := by decide +kernel
theorem dX9_changed_35 : decode cX9_changed 35 = .ok (.aload_n 3, 1) := by decide +kernel
theorem dX9_changed_36 : decode cX9_changed 36 = .ok (.invokevirtual 185, 3) := by decide +kernel
theorem dX9_changed_39 : decode cX9_changed 39 = .ok (.aload_n 3, 1) := by decide +kernel
theorem dX9_changed_40 : decode cX9_changed 40 = .ok (.invokevirtual 189, 3) := by decide +kernel
theorem dX9_changed_43 : decode cX9_changed 43 = .ok (.iload_n 2, 1) := by decide +kernel
theorem dX9_changed_44 : decode cX9_changed 44 = .ok (.invokestatic 148, 3) := by decide +kernel
theorem dX9_changed_47 : decode cX9_changed 47 = .ok (.lreturn, 1) := by decide +kernel
set_option maxRecDepth 20000 in
theorem ggX9_engraved_X9_within : GoodIn wsX9_engraved wsX9_within := goodIn_r _ [6] (by decide +kernel) (by decide +kernel)
set_option maxRecDepth 20000 in
theorem gX9_engraved_X9_within : GoodIn wsX9_engraved (va_wsS RX9 46 yX9_within wsX9_within) := goodIn_app (goodIn_of _ (by decide +kernel)) ggX9_engraved_X9_within
set_option maxRecDepth 20000 in
theorem ggX9_engraved_X0_countRight : GoodIn wsX9_engraved wsX0_countRight := goodIn_r _ [11, 12, 13, 14, 5, 15, 16, 17, 10, 18, 19, 20, 21, 22, 23, 37, 38, 39, 40, 41, 42, 43, 44, 45] (by decide +kernel) (by decide +kernel)
set_option maxRecDepth 20000 in
theorem gX9_engraved_X0_countRight : GoodIn wsX9_engraved (wsV RX9 195 RX0 yX0_countRight wsX0_countRight) := goodIn_app (goodIn_of _ (by decide +kernel)) ggX9_engraved_X0_countRight
theorem dX9_engraved_0 : decode cX9_engraved 0 = .ok (.iload_n 1, 1) := by decide +kernel
theorem dX9_engraved_1 : decode cX9_engraved 1 = .ok (.iconst 0, 1) := by decide +kernel
theorem dX9_engraved_2 : decode cX9_engraved 2 = .ok (.iconst 1, 1) := by decide +kernel
theorem dX9_engraved_3 : decode cX9_engraved 3 = .ok (.invokestatic 46, 3) := by decide +kernel
theorem dX9_engraved_6 : decode cX9_engraved 6 = .ok (.ifCond .ne 6, 3) := by decide +kernel
theorem dX9_engraved_9 : decode cX9_engraved 9 = .ok (.bipush (-2), 2) := by decide +kernel
theorem dX9_engraved_11 : decode cX9_engraved 11 = .ok (.ireturn, 1) := by decide +kernel
theorem dX9_engraved_12 : decode cX9_engraved 12 = .ok (.iconst 0, 1) := by decide +kernel
theorem dX9_engraved_13 : decode cX9_engraved 13 = .ok (.istore_n 2, 1) := by decide +kernel
theorem dX9_engraved_14 : decode cX9_engraved 14 = .ok (.aload_n 0, 1) := by decide +kernel
theorem dX9_engraved_15 : decode cX9_engraved 15 = .ok (.getfield 10, 3) := by decide +kernel
theorem dX9_engraved_18 : decode cX9_engraved 18 = .ok (.getfield 68, 3) := by decide +kernel
theorem dX9_engraved_21 : decode cX9_engraved 21 = .ok (.iconst 0, 1) := by decide +kernel
theorem dX9_engraved_22 : decode cX9_engraved 22 = .ok (.invokevirtual 195, 3) := by decide +kernel
theorem dX9_engraved_25 : decode cX9_engraved 25 = .ok (.istore_n 3, 1) := by decide +kernel
theorem dX9_engraved_26 : decode cX9_engraved 26 = .ok (.iconst 1, 1) := by decide +kernel
theorem dX9_engraved_27 : decode cX9_engraved 27 = .ok (.istore 4, 2) := by decide +kernel
theorem dX9_engraved_29 : decode cX9_engraved 29 = .ok (.iload 4, 2) := by decide +kernel
theorem dX9_engraved_31 : decode cX9_engraved 31 = .ok (.bipush 40, 2) := by decide +kernel
theorem dX9_engraved_33 : decode cX9_engraved 33 = .ok (.if_icmp .gt 35, 3) := by decide +kernel
theorem dX9_engraved_36 : decode cX9_engraved 36 = .ok (.aload_n 0, 1) := by decide +kernel
theorem dX9_engraved_37 : decode cX9_engraved 37 = .ok (.getfield 10, 3) := by decide +kernel
theorem dX9_engraved_40 : decode cX9_engraved 40 = .ok (.getfield 68, 3) := by decide +kernel
theorem dX9_engraved_43 : decode cX9_engraved 43 = .ok (.iload 4, 2) := by decide +kernel
theorem dX9_engraved_45 : decode cX9_engraved 45 = .ok (.invokevirtual 195, 3) := by decide +kernel
theorem dX9_engraved_48 : decode cX9_engraved 48 = .ok (.istore 5, 2) := by decide +kernel
theorem dX9_engraved_50 : decode cX9_engraved 50 = .ok (.iload 5, 2) := by decide +kernel
theorem dX9_engraved_52 : decode cX9_engraved 52 = .ok (.iload_n 3, 1) := by decide +kernel
theorem dX9_engraved_53 : decode cX9_engraved 53 = .ok (.if_icmp .le 9, 3) := by decide +kernel
theorem dX9_engraved_56 : decode cX9_engraved 56 = .ok (.iload 5, 2) := by decide +kernel
theorem dX9_engraved_58 : decode cX9_engraved 58 = .ok (.istore_n 3, 1) := by decide +kernel
theorem dX9_engraved_59 : decode cX9_engraved 59 = .ok (.iload 4, 2) := by decide +kernel
theorem dX9_engraved_61 : decode cX9_engraved 61 = .ok (.istore_n 2, 1) := by decide +kernel
theorem dX9_engraved_62 : decode cX9_engraved 62 = .ok (.iinc 4 1, 3) := by decide +kernel
theorem dX9_engraved_65 : decode cX9_engraved 65 = .ok (.goto (-36), 3) := by decide +kernel
theorem dX9_engraved_68 : decode cX9_engraved 68 = .ok (.iload_n 1, 1) := by decide +kernel
theorem dX9_engraved_69 : decode cX9_engraved 69 = .ok (.ifCond .ne 7, 3) := by decide +kernel
theorem dX9_engraved_72 : decode cX9_engraved 72 = .ok (.iload_n 2, 1) := by decide +kernel
theorem dX9_engraved_73 : decode cX9_engraved 73 = .ok (.goto 4, 3) := by decide +kernel
theorem dX9_engraved_76 : decode cX9_engraved 76 = .ok (.iload_n 3, 1) := by decide +kernel
theorem dX9_engraved_77 : decode cX9_engraved 77 = .ok (.ireturn, 1) := by decide +kernel
set_option maxRecDepth 20000 in
theorem ggX9_right_X9_within : GoodIn wsX9_right wsX9_within := goodIn_r _ [6] (by decide +kernel) (by decide +kernel)
set_option maxRecDepth 20000 in
theorem gX9_right_X9_within : GoodIn wsX9_right (va_wsS RX9 46 yX9_within wsX9_within) := goodIn_app (goodIn_of _ (by decide +kernel)) ggX9_right_X9_within
set_option maxRecDepth 20000 in
theorem ggX9_right_X0_countRight : GoodIn wsX9_right wsX0_countRight := goodIn_r _ [11, 12, 13, 14, 5, 15, 16, 17, 10, 18, 19, 20, 21, 22, 23, 37, 38, 39, 40, 41, 42, 43, 44, 45] (by decide +kernel) (by decide +kernel)
set_option maxRecDepth 20000 in
theorem gX9_right_X0_countRight : GoodIn wsX9_right (wsV RX9 195 RX0 yX0_countRight wsX0_countRight) := goodIn_app (goodIn_of _ (by decide +kernel)) ggX9_right_X0_countRight
theorem dX9_right_0 : decode cX9_right 0 = .ok (.iload_n 1, 1) := by decide +kernel
theorem dX9_right_1 : decode cX9_right 1 = .ok (.iconst 0, 1) := by decide +kernel
theorem dX9_right_2 : decode cX9_right 2 = .ok (.bipush 40, 2) := by decide +kernel
theorem dX9_right_4 : decode cX9_right 4 = .ok (.invokestatic 46, 3) := by decide +kernel
theorem dX9_right_7 : decode cX9_right 7 = .ok (.ifCond .eq 17, 3) := by decide +kernel
theorem dX9_right_10 : decode cX9_right 10 = .ok (.aload_n 0, 1) := by decide +kernel
theorem dX9_right_11 : decode cX9_right 11 = .ok (.getfield 10, 3) := by decide +kernel
theorem dX9_right_14 : decode cX9_right 14 = .ok (.getfield 68, 3) := by decide +kernel
theorem dX9_right_17 : decode cX9_right 17 = .ok (.iload_n 1, 1) := by decide +kernel
theorem dX9_right_18 : decode cX9_right 18 = .ok (.invokevirtual 195, 3) := by decide +kernel
theorem dX9_right_21 : decode cX9_right 21 = .ok (.goto 5, 3) := by decide +kernel
theorem dX9_right_24 : decode cX9_right 24 = .ok (.bipush (-2), 2) := by decide +kernel
theorem dX9_right_26 : decode cX9_right 26 = .ok (.ireturn, 1) := by decide +kernel
set_option maxRecDepth 20000 in
theorem ggX9_glass_X9_within : GoodIn wsX9_glass wsX9_within := goodIn_r _ [6] (by decide +kernel) (by decide +kernel)
set_option maxRecDepth 20000 in
theorem gX9_glass_X9_within : GoodIn wsX9_glass (va_wsS RX9 46 yX9_within wsX9_within) := goodIn_app (goodIn_of _ (by decide +kernel)) ggX9_glass_X9_within
set_option maxRecDepth 20000 in
theorem ggX9_glass_X9_isPlace : GoodIn wsX9_glass wsX9_isPlace := goodIn_r _ [9, 3, 4, 5, 6] (by decide +kernel) (by decide +kernel)
set_option maxRecDepth 20000 in
theorem gX9_glass_X9_isPlace : GoodIn wsX9_glass (va_wsS RX9 198 yX9_isPlace wsX9_isPlace) := goodIn_app (goodIn_of _ (by decide +kernel)) ggX9_glass_X9_isPlace
set_option maxRecDepth 20000 in
theorem ggX9_glass_X2_add : GoodIn wsX9_glass wsX2_add := goodIn_r _ [14, 15, 16, 17, 18, 19, 20, 5, 21, 35, 36, 37, 38, 39] (by decide +kernel) (by decide +kernel)
set_option maxRecDepth 20000 in
theorem gX9_glass_X2_add : GoodIn wsX9_glass (wsV RX9 206 RX2 yX2_add wsX2_add) := goodIn_app (goodIn_of _ (by decide +kernel)) ggX9_glass_X2_add
theorem dX9_glass_0 : decode cX9_glass 0 = .ok (.iload_n 3, 1) := by decide +kernel
theorem dX9_glass_1 : decode cX9_glass 1 = .ok (.iconst 0, 1) := by decide +kernel
theorem dX9_glass_2 : decode cX9_glass 2 = .ok (.bipush 99, 2) := by decide +kernel
theorem dX9_glass_4 : decode cX9_glass 4 = .ok (.invokestatic 46, 3) := by decide +kernel
theorem dX9_glass_7 : decode cX9_glass 7 = .ok (.ifCond .eq 18, 3) := by decide +kernel
theorem dX9_glass_10 : decode cX9_glass 10 = .ok (.iload 4, 2) := by decide +kernel
theorem dX9_glass_12 : decode cX9_glass 12 = .ok (.iconst 0, 1) := by decide +kernel
theorem dX9_glass_13 : decode cX9_glass 13 = .ok (.bipush 7, 2) := by decide +kernel
theorem dX9_glass_15 : decode cX9_glass 15 = .ok (.invokestatic 46, 3) := by decide +kernel
theorem dX9_glass_18 : decode cX9_glass 18 = .ok (.ifCond .eq 7, 3) := by decide +kernel
theorem dX9_glass_21 : decode cX9_glass 21 = .ok (.iconst 1, 1) := by decide +kernel
theorem dX9_glass_22 : decode cX9_glass 22 = .ok (.goto 4, 3) := by decide +kernel
theorem dX9_glass_25 : decode cX9_glass 25 = .ok (.iconst 0, 1) := by decide +kernel
theorem dX9_glass_26 : decode cX9_glass 26 = .ok (.istore 5, 2) := by decide +kernel
theorem dX9_glass_28 : decode cX9_glass 28 = .ok (.iload_n 1, 1) := by decide +kernel
theorem dX9_glass_29 : decode cX9_glass 29 = .ok (.iload_n 2, 1) := by decide +kernel
theorem dX9_glass_30 : decode cX9_glass 30 = .ok (.invokestatic 198, 3) := by decide +kernel
theorem dX9_glass_33 : decode cX9_glass 33 = .ok (.ifCond .eq 26, 3) := by decide +kernel
theorem dX9_glass_36 : decode cX9_glass 36 = .ok (.iload 5, 2) := by decide +kernel
theorem dX9_glass_38 : decode cX9_glass 38 = .ok (.ifCond .eq 21, 3) := by decide +kernel
theorem dX9_glass_41 : decode cX9_glass 41 = .ok (.aload_n 0, 1) := by decide +kernel
theorem dX9_glass_42 : decode cX9_glass 42 = .ok (.getfield 10, 3) := by decide +kernel
theorem dX9_glass_45 : decode cX9_glass 45 = .ok (.getfield 202, 3) := by decide +kernel
theorem dX9_glass_48 : decode cX9_glass 48 = .ok (.iload_n 1, 1) := by decide +kernel
theorem dX9_glass_49 : decode cX9_glass 49 = .ok (.iload_n 2, 1) := by decide +kernel
theorem dX9_glass_50 : decode cX9_glass 50 = .ok (.iload_n 3, 1) := by decide +kernel
theorem dX9_glass_51 : decode cX9_glass 51 = .ok (.iload 4, 2) := by decide +kernel
theorem dX9_glass_53 : decode cX9_glass 53 = .ok (.invokevirtual 206, 3) := by decide +kernel
theorem dX9_glass_56 : decode cX9_glass 56 = .ok (.goto 5, 3) := by decide +kernel
theorem dX9_glass_59 : decode cX9_glass 59 = .ok (.bipush (-2), 2) := by decide +kernel
theorem dX9_glass_61 : decode cX9_glass 61 = .ok (.ireturn, 1) := by decide +kernel
set_option maxRecDepth 20000 in
theorem ggX9_clear_X2_erase : GoodIn wsX9_clear wsX2_erase := goodIn_r _ [7, 8, 22, 23, 24, 25, 26] (by decide +kernel) (by decide +kernel)
set_option maxRecDepth 20000 in
theorem gX9_clear_X2_erase : GoodIn wsX9_clear (wsV RX9 210 RX2 yX2_erase wsX2_erase) := goodIn_app (goodIn_of _ (by decide +kernel)) ggX9_clear_X2_erase
theorem dX9_clear_0 : decode cX9_clear 0 = .ok (.aload_n 0, 1) := by decide +kernel
theorem dX9_clear_1 : decode cX9_clear 1 = .ok (.getfield 10, 3) := by decide +kernel
theorem dX9_clear_4 : decode cX9_clear 4 = .ok (.getfield 202, 3) := by decide +kernel
theorem dX9_clear_7 : decode cX9_clear 7 = .ok (.invokevirtual 210, 3) := by decide +kernel
theorem dX9_clear_10 : decode cX9_clear 10 = .ok (.ireturn, 1) := by decide +kernel
set_option maxRecDepth 20000 in
theorem ggX9_may_X2_allWays : GoodIn wsX9_may wsX2_allWays := goodIn_r _ [8, 9, 10, 11, 7, 12, 13, 14, 15, 16, 17, 18, 19, 20, 21, 22, 23, 24, 25, 26, 27, 28, 29, 30, 31, 32, 33, 34, 35, 36, 37, 38, 59, 60, 61, 62, 63] (by decide +kernel) (by decide +kernel)
set_option maxRecDepth 20000 in
theorem gX9_may_X2_allWays : GoodIn wsX9_may (wsV RX9 211 RX2 yX2_allWays wsX2_allWays) := goodIn_app (goodIn_of _ (by decide +kernel)) ggX9_may_X2_allWays
set_option maxRecDepth 20000 in
theorem ggX9_may_X9_isPlace : GoodIn wsX9_may wsX9_isPlace := goodIn_r _ [41, 42, 43, 30, 44] (by decide +kernel) (by decide +kernel)
set_option maxRecDepth 20000 in
theorem gX9_may_X9_isPlace : GoodIn wsX9_may (va_wsS RX9 198 yX9_isPlace wsX9_isPlace) := goodIn_app (goodIn_of _ (by decide +kernel)) ggX9_may_X9_isPlace
set_option maxRecDepth 20000 in
theorem ggX9_may_X2_waysAt : GoodIn wsX9_may wsX2_waysAt := goodIn_r _ [12, 13, 14, 15, 7, 16, 17, 18, 19, 20, 21, 22, 23, 24, 25, 26, 27, 28, 29, 30, 31, 32, 33, 34, 35, 36, 37, 38, 59, 60, 61, 62, 63] (by decide +kernel) (by decide +kernel)
set_option maxRecDepth 20000 in
theorem gX9_may_X2_waysAt : GoodIn wsX9_may (wsV RX9 214 RX2 yX2_waysAt wsX2_waysAt) := goodIn_app (goodIn_of _ (by decide +kernel)) ggX9_may_X2_waysAt
theorem dX9_may_0 : decode cX9_may 0 = .ok (.iload_n 1, 1) := by decide +kernel
theorem dX9_may_1 : decode cX9_may 1 = .ok (.iconst (-1), 1) := by decide +kernel
theorem dX9_may_2 : decode cX9_may 2 = .ok (.if_icmp .ne 21, 3) := by decide +kernel
theorem dX9_may_5 : decode cX9_may 5 = .ok (.aload_n 0, 1) := by decide +kernel
theorem dX9_may_6 : decode cX9_may 6 = .ok (.getfield 10, 3) := by decide +kernel
theorem dX9_may_9 : decode cX9_may 9 = .ok (.getfield 202, 3) := by decide +kernel
theorem dX9_may_12 : decode cX9_may 12 = .ok (.aload_n 0, 1) := by decide +kernel
theorem dX9_may_13 : decode cX9_may 13 = .ok (.getfield 10, 3) := by decide +kernel
theorem dX9_may_16 : decode cX9_may 16 = .ok (.getfield 131, 3) := by decide +kernel
theorem dX9_may_19 : decode cX9_may 19 = .ok (.invokevirtual 211, 3) := by decide +kernel
theorem dX9_may_22 : decode cX9_may 22 = .ok (.ireturn, 1) := by decide +kernel
theorem dX9_may_23 : decode cX9_may 23 = .ok (.iload_n 1, 1) := by decide +kernel
theorem dX9_may_24 : decode cX9_may 24 = .ok (.iload_n 2, 1) := by decide +kernel
theorem dX9_may_25 : decode cX9_may 25 = .ok (.invokestatic 198, 3) := by decide +kernel
theorem dX9_may_28 : decode cX9_may 28 = .ok (.ifCond .eq 25, 3) := by decide +kernel
theorem dX9_may_31 : decode cX9_may 31 = .ok (.aload_n 0, 1) := by decide +kernel
theorem dX9_may_32 : decode cX9_may 32 = .ok (.getfield 10, 3) := by decide +kernel
theorem dX9_may_35 : decode cX9_may 35 = .ok (.getfield 202, 3) := by decide +kernel
theorem dX9_may_38 : decode cX9_may 38 = .ok (.iload_n 1, 1) := by decide +kernel
theorem dX9_may_39 : decode cX9_may 39 = .ok (.iload_n 2, 1) := by decide +kernel
theorem dX9_may_40 : decode cX9_may 40 = .ok (.aload_n 0, 1) := by decide +kernel
theorem dX9_may_41 : decode cX9_may 41 = .ok (.getfield 10, 3) := by decide +kernel
theorem dX9_may_44 : decode cX9_may 44 = .ok (.getfield 131, 3) := by decide +kernel
theorem dX9_may_47 : decode cX9_may 47 = .ok (.invokevirtual 214, 3) := by decide +kernel
theorem dX9_may_50 : decode cX9_may 50 = .ok (.goto 5, 3) := by decide +kernel
theorem dX9_may_53 : decode cX9_may 53 = .ok (.bipush (-2), 2) := by decide +kernel
theorem dX9_may_55 : decode cX9_may 55 = .ok (.ireturn, 1) := by decide +kernel
set_option maxRecDepth 20000 in
theorem ggX9_low_X9_isPlace : GoodIn wsX9_low wsX9_isPlace := goodIn_r _ [9, 10, 11, 8, 12] (by decide +kernel) (by decide +kernel)
set_option maxRecDepth 20000 in
theorem gX9_low_X9_isPlace : GoodIn wsX9_low (va_wsS RX9 198 yX9_isPlace wsX9_isPlace) := goodIn_app (goodIn_of _ (by decide +kernel)) ggX9_low_X9_isPlace
set_option maxRecDepth 20000 in
theorem ggX9_low_X9_within : GoodIn wsX9_low wsX9_within := goodIn_r _ [12] (by decide +kernel) (by decide +kernel)
set_option maxRecDepth 20000 in
theorem gX9_low_X9_within : GoodIn wsX9_low (va_wsS RX9 46 yX9_within wsX9_within) := goodIn_app (goodIn_of _ (by decide +kernel)) ggX9_low_X9_within
set_option maxRecDepth 20000 in
theorem ggX9_low_X2_allWays : GoodIn wsX9_low wsX2_allWays := goodIn_r _ [17, 18, 19, 20, 16, 21, 22, 23, 24, 25, 26, 27, 28, 29, 30, 31, 32, 33, 34, 35, 36, 37, 38, 8, 39, 40, 41, 42, 43, 44, 45, 46, 67, 68, 69, 70, 71] (by decide +kernel) (by decide +kernel)
set_option maxRecDepth 20000 in
theorem gX9_low_X2_allWays : GoodIn wsX9_low (wsV RX9 211 RX2 yX2_allWays wsX2_allWays) := goodIn_app (goodIn_of _ (by decide +kernel)) ggX9_low_X2_allWays
set_option maxRecDepth 20000 in
theorem ggX9_low_X2_waysAt : GoodIn wsX9_low wsX2_waysAt := goodIn_r _ [21, 22, 23, 24, 16, 25, 26, 27, 28, 29, 30, 31, 32, 33, 34, 35, 36, 37, 38, 8, 39, 40, 41, 42, 43, 44, 45, 46, 67, 68, 69, 70, 71] (by decide +kernel) (by decide +kernel)
set_option maxRecDepth 20000 in
theorem gX9_low_X2_waysAt : GoodIn wsX9_low (wsV RX9 214 RX2 yX2_waysAt wsX2_waysAt) := goodIn_app (goodIn_of _ (by decide +kernel)) ggX9_low_X2_waysAt
set_option maxRecDepth 20000 in
theorem ggX9_low_X9_fraction : GoodIn wsX9_low wsX9_fraction := goodIn_r _ [50, 51, 52, 8, 53] (by decide +kernel) (by decide +kernel)
set_option maxRecDepth 20000 in
theorem gX9_low_X9_fraction : GoodIn wsX9_low (va_wsS RX9 148 yX9_fraction wsX9_fraction) := goodIn_app (goodIn_of _ (by decide +kernel)) ggX9_low_X9_fraction
theorem dX9_low_0 : decode cX9_low 0 = .ok (.iload_n 1, 1) := by decide +kernel
theorem dX9_low_1 : decode cX9_low 1 = .ok (.iload_n 2, 1) := by decide +kernel
theorem dX9_low_2 : decode cX9_low 2 = .ok (.invokestatic 198, 3) := by decide +kernel
theorem dX9_low_5 : decode cX9_low 5 = .ok (.ifCond .eq 12, 3) := by decide +kernel
theorem dX9_low_8 : decode cX9_low 8 = .ok (.iload_n 3, 1) := by decide +kernel
theorem dX9_low_9 : decode cX9_low 9 = .ok (.iconst 0, 1) := by decide +kernel
theorem dX9_low_10 : decode cX9_low 10 = .ok (.iconst 1, 1) := by decide +kernel
theorem dX9_low_11 : decode cX9_low 11 = .ok (.invokestatic 46, 3) := by decide +kernel
theorem dX9_low_14 : decode cX9_low 14 = .ok (.ifCond .ne 7, 3) := by decide +kernel
theorem dX9_low_17 : decode cX9_low 17 = .ok (.ldc2_w 136, 3) := by decide +kernel
theorem dX9_low_20 : decode cX9_low 20 = .ok (.lreturn, 1) := by decide +kernel
theorem dX9_low_21 : decode cX9_low 21 = .ok (.aload_n 0, 1) := by decide +kernel
theorem dX9_low_22 : decode cX9_low 22 = .ok (.getfield 10, 3) := by decide +kernel
theorem dX9_low_25 : decode cX9_low 25 = .ok (.getfield 202, 3) := by decide +kernel
theorem dX9_low_28 : decode cX9_low 28 = .ok (.aload_n 0, 1) := by decide +kernel
theorem dX9_low_29 : decode cX9_low 29 = .ok (.getfield 10, 3) := by decide +kernel
theorem dX9_low_32 : decode cX9_low 32 = .ok (.getfield 131, 3) := by decide +kernel
theorem dX9_low_35 : decode cX9_low 35 = .ok (.invokevirtual 211, 3) := by decide +kernel
theorem dX9_low_38 : decode cX9_low 38 = .ok (.istore 4, 2) := by decide +kernel
theorem dX9_low_40 : decode cX9_low 40 = .ok (.iload 4, 2) := by decide +kernel
theorem dX9_low_42 : decode cX9_low 42 = .ok (.ifCond .le 33, 3) := by decide +kernel
theorem dX9_low_45 : decode cX9_low 45 = .ok (.aload_n 0, 1) := by decide +kernel
theorem dX9_low_46 : decode cX9_low 46 = .ok (.getfield 10, 3) := by decide +kernel
theorem dX9_low_49 : decode cX9_low 49 = .ok (.getfield 202, 3) := by decide +kernel
theorem dX9_low_52 : decode cX9_low 52 = .ok (.iload_n 1, 1) := by decide +kernel
theorem dX9_low_53 : decode cX9_low 53 = .ok (.iload_n 2, 1) := by decide +kernel
theorem dX9_low_54 : decode cX9_low 54 = .ok (.aload_n 0, 1) := by decide +kernel
theorem dX9_low_55 : decode cX9_low 55 = .ok (.getfield 10, 3) := by decide +kernel
theorem dX9_low_58 : decode cX9_low 58 = .ok (.getfield 131, 3) := by decide +kernel
theorem dX9_low_61 : decode cX9_low 61 = .ok (.invokevirtual 214, 3) := by decide +kernel
theorem dX9_low_64 : decode cX9_low 64 = .ok (.i2l, 1) := by decide +kernel
theorem dX9_low_65 : decode cX9_low 65 = .ok (.iload 4, 2) := by decide +kernel
theorem dX9_low_67 : decode cX9_low 67 = .ok (.i2l, 1) := by decide +kernel
theorem dX9_low_68 : decode cX9_low 68 = .ok (.iload_n 3, 1) := by decide +kernel
theorem dX9_low_69 : decode cX9_low 69 = .ok (.invokestatic 148, 3) := by decide +kernel
theorem dX9_low_72 : decode cX9_low 72 = .ok (.goto 6, 3) := by decide +kernel
theorem dX9_low_75 : decode cX9_low 75 = .ok (.ldc2_w 152, 3) := by decide +kernel
theorem dX9_low_78 : decode cX9_low 78 = .ok (.lreturn, 1) := by decide +kernel
set_option maxRecDepth 20000 in
theorem ggX9_hay_X3_init : GoodIn wsX9_hay wsX3_init := goodIn_r _ [6, 7, 8, 9, 10, 11, 12, 13, 14, 15, 46, 47, 48, 49, 50, 51] (by decide +kernel) (by decide +kernel)
set_option maxRecDepth 20000 in
theorem gX9_hay_X3_init : GoodIn wsX9_hay (wsX3_init) := ggX9_hay_X3_init
set_option maxRecDepth 20000 in
theorem ggX9_hay_X3_isAsTold : GoodIn wsX9_hay wsX3_isAsTold := goodIn_r _ [19, 11, 10, 13, 14, 15, 12, 20, 21, 22, 23, 24, 46, 47, 48, 49, 50, 51] (by decide +kernel) (by decide +kernel)
set_option maxRecDepth 20000 in
theorem gX9_hay_X3_isAsTold : GoodIn wsX9_hay (wsV RX9 222 RX3 yX3_isAsTold wsX3_isAsTold) := goodIn_app (goodIn_of _ (by decide +kernel)) ggX9_hay_X3_isAsTold
set_option maxRecDepth 20000 in
theorem ggX9_hay_X9_within : GoodIn wsX9_hay wsX9_within := goodIn_r _ [22] (by decide +kernel) (by decide +kernel)
set_option maxRecDepth 20000 in
theorem gX9_hay_X9_within : GoodIn wsX9_hay (va_wsS RX9 46 yX9_within wsX9_within) := goodIn_app (goodIn_of _ (by decide +kernel)) ggX9_hay_X9_within
set_option maxRecDepth 20000 in
theorem ggX9_hay_X3_valueFrom : GoodIn wsX9_hay wsX3_valueFrom := goodIn_r _ [29, 11, 15, 30, 31, 32, 33, 34, 35, 36, 3, 37, 12, 38, 39, 40, 41, 13, 14, 42, 43, 44, 45, 10, 23, 21, 24, 46, 47, 48, 49, 50, 51] (by decide +kernel) (by decide +kernel)
set_option maxRecDepth 20000 in
theorem gX9_hay_X3_valueFrom : GoodIn wsX9_hay (wsV RX9 226 RX3 yX3_valueFrom wsX3_valueFrom) := goodIn_app (goodIn_of _ (by decide +kernel)) ggX9_hay_X3_valueFrom
theorem dX9_hay_0 : decode cX9_hay 0 = .ok (.new 217, 3) := by decide +kernel
theorem dX9_hay_3 : decode cX9_hay 3 = .ok (.dup, 1) := by decide +kernel
theorem dX9_hay_4 : decode cX9_hay 4 = .ok (.iload_n 1, 1) := by decide +kernel
theorem dX9_hay_5 : decode cX9_hay 5 = .ok (.iload_n 2, 1) := by decide +kernel
theorem dX9_hay_6 : decode cX9_hay 6 = .ok (.iload 4, 2) := by decide +kernel
theorem dX9_hay_8 : decode cX9_hay 8 = .ok (.iload 5, 2) := by decide +kernel
theorem dX9_hay_10 : decode cX9_hay 10 = .ok (.iload 6, 2) := by decide +kernel
theorem dX9_hay_12 : decode cX9_hay 12 = .ok (.iload 7, 2) := by decide +kernel
theorem dX9_hay_14 : decode cX9_hay 14 = .ok (.invokespecial 219, 3) := by decide +kernel
theorem dX9_hay_17 : decode cX9_hay 17 = .ok (.astore 8, 2) := by decide +kernel
theorem dX9_hay_19 : decode cX9_hay 19 = .ok (.aload 8, 2) := by decide +kernel
theorem dX9_hay_21 : decode cX9_hay 21 = .ok (.invokevirtual 222, 3) := by decide +kernel
theorem dX9_hay_24 : decode cX9_hay 24 = .ok (.ifCond .eq 21, 3) := by decide +kernel
theorem dX9_hay_27 : decode cX9_hay 27 = .ok (.iload_n 3, 1) := by decide +kernel
theorem dX9_hay_28 : decode cX9_hay 28 = .ok (.iconst 0, 1) := by decide +kernel
theorem dX9_hay_29 : decode cX9_hay 29 = .ok (.iload_n 2, 1) := by decide +kernel
theorem dX9_hay_30 : decode cX9_hay 30 = .ok (.invokestatic 46, 3) := by decide +kernel
theorem dX9_hay_33 : decode cX9_hay 33 = .ok (.ifCond .eq 12, 3) := by decide +kernel
theorem dX9_hay_36 : decode cX9_hay 36 = .ok (.aload 8, 2) := by decide +kernel
theorem dX9_hay_38 : decode cX9_hay 38 = .ok (.iload_n 3, 1) := by decide +kernel
theorem dX9_hay_39 : decode cX9_hay 39 = .ok (.invokevirtual 226, 3) := by decide +kernel
theorem dX9_hay_42 : decode cX9_hay 42 = .ok (.goto 5, 3) := by decide +kernel
theorem dX9_hay_45 : decode cX9_hay 45 = .ok (.bipush (-2), 2) := by decide +kernel
theorem dX9_hay_47 : decode cX9_hay 47 = .ok (.ireturn, 1) := by decide +kernel
set_option maxRecDepth 20000 in
theorem ggX9_does_X3_init : GoodIn wsX9_does wsX3_init := goodIn_r _ [6, 7, 8, 9, 10, 11, 12, 13, 14, 15, 50, 51, 52, 53, 54, 55] (by decide +kernel) (by decide +kernel)
set_option maxRecDepth 20000 in
theorem gX9_does_X3_init : GoodIn wsX9_does (wsX3_init) := ggX9_does_X3_init
set_option maxRecDepth 20000 in
theorem ggX9_does_X3_isAsTold : GoodIn wsX9_does wsX3_isAsTold := goodIn_r _ [19, 11, 10, 13, 14, 15, 12, 20, 21, 22, 23, 24, 50, 51, 52, 53, 54, 55] (by decide +kernel) (by decide +kernel)
set_option maxRecDepth 20000 in
theorem gX9_does_X3_isAsTold : GoodIn wsX9_does (wsV RX9 222 RX3 yX3_isAsTold wsX3_isAsTold) := goodIn_app (goodIn_of _ (by decide +kernel)) ggX9_does_X3_isAsTold
set_option maxRecDepth 20000 in
theorem ggX9_does_X9_within : GoodIn wsX9_does wsX9_within := goodIn_r _ [22] (by decide +kernel) (by decide +kernel)
set_option maxRecDepth 20000 in
theorem gX9_does_X9_within : GoodIn wsX9_does (va_wsS RX9 46 yX9_within wsX9_within) := goodIn_app (goodIn_of _ (by decide +kernel)) ggX9_does_X9_within
set_option maxRecDepth 20000 in
theorem ggX9_does_X3_choiceOn : GoodIn wsX9_does wsX3_choiceOn := goodIn_r _ [29, 30, 31, 32, 3, 33, 11, 15, 34, 35, 36, 37, 38, 39, 40, 41, 12, 42, 43, 44, 45, 13, 14, 46, 47, 48, 49, 10, 23, 21, 24, 50, 51, 52, 53, 54, 55] (by decide +kernel) (by decide +kernel)
set_option maxRecDepth 20000 in
theorem gX9_does_X3_choiceOn : GoodIn wsX9_does (wsV RX9 229 RX3 yX3_choiceOn wsX3_choiceOn) := goodIn_app (goodIn_of _ (by decide +kernel)) ggX9_does_X3_choiceOn
theorem dX9_does_0 : decode cX9_does 0 = .ok (.new 217, 3) := by decide +kernel
theorem dX9_does_3 : decode cX9_does 3 = .ok (.dup, 1) := by decide +kernel
theorem dX9_does_4 : decode cX9_does 4 = .ok (.iload_n 1, 1) := by decide +kernel
theorem dX9_does_5 : decode cX9_does 5 = .ok (.iload_n 2, 1) := by decide +kernel
theorem dX9_does_6 : decode cX9_does 6 = .ok (.iload 4, 2) := by decide +kernel
theorem dX9_does_8 : decode cX9_does 8 = .ok (.iload 5, 2) := by decide +kernel
theorem dX9_does_10 : decode cX9_does 10 = .ok (.iload 6, 2) := by decide +kernel
theorem dX9_does_12 : decode cX9_does 12 = .ok (.iload 7, 2) := by decide +kernel
theorem dX9_does_14 : decode cX9_does 14 = .ok (.invokespecial 219, 3) := by decide +kernel
theorem dX9_does_17 : decode cX9_does 17 = .ok (.astore 8, 2) := by decide +kernel
theorem dX9_does_19 : decode cX9_does 19 = .ok (.aload 8, 2) := by decide +kernel
theorem dX9_does_21 : decode cX9_does 21 = .ok (.invokevirtual 222, 3) := by decide +kernel
theorem dX9_does_24 : decode cX9_does 24 = .ok (.ifCond .eq 21, 3) := by decide +kernel
theorem dX9_does_27 : decode cX9_does 27 = .ok (.iload_n 3, 1) := by decide +kernel
theorem dX9_does_28 : decode cX9_does 28 = .ok (.iconst 0, 1) := by decide +kernel
theorem dX9_does_29 : decode cX9_does 29 = .ok (.iload_n 2, 1) := by decide +kernel
theorem dX9_does_30 : decode cX9_does 30 = .ok (.invokestatic 46, 3) := by decide +kernel
theorem dX9_does_33 : decode cX9_does 33 = .ok (.ifCond .eq 12, 3) := by decide +kernel
theorem dX9_does_36 : decode cX9_does 36 = .ok (.aload 8, 2) := by decide +kernel
theorem dX9_does_38 : decode cX9_does 38 = .ok (.iload_n 3, 1) := by decide +kernel
theorem dX9_does_39 : decode cX9_does 39 = .ok (.invokevirtual 229, 3) := by decide +kernel
theorem dX9_does_42 : decode cX9_does 42 = .ok (.goto 5, 3) := by decide +kernel
theorem dX9_does_45 : decode cX9_does 45 = .ok (.bipush (-2), 2) := by decide +kernel
theorem dX9_does_47 : decode cX9_does 47 = .ok (.ireturn, 1) := by decide +kernel
set_option maxRecDepth 20000 in
theorem ggX9_believed_X9_isTeller : GoodIn wsX9_believed wsX9_isTeller := goodIn_r _ [7, 8, 9, 6, 10] (by decide +kernel) (by decide +kernel)
set_option maxRecDepth 20000 in
theorem gX9_believed_X9_isTeller : GoodIn wsX9_believed (va_wsS RX9 112 yX9_isTeller wsX9_isTeller) := goodIn_app (goodIn_of _ (by decide +kernel)) ggX9_believed_X9_isTeller
set_option maxRecDepth 20000 in
theorem ggX9_believed_X9_within : GoodIn wsX9_believed wsX9_within := goodIn_r _ [10] (by decide +kernel) (by decide +kernel)
set_option maxRecDepth 20000 in
theorem gX9_believed_X9_within : GoodIn wsX9_believed (va_wsS RX9 46 yX9_within wsX9_within) := goodIn_app (goodIn_of _ (by decide +kernel)) ggX9_believed_X9_within
set_option maxRecDepth 20000 in
theorem ggX9_believed_X7_wash : GoodIn wsX9_believed wsX7_wash := goodIn_r _ [15, 16, 17, 18, 19, 20, 14, 21, 22, 23, 24, 25, 26, 27, 28, 29, 30, 31, 32, 33, 34, 35, 6, 36, 37, 38, 39, 40, 41, 42, 43, 44, 45, 46, 47, 48, 49, 50, 51, 52, 53, 54, 55, 56, 57, 58, 59, 60, 61, 62, 63, 64, 65, 66, 67, 68, 69, 70, 71, 72, 73, 74, 75, 76, 77, 78, 79, 80, 81, 82, 83, 84, 85, 86, 87, 88, 89, 90, 91, 92, 93, 94, 95, 96, 97, 98, 99, 100, 101, 102, 103, 104, 105, 106, 107, 108, 109, 110, 111, 112, 113, 114, 115, 116, 117, 118, 119, 120, 121, 122, 123, 124, 125, 126, 127, 128, 129, 130, 131, 132, 133, 134, 135, 136, 137, 138, 139, 140, 141, 142, 143, 144, 145, 146, 147, 148, 149, 150, 151, 152, 153, 154, 155, 156, 157, 158, 159, 160, 161, 162, 163, 164, 165, 166, 167, 168, 169, 170, 171, 172, 173, 174, 175, 176, 177, 178, 179, 180, 181, 182, 183, 184, 185, 186, 187, 188, 189, 190, 8, 9, 10, 191, 198, 199, 200, 201, 202, 203, 204, 205, 206, 207, 208, 209, 210, 211, 212, 213, 214, 215] (by decide +kernel) (by decide +kernel)
set_option maxRecDepth 20000 in
theorem gX9_believed_X7_wash : GoodIn wsX9_believed (wsV RX9 234 RX7 yX7_wash wsX7_wash) := goodIn_app (goodIn_of _ (by decide +kernel)) ggX9_believed_X7_wash
theorem dX9_believed_0 : decode cX9_believed 0 = .ok (.iload_n 1, 1) := by decide +kernel
theorem dX9_believed_1 : decode cX9_believed 1 = .ok (.invokestatic 112, 3) := by decide +kernel
theorem dX9_believed_4 : decode cX9_believed 4 = .ok (.ifCond .ne 6, 3) := by decide +kernel
theorem dX9_believed_7 : decode cX9_believed 7 = .ok (.ldc 232, 2) := by decide +kernel
theorem dX9_believed_9 : decode cX9_believed 9 = .ok (.ireturn, 1) := by decide +kernel
theorem dX9_believed_10 : decode cX9_believed 10 = .ok (.iload_n 2, 1) := by decide +kernel
theorem dX9_believed_11 : decode cX9_believed 11 = .ok (.iconst 0, 1) := by decide +kernel
theorem dX9_believed_12 : decode cX9_believed 12 = .ok (.sipush 999, 3) := by decide +kernel
theorem dX9_believed_15 : decode cX9_believed 15 = .ok (.invokestatic 46, 3) := by decide +kernel
theorem dX9_believed_18 : decode cX9_believed 18 = .ok (.ifCond .eq 14, 3) := by decide +kernel
theorem dX9_believed_21 : decode cX9_believed 21 = .ok (.iload_n 3, 1) := by decide +kernel
theorem dX9_believed_22 : decode cX9_believed 22 = .ok (.iconst 0, 1) := by decide +kernel
theorem dX9_believed_23 : decode cX9_believed 23 = .ok (.sipush 999, 3) := by decide +kernel
theorem dX9_believed_26 : decode cX9_believed 26 = .ok (.invokestatic 46, 3) := by decide +kernel
theorem dX9_believed_29 : decode cX9_believed 29 = .ok (.ifCond .ne 6, 3) := by decide +kernel
theorem dX9_believed_32 : decode cX9_believed 32 = .ok (.ldc 233, 2) := by decide +kernel
theorem dX9_believed_34 : decode cX9_believed 34 = .ok (.ireturn, 1) := by decide +kernel
theorem dX9_believed_35 : decode cX9_believed 35 = .ok (.aload_n 0, 1) := by decide +kernel
theorem dX9_believed_36 : decode cX9_believed 36 = .ok (.getfield 10, 3) := by decide +kernel
theorem dX9_believed_39 : decode cX9_believed 39 = .ok (.iload_n 1, 1) := by decide +kernel
theorem dX9_believed_40 : decode cX9_believed 40 = .ok (.iload_n 2, 1) := by decide +kernel
theorem dX9_believed_41 : decode cX9_believed 41 = .ok (.iload_n 3, 1) := by decide +kernel
theorem dX9_believed_42 : decode cX9_believed 42 = .ok (.invokevirtual 234, 3) := by decide +kernel
theorem dX9_believed_45 : decode cX9_believed 45 = .ok (.ireturn, 1) := by decide +kernel
set_option maxRecDepth 20000 in
theorem ggX9_image_X9_within : GoodIn wsX9_image wsX9_within := goodIn_r _ [9] (by decide +kernel) (by decide +kernel)
set_option maxRecDepth 20000 in
theorem gX9_image_X9_within : GoodIn wsX9_image (va_wsS RX9 46 yX9_within wsX9_within) := goodIn_app (goodIn_of _ (by decide +kernel)) ggX9_image_X9_within
set_option maxRecDepth 20000 in
theorem ggX9_image_X7_init : GoodIn wsX9_image wsX7_init := goodIn_r _ [12, 13, 14, 15, 16, 17, 18, 19, 20, 21, 22, 23, 24, 25, 26, 27, 28, 29, 30, 31, 32, 33, 34, 35, 36, 37, 38, 39, 40, 41, 42, 43, 44, 45, 46, 47, 48, 49, 50, 51, 52, 53, 54, 55, 56, 57, 58, 59, 60, 61, 62, 63, 114, 115, 116, 107, 108, 109, 110, 111, 112, 113, 117, 118, 119, 120, 121, 122, 123, 124, 125, 126, 127, 128, 129, 130, 131, 132] (by decide +kernel) (by decide +kernel)
set_option maxRecDepth 20000 in
theorem gX9_image_X7_init : GoodIn wsX9_image (wsX7_init) := ggX9_image_X7_init
set_option maxRecDepth 20000 in
theorem ggX9_image_X7_takeAll : GoodIn wsX9_image wsX7_takeAll := goodIn_r _ [67, 19, 23, 27, 29, 30, 31, 32, 68, 69, 70, 18, 71, 38, 39, 40, 72, 73, 74, 22, 75, 76, 45, 46, 47, 48, 49, 50, 51, 52, 77, 8, 78, 79, 80, 81, 82, 83, 84, 85, 86, 87, 88, 89, 26, 90, 91, 56, 57, 58, 59, 92, 93, 94, 4, 95, 96, 97, 98, 34, 99, 100, 63, 107, 108, 109, 110, 111, 112, 113, 114, 115, 116, 117, 118, 119, 120, 121, 122, 123, 124, 125, 126, 127, 128, 129, 130, 131, 132] (by decide +kernel) (by decide +kernel)
set_option maxRecDepth 20000 in
theorem gX9_image_X7_takeAll : GoodIn wsX9_image (wsV RX9 237 RX7 yX7_takeAll wsX7_takeAll) := goodIn_app (goodIn_of _ (by decide +kernel)) ggX9_image_X7_takeAll
theorem dX9_image_0 : decode cX9_image 0 = .ok (.iload_n 1, 1) := by decide +kernel
theorem dX9_image_1 : decode cX9_image 1 = .ok (.iconst 0, 1) := by decide +kernel
theorem dX9_image_2 : decode cX9_image 2 = .ok (.aload_n 0, 1) := by decide +kernel
theorem dX9_image_3 : decode cX9_image 3 = .ok (.getfield 23, 3) := by decide +kernel
theorem dX9_image_6 : decode cX9_image 6 = .ok (.arraylength, 1) := by decide +kernel
theorem dX9_image_7 : decode cX9_image 7 = .ok (.iconst 1, 1) := by decide +kernel
theorem dX9_image_8 : decode cX9_image 8 = .ok (.isub, 1) := by decide +kernel
theorem dX9_image_9 : decode cX9_image 9 = .ok (.invokestatic 46, 3) := by decide +kernel
theorem dX9_image_12 : decode cX9_image 12 = .ok (.ifCond .ne 6, 3) := by decide +kernel
theorem dX9_image_15 : decode cX9_image 15 = .ok (.bipush (-2), 2) := by decide +kernel
theorem dX9_image_17 : decode cX9_image 17 = .ok (.ireturn, 1) := by decide +kernel
theorem dX9_image_18 : decode cX9_image 18 = .ok (.aload_n 0, 1) := by decide +kernel
theorem dX9_image_19 : decode cX9_image 19 = .ok (.getfield 23, 3) := by decide +kernel
theorem dX9_image_22 : decode cX9_image 22 = .ok (.iload_n 1, 1) := by decide +kernel
theorem dX9_image_23 : decode cX9_image 23 = .ok (.aaload, 1) := by decide +kernel
theorem dX9_image_24 : decode cX9_image 24 = .ok (.astore_n 2, 1) := by decide +kernel
theorem dX9_image_25 : decode cX9_image 25 = .ok (.aload_n 2, 1) := by decide +kernel
theorem dX9_image_26 : decode cX9_image 26 = .ok (.ifnonnull 18, 3) := by decide +kernel
theorem dX9_image_29 : decode cX9_image 29 = .ok (.new 7, 3) := by decide +kernel
theorem dX9_image_32 : decode cX9_image 32 = .ok (.dup, 1) := by decide +kernel
theorem dX9_image_33 : decode cX9_image 33 = .ok (.invokespecial 9, 3) := by decide +kernel
theorem dX9_image_36 : decode cX9_image 36 = .ok (.astore_n 2, 1) := by decide +kernel
theorem dX9_image_37 : decode cX9_image 37 = .ok (.aload_n 0, 1) := by decide +kernel
theorem dX9_image_38 : decode cX9_image 38 = .ok (.getfield 23, 3) := by decide +kernel
theorem dX9_image_41 : decode cX9_image 41 = .ok (.iload_n 1, 1) := by decide +kernel
theorem dX9_image_42 : decode cX9_image 42 = .ok (.aload_n 2, 1) := by decide +kernel
theorem dX9_image_43 : decode cX9_image 43 = .ok (.aastore, 1) := by decide +kernel
theorem dX9_image_44 : decode cX9_image 44 = .ok (.aload_n 2, 1) := by decide +kernel
theorem dX9_image_45 : decode cX9_image 45 = .ok (.aload_n 0, 1) := by decide +kernel
theorem dX9_image_46 : decode cX9_image 46 = .ok (.getfield 10, 3) := by decide +kernel
theorem dX9_image_49 : decode cX9_image 49 = .ok (.invokevirtual 237, 3) := by decide +kernel
theorem dX9_image_52 : decode cX9_image 52 = .ok (.iconst 1, 1) := by decide +kernel
theorem dX9_image_53 : decode cX9_image 53 = .ok (.ireturn, 1) := by decide +kernel
set_option maxRecDepth 20000 in
theorem ggX9_restore_X9_within : GoodIn wsX9_restore wsX9_within := goodIn_r _ [6] (by decide +kernel) (by decide +kernel)
set_option maxRecDepth 20000 in
theorem gX9_restore_X9_within : GoodIn wsX9_restore (va_wsS RX9 46 yX9_within wsX9_within) := goodIn_app (goodIn_of _ (by decide +kernel)) ggX9_restore_X9_within
set_option maxRecDepth 20000 in
theorem ggX9_restore_X7_takeAll : GoodIn wsX9_restore wsX7_takeAll := goodIn_r _ [11, 12, 13, 14, 15, 16, 17, 18, 19, 20, 21, 22, 23, 24, 25, 26, 27, 28, 29, 30, 31, 32, 33, 34, 35, 36, 37, 38, 39, 40, 41, 5, 42, 43, 44, 45, 46, 47, 48, 49, 50, 51, 52, 53, 54, 55, 56, 57, 58, 59, 60, 61, 62, 63, 10, 64, 65, 66, 67, 68, 69, 70, 71, 78, 79, 80, 81, 82, 83, 84, 85, 86, 87, 88, 89, 90, 91, 92, 93, 94, 95, 96, 97, 98, 99, 100, 101, 102, 103] (by decide +kernel) (by decide +kernel)
set_option maxRecDepth 20000 in
theorem gX9_restore_X7_takeAll : GoodIn wsX9_restore (wsV RX9 237 RX7 yX7_takeAll wsX7_takeAll) := goodIn_app (goodIn_of _ (by decide +kernel)) ggX9_restore_X7_takeAll
theorem dX9_restore_0 : decode cX9_restore 0 = .ok (.iload_n 1, 1) := by decide +kernel
theorem dX9_restore_1 : decode cX9_restore 1 = .ok (.iconst 0, 1) := by decide +kernel
theorem dX9_restore_2 : decode cX9_restore 2 = .ok (.aload_n 0, 1) := by decide +kernel
theorem dX9_restore_3 : decode cX9_restore 3 = .ok (.getfield 23, 3) := by decide +kernel
theorem dX9_restore_6 : decode cX9_restore 6 = .ok (.arraylength, 1) := by decide +kernel
theorem dX9_restore_7 : decode cX9_restore 7 = .ok (.iconst 1, 1) := by decide +kernel
theorem dX9_restore_8 : decode cX9_restore 8 = .ok (.isub, 1) := by decide +kernel
theorem dX9_restore_9 : decode cX9_restore 9 = .ok (.invokestatic 46, 3) := by decide +kernel
theorem dX9_restore_12 : decode cX9_restore 12 = .ok (.ifCond .ne 6, 3) := by decide +kernel
theorem dX9_restore_15 : decode cX9_restore 15 = .ok (.bipush (-2), 2) := by decide +kernel
theorem dX9_restore_17 : decode cX9_restore 17 = .ok (.ireturn, 1) := by decide +kernel
theorem dX9_restore_18 : decode cX9_restore 18 = .ok (.aload_n 0, 1) := by decide +kernel
theorem dX9_restore_19 : decode cX9_restore 19 = .ok (.getfield 23, 3) := by decide +kernel
theorem dX9_restore_22 : decode cX9_restore 22 = .ok (.iload_n 1, 1) := by decide +kernel
theorem dX9_restore_23 : decode cX9_restore 23 = .ok (.aaload, 1) := by decide +kernel
theorem dX9_restore_24 : decode cX9_restore 24 = .ok (.astore_n 2, 1) := by decide +kernel
theorem dX9_restore_25 : decode cX9_restore 25 = .ok (.aload_n 2, 1) := by decide +kernel
theorem dX9_restore_26 : decode cX9_restore 26 = .ok (.ifnonnull 6, 3) := by decide +kernel
theorem dX9_restore_29 : decode cX9_restore 29 = .ok (.bipush (-3), 2) := by decide +kernel
theorem dX9_restore_31 : decode cX9_restore 31 = .ok (.ireturn, 1) := by decide +kernel
theorem dX9_restore_32 : decode cX9_restore 32 = .ok (.aload_n 0, 1) := by decide +kernel
theorem dX9_restore_33 : decode cX9_restore 33 = .ok (.getfield 10, 3) := by decide +kernel
theorem dX9_restore_36 : decode cX9_restore 36 = .ok (.aload_n 2, 1) := by decide +kernel
theorem dX9_restore_37 : decode cX9_restore 37 = .ok (.invokevirtual 237, 3) := by decide +kernel
theorem dX9_restore_40 : decode cX9_restore 40 = .ok (.iconst 1, 1) := by decide +kernel
theorem dX9_restore_41 : decode cX9_restore 41 = .ok (.ireturn, 1) := by decide +kernel
set_option maxRecDepth 20000 in
theorem ggX9_told_X9_within : GoodIn wsX9_told wsX9_within := goodIn_r _ [17] (by decide +kernel) (by decide +kernel)
set_option maxRecDepth 20000 in
theorem gX9_told_X9_within : GoodIn wsX9_told (va_wsS RX9 46 yX9_within wsX9_within) := goodIn_app (goodIn_of _ (by decide +kernel)) ggX9_told_X9_within
set_option maxRecDepth 20000 in
theorem ggX9_told_X7_sayingAt : GoodIn wsX9_told wsX7_sayingAt := goodIn_r _ [22, 23, 39, 40, 41, 42, 43, 44, 45] (by decide +kernel) (by decide +kernel)
set_option maxRecDepth 20000 in
theorem gX9_told_X7_sayingAt : GoodIn wsX9_told (wsV RX9 98 RX7 yX7_sayingAt wsX7_sayingAt) := goodIn_app (goodIn_of _ (by decide +kernel)) ggX9_told_X7_sayingAt
set_option maxRecDepth 20000 in
theorem ggX9_told_X8_countCases : GoodIn wsX9_told wsX8_countCases := goodIn_r _ [28, 29, 30, 31, 16, 32, 55, 56] (by decide +kernel) (by decide +kernel)
set_option maxRecDepth 20000 in
theorem gX9_told_X8_countCases : GoodIn wsX9_told (wsV RX9 109 RX8 yX8_countCases wsX8_countCases) := goodIn_app (goodIn_of _ (by decide +kernel)) ggX9_told_X8_countCases
theorem dX9_told_0 : decode cX9_told 0 = .ok (.iload_n 1, 1) := by decide +kernel
theorem dX9_told_1 : decode cX9_told 1 = .ok (.tableswitch 123 0 7 #[47, 58, 66, 77, 88, 96, 104, 112], 47) := by decide +kernel
theorem dX9_told_48 : decode cX9_told 48 = .ok (.aload_n 0, 1) := by decide +kernel
theorem dX9_told_49 : decode cX9_told 49 = .ok (.getfield 10, 3) := by decide +kernel
theorem dX9_told_52 : decode cX9_told 52 = .ok (.getfield 68, 3) := by decide +kernel
theorem dX9_told_55 : decode cX9_told 55 = .ok (.getfield 241, 3) := by decide +kernel
theorem dX9_told_58 : decode cX9_told 58 = .ok (.ireturn, 1) := by decide +kernel
theorem dX9_told_59 : decode cX9_told 59 = .ok (.aload_n 0, 1) := by decide +kernel
theorem dX9_told_60 : decode cX9_told 60 = .ok (.getfield 19, 3) := by decide +kernel
theorem dX9_told_63 : decode cX9_told 63 = .ok (.getfield 102, 3) := by decide +kernel
theorem dX9_told_66 : decode cX9_told 66 = .ok (.ireturn, 1) := by decide +kernel
theorem dX9_told_67 : decode cX9_told 67 = .ok (.aload_n 0, 1) := by decide +kernel
theorem dX9_told_68 : decode cX9_told 68 = .ok (.getfield 10, 3) := by decide +kernel
theorem dX9_told_71 : decode cX9_told 71 = .ok (.getfield 50, 3) := by decide +kernel
theorem dX9_told_74 : decode cX9_told 74 = .ok (.getfield 244, 3) := by decide +kernel
theorem dX9_told_77 : decode cX9_told 77 = .ok (.ireturn, 1) := by decide +kernel
theorem dX9_told_78 : decode cX9_told 78 = .ok (.aload_n 0, 1) := by decide +kernel
theorem dX9_told_79 : decode cX9_told 79 = .ok (.getfield 10, 3) := by decide +kernel
theorem dX9_told_82 : decode cX9_told 82 = .ok (.getfield 50, 3) := by decide +kernel
theorem dX9_told_85 : decode cX9_told 85 = .ok (.getfield 64, 3) := by decide +kernel
theorem dX9_told_88 : decode cX9_told 88 = .ok (.ireturn, 1) := by decide +kernel
theorem dX9_told_89 : decode cX9_told 89 = .ok (.aload_n 0, 1) := by decide +kernel
theorem dX9_told_90 : decode cX9_told 90 = .ok (.getfield 10, 3) := by decide +kernel
theorem dX9_told_93 : decode cX9_told 93 = .ok (.getfield 118, 3) := by decide +kernel
theorem dX9_told_96 : decode cX9_told 96 = .ok (.ireturn, 1) := by decide +kernel
theorem dX9_told_97 : decode cX9_told 97 = .ok (.aload_n 0, 1) := by decide +kernel
theorem dX9_told_98 : decode cX9_told 98 = .ok (.getfield 10, 3) := by decide +kernel
theorem dX9_told_101 : decode cX9_told 101 = .ok (.getfield 128, 3) := by decide +kernel
theorem dX9_told_104 : decode cX9_told 104 = .ok (.ireturn, 1) := by decide +kernel
theorem dX9_told_105 : decode cX9_told 105 = .ok (.aload_n 0, 1) := by decide +kernel
theorem dX9_told_106 : decode cX9_told 106 = .ok (.getfield 10, 3) := by decide +kernel
theorem dX9_told_109 : decode cX9_told 109 = .ok (.getfield 131, 3) := by decide +kernel
theorem dX9_told_112 : decode cX9_told 112 = .ok (.ireturn, 1) := by decide +kernel
theorem dX9_told_113 : decode cX9_told 113 = .ok (.aload_n 0, 1) := by decide +kernel
theorem dX9_told_114 : decode cX9_told 114 = .ok (.getfield 10, 3) := by decide +kernel
theorem dX9_told_117 : decode cX9_told 117 = .ok (.getfield 202, 3) := by decide +kernel
theorem dX9_told_120 : decode cX9_told 120 = .ok (.getfield 247, 3) := by decide +kernel
theorem dX9_told_123 : decode cX9_told 123 = .ok (.ireturn, 1) := by decide +kernel
theorem dX9_told_124 : decode cX9_told 124 = .ok (.iload_n 1, 1) := by decide +kernel
theorem dX9_told_125 : decode cX9_told 125 = .ok (.bipush 10, 2) := by decide +kernel
theorem dX9_told_127 : decode cX9_told 127 = .ok (.bipush 13, 2) := by decide +kernel
theorem dX9_told_129 : decode cX9_told 129 = .ok (.invokestatic 46, 3) := by decide +kernel
theorem dX9_told_132 : decode cX9_told 132 = .ok (.ifCond .eq 17, 3) := by decide +kernel
theorem dX9_told_135 : decode cX9_told 135 = .ok (.aload_n 0, 1) := by decide +kernel
theorem dX9_told_136 : decode cX9_told 136 = .ok (.getfield 10, 3) := by decide +kernel
theorem dX9_told_139 : decode cX9_told 139 = .ok (.iload_n 1, 1) := by decide +kernel
theorem dX9_told_140 : decode cX9_told 140 = .ok (.bipush 10, 2) := by decide +kernel
theorem dX9_told_142 : decode cX9_told 142 = .ok (.isub, 1) := by decide +kernel
theorem dX9_told_143 : decode cX9_told 143 = .ok (.invokevirtual 98, 3) := by decide +kernel
theorem dX9_told_146 : decode cX9_told 146 = .ok (.goto 4, 3) := by decide +kernel
theorem dX9_told_149 : decode cX9_told 149 = .ok (.aconst_null, 1) := by decide +kernel
theorem dX9_told_150 : decode cX9_told 150 = .ok (.astore_n 2, 1) := by decide +kernel
theorem dX9_told_151 : decode cX9_told 151 = .ok (.aload_n 2, 1) := by decide +kernel
theorem dX9_told_152 : decode cX9_told 152 = .ok (.ifnonnull 8, 3) := by decide +kernel
theorem dX9_told_155 : decode cX9_told 155 = .ok (.bipush (-2), 2) := by decide +kernel
theorem dX9_told_157 : decode cX9_told 157 = .ok (.goto 7, 3) := by decide +kernel
theorem dX9_told_160 : decode cX9_told 160 = .ok (.aload_n 2, 1) := by decide +kernel
theorem dX9_told_161 : decode cX9_told 161 = .ok (.invokevirtual 109, 3) := by decide +kernel
theorem dX9_told_164 : decode cX9_told 164 = .ok (.ireturn, 1) := by decide +kernel
theorem dX9_within_0 : decode cX9_within 0 = .ok (.iload_n 0, 1) := by decide +kernel
theorem dX9_within_1 : decode cX9_within 1 = .ok (.iload_n 1, 1) := by decide +kernel
theorem dX9_within_2 : decode cX9_within 2 = .ok (.if_icmp .lt 12, 3) := by decide +kernel
theorem dX9_within_5 : decode cX9_within 5 = .ok (.iload_n 0, 1) := by decide +kernel
theorem dX9_within_6 : decode cX9_within 6 = .ok (.iload_n 2, 1) := by decide +kernel
theorem dX9_within_7 : decode cX9_within 7 = .ok (.if_icmp .gt 7, 3) := by decide +kernel
theorem dX9_within_10 : decode cX9_within 10 = .ok (.iconst 1, 1) := by decide +kernel
theorem dX9_within_11 : decode cX9_within 11 = .ok (.goto 4, 3) := by decide +kernel
theorem dX9_within_14 : decode cX9_within 14 = .ok (.iconst 0, 1) := by decide +kernel
theorem dX9_within_15 : decode cX9_within 15 = .ok (.ireturn, 1) := by decide +kernel
set_option maxRecDepth 20000 in
theorem ggX9_isTeller_X9_within : GoodIn wsX9_isTeller wsX9_within := goodIn_r _ [4] (by decide +kernel) (by decide +kernel)
set_option maxRecDepth 20000 in
theorem gX9_isTeller_X9_within : GoodIn wsX9_isTeller (va_wsS RX9 46 yX9_within wsX9_within) := goodIn_app (goodIn_of _ (by decide +kernel)) ggX9_isTeller_X9_within
theorem dX9_isTeller_0 : decode cX9_isTeller 0 = .ok (.iload_n 0, 1) := by decide +kernel
theorem dX9_isTeller_1 : decode cX9_isTeller 1 = .ok (.iconst 0, 1) := by decide +kernel
theorem dX9_isTeller_2 : decode cX9_isTeller 2 = .ok (.bipush 8, 2) := by decide +kernel
theorem dX9_isTeller_4 : decode cX9_isTeller 4 = .ok (.invokestatic 46, 3) := by decide +kernel
theorem dX9_isTeller_7 : decode cX9_isTeller 7 = .ok (.ireturn, 1) := by decide +kernel
set_option maxRecDepth 20000 in
theorem ggX9_isPlace_X9_within : GoodIn wsX9_isPlace wsX9_within := goodIn_r _ [4] (by decide +kernel) (by decide +kernel)
set_option maxRecDepth 20000 in
theorem gX9_isPlace_X9_within : GoodIn wsX9_isPlace (va_wsS RX9 46 yX9_within wsX9_within) := goodIn_app (goodIn_of _ (by decide +kernel)) ggX9_isPlace_X9_within
theorem dX9_isPlace_0 : decode cX9_isPlace 0 = .ok (.iload_n 0, 1) := by decide +kernel
theorem dX9_isPlace_1 : decode cX9_isPlace 1 = .ok (.iconst 0, 1) := by decide +kernel
theorem dX9_isPlace_2 : decode cX9_isPlace 2 = .ok (.bipush 8, 2) := by decide +kernel
theorem dX9_isPlace_4 : decode cX9_isPlace 4 = .ok (.invokestatic 46, 3) := by decide +kernel
theorem dX9_isPlace_7 : decode cX9_isPlace 7 = .ok (.ifCond .eq 17, 3) := by decide +kernel
theorem dX9_isPlace_10 : decode cX9_isPlace 10 = .ok (.iload_n 1, 1) := by decide +kernel
theorem dX9_isPlace_11 : decode cX9_isPlace 11 = .ok (.iconst 0, 1) := by decide +kernel
theorem dX9_isPlace_12 : decode cX9_isPlace 12 = .ok (.bipush 8, 2) := by decide +kernel
theorem dX9_isPlace_14 : decode cX9_isPlace 14 = .ok (.invokestatic 46, 3) := by decide +kernel
theorem dX9_isPlace_17 : decode cX9_isPlace 17 = .ok (.ifCond .eq 7, 3) := by decide +kernel
theorem dX9_isPlace_20 : decode cX9_isPlace 20 = .ok (.iconst 1, 1) := by decide +kernel
theorem dX9_isPlace_21 : decode cX9_isPlace 21 = .ok (.goto 4, 3) := by decide +kernel
theorem dX9_isPlace_24 : decode cX9_isPlace 24 = .ok (.iconst 0, 1) := by decide +kernel
theorem dX9_isPlace_25 : decode cX9_isPlace 25 = .ok (.ireturn, 1) := by decide +kernel
set_option maxRecDepth 20000 in
theorem ggX9_isDigit_X9_within : GoodIn wsX9_isDigit wsX9_within := goodIn_r _ [4] (by decide +kernel) (by decide +kernel)
set_option maxRecDepth 20000 in
theorem gX9_isDigit_X9_within : GoodIn wsX9_isDigit (va_wsS RX9 46 yX9_within wsX9_within) := goodIn_app (goodIn_of _ (by decide +kernel)) ggX9_isDigit_X9_within
theorem dX9_isDigit_0 : decode cX9_isDigit 0 = .ok (.iload_n 0, 1) := by decide +kernel
theorem dX9_isDigit_1 : decode cX9_isDigit 1 = .ok (.bipush 48, 2) := by decide +kernel
theorem dX9_isDigit_3 : decode cX9_isDigit 3 = .ok (.bipush 57, 2) := by decide +kernel
theorem dX9_isDigit_5 : decode cX9_isDigit 5 = .ok (.invokestatic 46, 3) := by decide +kernel
theorem dX9_isDigit_8 : decode cX9_isDigit 8 = .ok (.ireturn, 1) := by decide +kernel
theorem dX9_at_0 : decode cX9_at 0 = .ok (.aload_n 0, 1) := by decide +kernel
theorem dX9_at_1 : decode cX9_at 1 = .ok (.ifnull 19, 3) := by decide +kernel
theorem dX9_at_4 : decode cX9_at 4 = .ok (.iload_n 1, 1) := by decide +kernel
theorem dX9_at_5 : decode cX9_at 5 = .ok (.ifCond .lt 15, 3) := by decide +kernel
theorem dX9_at_8 : decode cX9_at 8 = .ok (.iload_n 1, 1) := by decide +kernel
theorem dX9_at_9 : decode cX9_at 9 = .ok (.aload_n 0, 1) := by decide +kernel
theorem dX9_at_10 : decode cX9_at 10 = .ok (.arraylength, 1) := by decide +kernel
theorem dX9_at_11 : decode cX9_at 11 = .ok (.if_icmp .ge 9, 3) := by decide +kernel
theorem dX9_at_14 : decode cX9_at 14 = .ok (.aload_n 0, 1) := by decide +kernel
theorem dX9_at_15 : decode cX9_at 15 = .ok (.iload_n 1, 1) := by decide +kernel
theorem dX9_at_16 : decode cX9_at 16 = .ok (.iaload, 1) := by decide +kernel
theorem dX9_at_17 : decode cX9_at 17 = .ok (.goto 5, 3) := by decide +kernel
theorem dX9_at_20 : decode cX9_at 20 = .ok (.bipush (-6), 2) := by decide +kernel
theorem dX9_at_22 : decode cX9_at 22 = .ok (.ireturn, 1) := by decide +kernel
theorem dX9_put_0 : decode cX9_put 0 = .ok (.aload_n 0, 1) := by decide +kernel
theorem dX9_put_1 : decode cX9_put 1 = .ok (.ifnull 17, 3) := by decide +kernel
theorem dX9_put_4 : decode cX9_put 4 = .ok (.iload_n 1, 1) := by decide +kernel
theorem dX9_put_5 : decode cX9_put 5 = .ok (.ifCond .lt 13, 3) := by decide +kernel
theorem dX9_put_8 : decode cX9_put 8 = .ok (.iload_n 1, 1) := by decide +kernel
theorem dX9_put_9 : decode cX9_put 9 = .ok (.aload_n 0, 1) := by decide +kernel
theorem dX9_put_10 : decode cX9_put 10 = .ok (.arraylength, 1) := by decide +kernel
theorem dX9_put_11 : decode cX9_put 11 = .ok (.if_icmp .ge 7, 3) := by decide +kernel
theorem dX9_put_14 : decode cX9_put 14 = .ok (.aload_n 0, 1) := by decide +kernel
theorem dX9_put_15 : decode cX9_put 15 = .ok (.iload_n 1, 1) := by decide +kernel
theorem dX9_put_16 : decode cX9_put 16 = .ok (.iload_n 2, 1) := by decide +kernel
theorem dX9_put_17 : decode cX9_put 17 = .ok (.iastore, 1) := by decide +kernel
theorem dX9_put_18 : decode cX9_put 18 = .ok (.return_, 1) := by decide +kernel
theorem dX9_copy_0 : decode cX9_copy 0 = .ok (.aload_n 0, 1) := by decide +kernel
theorem dX9_copy_1 : decode cX9_copy 1 = .ok (.ifnull 21, 3) := by decide +kernel
theorem dX9_copy_4 : decode cX9_copy 4 = .ok (.aload_n 1, 1) := by decide +kernel
theorem dX9_copy_5 : decode cX9_copy 5 = .ok (.ifnull 17, 3) := by decide +kernel
theorem dX9_copy_8 : decode cX9_copy 8 = .ok (.aload_n 0, 1) := by decide +kernel
theorem dX9_copy_9 : decode cX9_copy 9 = .ok (.iconst 0, 1) := by decide +kernel
theorem dX9_copy_10 : decode cX9_copy 10 = .ok (.aload_n 1, 1) := by decide +kernel
theorem dX9_copy_11 : decode cX9_copy 11 = .ok (.iconst 0, 1) := by decide +kernel
theorem dX9_copy_12 : decode cX9_copy 12 = .ok (.aload_n 0, 1) := by decide +kernel
theorem dX9_copy_13 : decode cX9_copy 13 = .ok (.arraylength, 1) := by decide +kernel
theorem dX9_copy_14 : decode cX9_copy 14 = .ok (.aload_n 1, 1) := by decide +kernel
theorem dX9_copy_15 : decode cX9_copy 15 = .ok (.arraylength, 1) := by decide +kernel
theorem dX9_copy_16 : decode cX9_copy 16 = .ok (.invokestatic 248, 3) := by decide +kernel
theorem dX9_copy_19 : decode cX9_copy 19 = .ok (.invokestatic 253, 3) := by decide +kernel
theorem dX9_copy_22 : decode cX9_copy 22 = .ok (.return_, 1) := by decide +kernel
theorem dX9_thousandths_0 : decode cX9_thousandths 0 = .ok (.iload_n 1, 1) := by decide +kernel
theorem dX9_thousandths_1 : decode cX9_thousandths 1 = .ok (.ifCond .le 13, 3) := by decide +kernel
theorem dX9_thousandths_4 : decode cX9_thousandths 4 = .ok (.sipush 1000, 3) := by decide +kernel
theorem dX9_thousandths_7 : decode cX9_thousandths 7 = .ok (.iload_n 0, 1) := by decide +kernel
theorem dX9_thousandths_8 : decode cX9_thousandths 8 = .ok (.imul, 1) := by decide +kernel
theorem dX9_thousandths_9 : decode cX9_thousandths 9 = .ok (.iload_n 1, 1) := by decide +kernel
theorem dX9_thousandths_10 : decode cX9_thousandths 10 = .ok (.idiv, 1) := by decide +kernel
theorem dX9_thousandths_11 : decode cX9_thousandths 11 = .ok (.goto 5, 3) := by decide +kernel
theorem dX9_thousandths_14 : decode cX9_thousandths 14 = .ok (.bipush (-6), 2) := by decide +kernel
theorem dX9_thousandths_16 : decode cX9_thousandths 16 = .ok (.ireturn, 1) := by decide +kernel
set_option maxRecDepth 20000 in
theorem ggX9_fraction_X9_commonDivisor : GoodIn wsX9_fraction wsX9_commonDivisor := goodIn_r _ [4] (by decide +kernel) (by decide +kernel)
set_option maxRecDepth 20000 in
theorem gX9_fraction_X9_commonDivisor : GoodIn wsX9_fraction (va_wsS RX9 259 yX9_commonDivisor wsX9_commonDivisor) := goodIn_app (goodIn_of _ (by decide +kernel)) ggX9_fraction_X9_commonDivisor
theorem dX9_fraction_0 : decode cX9_fraction 0 = .ok (.lload_n 0, 1) := by decide +kernel
theorem dX9_fraction_1 : decode cX9_fraction 1 = .ok (.lload_n 2, 1) := by decide +kernel
theorem dX9_fraction_2 : decode cX9_fraction 2 = .ok (.invokestatic 259, 3) := by decide +kernel
theorem dX9_fraction_5 : decode cX9_fraction 5 = .ok (.lstore 5, 2) := by decide +kernel
theorem dX9_fraction_7 : decode cX9_fraction 7 = .ok (.lload 5, 2) := by decide +kernel
theorem dX9_fraction_9 : decode cX9_fraction 9 = .ok (.lconst 0, 1) := by decide +kernel
theorem dX9_fraction_10 : decode cX9_fraction 10 = .ok (.lcmp, 1) := by decide +kernel
theorem dX9_fraction_11 : decode cX9_fraction 11 = .ok (.ifCond .ne 5, 3) := by decide +kernel
theorem dX9_fraction_14 : decode cX9_fraction 14 = .ok (.lconst 0, 1) := by decide +kernel
theorem dX9_fraction_15 : decode cX9_fraction 15 = .ok (.lreturn, 1) := by decide +kernel
theorem dX9_fraction_16 : decode cX9_fraction 16 = .ok (.iload 4, 2) := by decide +kernel
theorem dX9_fraction_18 : decode cX9_fraction 18 = .ok (.ifCond .ne 7, 3) := by decide +kernel
theorem dX9_fraction_21 : decode cX9_fraction 21 = .ok (.lload_n 0, 1) := by decide +kernel
theorem dX9_fraction_22 : decode cX9_fraction 22 = .ok (.goto 4, 3) := by decide +kernel
theorem dX9_fraction_25 : decode cX9_fraction 25 = .ok (.lload_n 2, 1) := by decide +kernel
theorem dX9_fraction_26 : decode cX9_fraction 26 = .ok (.lload 5, 2) := by decide +kernel
theorem dX9_fraction_28 : decode cX9_fraction 28 = .ok (.ldiv, 1) := by decide +kernel
theorem dX9_fraction_29 : decode cX9_fraction 29 = .ok (.lreturn, 1) := by decide +kernel
theorem dX9_commonDivisor_0 : decode cX9_commonDivisor 0 = .ok (.iconst 0, 1) := by decide +kernel
theorem dX9_commonDivisor_1 : decode cX9_commonDivisor 1 = .ok (.istore 4, 2) := by decide +kernel
theorem dX9_commonDivisor_3 : decode cX9_commonDivisor 3 = .ok (.iload 4, 2) := by decide +kernel
theorem dX9_commonDivisor_5 : decode cX9_commonDivisor 5 = .ok (.sipush 200, 3) := by decide +kernel
theorem dX9_commonDivisor_8 : decode cX9_commonDivisor 8 = .ok (.if_icmp .ge 25, 3) := by decide +kernel
theorem dX9_commonDivisor_11 : decode cX9_commonDivisor 11 = .ok (.lload_n 2, 1) := by decide +kernel
theorem dX9_commonDivisor_12 : decode cX9_commonDivisor 12 = .ok (.lconst 0, 1) := by decide +kernel
theorem dX9_commonDivisor_13 : decode cX9_commonDivisor 13 = .ok (.lcmp, 1) := by decide +kernel
theorem dX9_commonDivisor_14 : decode cX9_commonDivisor 14 = .ok (.ifCond .eq 19, 3) := by decide +kernel
theorem dX9_commonDivisor_17 : decode cX9_commonDivisor 17 = .ok (.lload_n 0, 1) := by decide +kernel
theorem dX9_commonDivisor_18 : decode cX9_commonDivisor 18 = .ok (.lload_n 2, 1) := by decide +kernel
theorem dX9_commonDivisor_19 : decode cX9_commonDivisor 19 = .ok (.lrem, 1) := by decide +kernel
theorem dX9_commonDivisor_20 : decode cX9_commonDivisor 20 = .ok (.lstore 5, 2) := by decide +kernel
theorem dX9_commonDivisor_22 : decode cX9_commonDivisor 22 = .ok (.lload_n 2, 1) := by decide +kernel
theorem dX9_commonDivisor_23 : decode cX9_commonDivisor 23 = .ok (.lstore_n 0, 1) := by decide +kernel
theorem dX9_commonDivisor_24 : decode cX9_commonDivisor 24 = .ok (.lload 5, 2) := by decide +kernel
theorem dX9_commonDivisor_26 : decode cX9_commonDivisor 26 = .ok (.lstore_n 2, 1) := by decide +kernel
theorem dX9_commonDivisor_27 : decode cX9_commonDivisor 27 = .ok (.iinc 4 1, 3) := by decide +kernel
theorem dX9_commonDivisor_30 : decode cX9_commonDivisor 30 = .ok (.goto (-27), 3) := by decide +kernel
theorem dX9_commonDivisor_33 : decode cX9_commonDivisor 33 = .ok (.lload_n 0, 1) := by decide +kernel
theorem dX9_commonDivisor_34 : decode cX9_commonDivisor 34 = .ok (.lreturn, 1) := by decide +kernel
theorem dX9_choose_0 : decode cX9_choose 0 = .ok (.iload_n 1, 1) := by decide +kernel
theorem dX9_choose_1 : decode cX9_choose 1 = .ok (.ifCond .lt 8, 3) := by decide +kernel
theorem dX9_choose_4 : decode cX9_choose 4 = .ok (.iload_n 1, 1) := by decide +kernel
theorem dX9_choose_5 : decode cX9_choose 5 = .ok (.iload_n 0, 1) := by decide +kernel
theorem dX9_choose_6 : decode cX9_choose 6 = .ok (.if_icmp .le 5, 3) := by decide +kernel
theorem dX9_choose_9 : decode cX9_choose 9 = .ok (.lconst 0, 1) := by decide +kernel
theorem dX9_choose_10 : decode cX9_choose 10 = .ok (.lreturn, 1) := by decide +kernel
theorem dX9_choose_11 : decode cX9_choose 11 = .ok (.lconst 1, 1) := by decide +kernel
theorem dX9_choose_12 : decode cX9_choose 12 = .ok (.lstore_n 2, 1) := by decide +kernel
theorem dX9_choose_13 : decode cX9_choose 13 = .ok (.iconst 1, 1) := by decide +kernel
theorem dX9_choose_14 : decode cX9_choose 14 = .ok (.istore 4, 2) := by decide +kernel
theorem dX9_choose_16 : decode cX9_choose 16 = .ok (.iload 4, 2) := by decide +kernel
theorem dX9_choose_18 : decode cX9_choose 18 = .ok (.iload_n 1, 1) := by decide +kernel
theorem dX9_choose_19 : decode cX9_choose 19 = .ok (.if_icmp .gt 23, 3) := by decide +kernel
theorem dX9_choose_22 : decode cX9_choose 22 = .ok (.lload_n 2, 1) := by decide +kernel
theorem dX9_choose_23 : decode cX9_choose 23 = .ok (.iload_n 0, 1) := by decide +kernel
theorem dX9_choose_24 : decode cX9_choose 24 = .ok (.iload_n 1, 1) := by decide +kernel
theorem dX9_choose_25 : decode cX9_choose 25 = .ok (.isub, 1) := by decide +kernel
theorem dX9_choose_26 : decode cX9_choose 26 = .ok (.iload 4, 2) := by decide +kernel
theorem dX9_choose_28 : decode cX9_choose 28 = .ok (.iadd, 1) := by decide +kernel
theorem dX9_choose_29 : decode cX9_choose 29 = .ok (.i2l, 1) := by decide +kernel
theorem dX9_choose_30 : decode cX9_choose 30 = .ok (.lmul, 1) := by decide +kernel
theorem dX9_choose_31 : decode cX9_choose 31 = .ok (.iload 4, 2) := by decide +kernel
theorem dX9_choose_33 : decode cX9_choose 33 = .ok (.i2l, 1) := by decide +kernel
theorem dX9_choose_34 : decode cX9_choose 34 = .ok (.ldiv, 1) := by decide +kernel
theorem dX9_choose_35 : decode cX9_choose 35 = .ok (.lstore_n 2, 1) := by decide +kernel
theorem dX9_choose_36 : decode cX9_choose 36 = .ok (.iinc 4 1, 3) := by decide +kernel
theorem dX9_choose_39 : decode cX9_choose 39 = .ok (.goto (-23), 3) := by decide +kernel
theorem dX9_choose_42 : decode cX9_choose 42 = .ok (.lload_n 2, 1) := by decide +kernel
theorem dX9_choose_43 : decode cX9_choose 43 = .ok (.lreturn, 1) := by decide +kernel
