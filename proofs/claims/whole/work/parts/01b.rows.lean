theorem dX0_init_0 : decode cX0_init 0 = .ok (.aload_n 0, 1) := by decide +kernel
theorem dX0_init_1 : decode cX0_init 1 = .ok (.invokespecial 3, 3) := by decide +kernel
theorem dX0_init_4 : decode cX0_init 4 = .ok (.aload_n 0, 1) := by decide +kernel
theorem dX0_init_5 : decode cX0_init 5 = .ok (.bipush 60, 2) := by decide +kernel
theorem dX0_init_7 : decode cX0_init 7 = .ok (.newarray .int, 2) := by decide +kernel
theorem dX0_init_9 : decode cX0_init 9 = .ok (.putfield 9, 3) := by decide +kernel
theorem dX0_init_12 : decode cX0_init 12 = .ok (.aload_n 0, 1) := by decide +kernel
theorem dX0_init_13 : decode cX0_init 13 = .ok (.bipush 60, 2) := by decide +kernel
theorem dX0_init_15 : decode cX0_init 15 = .ok (.newarray .int, 2) := by decide +kernel
theorem dX0_init_17 : decode cX0_init 17 = .ok (.putfield 15, 3) := by decide +kernel
theorem dX0_init_20 : decode cX0_init 20 = .ok (.aload_n 0, 1) := by decide +kernel
theorem dX0_init_21 : decode cX0_init 21 = .ok (.bipush 60, 2) := by decide +kernel
theorem dX0_init_23 : decode cX0_init 23 = .ok (.newarray .int, 2) := by decide +kernel
theorem dX0_init_25 : decode cX0_init 25 = .ok (.putfield 18, 3) := by decide +kernel
theorem dX0_init_28 : decode cX0_init 28 = .ok (.aload_n 0, 1) := by decide +kernel
theorem dX0_init_29 : decode cX0_init 29 = .ok (.bipush 60, 2) := by decide +kernel
theorem dX0_init_31 : decode cX0_init 31 = .ok (.newarray .int, 2) := by decide +kernel
theorem dX0_init_33 : decode cX0_init 33 = .ok (.putfield 21, 3) := by decide +kernel
theorem dX0_init_36 : decode cX0_init 36 = .ok (.aload_n 0, 1) := by decide +kernel
theorem dX0_init_37 : decode cX0_init 37 = .ok (.bipush 60, 2) := by decide +kernel
theorem dX0_init_39 : decode cX0_init 39 = .ok (.newarray .int, 2) := by decide +kernel
theorem dX0_init_41 : decode cX0_init 41 = .ok (.putfield 24, 3) := by decide +kernel
theorem dX0_init_44 : decode cX0_init 44 = .ok (.aload_n 0, 1) := by decide +kernel
theorem dX0_init_45 : decode cX0_init 45 = .ok (.bipush 60, 2) := by decide +kernel
theorem dX0_init_47 : decode cX0_init 47 = .ok (.newarray .int, 2) := by decide +kernel
theorem dX0_init_49 : decode cX0_init 49 = .ok (.putfield 27, 3) := by decide +kernel
theorem dX0_init_52 : decode cX0_init 52 = .ok (.aload_n 0, 1) := by decide +kernel
theorem dX0_init_53 : decode cX0_init 53 = .ok (.bipush 60, 2) := by decide +kernel
theorem dX0_init_55 : decode cX0_init 55 = .ok (.newarray .int, 2) := by decide +kernel
theorem dX0_init_57 : decode cX0_init 57 = .ok (.putfield 30, 3) := by decide +kernel
theorem dX0_init_60 : decode cX0_init 60 = .ok (.aload_n 0, 1) := by decide +kernel
theorem dX0_init_61 : decode cX0_init 61 = .ok (.bipush 60, 2) := by decide +kernel
theorem dX0_init_63 : decode cX0_init 63 = .ok (.newarray .int, 2) := by decide +kernel
theorem dX0_init_65 : decode cX0_init 65 = .ok (.putfield 33, 3) := by decide +kernel
theorem dX0_init_68 : decode cX0_init 68 = .ok (.return_, 1) := by decide +kernel
set_option maxRecDepth 20000 in
theorem ggX0_take_X9_copy : GoodIn wsX0_take wsX9_copy := goodIn_r _ [12, 13, 14, 15, 16, 17, 18, 19, 20] (by decide +kernel) (by decide +kernel)
set_option maxRecDepth 20000 in
theorem gX0_take_X9_copy_n40 : GoodIn wsX0_take (wsX9_copy) := ggX0_take_X9_copy
theorem dX0_take_0 : decode cX0_take 0 = .ok (.aload_n 0, 1) := by decide +kernel
theorem dX0_take_1 : decode cX0_take 1 = .ok (.aload_n 1, 1) := by decide +kernel
theorem dX0_take_2 : decode cX0_take 2 = .ok (.getfield 36, 3) := by decide +kernel
theorem dX0_take_5 : decode cX0_take 5 = .ok (.putfield 36, 3) := by decide +kernel
theorem dX0_take_8 : decode cX0_take 8 = .ok (.aload_n 1, 1) := by decide +kernel
theorem dX0_take_9 : decode cX0_take 9 = .ok (.getfield 9, 3) := by decide +kernel
theorem dX0_take_12 : decode cX0_take 12 = .ok (.aload_n 0, 1) := by decide +kernel
theorem dX0_take_13 : decode cX0_take 13 = .ok (.getfield 9, 3) := by decide +kernel
theorem dX0_take_16 : decode cX0_take 16 = .ok (.invokestatic 40, 3) := by decide +kernel
theorem dX0_take_19 : decode cX0_take 19 = .ok (.aload_n 1, 1) := by decide +kernel
theorem dX0_take_20 : decode cX0_take 20 = .ok (.getfield 15, 3) := by decide +kernel
theorem dX0_take_23 : decode cX0_take 23 = .ok (.aload_n 0, 1) := by decide +kernel
theorem dX0_take_24 : decode cX0_take 24 = .ok (.getfield 15, 3) := by decide +kernel
theorem dX0_take_27 : decode cX0_take 27 = .ok (.invokestatic 40, 3) := by decide +kernel
theorem dX0_take_30 : decode cX0_take 30 = .ok (.aload_n 1, 1) := by decide +kernel
theorem dX0_take_31 : decode cX0_take 31 = .ok (.getfield 18, 3) := by decide +kernel
theorem dX0_take_34 : decode cX0_take 34 = .ok (.aload_n 0, 1) := by decide +kernel
theorem dX0_take_35 : decode cX0_take 35 = .ok (.getfield 18, 3) := by decide +kernel
theorem dX0_take_38 : decode cX0_take 38 = .ok (.invokestatic 40, 3) := by decide +kernel
theorem dX0_take_41 : decode cX0_take 41 = .ok (.aload_n 1, 1) := by decide +kernel
theorem dX0_take_42 : decode cX0_take 42 = .ok (.getfield 21, 3) := by decide +kernel
theorem dX0_take_45 : decode cX0_take 45 = .ok (.aload_n 0, 1) := by decide +kernel
theorem dX0_take_46 : decode cX0_take 46 = .ok (.getfield 21, 3) := by decide +kernel
theorem dX0_take_49 : decode cX0_take 49 = .ok (.invokestatic 40, 3) := by decide +kernel
theorem dX0_take_52 : decode cX0_take 52 = .ok (.aload_n 1, 1) := by decide +kernel
theorem dX0_take_53 : decode cX0_take 53 = .ok (.getfield 24, 3) := by decide +kernel
theorem dX0_take_56 : decode cX0_take 56 = .ok (.aload_n 0, 1) := by decide +kernel
theorem dX0_take_57 : decode cX0_take 57 = .ok (.getfield 24, 3) := by decide +kernel
theorem dX0_take_60 : decode cX0_take 60 = .ok (.invokestatic 40, 3) := by decide +kernel
theorem dX0_take_63 : decode cX0_take 63 = .ok (.aload_n 1, 1) := by decide +kernel
theorem dX0_take_64 : decode cX0_take 64 = .ok (.getfield 27, 3) := by decide +kernel
theorem dX0_take_67 : decode cX0_take 67 = .ok (.aload_n 0, 1) := by decide +kernel
theorem dX0_take_68 : decode cX0_take 68 = .ok (.getfield 27, 3) := by decide +kernel
theorem dX0_take_71 : decode cX0_take 71 = .ok (.invokestatic 40, 3) := by decide +kernel
theorem dX0_take_74 : decode cX0_take 74 = .ok (.aload_n 1, 1) := by decide +kernel
theorem dX0_take_75 : decode cX0_take 75 = .ok (.getfield 30, 3) := by decide +kernel
theorem dX0_take_78 : decode cX0_take 78 = .ok (.aload_n 0, 1) := by decide +kernel
theorem dX0_take_79 : decode cX0_take 79 = .ok (.getfield 30, 3) := by decide +kernel
theorem dX0_take_82 : decode cX0_take 82 = .ok (.invokestatic 40, 3) := by decide +kernel
theorem dX0_take_85 : decode cX0_take 85 = .ok (.aload_n 1, 1) := by decide +kernel
theorem dX0_take_86 : decode cX0_take 86 = .ok (.getfield 33, 3) := by decide +kernel
theorem dX0_take_89 : decode cX0_take 89 = .ok (.aload_n 0, 1) := by decide +kernel
theorem dX0_take_90 : decode cX0_take 90 = .ok (.getfield 33, 3) := by decide +kernel
theorem dX0_take_93 : decode cX0_take 93 = .ok (.invokestatic 40, 3) := by decide +kernel
theorem dX0_take_96 : decode cX0_take 96 = .ok (.return_, 1) := by decide +kernel
theorem dX0_has_0 : decode cX0_has 0 = .ok (.iload_n 1, 1) := by decide +kernel
theorem dX0_has_1 : decode cX0_has 1 = .ok (.ifCond .lt 15, 3) := by decide +kernel
theorem dX0_has_4 : decode cX0_has 4 = .ok (.iload_n 1, 1) := by decide +kernel
theorem dX0_has_5 : decode cX0_has 5 = .ok (.aload_n 0, 1) := by decide +kernel
theorem dX0_has_6 : decode cX0_has 6 = .ok (.getfield 36, 3) := by decide +kernel
theorem dX0_has_9 : decode cX0_has 9 = .ok (.if_icmp .ge 7, 3) := by decide +kernel
theorem dX0_has_12 : decode cX0_has 12 = .ok (.iconst 1, 1) := by decide +kernel
theorem dX0_has_13 : decode cX0_has 13 = .ok (.goto 4, 3) := by decide +kernel
theorem dX0_has_16 : decode cX0_has 16 = .ok (.iconst 0, 1) := by decide +kernel
theorem dX0_has_17 : decode cX0_has 17 = .ok (.ireturn, 1) := by decide +kernel
set_option maxRecDepth 20000 in
theorem ggX0_write_X9_put : GoodIn wsX0_write wsX9_put := goodIn_r _ [12] (by decide +kernel) (by decide +kernel)
set_option maxRecDepth 20000 in
theorem gX0_write_X9_put_n44 : GoodIn wsX0_write (wsX9_put) := ggX0_write_X9_put
set_option maxRecDepth 20000 in
theorem ggX0_write_X0_kindsOf : GoodIn wsX0_write wsX0_kindsOf := goodIn_r _ [17, 18, 11, 19, 20, 21, 22, 16, 23, 4, 5, 6, 3, 7, 2, 24, 25, 26, 27, 28, 29, 30, 31, 32, 33, 34, 35, 36, 37, 38, 39, 40, 41, 42] (by decide +kernel) (by decide +kernel)
set_option maxRecDepth 20000 in
theorem gX0_write_X0_kindsOf : GoodIn wsX0_write (wsV RX0 48 RX0 yX0_kindsOf wsX0_kindsOf) := goodIn_app (goodIn_of _ (by decide +kernel)) ggX0_write_X0_kindsOf
theorem dX0_write_0 : decode cX0_write 0 = .ok (.aload_n 0, 1) := by decide +kernel
theorem dX0_write_1 : decode cX0_write 1 = .ok (.getfield 36, 3) := by decide +kernel
theorem dX0_write_4 : decode cX0_write 4 = .ok (.bipush 60, 2) := by decide +kernel
theorem dX0_write_6 : decode cX0_write 6 = .ok (.if_icmp .lt 6, 3) := by decide +kernel
theorem dX0_write_9 : decode cX0_write 9 = .ok (.bipush (-4), 2) := by decide +kernel
theorem dX0_write_11 : decode cX0_write 11 = .ok (.ireturn, 1) := by decide +kernel
theorem dX0_write_12 : decode cX0_write 12 = .ok (.aload_n 0, 1) := by decide +kernel
theorem dX0_write_13 : decode cX0_write 13 = .ok (.getfield 36, 3) := by decide +kernel
theorem dX0_write_16 : decode cX0_write 16 = .ok (.istore 7, 2) := by decide +kernel
theorem dX0_write_18 : decode cX0_write 18 = .ok (.aload_n 0, 1) := by decide +kernel
theorem dX0_write_19 : decode cX0_write 19 = .ok (.dup, 1) := by decide +kernel
theorem dX0_write_20 : decode cX0_write 20 = .ok (.getfield 36, 3) := by decide +kernel
theorem dX0_write_23 : decode cX0_write 23 = .ok (.iconst 1, 1) := by decide +kernel
theorem dX0_write_24 : decode cX0_write 24 = .ok (.iadd, 1) := by decide +kernel
theorem dX0_write_25 : decode cX0_write 25 = .ok (.putfield 36, 3) := by decide +kernel
theorem dX0_write_28 : decode cX0_write 28 = .ok (.aload_n 0, 1) := by decide +kernel
theorem dX0_write_29 : decode cX0_write 29 = .ok (.getfield 9, 3) := by decide +kernel
theorem dX0_write_32 : decode cX0_write 32 = .ok (.iload 7, 2) := by decide +kernel
theorem dX0_write_34 : decode cX0_write 34 = .ok (.iload_n 1, 1) := by decide +kernel
theorem dX0_write_35 : decode cX0_write 35 = .ok (.invokestatic 44, 3) := by decide +kernel
theorem dX0_write_38 : decode cX0_write 38 = .ok (.aload_n 0, 1) := by decide +kernel
theorem dX0_write_39 : decode cX0_write 39 = .ok (.getfield 15, 3) := by decide +kernel
theorem dX0_write_42 : decode cX0_write 42 = .ok (.iload 7, 2) := by decide +kernel
theorem dX0_write_44 : decode cX0_write 44 = .ok (.iload_n 2, 1) := by decide +kernel
theorem dX0_write_45 : decode cX0_write 45 = .ok (.invokestatic 44, 3) := by decide +kernel
theorem dX0_write_48 : decode cX0_write 48 = .ok (.aload_n 0, 1) := by decide +kernel
theorem dX0_write_49 : decode cX0_write 49 = .ok (.getfield 18, 3) := by decide +kernel
theorem dX0_write_52 : decode cX0_write 52 = .ok (.iload 7, 2) := by decide +kernel
theorem dX0_write_54 : decode cX0_write 54 = .ok (.iload_n 3, 1) := by decide +kernel
theorem dX0_write_55 : decode cX0_write 55 = .ok (.ifCond .ge 8, 3) := by decide +kernel
theorem dX0_write_58 : decode cX0_write 58 = .ok (.bipush (-6), 2) := by decide +kernel
theorem dX0_write_60 : decode cX0_write 60 = .ok (.goto 4, 3) := by decide +kernel
theorem dX0_write_63 : decode cX0_write 63 = .ok (.iload_n 3, 1) := by decide +kernel
theorem dX0_write_64 : decode cX0_write 64 = .ok (.invokestatic 44, 3) := by decide +kernel
theorem dX0_write_67 : decode cX0_write 67 = .ok (.aload_n 0, 1) := by decide +kernel
theorem dX0_write_68 : decode cX0_write 68 = .ok (.getfield 21, 3) := by decide +kernel
theorem dX0_write_71 : decode cX0_write 71 = .ok (.iload 7, 2) := by decide +kernel
theorem dX0_write_73 : decode cX0_write 73 = .ok (.iload 4, 2) := by decide +kernel
theorem dX0_write_75 : decode cX0_write 75 = .ok (.invokestatic 44, 3) := by decide +kernel
theorem dX0_write_78 : decode cX0_write 78 = .ok (.aload_n 0, 1) := by decide +kernel
theorem dX0_write_79 : decode cX0_write 79 = .ok (.getfield 24, 3) := by decide +kernel
theorem dX0_write_82 : decode cX0_write 82 = .ok (.iload 7, 2) := by decide +kernel
theorem dX0_write_84 : decode cX0_write 84 = .ok (.iload 5, 2) := by decide +kernel
theorem dX0_write_86 : decode cX0_write 86 = .ok (.invokestatic 44, 3) := by decide +kernel
theorem dX0_write_89 : decode cX0_write 89 = .ok (.aload_n 0, 1) := by decide +kernel
theorem dX0_write_90 : decode cX0_write 90 = .ok (.getfield 27, 3) := by decide +kernel
theorem dX0_write_93 : decode cX0_write 93 = .ok (.iload 7, 2) := by decide +kernel
theorem dX0_write_95 : decode cX0_write 95 = .ok (.iload 6, 2) := by decide +kernel
theorem dX0_write_97 : decode cX0_write 97 = .ok (.invokestatic 44, 3) := by decide +kernel
theorem dX0_write_100 : decode cX0_write 100 = .ok (.aload_n 0, 1) := by decide +kernel
theorem dX0_write_101 : decode cX0_write 101 = .ok (.getfield 30, 3) := by decide +kernel
theorem dX0_write_104 : decode cX0_write 104 = .ok (.iload 7, 2) := by decide +kernel
theorem dX0_write_106 : decode cX0_write 106 = .ok (.bipush (-6), 2) := by decide +kernel
theorem dX0_write_108 : decode cX0_write 108 = .ok (.invokestatic 44, 3) := by decide +kernel
theorem dX0_write_111 : decode cX0_write 111 = .ok (.aload_n 0, 1) := by decide +kernel
theorem dX0_write_112 : decode cX0_write 112 = .ok (.getfield 33, 3) := by decide +kernel
theorem dX0_write_115 : decode cX0_write 115 = .ok (.iload 7, 2) := by decide +kernel
theorem dX0_write_117 : decode cX0_write 117 = .ok (.aload_n 0, 1) := by decide +kernel
theorem dX0_write_118 : decode cX0_write 118 = .ok (.iload 7, 2) := by decide +kernel
theorem dX0_write_120 : decode cX0_write 120 = .ok (.invokevirtual 48, 3) := by decide +kernel
theorem dX0_write_123 : decode cX0_write 123 = .ok (.invokestatic 44, 3) := by decide +kernel
theorem dX0_write_126 : decode cX0_write 126 = .ok (.iload 7, 2) := by decide +kernel
theorem dX0_write_128 : decode cX0_write 128 = .ok (.ireturn, 1) := by decide +kernel
theorem dX0_dropLast_0 : decode cX0_dropLast 0 = .ok (.aload_n 0, 1) := by decide +kernel
theorem dX0_dropLast_1 : decode cX0_dropLast 1 = .ok (.getfield 36, 3) := by decide +kernel
theorem dX0_dropLast_4 : decode cX0_dropLast 4 = .ok (.ifCond .gt 6, 3) := by decide +kernel
theorem dX0_dropLast_7 : decode cX0_dropLast 7 = .ok (.bipush (-5), 2) := by decide +kernel
theorem dX0_dropLast_9 : decode cX0_dropLast 9 = .ok (.ireturn, 1) := by decide +kernel
theorem dX0_dropLast_10 : decode cX0_dropLast 10 = .ok (.aload_n 0, 1) := by decide +kernel
theorem dX0_dropLast_11 : decode cX0_dropLast 11 = .ok (.dup, 1) := by decide +kernel
theorem dX0_dropLast_12 : decode cX0_dropLast 12 = .ok (.getfield 36, 3) := by decide +kernel
theorem dX0_dropLast_15 : decode cX0_dropLast 15 = .ok (.iconst 1, 1) := by decide +kernel
theorem dX0_dropLast_16 : decode cX0_dropLast 16 = .ok (.isub, 1) := by decide +kernel
theorem dX0_dropLast_17 : decode cX0_dropLast 17 = .ok (.putfield 36, 3) := by decide +kernel
theorem dX0_dropLast_20 : decode cX0_dropLast 20 = .ok (.aload_n 0, 1) := by decide +kernel
theorem dX0_dropLast_21 : decode cX0_dropLast 21 = .ok (.getfield 36, 3) := by decide +kernel
theorem dX0_dropLast_24 : decode cX0_dropLast 24 = .ok (.ireturn, 1) := by decide +kernel
set_option maxRecDepth 20000 in
theorem ggX0_hear_X0_wireOf : GoodIn wsX0_hear wsX0_wireOf := goodIn_r _ [6, 1, 7, 8, 9, 12, 13, 14, 15, 16, 17, 18, 19, 20] (by decide +kernel) (by decide +kernel)
set_option maxRecDepth 20000 in
theorem gX0_hear_X0_wireOf : GoodIn wsX0_hear (wsV RX0 52 RX0 yX0_wireOf wsX0_wireOf) := goodIn_app (goodIn_of _ (by decide +kernel)) ggX0_hear_X0_wireOf
set_option maxRecDepth 20000 in
theorem ggX0_hear_X9_put : GoodIn wsX0_hear wsX9_put := goodIn_r _ [11] (by decide +kernel) (by decide +kernel)
set_option maxRecDepth 20000 in
theorem gX0_hear_X9_put_n44 : GoodIn wsX0_hear (wsX9_put) := ggX0_hear_X9_put
theorem dX0_hear_0 : decode cX0_hear 0 = .ok (.aload_n 0, 1) := by decide +kernel
theorem dX0_hear_1 : decode cX0_hear 1 = .ok (.iload_n 1, 1) := by decide +kernel
theorem dX0_hear_2 : decode cX0_hear 2 = .ok (.invokevirtual 52, 3) := by decide +kernel
theorem dX0_hear_5 : decode cX0_hear 5 = .ok (.istore_n 3, 1) := by decide +kernel
theorem dX0_hear_6 : decode cX0_hear 6 = .ok (.aload_n 0, 1) := by decide +kernel
theorem dX0_hear_7 : decode cX0_hear 7 = .ok (.getfield 30, 3) := by decide +kernel
theorem dX0_hear_10 : decode cX0_hear 10 = .ok (.iload_n 1, 1) := by decide +kernel
theorem dX0_hear_11 : decode cX0_hear 11 = .ok (.iload_n 2, 1) := by decide +kernel
theorem dX0_hear_12 : decode cX0_hear 12 = .ok (.ifCond .ge 8, 3) := by decide +kernel
theorem dX0_hear_15 : decode cX0_hear 15 = .ok (.bipush (-6), 2) := by decide +kernel
theorem dX0_hear_17 : decode cX0_hear 17 = .ok (.goto 4, 3) := by decide +kernel
theorem dX0_hear_20 : decode cX0_hear 20 = .ok (.iload_n 2, 1) := by decide +kernel
theorem dX0_hear_21 : decode cX0_hear 21 = .ok (.invokestatic 44, 3) := by decide +kernel
theorem dX0_hear_24 : decode cX0_hear 24 = .ok (.iload_n 3, 1) := by decide +kernel
theorem dX0_hear_25 : decode cX0_hear 25 = .ok (.ireturn, 1) := by decide +kernel
set_option maxRecDepth 20000 in
theorem ggX0_wireOf_X9_at : GoodIn wsX0_wireOf wsX9_at := goodIn_r _ [4] (by decide +kernel) (by decide +kernel)
set_option maxRecDepth 20000 in
theorem gX0_wireOf_X9_at_n55 : GoodIn wsX0_wireOf (wsX9_at) := ggX0_wireOf_X9_at
theorem dX0_wireOf_0 : decode cX0_wireOf 0 = .ok (.aload_n 0, 1) := by decide +kernel
theorem dX0_wireOf_1 : decode cX0_wireOf 1 = .ok (.getfield 30, 3) := by decide +kernel
theorem dX0_wireOf_4 : decode cX0_wireOf 4 = .ok (.iload_n 1, 1) := by decide +kernel
theorem dX0_wireOf_5 : decode cX0_wireOf 5 = .ok (.invokestatic 55, 3) := by decide +kernel
theorem dX0_wireOf_8 : decode cX0_wireOf 8 = .ok (.ireturn, 1) := by decide +kernel
set_option maxRecDepth 20000 in
theorem ggX0_rainOf_X9_at : GoodIn wsX0_rainOf wsX9_at := goodIn_r _ [4] (by decide +kernel) (by decide +kernel)
set_option maxRecDepth 20000 in
theorem gX0_rainOf_X9_at_n55 : GoodIn wsX0_rainOf (wsX9_at) := ggX0_rainOf_X9_at
theorem dX0_rainOf_0 : decode cX0_rainOf 0 = .ok (.aload_n 0, 1) := by decide +kernel
theorem dX0_rainOf_1 : decode cX0_rainOf 1 = .ok (.getfield 27, 3) := by decide +kernel
theorem dX0_rainOf_4 : decode cX0_rainOf 4 = .ok (.iload_n 1, 1) := by decide +kernel
theorem dX0_rainOf_5 : decode cX0_rainOf 5 = .ok (.invokestatic 55, 3) := by decide +kernel
theorem dX0_rainOf_8 : decode cX0_rainOf 8 = .ok (.ireturn, 1) := by decide +kernel
set_option maxRecDepth 20000 in
theorem ggX0_lookOf_X9_at : GoodIn wsX0_lookOf wsX9_at := goodIn_r _ [9] (by decide +kernel) (by decide +kernel)
set_option maxRecDepth 20000 in
theorem gX0_lookOf_X9_at_n55 : GoodIn wsX0_lookOf (wsX9_at) := ggX0_lookOf_X9_at
set_option maxRecDepth 20000 in
theorem ggX0_lookOf_X0_rise : GoodIn wsX0_lookOf wsX0_rise := goodIn_r _ [13, 14, 15, 16, 17] (by decide +kernel) (by decide +kernel)
set_option maxRecDepth 20000 in
theorem gX0_lookOf_X0_rise : GoodIn wsX0_lookOf (va_wsS RX0 59 yX0_rise wsX0_rise) := goodIn_app (goodIn_of _ (by decide +kernel)) ggX0_lookOf_X0_rise
theorem dX0_lookOf_0 : decode cX0_lookOf 0 = .ok (.iload_n 2, 1) := by decide +kernel
theorem dX0_lookOf_1 : decode cX0_lookOf 1 = .ok (.tableswitch 160 0 8 #[51, 60, 69, 78, 87, 98, 120, 142, 151], 51) := by decide +kernel
theorem dX0_lookOf_52 : decode cX0_lookOf 52 = .ok (.aload_n 0, 1) := by decide +kernel
theorem dX0_lookOf_53 : decode cX0_lookOf 53 = .ok (.getfield 18, 3) := by decide +kernel
theorem dX0_lookOf_56 : decode cX0_lookOf 56 = .ok (.iload_n 1, 1) := by decide +kernel
theorem dX0_lookOf_57 : decode cX0_lookOf 57 = .ok (.invokestatic 55, 3) := by decide +kernel
theorem dX0_lookOf_60 : decode cX0_lookOf 60 = .ok (.ireturn, 1) := by decide +kernel
theorem dX0_lookOf_61 : decode cX0_lookOf 61 = .ok (.aload_n 0, 1) := by decide +kernel
theorem dX0_lookOf_62 : decode cX0_lookOf 62 = .ok (.getfield 21, 3) := by decide +kernel
theorem dX0_lookOf_65 : decode cX0_lookOf 65 = .ok (.iload_n 1, 1) := by decide +kernel
theorem dX0_lookOf_66 : decode cX0_lookOf 66 = .ok (.invokestatic 55, 3) := by decide +kernel
theorem dX0_lookOf_69 : decode cX0_lookOf 69 = .ok (.ireturn, 1) := by decide +kernel
theorem dX0_lookOf_70 : decode cX0_lookOf 70 = .ok (.aload_n 0, 1) := by decide +kernel
theorem dX0_lookOf_71 : decode cX0_lookOf 71 = .ok (.getfield 24, 3) := by decide +kernel
theorem dX0_lookOf_74 : decode cX0_lookOf 74 = .ok (.iload_n 1, 1) := by decide +kernel
theorem dX0_lookOf_75 : decode cX0_lookOf 75 = .ok (.invokestatic 55, 3) := by decide +kernel
theorem dX0_lookOf_78 : decode cX0_lookOf 78 = .ok (.ireturn, 1) := by decide +kernel
theorem dX0_lookOf_79 : decode cX0_lookOf 79 = .ok (.aload_n 0, 1) := by decide +kernel
theorem dX0_lookOf_80 : decode cX0_lookOf 80 = .ok (.getfield 15, 3) := by decide +kernel
theorem dX0_lookOf_83 : decode cX0_lookOf 83 = .ok (.iload_n 1, 1) := by decide +kernel
theorem dX0_lookOf_84 : decode cX0_lookOf 84 = .ok (.invokestatic 55, 3) := by decide +kernel
theorem dX0_lookOf_87 : decode cX0_lookOf 87 = .ok (.ireturn, 1) := by decide +kernel
theorem dX0_lookOf_88 : decode cX0_lookOf 88 = .ok (.aload_n 0, 1) := by decide +kernel
theorem dX0_lookOf_89 : decode cX0_lookOf 89 = .ok (.getfield 27, 3) := by decide +kernel
theorem dX0_lookOf_92 : decode cX0_lookOf 92 = .ok (.iload_n 1, 1) := by decide +kernel
theorem dX0_lookOf_93 : decode cX0_lookOf 93 = .ok (.iconst 1, 1) := by decide +kernel
theorem dX0_lookOf_94 : decode cX0_lookOf 94 = .ok (.isub, 1) := by decide +kernel
theorem dX0_lookOf_95 : decode cX0_lookOf 95 = .ok (.invokestatic 55, 3) := by decide +kernel
theorem dX0_lookOf_98 : decode cX0_lookOf 98 = .ok (.ireturn, 1) := by decide +kernel
theorem dX0_lookOf_99 : decode cX0_lookOf 99 = .ok (.aload_n 0, 1) := by decide +kernel
theorem dX0_lookOf_100 : decode cX0_lookOf 100 = .ok (.getfield 18, 3) := by decide +kernel
theorem dX0_lookOf_103 : decode cX0_lookOf 103 = .ok (.iload_n 1, 1) := by decide +kernel
theorem dX0_lookOf_104 : decode cX0_lookOf 104 = .ok (.invokestatic 55, 3) := by decide +kernel
theorem dX0_lookOf_107 : decode cX0_lookOf 107 = .ok (.aload_n 0, 1) := by decide +kernel
theorem dX0_lookOf_108 : decode cX0_lookOf 108 = .ok (.getfield 18, 3) := by decide +kernel
theorem dX0_lookOf_111 : decode cX0_lookOf 111 = .ok (.iload_n 1, 1) := by decide +kernel
theorem dX0_lookOf_112 : decode cX0_lookOf 112 = .ok (.iconst 1, 1) := by decide +kernel
theorem dX0_lookOf_113 : decode cX0_lookOf 113 = .ok (.isub, 1) := by decide +kernel
theorem dX0_lookOf_114 : decode cX0_lookOf 114 = .ok (.invokestatic 55, 3) := by decide +kernel
theorem dX0_lookOf_117 : decode cX0_lookOf 117 = .ok (.invokestatic 59, 3) := by decide +kernel
theorem dX0_lookOf_120 : decode cX0_lookOf 120 = .ok (.ireturn, 1) := by decide +kernel
theorem dX0_lookOf_121 : decode cX0_lookOf 121 = .ok (.aload_n 0, 1) := by decide +kernel
theorem dX0_lookOf_122 : decode cX0_lookOf 122 = .ok (.getfield 18, 3) := by decide +kernel
theorem dX0_lookOf_125 : decode cX0_lookOf 125 = .ok (.iload_n 1, 1) := by decide +kernel
theorem dX0_lookOf_126 : decode cX0_lookOf 126 = .ok (.iconst 1, 1) := by decide +kernel
theorem dX0_lookOf_127 : decode cX0_lookOf 127 = .ok (.isub, 1) := by decide +kernel
theorem dX0_lookOf_128 : decode cX0_lookOf 128 = .ok (.invokestatic 55, 3) := by decide +kernel
theorem dX0_lookOf_131 : decode cX0_lookOf 131 = .ok (.aload_n 0, 1) := by decide +kernel
theorem dX0_lookOf_132 : decode cX0_lookOf 132 = .ok (.getfield 18, 3) := by decide +kernel
theorem dX0_lookOf_135 : decode cX0_lookOf 135 = .ok (.iload_n 1, 1) := by decide +kernel
theorem dX0_lookOf_136 : decode cX0_lookOf 136 = .ok (.invokestatic 55, 3) := by decide +kernel
theorem dX0_lookOf_139 : decode cX0_lookOf 139 = .ok (.invokestatic 59, 3) := by decide +kernel
theorem dX0_lookOf_142 : decode cX0_lookOf 142 = .ok (.ireturn, 1) := by decide +kernel
theorem dX0_lookOf_143 : decode cX0_lookOf 143 = .ok (.aload_n 0, 1) := by decide +kernel
theorem dX0_lookOf_144 : decode cX0_lookOf 144 = .ok (.getfield 9, 3) := by decide +kernel
theorem dX0_lookOf_147 : decode cX0_lookOf 147 = .ok (.iload_n 1, 1) := by decide +kernel
theorem dX0_lookOf_148 : decode cX0_lookOf 148 = .ok (.invokestatic 55, 3) := by decide +kernel
theorem dX0_lookOf_151 : decode cX0_lookOf 151 = .ok (.ireturn, 1) := by decide +kernel
theorem dX0_lookOf_152 : decode cX0_lookOf 152 = .ok (.aload_n 0, 1) := by decide +kernel
theorem dX0_lookOf_153 : decode cX0_lookOf 153 = .ok (.getfield 27, 3) := by decide +kernel
theorem dX0_lookOf_156 : decode cX0_lookOf 156 = .ok (.iload_n 1, 1) := by decide +kernel
theorem dX0_lookOf_157 : decode cX0_lookOf 157 = .ok (.invokestatic 55, 3) := by decide +kernel
theorem dX0_lookOf_160 : decode cX0_lookOf 160 = .ok (.ireturn, 1) := by decide +kernel
theorem dX0_lookOf_161 : decode cX0_lookOf 161 = .ok (.bipush (-6), 2) := by decide +kernel
theorem dX0_lookOf_163 : decode cX0_lookOf 163 = .ok (.ireturn, 1) := by decide +kernel
theorem dX0_rise_0 : decode cX0_rise 0 = .ok (.iload_n 0, 1) := by decide +kernel
theorem dX0_rise_1 : decode cX0_rise 1 = .ok (.bipush (-6), 2) := by decide +kernel
theorem dX0_rise_3 : decode cX0_rise 3 = .ok (.if_icmp .eq 9, 3) := by decide +kernel
theorem dX0_rise_6 : decode cX0_rise 6 = .ok (.iload_n 1, 1) := by decide +kernel
theorem dX0_rise_7 : decode cX0_rise 7 = .ok (.bipush (-6), 2) := by decide +kernel
theorem dX0_rise_9 : decode cX0_rise 9 = .ok (.if_icmp .ne 8, 3) := by decide +kernel
theorem dX0_rise_12 : decode cX0_rise 12 = .ok (.bipush (-6), 2) := by decide +kernel
theorem dX0_rise_14 : decode cX0_rise 14 = .ok (.goto 10, 3) := by decide +kernel
theorem dX0_rise_17 : decode cX0_rise 17 = .ok (.iconst 0, 1) := by decide +kernel
theorem dX0_rise_18 : decode cX0_rise 18 = .ok (.iload_n 1, 1) := by decide +kernel
theorem dX0_rise_19 : decode cX0_rise 19 = .ok (.iload_n 0, 1) := by decide +kernel
theorem dX0_rise_20 : decode cX0_rise 20 = .ok (.isub, 1) := by decide +kernel
theorem dX0_rise_21 : decode cX0_rise 21 = .ok (.invokestatic 63, 3) := by decide +kernel
theorem dX0_rise_24 : decode cX0_rise 24 = .ok (.ireturn, 1) := by decide +kernel
set_option maxRecDepth 20000 in
theorem ggX0_kindsOf_X9_at : GoodIn wsX0_kindsOf wsX9_at := goodIn_r _ [3] (by decide +kernel) (by decide +kernel)
set_option maxRecDepth 20000 in
theorem gX0_kindsOf_X9_at_n55 : GoodIn wsX0_kindsOf (wsX9_at) := ggX0_kindsOf_X9_at
set_option maxRecDepth 20000 in
theorem ggX0_kindsOf_X0_lookOf : GoodIn wsX0_kindsOf wsX0_lookOf := goodIn_r _ [8, 9, 10, 11, 12, 13, 14, 1, 2, 3, 15, 16, 7, 17, 18, 19, 20, 21, 25, 26, 27, 28, 29, 30, 31, 32, 33] (by decide +kernel) (by decide +kernel)
set_option maxRecDepth 20000 in
theorem gX0_kindsOf_X0_lookOf : GoodIn wsX0_kindsOf (wsV RX0 71 RX0 yX0_lookOf wsX0_lookOf) := goodIn_app (goodIn_of _ (by decide +kernel)) ggX0_kindsOf_X0_lookOf
set_option maxRecDepth 20000 in
theorem ggX0_kindsOf_X0_kindOf : GoodIn wsX0_kindsOf wsX0_kindOf := goodIn_r _ [24] (by decide +kernel) (by decide +kernel)
set_option maxRecDepth 20000 in
theorem gX0_kindsOf_X0_kindOf : GoodIn wsX0_kindsOf (va_wsS RX0 74 yX0_kindOf wsX0_kindOf) := goodIn_app (goodIn_of _ (by decide +kernel)) ggX0_kindsOf_X0_kindOf
theorem dX0_kindsOf_0 : decode cX0_kindsOf 0 = .ok (.iconst 0, 1) := by decide +kernel
theorem dX0_kindsOf_1 : decode cX0_kindsOf 1 = .ok (.istore_n 2, 1) := by decide +kernel
theorem dX0_kindsOf_2 : decode cX0_kindsOf 2 = .ok (.iconst 0, 1) := by decide +kernel
theorem dX0_kindsOf_3 : decode cX0_kindsOf 3 = .ok (.istore_n 3, 1) := by decide +kernel
theorem dX0_kindsOf_4 : decode cX0_kindsOf 4 = .ok (.iload_n 3, 1) := by decide +kernel
theorem dX0_kindsOf_5 : decode cX0_kindsOf 5 = .ok (.bipush 6, 2) := by decide +kernel
theorem dX0_kindsOf_7 : decode cX0_kindsOf 7 = .ok (.if_icmp .ge 32, 3) := by decide +kernel
theorem dX0_kindsOf_10 : decode cX0_kindsOf 10 = .ok (.iload_n 2, 1) := by decide +kernel
theorem dX0_kindsOf_11 : decode cX0_kindsOf 11 = .ok (.iload_n 3, 1) := by decide +kernel
theorem dX0_kindsOf_12 : decode cX0_kindsOf 12 = .ok (.aload_n 0, 1) := by decide +kernel
theorem dX0_kindsOf_13 : decode cX0_kindsOf 13 = .ok (.iload_n 1, 1) := by decide +kernel
theorem dX0_kindsOf_14 : decode cX0_kindsOf 14 = .ok (.getstatic 68, 3) := by decide +kernel
theorem dX0_kindsOf_17 : decode cX0_kindsOf 17 = .ok (.iload_n 3, 1) := by decide +kernel
theorem dX0_kindsOf_18 : decode cX0_kindsOf 18 = .ok (.invokestatic 55, 3) := by decide +kernel
theorem dX0_kindsOf_21 : decode cX0_kindsOf 21 = .ok (.invokevirtual 71, 3) := by decide +kernel
theorem dX0_kindsOf_24 : decode cX0_kindsOf 24 = .ok (.invokestatic 74, 3) := by decide +kernel
theorem dX0_kindsOf_27 : decode cX0_kindsOf 27 = .ok (.iconst 4, 1) := by decide +kernel
theorem dX0_kindsOf_28 : decode cX0_kindsOf 28 = .ok (.iload_n 3, 1) := by decide +kernel
theorem dX0_kindsOf_29 : decode cX0_kindsOf 29 = .ok (.imul, 1) := by decide +kernel
theorem dX0_kindsOf_30 : decode cX0_kindsOf 30 = .ok (.ishl, 1) := by decide +kernel
theorem dX0_kindsOf_31 : decode cX0_kindsOf 31 = .ok (.ior, 1) := by decide +kernel
theorem dX0_kindsOf_32 : decode cX0_kindsOf 32 = .ok (.istore_n 2, 1) := by decide +kernel
theorem dX0_kindsOf_33 : decode cX0_kindsOf 33 = .ok (.iinc 3 1, 3) := by decide +kernel
theorem dX0_kindsOf_36 : decode cX0_kindsOf 36 = .ok (.goto (-32), 3) := by decide +kernel
theorem dX0_kindsOf_39 : decode cX0_kindsOf 39 = .ok (.iload_n 2, 1) := by decide +kernel
theorem dX0_kindsOf_40 : decode cX0_kindsOf 40 = .ok (.ireturn, 1) := by decide +kernel
theorem dX0_kindOf_0 : decode cX0_kindOf 0 = .ok (.iload_n 1, 1) := by decide +kernel
theorem dX0_kindOf_1 : decode cX0_kindOf 1 = .ok (.bipush (-6), 2) := by decide +kernel
theorem dX0_kindOf_3 : decode cX0_kindOf 3 = .ok (.if_icmp .ne 6, 3) := by decide +kernel
theorem dX0_kindOf_6 : decode cX0_kindOf 6 = .ok (.bipush 15, 2) := by decide +kernel
theorem dX0_kindOf_8 : decode cX0_kindOf 8 = .ok (.ireturn, 1) := by decide +kernel
theorem dX0_kindOf_9 : decode cX0_kindOf 9 = .ok (.iload_n 0, 1) := by decide +kernel
theorem dX0_kindOf_10 : decode cX0_kindOf 10 = .ok (.tableswitch 66 0 4 #[34, 39, 58, 66, 62], 34) := by decide +kernel
theorem dX0_kindOf_44 : decode cX0_kindOf 44 = .ok (.iload_n 1, 1) := by decide +kernel
theorem dX0_kindOf_45 : decode cX0_kindOf 45 = .ok (.bipush 20, 2) := by decide +kernel
theorem dX0_kindOf_47 : decode cX0_kindOf 47 = .ok (.idiv, 1) := by decide +kernel
theorem dX0_kindOf_48 : decode cX0_kindOf 48 = .ok (.ireturn, 1) := by decide +kernel
theorem dX0_kindOf_49 : decode cX0_kindOf 49 = .ok (.iload_n 1, 1) := by decide +kernel
theorem dX0_kindOf_50 : decode cX0_kindOf 50 = .ok (.ifCond .ne 7, 3) := by decide +kernel
theorem dX0_kindOf_53 : decode cX0_kindOf 53 = .ok (.iconst 0, 1) := by decide +kernel
theorem dX0_kindOf_54 : decode cX0_kindOf 54 = .ok (.goto 13, 3) := by decide +kernel
theorem dX0_kindOf_57 : decode cX0_kindOf 57 = .ok (.iload_n 1, 1) := by decide +kernel
theorem dX0_kindOf_58 : decode cX0_kindOf 58 = .ok (.iconst 5, 1) := by decide +kernel
theorem dX0_kindOf_59 : decode cX0_kindOf 59 = .ok (.if_icmp .ge 7, 3) := by decide +kernel
theorem dX0_kindOf_62 : decode cX0_kindOf 62 = .ok (.iconst 1, 1) := by decide +kernel
theorem dX0_kindOf_63 : decode cX0_kindOf 63 = .ok (.goto 4, 3) := by decide +kernel
theorem dX0_kindOf_66 : decode cX0_kindOf 66 = .ok (.iconst 2, 1) := by decide +kernel
theorem dX0_kindOf_67 : decode cX0_kindOf 67 = .ok (.ireturn, 1) := by decide +kernel
theorem dX0_kindOf_68 : decode cX0_kindOf 68 = .ok (.iload_n 1, 1) := by decide +kernel
theorem dX0_kindOf_69 : decode cX0_kindOf 69 = .ok (.iconst 2, 1) := by decide +kernel
theorem dX0_kindOf_70 : decode cX0_kindOf 70 = .ok (.idiv, 1) := by decide +kernel
theorem dX0_kindOf_71 : decode cX0_kindOf 71 = .ok (.ireturn, 1) := by decide +kernel
theorem dX0_kindOf_72 : decode cX0_kindOf 72 = .ok (.iload_n 1, 1) := by decide +kernel
theorem dX0_kindOf_73 : decode cX0_kindOf 73 = .ok (.iconst 3, 1) := by decide +kernel
theorem dX0_kindOf_74 : decode cX0_kindOf 74 = .ok (.idiv, 1) := by decide +kernel
theorem dX0_kindOf_75 : decode cX0_kindOf 75 = .ok (.ireturn, 1) := by decide +kernel
theorem dX0_kindOf_76 : decode cX0_kindOf 76 = .ok (.iload_n 1, 1) := by decide +kernel
theorem dX0_kindOf_77 : decode cX0_kindOf 77 = .ok (.ireturn, 1) := by decide +kernel
set_option maxRecDepth 20000 in
theorem ggX0_inOtherYears_X9_at : GoodIn wsX0_inOtherYears wsX9_at := goodIn_r _ [4] (by decide +kernel) (by decide +kernel)
set_option maxRecDepth 20000 in
theorem gX0_inOtherYears_X9_at_n55 : GoodIn wsX0_inOtherYears (wsX9_at) := ggX0_inOtherYears_X9_at
theorem dX0_inOtherYears_0 : decode cX0_inOtherYears 0 = .ok (.aload_n 0, 1) := by decide +kernel
theorem dX0_inOtherYears_1 : decode cX0_inOtherYears 1 = .ok (.getfield 9, 3) := by decide +kernel
theorem dX0_inOtherYears_4 : decode cX0_inOtherYears 4 = .ok (.iload_n 1, 1) := by decide +kernel
theorem dX0_inOtherYears_5 : decode cX0_inOtherYears 5 = .ok (.invokestatic 55, 3) := by decide +kernel
theorem dX0_inOtherYears_8 : decode cX0_inOtherYears 8 = .ok (.aload_n 0, 1) := by decide +kernel
theorem dX0_inOtherYears_9 : decode cX0_inOtherYears 9 = .ok (.getfield 9, 3) := by decide +kernel
theorem dX0_inOtherYears_12 : decode cX0_inOtherYears 12 = .ok (.iload_n 2, 1) := by decide +kernel
theorem dX0_inOtherYears_13 : decode cX0_inOtherYears 13 = .ok (.invokestatic 55, 3) := by decide +kernel
theorem dX0_inOtherYears_16 : decode cX0_inOtherYears 16 = .ok (.if_icmp .eq 7, 3) := by decide +kernel
theorem dX0_inOtherYears_19 : decode cX0_inOtherYears 19 = .ok (.iconst 1, 1) := by decide +kernel
theorem dX0_inOtherYears_20 : decode cX0_inOtherYears 20 = .ok (.goto 4, 3) := by decide +kernel
theorem dX0_inOtherYears_23 : decode cX0_inOtherYears 23 = .ok (.iconst 0, 1) := by decide +kernel
theorem dX0_inOtherYears_24 : decode cX0_inOtherYears 24 = .ok (.ireturn, 1) := by decide +kernel
set_option maxRecDepth 20000 in
theorem ggX0_alikeKeys_X9_at : GoodIn wsX0_alikeKeys wsX9_at := goodIn_r _ [4] (by decide +kernel) (by decide +kernel)
set_option maxRecDepth 20000 in
theorem gX0_alikeKeys_X9_at_n55 : GoodIn wsX0_alikeKeys (wsX9_at) := ggX0_alikeKeys_X9_at
theorem dX0_alikeKeys_0 : decode cX0_alikeKeys 0 = .ok (.aload_n 0, 1) := by decide +kernel
theorem dX0_alikeKeys_1 : decode cX0_alikeKeys 1 = .ok (.getfield 33, 3) := by decide +kernel
theorem dX0_alikeKeys_4 : decode cX0_alikeKeys 4 = .ok (.iload_n 1, 1) := by decide +kernel
theorem dX0_alikeKeys_5 : decode cX0_alikeKeys 5 = .ok (.invokestatic 55, 3) := by decide +kernel
theorem dX0_alikeKeys_8 : decode cX0_alikeKeys 8 = .ok (.istore_n 3, 1) := by decide +kernel
theorem dX0_alikeKeys_9 : decode cX0_alikeKeys 9 = .ok (.iload_n 3, 1) := by decide +kernel
theorem dX0_alikeKeys_10 : decode cX0_alikeKeys 10 = .ok (.aload_n 0, 1) := by decide +kernel
theorem dX0_alikeKeys_11 : decode cX0_alikeKeys 11 = .ok (.getfield 33, 3) := by decide +kernel
theorem dX0_alikeKeys_14 : decode cX0_alikeKeys 14 = .ok (.iload_n 2, 1) := by decide +kernel
theorem dX0_alikeKeys_15 : decode cX0_alikeKeys 15 = .ok (.invokestatic 55, 3) := by decide +kernel
theorem dX0_alikeKeys_18 : decode cX0_alikeKeys 18 = .ok (.ixor, 1) := by decide +kernel
theorem dX0_alikeKeys_19 : decode cX0_alikeKeys 19 = .ok (.istore 4, 2) := by decide +kernel
theorem dX0_alikeKeys_21 : decode cX0_alikeKeys 21 = .ok (.iconst 0, 1) := by decide +kernel
theorem dX0_alikeKeys_22 : decode cX0_alikeKeys 22 = .ok (.istore 5, 2) := by decide +kernel
theorem dX0_alikeKeys_24 : decode cX0_alikeKeys 24 = .ok (.iconst 0, 1) := by decide +kernel
theorem dX0_alikeKeys_25 : decode cX0_alikeKeys 25 = .ok (.istore 6, 2) := by decide +kernel
theorem dX0_alikeKeys_27 : decode cX0_alikeKeys 27 = .ok (.iload 6, 2) := by decide +kernel
theorem dX0_alikeKeys_29 : decode cX0_alikeKeys 29 = .ok (.bipush 6, 2) := by decide +kernel
theorem dX0_alikeKeys_31 : decode cX0_alikeKeys 31 = .ok (.if_icmp .ge 47, 3) := by decide +kernel
theorem dX0_alikeKeys_34 : decode cX0_alikeKeys 34 = .ok (.iconst 4, 1) := by decide +kernel
theorem dX0_alikeKeys_35 : decode cX0_alikeKeys 35 = .ok (.iload 6, 2) := by decide +kernel
theorem dX0_alikeKeys_37 : decode cX0_alikeKeys 37 = .ok (.imul, 1) := by decide +kernel
theorem dX0_alikeKeys_38 : decode cX0_alikeKeys 38 = .ok (.istore 7, 2) := by decide +kernel
theorem dX0_alikeKeys_40 : decode cX0_alikeKeys 40 = .ok (.iload 4, 2) := by decide +kernel
theorem dX0_alikeKeys_42 : decode cX0_alikeKeys 42 = .ok (.iload 7, 2) := by decide +kernel
theorem dX0_alikeKeys_44 : decode cX0_alikeKeys 44 = .ok (.ishr, 1) := by decide +kernel
theorem dX0_alikeKeys_45 : decode cX0_alikeKeys 45 = .ok (.bipush 15, 2) := by decide +kernel
theorem dX0_alikeKeys_47 : decode cX0_alikeKeys 47 = .ok (.iand, 1) := by decide +kernel
theorem dX0_alikeKeys_48 : decode cX0_alikeKeys 48 = .ok (.ifCond .ne 24, 3) := by decide +kernel
theorem dX0_alikeKeys_51 : decode cX0_alikeKeys 51 = .ok (.iload_n 3, 1) := by decide +kernel
theorem dX0_alikeKeys_52 : decode cX0_alikeKeys 52 = .ok (.iload 7, 2) := by decide +kernel
theorem dX0_alikeKeys_54 : decode cX0_alikeKeys 54 = .ok (.ishr, 1) := by decide +kernel
theorem dX0_alikeKeys_55 : decode cX0_alikeKeys 55 = .ok (.bipush 15, 2) := by decide +kernel
theorem dX0_alikeKeys_57 : decode cX0_alikeKeys 57 = .ok (.iand, 1) := by decide +kernel
theorem dX0_alikeKeys_58 : decode cX0_alikeKeys 58 = .ok (.bipush 15, 2) := by decide +kernel
theorem dX0_alikeKeys_60 : decode cX0_alikeKeys 60 = .ok (.if_icmp .eq 12, 3) := by decide +kernel
theorem dX0_alikeKeys_63 : decode cX0_alikeKeys 63 = .ok (.iload 5, 2) := by decide +kernel
theorem dX0_alikeKeys_65 : decode cX0_alikeKeys 65 = .ok (.iconst 1, 1) := by decide +kernel
theorem dX0_alikeKeys_66 : decode cX0_alikeKeys 66 = .ok (.iload 6, 2) := by decide +kernel
theorem dX0_alikeKeys_68 : decode cX0_alikeKeys 68 = .ok (.ishl, 1) := by decide +kernel
theorem dX0_alikeKeys_69 : decode cX0_alikeKeys 69 = .ok (.ior, 1) := by decide +kernel
theorem dX0_alikeKeys_70 : decode cX0_alikeKeys 70 = .ok (.istore 5, 2) := by decide +kernel
theorem dX0_alikeKeys_72 : decode cX0_alikeKeys 72 = .ok (.iinc 6 1, 3) := by decide +kernel
theorem dX0_alikeKeys_75 : decode cX0_alikeKeys 75 = .ok (.goto (-48), 3) := by decide +kernel
theorem dX0_alikeKeys_78 : decode cX0_alikeKeys 78 = .ok (.iload 5, 2) := by decide +kernel
theorem dX0_alikeKeys_80 : decode cX0_alikeKeys 80 = .ok (.ireturn, 1) := by decide +kernel
set_option maxRecDepth 20000 in
theorem ggX0_areLike_X0_inOtherYears : GoodIn wsX0_areLike wsX0_inOtherYears := goodIn_r _ [5, 6, 7, 8, 9, 15, 16, 17, 18, 19, 20, 21, 22, 23] (by decide +kernel) (by decide +kernel)
set_option maxRecDepth 20000 in
theorem gX0_areLike_X0_inOtherYears : GoodIn wsX0_areLike (wsV RX0 77 RX0 yX0_inOtherYears wsX0_inOtherYears) := goodIn_app (goodIn_of _ (by decide +kernel)) ggX0_areLike_X0_inOtherYears
set_option maxRecDepth 20000 in
theorem ggX0_areLike_X0_alikeKeys : GoodIn wsX0_areLike wsX0_alikeKeys := goodIn_r _ [13, 14, 7, 8, 9, 15, 16, 17, 18, 19, 20, 21, 22, 23] (by decide +kernel) (by decide +kernel)
set_option maxRecDepth 20000 in
theorem gX0_areLike_X0_alikeKeys : GoodIn wsX0_areLike (wsV RX0 81 RX0 yX0_alikeKeys wsX0_alikeKeys) := goodIn_app (goodIn_of _ (by decide +kernel)) ggX0_areLike_X0_alikeKeys
theorem dX0_areLike_0 : decode cX0_areLike 0 = .ok (.aload_n 0, 1) := by decide +kernel
theorem dX0_areLike_1 : decode cX0_areLike 1 = .ok (.iload_n 1, 1) := by decide +kernel
theorem dX0_areLike_2 : decode cX0_areLike 2 = .ok (.iload_n 2, 1) := by decide +kernel
theorem dX0_areLike_3 : decode cX0_areLike 3 = .ok (.invokevirtual 77, 3) := by decide +kernel
theorem dX0_areLike_6 : decode cX0_areLike 6 = .ok (.ifCond .eq 19, 3) := by decide +kernel
theorem dX0_areLike_9 : decode cX0_areLike 9 = .ok (.aload_n 0, 1) := by decide +kernel
theorem dX0_areLike_10 : decode cX0_areLike 10 = .ok (.iload_n 1, 1) := by decide +kernel
theorem dX0_areLike_11 : decode cX0_areLike 11 = .ok (.iload_n 2, 1) := by decide +kernel
theorem dX0_areLike_12 : decode cX0_areLike 12 = .ok (.invokevirtual 81, 3) := by decide +kernel
theorem dX0_areLike_15 : decode cX0_areLike 15 = .ok (.iload_n 3, 1) := by decide +kernel
theorem dX0_areLike_16 : decode cX0_areLike 16 = .ok (.iand, 1) := by decide +kernel
theorem dX0_areLike_17 : decode cX0_areLike 17 = .ok (.iload_n 3, 1) := by decide +kernel
theorem dX0_areLike_18 : decode cX0_areLike 18 = .ok (.if_icmp .ne 7, 3) := by decide +kernel
theorem dX0_areLike_21 : decode cX0_areLike 21 = .ok (.iconst 1, 1) := by decide +kernel
theorem dX0_areLike_22 : decode cX0_areLike 22 = .ok (.goto 4, 3) := by decide +kernel
theorem dX0_areLike_25 : decode cX0_areLike 25 = .ok (.iconst 0, 1) := by decide +kernel
theorem dX0_areLike_26 : decode cX0_areLike 26 = .ok (.ireturn, 1) := by decide +kernel
set_option maxRecDepth 20000 in
theorem ggX0_countLike_X0_rainOf : GoodIn wsX0_countLike wsX0_rainOf := goodIn_r _ [6, 7, 8, 9, 10, 25, 26, 27, 28, 29, 30, 31, 32, 33] (by decide +kernel) (by decide +kernel)
set_option maxRecDepth 20000 in
theorem gX0_countLike_X0_rainOf : GoodIn wsX0_countLike (wsV RX0 84 RX0 yX0_rainOf wsX0_rainOf) := goodIn_app (goodIn_of _ (by decide +kernel)) ggX0_countLike_X0_rainOf
set_option maxRecDepth 20000 in
theorem ggX0_countLike_X0_areLike : GoodIn wsX0_countLike wsX0_areLike := goodIn_r _ [14, 15, 16, 17, 5, 18, 19, 8, 9, 10, 20, 21, 22, 23, 24, 25, 26, 27, 28, 29, 30, 31, 32, 33] (by decide +kernel) (by decide +kernel)
set_option maxRecDepth 20000 in
theorem gX0_countLike_X0_areLike : GoodIn wsX0_countLike (wsV RX0 87 RX0 yX0_areLike wsX0_areLike) := goodIn_app (goodIn_of _ (by decide +kernel)) ggX0_countLike_X0_areLike
theorem dX0_countLike_0 : decode cX0_countLike 0 = .ok (.iconst 0, 1) := by decide +kernel
theorem dX0_countLike_1 : decode cX0_countLike 1 = .ok (.istore 4, 2) := by decide +kernel
theorem dX0_countLike_3 : decode cX0_countLike 3 = .ok (.iconst 0, 1) := by decide +kernel
theorem dX0_countLike_4 : decode cX0_countLike 4 = .ok (.istore 5, 2) := by decide +kernel
theorem dX0_countLike_6 : decode cX0_countLike 6 = .ok (.iload 5, 2) := by decide +kernel
theorem dX0_countLike_8 : decode cX0_countLike 8 = .ok (.aload_n 0, 1) := by decide +kernel
theorem dX0_countLike_9 : decode cX0_countLike 9 = .ok (.getfield 36, 3) := by decide +kernel
theorem dX0_countLike_12 : decode cX0_countLike 12 = .ok (.if_icmp .ge 33, 3) := by decide +kernel
theorem dX0_countLike_15 : decode cX0_countLike 15 = .ok (.aload_n 0, 1) := by decide +kernel
theorem dX0_countLike_16 : decode cX0_countLike 16 = .ok (.iload 5, 2) := by decide +kernel
theorem dX0_countLike_18 : decode cX0_countLike 18 = .ok (.invokevirtual 84, 3) := by decide +kernel
theorem dX0_countLike_21 : decode cX0_countLike 21 = .ok (.iload_n 3, 1) := by decide +kernel
theorem dX0_countLike_22 : decode cX0_countLike 22 = .ok (.if_icmp .lt 17, 3) := by decide +kernel
theorem dX0_countLike_25 : decode cX0_countLike 25 = .ok (.aload_n 0, 1) := by decide +kernel
theorem dX0_countLike_26 : decode cX0_countLike 26 = .ok (.iload_n 1, 1) := by decide +kernel
theorem dX0_countLike_27 : decode cX0_countLike 27 = .ok (.iload 5, 2) := by decide +kernel
theorem dX0_countLike_29 : decode cX0_countLike 29 = .ok (.iload_n 2, 1) := by decide +kernel
theorem dX0_countLike_30 : decode cX0_countLike 30 = .ok (.invokevirtual 87, 3) := by decide +kernel
theorem dX0_countLike_33 : decode cX0_countLike 33 = .ok (.ifCond .eq 6, 3) := by decide +kernel
theorem dX0_countLike_36 : decode cX0_countLike 36 = .ok (.iinc 4 1, 3) := by decide +kernel
theorem dX0_countLike_39 : decode cX0_countLike 39 = .ok (.iinc 5 1, 3) := by decide +kernel
theorem dX0_countLike_42 : decode cX0_countLike 42 = .ok (.goto (-36), 3) := by decide +kernel
theorem dX0_countLike_45 : decode cX0_countLike 45 = .ok (.iload 4, 2) := by decide +kernel
theorem dX0_countLike_47 : decode cX0_countLike 47 = .ok (.ireturn, 1) := by decide +kernel
set_option maxRecDepth 20000 in
theorem ggX0_likeOdds_X0_areLike : GoodIn wsX0_likeOdds wsX0_areLike := goodIn_r _ [6, 7, 8, 9, 5, 10, 11, 12, 13, 14, 15, 16, 17, 18, 19, 27, 28, 29, 30, 31, 32, 33, 34, 35] (by decide +kernel) (by decide +kernel)
set_option maxRecDepth 20000 in
theorem gX0_likeOdds_X0_areLike : GoodIn wsX0_likeOdds (wsV RX0 87 RX0 yX0_areLike wsX0_areLike) := goodIn_app (goodIn_of _ (by decide +kernel)) ggX0_likeOdds_X0_areLike
set_option maxRecDepth 20000 in
theorem ggX0_likeOdds_X0_rainOf : GoodIn wsX0_likeOdds wsX0_rainOf := goodIn_r _ [23, 24, 12, 13, 14, 27, 28, 29, 30, 31, 32, 33, 34, 35] (by decide +kernel) (by decide +kernel)
set_option maxRecDepth 20000 in
theorem gX0_likeOdds_X0_rainOf : GoodIn wsX0_likeOdds (wsV RX0 84 RX0 yX0_rainOf wsX0_rainOf) := goodIn_app (goodIn_of _ (by decide +kernel)) ggX0_likeOdds_X0_rainOf
set_option maxRecDepth 20000 in
theorem ggX0_likeOdds_X9_thousandths : GoodIn wsX0_likeOdds wsX9_thousandths := goodIn_r _ [26] (by decide +kernel) (by decide +kernel)
set_option maxRecDepth 20000 in
theorem gX0_likeOdds_X9_thousandths_n91 : GoodIn wsX0_likeOdds (wsX9_thousandths) := ggX0_likeOdds_X9_thousandths
theorem dX0_likeOdds_0 : decode cX0_likeOdds 0 = .ok (.iconst 0, 1) := by decide +kernel
theorem dX0_likeOdds_1 : decode cX0_likeOdds 1 = .ok (.istore_n 3, 1) := by decide +kernel
theorem dX0_likeOdds_2 : decode cX0_likeOdds 2 = .ok (.iconst 0, 1) := by decide +kernel
theorem dX0_likeOdds_3 : decode cX0_likeOdds 3 = .ok (.istore 4, 2) := by decide +kernel
theorem dX0_likeOdds_5 : decode cX0_likeOdds 5 = .ok (.iconst 0, 1) := by decide +kernel
theorem dX0_likeOdds_6 : decode cX0_likeOdds 6 = .ok (.istore 5, 2) := by decide +kernel
theorem dX0_likeOdds_8 : decode cX0_likeOdds 8 = .ok (.iload 5, 2) := by decide +kernel
theorem dX0_likeOdds_10 : decode cX0_likeOdds 10 = .ok (.aload_n 0, 1) := by decide +kernel
theorem dX0_likeOdds_11 : decode cX0_likeOdds 11 = .ok (.getfield 36, 3) := by decide +kernel
theorem dX0_likeOdds_14 : decode cX0_likeOdds 14 = .ok (.if_icmp .ge 34, 3) := by decide +kernel
theorem dX0_likeOdds_17 : decode cX0_likeOdds 17 = .ok (.aload_n 0, 1) := by decide +kernel
theorem dX0_likeOdds_18 : decode cX0_likeOdds 18 = .ok (.iload_n 1, 1) := by decide +kernel
theorem dX0_likeOdds_19 : decode cX0_likeOdds 19 = .ok (.iload 5, 2) := by decide +kernel
theorem dX0_likeOdds_21 : decode cX0_likeOdds 21 = .ok (.iload_n 2, 1) := by decide +kernel
theorem dX0_likeOdds_22 : decode cX0_likeOdds 22 = .ok (.invokevirtual 87, 3) := by decide +kernel
theorem dX0_likeOdds_25 : decode cX0_likeOdds 25 = .ok (.ifCond .eq 17, 3) := by decide +kernel
theorem dX0_likeOdds_28 : decode cX0_likeOdds 28 = .ok (.iinc 3 1, 3) := by decide +kernel
theorem dX0_likeOdds_31 : decode cX0_likeOdds 31 = .ok (.iload 4, 2) := by decide +kernel
theorem dX0_likeOdds_33 : decode cX0_likeOdds 33 = .ok (.aload_n 0, 1) := by decide +kernel
theorem dX0_likeOdds_34 : decode cX0_likeOdds 34 = .ok (.iload 5, 2) := by decide +kernel
theorem dX0_likeOdds_36 : decode cX0_likeOdds 36 = .ok (.invokevirtual 84, 3) := by decide +kernel
theorem dX0_likeOdds_39 : decode cX0_likeOdds 39 = .ok (.iadd, 1) := by decide +kernel
theorem dX0_likeOdds_40 : decode cX0_likeOdds 40 = .ok (.istore 4, 2) := by decide +kernel
theorem dX0_likeOdds_42 : decode cX0_likeOdds 42 = .ok (.iinc 5 1, 3) := by decide +kernel
theorem dX0_likeOdds_45 : decode cX0_likeOdds 45 = .ok (.goto (-37), 3) := by decide +kernel
theorem dX0_likeOdds_48 : decode cX0_likeOdds 48 = .ok (.iload 4, 2) := by decide +kernel
theorem dX0_likeOdds_50 : decode cX0_likeOdds 50 = .ok (.iload_n 3, 1) := by decide +kernel
theorem dX0_likeOdds_51 : decode cX0_likeOdds 51 = .ok (.invokestatic 91, 3) := by decide +kernel
theorem dX0_likeOdds_54 : decode cX0_likeOdds 54 = .ok (.ireturn, 1) := by decide +kernel
set_option maxRecDepth 20000 in
theorem ggX0_monthOdds_X0_inOtherYears : GoodIn wsX0_monthOdds wsX0_inOtherYears := goodIn_r _ [7, 8, 9, 10, 11, 19, 20, 21, 22, 23, 24, 25, 26, 27] (by decide +kernel) (by decide +kernel)
set_option maxRecDepth 20000 in
theorem gX0_monthOdds_X0_inOtherYears : GoodIn wsX0_monthOdds (wsV RX0 77 RX0 yX0_inOtherYears wsX0_inOtherYears) := goodIn_app (goodIn_of _ (by decide +kernel)) ggX0_monthOdds_X0_inOtherYears
set_option maxRecDepth 20000 in
theorem ggX0_monthOdds_X9_at : GoodIn wsX0_monthOdds wsX9_at := goodIn_r _ [11] (by decide +kernel) (by decide +kernel)
set_option maxRecDepth 20000 in
theorem gX0_monthOdds_X9_at_n55 : GoodIn wsX0_monthOdds (wsX9_at) := ggX0_monthOdds_X9_at
set_option maxRecDepth 20000 in
theorem ggX0_monthOdds_X0_rainOf : GoodIn wsX0_monthOdds wsX0_rainOf := goodIn_r _ [15, 16, 9, 10, 11, 19, 20, 21, 22, 23, 24, 25, 26, 27] (by decide +kernel) (by decide +kernel)
set_option maxRecDepth 20000 in
theorem gX0_monthOdds_X0_rainOf : GoodIn wsX0_monthOdds (wsV RX0 84 RX0 yX0_rainOf wsX0_rainOf) := goodIn_app (goodIn_of _ (by decide +kernel)) ggX0_monthOdds_X0_rainOf
set_option maxRecDepth 20000 in
theorem ggX0_monthOdds_X9_thousandths : GoodIn wsX0_monthOdds wsX9_thousandths := goodIn_r _ [18] (by decide +kernel) (by decide +kernel)
set_option maxRecDepth 20000 in
theorem gX0_monthOdds_X9_thousandths_n91 : GoodIn wsX0_monthOdds (wsX9_thousandths) := ggX0_monthOdds_X9_thousandths
theorem dX0_monthOdds_0 : decode cX0_monthOdds 0 = .ok (.iconst 0, 1) := by decide +kernel
theorem dX0_monthOdds_1 : decode cX0_monthOdds 1 = .ok (.istore_n 2, 1) := by decide +kernel
theorem dX0_monthOdds_2 : decode cX0_monthOdds 2 = .ok (.iconst 0, 1) := by decide +kernel
theorem dX0_monthOdds_3 : decode cX0_monthOdds 3 = .ok (.istore_n 3, 1) := by decide +kernel
theorem dX0_monthOdds_4 : decode cX0_monthOdds 4 = .ok (.iconst 0, 1) := by decide +kernel
theorem dX0_monthOdds_5 : decode cX0_monthOdds 5 = .ok (.istore 4, 2) := by decide +kernel
theorem dX0_monthOdds_7 : decode cX0_monthOdds 7 = .ok (.iload 4, 2) := by decide +kernel
theorem dX0_monthOdds_9 : decode cX0_monthOdds 9 = .ok (.aload_n 0, 1) := by decide +kernel
theorem dX0_monthOdds_10 : decode cX0_monthOdds 10 = .ok (.getfield 36, 3) := by decide +kernel
theorem dX0_monthOdds_13 : decode cX0_monthOdds 13 = .ok (.if_icmp .ge 51, 3) := by decide +kernel
theorem dX0_monthOdds_16 : decode cX0_monthOdds 16 = .ok (.aload_n 0, 1) := by decide +kernel
theorem dX0_monthOdds_17 : decode cX0_monthOdds 17 = .ok (.iload_n 1, 1) := by decide +kernel
theorem dX0_monthOdds_18 : decode cX0_monthOdds 18 = .ok (.iload 4, 2) := by decide +kernel
theorem dX0_monthOdds_20 : decode cX0_monthOdds 20 = .ok (.invokevirtual 77, 3) := by decide +kernel
theorem dX0_monthOdds_23 : decode cX0_monthOdds 23 = .ok (.ifCond .eq 35, 3) := by decide +kernel
theorem dX0_monthOdds_26 : decode cX0_monthOdds 26 = .ok (.aload_n 0, 1) := by decide +kernel
theorem dX0_monthOdds_27 : decode cX0_monthOdds 27 = .ok (.getfield 15, 3) := by decide +kernel
theorem dX0_monthOdds_30 : decode cX0_monthOdds 30 = .ok (.iload_n 1, 1) := by decide +kernel
theorem dX0_monthOdds_31 : decode cX0_monthOdds 31 = .ok (.invokestatic 55, 3) := by decide +kernel
theorem dX0_monthOdds_34 : decode cX0_monthOdds 34 = .ok (.aload_n 0, 1) := by decide +kernel
theorem dX0_monthOdds_35 : decode cX0_monthOdds 35 = .ok (.getfield 15, 3) := by decide +kernel
theorem dX0_monthOdds_38 : decode cX0_monthOdds 38 = .ok (.iload 4, 2) := by decide +kernel
theorem dX0_monthOdds_40 : decode cX0_monthOdds 40 = .ok (.invokestatic 55, 3) := by decide +kernel
theorem dX0_monthOdds_43 : decode cX0_monthOdds 43 = .ok (.if_icmp .ne 15, 3) := by decide +kernel
theorem dX0_monthOdds_46 : decode cX0_monthOdds 46 = .ok (.iinc 2 1, 3) := by decide +kernel
theorem dX0_monthOdds_49 : decode cX0_monthOdds 49 = .ok (.iload_n 3, 1) := by decide +kernel
theorem dX0_monthOdds_50 : decode cX0_monthOdds 50 = .ok (.aload_n 0, 1) := by decide +kernel
theorem dX0_monthOdds_51 : decode cX0_monthOdds 51 = .ok (.iload 4, 2) := by decide +kernel
theorem dX0_monthOdds_53 : decode cX0_monthOdds 53 = .ok (.invokevirtual 84, 3) := by decide +kernel
theorem dX0_monthOdds_56 : decode cX0_monthOdds 56 = .ok (.iadd, 1) := by decide +kernel
theorem dX0_monthOdds_57 : decode cX0_monthOdds 57 = .ok (.istore_n 3, 1) := by decide +kernel
theorem dX0_monthOdds_58 : decode cX0_monthOdds 58 = .ok (.iinc 4 1, 3) := by decide +kernel
theorem dX0_monthOdds_61 : decode cX0_monthOdds 61 = .ok (.goto (-54), 3) := by decide +kernel
theorem dX0_monthOdds_64 : decode cX0_monthOdds 64 = .ok (.iload_n 3, 1) := by decide +kernel
theorem dX0_monthOdds_65 : decode cX0_monthOdds 65 = .ok (.iload_n 2, 1) := by decide +kernel
theorem dX0_monthOdds_66 : decode cX0_monthOdds 66 = .ok (.invokestatic 91, 3) := by decide +kernel
theorem dX0_monthOdds_69 : decode cX0_monthOdds 69 = .ok (.ireturn, 1) := by decide +kernel
set_option maxRecDepth 20000 in
theorem ggX0_lotFrom_X5_init : GoodIn wsX0_lotFrom wsX5_init := goodIn_r _ [7, 8, 9, 10] (by decide +kernel) (by decide +kernel)
set_option maxRecDepth 20000 in
theorem gX0_lotFrom_X5_init_n96 : GoodIn wsX0_lotFrom (wsX5_init) := ggX0_lotFrom_X5_init
set_option maxRecDepth 20000 in
theorem ggX0_lotFrom_X9_at : GoodIn wsX0_lotFrom wsX9_at := goodIn_r _ [13] (by decide +kernel) (by decide +kernel)
set_option maxRecDepth 20000 in
theorem gX0_lotFrom_X9_at_n55 : GoodIn wsX0_lotFrom (wsX9_at) := ggX0_lotFrom_X9_at
set_option maxRecDepth 20000 in
theorem ggX0_lotFrom_X0_rainOf : GoodIn wsX0_lotFrom wsX0_rainOf := goodIn_r _ [18, 19, 11, 12, 13, 32, 33, 34, 35, 36, 37, 38, 39, 40] (by decide +kernel) (by decide +kernel)
set_option maxRecDepth 20000 in
theorem gX0_lotFrom_X0_rainOf : GoodIn wsX0_lotFrom (wsV RX0 84 RX0 yX0_rainOf wsX0_rainOf) := goodIn_app (goodIn_of _ (by decide +kernel)) ggX0_lotFrom_X0_rainOf
set_option maxRecDepth 20000 in
theorem ggX0_lotFrom_X5_add : GoodIn wsX0_lotFrom wsX5_add := goodIn_r _ [23, 24, 25, 26, 27, 28, 29, 30, 31] (by decide +kernel) (by decide +kernel)
set_option maxRecDepth 20000 in
theorem gX0_lotFrom_X5_add : GoodIn wsX0_lotFrom (wsV RX0 97 RX5 yX5_add wsX5_add) := goodIn_app (goodIn_of _ (by decide +kernel)) ggX0_lotFrom_X5_add
theorem dX0_lotFrom_0 : decode cX0_lotFrom 0 = .ok (.new 94, 3) := by decide +kernel
theorem dX0_lotFrom_3 : decode cX0_lotFrom 3 = .ok (.dup, 1) := by decide +kernel
theorem dX0_lotFrom_4 : decode cX0_lotFrom 4 = .ok (.invokespecial 96, 3) := by decide +kernel
theorem dX0_lotFrom_7 : decode cX0_lotFrom 7 = .ok (.astore_n 2, 1) := by decide +kernel
theorem dX0_lotFrom_8 : decode cX0_lotFrom 8 = .ok (.iconst 0, 1) := by decide +kernel
theorem dX0_lotFrom_9 : decode cX0_lotFrom 9 = .ok (.istore_n 3, 1) := by decide +kernel
theorem dX0_lotFrom_10 : decode cX0_lotFrom 10 = .ok (.iload_n 3, 1) := by decide +kernel
theorem dX0_lotFrom_11 : decode cX0_lotFrom 11 = .ok (.aload_n 0, 1) := by decide +kernel
theorem dX0_lotFrom_12 : decode cX0_lotFrom 12 = .ok (.getfield 36, 3) := by decide +kernel
theorem dX0_lotFrom_15 : decode cX0_lotFrom 15 = .ok (.if_icmp .ge 35, 3) := by decide +kernel
theorem dX0_lotFrom_18 : decode cX0_lotFrom 18 = .ok (.aload_n 2, 1) := by decide +kernel
theorem dX0_lotFrom_19 : decode cX0_lotFrom 19 = .ok (.aload_n 0, 1) := by decide +kernel
theorem dX0_lotFrom_20 : decode cX0_lotFrom 20 = .ok (.getfield 9, 3) := by decide +kernel
theorem dX0_lotFrom_23 : decode cX0_lotFrom 23 = .ok (.iload_n 3, 1) := by decide +kernel
theorem dX0_lotFrom_24 : decode cX0_lotFrom 24 = .ok (.invokestatic 55, 3) := by decide +kernel
theorem dX0_lotFrom_27 : decode cX0_lotFrom 27 = .ok (.iload_n 1, 1) := by decide +kernel
theorem dX0_lotFrom_28 : decode cX0_lotFrom 28 = .ok (.if_icmp .lt 7, 3) := by decide +kernel
theorem dX0_lotFrom_31 : decode cX0_lotFrom 31 = .ok (.iconst 1, 1) := by decide +kernel
theorem dX0_lotFrom_32 : decode cX0_lotFrom 32 = .ok (.goto 4, 3) := by decide +kernel
theorem dX0_lotFrom_35 : decode cX0_lotFrom 35 = .ok (.iconst 0, 1) := by decide +kernel
theorem dX0_lotFrom_36 : decode cX0_lotFrom 36 = .ok (.aload_n 0, 1) := by decide +kernel
theorem dX0_lotFrom_37 : decode cX0_lotFrom 37 = .ok (.iload_n 3, 1) := by decide +kernel
theorem dX0_lotFrom_38 : decode cX0_lotFrom 38 = .ok (.invokevirtual 84, 3) := by decide +kernel
theorem dX0_lotFrom_41 : decode cX0_lotFrom 41 = .ok (.invokevirtual 97, 3) := by decide +kernel
theorem dX0_lotFrom_44 : decode cX0_lotFrom 44 = .ok (.iinc 3 1, 3) := by decide +kernel
theorem dX0_lotFrom_47 : decode cX0_lotFrom 47 = .ok (.goto (-37), 3) := by decide +kernel
theorem dX0_lotFrom_50 : decode cX0_lotFrom 50 = .ok (.aload_n 2, 1) := by decide +kernel
theorem dX0_lotFrom_51 : decode cX0_lotFrom 51 = .ok (.areturn, 1) := by decide +kernel
set_option maxRecDepth 20000 in
theorem ggX0_countRight_X9_at : GoodIn wsX0_countRight wsX9_at := goodIn_r _ [5] (by decide +kernel) (by decide +kernel)
set_option maxRecDepth 20000 in
theorem gX0_countRight_X9_at_n55 : GoodIn wsX0_countRight (wsX9_at) := ggX0_countRight_X9_at
set_option maxRecDepth 20000 in
theorem ggX0_countRight_X0_meant : GoodIn wsX0_countRight wsX0_meant := goodIn_r _ [9] (by decide +kernel) (by decide +kernel)
set_option maxRecDepth 20000 in
theorem gX0_countRight_X0_meant : GoodIn wsX0_countRight (va_wsS RX0 101 yX0_meant wsX0_meant) := goodIn_app (goodIn_of _ (by decide +kernel)) ggX0_countRight_X0_meant
set_option maxRecDepth 20000 in
theorem ggX0_countRight_X0_rainOf : GoodIn wsX0_countRight wsX0_rainOf := goodIn_r _ [13, 14, 3, 4, 5, 15, 16, 17, 18, 19, 20, 21, 22, 23] (by decide +kernel) (by decide +kernel)
set_option maxRecDepth 20000 in
theorem gX0_countRight_X0_rainOf : GoodIn wsX0_countRight (wsV RX0 84 RX0 yX0_rainOf wsX0_rainOf) := goodIn_app (goodIn_of _ (by decide +kernel)) ggX0_countRight_X0_rainOf
theorem dX0_countRight_0 : decode cX0_countRight 0 = .ok (.iconst 0, 1) := by decide +kernel
theorem dX0_countRight_1 : decode cX0_countRight 1 = .ok (.istore_n 2, 1) := by decide +kernel
theorem dX0_countRight_2 : decode cX0_countRight 2 = .ok (.iconst 0, 1) := by decide +kernel
theorem dX0_countRight_3 : decode cX0_countRight 3 = .ok (.istore_n 3, 1) := by decide +kernel
theorem dX0_countRight_4 : decode cX0_countRight 4 = .ok (.iload_n 3, 1) := by decide +kernel
theorem dX0_countRight_5 : decode cX0_countRight 5 = .ok (.aload_n 0, 1) := by decide +kernel
theorem dX0_countRight_6 : decode cX0_countRight 6 = .ok (.getfield 36, 3) := by decide +kernel
theorem dX0_countRight_9 : decode cX0_countRight 9 = .ok (.if_icmp .ge 44, 3) := by decide +kernel
theorem dX0_countRight_12 : decode cX0_countRight 12 = .ok (.aload_n 0, 1) := by decide +kernel
theorem dX0_countRight_13 : decode cX0_countRight 13 = .ok (.getfield 18, 3) := by decide +kernel
theorem dX0_countRight_16 : decode cX0_countRight 16 = .ok (.iload_n 3, 1) := by decide +kernel
theorem dX0_countRight_17 : decode cX0_countRight 17 = .ok (.invokestatic 55, 3) := by decide +kernel
theorem dX0_countRight_20 : decode cX0_countRight 20 = .ok (.istore 4, 2) := by decide +kernel
theorem dX0_countRight_22 : decode cX0_countRight 22 = .ok (.iload 4, 2) := by decide +kernel
theorem dX0_countRight_24 : decode cX0_countRight 24 = .ok (.bipush (-6), 2) := by decide +kernel
theorem dX0_countRight_26 : decode cX0_countRight 26 = .ok (.if_icmp .eq 21, 3) := by decide +kernel
theorem dX0_countRight_29 : decode cX0_countRight 29 = .ok (.iload 4, 2) := by decide +kernel
theorem dX0_countRight_31 : decode cX0_countRight 31 = .ok (.iload_n 1, 1) := by decide +kernel
theorem dX0_countRight_32 : decode cX0_countRight 32 = .ok (.iadd, 1) := by decide +kernel
theorem dX0_countRight_33 : decode cX0_countRight 33 = .ok (.invokestatic 101, 3) := by decide +kernel
theorem dX0_countRight_36 : decode cX0_countRight 36 = .ok (.aload_n 0, 1) := by decide +kernel
theorem dX0_countRight_37 : decode cX0_countRight 37 = .ok (.iload_n 3, 1) := by decide +kernel
theorem dX0_countRight_38 : decode cX0_countRight 38 = .ok (.invokevirtual 84, 3) := by decide +kernel
theorem dX0_countRight_41 : decode cX0_countRight 41 = .ok (.if_icmp .ne 6, 3) := by decide +kernel
theorem dX0_countRight_44 : decode cX0_countRight 44 = .ok (.iinc 2 1, 3) := by decide +kernel
theorem dX0_countRight_47 : decode cX0_countRight 47 = .ok (.iinc 3 1, 3) := by decide +kernel
theorem dX0_countRight_50 : decode cX0_countRight 50 = .ok (.goto (-46), 3) := by decide +kernel
theorem dX0_countRight_53 : decode cX0_countRight 53 = .ok (.iload_n 2, 1) := by decide +kernel
theorem dX0_countRight_54 : decode cX0_countRight 54 = .ok (.ireturn, 1) := by decide +kernel
theorem dX0_meant_0 : decode cX0_meant 0 = .ok (.iload_n 0, 1) := by decide +kernel
theorem dX0_meant_1 : decode cX0_meant 1 = .ok (.bipush 40, 2) := by decide +kernel
theorem dX0_meant_3 : decode cX0_meant 3 = .ok (.if_icmp .ge 7, 3) := by decide +kernel
theorem dX0_meant_6 : decode cX0_meant 6 = .ok (.iconst 1, 1) := by decide +kernel
theorem dX0_meant_7 : decode cX0_meant 7 = .ok (.goto 15, 3) := by decide +kernel
theorem dX0_meant_10 : decode cX0_meant 10 = .ok (.iload_n 0, 1) := by decide +kernel
theorem dX0_meant_11 : decode cX0_meant 11 = .ok (.bipush 60, 2) := by decide +kernel
theorem dX0_meant_13 : decode cX0_meant 13 = .ok (.if_icmp .lt 7, 3) := by decide +kernel
theorem dX0_meant_16 : decode cX0_meant 16 = .ok (.iconst 0, 1) := by decide +kernel
theorem dX0_meant_17 : decode cX0_meant 17 = .ok (.goto 5, 3) := by decide +kernel
theorem dX0_meant_20 : decode cX0_meant 20 = .ok (.bipush (-6), 2) := by decide +kernel
theorem dX0_meant_22 : decode cX0_meant 22 = .ok (.ireturn, 1) := by decide +kernel
theorem dX1_init_0 : decode cX1_init 0 = .ok (.aload_n 0, 1) := by decide +kernel
theorem dX1_init_1 : decode cX1_init 1 = .ok (.invokespecial 1, 3) := by decide +kernel
theorem dX1_init_4 : decode cX1_init 4 = .ok (.aload_n 0, 1) := by decide +kernel
theorem dX1_init_5 : decode cX1_init 5 = .ok (.bipush 50, 2) := by decide +kernel
theorem dX1_init_7 : decode cX1_init 7 = .ok (.putfield 7, 3) := by decide +kernel
theorem dX1_init_10 : decode cX1_init 10 = .ok (.aload_n 0, 1) := by decide +kernel
theorem dX1_init_11 : decode cX1_init 11 = .ok (.bipush 50, 2) := by decide +kernel
theorem dX1_init_13 : decode cX1_init 13 = .ok (.putfield 13, 3) := by decide +kernel
theorem dX1_init_16 : decode cX1_init 16 = .ok (.aload_n 0, 1) := by decide +kernel
theorem dX1_init_17 : decode cX1_init 17 = .ok (.iconst 2, 1) := by decide +kernel
theorem dX1_init_18 : decode cX1_init 18 = .ok (.putfield 16, 3) := by decide +kernel
theorem dX1_init_21 : decode cX1_init 21 = .ok (.return_, 1) := by decide +kernel
theorem dX1_take_0 : decode cX1_take 0 = .ok (.aload_n 0, 1) := by decide +kernel
theorem dX1_take_1 : decode cX1_take 1 = .ok (.aload_n 1, 1) := by decide +kernel
theorem dX1_take_2 : decode cX1_take 2 = .ok (.getfield 7, 3) := by decide +kernel
theorem dX1_take_5 : decode cX1_take 5 = .ok (.putfield 7, 3) := by decide +kernel
theorem dX1_take_8 : decode cX1_take 8 = .ok (.aload_n 0, 1) := by decide +kernel
theorem dX1_take_9 : decode cX1_take 9 = .ok (.aload_n 1, 1) := by decide +kernel
theorem dX1_take_10 : decode cX1_take 10 = .ok (.getfield 13, 3) := by decide +kernel
theorem dX1_take_13 : decode cX1_take 13 = .ok (.putfield 13, 3) := by decide +kernel
theorem dX1_take_16 : decode cX1_take 16 = .ok (.aload_n 0, 1) := by decide +kernel
theorem dX1_take_17 : decode cX1_take 17 = .ok (.aload_n 1, 1) := by decide +kernel
theorem dX1_take_18 : decode cX1_take 18 = .ok (.getfield 16, 3) := by decide +kernel
theorem dX1_take_21 : decode cX1_take 21 = .ok (.putfield 16, 3) := by decide +kernel
theorem dX1_take_24 : decode cX1_take 24 = .ok (.return_, 1) := by decide +kernel
theorem dX1_follow_0 : decode cX1_follow 0 = .ok (.aload_n 0, 1) := by decide +kernel
theorem dX1_follow_1 : decode cX1_follow 1 = .ok (.aload_n 0, 1) := by decide +kernel
theorem dX1_follow_2 : decode cX1_follow 2 = .ok (.getfield 7, 3) := by decide +kernel
theorem dX1_follow_5 : decode cX1_follow 5 = .ok (.iload_n 1, 1) := by decide +kernel
theorem dX1_follow_6 : decode cX1_follow 6 = .ok (.iadd, 1) := by decide +kernel
theorem dX1_follow_7 : decode cX1_follow 7 = .ok (.iconst 2, 1) := by decide +kernel
theorem dX1_follow_8 : decode cX1_follow 8 = .ok (.idiv, 1) := by decide +kernel
theorem dX1_follow_9 : decode cX1_follow 9 = .ok (.putfield 7, 3) := by decide +kernel
theorem dX1_follow_12 : decode cX1_follow 12 = .ok (.aload_n 0, 1) := by decide +kernel
theorem dX1_follow_13 : decode cX1_follow 13 = .ok (.getfield 7, 3) := by decide +kernel
theorem dX1_follow_16 : decode cX1_follow 16 = .ok (.aload_n 0, 1) := by decide +kernel
theorem dX1_follow_17 : decode cX1_follow 17 = .ok (.getfield 13, 3) := by decide +kernel
theorem dX1_follow_20 : decode cX1_follow 20 = .ok (.isub, 1) := by decide +kernel
theorem dX1_follow_21 : decode cX1_follow 21 = .ok (.invokestatic 19, 3) := by decide +kernel
theorem dX1_follow_24 : decode cX1_follow 24 = .ok (.aload_n 0, 1) := by decide +kernel
theorem dX1_follow_25 : decode cX1_follow 25 = .ok (.getfield 16, 3) := by decide +kernel
theorem dX1_follow_28 : decode cX1_follow 28 = .ok (.if_icmp .le 11, 3) := by decide +kernel
theorem dX1_follow_31 : decode cX1_follow 31 = .ok (.aload_n 0, 1) := by decide +kernel
theorem dX1_follow_32 : decode cX1_follow 32 = .ok (.aload_n 0, 1) := by decide +kernel
theorem dX1_follow_33 : decode cX1_follow 33 = .ok (.getfield 7, 3) := by decide +kernel
theorem dX1_follow_36 : decode cX1_follow 36 = .ok (.putfield 13, 3) := by decide +kernel
theorem dX1_follow_39 : decode cX1_follow 39 = .ok (.aload_n 0, 1) := by decide +kernel
theorem dX1_follow_40 : decode cX1_follow 40 = .ok (.getfield 13, 3) := by decide +kernel
theorem dX1_follow_43 : decode cX1_follow 43 = .ok (.ireturn, 1) := by decide +kernel
theorem dX1_settle_0 : decode cX1_settle 0 = .ok (.aload_n 0, 1) := by decide +kernel
theorem dX1_settle_1 : decode cX1_settle 1 = .ok (.getfield 7, 3) := by decide +kernel
theorem dX1_settle_4 : decode cX1_settle 4 = .ok (.aload_n 0, 1) := by decide +kernel
theorem dX1_settle_5 : decode cX1_settle 5 = .ok (.getfield 13, 3) := by decide +kernel
theorem dX1_settle_8 : decode cX1_settle 8 = .ok (.isub, 1) := by decide +kernel
theorem dX1_settle_9 : decode cX1_settle 9 = .ok (.istore_n 1, 1) := by decide +kernel
theorem dX1_settle_10 : decode cX1_settle 10 = .ok (.aload_n 0, 1) := by decide +kernel
theorem dX1_settle_11 : decode cX1_settle 11 = .ok (.aload_n 0, 1) := by decide +kernel
theorem dX1_settle_12 : decode cX1_settle 12 = .ok (.getfield 7, 3) := by decide +kernel
theorem dX1_settle_15 : decode cX1_settle 15 = .ok (.putfield 13, 3) := by decide +kernel
theorem dX1_settle_18 : decode cX1_settle 18 = .ok (.iload_n 1, 1) := by decide +kernel
theorem dX1_settle_19 : decode cX1_settle 19 = .ok (.ireturn, 1) := by decide +kernel
theorem dX2_init_0 : decode cX2_init 0 = .ok (.aload_n 0, 1) := by decide +kernel
theorem dX2_init_1 : decode cX2_init 1 = .ok (.invokespecial 3, 3) := by decide +kernel
theorem dX2_init_4 : decode cX2_init 4 = .ok (.aload_n 0, 1) := by decide +kernel
theorem dX2_init_5 : decode cX2_init 5 = .ok (.iconst 4, 1) := by decide +kernel
theorem dX2_init_6 : decode cX2_init 6 = .ok (.newarray .int, 2) := by decide +kernel
theorem dX2_init_8 : decode cX2_init 8 = .ok (.putfield 9, 3) := by decide +kernel
theorem dX2_init_11 : decode cX2_init 11 = .ok (.aload_n 0, 1) := by decide +kernel
theorem dX2_init_12 : decode cX2_init 12 = .ok (.iconst 4, 1) := by decide +kernel
theorem dX2_init_13 : decode cX2_init 13 = .ok (.newarray .int, 2) := by decide +kernel
theorem dX2_init_15 : decode cX2_init 15 = .ok (.putfield 15, 3) := by decide +kernel
theorem dX2_init_18 : decode cX2_init 18 = .ok (.aload_n 0, 1) := by decide +kernel
theorem dX2_init_19 : decode cX2_init 19 = .ok (.iconst 4, 1) := by decide +kernel
theorem dX2_init_20 : decode cX2_init 20 = .ok (.newarray .int, 2) := by decide +kernel
theorem dX2_init_22 : decode cX2_init 22 = .ok (.putfield 18, 3) := by decide +kernel
theorem dX2_init_25 : decode cX2_init 25 = .ok (.aload_n 0, 1) := by decide +kernel
theorem dX2_init_26 : decode cX2_init 26 = .ok (.iconst 4, 1) := by decide +kernel
theorem dX2_init_27 : decode cX2_init 27 = .ok (.newarray .int, 2) := by decide +kernel
theorem dX2_init_29 : decode cX2_init 29 = .ok (.putfield 21, 3) := by decide +kernel
theorem dX2_init_32 : decode cX2_init 32 = .ok (.return_, 1) := by decide +kernel
set_option maxRecDepth 20000 in
theorem ggX2_take_X9_copy : GoodIn wsX2_take wsX9_copy := goodIn_r _ [8, 9, 10, 11, 12, 13, 14, 15, 16] (by decide +kernel) (by decide +kernel)
set_option maxRecDepth 20000 in
theorem gX2_take_X9_copy_n28 : GoodIn wsX2_take (wsX9_copy) := ggX2_take_X9_copy
theorem dX2_take_0 : decode cX2_take 0 = .ok (.aload_n 0, 1) := by decide +kernel
theorem dX2_take_1 : decode cX2_take 1 = .ok (.aload_n 1, 1) := by decide +kernel
theorem dX2_take_2 : decode cX2_take 2 = .ok (.getfield 24, 3) := by decide +kernel
theorem dX2_take_5 : decode cX2_take 5 = .ok (.putfield 24, 3) := by decide +kernel
theorem dX2_take_8 : decode cX2_take 8 = .ok (.aload_n 1, 1) := by decide +kernel
theorem dX2_take_9 : decode cX2_take 9 = .ok (.getfield 9, 3) := by decide +kernel
theorem dX2_take_12 : decode cX2_take 12 = .ok (.aload_n 0, 1) := by decide +kernel
theorem dX2_take_13 : decode cX2_take 13 = .ok (.getfield 9, 3) := by decide +kernel
theorem dX2_take_16 : decode cX2_take 16 = .ok (.invokestatic 28, 3) := by decide +kernel
theorem dX2_take_19 : decode cX2_take 19 = .ok (.aload_n 1, 1) := by decide +kernel
theorem dX2_take_20 : decode cX2_take 20 = .ok (.getfield 15, 3) := by decide +kernel
theorem dX2_take_23 : decode cX2_take 23 = .ok (.aload_n 0, 1) := by decide +kernel
theorem dX2_take_24 : decode cX2_take 24 = .ok (.getfield 15, 3) := by decide +kernel
theorem dX2_take_27 : decode cX2_take 27 = .ok (.invokestatic 28, 3) := by decide +kernel
theorem dX2_take_30 : decode cX2_take 30 = .ok (.aload_n 1, 1) := by decide +kernel
theorem dX2_take_31 : decode cX2_take 31 = .ok (.getfield 18, 3) := by decide +kernel
theorem dX2_take_34 : decode cX2_take 34 = .ok (.aload_n 0, 1) := by decide +kernel
theorem dX2_take_35 : decode cX2_take 35 = .ok (.getfield 18, 3) := by decide +kernel
theorem dX2_take_38 : decode cX2_take 38 = .ok (.invokestatic 28, 3) := by decide +kernel
theorem dX2_take_41 : decode cX2_take 41 = .ok (.aload_n 1, 1) := by decide +kernel
theorem dX2_take_42 : decode cX2_take 42 = .ok (.getfield 21, 3) := by decide +kernel
theorem dX2_take_45 : decode cX2_take 45 = .ok (.aload_n 0, 1) := by decide +kernel
theorem dX2_take_46 : decode cX2_take 46 = .ok (.getfield 21, 3) := by decide +kernel
theorem dX2_take_49 : decode cX2_take 49 = .ok (.invokestatic 28, 3) := by decide +kernel
theorem dX2_take_52 : decode cX2_take 52 = .ok (.return_, 1) := by decide +kernel
set_option maxRecDepth 20000 in
theorem ggX2_add_X9_put : GoodIn wsX2_add wsX9_put := goodIn_r _ [8] (by decide +kernel) (by decide +kernel)
set_option maxRecDepth 20000 in
theorem gX2_add_X9_put_n32 : GoodIn wsX2_add (wsX9_put) := ggX2_add_X9_put
theorem dX2_add_0 : decode cX2_add 0 = .ok (.aload_n 0, 1) := by decide +kernel
theorem dX2_add_1 : decode cX2_add 1 = .ok (.getfield 24, 3) := by decide +kernel
theorem dX2_add_4 : decode cX2_add 4 = .ok (.iconst 4, 1) := by decide +kernel
theorem dX2_add_5 : decode cX2_add 5 = .ok (.if_icmp .lt 6, 3) := by decide +kernel
theorem dX2_add_8 : decode cX2_add 8 = .ok (.bipush (-4), 2) := by decide +kernel
theorem dX2_add_10 : decode cX2_add 10 = .ok (.ireturn, 1) := by decide +kernel
theorem dX2_add_11 : decode cX2_add 11 = .ok (.aload_n 0, 1) := by decide +kernel
theorem dX2_add_12 : decode cX2_add 12 = .ok (.getfield 9, 3) := by decide +kernel
theorem dX2_add_15 : decode cX2_add 15 = .ok (.aload_n 0, 1) := by decide +kernel
theorem dX2_add_16 : decode cX2_add 16 = .ok (.getfield 24, 3) := by decide +kernel
theorem dX2_add_19 : decode cX2_add 19 = .ok (.iload_n 1, 1) := by decide +kernel
theorem dX2_add_20 : decode cX2_add 20 = .ok (.invokestatic 32, 3) := by decide +kernel
theorem dX2_add_23 : decode cX2_add 23 = .ok (.aload_n 0, 1) := by decide +kernel
theorem dX2_add_24 : decode cX2_add 24 = .ok (.getfield 15, 3) := by decide +kernel
theorem dX2_add_27 : decode cX2_add 27 = .ok (.aload_n 0, 1) := by decide +kernel
theorem dX2_add_28 : decode cX2_add 28 = .ok (.getfield 24, 3) := by decide +kernel
theorem dX2_add_31 : decode cX2_add 31 = .ok (.iload_n 2, 1) := by decide +kernel
theorem dX2_add_32 : decode cX2_add 32 = .ok (.invokestatic 32, 3) := by decide +kernel
theorem dX2_add_35 : decode cX2_add 35 = .ok (.aload_n 0, 1) := by decide +kernel
theorem dX2_add_36 : decode cX2_add 36 = .ok (.getfield 18, 3) := by decide +kernel
theorem dX2_add_39 : decode cX2_add 39 = .ok (.aload_n 0, 1) := by decide +kernel
theorem dX2_add_40 : decode cX2_add 40 = .ok (.getfield 24, 3) := by decide +kernel
theorem dX2_add_43 : decode cX2_add 43 = .ok (.iload_n 3, 1) := by decide +kernel
theorem dX2_add_44 : decode cX2_add 44 = .ok (.invokestatic 32, 3) := by decide +kernel
theorem dX2_add_47 : decode cX2_add 47 = .ok (.aload_n 0, 1) := by decide +kernel
theorem dX2_add_48 : decode cX2_add 48 = .ok (.getfield 21, 3) := by decide +kernel
theorem dX2_add_51 : decode cX2_add 51 = .ok (.aload_n 0, 1) := by decide +kernel
theorem dX2_add_52 : decode cX2_add 52 = .ok (.getfield 24, 3) := by decide +kernel
theorem dX2_add_55 : decode cX2_add 55 = .ok (.iload 4, 2) := by decide +kernel
theorem dX2_add_57 : decode cX2_add 57 = .ok (.invokestatic 32, 3) := by decide +kernel
theorem dX2_add_60 : decode cX2_add 60 = .ok (.aload_n 0, 1) := by decide +kernel
theorem dX2_add_61 : decode cX2_add 61 = .ok (.dup, 1) := by decide +kernel
theorem dX2_add_62 : decode cX2_add 62 = .ok (.getfield 24, 3) := by decide +kernel
theorem dX2_add_65 : decode cX2_add 65 = .ok (.iconst 1, 1) := by decide +kernel
theorem dX2_add_66 : decode cX2_add 66 = .ok (.iadd, 1) := by decide +kernel
theorem dX2_add_67 : decode cX2_add 67 = .ok (.putfield 24, 3) := by decide +kernel
theorem dX2_add_70 : decode cX2_add 70 = .ok (.aload_n 0, 1) := by decide +kernel
theorem dX2_add_71 : decode cX2_add 71 = .ok (.getfield 24, 3) := by decide +kernel
theorem dX2_add_74 : decode cX2_add 74 = .ok (.ireturn, 1) := by decide +kernel
theorem dX2_erase_0 : decode cX2_erase 0 = .ok (.aload_n 0, 1) := by decide +kernel
theorem dX2_erase_1 : decode cX2_erase 1 = .ok (.getfield 24, 3) := by decide +kernel
theorem dX2_erase_4 : decode cX2_erase 4 = .ok (.istore_n 1, 1) := by decide +kernel
theorem dX2_erase_5 : decode cX2_erase 5 = .ok (.aload_n 0, 1) := by decide +kernel
theorem dX2_erase_6 : decode cX2_erase 6 = .ok (.iconst 0, 1) := by decide +kernel
theorem dX2_erase_7 : decode cX2_erase 7 = .ok (.putfield 24, 3) := by decide +kernel
theorem dX2_erase_10 : decode cX2_erase 10 = .ok (.iload_n 1, 1) := by decide +kernel
theorem dX2_erase_11 : decode cX2_erase 11 = .ok (.ireturn, 1) := by decide +kernel
set_option maxRecDepth 20000 in
theorem ggX2_allWays_X2_waysAt : GoodIn wsX2_allWays wsX2_waysAt := goodIn_r _ [5, 6, 7, 8, 4, 9, 10, 11, 12, 13, 14, 15, 16, 17, 18, 19, 20, 21, 22, 23, 24, 25, 26, 27, 28, 29, 30, 31, 32, 33, 34, 35, 36] (by decide +kernel) (by decide +kernel)
set_option maxRecDepth 20000 in
theorem gX2_allWays_X2_waysAt : GoodIn wsX2_allWays (wsV RX2 36 RX2 yX2_waysAt wsX2_waysAt) := goodIn_app (goodIn_of _ (by decide +kernel)) ggX2_allWays_X2_waysAt
theorem dX2_allWays_0 : decode cX2_allWays 0 = .ok (.iconst 0, 1) := by decide +kernel
theorem dX2_allWays_1 : decode cX2_allWays 1 = .ok (.istore_n 2, 1) := by decide +kernel
theorem dX2_allWays_2 : decode cX2_allWays 2 = .ok (.iconst 0, 1) := by decide +kernel
theorem dX2_allWays_3 : decode cX2_allWays 3 = .ok (.istore_n 3, 1) := by decide +kernel
theorem dX2_allWays_4 : decode cX2_allWays 4 = .ok (.iload_n 3, 1) := by decide +kernel
theorem dX2_allWays_5 : decode cX2_allWays 5 = .ok (.bipush 9, 2) := by decide +kernel
theorem dX2_allWays_7 : decode cX2_allWays 7 = .ok (.if_icmp .ge 36, 3) := by decide +kernel
theorem dX2_allWays_10 : decode cX2_allWays 10 = .ok (.iconst 0, 1) := by decide +kernel
theorem dX2_allWays_11 : decode cX2_allWays 11 = .ok (.istore 4, 2) := by decide +kernel
theorem dX2_allWays_13 : decode cX2_allWays 13 = .ok (.iload 4, 2) := by decide +kernel
theorem dX2_allWays_15 : decode cX2_allWays 15 = .ok (.bipush 9, 2) := by decide +kernel
theorem dX2_allWays_17 : decode cX2_allWays 17 = .ok (.if_icmp .ge 20, 3) := by decide +kernel
theorem dX2_allWays_20 : decode cX2_allWays 20 = .ok (.iload_n 2, 1) := by decide +kernel
theorem dX2_allWays_21 : decode cX2_allWays 21 = .ok (.aload_n 0, 1) := by decide +kernel
theorem dX2_allWays_22 : decode cX2_allWays 22 = .ok (.iload_n 3, 1) := by decide +kernel
theorem dX2_allWays_23 : decode cX2_allWays 23 = .ok (.iload 4, 2) := by decide +kernel
theorem dX2_allWays_25 : decode cX2_allWays 25 = .ok (.iload_n 1, 1) := by decide +kernel
theorem dX2_allWays_26 : decode cX2_allWays 26 = .ok (.invokevirtual 36, 3) := by decide +kernel
theorem dX2_allWays_29 : decode cX2_allWays 29 = .ok (.iadd, 1) := by decide +kernel
theorem dX2_allWays_30 : decode cX2_allWays 30 = .ok (.istore_n 2, 1) := by decide +kernel
theorem dX2_allWays_31 : decode cX2_allWays 31 = .ok (.iinc 4 1, 3) := by decide +kernel
theorem dX2_allWays_34 : decode cX2_allWays 34 = .ok (.goto (-21), 3) := by decide +kernel
theorem dX2_allWays_37 : decode cX2_allWays 37 = .ok (.iinc 3 1, 3) := by decide +kernel
theorem dX2_allWays_40 : decode cX2_allWays 40 = .ok (.goto (-36), 3) := by decide +kernel
theorem dX2_allWays_43 : decode cX2_allWays 43 = .ok (.iload_n 2, 1) := by decide +kernel
theorem dX2_allWays_44 : decode cX2_allWays 44 = .ok (.ireturn, 1) := by decide +kernel
set_option maxRecDepth 20000 in
theorem ggX2_waysAt_X2_fitsAll : GoodIn wsX2_waysAt wsX2_fitsAll := goodIn_r _ [5, 6, 7, 8, 9, 10, 11, 12, 13, 14, 15, 16, 17, 18, 19, 20, 21, 22, 4, 23, 24, 25, 26, 27, 28, 29, 30, 31, 32] (by decide +kernel) (by decide +kernel)
set_option maxRecDepth 20000 in
theorem gX2_waysAt_X2_fitsAll : GoodIn wsX2_waysAt (wsV RX2 40 RX2 yX2_fitsAll wsX2_fitsAll) := goodIn_app (goodIn_of _ (by decide +kernel)) ggX2_waysAt_X2_fitsAll
theorem dX2_waysAt_0 : decode cX2_waysAt 0 = .ok (.iconst 0, 1) := by decide +kernel
theorem dX2_waysAt_1 : decode cX2_waysAt 1 = .ok (.istore 4, 2) := by decide +kernel
theorem dX2_waysAt_3 : decode cX2_waysAt 3 = .ok (.iconst 1, 1) := by decide +kernel
theorem dX2_waysAt_4 : decode cX2_waysAt 4 = .ok (.istore 5, 2) := by decide +kernel
theorem dX2_waysAt_6 : decode cX2_waysAt 6 = .ok (.iload 5, 2) := by decide +kernel
theorem dX2_waysAt_8 : decode cX2_waysAt 8 = .ok (.bipush 9, 2) := by decide +kernel
theorem dX2_waysAt_10 : decode cX2_waysAt 10 = .ok (.if_icmp .gt 24, 3) := by decide +kernel
theorem dX2_waysAt_13 : decode cX2_waysAt 13 = .ok (.aload_n 0, 1) := by decide +kernel
theorem dX2_waysAt_14 : decode cX2_waysAt 14 = .ok (.iload_n 1, 1) := by decide +kernel
theorem dX2_waysAt_15 : decode cX2_waysAt 15 = .ok (.iload_n 2, 1) := by decide +kernel
theorem dX2_waysAt_16 : decode cX2_waysAt 16 = .ok (.iload 5, 2) := by decide +kernel
theorem dX2_waysAt_18 : decode cX2_waysAt 18 = .ok (.iload_n 3, 1) := by decide +kernel
theorem dX2_waysAt_19 : decode cX2_waysAt 19 = .ok (.invokevirtual 40, 3) := by decide +kernel
theorem dX2_waysAt_22 : decode cX2_waysAt 22 = .ok (.ifCond .eq 6, 3) := by decide +kernel
theorem dX2_waysAt_25 : decode cX2_waysAt 25 = .ok (.iinc 4 1, 3) := by decide +kernel
theorem dX2_waysAt_28 : decode cX2_waysAt 28 = .ok (.iinc 5 1, 3) := by decide +kernel
theorem dX2_waysAt_31 : decode cX2_waysAt 31 = .ok (.goto (-25), 3) := by decide +kernel
theorem dX2_waysAt_34 : decode cX2_waysAt 34 = .ok (.iload 4, 2) := by decide +kernel
theorem dX2_waysAt_36 : decode cX2_waysAt 36 = .ok (.ireturn, 1) := by decide +kernel
set_option maxRecDepth 20000 in
theorem ggX2_fitsAll_X9_at : GoodIn wsX2_fitsAll wsX9_at := goodIn_r _ [15] (by decide +kernel) (by decide +kernel)
set_option maxRecDepth 20000 in
theorem gX2_fitsAll_X9_at_n44 : GoodIn wsX2_fitsAll (wsX9_at) := ggX2_fitsAll_X9_at
set_option maxRecDepth 20000 in
theorem ggX2_fitsAll_X2_eighth : GoodIn wsX2_fitsAll wsX2_eighth := goodIn_r _ [19, 4, 5, 6, 7, 20, 21, 22, 23, 13, 14, 15] (by decide +kernel) (by decide +kernel)
set_option maxRecDepth 20000 in
theorem gX2_fitsAll_X2_eighth : GoodIn wsX2_fitsAll (va_wsS RX2 58 yX2_eighth wsX2_eighth) := goodIn_app (goodIn_of _ (by decide +kernel)) ggX2_fitsAll_X2_eighth
theorem dX2_fitsAll_0 : decode cX2_fitsAll 0 = .ok (.iconst 0, 1) := by decide +kernel
theorem dX2_fitsAll_1 : decode cX2_fitsAll 1 = .ok (.istore 5, 2) := by decide +kernel
theorem dX2_fitsAll_3 : decode cX2_fitsAll 3 = .ok (.iload 5, 2) := by decide +kernel
theorem dX2_fitsAll_5 : decode cX2_fitsAll 5 = .ok (.aload_n 0, 1) := by decide +kernel
theorem dX2_fitsAll_6 : decode cX2_fitsAll 6 = .ok (.getfield 24, 3) := by decide +kernel
theorem dX2_fitsAll_9 : decode cX2_fitsAll 9 = .ok (.if_icmp .ge 127, 3) := by decide +kernel
theorem dX2_fitsAll_12 : decode cX2_fitsAll 12 = .ok (.iload_n 1, 1) := by decide +kernel
theorem dX2_fitsAll_13 : decode cX2_fitsAll 13 = .ok (.aload_n 0, 1) := by decide +kernel
theorem dX2_fitsAll_14 : decode cX2_fitsAll 14 = .ok (.getfield 9, 3) := by decide +kernel
theorem dX2_fitsAll_17 : decode cX2_fitsAll 17 = .ok (.iload 5, 2) := by decide +kernel
theorem dX2_fitsAll_19 : decode cX2_fitsAll 19 = .ok (.invokestatic 44, 3) := by decide +kernel
theorem dX2_fitsAll_22 : decode cX2_fitsAll 22 = .ok (.isub, 1) := by decide +kernel
theorem dX2_fitsAll_23 : decode cX2_fitsAll 23 = .ok (.istore 6, 2) := by decide +kernel
theorem dX2_fitsAll_25 : decode cX2_fitsAll 25 = .ok (.iload_n 2, 1) := by decide +kernel
theorem dX2_fitsAll_26 : decode cX2_fitsAll 26 = .ok (.aload_n 0, 1) := by decide +kernel
theorem dX2_fitsAll_27 : decode cX2_fitsAll 27 = .ok (.getfield 15, 3) := by decide +kernel
theorem dX2_fitsAll_30 : decode cX2_fitsAll 30 = .ok (.iload 5, 2) := by decide +kernel
theorem dX2_fitsAll_32 : decode cX2_fitsAll 32 = .ok (.invokestatic 44, 3) := by decide +kernel
theorem dX2_fitsAll_35 : decode cX2_fitsAll 35 = .ok (.isub, 1) := by decide +kernel
theorem dX2_fitsAll_36 : decode cX2_fitsAll 36 = .ok (.istore 7, 2) := by decide +kernel
theorem dX2_fitsAll_38 : decode cX2_fitsAll 38 = .ok (.iload 6, 2) := by decide +kernel
theorem dX2_fitsAll_40 : decode cX2_fitsAll 40 = .ok (.invokestatic 48, 3) := by decide +kernel
theorem dX2_fitsAll_43 : decode cX2_fitsAll 43 = .ok (.iload 7, 2) := by decide +kernel
theorem dX2_fitsAll_45 : decode cX2_fitsAll 45 = .ok (.invokestatic 48, 3) := by decide +kernel
theorem dX2_fitsAll_48 : decode cX2_fitsAll 48 = .ok (.invokestatic 54, 3) := by decide +kernel
theorem dX2_fitsAll_51 : decode cX2_fitsAll 51 = .ok (.istore 8, 2) := by decide +kernel
theorem dX2_fitsAll_53 : decode cX2_fitsAll 53 = .ok (.bipush 90, 2) := by decide +kernel
theorem dX2_fitsAll_55 : decode cX2_fitsAll 55 = .ok (.iconst 0, 1) := by decide +kernel
theorem dX2_fitsAll_56 : decode cX2_fitsAll 56 = .ok (.bipush 10, 2) := by decide +kernel
theorem dX2_fitsAll_58 : decode cX2_fitsAll 58 = .ok (.iload_n 3, 1) := by decide +kernel
theorem dX2_fitsAll_59 : decode cX2_fitsAll 59 = .ok (.imul, 1) := by decide +kernel
theorem dX2_fitsAll_60 : decode cX2_fitsAll 60 = .ok (.bipush 8, 2) := by decide +kernel
theorem dX2_fitsAll_62 : decode cX2_fitsAll 62 = .ok (.iload 8, 2) := by decide +kernel
theorem dX2_fitsAll_64 : decode cX2_fitsAll 64 = .ok (.imul, 1) := by decide +kernel
theorem dX2_fitsAll_65 : decode cX2_fitsAll 65 = .ok (.isub, 1) := by decide +kernel
theorem dX2_fitsAll_66 : decode cX2_fitsAll 66 = .ok (.invokestatic 54, 3) := by decide +kernel
theorem dX2_fitsAll_69 : decode cX2_fitsAll 69 = .ok (.isub, 1) := by decide +kernel
theorem dX2_fitsAll_70 : decode cX2_fitsAll 70 = .ok (.istore 9, 2) := by decide +kernel
theorem dX2_fitsAll_72 : decode cX2_fitsAll 72 = .ok (.iload 9, 2) := by decide +kernel
theorem dX2_fitsAll_74 : decode cX2_fitsAll 74 = .ok (.aload_n 0, 1) := by decide +kernel
theorem dX2_fitsAll_75 : decode cX2_fitsAll 75 = .ok (.getfield 18, 3) := by decide +kernel
theorem dX2_fitsAll_78 : decode cX2_fitsAll 78 = .ok (.iload 5, 2) := by decide +kernel
theorem dX2_fitsAll_80 : decode cX2_fitsAll 80 = .ok (.invokestatic 44, 3) := by decide +kernel
theorem dX2_fitsAll_83 : decode cX2_fitsAll 83 = .ok (.isub, 1) := by decide +kernel
theorem dX2_fitsAll_84 : decode cX2_fitsAll 84 = .ok (.invokestatic 48, 3) := by decide +kernel
theorem dX2_fitsAll_87 : decode cX2_fitsAll 87 = .ok (.iload 4, 2) := by decide +kernel
theorem dX2_fitsAll_89 : decode cX2_fitsAll 89 = .ok (.if_icmp .gt 7, 3) := by decide +kernel
theorem dX2_fitsAll_92 : decode cX2_fitsAll 92 = .ok (.iconst 1, 1) := by decide +kernel
theorem dX2_fitsAll_93 : decode cX2_fitsAll 93 = .ok (.goto 4, 3) := by decide +kernel
theorem dX2_fitsAll_96 : decode cX2_fitsAll 96 = .ok (.iconst 0, 1) := by decide +kernel
theorem dX2_fitsAll_97 : decode cX2_fitsAll 97 = .ok (.istore 10, 2) := by decide +kernel
theorem dX2_fitsAll_99 : decode cX2_fitsAll 99 = .ok (.iload 10, 2) := by decide +kernel
theorem dX2_fitsAll_101 : decode cX2_fitsAll 101 = .ok (.ifCond .eq 27, 3) := by decide +kernel
theorem dX2_fitsAll_104 : decode cX2_fitsAll 104 = .ok (.iload 6, 2) := by decide +kernel
theorem dX2_fitsAll_106 : decode cX2_fitsAll 106 = .ok (.iload 7, 2) := by decide +kernel
theorem dX2_fitsAll_108 : decode cX2_fitsAll 108 = .ok (.invokestatic 58, 3) := by decide +kernel
theorem dX2_fitsAll_111 : decode cX2_fitsAll 111 = .ok (.aload_n 0, 1) := by decide +kernel
theorem dX2_fitsAll_112 : decode cX2_fitsAll 112 = .ok (.getfield 21, 3) := by decide +kernel
theorem dX2_fitsAll_115 : decode cX2_fitsAll 115 = .ok (.iload 5, 2) := by decide +kernel
theorem dX2_fitsAll_117 : decode cX2_fitsAll 117 = .ok (.invokestatic 44, 3) := by decide +kernel
theorem dX2_fitsAll_120 : decode cX2_fitsAll 120 = .ok (.iconst 2, 1) := by decide +kernel
theorem dX2_fitsAll_121 : decode cX2_fitsAll 121 = .ok (.iadd, 1) := by decide +kernel
theorem dX2_fitsAll_122 : decode cX2_fitsAll 122 = .ok (.bipush 8, 2) := by decide +kernel
theorem dX2_fitsAll_124 : decode cX2_fitsAll 124 = .ok (.irem, 1) := by decide +kernel
theorem dX2_fitsAll_125 : decode cX2_fitsAll 125 = .ok (.if_icmp .eq 5, 3) := by decide +kernel
theorem dX2_fitsAll_128 : decode cX2_fitsAll 128 = .ok (.iconst 0, 1) := by decide +kernel
theorem dX2_fitsAll_129 : decode cX2_fitsAll 129 = .ok (.ireturn, 1) := by decide +kernel
theorem dX2_fitsAll_130 : decode cX2_fitsAll 130 = .ok (.iinc 5 1, 3) := by decide +kernel
theorem dX2_fitsAll_133 : decode cX2_fitsAll 133 = .ok (.goto (-130), 3) := by decide +kernel
theorem dX2_fitsAll_136 : decode cX2_fitsAll 136 = .ok (.iconst 1, 1) := by decide +kernel
theorem dX2_fitsAll_137 : decode cX2_fitsAll 137 = .ok (.ireturn, 1) := by decide +kernel
set_option maxRecDepth 20000 in
theorem ggX2_eighth_J6_signum_0f7a4 : GoodIn wsX2_eighth wsJ6_signum_0f7a4 := goodIn_r _ [8] (by decide +kernel) (by decide +kernel)
set_option maxRecDepth 20000 in
theorem gX2_eighth_J6_signum_0f7a4 : GoodIn wsX2_eighth (va_wsS RX2 61 yJ6_signum_0f7a4 wsJ6_signum_0f7a4) := goodIn_app (goodIn_of _ (by decide +kernel)) ggX2_eighth_J6_signum_0f7a4
set_option maxRecDepth 20000 in
theorem ggX2_eighth_X9_at : GoodIn wsX2_eighth wsX9_at := goodIn_r _ [11] (by decide +kernel) (by decide +kernel)
set_option maxRecDepth 20000 in
theorem gX2_eighth_X9_at_n44 : GoodIn wsX2_eighth (wsX9_at) := ggX2_eighth_X9_at
theorem dX2_eighth_0 : decode cX2_eighth 0 = .ok (.iload_n 0, 1) := by decide +kernel
theorem dX2_eighth_1 : decode cX2_eighth 1 = .ok (.invokestatic 48, 3) := by decide +kernel
theorem dX2_eighth_4 : decode cX2_eighth 4 = .ok (.istore_n 2, 1) := by decide +kernel
theorem dX2_eighth_5 : decode cX2_eighth 5 = .ok (.iload_n 1, 1) := by decide +kernel
theorem dX2_eighth_6 : decode cX2_eighth 6 = .ok (.invokestatic 48, 3) := by decide +kernel
theorem dX2_eighth_9 : decode cX2_eighth 9 = .ok (.istore_n 3, 1) := by decide +kernel
theorem dX2_eighth_10 : decode cX2_eighth 10 = .ok (.iconst 2, 1) := by decide +kernel
theorem dX2_eighth_11 : decode cX2_eighth 11 = .ok (.iload_n 2, 1) := by decide +kernel
theorem dX2_eighth_12 : decode cX2_eighth 12 = .ok (.imul, 1) := by decide +kernel
theorem dX2_eighth_13 : decode cX2_eighth 13 = .ok (.iload_n 3, 1) := by decide +kernel
theorem dX2_eighth_14 : decode cX2_eighth 14 = .ok (.if_icmp .ge 7, 3) := by decide +kernel
theorem dX2_eighth_17 : decode cX2_eighth 17 = .ok (.iconst 0, 1) := by decide +kernel
theorem dX2_eighth_18 : decode cX2_eighth 18 = .ok (.goto 7, 3) := by decide +kernel
theorem dX2_eighth_21 : decode cX2_eighth 21 = .ok (.iload_n 0, 1) := by decide +kernel
theorem dX2_eighth_22 : decode cX2_eighth 22 = .ok (.invokestatic 61, 3) := by decide +kernel
theorem dX2_eighth_25 : decode cX2_eighth 25 = .ok (.istore 4, 2) := by decide +kernel
theorem dX2_eighth_27 : decode cX2_eighth 27 = .ok (.iconst 2, 1) := by decide +kernel
theorem dX2_eighth_28 : decode cX2_eighth 28 = .ok (.iload_n 3, 1) := by decide +kernel
theorem dX2_eighth_29 : decode cX2_eighth 29 = .ok (.imul, 1) := by decide +kernel
theorem dX2_eighth_30 : decode cX2_eighth 30 = .ok (.iload_n 2, 1) := by decide +kernel
theorem dX2_eighth_31 : decode cX2_eighth 31 = .ok (.if_icmp .ge 7, 3) := by decide +kernel
theorem dX2_eighth_34 : decode cX2_eighth 34 = .ok (.iconst 0, 1) := by decide +kernel
theorem dX2_eighth_35 : decode cX2_eighth 35 = .ok (.goto 7, 3) := by decide +kernel
theorem dX2_eighth_38 : decode cX2_eighth 38 = .ok (.iload_n 1, 1) := by decide +kernel
theorem dX2_eighth_39 : decode cX2_eighth 39 = .ok (.invokestatic 61, 3) := by decide +kernel
theorem dX2_eighth_42 : decode cX2_eighth 42 = .ok (.istore 5, 2) := by decide +kernel
theorem dX2_eighth_44 : decode cX2_eighth 44 = .ok (.getstatic 66, 3) := by decide +kernel
theorem dX2_eighth_47 : decode cX2_eighth 47 = .ok (.iconst 3, 1) := by decide +kernel
theorem dX2_eighth_48 : decode cX2_eighth 48 = .ok (.iload 5, 2) := by decide +kernel
theorem dX2_eighth_50 : decode cX2_eighth 50 = .ok (.iconst 1, 1) := by decide +kernel
theorem dX2_eighth_51 : decode cX2_eighth 51 = .ok (.iadd, 1) := by decide +kernel
theorem dX2_eighth_52 : decode cX2_eighth 52 = .ok (.imul, 1) := by decide +kernel
theorem dX2_eighth_53 : decode cX2_eighth 53 = .ok (.iload 4, 2) := by decide +kernel
theorem dX2_eighth_55 : decode cX2_eighth 55 = .ok (.iadd, 1) := by decide +kernel
theorem dX2_eighth_56 : decode cX2_eighth 56 = .ok (.iconst 1, 1) := by decide +kernel
theorem dX2_eighth_57 : decode cX2_eighth 57 = .ok (.iadd, 1) := by decide +kernel
theorem dX2_eighth_58 : decode cX2_eighth 58 = .ok (.invokestatic 44, 3) := by decide +kernel
theorem dX2_eighth_61 : decode cX2_eighth 61 = .ok (.ireturn, 1) := by decide +kernel
theorem dX3_init_0 : decode cX3_init 0 = .ok (.aload_n 0, 1) := by decide +kernel
theorem dX3_init_1 : decode cX3_init 1 = .ok (.invokespecial 3, 3) := by decide +kernel
theorem dX3_init_4 : decode cX3_init 4 = .ok (.aload_n 0, 1) := by decide +kernel
theorem dX3_init_5 : decode cX3_init 5 = .ok (.iload_n 1, 1) := by decide +kernel
theorem dX3_init_6 : decode cX3_init 6 = .ok (.putfield 9, 3) := by decide +kernel
theorem dX3_init_9 : decode cX3_init 9 = .ok (.aload_n 0, 1) := by decide +kernel
theorem dX3_init_10 : decode cX3_init 10 = .ok (.iload_n 2, 1) := by decide +kernel
theorem dX3_init_11 : decode cX3_init 11 = .ok (.putfield 15, 3) := by decide +kernel
theorem dX3_init_14 : decode cX3_init 14 = .ok (.aload_n 0, 1) := by decide +kernel
theorem dX3_init_15 : decode cX3_init 15 = .ok (.iload_n 3, 1) := by decide +kernel
theorem dX3_init_16 : decode cX3_init 16 = .ok (.putfield 18, 3) := by decide +kernel
theorem dX3_init_19 : decode cX3_init 19 = .ok (.aload_n 0, 1) := by decide +kernel
theorem dX3_init_20 : decode cX3_init 20 = .ok (.iload 4, 2) := by decide +kernel
theorem dX3_init_22 : decode cX3_init 22 = .ok (.putfield 21, 3) := by decide +kernel
theorem dX3_init_25 : decode cX3_init 25 = .ok (.aload_n 0, 1) := by decide +kernel
theorem dX3_init_26 : decode cX3_init 26 = .ok (.iload 5, 2) := by decide +kernel
theorem dX3_init_28 : decode cX3_init 28 = .ok (.putfield 24, 3) := by decide +kernel
theorem dX3_init_31 : decode cX3_init 31 = .ok (.aload_n 0, 1) := by decide +kernel
theorem dX3_init_32 : decode cX3_init 32 = .ok (.iload 6, 2) := by decide +kernel
theorem dX3_init_34 : decode cX3_init 34 = .ok (.putfield 27, 3) := by decide +kernel
theorem dX3_init_37 : decode cX3_init 37 = .ok (.return_, 1) := by decide +kernel
set_option maxRecDepth 20000 in
theorem ggX3_isAsTold_X9_within : GoodIn wsX3_isAsTold wsX9_within := goodIn_r _ [9] (by decide +kernel) (by decide +kernel)
set_option maxRecDepth 20000 in
theorem gX3_isAsTold_X9_within_n30 : GoodIn wsX3_isAsTold (wsX9_within) := ggX3_isAsTold_X9_within
set_option maxRecDepth 20000 in
theorem ggX3_isAsTold_X9_at : GoodIn wsX3_isAsTold wsX9_at := goodIn_r _ [11] (by decide +kernel) (by decide +kernel)
set_option maxRecDepth 20000 in
theorem gX3_isAsTold_X9_at_n38 : GoodIn wsX3_isAsTold (wsX9_at) := ggX3_isAsTold_X9_at
theorem dX3_isAsTold_0 : decode cX3_isAsTold 0 = .ok (.aload_n 0, 1) := by decide +kernel
theorem dX3_isAsTold_1 : decode cX3_isAsTold 1 = .ok (.getfield 15, 3) := by decide +kernel
theorem dX3_isAsTold_4 : decode cX3_isAsTold 4 = .ok (.iconst 1, 1) := by decide +kernel
theorem dX3_isAsTold_5 : decode cX3_isAsTold 5 = .ok (.bipush 9, 2) := by decide +kernel
theorem dX3_isAsTold_7 : decode cX3_isAsTold 7 = .ok (.invokestatic 30, 3) := by decide +kernel
theorem dX3_isAsTold_10 : decode cX3_isAsTold 10 = .ok (.ifCond .eq 31, 3) := by decide +kernel
theorem dX3_isAsTold_13 : decode cX3_isAsTold 13 = .ok (.aload_n 0, 1) := by decide +kernel
theorem dX3_isAsTold_14 : decode cX3_isAsTold 14 = .ok (.getfield 9, 3) := by decide +kernel
theorem dX3_isAsTold_17 : decode cX3_isAsTold 17 = .ok (.ifCond .lt 24, 3) := by decide +kernel
theorem dX3_isAsTold_20 : decode cX3_isAsTold 20 = .ok (.aload_n 0, 1) := by decide +kernel
theorem dX3_isAsTold_21 : decode cX3_isAsTold 21 = .ok (.getfield 9, 3) := by decide +kernel
theorem dX3_isAsTold_24 : decode cX3_isAsTold 24 = .ok (.getstatic 34, 3) := by decide +kernel
theorem dX3_isAsTold_27 : decode cX3_isAsTold 27 = .ok (.aload_n 0, 1) := by decide +kernel
theorem dX3_isAsTold_28 : decode cX3_isAsTold 28 = .ok (.getfield 15, 3) := by decide +kernel
theorem dX3_isAsTold_31 : decode cX3_isAsTold 31 = .ok (.invokestatic 38, 3) := by decide +kernel
theorem dX3_isAsTold_34 : decode cX3_isAsTold 34 = .ok (.if_icmp .ge 7, 3) := by decide +kernel
theorem dX3_isAsTold_37 : decode cX3_isAsTold 37 = .ok (.iconst 1, 1) := by decide +kernel
theorem dX3_isAsTold_38 : decode cX3_isAsTold 38 = .ok (.goto 4, 3) := by decide +kernel
theorem dX3_isAsTold_41 : decode cX3_isAsTold 41 = .ok (.iconst 0, 1) := by decide +kernel
theorem dX3_isAsTold_42 : decode cX3_isAsTold 42 = .ok (.istore_n 1, 1) := by decide +kernel
theorem dX3_isAsTold_43 : decode cX3_isAsTold 43 = .ok (.aload_n 0, 1) := by decide +kernel
theorem dX3_isAsTold_44 : decode cX3_isAsTold 44 = .ok (.getfield 21, 3) := by decide +kernel
theorem dX3_isAsTold_47 : decode cX3_isAsTold 47 = .ok (.iconst 0, 1) := by decide +kernel
theorem dX3_isAsTold_48 : decode cX3_isAsTold 48 = .ok (.sipush 999, 3) := by decide +kernel
theorem dX3_isAsTold_51 : decode cX3_isAsTold 51 = .ok (.invokestatic 30, 3) := by decide +kernel
theorem dX3_isAsTold_54 : decode cX3_isAsTold 54 = .ok (.ifCond .eq 34, 3) := by decide +kernel
theorem dX3_isAsTold_57 : decode cX3_isAsTold 57 = .ok (.aload_n 0, 1) := by decide +kernel
theorem dX3_isAsTold_58 : decode cX3_isAsTold 58 = .ok (.getfield 24, 3) := by decide +kernel
theorem dX3_isAsTold_61 : decode cX3_isAsTold 61 = .ok (.iconst 0, 1) := by decide +kernel
theorem dX3_isAsTold_62 : decode cX3_isAsTold 62 = .ok (.sipush 999, 3) := by decide +kernel
theorem dX3_isAsTold_65 : decode cX3_isAsTold 65 = .ok (.invokestatic 30, 3) := by decide +kernel
theorem dX3_isAsTold_68 : decode cX3_isAsTold 68 = .ok (.ifCond .eq 20, 3) := by decide +kernel
theorem dX3_isAsTold_71 : decode cX3_isAsTold 71 = .ok (.aload_n 0, 1) := by decide +kernel
theorem dX3_isAsTold_72 : decode cX3_isAsTold 72 = .ok (.getfield 27, 3) := by decide +kernel
theorem dX3_isAsTold_75 : decode cX3_isAsTold 75 = .ok (.iconst 0, 1) := by decide +kernel
theorem dX3_isAsTold_76 : decode cX3_isAsTold 76 = .ok (.bipush 99, 2) := by decide +kernel
theorem dX3_isAsTold_78 : decode cX3_isAsTold 78 = .ok (.invokestatic 30, 3) := by decide +kernel
theorem dX3_isAsTold_81 : decode cX3_isAsTold 81 = .ok (.ifCond .eq 7, 3) := by decide +kernel
theorem dX3_isAsTold_84 : decode cX3_isAsTold 84 = .ok (.iconst 1, 1) := by decide +kernel
theorem dX3_isAsTold_85 : decode cX3_isAsTold 85 = .ok (.goto 4, 3) := by decide +kernel
theorem dX3_isAsTold_88 : decode cX3_isAsTold 88 = .ok (.iconst 0, 1) := by decide +kernel
theorem dX3_isAsTold_89 : decode cX3_isAsTold 89 = .ok (.istore_n 2, 1) := by decide +kernel
theorem dX3_isAsTold_90 : decode cX3_isAsTold 90 = .ok (.iload_n 1, 1) := by decide +kernel
theorem dX3_isAsTold_91 : decode cX3_isAsTold 91 = .ok (.ifCond .eq 23, 3) := by decide +kernel
theorem dX3_isAsTold_94 : decode cX3_isAsTold 94 = .ok (.iload_n 2, 1) := by decide +kernel
theorem dX3_isAsTold_95 : decode cX3_isAsTold 95 = .ok (.ifCond .eq 19, 3) := by decide +kernel
theorem dX3_isAsTold_98 : decode cX3_isAsTold 98 = .ok (.aload_n 0, 1) := by decide +kernel
theorem dX3_isAsTold_99 : decode cX3_isAsTold 99 = .ok (.getfield 18, 3) := by decide +kernel
theorem dX3_isAsTold_102 : decode cX3_isAsTold 102 = .ok (.iconst 1, 1) := by decide +kernel
theorem dX3_isAsTold_103 : decode cX3_isAsTold 103 = .ok (.iconst 3, 1) := by decide +kernel
theorem dX3_isAsTold_104 : decode cX3_isAsTold 104 = .ok (.invokestatic 30, 3) := by decide +kernel
theorem dX3_isAsTold_107 : decode cX3_isAsTold 107 = .ok (.ifCond .eq 7, 3) := by decide +kernel
theorem dX3_isAsTold_110 : decode cX3_isAsTold 110 = .ok (.iconst 1, 1) := by decide +kernel
theorem dX3_isAsTold_111 : decode cX3_isAsTold 111 = .ok (.goto 4, 3) := by decide +kernel
theorem dX3_isAsTold_114 : decode cX3_isAsTold 114 = .ok (.iconst 0, 1) := by decide +kernel
theorem dX3_isAsTold_115 : decode cX3_isAsTold 115 = .ok (.ireturn, 1) := by decide +kernel
set_option maxRecDepth 20000 in
theorem ggX3_valueFrom_X3_canCut : GoodIn wsX3_valueFrom wsX3_canCut := goodIn_r _ [11, 12, 1, 27, 28, 29, 30, 31, 32] (by decide +kernel) (by decide +kernel)
set_option maxRecDepth 20000 in
theorem gX3_valueFrom_X3_canCut : GoodIn wsX3_valueFrom (wsV RX3 48 RX3 yX3_canCut wsX3_canCut) := goodIn_app (goodIn_of _ (by decide +kernel)) ggX3_valueFrom_X3_canCut
set_option maxRecDepth 20000 in
theorem ggX3_valueFrom_X3_valueOfCutting : GoodIn wsX3_valueFrom wsX3_valueOfCutting := goodIn_r _ [16, 12, 17, 18, 19, 20, 21, 10, 22, 1, 23, 24, 25, 26, 27, 28, 29, 30, 31, 32] (by decide +kernel) (by decide +kernel)
set_option maxRecDepth 20000 in
theorem gX3_valueFrom_X3_valueOfCutting : GoodIn wsX3_valueFrom (wsV RX3 52 RX3 yX3_valueOfCutting wsX3_valueOfCutting) := goodIn_app (goodIn_of _ (by decide +kernel)) ggX3_valueFrom_X3_valueOfCutting
theorem dX3_valueFrom_0 : decode cX3_valueFrom 0 = .ok (.iconst 0, 1) := by decide +kernel
theorem dX3_valueFrom_1 : decode cX3_valueFrom 1 = .ok (.istore_n 2, 1) := by decide +kernel
theorem dX3_valueFrom_2 : decode cX3_valueFrom 2 = .ok (.aload_n 0, 1) := by decide +kernel
theorem dX3_valueFrom_3 : decode cX3_valueFrom 3 = .ok (.getfield 15, 3) := by decide +kernel
theorem dX3_valueFrom_6 : decode cX3_valueFrom 6 = .ok (.iconst 1, 1) := by decide +kernel
theorem dX3_valueFrom_7 : decode cX3_valueFrom 7 = .ok (.isub, 1) := by decide +kernel
theorem dX3_valueFrom_8 : decode cX3_valueFrom 8 = .ok (.istore_n 3, 1) := by decide +kernel
theorem dX3_valueFrom_9 : decode cX3_valueFrom 9 = .ok (.iload_n 3, 1) := by decide +kernel
theorem dX3_valueFrom_10 : decode cX3_valueFrom 10 = .ok (.iload_n 1, 1) := by decide +kernel
theorem dX3_valueFrom_11 : decode cX3_valueFrom 11 = .ok (.if_icmp .lt 42, 3) := by decide +kernel
theorem dX3_valueFrom_14 : decode cX3_valueFrom 14 = .ok (.iconst 0, 1) := by decide +kernel
theorem dX3_valueFrom_15 : decode cX3_valueFrom 15 = .ok (.iload_n 2, 1) := by decide +kernel
theorem dX3_valueFrom_16 : decode cX3_valueFrom 16 = .ok (.sipush 1000, 3) := by decide +kernel
theorem dX3_valueFrom_19 : decode cX3_valueFrom 19 = .ok (.aload_n 0, 1) := by decide +kernel
theorem dX3_valueFrom_20 : decode cX3_valueFrom 20 = .ok (.getfield 27, 3) := by decide +kernel
theorem dX3_valueFrom_23 : decode cX3_valueFrom 23 = .ok (.imul, 1) := by decide +kernel
theorem dX3_valueFrom_24 : decode cX3_valueFrom 24 = .ok (.isub, 1) := by decide +kernel
theorem dX3_valueFrom_25 : decode cX3_valueFrom 25 = .ok (.invokestatic 42, 3) := by decide +kernel
theorem dX3_valueFrom_28 : decode cX3_valueFrom 28 = .ok (.istore_n 2, 1) := by decide +kernel
theorem dX3_valueFrom_29 : decode cX3_valueFrom 29 = .ok (.aload_n 0, 1) := by decide +kernel
theorem dX3_valueFrom_30 : decode cX3_valueFrom 30 = .ok (.iload_n 3, 1) := by decide +kernel
theorem dX3_valueFrom_31 : decode cX3_valueFrom 31 = .ok (.invokevirtual 48, 3) := by decide +kernel
theorem dX3_valueFrom_34 : decode cX3_valueFrom 34 = .ok (.ifCond .eq 13, 3) := by decide +kernel
theorem dX3_valueFrom_37 : decode cX3_valueFrom 37 = .ok (.iload_n 2, 1) := by decide +kernel
theorem dX3_valueFrom_38 : decode cX3_valueFrom 38 = .ok (.aload_n 0, 1) := by decide +kernel
theorem dX3_valueFrom_39 : decode cX3_valueFrom 39 = .ok (.iload_n 3, 1) := by decide +kernel
theorem dX3_valueFrom_40 : decode cX3_valueFrom 40 = .ok (.invokevirtual 52, 3) := by decide +kernel
theorem dX3_valueFrom_43 : decode cX3_valueFrom 43 = .ok (.invokestatic 42, 3) := by decide +kernel
theorem dX3_valueFrom_46 : decode cX3_valueFrom 46 = .ok (.istore_n 2, 1) := by decide +kernel
theorem dX3_valueFrom_47 : decode cX3_valueFrom 47 = .ok (.iinc 3 (-1), 3) := by decide +kernel
theorem dX3_valueFrom_50 : decode cX3_valueFrom 50 = .ok (.goto (-41), 3) := by decide +kernel
theorem dX3_valueFrom_53 : decode cX3_valueFrom 53 = .ok (.iload_n 2, 1) := by decide +kernel
theorem dX3_valueFrom_54 : decode cX3_valueFrom 54 = .ok (.ireturn, 1) := by decide +kernel
set_option maxRecDepth 20000 in
theorem ggX3_choiceOn_X3_valueFrom : GoodIn wsX3_choiceOn wsX3_valueFrom := goodIn_r _ [5, 6, 7, 8, 9, 10, 11, 12, 13, 14, 4, 15, 16, 17, 18, 19, 20, 21, 22, 23, 24, 25, 26, 27, 28, 29, 30, 31, 32, 33, 34, 35, 36] (by decide +kernel) (by decide +kernel)
set_option maxRecDepth 20000 in
theorem gX3_choiceOn_X3_valueFrom : GoodIn wsX3_choiceOn (wsV RX3 56 RX3 yX3_valueFrom wsX3_valueFrom) := goodIn_app (goodIn_of _ (by decide +kernel)) ggX3_choiceOn_X3_valueFrom
set_option maxRecDepth 20000 in
theorem ggX3_choiceOn_X3_canCut : GoodIn wsX3_choiceOn wsX3_canCut := goodIn_r _ [15, 16, 6, 31, 32, 33, 34, 35, 36] (by decide +kernel) (by decide +kernel)
set_option maxRecDepth 20000 in
theorem gX3_choiceOn_X3_canCut : GoodIn wsX3_choiceOn (wsV RX3 48 RX3 yX3_canCut wsX3_canCut) := goodIn_app (goodIn_of _ (by decide +kernel)) ggX3_choiceOn_X3_canCut
set_option maxRecDepth 20000 in
theorem ggX3_choiceOn_X3_valueOfCutting : GoodIn wsX3_choiceOn wsX3_valueOfCutting := goodIn_r _ [20, 16, 21, 22, 23, 24, 25, 4, 26, 6, 27, 28, 29, 30, 31, 32, 33, 34, 35, 36] (by decide +kernel) (by decide +kernel)
set_option maxRecDepth 20000 in
theorem gX3_choiceOn_X3_valueOfCutting : GoodIn wsX3_choiceOn (wsV RX3 52 RX3 yX3_valueOfCutting wsX3_valueOfCutting) := goodIn_app (goodIn_of _ (by decide +kernel)) ggX3_choiceOn_X3_valueOfCutting
theorem dX3_choiceOn_0 : decode cX3_choiceOn 0 = .ok (.aload_n 0, 1) := by decide +kernel
theorem dX3_choiceOn_1 : decode cX3_choiceOn 1 = .ok (.iload_n 1, 1) := by decide +kernel
theorem dX3_choiceOn_2 : decode cX3_choiceOn 2 = .ok (.invokevirtual 56, 3) := by decide +kernel
theorem dX3_choiceOn_5 : decode cX3_choiceOn 5 = .ok (.istore_n 2, 1) := by decide +kernel
theorem dX3_choiceOn_6 : decode cX3_choiceOn 6 = .ok (.iload_n 2, 1) := by decide +kernel
theorem dX3_choiceOn_7 : decode cX3_choiceOn 7 = .ok (.ifCond .ne 5, 3) := by decide +kernel
theorem dX3_choiceOn_10 : decode cX3_choiceOn 10 = .ok (.iconst 0, 1) := by decide +kernel
theorem dX3_choiceOn_11 : decode cX3_choiceOn 11 = .ok (.ireturn, 1) := by decide +kernel
theorem dX3_choiceOn_12 : decode cX3_choiceOn 12 = .ok (.aload_n 0, 1) := by decide +kernel
theorem dX3_choiceOn_13 : decode cX3_choiceOn 13 = .ok (.iload_n 1, 1) := by decide +kernel
theorem dX3_choiceOn_14 : decode cX3_choiceOn 14 = .ok (.invokevirtual 48, 3) := by decide +kernel
theorem dX3_choiceOn_17 : decode cX3_choiceOn 17 = .ok (.ifCond .eq 16, 3) := by decide +kernel
theorem dX3_choiceOn_20 : decode cX3_choiceOn 20 = .ok (.iload_n 2, 1) := by decide +kernel
theorem dX3_choiceOn_21 : decode cX3_choiceOn 21 = .ok (.aload_n 0, 1) := by decide +kernel
theorem dX3_choiceOn_22 : decode cX3_choiceOn 22 = .ok (.iload_n 1, 1) := by decide +kernel
theorem dX3_choiceOn_23 : decode cX3_choiceOn 23 = .ok (.invokevirtual 52, 3) := by decide +kernel
theorem dX3_choiceOn_26 : decode cX3_choiceOn 26 = .ok (.if_icmp .ne 7, 3) := by decide +kernel
theorem dX3_choiceOn_29 : decode cX3_choiceOn 29 = .ok (.iconst 1, 1) := by decide +kernel
theorem dX3_choiceOn_30 : decode cX3_choiceOn 30 = .ok (.goto 4, 3) := by decide +kernel
theorem dX3_choiceOn_33 : decode cX3_choiceOn 33 = .ok (.iconst 2, 1) := by decide +kernel
theorem dX3_choiceOn_34 : decode cX3_choiceOn 34 = .ok (.ireturn, 1) := by decide +kernel
theorem dX3_canCut_0 : decode cX3_canCut 0 = .ok (.iload_n 1, 1) := by decide +kernel
theorem dX3_canCut_1 : decode cX3_canCut 1 = .ok (.aload_n 0, 1) := by decide +kernel
theorem dX3_canCut_2 : decode cX3_canCut 2 = .ok (.getfield 18, 3) := by decide +kernel
theorem dX3_canCut_5 : decode cX3_canCut 5 = .ok (.iadd, 1) := by decide +kernel
theorem dX3_canCut_6 : decode cX3_canCut 6 = .ok (.aload_n 0, 1) := by decide +kernel
theorem dX3_canCut_7 : decode cX3_canCut 7 = .ok (.getfield 15, 3) := by decide +kernel
theorem dX3_canCut_10 : decode cX3_canCut 10 = .ok (.if_icmp .gt 7, 3) := by decide +kernel
theorem dX3_canCut_13 : decode cX3_canCut 13 = .ok (.iconst 1, 1) := by decide +kernel
theorem dX3_canCut_14 : decode cX3_canCut 14 = .ok (.goto 4, 3) := by decide +kernel
theorem dX3_canCut_17 : decode cX3_canCut 17 = .ok (.iconst 0, 1) := by decide +kernel
theorem dX3_canCut_18 : decode cX3_canCut 18 = .ok (.ireturn, 1) := by decide +kernel
set_option maxRecDepth 20000 in
theorem ggX3_valueOfCutting_X3_tenthsOf : GoodIn wsX3_valueOfCutting wsX3_tenthsOf := goodIn_r _ [8, 9, 10, 11, 12, 13, 14, 15, 16, 17, 18, 19] (by decide +kernel) (by decide +kernel)
set_option maxRecDepth 20000 in
theorem gX3_valueOfCutting_X3_tenthsOf : GoodIn wsX3_valueOfCutting (wsV RX3 59 RX3 yX3_tenthsOf wsX3_tenthsOf) := goodIn_app (goodIn_of _ (by decide +kernel)) ggX3_valueOfCutting_X3_tenthsOf
theorem dX3_valueOfCutting_0 : decode cX3_valueOfCutting 0 = .ok (.sipush 1000, 3) := by decide +kernel
theorem dX3_valueOfCutting_3 : decode cX3_valueOfCutting 3 = .ok (.istore_n 2, 1) := by decide +kernel
theorem dX3_valueOfCutting_4 : decode cX3_valueOfCutting 4 = .ok (.iload_n 1, 1) := by decide +kernel
theorem dX3_valueOfCutting_5 : decode cX3_valueOfCutting 5 = .ok (.istore_n 3, 1) := by decide +kernel
theorem dX3_valueOfCutting_6 : decode cX3_valueOfCutting 6 = .ok (.iload_n 3, 1) := by decide +kernel
theorem dX3_valueOfCutting_7 : decode cX3_valueOfCutting 7 = .ok (.iload_n 1, 1) := by decide +kernel
theorem dX3_valueOfCutting_8 : decode cX3_valueOfCutting 8 = .ok (.aload_n 0, 1) := by decide +kernel
theorem dX3_valueOfCutting_9 : decode cX3_valueOfCutting 9 = .ok (.getfield 18, 3) := by decide +kernel
theorem dX3_valueOfCutting_12 : decode cX3_valueOfCutting 12 = .ok (.iadd, 1) := by decide +kernel
theorem dX3_valueOfCutting_13 : decode cX3_valueOfCutting 13 = .ok (.if_icmp .ge 28, 3) := by decide +kernel
theorem dX3_valueOfCutting_16 : decode cX3_valueOfCutting 16 = .ok (.iload_n 2, 1) := by decide +kernel
theorem dX3_valueOfCutting_17 : decode cX3_valueOfCutting 17 = .ok (.sipush 1000, 3) := by decide +kernel
theorem dX3_valueOfCutting_20 : decode cX3_valueOfCutting 20 = .ok (.bipush 100, 2) := by decide +kernel
theorem dX3_valueOfCutting_22 : decode cX3_valueOfCutting 22 = .ok (.aload_n 0, 1) := by decide +kernel
theorem dX3_valueOfCutting_23 : decode cX3_valueOfCutting 23 = .ok (.iload_n 3, 1) := by decide +kernel
theorem dX3_valueOfCutting_24 : decode cX3_valueOfCutting 24 = .ok (.invokevirtual 59, 3) := by decide +kernel
theorem dX3_valueOfCutting_27 : decode cX3_valueOfCutting 27 = .ok (.imul, 1) := by decide +kernel
theorem dX3_valueOfCutting_28 : decode cX3_valueOfCutting 28 = .ok (.isub, 1) := by decide +kernel
theorem dX3_valueOfCutting_29 : decode cX3_valueOfCutting 29 = .ok (.imul, 1) := by decide +kernel
theorem dX3_valueOfCutting_30 : decode cX3_valueOfCutting 30 = .ok (.sipush 1000, 3) := by decide +kernel
theorem dX3_valueOfCutting_33 : decode cX3_valueOfCutting 33 = .ok (.idiv, 1) := by decide +kernel
theorem dX3_valueOfCutting_34 : decode cX3_valueOfCutting 34 = .ok (.istore_n 2, 1) := by decide +kernel
theorem dX3_valueOfCutting_35 : decode cX3_valueOfCutting 35 = .ok (.iinc 3 1, 3) := by decide +kernel
theorem dX3_valueOfCutting_38 : decode cX3_valueOfCutting 38 = .ok (.goto (-32), 3) := by decide +kernel
theorem dX3_valueOfCutting_41 : decode cX3_valueOfCutting 41 = .ok (.aload_n 0, 1) := by decide +kernel
theorem dX3_valueOfCutting_42 : decode cX3_valueOfCutting 42 = .ok (.getfield 21, 3) := by decide +kernel
theorem dX3_valueOfCutting_45 : decode cX3_valueOfCutting 45 = .ok (.aload_n 0, 1) := by decide +kernel
theorem dX3_valueOfCutting_46 : decode cX3_valueOfCutting 46 = .ok (.getfield 24, 3) := by decide +kernel
theorem dX3_valueOfCutting_49 : decode cX3_valueOfCutting 49 = .ok (.iadd, 1) := by decide +kernel
theorem dX3_valueOfCutting_50 : decode cX3_valueOfCutting 50 = .ok (.iload_n 2, 1) := by decide +kernel
theorem dX3_valueOfCutting_51 : decode cX3_valueOfCutting 51 = .ok (.imul, 1) := by decide +kernel
theorem dX3_valueOfCutting_52 : decode cX3_valueOfCutting 52 = .ok (.sipush 1000, 3) := by decide +kernel
theorem dX3_valueOfCutting_55 : decode cX3_valueOfCutting 55 = .ok (.aload_n 0, 1) := by decide +kernel
theorem dX3_valueOfCutting_56 : decode cX3_valueOfCutting 56 = .ok (.getfield 24, 3) := by decide +kernel
theorem dX3_valueOfCutting_59 : decode cX3_valueOfCutting 59 = .ok (.imul, 1) := by decide +kernel
theorem dX3_valueOfCutting_60 : decode cX3_valueOfCutting 60 = .ok (.isub, 1) := by decide +kernel
theorem dX3_valueOfCutting_61 : decode cX3_valueOfCutting 61 = .ok (.ireturn, 1) := by decide +kernel
set_option maxRecDepth 20000 in
theorem ggX3_tenthsOf_X9_at : GoodIn wsX3_tenthsOf wsX9_at := goodIn_r _ [5] (by decide +kernel) (by decide +kernel)
set_option maxRecDepth 20000 in
theorem gX3_tenthsOf_X9_at_n38 : GoodIn wsX3_tenthsOf (wsX9_at) := ggX3_tenthsOf_X9_at
theorem dX3_tenthsOf_0 : decode cX3_tenthsOf 0 = .ok (.getstatic 34, 3) := by decide +kernel
theorem dX3_tenthsOf_3 : decode cX3_tenthsOf 3 = .ok (.aload_n 0, 1) := by decide +kernel
theorem dX3_tenthsOf_4 : decode cX3_tenthsOf 4 = .ok (.getfield 15, 3) := by decide +kernel
theorem dX3_tenthsOf_7 : decode cX3_tenthsOf 7 = .ok (.iconst 1, 1) := by decide +kernel
theorem dX3_tenthsOf_8 : decode cX3_tenthsOf 8 = .ok (.isub, 1) := by decide +kernel
theorem dX3_tenthsOf_9 : decode cX3_tenthsOf 9 = .ok (.iload_n 1, 1) := by decide +kernel
theorem dX3_tenthsOf_10 : decode cX3_tenthsOf 10 = .ok (.isub, 1) := by decide +kernel
theorem dX3_tenthsOf_11 : decode cX3_tenthsOf 11 = .ok (.invokestatic 38, 3) := by decide +kernel
theorem dX3_tenthsOf_14 : decode cX3_tenthsOf 14 = .ok (.istore_n 2, 1) := by decide +kernel
theorem dX3_tenthsOf_15 : decode cX3_tenthsOf 15 = .ok (.iload_n 2, 1) := by decide +kernel
theorem dX3_tenthsOf_16 : decode cX3_tenthsOf 16 = .ok (.ifCond .le 15, 3) := by decide +kernel
theorem dX3_tenthsOf_19 : decode cX3_tenthsOf 19 = .ok (.aload_n 0, 1) := by decide +kernel
theorem dX3_tenthsOf_20 : decode cX3_tenthsOf 20 = .ok (.getfield 9, 3) := by decide +kernel
theorem dX3_tenthsOf_23 : decode cX3_tenthsOf 23 = .ok (.iload_n 2, 1) := by decide +kernel
theorem dX3_tenthsOf_24 : decode cX3_tenthsOf 24 = .ok (.idiv, 1) := by decide +kernel
theorem dX3_tenthsOf_25 : decode cX3_tenthsOf 25 = .ok (.bipush 10, 2) := by decide +kernel
theorem dX3_tenthsOf_27 : decode cX3_tenthsOf 27 = .ok (.irem, 1) := by decide +kernel
theorem dX3_tenthsOf_28 : decode cX3_tenthsOf 28 = .ok (.goto 4, 3) := by decide +kernel
theorem dX3_tenthsOf_31 : decode cX3_tenthsOf 31 = .ok (.iconst 0, 1) := by decide +kernel
theorem dX3_tenthsOf_32 : decode cX3_tenthsOf 32 = .ok (.ireturn, 1) := by decide +kernel
set_option maxRecDepth 20000 in
theorem ggX4_init_X6_init : GoodIn wsX4_init wsX6_init := goodIn_r _ [13, 14, 2, 3, 15, 16, 17, 18, 4, 19, 20, 24, 25] (by decide +kernel) (by decide +kernel)
set_option maxRecDepth 20000 in
theorem gX4_init_X6_init : GoodIn wsX4_init (wsX6_init) := ggX4_init_X6_init
theorem dX4_init_0 : decode cX4_init 0 = .ok (.aload_n 0, 1) := by decide +kernel
theorem dX4_init_1 : decode cX4_init 1 = .ok (.invokespecial 3, 3) := by decide +kernel
theorem dX4_init_4 : decode cX4_init 4 = .ok (.aload_n 0, 1) := by decide +kernel
theorem dX4_init_5 : decode cX4_init 5 = .ok (.bipush 64, 2) := by decide +kernel
theorem dX4_init_7 : decode cX4_init 7 = .ok (.newarray .int, 2) := by decide +kernel
theorem dX4_init_9 : decode cX4_init 9 = .ok (.putfield 9, 3) := by decide +kernel
theorem dX4_init_12 : decode cX4_init 12 = .ok (.aload_n 0, 1) := by decide +kernel
theorem dX4_init_13 : decode cX4_init 13 = .ok (.bipush 64, 2) := by decide +kernel
theorem dX4_init_15 : decode cX4_init 15 = .ok (.newarray .int, 2) := by decide +kernel
theorem dX4_init_17 : decode cX4_init 17 = .ok (.putfield 15, 3) := by decide +kernel
theorem dX4_init_20 : decode cX4_init 20 = .ok (.aload_n 0, 1) := by decide +kernel
theorem dX4_init_21 : decode cX4_init 21 = .ok (.new 18, 3) := by decide +kernel
theorem dX4_init_24 : decode cX4_init 24 = .ok (.dup, 1) := by decide +kernel
theorem dX4_init_25 : decode cX4_init 25 = .ok (.bipush 64, 2) := by decide +kernel
theorem dX4_init_27 : decode cX4_init 27 = .ok (.invokespecial 20, 3) := by decide +kernel
theorem dX4_init_30 : decode cX4_init 30 = .ok (.putfield 23, 3) := by decide +kernel
theorem dX4_init_33 : decode cX4_init 33 = .ok (.return_, 1) := by decide +kernel
set_option maxRecDepth 20000 in
theorem ggX4_leastKeys_X6_erase : GoodIn wsX4_leastKeys wsX6_erase := goodIn_r _ [9, 10, 11, 12, 13, 14, 82, 83] (by decide +kernel) (by decide +kernel)
set_option maxRecDepth 20000 in
theorem gX4_leastKeys_X6_erase : GoodIn wsX4_leastKeys (wsV RX4 27 RX6 yX6_erase wsX6_erase) := goodIn_app (goodIn_of _ (by decide +kernel)) ggX4_leastKeys_X6_erase
set_option maxRecDepth 20000 in
theorem ggX4_leastKeys_X4_countByKeys : GoodIn wsX4_leastKeys wsX4_countByKeys := goodIn_r _ [19, 4, 3, 2, 12, 13, 14, 20, 21, 22, 23, 24, 25, 26, 27, 28, 29, 30, 31, 32, 33, 34, 35, 36, 37, 38, 39, 18, 40, 70, 71, 72, 73, 74, 75, 76, 77, 78, 79, 80, 81] (by decide +kernel) (by decide +kernel)
set_option maxRecDepth 20000 in
theorem gX4_leastKeys_X4_countByKeys : GoodIn wsX4_leastKeys (wsV RX4 36 RX4 yX4_countByKeys wsX4_countByKeys) := goodIn_app (goodIn_of _ (by decide +kernel)) ggX4_leastKeys_X4_countByKeys
set_option maxRecDepth 20000 in
theorem ggX4_leastKeys_X9_at : GoodIn wsX4_leastKeys wsX9_at := goodIn_r _ [27] (by decide +kernel) (by decide +kernel)
set_option maxRecDepth 20000 in
theorem gX4_leastKeys_X9_at_n40 : GoodIn wsX4_leastKeys (wsX9_at) := ggX4_leastKeys_X9_at
set_option maxRecDepth 20000 in
theorem ggX4_leastKeys_X9_thousandths : GoodIn wsX4_leastKeys wsX9_thousandths := goodIn_r _ [42] (by decide +kernel) (by decide +kernel)
set_option maxRecDepth 20000 in
theorem gX4_leastKeys_X9_thousandths_n44 : GoodIn wsX4_leastKeys (wsX9_thousandths) := ggX4_leastKeys_X9_thousandths
set_option maxRecDepth 20000 in
theorem ggX4_leastKeys_X0_rainOf : GoodIn wsX4_leastKeys wsX0_rainOf := goodIn_r _ [36, 37, 26, 13, 27, 73, 74, 75, 76, 77, 78, 79, 80, 81] (by decide +kernel) (by decide +kernel)
set_option maxRecDepth 20000 in
theorem gX4_leastKeys_X0_rainOf : GoodIn wsX4_leastKeys (wsV RX4 48 RX0 yX0_rainOf wsX0_rainOf) := goodIn_app (goodIn_of _ (by decide +kernel)) ggX4_leastKeys_X0_rainOf
set_option maxRecDepth 20000 in
theorem ggX4_leastKeys_X6_add : GoodIn wsX4_leastKeys wsX6_add := goodIn_r _ [46, 11, 10, 26, 13, 27, 12, 14, 82, 83] (by decide +kernel) (by decide +kernel)
set_option maxRecDepth 20000 in
theorem gX4_leastKeys_X6_add : GoodIn wsX4_leastKeys (wsV RX4 52 RX6 yX6_add wsX6_add) := goodIn_app (goodIn_of _ (by decide +kernel)) ggX4_leastKeys_X6_add
set_option maxRecDepth 20000 in
theorem ggX4_leastKeys_X6_least : GoodIn wsX4_leastKeys wsX6_least := goodIn_r _ [50, 10, 51, 52, 53, 8, 54, 26, 13, 27, 55, 56, 57, 58, 59, 60, 61, 62, 11, 63, 64, 65, 66, 67, 68, 69, 82, 83] (by decide +kernel) (by decide +kernel)
set_option maxRecDepth 20000 in
theorem gX4_leastKeys_X6_least : GoodIn wsX4_leastKeys (wsV RX4 56 RX6 yX6_least wsX6_least) := goodIn_app (goodIn_of _ (by decide +kernel)) ggX4_leastKeys_X6_least
theorem dX4_leastKeys_0 : decode cX4_leastKeys 0 = .ok (.aload_n 0, 1) := by decide +kernel
theorem dX4_leastKeys_1 : decode cX4_leastKeys 1 = .ok (.getfield 23, 3) := by decide +kernel
theorem dX4_leastKeys_4 : decode cX4_leastKeys 4 = .ok (.invokevirtual 27, 3) := by decide +kernel
theorem dX4_leastKeys_7 : decode cX4_leastKeys 7 = .ok (.iconst 0, 1) := by decide +kernel
theorem dX4_leastKeys_8 : decode cX4_leastKeys 8 = .ok (.istore_n 2, 1) := by decide +kernel
theorem dX4_leastKeys_9 : decode cX4_leastKeys 9 = .ok (.iload_n 2, 1) := by decide +kernel
theorem dX4_leastKeys_10 : decode cX4_leastKeys 10 = .ok (.aload_n 1, 1) := by decide +kernel
theorem dX4_leastKeys_11 : decode cX4_leastKeys 11 = .ok (.getfield 30, 3) := by decide +kernel
theorem dX4_leastKeys_14 : decode cX4_leastKeys 14 = .ok (.if_icmp .ge 61, 3) := by decide +kernel
theorem dX4_leastKeys_17 : decode cX4_leastKeys 17 = .ok (.aload_n 0, 1) := by decide +kernel
theorem dX4_leastKeys_18 : decode cX4_leastKeys 18 = .ok (.aload_n 1, 1) := by decide +kernel
theorem dX4_leastKeys_19 : decode cX4_leastKeys 19 = .ok (.iload_n 2, 1) := by decide +kernel
theorem dX4_leastKeys_20 : decode cX4_leastKeys 20 = .ok (.invokevirtual 36, 3) := by decide +kernel
theorem dX4_leastKeys_23 : decode cX4_leastKeys 23 = .ok (.iconst 0, 1) := by decide +kernel
theorem dX4_leastKeys_24 : decode cX4_leastKeys 24 = .ok (.istore_n 3, 1) := by decide +kernel
theorem dX4_leastKeys_25 : decode cX4_leastKeys 25 = .ok (.iload_n 3, 1) := by decide +kernel
theorem dX4_leastKeys_26 : decode cX4_leastKeys 26 = .ok (.bipush 64, 2) := by decide +kernel
theorem dX4_leastKeys_28 : decode cX4_leastKeys 28 = .ok (.if_icmp .ge 41, 3) := by decide +kernel
theorem dX4_leastKeys_31 : decode cX4_leastKeys 31 = .ok (.aload_n 0, 1) := by decide +kernel
theorem dX4_leastKeys_32 : decode cX4_leastKeys 32 = .ok (.getfield 23, 3) := by decide +kernel
theorem dX4_leastKeys_35 : decode cX4_leastKeys 35 = .ok (.iload_n 3, 1) := by decide +kernel
theorem dX4_leastKeys_36 : decode cX4_leastKeys 36 = .ok (.aload_n 0, 1) := by decide +kernel
theorem dX4_leastKeys_37 : decode cX4_leastKeys 37 = .ok (.getfield 15, 3) := by decide +kernel
theorem dX4_leastKeys_40 : decode cX4_leastKeys 40 = .ok (.iload_n 3, 1) := by decide +kernel
theorem dX4_leastKeys_41 : decode cX4_leastKeys 41 = .ok (.invokestatic 40, 3) := by decide +kernel
theorem dX4_leastKeys_44 : decode cX4_leastKeys 44 = .ok (.aload_n 0, 1) := by decide +kernel
theorem dX4_leastKeys_45 : decode cX4_leastKeys 45 = .ok (.getfield 9, 3) := by decide +kernel
theorem dX4_leastKeys_48 : decode cX4_leastKeys 48 = .ok (.iload_n 3, 1) := by decide +kernel
theorem dX4_leastKeys_49 : decode cX4_leastKeys 49 = .ok (.invokestatic 40, 3) := by decide +kernel
theorem dX4_leastKeys_52 : decode cX4_leastKeys 52 = .ok (.invokestatic 44, 3) := by decide +kernel
theorem dX4_leastKeys_55 : decode cX4_leastKeys 55 = .ok (.aload_n 1, 1) := by decide +kernel
theorem dX4_leastKeys_56 : decode cX4_leastKeys 56 = .ok (.iload_n 2, 1) := by decide +kernel
theorem dX4_leastKeys_57 : decode cX4_leastKeys 57 = .ok (.invokevirtual 48, 3) := by decide +kernel
theorem dX4_leastKeys_60 : decode cX4_leastKeys 60 = .ok (.invokevirtual 52, 3) := by decide +kernel
theorem dX4_leastKeys_63 : decode cX4_leastKeys 63 = .ok (.iinc 3 1, 3) := by decide +kernel
theorem dX4_leastKeys_66 : decode cX4_leastKeys 66 = .ok (.goto (-41), 3) := by decide +kernel
theorem dX4_leastKeys_69 : decode cX4_leastKeys 69 = .ok (.iinc 2 1, 3) := by decide +kernel
theorem dX4_leastKeys_72 : decode cX4_leastKeys 72 = .ok (.goto (-63), 3) := by decide +kernel
theorem dX4_leastKeys_75 : decode cX4_leastKeys 75 = .ok (.aload_n 0, 1) := by decide +kernel
theorem dX4_leastKeys_76 : decode cX4_leastKeys 76 = .ok (.getfield 23, 3) := by decide +kernel
theorem dX4_leastKeys_79 : decode cX4_leastKeys 79 = .ok (.iconst 1, 1) := by decide +kernel
theorem dX4_leastKeys_80 : decode cX4_leastKeys 80 = .ok (.invokevirtual 56, 3) := by decide +kernel
theorem dX4_leastKeys_83 : decode cX4_leastKeys 83 = .ok (.ireturn, 1) := by decide +kernel
set_option maxRecDepth 20000 in
theorem ggX4_countByKeys_X9_put : GoodIn wsX4_countByKeys wsX9_put := goodIn_r _ [6] (by decide +kernel) (by decide +kernel)
set_option maxRecDepth 20000 in
theorem gX4_countByKeys_X9_put_n60 : GoodIn wsX4_countByKeys (wsX9_put) := ggX4_countByKeys_X9_put
set_option maxRecDepth 20000 in
theorem ggX4_countByKeys_X0_inOtherYears : GoodIn wsX4_countByKeys wsX0_inOtherYears := goodIn_r _ [11, 12, 13, 5, 14, 32, 33, 34, 35, 36, 37, 38, 39, 40] (by decide +kernel) (by decide +kernel)
set_option maxRecDepth 20000 in
theorem gX4_countByKeys_X0_inOtherYears : GoodIn wsX4_countByKeys (wsV RX4 64 RX0 yX0_inOtherYears wsX0_inOtherYears) := goodIn_app (goodIn_of _ (by decide +kernel)) ggX4_countByKeys_X0_inOtherYears
set_option maxRecDepth 20000 in
theorem ggX4_countByKeys_X0_alikeKeys : GoodIn wsX4_countByKeys wsX0_alikeKeys := goodIn_r _ [18, 19, 13, 5, 14, 32, 33, 34, 35, 36, 37, 38, 39, 40] (by decide +kernel) (by decide +kernel)
set_option maxRecDepth 20000 in
theorem gX4_countByKeys_X0_alikeKeys : GoodIn wsX4_countByKeys (wsV RX4 68 RX0 yX0_alikeKeys wsX0_alikeKeys) := goodIn_app (goodIn_of _ (by decide +kernel)) ggX4_countByKeys_X0_alikeKeys
set_option maxRecDepth 20000 in
theorem ggX4_countByKeys_X9_at : GoodIn wsX4_countByKeys wsX9_at := goodIn_r _ [14] (by decide +kernel) (by decide +kernel)
set_option maxRecDepth 20000 in
theorem gX4_countByKeys_X9_at_n40 : GoodIn wsX4_countByKeys (wsX9_at) := ggX4_countByKeys_X9_at
set_option maxRecDepth 20000 in
theorem ggX4_countByKeys_X0_rainOf : GoodIn wsX4_countByKeys wsX0_rainOf := goodIn_r _ [23, 24, 13, 5, 14, 32, 33, 34, 35, 36, 37, 38, 39, 40] (by decide +kernel) (by decide +kernel)
set_option maxRecDepth 20000 in
theorem gX4_countByKeys_X0_rainOf : GoodIn wsX4_countByKeys (wsV RX4 48 RX0 yX0_rainOf wsX0_rainOf) := goodIn_app (goodIn_of _ (by decide +kernel)) ggX4_countByKeys_X0_rainOf
set_option maxRecDepth 20000 in
theorem ggX4_countByKeys_X4_addSupersets : GoodIn wsX4_countByKeys wsX4_addSupersets := goodIn_r _ [28, 13, 5, 14, 4, 6] (by decide +kernel) (by decide +kernel)
set_option maxRecDepth 20000 in
theorem gX4_countByKeys_X4_addSupersets : GoodIn wsX4_countByKeys (va_wsS RX4 71 yX4_addSupersets wsX4_addSupersets) := goodIn_app (goodIn_of _ (by decide +kernel)) ggX4_countByKeys_X4_addSupersets
theorem dX4_countByKeys_0 : decode cX4_countByKeys 0 = .ok (.iconst 0, 1) := by decide +kernel
theorem dX4_countByKeys_1 : decode cX4_countByKeys 1 = .ok (.istore_n 3, 1) := by decide +kernel
theorem dX4_countByKeys_2 : decode cX4_countByKeys 2 = .ok (.iload_n 3, 1) := by decide +kernel
theorem dX4_countByKeys_3 : decode cX4_countByKeys 3 = .ok (.bipush 64, 2) := by decide +kernel
theorem dX4_countByKeys_5 : decode cX4_countByKeys 5 = .ok (.if_icmp .ge 27, 3) := by decide +kernel
theorem dX4_countByKeys_8 : decode cX4_countByKeys 8 = .ok (.aload_n 0, 1) := by decide +kernel
theorem dX4_countByKeys_9 : decode cX4_countByKeys 9 = .ok (.getfield 9, 3) := by decide +kernel
theorem dX4_countByKeys_12 : decode cX4_countByKeys 12 = .ok (.iload_n 3, 1) := by decide +kernel
theorem dX4_countByKeys_13 : decode cX4_countByKeys 13 = .ok (.iconst 0, 1) := by decide +kernel
theorem dX4_countByKeys_14 : decode cX4_countByKeys 14 = .ok (.invokestatic 60, 3) := by decide +kernel
theorem dX4_countByKeys_17 : decode cX4_countByKeys 17 = .ok (.aload_n 0, 1) := by decide +kernel
theorem dX4_countByKeys_18 : decode cX4_countByKeys 18 = .ok (.getfield 15, 3) := by decide +kernel
theorem dX4_countByKeys_21 : decode cX4_countByKeys 21 = .ok (.iload_n 3, 1) := by decide +kernel
theorem dX4_countByKeys_22 : decode cX4_countByKeys 22 = .ok (.iconst 0, 1) := by decide +kernel
theorem dX4_countByKeys_23 : decode cX4_countByKeys 23 = .ok (.invokestatic 60, 3) := by decide +kernel
theorem dX4_countByKeys_26 : decode cX4_countByKeys 26 = .ok (.iinc 3 1, 3) := by decide +kernel
theorem dX4_countByKeys_29 : decode cX4_countByKeys 29 = .ok (.goto (-27), 3) := by decide +kernel
theorem dX4_countByKeys_32 : decode cX4_countByKeys 32 = .ok (.iconst 0, 1) := by decide +kernel
theorem dX4_countByKeys_33 : decode cX4_countByKeys 33 = .ok (.istore_n 3, 1) := by decide +kernel
theorem dX4_countByKeys_34 : decode cX4_countByKeys 34 = .ok (.iload_n 3, 1) := by decide +kernel
theorem dX4_countByKeys_35 : decode cX4_countByKeys 35 = .ok (.aload_n 1, 1) := by decide +kernel
theorem dX4_countByKeys_36 : decode cX4_countByKeys 36 = .ok (.getfield 30, 3) := by decide +kernel
theorem dX4_countByKeys_39 : decode cX4_countByKeys 39 = .ok (.if_icmp .ge 70, 3) := by decide +kernel
theorem dX4_countByKeys_42 : decode cX4_countByKeys 42 = .ok (.aload_n 1, 1) := by decide +kernel
theorem dX4_countByKeys_43 : decode cX4_countByKeys 43 = .ok (.iload_n 2, 1) := by decide +kernel
theorem dX4_countByKeys_44 : decode cX4_countByKeys 44 = .ok (.iload_n 3, 1) := by decide +kernel
theorem dX4_countByKeys_45 : decode cX4_countByKeys 45 = .ok (.invokevirtual 64, 3) := by decide +kernel
theorem dX4_countByKeys_48 : decode cX4_countByKeys 48 = .ok (.ifCond .eq 55, 3) := by decide +kernel
theorem dX4_countByKeys_51 : decode cX4_countByKeys 51 = .ok (.aload_n 1, 1) := by decide +kernel
theorem dX4_countByKeys_52 : decode cX4_countByKeys 52 = .ok (.iload_n 2, 1) := by decide +kernel
theorem dX4_countByKeys_53 : decode cX4_countByKeys 53 = .ok (.iload_n 3, 1) := by decide +kernel
theorem dX4_countByKeys_54 : decode cX4_countByKeys 54 = .ok (.invokevirtual 68, 3) := by decide +kernel
theorem dX4_countByKeys_57 : decode cX4_countByKeys 57 = .ok (.istore 4, 2) := by decide +kernel
theorem dX4_countByKeys_59 : decode cX4_countByKeys 59 = .ok (.aload_n 0, 1) := by decide +kernel
theorem dX4_countByKeys_60 : decode cX4_countByKeys 60 = .ok (.getfield 9, 3) := by decide +kernel
theorem dX4_countByKeys_63 : decode cX4_countByKeys 63 = .ok (.iload 4, 2) := by decide +kernel
theorem dX4_countByKeys_65 : decode cX4_countByKeys 65 = .ok (.aload_n 0, 1) := by decide +kernel
theorem dX4_countByKeys_66 : decode cX4_countByKeys 66 = .ok (.getfield 9, 3) := by decide +kernel
theorem dX4_countByKeys_69 : decode cX4_countByKeys 69 = .ok (.iload 4, 2) := by decide +kernel
theorem dX4_countByKeys_71 : decode cX4_countByKeys 71 = .ok (.invokestatic 40, 3) := by decide +kernel
theorem dX4_countByKeys_74 : decode cX4_countByKeys 74 = .ok (.iconst 1, 1) := by decide +kernel
theorem dX4_countByKeys_75 : decode cX4_countByKeys 75 = .ok (.iadd, 1) := by decide +kernel
theorem dX4_countByKeys_76 : decode cX4_countByKeys 76 = .ok (.invokestatic 60, 3) := by decide +kernel
theorem dX4_countByKeys_79 : decode cX4_countByKeys 79 = .ok (.aload_n 0, 1) := by decide +kernel
theorem dX4_countByKeys_80 : decode cX4_countByKeys 80 = .ok (.getfield 15, 3) := by decide +kernel
theorem dX4_countByKeys_83 : decode cX4_countByKeys 83 = .ok (.iload 4, 2) := by decide +kernel
theorem dX4_countByKeys_85 : decode cX4_countByKeys 85 = .ok (.aload_n 0, 1) := by decide +kernel
theorem dX4_countByKeys_86 : decode cX4_countByKeys 86 = .ok (.getfield 15, 3) := by decide +kernel
theorem dX4_countByKeys_89 : decode cX4_countByKeys 89 = .ok (.iload 4, 2) := by decide +kernel
theorem dX4_countByKeys_91 : decode cX4_countByKeys 91 = .ok (.invokestatic 40, 3) := by decide +kernel
theorem dX4_countByKeys_94 : decode cX4_countByKeys 94 = .ok (.aload_n 1, 1) := by decide +kernel
theorem dX4_countByKeys_95 : decode cX4_countByKeys 95 = .ok (.iload_n 3, 1) := by decide +kernel
theorem dX4_countByKeys_96 : decode cX4_countByKeys 96 = .ok (.invokevirtual 48, 3) := by decide +kernel
theorem dX4_countByKeys_99 : decode cX4_countByKeys 99 = .ok (.iadd, 1) := by decide +kernel
theorem dX4_countByKeys_100 : decode cX4_countByKeys 100 = .ok (.invokestatic 60, 3) := by decide +kernel
theorem dX4_countByKeys_103 : decode cX4_countByKeys 103 = .ok (.iinc 3 1, 3) := by decide +kernel
theorem dX4_countByKeys_106 : decode cX4_countByKeys 106 = .ok (.goto (-72), 3) := by decide +kernel
theorem dX4_countByKeys_109 : decode cX4_countByKeys 109 = .ok (.aload_n 0, 1) := by decide +kernel
theorem dX4_countByKeys_110 : decode cX4_countByKeys 110 = .ok (.getfield 9, 3) := by decide +kernel
theorem dX4_countByKeys_113 : decode cX4_countByKeys 113 = .ok (.invokestatic 71, 3) := by decide +kernel
theorem dX4_countByKeys_116 : decode cX4_countByKeys 116 = .ok (.aload_n 0, 1) := by decide +kernel
theorem dX4_countByKeys_117 : decode cX4_countByKeys 117 = .ok (.getfield 15, 3) := by decide +kernel
theorem dX4_countByKeys_120 : decode cX4_countByKeys 120 = .ok (.invokestatic 71, 3) := by decide +kernel
theorem dX4_countByKeys_123 : decode cX4_countByKeys 123 = .ok (.return_, 1) := by decide +kernel
set_option maxRecDepth 20000 in
theorem ggX4_addSupersets_X9_at : GoodIn wsX4_addSupersets wsX9_at := goodIn_r _ [3] (by decide +kernel) (by decide +kernel)
set_option maxRecDepth 20000 in
theorem gX4_addSupersets_X9_at_n40 : GoodIn wsX4_addSupersets (wsX9_at) := ggX4_addSupersets_X9_at
set_option maxRecDepth 20000 in
theorem ggX4_addSupersets_X9_put : GoodIn wsX4_addSupersets wsX9_put := goodIn_r _ [5] (by decide +kernel) (by decide +kernel)
set_option maxRecDepth 20000 in
theorem gX4_addSupersets_X9_put_n60 : GoodIn wsX4_addSupersets (wsX9_put) := ggX4_addSupersets_X9_put
theorem dX4_addSupersets_0 : decode cX4_addSupersets 0 = .ok (.iconst 0, 1) := by decide +kernel
theorem dX4_addSupersets_1 : decode cX4_addSupersets 1 = .ok (.istore_n 1, 1) := by decide +kernel
theorem dX4_addSupersets_2 : decode cX4_addSupersets 2 = .ok (.iload_n 1, 1) := by decide +kernel
theorem dX4_addSupersets_3 : decode cX4_addSupersets 3 = .ok (.bipush 6, 2) := by decide +kernel
theorem dX4_addSupersets_5 : decode cX4_addSupersets 5 = .ok (.if_icmp .ge 51, 3) := by decide +kernel
theorem dX4_addSupersets_8 : decode cX4_addSupersets 8 = .ok (.iconst 1, 1) := by decide +kernel
theorem dX4_addSupersets_9 : decode cX4_addSupersets 9 = .ok (.iload_n 1, 1) := by decide +kernel
theorem dX4_addSupersets_10 : decode cX4_addSupersets 10 = .ok (.ishl, 1) := by decide +kernel
theorem dX4_addSupersets_11 : decode cX4_addSupersets 11 = .ok (.istore_n 2, 1) := by decide +kernel
theorem dX4_addSupersets_12 : decode cX4_addSupersets 12 = .ok (.iconst 0, 1) := by decide +kernel
theorem dX4_addSupersets_13 : decode cX4_addSupersets 13 = .ok (.istore_n 3, 1) := by decide +kernel
theorem dX4_addSupersets_14 : decode cX4_addSupersets 14 = .ok (.iload_n 3, 1) := by decide +kernel
theorem dX4_addSupersets_15 : decode cX4_addSupersets 15 = .ok (.bipush 64, 2) := by decide +kernel
theorem dX4_addSupersets_17 : decode cX4_addSupersets 17 = .ok (.if_icmp .ge 33, 3) := by decide +kernel
theorem dX4_addSupersets_20 : decode cX4_addSupersets 20 = .ok (.iload_n 3, 1) := by decide +kernel
theorem dX4_addSupersets_21 : decode cX4_addSupersets 21 = .ok (.iload_n 2, 1) := by decide +kernel
theorem dX4_addSupersets_22 : decode cX4_addSupersets 22 = .ok (.iand, 1) := by decide +kernel
theorem dX4_addSupersets_23 : decode cX4_addSupersets 23 = .ok (.ifCond .ne 21, 3) := by decide +kernel
theorem dX4_addSupersets_26 : decode cX4_addSupersets 26 = .ok (.aload_n 0, 1) := by decide +kernel
theorem dX4_addSupersets_27 : decode cX4_addSupersets 27 = .ok (.iload_n 3, 1) := by decide +kernel
theorem dX4_addSupersets_28 : decode cX4_addSupersets 28 = .ok (.aload_n 0, 1) := by decide +kernel
theorem dX4_addSupersets_29 : decode cX4_addSupersets 29 = .ok (.iload_n 3, 1) := by decide +kernel
theorem dX4_addSupersets_30 : decode cX4_addSupersets 30 = .ok (.invokestatic 40, 3) := by decide +kernel
theorem dX4_addSupersets_33 : decode cX4_addSupersets 33 = .ok (.aload_n 0, 1) := by decide +kernel
theorem dX4_addSupersets_34 : decode cX4_addSupersets 34 = .ok (.iload_n 3, 1) := by decide +kernel
theorem dX4_addSupersets_35 : decode cX4_addSupersets 35 = .ok (.iload_n 2, 1) := by decide +kernel
theorem dX4_addSupersets_36 : decode cX4_addSupersets 36 = .ok (.ior, 1) := by decide +kernel
theorem dX4_addSupersets_37 : decode cX4_addSupersets 37 = .ok (.invokestatic 40, 3) := by decide +kernel
theorem dX4_addSupersets_40 : decode cX4_addSupersets 40 = .ok (.iadd, 1) := by decide +kernel
theorem dX4_addSupersets_41 : decode cX4_addSupersets 41 = .ok (.invokestatic 60, 3) := by decide +kernel
theorem dX4_addSupersets_44 : decode cX4_addSupersets 44 = .ok (.iinc 3 1, 3) := by decide +kernel
theorem dX4_addSupersets_47 : decode cX4_addSupersets 47 = .ok (.goto (-33), 3) := by decide +kernel
theorem dX4_addSupersets_50 : decode cX4_addSupersets 50 = .ok (.iinc 1 1, 3) := by decide +kernel
theorem dX4_addSupersets_53 : decode cX4_addSupersets 53 = .ok (.goto (-51), 3) := by decide +kernel
theorem dX4_addSupersets_56 : decode cX4_addSupersets 56 = .ok (.return_, 1) := by decide +kernel
