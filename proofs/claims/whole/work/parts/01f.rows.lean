theorem dX10_bestKeys_0 : decode cX10_bestKeys 0 = .ok (.aload_n 0, 1) := by decide +kernel
theorem dX10_bestKeys_1 : decode cX10_bestKeys 1 = .ok (.getfield 90, 3) := by decide +kernel
theorem dX10_bestKeys_4 : decode cX10_bestKeys 4 = .ok (.istore_n 1, 1) := by decide +kernel
theorem dX10_bestKeys_5 : decode cX10_bestKeys 5 = .ok (.bipush (-6), 2) := by decide +kernel
theorem dX10_bestKeys_7 : decode cX10_bestKeys 7 = .ok (.istore_n 2, 1) := by decide +kernel
theorem dX10_bestKeys_8 : decode cX10_bestKeys 8 = .ok (.lconst 0, 1) := by decide +kernel
theorem dX10_bestKeys_9 : decode cX10_bestKeys 9 = .ok (.lstore_n 3, 1) := by decide +kernel
theorem dX10_bestKeys_10 : decode cX10_bestKeys 10 = .ok (.lconst 1, 1) := by decide +kernel
theorem dX10_bestKeys_11 : decode cX10_bestKeys 11 = .ok (.lstore 5, 2) := by decide +kernel
theorem dX10_bestKeys_13 : decode cX10_bestKeys 13 = .ok (.iconst 0, 1) := by decide +kernel
theorem dX10_bestKeys_14 : decode cX10_bestKeys 14 = .ok (.istore 7, 2) := by decide +kernel
theorem dX10_bestKeys_16 : decode cX10_bestKeys 16 = .ok (.iload 7, 2) := by decide +kernel
theorem dX10_bestKeys_18 : decode cX10_bestKeys 18 = .ok (.bipush 64, 2) := by decide +kernel
theorem dX10_bestKeys_20 : decode cX10_bestKeys 20 = .ok (.if_icmp .ge 102, 3) := by decide +kernel
theorem dX10_bestKeys_23 : decode cX10_bestKeys 23 = .ok (.aload_n 0, 1) := by decide +kernel
theorem dX10_bestKeys_24 : decode cX10_bestKeys 24 = .ok (.iload 7, 2) := by decide +kernel
theorem dX10_bestKeys_26 : decode cX10_bestKeys 26 = .ok (.putfield 90, 3) := by decide +kernel
theorem dX10_bestKeys_29 : decode cX10_bestKeys 29 = .ok (.aload_n 0, 1) := by decide +kernel
theorem dX10_bestKeys_30 : decode cX10_bestKeys 30 = .ok (.bipush 6, 2) := by decide +kernel
theorem dX10_bestKeys_32 : decode cX10_bestKeys 32 = .ok (.invokevirtual 215, 3) := by decide +kernel
theorem dX10_bestKeys_35 : decode cX10_bestKeys 35 = .ok (.aload_n 0, 1) := by decide +kernel
theorem dX10_bestKeys_36 : decode cX10_bestKeys 36 = .ok (.getfield 204, 3) := by decide +kernel
theorem dX10_bestKeys_39 : decode cX10_bestKeys 39 = .ok (.lload 5, 2) := by decide +kernel
theorem dX10_bestKeys_41 : decode cX10_bestKeys 41 = .ok (.lmul, 1) := by decide +kernel
theorem dX10_bestKeys_42 : decode cX10_bestKeys 42 = .ok (.lload_n 3, 1) := by decide +kernel
theorem dX10_bestKeys_43 : decode cX10_bestKeys 43 = .ok (.aload_n 0, 1) := by decide +kernel
theorem dX10_bestKeys_44 : decode cX10_bestKeys 44 = .ok (.getfield 208, 3) := by decide +kernel
theorem dX10_bestKeys_47 : decode cX10_bestKeys 47 = .ok (.lmul, 1) := by decide +kernel
theorem dX10_bestKeys_48 : decode cX10_bestKeys 48 = .ok (.lsub, 1) := by decide +kernel
theorem dX10_bestKeys_49 : decode cX10_bestKeys 49 = .ok (.lstore 8, 2) := by decide +kernel
theorem dX10_bestKeys_51 : decode cX10_bestKeys 51 = .ok (.iload_n 2, 1) := by decide +kernel
theorem dX10_bestKeys_52 : decode cX10_bestKeys 52 = .ok (.ifCond .lt 29, 3) := by decide +kernel
theorem dX10_bestKeys_55 : decode cX10_bestKeys 55 = .ok (.lload 8, 2) := by decide +kernel
theorem dX10_bestKeys_57 : decode cX10_bestKeys 57 = .ok (.lconst 0, 1) := by decide +kernel
theorem dX10_bestKeys_58 : decode cX10_bestKeys 58 = .ok (.lcmp, 1) := by decide +kernel
theorem dX10_bestKeys_59 : decode cX10_bestKeys 59 = .ok (.ifCond .lt 22, 3) := by decide +kernel
theorem dX10_bestKeys_62 : decode cX10_bestKeys 62 = .ok (.lload 8, 2) := by decide +kernel
theorem dX10_bestKeys_64 : decode cX10_bestKeys 64 = .ok (.lconst 0, 1) := by decide +kernel
theorem dX10_bestKeys_65 : decode cX10_bestKeys 65 = .ok (.lcmp, 1) := by decide +kernel
theorem dX10_bestKeys_66 : decode cX10_bestKeys 66 = .ok (.ifCond .ne 19, 3) := by decide +kernel
theorem dX10_bestKeys_69 : decode cX10_bestKeys 69 = .ok (.iload 7, 2) := by decide +kernel
theorem dX10_bestKeys_71 : decode cX10_bestKeys 71 = .ok (.invokestatic 225, 3) := by decide +kernel
theorem dX10_bestKeys_74 : decode cX10_bestKeys 74 = .ok (.iload_n 2, 1) := by decide +kernel
theorem dX10_bestKeys_75 : decode cX10_bestKeys 75 = .ok (.invokestatic 225, 3) := by decide +kernel
theorem dX10_bestKeys_78 : decode cX10_bestKeys 78 = .ok (.if_icmp .ge 7, 3) := by decide +kernel
theorem dX10_bestKeys_81 : decode cX10_bestKeys 81 = .ok (.iconst 1, 1) := by decide +kernel
theorem dX10_bestKeys_82 : decode cX10_bestKeys 82 = .ok (.goto 4, 3) := by decide +kernel
theorem dX10_bestKeys_85 : decode cX10_bestKeys 85 = .ok (.iconst 0, 1) := by decide +kernel
theorem dX10_bestKeys_86 : decode cX10_bestKeys 86 = .ok (.istore 10, 2) := by decide +kernel
theorem dX10_bestKeys_88 : decode cX10_bestKeys 88 = .ok (.aload_n 0, 1) := by decide +kernel
theorem dX10_bestKeys_89 : decode cX10_bestKeys 89 = .ok (.getfield 208, 3) := by decide +kernel
theorem dX10_bestKeys_92 : decode cX10_bestKeys 92 = .ok (.lconst 0, 1) := by decide +kernel
theorem dX10_bestKeys_93 : decode cX10_bestKeys 93 = .ok (.lcmp, 1) := by decide +kernel
theorem dX10_bestKeys_94 : decode cX10_bestKeys 94 = .ok (.ifCond .le 22, 3) := by decide +kernel
theorem dX10_bestKeys_97 : decode cX10_bestKeys 97 = .ok (.iload 10, 2) := by decide +kernel
theorem dX10_bestKeys_99 : decode cX10_bestKeys 99 = .ok (.ifCond .eq 17, 3) := by decide +kernel
theorem dX10_bestKeys_102 : decode cX10_bestKeys 102 = .ok (.iload 7, 2) := by decide +kernel
theorem dX10_bestKeys_104 : decode cX10_bestKeys 104 = .ok (.istore_n 2, 1) := by decide +kernel
theorem dX10_bestKeys_105 : decode cX10_bestKeys 105 = .ok (.aload_n 0, 1) := by decide +kernel
theorem dX10_bestKeys_106 : decode cX10_bestKeys 106 = .ok (.getfield 204, 3) := by decide +kernel
theorem dX10_bestKeys_109 : decode cX10_bestKeys 109 = .ok (.lstore_n 3, 1) := by decide +kernel
theorem dX10_bestKeys_110 : decode cX10_bestKeys 110 = .ok (.aload_n 0, 1) := by decide +kernel
theorem dX10_bestKeys_111 : decode cX10_bestKeys 111 = .ok (.getfield 208, 3) := by decide +kernel
theorem dX10_bestKeys_114 : decode cX10_bestKeys 114 = .ok (.lstore 5, 2) := by decide +kernel
theorem dX10_bestKeys_116 : decode cX10_bestKeys 116 = .ok (.iinc 7 1, 3) := by decide +kernel
theorem dX10_bestKeys_119 : decode cX10_bestKeys 119 = .ok (.goto (-103), 3) := by decide +kernel
theorem dX10_bestKeys_122 : decode cX10_bestKeys 122 = .ok (.aload_n 0, 1) := by decide +kernel
theorem dX10_bestKeys_123 : decode cX10_bestKeys 123 = .ok (.iload_n 1, 1) := by decide +kernel
theorem dX10_bestKeys_124 : decode cX10_bestKeys 124 = .ok (.putfield 90, 3) := by decide +kernel
theorem dX10_bestKeys_127 : decode cX10_bestKeys 127 = .ok (.iload_n 2, 1) := by decide +kernel
theorem dX10_bestKeys_128 : decode cX10_bestKeys 128 = .ok (.ireturn, 1) := by decide +kernel
set_option maxRecDepth 20000 in
theorem ggX10_bestWeight_X10_findScore : GoodIn wsX10_bestWeight wsX10_findScore := goodIn_r _ [8, 3, 2, 9, 10, 11, 12, 13, 14, 7, 15, 16, 1, 17, 18, 19, 20, 21, 22, 23, 24, 25, 26, 27, 28, 29, 30, 31, 32, 33, 34, 35, 36, 37, 38, 39, 40, 41, 42, 43, 44, 45, 46, 47, 48, 49, 50, 51, 52, 53, 54, 55, 56, 57, 58, 59, 60, 61, 62, 63, 64, 65, 66, 67, 68, 69, 70, 71, 72, 73, 74, 75, 76, 77, 78, 79, 80, 81, 82, 83, 84, 85, 86, 87, 88, 89, 90, 91, 92, 93, 94, 95, 96, 97, 98, 99, 100, 101, 102, 103, 104, 105, 106, 107] (by decide +kernel) (by decide +kernel)
set_option maxRecDepth 20000 in
theorem gX10_bestWeight_X10_findScore : GoodIn wsX10_bestWeight (wsV RX10 215 RX10 yX10_findScore wsX10_findScore) := goodIn_app (goodIn_of _ (by decide +kernel)) ggX10_bestWeight_X10_findScore
theorem dX10_bestWeight_0 : decode cX10_bestWeight 0 = .ok (.aload_n 0, 1) := by decide +kernel
theorem dX10_bestWeight_1 : decode cX10_bestWeight 1 = .ok (.getfield 93, 3) := by decide +kernel
theorem dX10_bestWeight_4 : decode cX10_bestWeight 4 = .ok (.istore_n 1, 1) := by decide +kernel
theorem dX10_bestWeight_5 : decode cX10_bestWeight 5 = .ok (.bipush (-6), 2) := by decide +kernel
theorem dX10_bestWeight_7 : decode cX10_bestWeight 7 = .ok (.istore_n 2, 1) := by decide +kernel
theorem dX10_bestWeight_8 : decode cX10_bestWeight 8 = .ok (.lconst 0, 1) := by decide +kernel
theorem dX10_bestWeight_9 : decode cX10_bestWeight 9 = .ok (.lstore_n 3, 1) := by decide +kernel
theorem dX10_bestWeight_10 : decode cX10_bestWeight 10 = .ok (.lconst 1, 1) := by decide +kernel
theorem dX10_bestWeight_11 : decode cX10_bestWeight 11 = .ok (.lstore 5, 2) := by decide +kernel
theorem dX10_bestWeight_13 : decode cX10_bestWeight 13 = .ok (.iconst 0, 1) := by decide +kernel
theorem dX10_bestWeight_14 : decode cX10_bestWeight 14 = .ok (.istore 7, 2) := by decide +kernel
theorem dX10_bestWeight_16 : decode cX10_bestWeight 16 = .ok (.iload 7, 2) := by decide +kernel
theorem dX10_bestWeight_18 : decode cX10_bestWeight 18 = .ok (.bipush 10, 2) := by decide +kernel
theorem dX10_bestWeight_20 : decode cX10_bestWeight 20 = .ok (.if_icmp .gt 65, 3) := by decide +kernel
theorem dX10_bestWeight_23 : decode cX10_bestWeight 23 = .ok (.aload_n 0, 1) := by decide +kernel
theorem dX10_bestWeight_24 : decode cX10_bestWeight 24 = .ok (.iload 7, 2) := by decide +kernel
theorem dX10_bestWeight_26 : decode cX10_bestWeight 26 = .ok (.putfield 93, 3) := by decide +kernel
theorem dX10_bestWeight_29 : decode cX10_bestWeight 29 = .ok (.aload_n 0, 1) := by decide +kernel
theorem dX10_bestWeight_30 : decode cX10_bestWeight 30 = .ok (.bipush 8, 2) := by decide +kernel
theorem dX10_bestWeight_32 : decode cX10_bestWeight 32 = .ok (.invokevirtual 215, 3) := by decide +kernel
theorem dX10_bestWeight_35 : decode cX10_bestWeight 35 = .ok (.aload_n 0, 1) := by decide +kernel
theorem dX10_bestWeight_36 : decode cX10_bestWeight 36 = .ok (.getfield 208, 3) := by decide +kernel
theorem dX10_bestWeight_39 : decode cX10_bestWeight 39 = .ok (.lconst 0, 1) := by decide +kernel
theorem dX10_bestWeight_40 : decode cX10_bestWeight 40 = .ok (.lcmp, 1) := by decide +kernel
theorem dX10_bestWeight_41 : decode cX10_bestWeight 41 = .ok (.ifCond .le 38, 3) := by decide +kernel
theorem dX10_bestWeight_44 : decode cX10_bestWeight 44 = .ok (.iload_n 2, 1) := by decide +kernel
theorem dX10_bestWeight_45 : decode cX10_bestWeight 45 = .ok (.ifCond .lt 20, 3) := by decide +kernel
theorem dX10_bestWeight_48 : decode cX10_bestWeight 48 = .ok (.aload_n 0, 1) := by decide +kernel
theorem dX10_bestWeight_49 : decode cX10_bestWeight 49 = .ok (.getfield 204, 3) := by decide +kernel
theorem dX10_bestWeight_52 : decode cX10_bestWeight 52 = .ok (.lload 5, 2) := by decide +kernel
theorem dX10_bestWeight_54 : decode cX10_bestWeight 54 = .ok (.lmul, 1) := by decide +kernel
theorem dX10_bestWeight_55 : decode cX10_bestWeight 55 = .ok (.lload_n 3, 1) := by decide +kernel
theorem dX10_bestWeight_56 : decode cX10_bestWeight 56 = .ok (.aload_n 0, 1) := by decide +kernel
theorem dX10_bestWeight_57 : decode cX10_bestWeight 57 = .ok (.getfield 208, 3) := by decide +kernel
theorem dX10_bestWeight_60 : decode cX10_bestWeight 60 = .ok (.lmul, 1) := by decide +kernel
theorem dX10_bestWeight_61 : decode cX10_bestWeight 61 = .ok (.lcmp, 1) := by decide +kernel
theorem dX10_bestWeight_62 : decode cX10_bestWeight 62 = .ok (.ifCond .ge 17, 3) := by decide +kernel
theorem dX10_bestWeight_65 : decode cX10_bestWeight 65 = .ok (.iload 7, 2) := by decide +kernel
theorem dX10_bestWeight_67 : decode cX10_bestWeight 67 = .ok (.istore_n 2, 1) := by decide +kernel
theorem dX10_bestWeight_68 : decode cX10_bestWeight 68 = .ok (.aload_n 0, 1) := by decide +kernel
theorem dX10_bestWeight_69 : decode cX10_bestWeight 69 = .ok (.getfield 204, 3) := by decide +kernel
theorem dX10_bestWeight_72 : decode cX10_bestWeight 72 = .ok (.lstore_n 3, 1) := by decide +kernel
theorem dX10_bestWeight_73 : decode cX10_bestWeight 73 = .ok (.aload_n 0, 1) := by decide +kernel
theorem dX10_bestWeight_74 : decode cX10_bestWeight 74 = .ok (.getfield 208, 3) := by decide +kernel
theorem dX10_bestWeight_77 : decode cX10_bestWeight 77 = .ok (.lstore 5, 2) := by decide +kernel
theorem dX10_bestWeight_79 : decode cX10_bestWeight 79 = .ok (.iinc 7 1, 3) := by decide +kernel
theorem dX10_bestWeight_82 : decode cX10_bestWeight 82 = .ok (.goto (-66), 3) := by decide +kernel
theorem dX10_bestWeight_85 : decode cX10_bestWeight 85 = .ok (.aload_n 0, 1) := by decide +kernel
theorem dX10_bestWeight_86 : decode cX10_bestWeight 86 = .ok (.iload_n 1, 1) := by decide +kernel
theorem dX10_bestWeight_87 : decode cX10_bestWeight 87 = .ok (.putfield 93, 3) := by decide +kernel
theorem dX10_bestWeight_90 : decode cX10_bestWeight 90 = .ok (.iload_n 2, 1) := by decide +kernel
theorem dX10_bestWeight_91 : decode cX10_bestWeight 91 = .ok (.ireturn, 1) := by decide +kernel
set_option maxRecDepth 20000 in
theorem ggX10_best_X10_isEnd : GoodIn wsX10_best wsX10_isEnd := goodIn_r _ [4, 5, 6, 3, 7] (by decide +kernel) (by decide +kernel)
set_option maxRecDepth 20000 in
theorem gX10_best_X10_isEnd : GoodIn wsX10_best (va_wsS RX10 122 yX10_isEnd wsX10_isEnd) := goodIn_app (goodIn_of _ (by decide +kernel)) ggX10_best_X10_isEnd
set_option maxRecDepth 20000 in
theorem ggX10_best_X10_bestKeys : GoodIn wsX10_best wsX10_bestKeys := goodIn_r _ [11, 12, 13, 14, 15, 16, 17, 3, 18, 19, 20, 21, 22, 23, 24, 25, 26, 27, 28, 29, 30, 31, 32, 33, 34, 35, 36, 37, 38, 39, 40, 41, 42, 43, 44, 45, 46, 47, 48, 49, 50, 51, 52, 53, 54, 55, 56, 57, 58, 59, 60, 61, 62, 63, 64, 65, 66, 67, 68, 69, 70, 71, 72, 73, 74, 75, 76, 77, 78, 79, 80, 85, 86, 87, 88, 89, 90, 91, 92, 93, 94, 95, 96, 97, 98, 99, 100, 101, 102, 103, 104, 105, 106, 107, 108, 109, 110, 111, 112, 113, 114, 115, 116, 117, 118, 119, 120, 121, 122, 123, 124] (by decide +kernel) (by decide +kernel)
set_option maxRecDepth 20000 in
theorem gX10_best_X10_bestKeys : GoodIn wsX10_best (wsV RX10 228 RX10 yX10_bestKeys wsX10_bestKeys) := goodIn_app (goodIn_of _ (by decide +kernel)) ggX10_best_X10_bestKeys
set_option maxRecDepth 20000 in
theorem ggX10_best_X10_bestWeight : GoodIn wsX10_best wsX10_bestWeight := goodIn_r _ [84, 27, 14, 13, 15, 16, 17, 3, 18, 19, 20, 21, 22, 23, 24, 25, 26, 28, 29, 30, 31, 32, 33, 34, 35, 36, 37, 38, 39, 40, 41, 42, 43, 44, 45, 46, 47, 48, 49, 50, 51, 52, 53, 54, 55, 56, 57, 58, 59, 60, 61, 62, 63, 64, 65, 66, 67, 68, 69, 70, 71, 72, 73, 12, 74, 75, 76, 77, 85, 86, 87, 88, 89, 90, 91, 92, 93, 94, 95, 96, 97, 98, 99, 100, 101, 102, 103, 104, 105, 106, 107, 108, 109, 110, 111, 112, 113, 114, 115, 116, 117, 118, 119, 120, 121, 122, 123, 124] (by decide +kernel) (by decide +kernel)
set_option maxRecDepth 20000 in
theorem gX10_best_X10_bestWeight : GoodIn wsX10_best (wsV RX10 231 RX10 yX10_bestWeight wsX10_bestWeight) := goodIn_app (goodIn_of _ (by decide +kernel)) ggX10_best_X10_bestWeight
theorem dX10_best_0 : decode cX10_best 0 = .ok (.iload_n 1, 1) := by decide +kernel
theorem dX10_best_1 : decode cX10_best 1 = .ok (.invokestatic 122, 3) := by decide +kernel
theorem dX10_best_4 : decode cX10_best 4 = .ok (.ifCond .ne 8, 3) := by decide +kernel
theorem dX10_best_7 : decode cX10_best 7 = .ok (.bipush (-2), 2) := by decide +kernel
theorem dX10_best_9 : decode cX10_best 9 = .ok (.goto 18, 3) := by decide +kernel
theorem dX10_best_12 : decode cX10_best 12 = .ok (.iload_n 1, 1) := by decide +kernel
theorem dX10_best_13 : decode cX10_best 13 = .ok (.ifCond .ne 10, 3) := by decide +kernel
theorem dX10_best_16 : decode cX10_best 16 = .ok (.aload_n 0, 1) := by decide +kernel
theorem dX10_best_17 : decode cX10_best 17 = .ok (.invokevirtual 228, 3) := by decide +kernel
theorem dX10_best_20 : decode cX10_best 20 = .ok (.goto 7, 3) := by decide +kernel
theorem dX10_best_23 : decode cX10_best 23 = .ok (.aload_n 0, 1) := by decide +kernel
theorem dX10_best_24 : decode cX10_best 24 = .ok (.invokevirtual 231, 3) := by decide +kernel
theorem dX10_best_27 : decode cX10_best 27 = .ok (.ireturn, 1) := by decide +kernel
theorem dX10_choose_0 : decode cX10_choose 0 = .ok (.iload_n 1, 1) := by decide +kernel
theorem dX10_choose_1 : decode cX10_choose 1 = .ok (.ifCond .lt 8, 3) := by decide +kernel
theorem dX10_choose_4 : decode cX10_choose 4 = .ok (.iload_n 1, 1) := by decide +kernel
theorem dX10_choose_5 : decode cX10_choose 5 = .ok (.iload_n 0, 1) := by decide +kernel
theorem dX10_choose_6 : decode cX10_choose 6 = .ok (.if_icmp .le 5, 3) := by decide +kernel
theorem dX10_choose_9 : decode cX10_choose 9 = .ok (.lconst 0, 1) := by decide +kernel
theorem dX10_choose_10 : decode cX10_choose 10 = .ok (.lreturn, 1) := by decide +kernel
theorem dX10_choose_11 : decode cX10_choose 11 = .ok (.lconst 1, 1) := by decide +kernel
theorem dX10_choose_12 : decode cX10_choose 12 = .ok (.lstore_n 2, 1) := by decide +kernel
theorem dX10_choose_13 : decode cX10_choose 13 = .ok (.iload_n 1, 1) := by decide +kernel
theorem dX10_choose_14 : decode cX10_choose 14 = .ok (.iload_n 0, 1) := by decide +kernel
theorem dX10_choose_15 : decode cX10_choose 15 = .ok (.iload_n 1, 1) := by decide +kernel
theorem dX10_choose_16 : decode cX10_choose 16 = .ok (.isub, 1) := by decide +kernel
theorem dX10_choose_17 : decode cX10_choose 17 = .ok (.if_icmp .ge 7, 3) := by decide +kernel
theorem dX10_choose_20 : decode cX10_choose 20 = .ok (.iload_n 1, 1) := by decide +kernel
theorem dX10_choose_21 : decode cX10_choose 21 = .ok (.goto 6, 3) := by decide +kernel
theorem dX10_choose_24 : decode cX10_choose 24 = .ok (.iload_n 0, 1) := by decide +kernel
theorem dX10_choose_25 : decode cX10_choose 25 = .ok (.iload_n 1, 1) := by decide +kernel
theorem dX10_choose_26 : decode cX10_choose 26 = .ok (.isub, 1) := by decide +kernel
theorem dX10_choose_27 : decode cX10_choose 27 = .ok (.istore 4, 2) := by decide +kernel
theorem dX10_choose_29 : decode cX10_choose 29 = .ok (.iconst 1, 1) := by decide +kernel
theorem dX10_choose_30 : decode cX10_choose 30 = .ok (.istore 5, 2) := by decide +kernel
theorem dX10_choose_32 : decode cX10_choose 32 = .ok (.iload 5, 2) := by decide +kernel
theorem dX10_choose_34 : decode cX10_choose 34 = .ok (.iload 4, 2) := by decide +kernel
theorem dX10_choose_36 : decode cX10_choose 36 = .ok (.if_icmp .gt 24, 3) := by decide +kernel
theorem dX10_choose_39 : decode cX10_choose 39 = .ok (.lload_n 2, 1) := by decide +kernel
theorem dX10_choose_40 : decode cX10_choose 40 = .ok (.iload_n 0, 1) := by decide +kernel
theorem dX10_choose_41 : decode cX10_choose 41 = .ok (.iload 4, 2) := by decide +kernel
theorem dX10_choose_43 : decode cX10_choose 43 = .ok (.isub, 1) := by decide +kernel
theorem dX10_choose_44 : decode cX10_choose 44 = .ok (.iload 5, 2) := by decide +kernel
theorem dX10_choose_46 : decode cX10_choose 46 = .ok (.iadd, 1) := by decide +kernel
theorem dX10_choose_47 : decode cX10_choose 47 = .ok (.i2l, 1) := by decide +kernel
theorem dX10_choose_48 : decode cX10_choose 48 = .ok (.lmul, 1) := by decide +kernel
theorem dX10_choose_49 : decode cX10_choose 49 = .ok (.iload 5, 2) := by decide +kernel
theorem dX10_choose_51 : decode cX10_choose 51 = .ok (.i2l, 1) := by decide +kernel
theorem dX10_choose_52 : decode cX10_choose 52 = .ok (.ldiv, 1) := by decide +kernel
theorem dX10_choose_53 : decode cX10_choose 53 = .ok (.lstore_n 2, 1) := by decide +kernel
theorem dX10_choose_54 : decode cX10_choose 54 = .ok (.iinc 5 1, 3) := by decide +kernel
theorem dX10_choose_57 : decode cX10_choose 57 = .ok (.goto (-25), 3) := by decide +kernel
theorem dX10_choose_60 : decode cX10_choose 60 = .ok (.lload_n 2, 1) := by decide +kernel
theorem dX10_choose_61 : decode cX10_choose 61 = .ok (.lreturn, 1) := by decide +kernel
set_option maxRecDepth 20000 in
theorem ggX10_lotOf_X10_choose : GoodIn wsX10_lotOf wsX10_choose := goodIn_r _ [4] (by decide +kernel) (by decide +kernel)
set_option maxRecDepth 20000 in
theorem gX10_lotOf_X10_choose : GoodIn wsX10_lotOf (va_wsS RX10 234 yX10_choose wsX10_choose) := goodIn_app (goodIn_of _ (by decide +kernel)) ggX10_lotOf_X10_choose
set_option maxRecDepth 20000 in
theorem ggX10_lotOf_X10_lowest : GoodIn wsX10_lotOf wsX10_lowest := goodIn_r _ [7] (by decide +kernel) (by decide +kernel)
set_option maxRecDepth 20000 in
theorem gX10_lotOf_X10_lowest : GoodIn wsX10_lotOf (va_wsS RX10 221 yX10_lowest wsX10_lowest) := goodIn_app (goodIn_of _ (by decide +kernel)) ggX10_lotOf_X10_lowest
theorem dX10_lotOf_0 : decode cX10_lotOf 0 = .ok (.lconst 0, 1) := by decide +kernel
theorem dX10_lotOf_1 : decode cX10_lotOf 1 = .ok (.lstore 5, 2) := by decide +kernel
theorem dX10_lotOf_3 : decode cX10_lotOf 3 = .ok (.iload_n 3, 1) := by decide +kernel
theorem dX10_lotOf_4 : decode cX10_lotOf 4 = .ok (.istore 7, 2) := by decide +kernel
theorem dX10_lotOf_6 : decode cX10_lotOf 6 = .ok (.iload 7, 2) := by decide +kernel
theorem dX10_lotOf_8 : decode cX10_lotOf 8 = .ok (.iload_n 2, 1) := by decide +kernel
theorem dX10_lotOf_9 : decode cX10_lotOf 9 = .ok (.if_icmp .gt 31, 3) := by decide +kernel
theorem dX10_lotOf_12 : decode cX10_lotOf 12 = .ok (.lload 5, 2) := by decide +kernel
theorem dX10_lotOf_14 : decode cX10_lotOf 14 = .ok (.iload_n 1, 1) := by decide +kernel
theorem dX10_lotOf_15 : decode cX10_lotOf 15 = .ok (.iload 7, 2) := by decide +kernel
theorem dX10_lotOf_17 : decode cX10_lotOf 17 = .ok (.invokestatic 234, 3) := by decide +kernel
theorem dX10_lotOf_20 : decode cX10_lotOf 20 = .ok (.iload_n 0, 1) := by decide +kernel
theorem dX10_lotOf_21 : decode cX10_lotOf 21 = .ok (.iload_n 1, 1) := by decide +kernel
theorem dX10_lotOf_22 : decode cX10_lotOf 22 = .ok (.isub, 1) := by decide +kernel
theorem dX10_lotOf_23 : decode cX10_lotOf 23 = .ok (.iload_n 2, 1) := by decide +kernel
theorem dX10_lotOf_24 : decode cX10_lotOf 24 = .ok (.iload 7, 2) := by decide +kernel
theorem dX10_lotOf_26 : decode cX10_lotOf 26 = .ok (.isub, 1) := by decide +kernel
theorem dX10_lotOf_27 : decode cX10_lotOf 27 = .ok (.invokestatic 234, 3) := by decide +kernel
theorem dX10_lotOf_30 : decode cX10_lotOf 30 = .ok (.lmul, 1) := by decide +kernel
theorem dX10_lotOf_31 : decode cX10_lotOf 31 = .ok (.ladd, 1) := by decide +kernel
theorem dX10_lotOf_32 : decode cX10_lotOf 32 = .ok (.lstore 5, 2) := by decide +kernel
theorem dX10_lotOf_34 : decode cX10_lotOf 34 = .ok (.iinc 7 1, 3) := by decide +kernel
theorem dX10_lotOf_37 : decode cX10_lotOf 37 = .ok (.goto (-31), 3) := by decide +kernel
theorem dX10_lotOf_40 : decode cX10_lotOf 40 = .ok (.lload 5, 2) := by decide +kernel
theorem dX10_lotOf_42 : decode cX10_lotOf 42 = .ok (.iload_n 0, 1) := by decide +kernel
theorem dX10_lotOf_43 : decode cX10_lotOf 43 = .ok (.iload_n 2, 1) := by decide +kernel
theorem dX10_lotOf_44 : decode cX10_lotOf 44 = .ok (.invokestatic 234, 3) := by decide +kernel
theorem dX10_lotOf_47 : decode cX10_lotOf 47 = .ok (.iload 4, 2) := by decide +kernel
theorem dX10_lotOf_49 : decode cX10_lotOf 49 = .ok (.invokestatic 221, 3) := by decide +kernel
theorem dX10_lotOf_52 : decode cX10_lotOf 52 = .ok (.lreturn, 1) := by decide +kernel
set_option maxRecDepth 20000 in
theorem ggX10_findTried_X10_saidOf : GoodIn wsX10_findTried wsX10_saidOf := goodIn_r _ [11, 12, 13, 14, 15, 16, 17, 10, 18, 19, 20, 21, 22, 23, 24, 25, 26, 27, 28, 29, 6, 30, 31, 32, 33, 34, 35, 36, 37, 38, 39, 40, 41, 42, 43, 44, 45, 46, 47, 48, 49, 50, 51, 52, 53, 54, 55, 56, 57, 58, 59, 60, 61, 62, 63, 64, 65, 66, 67, 68, 69, 70, 71, 72, 73, 74] (by decide +kernel) (by decide +kernel)
set_option maxRecDepth 20000 in
theorem gX10_findTried_X10_saidOf : GoodIn wsX10_findTried (wsV RX10 182 RX10 yX10_saidOf wsX10_saidOf) := goodIn_app (goodIn_of _ (by decide +kernel)) ggX10_findTried_X10_saidOf
theorem dX10_findTried_0 : decode cX10_findTried 0 = .ok (.aload_n 0, 1) := by decide +kernel
theorem dX10_findTried_1 : decode cX10_findTried 1 = .ok (.iconst 0, 1) := by decide +kernel
theorem dX10_findTried_2 : decode cX10_findTried 2 = .ok (.putfield 238, 3) := by decide +kernel
theorem dX10_findTried_5 : decode cX10_findTried 5 = .ok (.aload_n 0, 1) := by decide +kernel
theorem dX10_findTried_6 : decode cX10_findTried 6 = .ok (.iconst 0, 1) := by decide +kernel
theorem dX10_findTried_7 : decode cX10_findTried 7 = .ok (.putfield 241, 3) := by decide +kernel
theorem dX10_findTried_10 : decode cX10_findTried 10 = .ok (.aload_n 0, 1) := by decide +kernel
theorem dX10_findTried_11 : decode cX10_findTried 11 = .ok (.iconst 0, 1) := by decide +kernel
theorem dX10_findTried_12 : decode cX10_findTried 12 = .ok (.putfield 244, 3) := by decide +kernel
theorem dX10_findTried_15 : decode cX10_findTried 15 = .ok (.aload_n 0, 1) := by decide +kernel
theorem dX10_findTried_16 : decode cX10_findTried 16 = .ok (.iconst 0, 1) := by decide +kernel
theorem dX10_findTried_17 : decode cX10_findTried 17 = .ok (.putfield 247, 3) := by decide +kernel
theorem dX10_findTried_20 : decode cX10_findTried 20 = .ok (.iconst 0, 1) := by decide +kernel
theorem dX10_findTried_21 : decode cX10_findTried 21 = .ok (.istore_n 2, 1) := by decide +kernel
theorem dX10_findTried_22 : decode cX10_findTried 22 = .ok (.iload_n 2, 1) := by decide +kernel
theorem dX10_findTried_23 : decode cX10_findTried 23 = .ok (.aload_n 0, 1) := by decide +kernel
theorem dX10_findTried_24 : decode cX10_findTried 24 = .ok (.getfield 111, 3) := by decide +kernel
theorem dX10_findTried_27 : decode cX10_findTried 27 = .ok (.if_icmp .ge 92, 3) := by decide +kernel
theorem dX10_findTried_30 : decode cX10_findTried 30 = .ok (.aload_n 0, 1) := by decide +kernel
theorem dX10_findTried_31 : decode cX10_findTried 31 = .ok (.iload_n 1, 1) := by decide +kernel
theorem dX10_findTried_32 : decode cX10_findTried 32 = .ok (.iload_n 2, 1) := by decide +kernel
theorem dX10_findTried_33 : decode cX10_findTried 33 = .ok (.invokevirtual 182, 3) := by decide +kernel
theorem dX10_findTried_36 : decode cX10_findTried 36 = .ok (.istore_n 3, 1) := by decide +kernel
theorem dX10_findTried_37 : decode cX10_findTried 37 = .ok (.iload_n 3, 1) := by decide +kernel
theorem dX10_findTried_38 : decode cX10_findTried 38 = .ok (.ifCond .lt 75, 3) := by decide +kernel
theorem dX10_findTried_41 : decode cX10_findTried 41 = .ok (.aload_n 0, 1) := by decide +kernel
theorem dX10_findTried_42 : decode cX10_findTried 42 = .ok (.dup, 1) := by decide +kernel
theorem dX10_findTried_43 : decode cX10_findTried 43 = .ok (.getfield 238, 3) := by decide +kernel
theorem dX10_findTried_46 : decode cX10_findTried 46 = .ok (.iconst 1, 1) := by decide +kernel
theorem dX10_findTried_47 : decode cX10_findTried 47 = .ok (.iadd, 1) := by decide +kernel
theorem dX10_findTried_48 : decode cX10_findTried 48 = .ok (.putfield 238, 3) := by decide +kernel
theorem dX10_findTried_51 : decode cX10_findTried 51 = .ok (.aload_n 0, 1) := by decide +kernel
theorem dX10_findTried_52 : decode cX10_findTried 52 = .ok (.dup, 1) := by decide +kernel
theorem dX10_findTried_53 : decode cX10_findTried 53 = .ok (.getfield 241, 3) := by decide +kernel
theorem dX10_findTried_56 : decode cX10_findTried 56 = .ok (.aload_n 0, 1) := by decide +kernel
theorem dX10_findTried_57 : decode cX10_findTried 57 = .ok (.getfield 25, 3) := by decide +kernel
theorem dX10_findTried_60 : decode cX10_findTried 60 = .ok (.iload_n 2, 1) := by decide +kernel
theorem dX10_findTried_61 : decode cX10_findTried 61 = .ok (.iaload, 1) := by decide +kernel
theorem dX10_findTried_62 : decode cX10_findTried 62 = .ok (.iadd, 1) := by decide +kernel
theorem dX10_findTried_63 : decode cX10_findTried 63 = .ok (.putfield 241, 3) := by decide +kernel
theorem dX10_findTried_66 : decode cX10_findTried 66 = .ok (.aload_n 0, 1) := by decide +kernel
theorem dX10_findTried_67 : decode cX10_findTried 67 = .ok (.dup, 1) := by decide +kernel
theorem dX10_findTried_68 : decode cX10_findTried 68 = .ok (.getfield 244, 3) := by decide +kernel
theorem dX10_findTried_71 : decode cX10_findTried 71 = .ok (.iload_n 3, 1) := by decide +kernel
theorem dX10_findTried_72 : decode cX10_findTried 72 = .ok (.sipush 500, 3) := by decide +kernel
theorem dX10_findTried_75 : decode cX10_findTried 75 = .ok (.if_icmp .lt 7, 3) := by decide +kernel
theorem dX10_findTried_78 : decode cX10_findTried 78 = .ok (.iconst 1, 1) := by decide +kernel
theorem dX10_findTried_79 : decode cX10_findTried 79 = .ok (.goto 4, 3) := by decide +kernel
theorem dX10_findTried_82 : decode cX10_findTried 82 = .ok (.iconst 0, 1) := by decide +kernel
theorem dX10_findTried_83 : decode cX10_findTried 83 = .ok (.iadd, 1) := by decide +kernel
theorem dX10_findTried_84 : decode cX10_findTried 84 = .ok (.putfield 244, 3) := by decide +kernel
theorem dX10_findTried_87 : decode cX10_findTried 87 = .ok (.aload_n 0, 1) := by decide +kernel
theorem dX10_findTried_88 : decode cX10_findTried 88 = .ok (.dup, 1) := by decide +kernel
theorem dX10_findTried_89 : decode cX10_findTried 89 = .ok (.getfield 247, 3) := by decide +kernel
theorem dX10_findTried_92 : decode cX10_findTried 92 = .ok (.iload_n 3, 1) := by decide +kernel
theorem dX10_findTried_93 : decode cX10_findTried 93 = .ok (.sipush 500, 3) := by decide +kernel
theorem dX10_findTried_96 : decode cX10_findTried 96 = .ok (.if_icmp .lt 12, 3) := by decide +kernel
theorem dX10_findTried_99 : decode cX10_findTried 99 = .ok (.aload_n 0, 1) := by decide +kernel
theorem dX10_findTried_100 : decode cX10_findTried 100 = .ok (.getfield 25, 3) := by decide +kernel
theorem dX10_findTried_103 : decode cX10_findTried 103 = .ok (.iload_n 2, 1) := by decide +kernel
theorem dX10_findTried_104 : decode cX10_findTried 104 = .ok (.iaload, 1) := by decide +kernel
theorem dX10_findTried_105 : decode cX10_findTried 105 = .ok (.goto 4, 3) := by decide +kernel
theorem dX10_findTried_108 : decode cX10_findTried 108 = .ok (.iconst 0, 1) := by decide +kernel
theorem dX10_findTried_109 : decode cX10_findTried 109 = .ok (.iadd, 1) := by decide +kernel
theorem dX10_findTried_110 : decode cX10_findTried 110 = .ok (.putfield 247, 3) := by decide +kernel
theorem dX10_findTried_113 : decode cX10_findTried 113 = .ok (.iinc 2 1, 3) := by decide +kernel
theorem dX10_findTried_116 : decode cX10_findTried 116 = .ok (.goto (-94), 3) := by decide +kernel
theorem dX10_findTried_119 : decode cX10_findTried 119 = .ok (.return_, 1) := by decide +kernel
set_option maxRecDepth 20000 in
theorem ggX10_tried_X10_in : GoodIn wsX10_tried wsX10_in := goodIn_r _ [9] (by decide +kernel) (by decide +kernel)
set_option maxRecDepth 20000 in
theorem gX10_tried_X10_in : GoodIn wsX10_tried (va_wsS RX10 99 yX10_in wsX10_in) := goodIn_app (goodIn_of _ (by decide +kernel)) ggX10_tried_X10_in
set_option maxRecDepth 20000 in
theorem ggX10_tried_X10_findTried : GoodIn wsX10_tried wsX10_findTried := goodIn_r _ [13, 3, 14, 4, 5, 15, 16, 17, 18, 19, 8, 20, 21, 22, 23, 24, 25, 26, 27, 28, 29, 30, 31, 32, 33, 34, 35, 36, 37, 38, 39, 40, 41, 42, 43, 44, 45, 46, 47, 48, 49, 50, 51, 52, 53, 54, 55, 56, 57, 58, 59, 60, 61, 62, 63, 64, 65, 66, 67, 68, 69, 70, 71, 72, 73, 74, 75, 76, 77, 78, 79, 80, 81, 82, 83] (by decide +kernel) (by decide +kernel)
set_option maxRecDepth 20000 in
theorem gX10_tried_X10_findTried : GoodIn wsX10_tried (wsV RX10 250 RX10 yX10_findTried wsX10_findTried) := goodIn_app (goodIn_of _ (by decide +kernel)) ggX10_tried_X10_findTried
theorem dX10_tried_0 : decode cX10_tried 0 = .ok (.iload_n 1, 1) := by decide +kernel
theorem dX10_tried_1 : decode cX10_tried 1 = .ok (.i2l, 1) := by decide +kernel
theorem dX10_tried_2 : decode cX10_tried 2 = .ok (.lconst 0, 1) := by decide +kernel
theorem dX10_tried_3 : decode cX10_tried 3 = .ok (.ldc2_w 120, 3) := by decide +kernel
theorem dX10_tried_6 : decode cX10_tried 6 = .ok (.invokestatic 99, 3) := by decide +kernel
theorem dX10_tried_9 : decode cX10_tried 9 = .ok (.ifCond .ne 5, 3) := by decide +kernel
theorem dX10_tried_12 : decode cX10_tried 12 = .ok (.iconst (-1), 1) := by decide +kernel
theorem dX10_tried_13 : decode cX10_tried 13 = .ok (.ireturn, 1) := by decide +kernel
theorem dX10_tried_14 : decode cX10_tried 14 = .ok (.iload_n 2, 1) := by decide +kernel
theorem dX10_tried_15 : decode cX10_tried 15 = .ok (.i2l, 1) := by decide +kernel
theorem dX10_tried_16 : decode cX10_tried 16 = .ok (.lconst 0, 1) := by decide +kernel
theorem dX10_tried_17 : decode cX10_tried 17 = .ok (.ldc2_w 196, 3) := by decide +kernel
theorem dX10_tried_20 : decode cX10_tried 20 = .ok (.invokestatic 99, 3) := by decide +kernel
theorem dX10_tried_23 : decode cX10_tried 23 = .ok (.ifCond .ne 6, 3) := by decide +kernel
theorem dX10_tried_26 : decode cX10_tried 26 = .ok (.bipush (-2), 2) := by decide +kernel
theorem dX10_tried_28 : decode cX10_tried 28 = .ok (.ireturn, 1) := by decide +kernel
theorem dX10_tried_29 : decode cX10_tried 29 = .ok (.aload_n 0, 1) := by decide +kernel
theorem dX10_tried_30 : decode cX10_tried 30 = .ok (.iload_n 1, 1) := by decide +kernel
theorem dX10_tried_31 : decode cX10_tried 31 = .ok (.invokevirtual 250, 3) := by decide +kernel
theorem dX10_tried_34 : decode cX10_tried 34 = .ok (.iload_n 2, 1) := by decide +kernel
theorem dX10_tried_35 : decode cX10_tried 35 = .ok (.ifCond .ne 10, 3) := by decide +kernel
theorem dX10_tried_38 : decode cX10_tried 38 = .ok (.aload_n 0, 1) := by decide +kernel
theorem dX10_tried_39 : decode cX10_tried 39 = .ok (.getfield 238, 3) := by decide +kernel
theorem dX10_tried_42 : decode cX10_tried 42 = .ok (.goto 19, 3) := by decide +kernel
theorem dX10_tried_45 : decode cX10_tried 45 = .ok (.iload_n 2, 1) := by decide +kernel
theorem dX10_tried_46 : decode cX10_tried 46 = .ok (.iconst 1, 1) := by decide +kernel
theorem dX10_tried_47 : decode cX10_tried 47 = .ok (.if_icmp .ne 10, 3) := by decide +kernel
theorem dX10_tried_50 : decode cX10_tried 50 = .ok (.aload_n 0, 1) := by decide +kernel
theorem dX10_tried_51 : decode cX10_tried 51 = .ok (.getfield 244, 3) := by decide +kernel
theorem dX10_tried_54 : decode cX10_tried 54 = .ok (.goto 7, 3) := by decide +kernel
theorem dX10_tried_57 : decode cX10_tried 57 = .ok (.aload_n 0, 1) := by decide +kernel
theorem dX10_tried_58 : decode cX10_tried 58 = .ok (.getfield 247, 3) := by decide +kernel
theorem dX10_tried_61 : decode cX10_tried 61 = .ok (.ireturn, 1) := by decide +kernel
set_option maxRecDepth 20000 in
theorem ggX10_lot_X10_in : GoodIn wsX10_lot wsX10_in := goodIn_r _ [11] (by decide +kernel) (by decide +kernel)
set_option maxRecDepth 20000 in
theorem gX10_lot_X10_in : GoodIn wsX10_lot (va_wsS RX10 99 yX10_in wsX10_in) := goodIn_app (goodIn_of _ (by decide +kernel)) ggX10_lot_X10_in
set_option maxRecDepth 20000 in
theorem ggX10_lot_X10_isEnd : GoodIn wsX10_lot wsX10_isEnd := goodIn_r _ [14, 8, 9, 10, 11] (by decide +kernel) (by decide +kernel)
set_option maxRecDepth 20000 in
theorem gX10_lot_X10_isEnd : GoodIn wsX10_lot (va_wsS RX10 122 yX10_isEnd wsX10_isEnd) := goodIn_app (goodIn_of _ (by decide +kernel)) ggX10_lot_X10_isEnd
set_option maxRecDepth 20000 in
theorem ggX10_lot_X10_findTried : GoodIn wsX10_lot wsX10_findTried := goodIn_r _ [18, 4, 5, 6, 7, 19, 20, 21, 22, 23, 10, 24, 25, 26, 27, 28, 29, 30, 31, 32, 33, 34, 35, 36, 37, 38, 39, 40, 41, 42, 43, 44, 45, 46, 47, 57, 58, 59, 60, 61, 62, 63, 64, 65, 66, 67, 68, 69, 70, 71, 72, 73, 74, 75, 76, 77, 78, 79, 80, 81, 82, 83, 84, 85, 86, 87, 88, 89, 90, 91, 92, 93, 94, 95, 96] (by decide +kernel) (by decide +kernel)
set_option maxRecDepth 20000 in
theorem gX10_lot_X10_findTried : GoodIn wsX10_lot (wsV RX10 250 RX10 yX10_findTried wsX10_findTried) := goodIn_app (goodIn_of _ (by decide +kernel)) ggX10_lot_X10_findTried
set_option maxRecDepth 20000 in
theorem ggX10_lot_X10_lotOf : GoodIn wsX10_lot wsX10_lotOf := goodIn_r _ [50, 51, 52, 10, 53, 54, 55, 56] (by decide +kernel) (by decide +kernel)
set_option maxRecDepth 20000 in
theorem gX10_lot_X10_lotOf : GoodIn wsX10_lot (va_wsS RX10 253 yX10_lotOf wsX10_lotOf) := goodIn_app (goodIn_of _ (by decide +kernel)) ggX10_lot_X10_lotOf
theorem dX10_lot_0 : decode cX10_lot 0 = .ok (.iload_n 1, 1) := by decide +kernel
theorem dX10_lot_1 : decode cX10_lot 1 = .ok (.i2l, 1) := by decide +kernel
theorem dX10_lot_2 : decode cX10_lot 2 = .ok (.lconst 0, 1) := by decide +kernel
theorem dX10_lot_3 : decode cX10_lot 3 = .ok (.ldc2_w 120, 3) := by decide +kernel
theorem dX10_lot_6 : decode cX10_lot 6 = .ok (.invokestatic 99, 3) := by decide +kernel
theorem dX10_lot_9 : decode cX10_lot 9 = .ok (.ifCond .ne 7, 3) := by decide +kernel
theorem dX10_lot_12 : decode cX10_lot 12 = .ok (.ldc2_w 211, 3) := by decide +kernel
theorem dX10_lot_15 : decode cX10_lot 15 = .ok (.lreturn, 1) := by decide +kernel
theorem dX10_lot_16 : decode cX10_lot 16 = .ok (.iload_n 2, 1) := by decide +kernel
theorem dX10_lot_17 : decode cX10_lot 17 = .ok (.invokestatic 122, 3) := by decide +kernel
theorem dX10_lot_20 : decode cX10_lot 20 = .ok (.ifCond .ne 7, 3) := by decide +kernel
theorem dX10_lot_23 : decode cX10_lot 23 = .ok (.ldc2_w 213, 3) := by decide +kernel
theorem dX10_lot_26 : decode cX10_lot 26 = .ok (.lreturn, 1) := by decide +kernel
theorem dX10_lot_27 : decode cX10_lot 27 = .ok (.aload_n 0, 1) := by decide +kernel
theorem dX10_lot_28 : decode cX10_lot 28 = .ok (.iload_n 1, 1) := by decide +kernel
theorem dX10_lot_29 : decode cX10_lot 29 = .ok (.invokevirtual 250, 3) := by decide +kernel
theorem dX10_lot_32 : decode cX10_lot 32 = .ok (.aload_n 0, 1) := by decide +kernel
theorem dX10_lot_33 : decode cX10_lot 33 = .ok (.getfield 238, 3) := by decide +kernel
theorem dX10_lot_36 : decode cX10_lot 36 = .ok (.aload_n 0, 1) := by decide +kernel
theorem dX10_lot_37 : decode cX10_lot 37 = .ok (.getfield 241, 3) := by decide +kernel
theorem dX10_lot_40 : decode cX10_lot 40 = .ok (.aload_n 0, 1) := by decide +kernel
theorem dX10_lot_41 : decode cX10_lot 41 = .ok (.getfield 244, 3) := by decide +kernel
theorem dX10_lot_44 : decode cX10_lot 44 = .ok (.aload_n 0, 1) := by decide +kernel
theorem dX10_lot_45 : decode cX10_lot 45 = .ok (.getfield 247, 3) := by decide +kernel
theorem dX10_lot_48 : decode cX10_lot 48 = .ok (.iload_n 2, 1) := by decide +kernel
theorem dX10_lot_49 : decode cX10_lot 49 = .ok (.invokestatic 253, 3) := by decide +kernel
theorem dX10_lot_52 : decode cX10_lot 52 = .ok (.lreturn, 1) := by decide +kernel
set_option maxRecDepth 20000 in
theorem ggX10_changed_X10_in : GoodIn wsX10_changed wsX10_in := goodIn_r _ [9] (by decide +kernel) (by decide +kernel)
set_option maxRecDepth 20000 in
theorem gX10_changed_X10_in : GoodIn wsX10_changed (va_wsS RX10 99 yX10_in wsX10_in) := goodIn_app (goodIn_of _ (by decide +kernel)) ggX10_changed_X10_in
set_option maxRecDepth 20000 in
theorem ggX10_changed_X10_isEnd : GoodIn wsX10_changed wsX10_isEnd := goodIn_r _ [12, 6, 7, 8, 9] (by decide +kernel) (by decide +kernel)
set_option maxRecDepth 20000 in
theorem gX10_changed_X10_isEnd : GoodIn wsX10_changed (va_wsS RX10 122 yX10_isEnd wsX10_isEnd) := goodIn_app (goodIn_of _ (by decide +kernel)) ggX10_changed_X10_isEnd
set_option maxRecDepth 20000 in
theorem ggX10_changed_X10_lotOf : GoodIn wsX10_changed wsX10_lotOf := goodIn_r _ [15, 16, 17, 8, 18, 19, 20, 21] (by decide +kernel) (by decide +kernel)
set_option maxRecDepth 20000 in
theorem gX10_changed_X10_lotOf : GoodIn wsX10_changed (va_wsS RX10 253 yX10_lotOf wsX10_lotOf) := goodIn_app (goodIn_of _ (by decide +kernel)) ggX10_changed_X10_lotOf
theorem dX10_changed_0 : decode cX10_changed 0 = .ok (.iload_n 1, 1) := by decide +kernel
theorem dX10_changed_1 : decode cX10_changed 1 = .ok (.i2l, 1) := by decide +kernel
theorem dX10_changed_2 : decode cX10_changed 2 = .ok (.lconst 0, 1) := by decide +kernel
theorem dX10_changed_3 : decode cX10_changed 3 = .ok (.ldc2_w 200, 3) := by decide +kernel
theorem dX10_changed_6 : decode cX10_changed 6 = .ok (.invokestatic 99, 3) := by decide +kernel
theorem dX10_changed_9 : decode cX10_changed 9 = .ok (.ifCond .eq 10, 3) := by decide +kernel
theorem dX10_changed_12 : decode cX10_changed 12 = .ok (.iload_n 2, 1) := by decide +kernel
theorem dX10_changed_13 : decode cX10_changed 13 = .ok (.invokestatic 122, 3) := by decide +kernel
theorem dX10_changed_16 : decode cX10_changed 16 = .ok (.ifCond .ne 7, 3) := by decide +kernel
theorem dX10_changed_19 : decode cX10_changed 19 = .ok (.ldc2_w 213, 3) := by decide +kernel
theorem dX10_changed_22 : decode cX10_changed 22 = .ok (.lreturn, 1) := by decide +kernel
theorem dX10_changed_23 : decode cX10_changed 23 = .ok (.iconst 0, 1) := by decide +kernel
theorem dX10_changed_24 : decode cX10_changed 24 = .ok (.istore_n 3, 1) := by decide +kernel
theorem dX10_changed_25 : decode cX10_changed 25 = .ok (.iconst 0, 1) := by decide +kernel
theorem dX10_changed_26 : decode cX10_changed 26 = .ok (.istore 4, 2) := by decide +kernel
theorem dX10_changed_28 : decode cX10_changed 28 = .ok (.iconst 0, 1) := by decide +kernel
theorem dX10_changed_29 : decode cX10_changed 29 = .ok (.istore 5, 2) := by decide +kernel
theorem dX10_changed_31 : decode cX10_changed 31 = .ok (.iconst 0, 1) := by decide +kernel
theorem dX10_changed_32 : decode cX10_changed 32 = .ok (.istore 6, 2) := by decide +kernel
theorem dX10_changed_34 : decode cX10_changed 34 = .ok (.iload 6, 2) := by decide +kernel
theorem dX10_changed_36 : decode cX10_changed 36 = .ok (.aload_n 0, 1) := by decide +kernel
theorem dX10_changed_37 : decode cX10_changed 37 = .ok (.getfield 111, 3) := by decide +kernel
theorem dX10_changed_40 : decode cX10_changed 40 = .ok (.if_icmp .ge 67, 3) := by decide +kernel
theorem dX10_changed_43 : decode cX10_changed 43 = .ok (.iload_n 3, 1) := by decide +kernel
theorem dX10_changed_44 : decode cX10_changed 44 = .ok (.aload_n 0, 1) := by decide +kernel
theorem dX10_changed_45 : decode cX10_changed 45 = .ok (.getfield 25, 3) := by decide +kernel
theorem dX10_changed_48 : decode cX10_changed 48 = .ok (.iload 6, 2) := by decide +kernel
theorem dX10_changed_50 : decode cX10_changed 50 = .ok (.iaload, 1) := by decide +kernel
theorem dX10_changed_51 : decode cX10_changed 51 = .ok (.iadd, 1) := by decide +kernel
theorem dX10_changed_52 : decode cX10_changed 52 = .ok (.istore_n 3, 1) := by decide +kernel
theorem dX10_changed_53 : decode cX10_changed 53 = .ok (.iload 4, 2) := by decide +kernel
theorem dX10_changed_55 : decode cX10_changed 55 = .ok (.aload_n 0, 1) := by decide +kernel
theorem dX10_changed_56 : decode cX10_changed 56 = .ok (.getfield 7, 3) := by decide +kernel
theorem dX10_changed_59 : decode cX10_changed 59 = .ok (.iload 6, 2) := by decide +kernel
theorem dX10_changed_61 : decode cX10_changed 61 = .ok (.iaload, 1) := by decide +kernel
theorem dX10_changed_62 : decode cX10_changed 62 = .ok (.iload_n 1, 1) := by decide +kernel
theorem dX10_changed_63 : decode cX10_changed 63 = .ok (.if_icmp .lt 7, 3) := by decide +kernel
theorem dX10_changed_66 : decode cX10_changed 66 = .ok (.iconst 1, 1) := by decide +kernel
theorem dX10_changed_67 : decode cX10_changed 67 = .ok (.goto 4, 3) := by decide +kernel
theorem dX10_changed_70 : decode cX10_changed 70 = .ok (.iconst 0, 1) := by decide +kernel
theorem dX10_changed_71 : decode cX10_changed 71 = .ok (.iadd, 1) := by decide +kernel
theorem dX10_changed_72 : decode cX10_changed 72 = .ok (.istore 4, 2) := by decide +kernel
theorem dX10_changed_74 : decode cX10_changed 74 = .ok (.iload 5, 2) := by decide +kernel
theorem dX10_changed_76 : decode cX10_changed 76 = .ok (.aload_n 0, 1) := by decide +kernel
theorem dX10_changed_77 : decode cX10_changed 77 = .ok (.getfield 7, 3) := by decide +kernel
theorem dX10_changed_80 : decode cX10_changed 80 = .ok (.iload 6, 2) := by decide +kernel
theorem dX10_changed_82 : decode cX10_changed 82 = .ok (.iaload, 1) := by decide +kernel
theorem dX10_changed_83 : decode cX10_changed 83 = .ok (.iload_n 1, 1) := by decide +kernel
theorem dX10_changed_84 : decode cX10_changed 84 = .ok (.if_icmp .lt 13, 3) := by decide +kernel
theorem dX10_changed_87 : decode cX10_changed 87 = .ok (.aload_n 0, 1) := by decide +kernel
theorem dX10_changed_88 : decode cX10_changed 88 = .ok (.getfield 25, 3) := by decide +kernel
theorem dX10_changed_91 : decode cX10_changed 91 = .ok (.iload 6, 2) := by decide +kernel
theorem dX10_changed_93 : decode cX10_changed 93 = .ok (.iaload, 1) := by decide +kernel
theorem dX10_changed_94 : decode cX10_changed 94 = .ok (.goto 4, 3) := by decide +kernel
theorem dX10_changed_97 : decode cX10_changed 97 = .ok (.iconst 0, 1) := by decide +kernel
theorem dX10_changed_98 : decode cX10_changed 98 = .ok (.iadd, 1) := by decide +kernel
theorem dX10_changed_99 : decode cX10_changed 99 = .ok (.istore 5, 2) := by decide +kernel
theorem dX10_changed_101 : decode cX10_changed 101 = .ok (.iinc 6 1, 3) := by decide +kernel
theorem dX10_changed_104 : decode cX10_changed 104 = .ok (.goto (-70), 3) := by decide +kernel
theorem dX10_changed_107 : decode cX10_changed 107 = .ok (.aload_n 0, 1) := by decide +kernel
theorem dX10_changed_108 : decode cX10_changed 108 = .ok (.getfield 111, 3) := by decide +kernel
theorem dX10_changed_111 : decode cX10_changed 111 = .ok (.iload_n 3, 1) := by decide +kernel
theorem dX10_changed_112 : decode cX10_changed 112 = .ok (.iload 4, 2) := by decide +kernel
theorem dX10_changed_114 : decode cX10_changed 114 = .ok (.iload 5, 2) := by decide +kernel
theorem dX10_changed_116 : decode cX10_changed 116 = .ok (.iload_n 2, 1) := by decide +kernel
theorem dX10_changed_117 : decode cX10_changed 117 = .ok (.invokestatic 253, 3) := by decide +kernel
theorem dX10_changed_120 : decode cX10_changed 120 = .ok (.lreturn, 1) := by decide +kernel
theorem dX10_rightBy_0 : decode cX10_rightBy 0 = .ok (.iconst 0, 1) := by decide +kernel
theorem dX10_rightBy_1 : decode cX10_rightBy 1 = .ok (.istore_n 2, 1) := by decide +kernel
theorem dX10_rightBy_2 : decode cX10_rightBy 2 = .ok (.iconst 0, 1) := by decide +kernel
theorem dX10_rightBy_3 : decode cX10_rightBy 3 = .ok (.istore_n 3, 1) := by decide +kernel
theorem dX10_rightBy_4 : decode cX10_rightBy 4 = .ok (.iload_n 3, 1) := by decide +kernel
theorem dX10_rightBy_5 : decode cX10_rightBy 5 = .ok (.aload_n 0, 1) := by decide +kernel
theorem dX10_rightBy_6 : decode cX10_rightBy 6 = .ok (.getfield 111, 3) := by decide +kernel
theorem dX10_rightBy_9 : decode cX10_rightBy 9 = .ok (.if_icmp .ge 89, 3) := by decide +kernel
theorem dX10_rightBy_12 : decode cX10_rightBy 12 = .ok (.aload_n 0, 1) := by decide +kernel
theorem dX10_rightBy_13 : decode cX10_rightBy 13 = .ok (.getfield 16, 3) := by decide +kernel
theorem dX10_rightBy_16 : decode cX10_rightBy 16 = .ok (.iload_n 3, 1) := by decide +kernel
theorem dX10_rightBy_17 : decode cX10_rightBy 17 = .ok (.iaload, 1) := by decide +kernel
theorem dX10_rightBy_18 : decode cX10_rightBy 18 = .ok (.iload_n 1, 1) := by decide +kernel
theorem dX10_rightBy_19 : decode cX10_rightBy 19 = .ok (.iadd, 1) := by decide +kernel
theorem dX10_rightBy_20 : decode cX10_rightBy 20 = .ok (.istore 4, 2) := by decide +kernel
theorem dX10_rightBy_22 : decode cX10_rightBy 22 = .ok (.iload 4, 2) := by decide +kernel
theorem dX10_rightBy_24 : decode cX10_rightBy 24 = .ok (.bipush 40, 2) := by decide +kernel
theorem dX10_rightBy_26 : decode cX10_rightBy 26 = .ok (.if_icmp .ge 21, 3) := by decide +kernel
theorem dX10_rightBy_29 : decode cX10_rightBy 29 = .ok (.aload_n 0, 1) := by decide +kernel
theorem dX10_rightBy_30 : decode cX10_rightBy 30 = .ok (.getfield 25, 3) := by decide +kernel
theorem dX10_rightBy_33 : decode cX10_rightBy 33 = .ok (.iload_n 3, 1) := by decide +kernel
theorem dX10_rightBy_34 : decode cX10_rightBy 34 = .ok (.iaload, 1) := by decide +kernel
theorem dX10_rightBy_35 : decode cX10_rightBy 35 = .ok (.iconst 1, 1) := by decide +kernel
theorem dX10_rightBy_36 : decode cX10_rightBy 36 = .ok (.if_icmp .ne 7, 3) := by decide +kernel
theorem dX10_rightBy_39 : decode cX10_rightBy 39 = .ok (.iconst 1, 1) := by decide +kernel
theorem dX10_rightBy_40 : decode cX10_rightBy 40 = .ok (.goto 28, 3) := by decide +kernel
theorem dX10_rightBy_43 : decode cX10_rightBy 43 = .ok (.iconst 0, 1) := by decide +kernel
theorem dX10_rightBy_44 : decode cX10_rightBy 44 = .ok (.goto 24, 3) := by decide +kernel
theorem dX10_rightBy_47 : decode cX10_rightBy 47 = .ok (.iload 4, 2) := by decide +kernel
theorem dX10_rightBy_49 : decode cX10_rightBy 49 = .ok (.bipush 60, 2) := by decide +kernel
theorem dX10_rightBy_51 : decode cX10_rightBy 51 = .ok (.if_icmp .lt 16, 3) := by decide +kernel
theorem dX10_rightBy_54 : decode cX10_rightBy 54 = .ok (.aload_n 0, 1) := by decide +kernel
theorem dX10_rightBy_55 : decode cX10_rightBy 55 = .ok (.getfield 25, 3) := by decide +kernel
theorem dX10_rightBy_58 : decode cX10_rightBy 58 = .ok (.iload_n 3, 1) := by decide +kernel
theorem dX10_rightBy_59 : decode cX10_rightBy 59 = .ok (.iaload, 1) := by decide +kernel
theorem dX10_rightBy_60 : decode cX10_rightBy 60 = .ok (.ifCond .ne 7, 3) := by decide +kernel
theorem dX10_rightBy_63 : decode cX10_rightBy 63 = .ok (.iconst 1, 1) := by decide +kernel
theorem dX10_rightBy_64 : decode cX10_rightBy 64 = .ok (.goto 4, 3) := by decide +kernel
theorem dX10_rightBy_67 : decode cX10_rightBy 67 = .ok (.iconst 0, 1) := by decide +kernel
theorem dX10_rightBy_68 : decode cX10_rightBy 68 = .ok (.istore 5, 2) := by decide +kernel
theorem dX10_rightBy_70 : decode cX10_rightBy 70 = .ok (.iload_n 2, 1) := by decide +kernel
theorem dX10_rightBy_71 : decode cX10_rightBy 71 = .ok (.aload_n 0, 1) := by decide +kernel
theorem dX10_rightBy_72 : decode cX10_rightBy 72 = .ok (.getfield 16, 3) := by decide +kernel
theorem dX10_rightBy_75 : decode cX10_rightBy 75 = .ok (.iload_n 3, 1) := by decide +kernel
theorem dX10_rightBy_76 : decode cX10_rightBy 76 = .ok (.iaload, 1) := by decide +kernel
theorem dX10_rightBy_77 : decode cX10_rightBy 77 = .ok (.ifCond .lt 12, 3) := by decide +kernel
theorem dX10_rightBy_80 : decode cX10_rightBy 80 = .ok (.iload 5, 2) := by decide +kernel
theorem dX10_rightBy_82 : decode cX10_rightBy 82 = .ok (.ifCond .eq 7, 3) := by decide +kernel
theorem dX10_rightBy_85 : decode cX10_rightBy 85 = .ok (.iconst 1, 1) := by decide +kernel
theorem dX10_rightBy_86 : decode cX10_rightBy 86 = .ok (.goto 4, 3) := by decide +kernel
theorem dX10_rightBy_89 : decode cX10_rightBy 89 = .ok (.iconst 0, 1) := by decide +kernel
theorem dX10_rightBy_90 : decode cX10_rightBy 90 = .ok (.iadd, 1) := by decide +kernel
theorem dX10_rightBy_91 : decode cX10_rightBy 91 = .ok (.istore_n 2, 1) := by decide +kernel
theorem dX10_rightBy_92 : decode cX10_rightBy 92 = .ok (.iinc 3 1, 3) := by decide +kernel
theorem dX10_rightBy_95 : decode cX10_rightBy 95 = .ok (.goto (-91), 3) := by decide +kernel
theorem dX10_rightBy_98 : decode cX10_rightBy 98 = .ok (.iload_n 2, 1) := by decide +kernel
theorem dX10_rightBy_99 : decode cX10_rightBy 99 = .ok (.ireturn, 1) := by decide +kernel
set_option maxRecDepth 20000 in
theorem ggX10_engraved_X10_isEnd : GoodIn wsX10_engraved wsX10_isEnd := goodIn_r _ [4, 5, 6, 3, 7] (by decide +kernel) (by decide +kernel)
set_option maxRecDepth 20000 in
theorem gX10_engraved_X10_isEnd : GoodIn wsX10_engraved (va_wsS RX10 122 yX10_isEnd wsX10_isEnd) := goodIn_app (goodIn_of _ (by decide +kernel)) ggX10_engraved_X10_isEnd
set_option maxRecDepth 20000 in
theorem ggX10_engraved_X10_rightBy : GoodIn wsX10_engraved wsX10_rightBy := goodIn_r _ [11, 12, 13, 14, 15, 16, 17, 18, 19, 20, 21, 22, 23, 24, 25, 26, 27, 28, 29, 30, 31, 32, 33, 34, 35, 36, 37, 38, 39, 40, 41, 42, 43, 44, 45, 46, 47, 48, 49, 50, 51, 52, 53, 54] (by decide +kernel) (by decide +kernel)
set_option maxRecDepth 20000 in
theorem gX10_engraved_X10_rightBy : GoodIn wsX10_engraved (wsV RX10 257 RX10 yX10_rightBy wsX10_rightBy) := goodIn_app (goodIn_of _ (by decide +kernel)) ggX10_engraved_X10_rightBy
theorem dX10_engraved_0 : decode cX10_engraved 0 = .ok (.iload_n 1, 1) := by decide +kernel
theorem dX10_engraved_1 : decode cX10_engraved 1 = .ok (.invokestatic 122, 3) := by decide +kernel
theorem dX10_engraved_4 : decode cX10_engraved 4 = .ok (.ifCond .ne 6, 3) := by decide +kernel
theorem dX10_engraved_7 : decode cX10_engraved 7 = .ok (.bipush (-2), 2) := by decide +kernel
theorem dX10_engraved_9 : decode cX10_engraved 9 = .ok (.ireturn, 1) := by decide +kernel
theorem dX10_engraved_10 : decode cX10_engraved 10 = .ok (.iconst 0, 1) := by decide +kernel
theorem dX10_engraved_11 : decode cX10_engraved 11 = .ok (.istore_n 2, 1) := by decide +kernel
theorem dX10_engraved_12 : decode cX10_engraved 12 = .ok (.iconst 1, 1) := by decide +kernel
theorem dX10_engraved_13 : decode cX10_engraved 13 = .ok (.istore_n 3, 1) := by decide +kernel
theorem dX10_engraved_14 : decode cX10_engraved 14 = .ok (.iload_n 3, 1) := by decide +kernel
theorem dX10_engraved_15 : decode cX10_engraved 15 = .ok (.bipush 40, 2) := by decide +kernel
theorem dX10_engraved_17 : decode cX10_engraved 17 = .ok (.if_icmp .gt 28, 3) := by decide +kernel
theorem dX10_engraved_20 : decode cX10_engraved 20 = .ok (.aload_n 0, 1) := by decide +kernel
theorem dX10_engraved_21 : decode cX10_engraved 21 = .ok (.iload_n 3, 1) := by decide +kernel
theorem dX10_engraved_22 : decode cX10_engraved 22 = .ok (.invokevirtual 257, 3) := by decide +kernel
theorem dX10_engraved_25 : decode cX10_engraved 25 = .ok (.aload_n 0, 1) := by decide +kernel
theorem dX10_engraved_26 : decode cX10_engraved 26 = .ok (.iload_n 2, 1) := by decide +kernel
theorem dX10_engraved_27 : decode cX10_engraved 27 = .ok (.invokevirtual 257, 3) := by decide +kernel
theorem dX10_engraved_30 : decode cX10_engraved 30 = .ok (.if_icmp .le 7, 3) := by decide +kernel
theorem dX10_engraved_33 : decode cX10_engraved 33 = .ok (.iload_n 3, 1) := by decide +kernel
theorem dX10_engraved_34 : decode cX10_engraved 34 = .ok (.goto 4, 3) := by decide +kernel
theorem dX10_engraved_37 : decode cX10_engraved 37 = .ok (.iload_n 2, 1) := by decide +kernel
theorem dX10_engraved_38 : decode cX10_engraved 38 = .ok (.istore_n 2, 1) := by decide +kernel
theorem dX10_engraved_39 : decode cX10_engraved 39 = .ok (.iinc 3 1, 3) := by decide +kernel
theorem dX10_engraved_42 : decode cX10_engraved 42 = .ok (.goto (-28), 3) := by decide +kernel
theorem dX10_engraved_45 : decode cX10_engraved 45 = .ok (.iload_n 1, 1) := by decide +kernel
theorem dX10_engraved_46 : decode cX10_engraved 46 = .ok (.ifCond .ne 7, 3) := by decide +kernel
theorem dX10_engraved_49 : decode cX10_engraved 49 = .ok (.iload_n 2, 1) := by decide +kernel
theorem dX10_engraved_50 : decode cX10_engraved 50 = .ok (.goto 8, 3) := by decide +kernel
theorem dX10_engraved_53 : decode cX10_engraved 53 = .ok (.aload_n 0, 1) := by decide +kernel
theorem dX10_engraved_54 : decode cX10_engraved 54 = .ok (.iload_n 2, 1) := by decide +kernel
theorem dX10_engraved_55 : decode cX10_engraved 55 = .ok (.invokevirtual 257, 3) := by decide +kernel
theorem dX10_engraved_58 : decode cX10_engraved 58 = .ok (.ireturn, 1) := by decide +kernel
set_option maxRecDepth 20000 in
theorem ggX10_right_X10_in : GoodIn wsX10_right wsX10_in := goodIn_r _ [5] (by decide +kernel) (by decide +kernel)
set_option maxRecDepth 20000 in
theorem gX10_right_X10_in : GoodIn wsX10_right (va_wsS RX10 99 yX10_in wsX10_in) := goodIn_app (goodIn_of _ (by decide +kernel)) ggX10_right_X10_in
set_option maxRecDepth 20000 in
theorem ggX10_right_X10_rightBy : GoodIn wsX10_right wsX10_rightBy := goodIn_r _ [9, 10, 11, 12, 13, 14, 15, 16, 17, 18, 19, 20, 21, 22, 23, 24, 25, 26, 27, 28, 29, 30, 31, 32, 33, 34, 35, 36, 37, 38, 39, 40, 41, 42, 43, 44, 45, 46, 47, 48, 49, 50, 51, 52] (by decide +kernel) (by decide +kernel)
set_option maxRecDepth 20000 in
theorem gX10_right_X10_rightBy : GoodIn wsX10_right (wsV RX10 257 RX10 yX10_rightBy wsX10_rightBy) := goodIn_app (goodIn_of _ (by decide +kernel)) ggX10_right_X10_rightBy
theorem dX10_right_0 : decode cX10_right 0 = .ok (.iload_n 1, 1) := by decide +kernel
theorem dX10_right_1 : decode cX10_right 1 = .ok (.i2l, 1) := by decide +kernel
theorem dX10_right_2 : decode cX10_right 2 = .ok (.lconst 0, 1) := by decide +kernel
theorem dX10_right_3 : decode cX10_right 3 = .ok (.ldc2_w 260, 3) := by decide +kernel
theorem dX10_right_6 : decode cX10_right 6 = .ok (.invokestatic 99, 3) := by decide +kernel
theorem dX10_right_9 : decode cX10_right 9 = .ok (.ifCond .eq 11, 3) := by decide +kernel
theorem dX10_right_12 : decode cX10_right 12 = .ok (.aload_n 0, 1) := by decide +kernel
theorem dX10_right_13 : decode cX10_right 13 = .ok (.iload_n 1, 1) := by decide +kernel
theorem dX10_right_14 : decode cX10_right 14 = .ok (.invokevirtual 257, 3) := by decide +kernel
theorem dX10_right_17 : decode cX10_right 17 = .ok (.goto 5, 3) := by decide +kernel
theorem dX10_right_20 : decode cX10_right 20 = .ok (.bipush (-2), 2) := by decide +kernel
theorem dX10_right_22 : decode cX10_right 22 = .ok (.ireturn, 1) := by decide +kernel
set_option maxRecDepth 20000 in
theorem ggX10_glass_X10_in : GoodIn wsX10_glass wsX10_in := goodIn_r _ [12] (by decide +kernel) (by decide +kernel)
set_option maxRecDepth 20000 in
theorem gX10_glass_X10_in : GoodIn wsX10_glass (va_wsS RX10 99 yX10_in wsX10_in) := goodIn_app (goodIn_of _ (by decide +kernel)) ggX10_glass_X10_in
theorem dX10_glass_0 : decode cX10_glass 0 = .ok (.iload_n 1, 1) := by decide +kernel
theorem dX10_glass_1 : decode cX10_glass 1 = .ok (.i2l, 1) := by decide +kernel
theorem dX10_glass_2 : decode cX10_glass 2 = .ok (.lconst 0, 1) := by decide +kernel
theorem dX10_glass_3 : decode cX10_glass 3 = .ok (.ldc2_w 132, 3) := by decide +kernel
theorem dX10_glass_6 : decode cX10_glass 6 = .ok (.invokestatic 99, 3) := by decide +kernel
theorem dX10_glass_9 : decode cX10_glass 9 = .ok (.ifCond .eq 40, 3) := by decide +kernel
theorem dX10_glass_12 : decode cX10_glass 12 = .ok (.iload_n 2, 1) := by decide +kernel
theorem dX10_glass_13 : decode cX10_glass 13 = .ok (.i2l, 1) := by decide +kernel
theorem dX10_glass_14 : decode cX10_glass 14 = .ok (.lconst 0, 1) := by decide +kernel
theorem dX10_glass_15 : decode cX10_glass 15 = .ok (.ldc2_w 132, 3) := by decide +kernel
theorem dX10_glass_18 : decode cX10_glass 18 = .ok (.invokestatic 99, 3) := by decide +kernel
theorem dX10_glass_21 : decode cX10_glass 21 = .ok (.ifCond .eq 28, 3) := by decide +kernel
theorem dX10_glass_24 : decode cX10_glass 24 = .ok (.iload_n 3, 1) := by decide +kernel
theorem dX10_glass_25 : decode cX10_glass 25 = .ok (.i2l, 1) := by decide +kernel
theorem dX10_glass_26 : decode cX10_glass 26 = .ok (.lconst 0, 1) := by decide +kernel
theorem dX10_glass_27 : decode cX10_glass 27 = .ok (.ldc2_w 103, 3) := by decide +kernel
theorem dX10_glass_30 : decode cX10_glass 30 = .ok (.invokestatic 99, 3) := by decide +kernel
theorem dX10_glass_33 : decode cX10_glass 33 = .ok (.ifCond .eq 16, 3) := by decide +kernel
theorem dX10_glass_36 : decode cX10_glass 36 = .ok (.iload 4, 2) := by decide +kernel
theorem dX10_glass_38 : decode cX10_glass 38 = .ok (.i2l, 1) := by decide +kernel
theorem dX10_glass_39 : decode cX10_glass 39 = .ok (.lconst 0, 1) := by decide +kernel
theorem dX10_glass_40 : decode cX10_glass 40 = .ok (.ldc2_w 118, 3) := by decide +kernel
theorem dX10_glass_43 : decode cX10_glass 43 = .ok (.invokestatic 99, 3) := by decide +kernel
theorem dX10_glass_46 : decode cX10_glass 46 = .ok (.ifCond .ne 6, 3) := by decide +kernel
theorem dX10_glass_49 : decode cX10_glass 49 = .ok (.bipush (-2), 2) := by decide +kernel
theorem dX10_glass_51 : decode cX10_glass 51 = .ok (.ireturn, 1) := by decide +kernel
theorem dX10_glass_52 : decode cX10_glass 52 = .ok (.aload_n 0, 1) := by decide +kernel
theorem dX10_glass_53 : decode cX10_glass 53 = .ok (.getfield 262, 3) := by decide +kernel
theorem dX10_glass_56 : decode cX10_glass 56 = .ok (.iconst 4, 1) := by decide +kernel
theorem dX10_glass_57 : decode cX10_glass 57 = .ok (.if_icmp .ne 6, 3) := by decide +kernel
theorem dX10_glass_60 : decode cX10_glass 60 = .ok (.bipush (-4), 2) := by decide +kernel
theorem dX10_glass_62 : decode cX10_glass 62 = .ok (.ireturn, 1) := by decide +kernel
theorem dX10_glass_63 : decode cX10_glass 63 = .ok (.aload_n 0, 1) := by decide +kernel
theorem dX10_glass_64 : decode cX10_glass 64 = .ok (.getfield 52, 3) := by decide +kernel
theorem dX10_glass_67 : decode cX10_glass 67 = .ok (.aload_n 0, 1) := by decide +kernel
theorem dX10_glass_68 : decode cX10_glass 68 = .ok (.getfield 262, 3) := by decide +kernel
theorem dX10_glass_71 : decode cX10_glass 71 = .ok (.iload_n 1, 1) := by decide +kernel
theorem dX10_glass_72 : decode cX10_glass 72 = .ok (.iastore, 1) := by decide +kernel
theorem dX10_glass_73 : decode cX10_glass 73 = .ok (.aload_n 0, 1) := by decide +kernel
theorem dX10_glass_74 : decode cX10_glass 74 = .ok (.getfield 55, 3) := by decide +kernel
theorem dX10_glass_77 : decode cX10_glass 77 = .ok (.aload_n 0, 1) := by decide +kernel
theorem dX10_glass_78 : decode cX10_glass 78 = .ok (.getfield 262, 3) := by decide +kernel
theorem dX10_glass_81 : decode cX10_glass 81 = .ok (.iload_n 2, 1) := by decide +kernel
theorem dX10_glass_82 : decode cX10_glass 82 = .ok (.iastore, 1) := by decide +kernel
theorem dX10_glass_83 : decode cX10_glass 83 = .ok (.aload_n 0, 1) := by decide +kernel
theorem dX10_glass_84 : decode cX10_glass 84 = .ok (.getfield 58, 3) := by decide +kernel
theorem dX10_glass_87 : decode cX10_glass 87 = .ok (.aload_n 0, 1) := by decide +kernel
theorem dX10_glass_88 : decode cX10_glass 88 = .ok (.getfield 262, 3) := by decide +kernel
theorem dX10_glass_91 : decode cX10_glass 91 = .ok (.iload_n 3, 1) := by decide +kernel
theorem dX10_glass_92 : decode cX10_glass 92 = .ok (.iastore, 1) := by decide +kernel
theorem dX10_glass_93 : decode cX10_glass 93 = .ok (.aload_n 0, 1) := by decide +kernel
theorem dX10_glass_94 : decode cX10_glass 94 = .ok (.getfield 61, 3) := by decide +kernel
theorem dX10_glass_97 : decode cX10_glass 97 = .ok (.aload_n 0, 1) := by decide +kernel
theorem dX10_glass_98 : decode cX10_glass 98 = .ok (.getfield 262, 3) := by decide +kernel
theorem dX10_glass_101 : decode cX10_glass 101 = .ok (.iload 4, 2) := by decide +kernel
theorem dX10_glass_103 : decode cX10_glass 103 = .ok (.iastore, 1) := by decide +kernel
theorem dX10_glass_104 : decode cX10_glass 104 = .ok (.aload_n 0, 1) := by decide +kernel
theorem dX10_glass_105 : decode cX10_glass 105 = .ok (.dup, 1) := by decide +kernel
theorem dX10_glass_106 : decode cX10_glass 106 = .ok (.getfield 262, 3) := by decide +kernel
theorem dX10_glass_109 : decode cX10_glass 109 = .ok (.iconst 1, 1) := by decide +kernel
theorem dX10_glass_110 : decode cX10_glass 110 = .ok (.iadd, 1) := by decide +kernel
theorem dX10_glass_111 : decode cX10_glass 111 = .ok (.putfield 262, 3) := by decide +kernel
theorem dX10_glass_114 : decode cX10_glass 114 = .ok (.aload_n 0, 1) := by decide +kernel
theorem dX10_glass_115 : decode cX10_glass 115 = .ok (.getfield 262, 3) := by decide +kernel
theorem dX10_glass_118 : decode cX10_glass 118 = .ok (.ireturn, 1) := by decide +kernel
theorem dX10_clear_0 : decode cX10_clear 0 = .ok (.aload_n 0, 1) := by decide +kernel
theorem dX10_clear_1 : decode cX10_clear 1 = .ok (.getfield 262, 3) := by decide +kernel
theorem dX10_clear_4 : decode cX10_clear 4 = .ok (.istore_n 1, 1) := by decide +kernel
theorem dX10_clear_5 : decode cX10_clear 5 = .ok (.aload_n 0, 1) := by decide +kernel
theorem dX10_clear_6 : decode cX10_clear 6 = .ok (.iconst 0, 1) := by decide +kernel
theorem dX10_clear_7 : decode cX10_clear 7 = .ok (.putfield 262, 3) := by decide +kernel
theorem dX10_clear_10 : decode cX10_clear 10 = .ok (.iload_n 1, 1) := by decide +kernel
theorem dX10_clear_11 : decode cX10_clear 11 = .ok (.ireturn, 1) := by decide +kernel
theorem dX10_towards_0 : decode cX10_towards 0 = .ok (.iload_n 0, 1) := by decide +kernel
theorem dX10_towards_1 : decode cX10_towards 1 = .ok (.ifCond .ge 8, 3) := by decide +kernel
theorem dX10_towards_4 : decode cX10_towards 4 = .ok (.iload_n 0, 1) := by decide +kernel
theorem dX10_towards_5 : decode cX10_towards 5 = .ok (.ineg, 1) := by decide +kernel
theorem dX10_towards_6 : decode cX10_towards 6 = .ok (.goto 4, 3) := by decide +kernel
theorem dX10_towards_9 : decode cX10_towards 9 = .ok (.iload_n 0, 1) := by decide +kernel
theorem dX10_towards_10 : decode cX10_towards 10 = .ok (.istore_n 2, 1) := by decide +kernel
theorem dX10_towards_11 : decode cX10_towards 11 = .ok (.iload_n 1, 1) := by decide +kernel
theorem dX10_towards_12 : decode cX10_towards 12 = .ok (.ifCond .ge 8, 3) := by decide +kernel
theorem dX10_towards_15 : decode cX10_towards 15 = .ok (.iload_n 1, 1) := by decide +kernel
theorem dX10_towards_16 : decode cX10_towards 16 = .ok (.ineg, 1) := by decide +kernel
theorem dX10_towards_17 : decode cX10_towards 17 = .ok (.goto 4, 3) := by decide +kernel
theorem dX10_towards_20 : decode cX10_towards 20 = .ok (.iload_n 1, 1) := by decide +kernel
theorem dX10_towards_21 : decode cX10_towards 21 = .ok (.istore_n 3, 1) := by decide +kernel
theorem dX10_towards_22 : decode cX10_towards 22 = .ok (.iload_n 2, 1) := by decide +kernel
theorem dX10_towards_23 : decode cX10_towards 23 = .ok (.ifCond .ne 10, 3) := by decide +kernel
theorem dX10_towards_26 : decode cX10_towards 26 = .ok (.iload_n 3, 1) := by decide +kernel
theorem dX10_towards_27 : decode cX10_towards 27 = .ok (.ifCond .ne 6, 3) := by decide +kernel
theorem dX10_towards_30 : decode cX10_towards 30 = .ok (.bipush (-6), 2) := by decide +kernel
theorem dX10_towards_32 : decode cX10_towards 32 = .ok (.ireturn, 1) := by decide +kernel
theorem dX10_towards_33 : decode cX10_towards 33 = .ok (.iconst 2, 1) := by decide +kernel
theorem dX10_towards_34 : decode cX10_towards 34 = .ok (.iload_n 2, 1) := by decide +kernel
theorem dX10_towards_35 : decode cX10_towards 35 = .ok (.imul, 1) := by decide +kernel
theorem dX10_towards_36 : decode cX10_towards 36 = .ok (.iload_n 3, 1) := by decide +kernel
theorem dX10_towards_37 : decode cX10_towards 37 = .ok (.if_icmp .ge 13, 3) := by decide +kernel
theorem dX10_towards_40 : decode cX10_towards 40 = .ok (.iload_n 1, 1) := by decide +kernel
theorem dX10_towards_41 : decode cX10_towards 41 = .ok (.ifCond .le 7, 3) := by decide +kernel
theorem dX10_towards_44 : decode cX10_towards 44 = .ok (.iconst 0, 1) := by decide +kernel
theorem dX10_towards_45 : decode cX10_towards 45 = .ok (.goto 4, 3) := by decide +kernel
theorem dX10_towards_48 : decode cX10_towards 48 = .ok (.iconst 4, 1) := by decide +kernel
theorem dX10_towards_49 : decode cX10_towards 49 = .ok (.ireturn, 1) := by decide +kernel
theorem dX10_towards_50 : decode cX10_towards 50 = .ok (.iconst 2, 1) := by decide +kernel
theorem dX10_towards_51 : decode cX10_towards 51 = .ok (.iload_n 3, 1) := by decide +kernel
theorem dX10_towards_52 : decode cX10_towards 52 = .ok (.imul, 1) := by decide +kernel
theorem dX10_towards_53 : decode cX10_towards 53 = .ok (.iload_n 2, 1) := by decide +kernel
theorem dX10_towards_54 : decode cX10_towards 54 = .ok (.if_icmp .ge 14, 3) := by decide +kernel
theorem dX10_towards_57 : decode cX10_towards 57 = .ok (.iload_n 0, 1) := by decide +kernel
theorem dX10_towards_58 : decode cX10_towards 58 = .ok (.ifCond .le 7, 3) := by decide +kernel
theorem dX10_towards_61 : decode cX10_towards 61 = .ok (.iconst 2, 1) := by decide +kernel
theorem dX10_towards_62 : decode cX10_towards 62 = .ok (.goto 5, 3) := by decide +kernel
theorem dX10_towards_65 : decode cX10_towards 65 = .ok (.bipush 6, 2) := by decide +kernel
theorem dX10_towards_67 : decode cX10_towards 67 = .ok (.ireturn, 1) := by decide +kernel
theorem dX10_towards_68 : decode cX10_towards 68 = .ok (.iload_n 0, 1) := by decide +kernel
theorem dX10_towards_69 : decode cX10_towards 69 = .ok (.ifCond .le 15, 3) := by decide +kernel
theorem dX10_towards_72 : decode cX10_towards 72 = .ok (.iload_n 1, 1) := by decide +kernel
theorem dX10_towards_73 : decode cX10_towards 73 = .ok (.ifCond .le 7, 3) := by decide +kernel
theorem dX10_towards_76 : decode cX10_towards 76 = .ok (.iconst 1, 1) := by decide +kernel
theorem dX10_towards_77 : decode cX10_towards 77 = .ok (.goto 17, 3) := by decide +kernel
theorem dX10_towards_80 : decode cX10_towards 80 = .ok (.iconst 3, 1) := by decide +kernel
theorem dX10_towards_81 : decode cX10_towards 81 = .ok (.goto 13, 3) := by decide +kernel
theorem dX10_towards_84 : decode cX10_towards 84 = .ok (.iload_n 1, 1) := by decide +kernel
theorem dX10_towards_85 : decode cX10_towards 85 = .ok (.ifCond .le 8, 3) := by decide +kernel
theorem dX10_towards_88 : decode cX10_towards 88 = .ok (.bipush 7, 2) := by decide +kernel
theorem dX10_towards_90 : decode cX10_towards 90 = .ok (.goto 4, 3) := by decide +kernel
theorem dX10_towards_93 : decode cX10_towards 93 = .ok (.iconst 5, 1) := by decide +kernel
theorem dX10_towards_94 : decode cX10_towards 94 = .ok (.ireturn, 1) := by decide +kernel
set_option maxRecDepth 20000 in
theorem ggX10_fits_X10_apart : GoodIn wsX10_fits wsX10_apart := goodIn_r _ [9] (by decide +kernel) (by decide +kernel)
set_option maxRecDepth 20000 in
theorem gX10_fits_X10_apart : GoodIn wsX10_fits (va_wsS RX10 105 yX10_apart wsX10_apart) := goodIn_app (goodIn_of _ (by decide +kernel)) ggX10_fits_X10_apart
set_option maxRecDepth 20000 in
theorem ggX10_fits_X10_towards : GoodIn wsX10_fits wsX10_towards := goodIn_r _ [12] (by decide +kernel) (by decide +kernel)
set_option maxRecDepth 20000 in
theorem gX10_fits_X10_towards : GoodIn wsX10_fits (va_wsS RX10 265 yX10_towards wsX10_towards) := goodIn_app (goodIn_of _ (by decide +kernel)) ggX10_fits_X10_towards
theorem dX10_fits_0 : decode cX10_fits 0 = .ok (.iload_n 2, 1) := by decide +kernel
theorem dX10_fits_1 : decode cX10_fits 1 = .ok (.aload_n 0, 1) := by decide +kernel
theorem dX10_fits_2 : decode cX10_fits 2 = .ok (.getfield 52, 3) := by decide +kernel
theorem dX10_fits_5 : decode cX10_fits 5 = .ok (.iload_n 1, 1) := by decide +kernel
theorem dX10_fits_6 : decode cX10_fits 6 = .ok (.iaload, 1) := by decide +kernel
theorem dX10_fits_7 : decode cX10_fits 7 = .ok (.isub, 1) := by decide +kernel
theorem dX10_fits_8 : decode cX10_fits 8 = .ok (.istore 5, 2) := by decide +kernel
theorem dX10_fits_10 : decode cX10_fits 10 = .ok (.iload_n 3, 1) := by decide +kernel
theorem dX10_fits_11 : decode cX10_fits 11 = .ok (.aload_n 0, 1) := by decide +kernel
theorem dX10_fits_12 : decode cX10_fits 12 = .ok (.getfield 55, 3) := by decide +kernel
theorem dX10_fits_15 : decode cX10_fits 15 = .ok (.iload_n 1, 1) := by decide +kernel
theorem dX10_fits_16 : decode cX10_fits 16 = .ok (.iaload, 1) := by decide +kernel
theorem dX10_fits_17 : decode cX10_fits 17 = .ok (.isub, 1) := by decide +kernel
theorem dX10_fits_18 : decode cX10_fits 18 = .ok (.istore 6, 2) := by decide +kernel
theorem dX10_fits_20 : decode cX10_fits 20 = .ok (.iload_n 2, 1) := by decide +kernel
theorem dX10_fits_21 : decode cX10_fits 21 = .ok (.aload_n 0, 1) := by decide +kernel
theorem dX10_fits_22 : decode cX10_fits 22 = .ok (.getfield 52, 3) := by decide +kernel
theorem dX10_fits_25 : decode cX10_fits 25 = .ok (.iload_n 1, 1) := by decide +kernel
theorem dX10_fits_26 : decode cX10_fits 26 = .ok (.iaload, 1) := by decide +kernel
theorem dX10_fits_27 : decode cX10_fits 27 = .ok (.invokestatic 105, 3) := by decide +kernel
theorem dX10_fits_30 : decode cX10_fits 30 = .ok (.istore 7, 2) := by decide +kernel
theorem dX10_fits_32 : decode cX10_fits 32 = .ok (.iload_n 3, 1) := by decide +kernel
theorem dX10_fits_33 : decode cX10_fits 33 = .ok (.aload_n 0, 1) := by decide +kernel
theorem dX10_fits_34 : decode cX10_fits 34 = .ok (.getfield 55, 3) := by decide +kernel
theorem dX10_fits_37 : decode cX10_fits 37 = .ok (.iload_n 1, 1) := by decide +kernel
theorem dX10_fits_38 : decode cX10_fits 38 = .ok (.iaload, 1) := by decide +kernel
theorem dX10_fits_39 : decode cX10_fits 39 = .ok (.invokestatic 105, 3) := by decide +kernel
theorem dX10_fits_42 : decode cX10_fits 42 = .ok (.iload 7, 2) := by decide +kernel
theorem dX10_fits_44 : decode cX10_fits 44 = .ok (.if_icmp .le 16, 3) := by decide +kernel
theorem dX10_fits_47 : decode cX10_fits 47 = .ok (.iload_n 3, 1) := by decide +kernel
theorem dX10_fits_48 : decode cX10_fits 48 = .ok (.aload_n 0, 1) := by decide +kernel
theorem dX10_fits_49 : decode cX10_fits 49 = .ok (.getfield 55, 3) := by decide +kernel
theorem dX10_fits_52 : decode cX10_fits 52 = .ok (.iload_n 1, 1) := by decide +kernel
theorem dX10_fits_53 : decode cX10_fits 53 = .ok (.iaload, 1) := by decide +kernel
theorem dX10_fits_54 : decode cX10_fits 54 = .ok (.invokestatic 105, 3) := by decide +kernel
theorem dX10_fits_57 : decode cX10_fits 57 = .ok (.goto 5, 3) := by decide +kernel
theorem dX10_fits_60 : decode cX10_fits 60 = .ok (.iload 7, 2) := by decide +kernel
theorem dX10_fits_62 : decode cX10_fits 62 = .ok (.istore 7, 2) := by decide +kernel
theorem dX10_fits_64 : decode cX10_fits 64 = .ok (.bipush 10, 2) := by decide +kernel
theorem dX10_fits_66 : decode cX10_fits 66 = .ok (.iload 4, 2) := by decide +kernel
theorem dX10_fits_68 : decode cX10_fits 68 = .ok (.imul, 1) := by decide +kernel
theorem dX10_fits_69 : decode cX10_fits 69 = .ok (.bipush 8, 2) := by decide +kernel
theorem dX10_fits_71 : decode cX10_fits 71 = .ok (.iload 7, 2) := by decide +kernel
theorem dX10_fits_73 : decode cX10_fits 73 = .ok (.imul, 1) := by decide +kernel
theorem dX10_fits_74 : decode cX10_fits 74 = .ok (.isub, 1) := by decide +kernel
theorem dX10_fits_75 : decode cX10_fits 75 = .ok (.istore 8, 2) := by decide +kernel
theorem dX10_fits_77 : decode cX10_fits 77 = .ok (.bipush 90, 2) := by decide +kernel
theorem dX10_fits_79 : decode cX10_fits 79 = .ok (.iload 8, 2) := by decide +kernel
theorem dX10_fits_81 : decode cX10_fits 81 = .ok (.ifCond .ge 7, 3) := by decide +kernel
theorem dX10_fits_84 : decode cX10_fits 84 = .ok (.iconst 0, 1) := by decide +kernel
theorem dX10_fits_85 : decode cX10_fits 85 = .ok (.goto 5, 3) := by decide +kernel
theorem dX10_fits_88 : decode cX10_fits 88 = .ok (.iload 8, 2) := by decide +kernel
theorem dX10_fits_90 : decode cX10_fits 90 = .ok (.isub, 1) := by decide +kernel
theorem dX10_fits_91 : decode cX10_fits 91 = .ok (.istore 9, 2) := by decide +kernel
theorem dX10_fits_93 : decode cX10_fits 93 = .ok (.iload 9, 2) := by decide +kernel
theorem dX10_fits_95 : decode cX10_fits 95 = .ok (.aload_n 0, 1) := by decide +kernel
theorem dX10_fits_96 : decode cX10_fits 96 = .ok (.getfield 58, 3) := by decide +kernel
theorem dX10_fits_99 : decode cX10_fits 99 = .ok (.iload_n 1, 1) := by decide +kernel
theorem dX10_fits_100 : decode cX10_fits 100 = .ok (.iaload, 1) := by decide +kernel
theorem dX10_fits_101 : decode cX10_fits 101 = .ok (.invokestatic 105, 3) := by decide +kernel
theorem dX10_fits_104 : decode cX10_fits 104 = .ok (.aload_n 0, 1) := by decide +kernel
theorem dX10_fits_105 : decode cX10_fits 105 = .ok (.getfield 96, 3) := by decide +kernel
theorem dX10_fits_108 : decode cX10_fits 108 = .ok (.if_icmp .gt 28, 3) := by decide +kernel
theorem dX10_fits_111 : decode cX10_fits 111 = .ok (.iload 5, 2) := by decide +kernel
theorem dX10_fits_113 : decode cX10_fits 113 = .ok (.iload 6, 2) := by decide +kernel
theorem dX10_fits_115 : decode cX10_fits 115 = .ok (.invokestatic 265, 3) := by decide +kernel
theorem dX10_fits_118 : decode cX10_fits 118 = .ok (.aload_n 0, 1) := by decide +kernel
theorem dX10_fits_119 : decode cX10_fits 119 = .ok (.getfield 61, 3) := by decide +kernel
theorem dX10_fits_122 : decode cX10_fits 122 = .ok (.iload_n 1, 1) := by decide +kernel
theorem dX10_fits_123 : decode cX10_fits 123 = .ok (.iaload, 1) := by decide +kernel
theorem dX10_fits_124 : decode cX10_fits 124 = .ok (.iconst 2, 1) := by decide +kernel
theorem dX10_fits_125 : decode cX10_fits 125 = .ok (.iadd, 1) := by decide +kernel
theorem dX10_fits_126 : decode cX10_fits 126 = .ok (.bipush 8, 2) := by decide +kernel
theorem dX10_fits_128 : decode cX10_fits 128 = .ok (.irem, 1) := by decide +kernel
theorem dX10_fits_129 : decode cX10_fits 129 = .ok (.if_icmp .ne 7, 3) := by decide +kernel
theorem dX10_fits_132 : decode cX10_fits 132 = .ok (.iconst 1, 1) := by decide +kernel
theorem dX10_fits_133 : decode cX10_fits 133 = .ok (.goto 4, 3) := by decide +kernel
theorem dX10_fits_136 : decode cX10_fits 136 = .ok (.iconst 0, 1) := by decide +kernel
theorem dX10_fits_137 : decode cX10_fits 137 = .ok (.ireturn, 1) := by decide +kernel
set_option maxRecDepth 20000 in
theorem ggX10_waysAt_X10_fits : GoodIn wsX10_waysAt wsX10_fits := goodIn_r _ [6, 7, 8, 9, 10, 11, 12, 13, 5, 14, 15, 16, 17, 18, 19, 20, 21, 22, 23, 24, 25, 26, 27, 28, 29, 30, 31, 32, 33, 34, 35, 36, 37, 38, 39, 40, 41, 42, 43, 44, 45, 46, 47, 48, 49, 50, 51, 52, 53, 54, 55, 56, 57] (by decide +kernel) (by decide +kernel)
set_option maxRecDepth 20000 in
theorem gX10_waysAt_X10_fits : GoodIn wsX10_waysAt (wsV RX10 268 RX10 yX10_fits wsX10_fits) := goodIn_app (goodIn_of _ (by decide +kernel)) ggX10_waysAt_X10_fits
theorem dX10_waysAt_0 : decode cX10_waysAt 0 = .ok (.iconst 0, 1) := by decide +kernel
theorem dX10_waysAt_1 : decode cX10_waysAt 1 = .ok (.istore_n 3, 1) := by decide +kernel
theorem dX10_waysAt_2 : decode cX10_waysAt 2 = .ok (.iconst 1, 1) := by decide +kernel
theorem dX10_waysAt_3 : decode cX10_waysAt 3 = .ok (.istore 4, 2) := by decide +kernel
theorem dX10_waysAt_5 : decode cX10_waysAt 5 = .ok (.iload 4, 2) := by decide +kernel
theorem dX10_waysAt_7 : decode cX10_waysAt 7 = .ok (.bipush 9, 2) := by decide +kernel
theorem dX10_waysAt_9 : decode cX10_waysAt 9 = .ok (.if_icmp .gt 60, 3) := by decide +kernel
theorem dX10_waysAt_12 : decode cX10_waysAt 12 = .ok (.iconst 1, 1) := by decide +kernel
theorem dX10_waysAt_13 : decode cX10_waysAt 13 = .ok (.istore 5, 2) := by decide +kernel
theorem dX10_waysAt_15 : decode cX10_waysAt 15 = .ok (.iconst 0, 1) := by decide +kernel
theorem dX10_waysAt_16 : decode cX10_waysAt 16 = .ok (.istore 6, 2) := by decide +kernel
theorem dX10_waysAt_18 : decode cX10_waysAt 18 = .ok (.iload 6, 2) := by decide +kernel
theorem dX10_waysAt_20 : decode cX10_waysAt 20 = .ok (.aload_n 0, 1) := by decide +kernel
theorem dX10_waysAt_21 : decode cX10_waysAt 21 = .ok (.getfield 262, 3) := by decide +kernel
theorem dX10_waysAt_24 : decode cX10_waysAt 24 = .ok (.if_icmp .ge 26, 3) := by decide +kernel
theorem dX10_waysAt_27 : decode cX10_waysAt 27 = .ok (.iload 5, 2) := by decide +kernel
theorem dX10_waysAt_29 : decode cX10_waysAt 29 = .ok (.ifCond .eq 21, 3) := by decide +kernel
theorem dX10_waysAt_32 : decode cX10_waysAt 32 = .ok (.aload_n 0, 1) := by decide +kernel
theorem dX10_waysAt_33 : decode cX10_waysAt 33 = .ok (.iload 6, 2) := by decide +kernel
theorem dX10_waysAt_35 : decode cX10_waysAt 35 = .ok (.iload_n 1, 1) := by decide +kernel
theorem dX10_waysAt_36 : decode cX10_waysAt 36 = .ok (.iload_n 2, 1) := by decide +kernel
theorem dX10_waysAt_37 : decode cX10_waysAt 37 = .ok (.iload 4, 2) := by decide +kernel
theorem dX10_waysAt_39 : decode cX10_waysAt 39 = .ok (.invokevirtual 268, 3) := by decide +kernel
theorem dX10_waysAt_42 : decode cX10_waysAt 42 = .ok (.istore 5, 2) := by decide +kernel
theorem dX10_waysAt_44 : decode cX10_waysAt 44 = .ok (.iinc 6 1, 3) := by decide +kernel
theorem dX10_waysAt_47 : decode cX10_waysAt 47 = .ok (.goto (-29), 3) := by decide +kernel
theorem dX10_waysAt_50 : decode cX10_waysAt 50 = .ok (.iload_n 3, 1) := by decide +kernel
theorem dX10_waysAt_51 : decode cX10_waysAt 51 = .ok (.iload 5, 2) := by decide +kernel
theorem dX10_waysAt_53 : decode cX10_waysAt 53 = .ok (.ifCond .eq 7, 3) := by decide +kernel
theorem dX10_waysAt_56 : decode cX10_waysAt 56 = .ok (.iconst 1, 1) := by decide +kernel
theorem dX10_waysAt_57 : decode cX10_waysAt 57 = .ok (.goto 4, 3) := by decide +kernel
theorem dX10_waysAt_60 : decode cX10_waysAt 60 = .ok (.iconst 0, 1) := by decide +kernel
theorem dX10_waysAt_61 : decode cX10_waysAt 61 = .ok (.iadd, 1) := by decide +kernel
theorem dX10_waysAt_62 : decode cX10_waysAt 62 = .ok (.istore_n 3, 1) := by decide +kernel
theorem dX10_waysAt_63 : decode cX10_waysAt 63 = .ok (.iinc 4 1, 3) := by decide +kernel
theorem dX10_waysAt_66 : decode cX10_waysAt 66 = .ok (.goto (-61), 3) := by decide +kernel
theorem dX10_waysAt_69 : decode cX10_waysAt 69 = .ok (.iload_n 3, 1) := by decide +kernel
theorem dX10_waysAt_70 : decode cX10_waysAt 70 = .ok (.ireturn, 1) := by decide +kernel
set_option maxRecDepth 20000 in
theorem ggX10_allWays_X10_waysAt : GoodIn wsX10_allWays wsX10_waysAt := goodIn_r _ [5, 6, 7, 8, 9, 4, 10, 11, 12, 13, 14, 15, 16, 17, 18, 19, 20, 21, 22, 23, 24, 25, 26, 27, 28, 29, 30, 31, 32, 33, 34, 35, 36, 37, 38, 39, 40, 41, 42, 43, 44, 45, 46, 47, 48, 49, 50, 51, 52, 53, 54, 55, 56, 57, 58, 59, 60, 61] (by decide +kernel) (by decide +kernel)
set_option maxRecDepth 20000 in
theorem gX10_allWays_X10_waysAt : GoodIn wsX10_allWays (wsV RX10 272 RX10 yX10_waysAt wsX10_waysAt) := goodIn_app (goodIn_of _ (by decide +kernel)) ggX10_allWays_X10_waysAt
theorem dX10_allWays_0 : decode cX10_allWays 0 = .ok (.iconst 0, 1) := by decide +kernel
theorem dX10_allWays_1 : decode cX10_allWays 1 = .ok (.istore_n 1, 1) := by decide +kernel
theorem dX10_allWays_2 : decode cX10_allWays 2 = .ok (.iconst 0, 1) := by decide +kernel
theorem dX10_allWays_3 : decode cX10_allWays 3 = .ok (.istore_n 2, 1) := by decide +kernel
theorem dX10_allWays_4 : decode cX10_allWays 4 = .ok (.iload_n 2, 1) := by decide +kernel
theorem dX10_allWays_5 : decode cX10_allWays 5 = .ok (.bipush 9, 2) := by decide +kernel
theorem dX10_allWays_7 : decode cX10_allWays 7 = .ok (.if_icmp .ge 32, 3) := by decide +kernel
theorem dX10_allWays_10 : decode cX10_allWays 10 = .ok (.iconst 0, 1) := by decide +kernel
theorem dX10_allWays_11 : decode cX10_allWays 11 = .ok (.istore_n 3, 1) := by decide +kernel
theorem dX10_allWays_12 : decode cX10_allWays 12 = .ok (.iload_n 3, 1) := by decide +kernel
theorem dX10_allWays_13 : decode cX10_allWays 13 = .ok (.bipush 9, 2) := by decide +kernel
theorem dX10_allWays_15 : decode cX10_allWays 15 = .ok (.if_icmp .ge 18, 3) := by decide +kernel
theorem dX10_allWays_18 : decode cX10_allWays 18 = .ok (.iload_n 1, 1) := by decide +kernel
theorem dX10_allWays_19 : decode cX10_allWays 19 = .ok (.aload_n 0, 1) := by decide +kernel
theorem dX10_allWays_20 : decode cX10_allWays 20 = .ok (.iload_n 2, 1) := by decide +kernel
theorem dX10_allWays_21 : decode cX10_allWays 21 = .ok (.iload_n 3, 1) := by decide +kernel
theorem dX10_allWays_22 : decode cX10_allWays 22 = .ok (.invokevirtual 272, 3) := by decide +kernel
theorem dX10_allWays_25 : decode cX10_allWays 25 = .ok (.iadd, 1) := by decide +kernel
theorem dX10_allWays_26 : decode cX10_allWays 26 = .ok (.istore_n 1, 1) := by decide +kernel
theorem dX10_allWays_27 : decode cX10_allWays 27 = .ok (.iinc 3 1, 3) := by decide +kernel
theorem dX10_allWays_30 : decode cX10_allWays 30 = .ok (.goto (-18), 3) := by decide +kernel
theorem dX10_allWays_33 : decode cX10_allWays 33 = .ok (.iinc 2 1, 3) := by decide +kernel
theorem dX10_allWays_36 : decode cX10_allWays 36 = .ok (.goto (-32), 3) := by decide +kernel
theorem dX10_allWays_39 : decode cX10_allWays 39 = .ok (.iload_n 1, 1) := by decide +kernel
theorem dX10_allWays_40 : decode cX10_allWays 40 = .ok (.ireturn, 1) := by decide +kernel
set_option maxRecDepth 20000 in
theorem ggX10_may_X10_allWays : GoodIn wsX10_may wsX10_allWays := goodIn_r _ [6, 7, 8, 9, 5, 10, 11, 12, 13, 14, 15, 16, 17, 18, 19, 20, 21, 22, 23, 24, 25, 26, 30, 31, 32, 33, 34, 35, 36, 37, 38, 39, 40, 41, 42, 43, 44, 45, 46, 47, 48, 49, 50, 51, 52, 53, 54, 55, 56, 57, 58, 59, 60, 61, 62, 63, 64, 65, 66, 67, 68, 69] (by decide +kernel) (by decide +kernel)
set_option maxRecDepth 20000 in
theorem gX10_may_X10_allWays : GoodIn wsX10_may (wsV RX10 275 RX10 yX10_allWays wsX10_allWays) := goodIn_app (goodIn_of _ (by decide +kernel)) ggX10_may_X10_allWays
set_option maxRecDepth 20000 in
theorem ggX10_may_X10_in : GoodIn wsX10_may wsX10_in := goodIn_r _ [29] (by decide +kernel) (by decide +kernel)
set_option maxRecDepth 20000 in
theorem gX10_may_X10_in : GoodIn wsX10_may (va_wsS RX10 99 yX10_in wsX10_in) := goodIn_app (goodIn_of _ (by decide +kernel)) ggX10_may_X10_in
set_option maxRecDepth 20000 in
theorem ggX10_may_X10_waysAt : GoodIn wsX10_may wsX10_waysAt := goodIn_r _ [10, 11, 12, 13, 14, 5, 15, 16, 17, 18, 19, 20, 21, 22, 23, 24, 25, 26, 30, 31, 32, 33, 34, 35, 36, 37, 38, 39, 40, 41, 42, 43, 44, 45, 46, 47, 48, 49, 50, 51, 52, 53, 54, 55, 56, 57, 58, 59, 60, 61, 62, 63, 64, 65, 66, 67, 68, 69] (by decide +kernel) (by decide +kernel)
set_option maxRecDepth 20000 in
theorem gX10_may_X10_waysAt : GoodIn wsX10_may (wsV RX10 272 RX10 yX10_waysAt wsX10_waysAt) := goodIn_app (goodIn_of _ (by decide +kernel)) ggX10_may_X10_waysAt
theorem dX10_may_0 : decode cX10_may 0 = .ok (.iload_n 1, 1) := by decide +kernel
theorem dX10_may_1 : decode cX10_may 1 = .ok (.iconst (-1), 1) := by decide +kernel
theorem dX10_may_2 : decode cX10_may 2 = .ok (.if_icmp .ne 8, 3) := by decide +kernel
theorem dX10_may_5 : decode cX10_may 5 = .ok (.aload_n 0, 1) := by decide +kernel
theorem dX10_may_6 : decode cX10_may 6 = .ok (.invokevirtual 275, 3) := by decide +kernel
theorem dX10_may_9 : decode cX10_may 9 = .ok (.ireturn, 1) := by decide +kernel
theorem dX10_may_10 : decode cX10_may 10 = .ok (.iload_n 1, 1) := by decide +kernel
theorem dX10_may_11 : decode cX10_may 11 = .ok (.i2l, 1) := by decide +kernel
theorem dX10_may_12 : decode cX10_may 12 = .ok (.lconst 0, 1) := by decide +kernel
theorem dX10_may_13 : decode cX10_may 13 = .ok (.ldc2_w 132, 3) := by decide +kernel
theorem dX10_may_16 : decode cX10_may 16 = .ok (.invokestatic 99, 3) := by decide +kernel
theorem dX10_may_19 : decode cX10_may 19 = .ok (.ifCond .eq 24, 3) := by decide +kernel
theorem dX10_may_22 : decode cX10_may 22 = .ok (.iload_n 2, 1) := by decide +kernel
theorem dX10_may_23 : decode cX10_may 23 = .ok (.i2l, 1) := by decide +kernel
theorem dX10_may_24 : decode cX10_may 24 = .ok (.lconst 0, 1) := by decide +kernel
theorem dX10_may_25 : decode cX10_may 25 = .ok (.ldc2_w 132, 3) := by decide +kernel
theorem dX10_may_28 : decode cX10_may 28 = .ok (.invokestatic 99, 3) := by decide +kernel
theorem dX10_may_31 : decode cX10_may 31 = .ok (.ifCond .eq 12, 3) := by decide +kernel
theorem dX10_may_34 : decode cX10_may 34 = .ok (.aload_n 0, 1) := by decide +kernel
theorem dX10_may_35 : decode cX10_may 35 = .ok (.iload_n 1, 1) := by decide +kernel
theorem dX10_may_36 : decode cX10_may 36 = .ok (.iload_n 2, 1) := by decide +kernel
theorem dX10_may_37 : decode cX10_may 37 = .ok (.invokevirtual 272, 3) := by decide +kernel
theorem dX10_may_40 : decode cX10_may 40 = .ok (.goto 5, 3) := by decide +kernel
theorem dX10_may_43 : decode cX10_may 43 = .ok (.bipush (-2), 2) := by decide +kernel
theorem dX10_may_45 : decode cX10_may 45 = .ok (.ireturn, 1) := by decide +kernel
set_option maxRecDepth 20000 in
theorem ggX10_low_X10_in : GoodIn wsX10_low wsX10_in := goodIn_r _ [7] (by decide +kernel) (by decide +kernel)
set_option maxRecDepth 20000 in
theorem gX10_low_X10_in : GoodIn wsX10_low (va_wsS RX10 99 yX10_in wsX10_in) := goodIn_app (goodIn_of _ (by decide +kernel)) ggX10_low_X10_in
set_option maxRecDepth 20000 in
theorem ggX10_low_X10_isEnd : GoodIn wsX10_low wsX10_isEnd := goodIn_r _ [10, 4, 5, 6, 7] (by decide +kernel) (by decide +kernel)
set_option maxRecDepth 20000 in
theorem gX10_low_X10_isEnd : GoodIn wsX10_low (va_wsS RX10 122 yX10_isEnd wsX10_isEnd) := goodIn_app (goodIn_of _ (by decide +kernel)) ggX10_low_X10_isEnd
set_option maxRecDepth 20000 in
theorem ggX10_low_X10_allWays : GoodIn wsX10_low wsX10_allWays := goodIn_r _ [14, 15, 16, 17, 6, 18, 19, 20, 21, 22, 23, 24, 25, 26, 27, 28, 29, 30, 31, 32, 33, 34, 38, 39, 40, 41, 42, 43, 44, 45, 46, 47, 48, 49, 50, 51, 52, 53, 54, 55, 56, 57, 58, 59, 60, 61, 62, 63, 64, 65, 66, 67, 68, 69, 70, 71, 72, 73, 74, 75, 76, 77] (by decide +kernel) (by decide +kernel)
set_option maxRecDepth 20000 in
theorem gX10_low_X10_allWays : GoodIn wsX10_low (wsV RX10 275 RX10 yX10_allWays wsX10_allWays) := goodIn_app (goodIn_of _ (by decide +kernel)) ggX10_low_X10_allWays
set_option maxRecDepth 20000 in
theorem ggX10_low_X10_waysAt : GoodIn wsX10_low wsX10_waysAt := goodIn_r _ [18, 19, 20, 21, 22, 6, 23, 24, 25, 26, 27, 28, 29, 30, 31, 32, 33, 34, 38, 39, 40, 41, 42, 43, 44, 45, 46, 47, 48, 49, 50, 51, 52, 53, 54, 55, 56, 57, 58, 59, 60, 61, 62, 63, 64, 65, 66, 67, 68, 69, 70, 71, 72, 73, 74, 75, 76, 77] (by decide +kernel) (by decide +kernel)
set_option maxRecDepth 20000 in
theorem gX10_low_X10_waysAt : GoodIn wsX10_low (wsV RX10 272 RX10 yX10_waysAt wsX10_waysAt) := goodIn_app (goodIn_of _ (by decide +kernel)) ggX10_low_X10_waysAt
set_option maxRecDepth 20000 in
theorem ggX10_low_X10_lowest : GoodIn wsX10_low wsX10_lowest := goodIn_r _ [37] (by decide +kernel) (by decide +kernel)
set_option maxRecDepth 20000 in
theorem gX10_low_X10_lowest : GoodIn wsX10_low (va_wsS RX10 221 yX10_lowest wsX10_lowest) := goodIn_app (goodIn_of _ (by decide +kernel)) ggX10_low_X10_lowest
theorem dX10_low_0 : decode cX10_low 0 = .ok (.iload_n 1, 1) := by decide +kernel
theorem dX10_low_1 : decode cX10_low 1 = .ok (.i2l, 1) := by decide +kernel
theorem dX10_low_2 : decode cX10_low 2 = .ok (.lconst 0, 1) := by decide +kernel
theorem dX10_low_3 : decode cX10_low 3 = .ok (.ldc2_w 132, 3) := by decide +kernel
theorem dX10_low_6 : decode cX10_low 6 = .ok (.invokestatic 99, 3) := by decide +kernel
theorem dX10_low_9 : decode cX10_low 9 = .ok (.ifCond .eq 22, 3) := by decide +kernel
theorem dX10_low_12 : decode cX10_low 12 = .ok (.iload_n 2, 1) := by decide +kernel
theorem dX10_low_13 : decode cX10_low 13 = .ok (.i2l, 1) := by decide +kernel
theorem dX10_low_14 : decode cX10_low 14 = .ok (.lconst 0, 1) := by decide +kernel
theorem dX10_low_15 : decode cX10_low 15 = .ok (.ldc2_w 132, 3) := by decide +kernel
theorem dX10_low_18 : decode cX10_low 18 = .ok (.invokestatic 99, 3) := by decide +kernel
theorem dX10_low_21 : decode cX10_low 21 = .ok (.ifCond .eq 10, 3) := by decide +kernel
theorem dX10_low_24 : decode cX10_low 24 = .ok (.iload_n 3, 1) := by decide +kernel
theorem dX10_low_25 : decode cX10_low 25 = .ok (.invokestatic 122, 3) := by decide +kernel
theorem dX10_low_28 : decode cX10_low 28 = .ok (.ifCond .ne 7, 3) := by decide +kernel
theorem dX10_low_31 : decode cX10_low 31 = .ok (.ldc2_w 213, 3) := by decide +kernel
theorem dX10_low_34 : decode cX10_low 34 = .ok (.lreturn, 1) := by decide +kernel
theorem dX10_low_35 : decode cX10_low 35 = .ok (.aload_n 0, 1) := by decide +kernel
theorem dX10_low_36 : decode cX10_low 36 = .ok (.invokevirtual 275, 3) := by decide +kernel
theorem dX10_low_39 : decode cX10_low 39 = .ok (.istore 4, 2) := by decide +kernel
theorem dX10_low_41 : decode cX10_low 41 = .ok (.iload 4, 2) := by decide +kernel
theorem dX10_low_43 : decode cX10_low 43 = .ok (.ifCond .ne 9, 3) := by decide +kernel
theorem dX10_low_46 : decode cX10_low 46 = .ok (.ldc2_w 219, 3) := by decide +kernel
theorem dX10_low_49 : decode cX10_low 49 = .ok (.goto 17, 3) := by decide +kernel
theorem dX10_low_52 : decode cX10_low 52 = .ok (.aload_n 0, 1) := by decide +kernel
theorem dX10_low_53 : decode cX10_low 53 = .ok (.iload_n 1, 1) := by decide +kernel
theorem dX10_low_54 : decode cX10_low 54 = .ok (.iload_n 2, 1) := by decide +kernel
theorem dX10_low_55 : decode cX10_low 55 = .ok (.invokevirtual 272, 3) := by decide +kernel
theorem dX10_low_58 : decode cX10_low 58 = .ok (.i2l, 1) := by decide +kernel
theorem dX10_low_59 : decode cX10_low 59 = .ok (.iload 4, 2) := by decide +kernel
theorem dX10_low_61 : decode cX10_low 61 = .ok (.i2l, 1) := by decide +kernel
theorem dX10_low_62 : decode cX10_low 62 = .ok (.iload_n 3, 1) := by decide +kernel
theorem dX10_low_63 : decode cX10_low 63 = .ok (.invokestatic 221, 3) := by decide +kernel
theorem dX10_low_66 : decode cX10_low 66 = .ok (.lreturn, 1) := by decide +kernel
set_option maxRecDepth 20000 in
theorem ggX10_isHay_X10_in : GoodIn wsX10_isHay wsX10_in := goodIn_r _ [8] (by decide +kernel) (by decide +kernel)
set_option maxRecDepth 20000 in
theorem gX10_isHay_X10_in : GoodIn wsX10_isHay (va_wsS RX10 99 yX10_in wsX10_in) := goodIn_app (goodIn_of _ (by decide +kernel)) ggX10_isHay_X10_in
theorem dX10_isHay_0 : decode cX10_isHay 0 = .ok (.iload_n 1, 1) := by decide +kernel
theorem dX10_isHay_1 : decode cX10_isHay 1 = .ok (.i2l, 1) := by decide +kernel
theorem dX10_isHay_2 : decode cX10_isHay 2 = .ok (.lconst 1, 1) := by decide +kernel
theorem dX10_isHay_3 : decode cX10_isHay 3 = .ok (.ldc2_w 109, 3) := by decide +kernel
theorem dX10_isHay_6 : decode cX10_isHay 6 = .ok (.invokestatic 99, 3) := by decide +kernel
theorem dX10_isHay_9 : decode cX10_isHay 9 = .ok (.ifCond .eq 65, 3) := by decide +kernel
theorem dX10_isHay_12 : decode cX10_isHay 12 = .ok (.iload_n 2, 1) := by decide +kernel
theorem dX10_isHay_13 : decode cX10_isHay 13 = .ok (.i2l, 1) := by decide +kernel
theorem dX10_isHay_14 : decode cX10_isHay 14 = .ok (.lconst 0, 1) := by decide +kernel
theorem dX10_isHay_15 : decode cX10_isHay 15 = .ok (.iload_n 1, 1) := by decide +kernel
theorem dX10_isHay_16 : decode cX10_isHay 16 = .ok (.i2l, 1) := by decide +kernel
theorem dX10_isHay_17 : decode cX10_isHay 17 = .ok (.invokestatic 99, 3) := by decide +kernel
theorem dX10_isHay_20 : decode cX10_isHay 20 = .ok (.ifCond .eq 54, 3) := by decide +kernel
theorem dX10_isHay_23 : decode cX10_isHay 23 = .ok (.iload_n 3, 1) := by decide +kernel
theorem dX10_isHay_24 : decode cX10_isHay 24 = .ok (.i2l, 1) := by decide +kernel
theorem dX10_isHay_25 : decode cX10_isHay 25 = .ok (.lconst 1, 1) := by decide +kernel
theorem dX10_isHay_26 : decode cX10_isHay 26 = .ok (.ldc2_w 120, 3) := by decide +kernel
theorem dX10_isHay_29 : decode cX10_isHay 29 = .ok (.invokestatic 99, 3) := by decide +kernel
theorem dX10_isHay_32 : decode cX10_isHay 32 = .ok (.ifCond .eq 42, 3) := by decide +kernel
theorem dX10_isHay_35 : decode cX10_isHay 35 = .ok (.iload 4, 2) := by decide +kernel
theorem dX10_isHay_37 : decode cX10_isHay 37 = .ok (.i2l, 1) := by decide +kernel
theorem dX10_isHay_38 : decode cX10_isHay 38 = .ok (.lconst 0, 1) := by decide +kernel
theorem dX10_isHay_39 : decode cX10_isHay 39 = .ok (.ldc2_w 278, 3) := by decide +kernel
theorem dX10_isHay_42 : decode cX10_isHay 42 = .ok (.invokestatic 99, 3) := by decide +kernel
theorem dX10_isHay_45 : decode cX10_isHay 45 = .ok (.ifCond .eq 29, 3) := by decide +kernel
theorem dX10_isHay_48 : decode cX10_isHay 48 = .ok (.iload 5, 2) := by decide +kernel
theorem dX10_isHay_50 : decode cX10_isHay 50 = .ok (.i2l, 1) := by decide +kernel
theorem dX10_isHay_51 : decode cX10_isHay 51 = .ok (.lconst 0, 1) := by decide +kernel
theorem dX10_isHay_52 : decode cX10_isHay 52 = .ok (.ldc2_w 278, 3) := by decide +kernel
theorem dX10_isHay_55 : decode cX10_isHay 55 = .ok (.invokestatic 99, 3) := by decide +kernel
theorem dX10_isHay_58 : decode cX10_isHay 58 = .ok (.ifCond .eq 16, 3) := by decide +kernel
theorem dX10_isHay_61 : decode cX10_isHay 61 = .ok (.iload 6, 2) := by decide +kernel
theorem dX10_isHay_63 : decode cX10_isHay 63 = .ok (.i2l, 1) := by decide +kernel
theorem dX10_isHay_64 : decode cX10_isHay 64 = .ok (.lconst 0, 1) := by decide +kernel
theorem dX10_isHay_65 : decode cX10_isHay 65 = .ok (.ldc2_w 103, 3) := by decide +kernel
theorem dX10_isHay_68 : decode cX10_isHay 68 = .ok (.invokestatic 99, 3) := by decide +kernel
theorem dX10_isHay_71 : decode cX10_isHay 71 = .ok (.ifCond .ne 5, 3) := by decide +kernel
theorem dX10_isHay_74 : decode cX10_isHay 74 = .ok (.iconst 0, 1) := by decide +kernel
theorem dX10_isHay_75 : decode cX10_isHay 75 = .ok (.ireturn, 1) := by decide +kernel
theorem dX10_isHay_76 : decode cX10_isHay 76 = .ok (.iconst 1, 1) := by decide +kernel
theorem dX10_isHay_77 : decode cX10_isHay 77 = .ok (.istore 7, 2) := by decide +kernel
theorem dX10_isHay_79 : decode cX10_isHay 79 = .ok (.iconst 0, 1) := by decide +kernel
theorem dX10_isHay_80 : decode cX10_isHay 80 = .ok (.istore 8, 2) := by decide +kernel
theorem dX10_isHay_82 : decode cX10_isHay 82 = .ok (.iload 8, 2) := by decide +kernel
theorem dX10_isHay_84 : decode cX10_isHay 84 = .ok (.iload_n 1, 1) := by decide +kernel
theorem dX10_isHay_85 : decode cX10_isHay 85 = .ok (.if_icmp .ge 16, 3) := by decide +kernel
theorem dX10_isHay_88 : decode cX10_isHay 88 = .ok (.iload 7, 2) := by decide +kernel
theorem dX10_isHay_90 : decode cX10_isHay 90 = .ok (.bipush 10, 2) := by decide +kernel
theorem dX10_isHay_92 : decode cX10_isHay 92 = .ok (.imul, 1) := by decide +kernel
theorem dX10_isHay_93 : decode cX10_isHay 93 = .ok (.istore 7, 2) := by decide +kernel
theorem dX10_isHay_95 : decode cX10_isHay 95 = .ok (.iinc 8 1, 3) := by decide +kernel
theorem dX10_isHay_98 : decode cX10_isHay 98 = .ok (.goto (-16), 3) := by decide +kernel
theorem dX10_isHay_101 : decode cX10_isHay 101 = .ok (.iload_n 0, 1) := by decide +kernel
theorem dX10_isHay_102 : decode cX10_isHay 102 = .ok (.i2l, 1) := by decide +kernel
theorem dX10_isHay_103 : decode cX10_isHay 103 = .ok (.lconst 0, 1) := by decide +kernel
theorem dX10_isHay_104 : decode cX10_isHay 104 = .ok (.iload 7, 2) := by decide +kernel
theorem dX10_isHay_106 : decode cX10_isHay 106 = .ok (.iconst 1, 1) := by decide +kernel
theorem dX10_isHay_107 : decode cX10_isHay 107 = .ok (.isub, 1) := by decide +kernel
theorem dX10_isHay_108 : decode cX10_isHay 108 = .ok (.i2l, 1) := by decide +kernel
theorem dX10_isHay_109 : decode cX10_isHay 109 = .ok (.invokestatic 99, 3) := by decide +kernel
theorem dX10_isHay_112 : decode cX10_isHay 112 = .ok (.ireturn, 1) := by decide +kernel
theorem dX10_findHay_0 : decode cX10_findHay 0 = .ok (.iload_n 1, 1) := by decide +kernel
theorem dX10_findHay_1 : decode cX10_findHay 1 = .ok (.istore 7, 2) := by decide +kernel
theorem dX10_findHay_3 : decode cX10_findHay 3 = .ok (.iload_n 2, 1) := by decide +kernel
theorem dX10_findHay_4 : decode cX10_findHay 4 = .ok (.iconst 1, 1) := by decide +kernel
theorem dX10_findHay_5 : decode cX10_findHay 5 = .ok (.isub, 1) := by decide +kernel
theorem dX10_findHay_6 : decode cX10_findHay 6 = .ok (.istore 8, 2) := by decide +kernel
theorem dX10_findHay_8 : decode cX10_findHay 8 = .ok (.iload 8, 2) := by decide +kernel
theorem dX10_findHay_10 : decode cX10_findHay 10 = .ok (.ifCond .lt 35, 3) := by decide +kernel
theorem dX10_findHay_13 : decode cX10_findHay 13 = .ok (.aload_n 0, 1) := by decide +kernel
theorem dX10_findHay_14 : decode cX10_findHay 14 = .ok (.getfield 64, 3) := by decide +kernel
theorem dX10_findHay_17 : decode cX10_findHay 17 = .ok (.iload 8, 2) := by decide +kernel
theorem dX10_findHay_19 : decode cX10_findHay 19 = .ok (.sipush 1000, 3) := by decide +kernel
theorem dX10_findHay_22 : decode cX10_findHay 22 = .ok (.bipush 100, 2) := by decide +kernel
theorem dX10_findHay_24 : decode cX10_findHay 24 = .ok (.iload 7, 2) := by decide +kernel
theorem dX10_findHay_26 : decode cX10_findHay 26 = .ok (.bipush 10, 2) := by decide +kernel
theorem dX10_findHay_28 : decode cX10_findHay 28 = .ok (.irem, 1) := by decide +kernel
theorem dX10_findHay_29 : decode cX10_findHay 29 = .ok (.imul, 1) := by decide +kernel
theorem dX10_findHay_30 : decode cX10_findHay 30 = .ok (.isub, 1) := by decide +kernel
theorem dX10_findHay_31 : decode cX10_findHay 31 = .ok (.iastore, 1) := by decide +kernel
theorem dX10_findHay_32 : decode cX10_findHay 32 = .ok (.iload 7, 2) := by decide +kernel
theorem dX10_findHay_34 : decode cX10_findHay 34 = .ok (.bipush 10, 2) := by decide +kernel
theorem dX10_findHay_36 : decode cX10_findHay 36 = .ok (.idiv, 1) := by decide +kernel
theorem dX10_findHay_37 : decode cX10_findHay 37 = .ok (.istore 7, 2) := by decide +kernel
theorem dX10_findHay_39 : decode cX10_findHay 39 = .ok (.iinc 8 (-1), 3) := by decide +kernel
theorem dX10_findHay_42 : decode cX10_findHay 42 = .ok (.goto (-34), 3) := by decide +kernel
theorem dX10_findHay_45 : decode cX10_findHay 45 = .ok (.aload_n 0, 1) := by decide +kernel
theorem dX10_findHay_46 : decode cX10_findHay 46 = .ok (.getfield 67, 3) := by decide +kernel
theorem dX10_findHay_49 : decode cX10_findHay 49 = .ok (.iload_n 2, 1) := by decide +kernel
theorem dX10_findHay_50 : decode cX10_findHay 50 = .ok (.iconst 0, 1) := by decide +kernel
theorem dX10_findHay_51 : decode cX10_findHay 51 = .ok (.iastore, 1) := by decide +kernel
theorem dX10_findHay_52 : decode cX10_findHay 52 = .ok (.aload_n 0, 1) := by decide +kernel
theorem dX10_findHay_53 : decode cX10_findHay 53 = .ok (.getfield 70, 3) := by decide +kernel
theorem dX10_findHay_56 : decode cX10_findHay 56 = .ok (.iload_n 2, 1) := by decide +kernel
theorem dX10_findHay_57 : decode cX10_findHay 57 = .ok (.iconst 0, 1) := by decide +kernel
theorem dX10_findHay_58 : decode cX10_findHay 58 = .ok (.iastore, 1) := by decide +kernel
theorem dX10_findHay_59 : decode cX10_findHay 59 = .ok (.iload_n 2, 1) := by decide +kernel
theorem dX10_findHay_60 : decode cX10_findHay 60 = .ok (.iconst 1, 1) := by decide +kernel
theorem dX10_findHay_61 : decode cX10_findHay 61 = .ok (.isub, 1) := by decide +kernel
theorem dX10_findHay_62 : decode cX10_findHay 62 = .ok (.istore 8, 2) := by decide +kernel
theorem dX10_findHay_64 : decode cX10_findHay 64 = .ok (.iload 8, 2) := by decide +kernel
theorem dX10_findHay_66 : decode cX10_findHay 66 = .ok (.ifCond .lt 184, 3) := by decide +kernel
theorem dX10_findHay_69 : decode cX10_findHay 69 = .ok (.iconst 0, 1) := by decide +kernel
theorem dX10_findHay_70 : decode cX10_findHay 70 = .ok (.istore 9, 2) := by decide +kernel
theorem dX10_findHay_72 : decode cX10_findHay 72 = .ok (.iconst 0, 1) := by decide +kernel
theorem dX10_findHay_73 : decode cX10_findHay 73 = .ok (.istore 10, 2) := by decide +kernel
theorem dX10_findHay_75 : decode cX10_findHay 75 = .ok (.iload 8, 2) := by decide +kernel
theorem dX10_findHay_77 : decode cX10_findHay 77 = .ok (.iload_n 3, 1) := by decide +kernel
theorem dX10_findHay_78 : decode cX10_findHay 78 = .ok (.iadd, 1) := by decide +kernel
theorem dX10_findHay_79 : decode cX10_findHay 79 = .ok (.iload_n 2, 1) := by decide +kernel
theorem dX10_findHay_80 : decode cX10_findHay 80 = .ok (.if_icmp .gt 97, 3) := by decide +kernel
theorem dX10_findHay_83 : decode cX10_findHay 83 = .ok (.aload_n 0, 1) := by decide +kernel
theorem dX10_findHay_84 : decode cX10_findHay 84 = .ok (.getfield 64, 3) := by decide +kernel
theorem dX10_findHay_87 : decode cX10_findHay 87 = .ok (.iload 8, 2) := by decide +kernel
theorem dX10_findHay_89 : decode cX10_findHay 89 = .ok (.iaload, 1) := by decide +kernel
theorem dX10_findHay_90 : decode cX10_findHay 90 = .ok (.istore 11, 2) := by decide +kernel
theorem dX10_findHay_92 : decode cX10_findHay 92 = .ok (.iload 8, 2) := by decide +kernel
theorem dX10_findHay_94 : decode cX10_findHay 94 = .ok (.iconst 1, 1) := by decide +kernel
theorem dX10_findHay_95 : decode cX10_findHay 95 = .ok (.iadd, 1) := by decide +kernel
theorem dX10_findHay_96 : decode cX10_findHay 96 = .ok (.istore 12, 2) := by decide +kernel
theorem dX10_findHay_98 : decode cX10_findHay 98 = .ok (.iload 12, 2) := by decide +kernel
theorem dX10_findHay_100 : decode cX10_findHay 100 = .ok (.iload 8, 2) := by decide +kernel
theorem dX10_findHay_102 : decode cX10_findHay 102 = .ok (.iload_n 3, 1) := by decide +kernel
theorem dX10_findHay_103 : decode cX10_findHay 103 = .ok (.iadd, 1) := by decide +kernel
theorem dX10_findHay_104 : decode cX10_findHay 104 = .ok (.if_icmp .ge 25, 3) := by decide +kernel
theorem dX10_findHay_107 : decode cX10_findHay 107 = .ok (.iload 11, 2) := by decide +kernel
theorem dX10_findHay_109 : decode cX10_findHay 109 = .ok (.aload_n 0, 1) := by decide +kernel
theorem dX10_findHay_110 : decode cX10_findHay 110 = .ok (.getfield 64, 3) := by decide +kernel
theorem dX10_findHay_113 : decode cX10_findHay 113 = .ok (.iload 12, 2) := by decide +kernel
theorem dX10_findHay_115 : decode cX10_findHay 115 = .ok (.iaload, 1) := by decide +kernel
theorem dX10_findHay_116 : decode cX10_findHay 116 = .ok (.imul, 1) := by decide +kernel
theorem dX10_findHay_117 : decode cX10_findHay 117 = .ok (.sipush 1000, 3) := by decide +kernel
theorem dX10_findHay_120 : decode cX10_findHay 120 = .ok (.idiv, 1) := by decide +kernel
theorem dX10_findHay_121 : decode cX10_findHay 121 = .ok (.istore 11, 2) := by decide +kernel
theorem dX10_findHay_123 : decode cX10_findHay 123 = .ok (.iinc 12 1, 3) := by decide +kernel
theorem dX10_findHay_126 : decode cX10_findHay 126 = .ok (.goto (-28), 3) := by decide +kernel
theorem dX10_findHay_129 : decode cX10_findHay 129 = .ok (.iload 4, 2) := by decide +kernel
theorem dX10_findHay_131 : decode cX10_findHay 131 = .ok (.iload 5, 2) := by decide +kernel
theorem dX10_findHay_133 : decode cX10_findHay 133 = .ok (.iadd, 1) := by decide +kernel
theorem dX10_findHay_134 : decode cX10_findHay 134 = .ok (.iload 11, 2) := by decide +kernel
theorem dX10_findHay_136 : decode cX10_findHay 136 = .ok (.imul, 1) := by decide +kernel
theorem dX10_findHay_137 : decode cX10_findHay 137 = .ok (.sipush 1000, 3) := by decide +kernel
theorem dX10_findHay_140 : decode cX10_findHay 140 = .ok (.iload 5, 2) := by decide +kernel
theorem dX10_findHay_142 : decode cX10_findHay 142 = .ok (.imul, 1) := by decide +kernel
theorem dX10_findHay_143 : decode cX10_findHay 143 = .ok (.isub, 1) := by decide +kernel
theorem dX10_findHay_144 : decode cX10_findHay 144 = .ok (.istore 12, 2) := by decide +kernel
theorem dX10_findHay_146 : decode cX10_findHay 146 = .ok (.iload 12, 2) := by decide +kernel
theorem dX10_findHay_148 : decode cX10_findHay 148 = .ok (.iload 9, 2) := by decide +kernel
theorem dX10_findHay_150 : decode cX10_findHay 150 = .ok (.if_icmp .le 7, 3) := by decide +kernel
theorem dX10_findHay_153 : decode cX10_findHay 153 = .ok (.iconst 1, 1) := by decide +kernel
theorem dX10_findHay_154 : decode cX10_findHay 154 = .ok (.goto 5, 3) := by decide +kernel
theorem dX10_findHay_157 : decode cX10_findHay 157 = .ok (.iload 10, 2) := by decide +kernel
theorem dX10_findHay_159 : decode cX10_findHay 159 = .ok (.istore 10, 2) := by decide +kernel
theorem dX10_findHay_161 : decode cX10_findHay 161 = .ok (.iload 12, 2) := by decide +kernel
theorem dX10_findHay_163 : decode cX10_findHay 163 = .ok (.iload 9, 2) := by decide +kernel
theorem dX10_findHay_165 : decode cX10_findHay 165 = .ok (.if_icmp .le 8, 3) := by decide +kernel
theorem dX10_findHay_168 : decode cX10_findHay 168 = .ok (.iload 12, 2) := by decide +kernel
theorem dX10_findHay_170 : decode cX10_findHay 170 = .ok (.goto 5, 3) := by decide +kernel
theorem dX10_findHay_173 : decode cX10_findHay 173 = .ok (.iload 9, 2) := by decide +kernel
theorem dX10_findHay_175 : decode cX10_findHay 175 = .ok (.istore 9, 2) := by decide +kernel
theorem dX10_findHay_177 : decode cX10_findHay 177 = .ok (.aload_n 0, 1) := by decide +kernel
theorem dX10_findHay_178 : decode cX10_findHay 178 = .ok (.getfield 67, 3) := by decide +kernel
theorem dX10_findHay_181 : decode cX10_findHay 181 = .ok (.iload 8, 2) := by decide +kernel
theorem dX10_findHay_183 : decode cX10_findHay 183 = .ok (.iconst 1, 1) := by decide +kernel
theorem dX10_findHay_184 : decode cX10_findHay 184 = .ok (.iadd, 1) := by decide +kernel
theorem dX10_findHay_185 : decode cX10_findHay 185 = .ok (.iaload, 1) := by decide +kernel
theorem dX10_findHay_186 : decode cX10_findHay 186 = .ok (.sipush 1000, 3) := by decide +kernel
theorem dX10_findHay_189 : decode cX10_findHay 189 = .ok (.iload 6, 2) := by decide +kernel
theorem dX10_findHay_191 : decode cX10_findHay 191 = .ok (.imul, 1) := by decide +kernel
theorem dX10_findHay_192 : decode cX10_findHay 192 = .ok (.isub, 1) := by decide +kernel
theorem dX10_findHay_193 : decode cX10_findHay 193 = .ok (.istore 11, 2) := by decide +kernel
theorem dX10_findHay_195 : decode cX10_findHay 195 = .ok (.iload 11, 2) := by decide +kernel
theorem dX10_findHay_197 : decode cX10_findHay 197 = .ok (.iload 9, 2) := by decide +kernel
theorem dX10_findHay_199 : decode cX10_findHay 199 = .ok (.if_icmp .le 7, 3) := by decide +kernel
theorem dX10_findHay_202 : decode cX10_findHay 202 = .ok (.iconst 2, 1) := by decide +kernel
theorem dX10_findHay_203 : decode cX10_findHay 203 = .ok (.goto 5, 3) := by decide +kernel
theorem dX10_findHay_206 : decode cX10_findHay 206 = .ok (.iload 10, 2) := by decide +kernel
theorem dX10_findHay_208 : decode cX10_findHay 208 = .ok (.istore 10, 2) := by decide +kernel
theorem dX10_findHay_210 : decode cX10_findHay 210 = .ok (.iload 11, 2) := by decide +kernel
theorem dX10_findHay_212 : decode cX10_findHay 212 = .ok (.iload 9, 2) := by decide +kernel
theorem dX10_findHay_214 : decode cX10_findHay 214 = .ok (.if_icmp .le 8, 3) := by decide +kernel
theorem dX10_findHay_217 : decode cX10_findHay 217 = .ok (.iload 11, 2) := by decide +kernel
theorem dX10_findHay_219 : decode cX10_findHay 219 = .ok (.goto 5, 3) := by decide +kernel
theorem dX10_findHay_222 : decode cX10_findHay 222 = .ok (.iload 9, 2) := by decide +kernel
theorem dX10_findHay_224 : decode cX10_findHay 224 = .ok (.istore 9, 2) := by decide +kernel
theorem dX10_findHay_226 : decode cX10_findHay 226 = .ok (.aload_n 0, 1) := by decide +kernel
theorem dX10_findHay_227 : decode cX10_findHay 227 = .ok (.getfield 67, 3) := by decide +kernel
theorem dX10_findHay_230 : decode cX10_findHay 230 = .ok (.iload 8, 2) := by decide +kernel
theorem dX10_findHay_232 : decode cX10_findHay 232 = .ok (.iload 9, 2) := by decide +kernel
theorem dX10_findHay_234 : decode cX10_findHay 234 = .ok (.iastore, 1) := by decide +kernel
theorem dX10_findHay_235 : decode cX10_findHay 235 = .ok (.aload_n 0, 1) := by decide +kernel
theorem dX10_findHay_236 : decode cX10_findHay 236 = .ok (.getfield 70, 3) := by decide +kernel
theorem dX10_findHay_239 : decode cX10_findHay 239 = .ok (.iload 8, 2) := by decide +kernel
theorem dX10_findHay_241 : decode cX10_findHay 241 = .ok (.iload 10, 2) := by decide +kernel
theorem dX10_findHay_243 : decode cX10_findHay 243 = .ok (.iastore, 1) := by decide +kernel
theorem dX10_findHay_244 : decode cX10_findHay 244 = .ok (.iinc 8 (-1), 3) := by decide +kernel
theorem dX10_findHay_247 : decode cX10_findHay 247 = .ok (.goto (-183), 3) := by decide +kernel
theorem dX10_findHay_250 : decode cX10_findHay 250 = .ok (.return_, 1) := by decide +kernel
set_option maxRecDepth 20000 in
theorem ggX10_hay_X10_isHay : GoodIn wsX10_hay wsX10_isHay := goodIn_r _ [5, 6, 7, 8, 9, 10, 11, 4, 12] (by decide +kernel) (by decide +kernel)
set_option maxRecDepth 20000 in
theorem gX10_hay_X10_isHay : GoodIn wsX10_hay (va_wsS RX10 280 yX10_isHay wsX10_isHay) := goodIn_app (goodIn_of _ (by decide +kernel)) ggX10_hay_X10_isHay
set_option maxRecDepth 20000 in
theorem ggX10_hay_X10_findHay : GoodIn wsX10_hay wsX10_findHay := goodIn_r _ [16, 17, 1, 18, 19, 20, 21, 22, 23, 24, 25, 26, 27, 28, 29, 30, 31, 32, 33, 34, 35, 36, 37, 38, 39, 40, 41, 42, 43, 44, 45, 46, 47, 48, 49, 50, 51, 52, 53, 54, 55, 56, 57, 58] (by decide +kernel) (by decide +kernel)
set_option maxRecDepth 20000 in
theorem gX10_hay_X10_findHay : GoodIn wsX10_hay (wsV RX10 284 RX10 yX10_findHay wsX10_findHay) := goodIn_app (goodIn_of _ (by decide +kernel)) ggX10_hay_X10_findHay
theorem dX10_hay_0 : decode cX10_hay 0 = .ok (.iload_n 1, 1) := by decide +kernel
theorem dX10_hay_1 : decode cX10_hay 1 = .ok (.iload_n 2, 1) := by decide +kernel
theorem dX10_hay_2 : decode cX10_hay 2 = .ok (.iload_n 3, 1) := by decide +kernel
theorem dX10_hay_3 : decode cX10_hay 3 = .ok (.iload 4, 2) := by decide +kernel
theorem dX10_hay_5 : decode cX10_hay 5 = .ok (.iload 5, 2) := by decide +kernel
theorem dX10_hay_7 : decode cX10_hay 7 = .ok (.iload 6, 2) := by decide +kernel
theorem dX10_hay_9 : decode cX10_hay 9 = .ok (.iload 7, 2) := by decide +kernel
theorem dX10_hay_11 : decode cX10_hay 11 = .ok (.invokestatic 280, 3) := by decide +kernel
theorem dX10_hay_14 : decode cX10_hay 14 = .ok (.ifCond .ne 6, 3) := by decide +kernel
theorem dX10_hay_17 : decode cX10_hay 17 = .ok (.bipush (-2), 2) := by decide +kernel
theorem dX10_hay_19 : decode cX10_hay 19 = .ok (.ireturn, 1) := by decide +kernel
theorem dX10_hay_20 : decode cX10_hay 20 = .ok (.aload_n 0, 1) := by decide +kernel
theorem dX10_hay_21 : decode cX10_hay 21 = .ok (.iload_n 1, 1) := by decide +kernel
theorem dX10_hay_22 : decode cX10_hay 22 = .ok (.iload_n 2, 1) := by decide +kernel
theorem dX10_hay_23 : decode cX10_hay 23 = .ok (.iload 4, 2) := by decide +kernel
theorem dX10_hay_25 : decode cX10_hay 25 = .ok (.iload 5, 2) := by decide +kernel
theorem dX10_hay_27 : decode cX10_hay 27 = .ok (.iload 6, 2) := by decide +kernel
theorem dX10_hay_29 : decode cX10_hay 29 = .ok (.iload 7, 2) := by decide +kernel
theorem dX10_hay_31 : decode cX10_hay 31 = .ok (.invokevirtual 284, 3) := by decide +kernel
theorem dX10_hay_34 : decode cX10_hay 34 = .ok (.aload_n 0, 1) := by decide +kernel
theorem dX10_hay_35 : decode cX10_hay 35 = .ok (.getfield 67, 3) := by decide +kernel
theorem dX10_hay_38 : decode cX10_hay 38 = .ok (.iload_n 3, 1) := by decide +kernel
theorem dX10_hay_39 : decode cX10_hay 39 = .ok (.iaload, 1) := by decide +kernel
theorem dX10_hay_40 : decode cX10_hay 40 = .ok (.ireturn, 1) := by decide +kernel
set_option maxRecDepth 20000 in
theorem ggX10_does_X10_isHay : GoodIn wsX10_does wsX10_isHay := goodIn_r _ [5, 6, 7, 8, 9, 10, 11, 4, 12] (by decide +kernel) (by decide +kernel)
set_option maxRecDepth 20000 in
theorem gX10_does_X10_isHay : GoodIn wsX10_does (va_wsS RX10 280 yX10_isHay wsX10_isHay) := goodIn_app (goodIn_of _ (by decide +kernel)) ggX10_does_X10_isHay
set_option maxRecDepth 20000 in
theorem ggX10_does_X10_findHay : GoodIn wsX10_does wsX10_findHay := goodIn_r _ [16, 17, 18, 1, 19, 20, 21, 22, 23, 24, 25, 26, 27, 28, 29, 30, 31, 32, 33, 34, 35, 36, 37, 38, 39, 40, 41, 42, 43, 44, 45, 46, 47, 48, 49, 50, 51, 52, 53, 54, 55, 56, 57, 58] (by decide +kernel) (by decide +kernel)
set_option maxRecDepth 20000 in
theorem gX10_does_X10_findHay : GoodIn wsX10_does (wsV RX10 284 RX10 yX10_findHay wsX10_findHay) := goodIn_app (goodIn_of _ (by decide +kernel)) ggX10_does_X10_findHay
theorem dX10_does_0 : decode cX10_does 0 = .ok (.iload_n 1, 1) := by decide +kernel
theorem dX10_does_1 : decode cX10_does 1 = .ok (.iload_n 2, 1) := by decide +kernel
theorem dX10_does_2 : decode cX10_does 2 = .ok (.iload_n 3, 1) := by decide +kernel
theorem dX10_does_3 : decode cX10_does 3 = .ok (.iload 4, 2) := by decide +kernel
theorem dX10_does_5 : decode cX10_does 5 = .ok (.iload 5, 2) := by decide +kernel
theorem dX10_does_7 : decode cX10_does 7 = .ok (.iload 6, 2) := by decide +kernel
theorem dX10_does_9 : decode cX10_does 9 = .ok (.iload 7, 2) := by decide +kernel
theorem dX10_does_11 : decode cX10_does 11 = .ok (.invokestatic 280, 3) := by decide +kernel
theorem dX10_does_14 : decode cX10_does 14 = .ok (.ifCond .ne 6, 3) := by decide +kernel
theorem dX10_does_17 : decode cX10_does 17 = .ok (.bipush (-2), 2) := by decide +kernel
theorem dX10_does_19 : decode cX10_does 19 = .ok (.ireturn, 1) := by decide +kernel
theorem dX10_does_20 : decode cX10_does 20 = .ok (.aload_n 0, 1) := by decide +kernel
theorem dX10_does_21 : decode cX10_does 21 = .ok (.iload_n 1, 1) := by decide +kernel
theorem dX10_does_22 : decode cX10_does 22 = .ok (.iload_n 2, 1) := by decide +kernel
theorem dX10_does_23 : decode cX10_does 23 = .ok (.iload 4, 2) := by decide +kernel
theorem dX10_does_25 : decode cX10_does 25 = .ok (.iload 5, 2) := by decide +kernel
theorem dX10_does_27 : decode cX10_does 27 = .ok (.iload 6, 2) := by decide +kernel
theorem dX10_does_29 : decode cX10_does 29 = .ok (.iload 7, 2) := by decide +kernel
theorem dX10_does_31 : decode cX10_does 31 = .ok (.invokevirtual 284, 3) := by decide +kernel
theorem dX10_does_34 : decode cX10_does 34 = .ok (.aload_n 0, 1) := by decide +kernel
theorem dX10_does_35 : decode cX10_does 35 = .ok (.getfield 70, 3) := by decide +kernel
theorem dX10_does_38 : decode cX10_does 38 = .ok (.iload_n 3, 1) := by decide +kernel
theorem dX10_does_39 : decode cX10_does 39 = .ok (.iaload, 1) := by decide +kernel
theorem dX10_does_40 : decode cX10_does 40 = .ok (.ireturn, 1) := by decide +kernel
set_option maxRecDepth 20000 in
theorem ggX10_believed_X10_isTeller : GoodIn wsX10_believed wsX10_isTeller := goodIn_r _ [9, 10, 11, 12, 8, 13] (by decide +kernel) (by decide +kernel)
set_option maxRecDepth 20000 in
theorem gX10_believed_X10_isTeller : GoodIn wsX10_believed (va_wsS RX10 188 yX10_isTeller wsX10_isTeller) := goodIn_app (goodIn_of _ (by decide +kernel)) ggX10_believed_X10_isTeller
set_option maxRecDepth 20000 in
theorem ggX10_believed_X10_in : GoodIn wsX10_believed wsX10_in := goodIn_r _ [13] (by decide +kernel) (by decide +kernel)
set_option maxRecDepth 20000 in
theorem gX10_believed_X10_in : GoodIn wsX10_believed (va_wsS RX10 99 yX10_in wsX10_in) := goodIn_app (goodIn_of _ (by decide +kernel)) ggX10_believed_X10_in
set_option maxRecDepth 20000 in
theorem ggX10_believed_X10_oddsOf : GoodIn wsX10_believed wsX10_oddsOf := goodIn_r _ [17, 5, 18, 19, 20, 21, 22, 8, 23, 4, 24, 25, 26, 27, 28, 29, 30, 31, 32, 33, 34, 35, 36, 37, 38, 39, 40, 41, 42, 43, 44, 45, 46, 47, 48, 49, 50, 51, 52, 53, 54, 55, 56, 57, 58, 59, 60, 61, 62, 63, 64, 65, 66, 67, 68, 69, 70, 71, 72, 73, 74, 75, 76, 77, 78, 79, 80, 81, 82, 83, 84, 85, 86, 87, 88, 89, 90, 91, 92, 93, 94, 95, 96, 97, 98, 99, 100, 101, 102, 103, 104, 105, 106, 107, 108, 109, 110] (by decide +kernel) (by decide +kernel)
set_option maxRecDepth 20000 in
theorem gX10_believed_X10_oddsOf : GoodIn wsX10_believed (wsV RX10 191 RX10 yX10_oddsOf wsX10_oddsOf) := goodIn_app (goodIn_of _ (by decide +kernel)) ggX10_believed_X10_oddsOf
theorem dX10_believed_0 : decode cX10_believed 0 = .ok (.iload_n 1, 1) := by decide +kernel
theorem dX10_believed_1 : decode cX10_believed 1 = .ok (.invokestatic 188, 3) := by decide +kernel
theorem dX10_believed_4 : decode cX10_believed 4 = .ok (.ifCond .ne 7, 3) := by decide +kernel
theorem dX10_believed_7 : decode cX10_believed 7 = .ok (.ldc_w 288, 3) := by decide +kernel
theorem dX10_believed_10 : decode cX10_believed 10 = .ok (.ireturn, 1) := by decide +kernel
theorem dX10_believed_11 : decode cX10_believed 11 = .ok (.iload_n 2, 1) := by decide +kernel
theorem dX10_believed_12 : decode cX10_believed 12 = .ok (.i2l, 1) := by decide +kernel
theorem dX10_believed_13 : decode cX10_believed 13 = .ok (.lconst 0, 1) := by decide +kernel
theorem dX10_believed_14 : decode cX10_believed 14 = .ok (.ldc2_w 278, 3) := by decide +kernel
theorem dX10_believed_17 : decode cX10_believed 17 = .ok (.invokestatic 99, 3) := by decide +kernel
theorem dX10_believed_20 : decode cX10_believed 20 = .ok (.ifCond .eq 15, 3) := by decide +kernel
theorem dX10_believed_23 : decode cX10_believed 23 = .ok (.iload_n 3, 1) := by decide +kernel
theorem dX10_believed_24 : decode cX10_believed 24 = .ok (.i2l, 1) := by decide +kernel
theorem dX10_believed_25 : decode cX10_believed 25 = .ok (.lconst 0, 1) := by decide +kernel
theorem dX10_believed_26 : decode cX10_believed 26 = .ok (.ldc2_w 278, 3) := by decide +kernel
theorem dX10_believed_29 : decode cX10_believed 29 = .ok (.invokestatic 99, 3) := by decide +kernel
theorem dX10_believed_32 : decode cX10_believed 32 = .ok (.ifCond .ne 7, 3) := by decide +kernel
theorem dX10_believed_35 : decode cX10_believed 35 = .ok (.ldc_w 289, 3) := by decide +kernel
theorem dX10_believed_38 : decode cX10_believed 38 = .ok (.ireturn, 1) := by decide +kernel
theorem dX10_believed_39 : decode cX10_believed 39 = .ok (.iconst 0, 1) := by decide +kernel
theorem dX10_believed_40 : decode cX10_believed 40 = .ok (.istore 4, 2) := by decide +kernel
theorem dX10_believed_42 : decode cX10_believed 42 = .ok (.iconst 0, 1) := by decide +kernel
theorem dX10_believed_43 : decode cX10_believed 43 = .ok (.istore 5, 2) := by decide +kernel
theorem dX10_believed_45 : decode cX10_believed 45 = .ok (.iload 5, 2) := by decide +kernel
theorem dX10_believed_47 : decode cX10_believed 47 = .ok (.aload_n 0, 1) := by decide +kernel
theorem dX10_believed_48 : decode cX10_believed 48 = .ok (.getfield 111, 3) := by decide +kernel
theorem dX10_believed_51 : decode cX10_believed 51 = .ok (.if_icmp .ge 60, 3) := by decide +kernel
theorem dX10_believed_54 : decode cX10_believed 54 = .ok (.aload_n 0, 1) := by decide +kernel
theorem dX10_believed_55 : decode cX10_believed 55 = .ok (.iload_n 1, 1) := by decide +kernel
theorem dX10_believed_56 : decode cX10_believed 56 = .ok (.iload 5, 2) := by decide +kernel
theorem dX10_believed_58 : decode cX10_believed 58 = .ok (.invokevirtual 191, 3) := by decide +kernel
theorem dX10_believed_61 : decode cX10_believed 61 = .ok (.istore 6, 2) := by decide +kernel
theorem dX10_believed_63 : decode cX10_believed 63 = .ok (.iload 6, 2) := by decide +kernel
theorem dX10_believed_65 : decode cX10_believed 65 = .ok (.ifCond .lt 40, 3) := by decide +kernel
theorem dX10_believed_68 : decode cX10_believed 68 = .ok (.iload_n 2, 1) := by decide +kernel
theorem dX10_believed_69 : decode cX10_believed 69 = .ok (.sipush 1000, 3) := by decide +kernel
theorem dX10_believed_72 : decode cX10_believed 72 = .ok (.iload 6, 2) := by decide +kernel
theorem dX10_believed_74 : decode cX10_believed 74 = .ok (.isub, 1) := by decide +kernel
theorem dX10_believed_75 : decode cX10_believed 75 = .ok (.imul, 1) := by decide +kernel
theorem dX10_believed_76 : decode cX10_believed 76 = .ok (.iload_n 3, 1) := by decide +kernel
theorem dX10_believed_77 : decode cX10_believed 77 = .ok (.iload 6, 2) := by decide +kernel
theorem dX10_believed_79 : decode cX10_believed 79 = .ok (.imul, 1) := by decide +kernel
theorem dX10_believed_80 : decode cX10_believed 80 = .ok (.if_icmp .le 25, 3) := by decide +kernel
theorem dX10_believed_83 : decode cX10_believed 83 = .ok (.iload 4, 2) := by decide +kernel
theorem dX10_believed_85 : decode cX10_believed 85 = .ok (.aload_n 0, 1) := by decide +kernel
theorem dX10_believed_86 : decode cX10_believed 86 = .ok (.getfield 25, 3) := by decide +kernel
theorem dX10_believed_89 : decode cX10_believed 89 = .ok (.iload 5, 2) := by decide +kernel
theorem dX10_believed_91 : decode cX10_believed 91 = .ok (.iaload, 1) := by decide +kernel
theorem dX10_believed_92 : decode cX10_believed 92 = .ok (.iconst 1, 1) := by decide +kernel
theorem dX10_believed_93 : decode cX10_believed 93 = .ok (.if_icmp .ne 8, 3) := by decide +kernel
theorem dX10_believed_96 : decode cX10_believed 96 = .ok (.iload_n 3, 1) := by decide +kernel
theorem dX10_believed_97 : decode cX10_believed 97 = .ok (.ineg, 1) := by decide +kernel
theorem dX10_believed_98 : decode cX10_believed 98 = .ok (.goto 4, 3) := by decide +kernel
theorem dX10_believed_101 : decode cX10_believed 101 = .ok (.iload_n 2, 1) := by decide +kernel
theorem dX10_believed_102 : decode cX10_believed 102 = .ok (.iadd, 1) := by decide +kernel
theorem dX10_believed_103 : decode cX10_believed 103 = .ok (.istore 4, 2) := by decide +kernel
theorem dX10_believed_105 : decode cX10_believed 105 = .ok (.iinc 5 1, 3) := by decide +kernel
theorem dX10_believed_108 : decode cX10_believed 108 = .ok (.goto (-63), 3) := by decide +kernel
theorem dX10_believed_111 : decode cX10_believed 111 = .ok (.iload 4, 2) := by decide +kernel
theorem dX10_believed_113 : decode cX10_believed 113 = .ok (.ireturn, 1) := by decide +kernel
theorem dX10_pass_0 : decode cX10_pass 0 = .ok (.aload_n 0, 1) := by decide +kernel
theorem dX10_pass_1 : decode cX10_pass 1 = .ok (.getfield 290, 3) := by decide +kernel
theorem dX10_pass_4 : decode cX10_pass 4 = .ok (.ifCond .eq 7, 3) := by decide +kernel
theorem dX10_pass_7 : decode cX10_pass 7 = .ok (.iload_n 1, 1) := by decide +kernel
theorem dX10_pass_8 : decode cX10_pass 8 = .ok (.goto 12, 3) := by decide +kernel
theorem dX10_pass_11 : decode cX10_pass 11 = .ok (.aload_n 0, 1) := by decide +kernel
theorem dX10_pass_12 : decode cX10_pass 12 = .ok (.getfield 73, 3) := by decide +kernel
theorem dX10_pass_15 : decode cX10_pass 15 = .ok (.aload_n 0, 1) := by decide +kernel
theorem dX10_pass_16 : decode cX10_pass 16 = .ok (.getfield 294, 3) := by decide +kernel
theorem dX10_pass_19 : decode cX10_pass 19 = .ok (.iaload, 1) := by decide +kernel
theorem dX10_pass_20 : decode cX10_pass 20 = .ok (.istore_n 2, 1) := by decide +kernel
theorem dX10_pass_21 : decode cX10_pass 21 = .ok (.aload_n 0, 1) := by decide +kernel
theorem dX10_pass_22 : decode cX10_pass 22 = .ok (.getfield 73, 3) := by decide +kernel
theorem dX10_pass_25 : decode cX10_pass 25 = .ok (.aload_n 0, 1) := by decide +kernel
theorem dX10_pass_26 : decode cX10_pass 26 = .ok (.getfield 294, 3) := by decide +kernel
theorem dX10_pass_29 : decode cX10_pass 29 = .ok (.iload_n 2, 1) := by decide +kernel
theorem dX10_pass_30 : decode cX10_pass 30 = .ok (.iastore, 1) := by decide +kernel
theorem dX10_pass_31 : decode cX10_pass 31 = .ok (.aload_n 0, 1) := by decide +kernel
theorem dX10_pass_32 : decode cX10_pass 32 = .ok (.dup, 1) := by decide +kernel
theorem dX10_pass_33 : decode cX10_pass 33 = .ok (.getfield 294, 3) := by decide +kernel
theorem dX10_pass_36 : decode cX10_pass 36 = .ok (.iconst 1, 1) := by decide +kernel
theorem dX10_pass_37 : decode cX10_pass 37 = .ok (.iadd, 1) := by decide +kernel
theorem dX10_pass_38 : decode cX10_pass 38 = .ok (.putfield 294, 3) := by decide +kernel
theorem dX10_pass_41 : decode cX10_pass 41 = .ok (.iload_n 2, 1) := by decide +kernel
theorem dX10_pass_42 : decode cX10_pass 42 = .ok (.ireturn, 1) := by decide +kernel
set_option maxRecDepth 20000 in
theorem ggX10_passAll_X10_pass : GoodIn wsX10_passAll wsX10_pass := goodIn_r _ [30, 31, 32, 33, 34, 35, 36, 37, 38, 39, 40, 41, 42, 43, 44, 45, 46, 47, 48, 49, 50, 51, 52, 53, 54, 55, 56, 57, 58, 59, 60, 61, 62, 63, 64, 65, 66, 67, 68, 69, 70, 71, 72, 73] (by decide +kernel) (by decide +kernel)
set_option maxRecDepth 20000 in
theorem gX10_passAll_X10_pass : GoodIn wsX10_passAll (wsV RX10 297 RX10 yX10_pass wsX10_pass) := goodIn_app (goodIn_of _ (by decide +kernel)) ggX10_passAll_X10_pass
theorem dX10_passAll_0 : decode cX10_passAll 0 = .ok (.aload_n 0, 1) := by decide +kernel
theorem dX10_passAll_1 : decode cX10_passAll 1 = .ok (.aload_n 0, 1) := by decide +kernel
theorem dX10_passAll_2 : decode cX10_passAll 2 = .ok (.aload_n 0, 1) := by decide +kernel
theorem dX10_passAll_3 : decode cX10_passAll 3 = .ok (.getfield 80, 3) := by decide +kernel
theorem dX10_passAll_6 : decode cX10_passAll 6 = .ok (.invokevirtual 297, 3) := by decide +kernel
theorem dX10_passAll_9 : decode cX10_passAll 9 = .ok (.putfield 80, 3) := by decide +kernel
theorem dX10_passAll_12 : decode cX10_passAll 12 = .ok (.aload_n 0, 1) := by decide +kernel
theorem dX10_passAll_13 : decode cX10_passAll 13 = .ok (.aload_n 0, 1) := by decide +kernel
theorem dX10_passAll_14 : decode cX10_passAll 14 = .ok (.aload_n 0, 1) := by decide +kernel
theorem dX10_passAll_15 : decode cX10_passAll 15 = .ok (.getfield 84, 3) := by decide +kernel
theorem dX10_passAll_18 : decode cX10_passAll 18 = .ok (.invokevirtual 297, 3) := by decide +kernel
theorem dX10_passAll_21 : decode cX10_passAll 21 = .ok (.putfield 84, 3) := by decide +kernel
theorem dX10_passAll_24 : decode cX10_passAll 24 = .ok (.aload_n 0, 1) := by decide +kernel
theorem dX10_passAll_25 : decode cX10_passAll 25 = .ok (.aload_n 0, 1) := by decide +kernel
theorem dX10_passAll_26 : decode cX10_passAll 26 = .ok (.aload_n 0, 1) := by decide +kernel
theorem dX10_passAll_27 : decode cX10_passAll 27 = .ok (.getfield 87, 3) := by decide +kernel
theorem dX10_passAll_30 : decode cX10_passAll 30 = .ok (.invokevirtual 297, 3) := by decide +kernel
theorem dX10_passAll_33 : decode cX10_passAll 33 = .ok (.putfield 87, 3) := by decide +kernel
theorem dX10_passAll_36 : decode cX10_passAll 36 = .ok (.aload_n 0, 1) := by decide +kernel
theorem dX10_passAll_37 : decode cX10_passAll 37 = .ok (.aload_n 0, 1) := by decide +kernel
theorem dX10_passAll_38 : decode cX10_passAll 38 = .ok (.aload_n 0, 1) := by decide +kernel
theorem dX10_passAll_39 : decode cX10_passAll 39 = .ok (.getfield 111, 3) := by decide +kernel
theorem dX10_passAll_42 : decode cX10_passAll 42 = .ok (.invokevirtual 297, 3) := by decide +kernel
theorem dX10_passAll_45 : decode cX10_passAll 45 = .ok (.putfield 111, 3) := by decide +kernel
theorem dX10_passAll_48 : decode cX10_passAll 48 = .ok (.aload_n 0, 1) := by decide +kernel
theorem dX10_passAll_49 : decode cX10_passAll 49 = .ok (.aload_n 0, 1) := by decide +kernel
theorem dX10_passAll_50 : decode cX10_passAll 50 = .ok (.aload_n 0, 1) := by decide +kernel
theorem dX10_passAll_51 : decode cX10_passAll 51 = .ok (.getfield 90, 3) := by decide +kernel
theorem dX10_passAll_54 : decode cX10_passAll 54 = .ok (.invokevirtual 297, 3) := by decide +kernel
theorem dX10_passAll_57 : decode cX10_passAll 57 = .ok (.putfield 90, 3) := by decide +kernel
theorem dX10_passAll_60 : decode cX10_passAll 60 = .ok (.aload_n 0, 1) := by decide +kernel
theorem dX10_passAll_61 : decode cX10_passAll 61 = .ok (.aload_n 0, 1) := by decide +kernel
theorem dX10_passAll_62 : decode cX10_passAll 62 = .ok (.aload_n 0, 1) := by decide +kernel
theorem dX10_passAll_63 : decode cX10_passAll 63 = .ok (.getfield 93, 3) := by decide +kernel
theorem dX10_passAll_66 : decode cX10_passAll 66 = .ok (.invokevirtual 297, 3) := by decide +kernel
theorem dX10_passAll_69 : decode cX10_passAll 69 = .ok (.putfield 93, 3) := by decide +kernel
theorem dX10_passAll_72 : decode cX10_passAll 72 = .ok (.aload_n 0, 1) := by decide +kernel
theorem dX10_passAll_73 : decode cX10_passAll 73 = .ok (.aload_n 0, 1) := by decide +kernel
theorem dX10_passAll_74 : decode cX10_passAll 74 = .ok (.aload_n 0, 1) := by decide +kernel
theorem dX10_passAll_75 : decode cX10_passAll 75 = .ok (.getfield 96, 3) := by decide +kernel
theorem dX10_passAll_78 : decode cX10_passAll 78 = .ok (.invokevirtual 297, 3) := by decide +kernel
theorem dX10_passAll_81 : decode cX10_passAll 81 = .ok (.putfield 96, 3) := by decide +kernel
theorem dX10_passAll_84 : decode cX10_passAll 84 = .ok (.aload_n 0, 1) := by decide +kernel
theorem dX10_passAll_85 : decode cX10_passAll 85 = .ok (.aload_n 0, 1) := by decide +kernel
theorem dX10_passAll_86 : decode cX10_passAll 86 = .ok (.aload_n 0, 1) := by decide +kernel
theorem dX10_passAll_87 : decode cX10_passAll 87 = .ok (.getfield 262, 3) := by decide +kernel
theorem dX10_passAll_90 : decode cX10_passAll 90 = .ok (.invokevirtual 297, 3) := by decide +kernel
theorem dX10_passAll_93 : decode cX10_passAll 93 = .ok (.putfield 262, 3) := by decide +kernel
theorem dX10_passAll_96 : decode cX10_passAll 96 = .ok (.iconst 0, 1) := by decide +kernel
theorem dX10_passAll_97 : decode cX10_passAll 97 = .ok (.istore_n 1, 1) := by decide +kernel
theorem dX10_passAll_98 : decode cX10_passAll 98 = .ok (.iload_n 1, 1) := by decide +kernel
theorem dX10_passAll_99 : decode cX10_passAll 99 = .ok (.bipush 60, 2) := by decide +kernel
theorem dX10_passAll_101 : decode cX10_passAll 101 = .ok (.if_icmp .ge 121, 3) := by decide +kernel
theorem dX10_passAll_104 : decode cX10_passAll 104 = .ok (.aload_n 0, 1) := by decide +kernel
theorem dX10_passAll_105 : decode cX10_passAll 105 = .ok (.getfield 7, 3) := by decide +kernel
theorem dX10_passAll_108 : decode cX10_passAll 108 = .ok (.iload_n 1, 1) := by decide +kernel
theorem dX10_passAll_109 : decode cX10_passAll 109 = .ok (.aload_n 0, 1) := by decide +kernel
theorem dX10_passAll_110 : decode cX10_passAll 110 = .ok (.aload_n 0, 1) := by decide +kernel
theorem dX10_passAll_111 : decode cX10_passAll 111 = .ok (.getfield 7, 3) := by decide +kernel
theorem dX10_passAll_114 : decode cX10_passAll 114 = .ok (.iload_n 1, 1) := by decide +kernel
theorem dX10_passAll_115 : decode cX10_passAll 115 = .ok (.iaload, 1) := by decide +kernel
theorem dX10_passAll_116 : decode cX10_passAll 116 = .ok (.invokevirtual 297, 3) := by decide +kernel
theorem dX10_passAll_119 : decode cX10_passAll 119 = .ok (.iastore, 1) := by decide +kernel
theorem dX10_passAll_120 : decode cX10_passAll 120 = .ok (.aload_n 0, 1) := by decide +kernel
theorem dX10_passAll_121 : decode cX10_passAll 121 = .ok (.getfield 13, 3) := by decide +kernel
theorem dX10_passAll_124 : decode cX10_passAll 124 = .ok (.iload_n 1, 1) := by decide +kernel
theorem dX10_passAll_125 : decode cX10_passAll 125 = .ok (.aload_n 0, 1) := by decide +kernel
theorem dX10_passAll_126 : decode cX10_passAll 126 = .ok (.aload_n 0, 1) := by decide +kernel
theorem dX10_passAll_127 : decode cX10_passAll 127 = .ok (.getfield 13, 3) := by decide +kernel
theorem dX10_passAll_130 : decode cX10_passAll 130 = .ok (.iload_n 1, 1) := by decide +kernel
theorem dX10_passAll_131 : decode cX10_passAll 131 = .ok (.iaload, 1) := by decide +kernel
theorem dX10_passAll_132 : decode cX10_passAll 132 = .ok (.invokevirtual 297, 3) := by decide +kernel
theorem dX10_passAll_135 : decode cX10_passAll 135 = .ok (.iastore, 1) := by decide +kernel
theorem dX10_passAll_136 : decode cX10_passAll 136 = .ok (.aload_n 0, 1) := by decide +kernel
theorem dX10_passAll_137 : decode cX10_passAll 137 = .ok (.getfield 16, 3) := by decide +kernel
theorem dX10_passAll_140 : decode cX10_passAll 140 = .ok (.iload_n 1, 1) := by decide +kernel
theorem dX10_passAll_141 : decode cX10_passAll 141 = .ok (.aload_n 0, 1) := by decide +kernel
theorem dX10_passAll_142 : decode cX10_passAll 142 = .ok (.aload_n 0, 1) := by decide +kernel
theorem dX10_passAll_143 : decode cX10_passAll 143 = .ok (.getfield 16, 3) := by decide +kernel
theorem dX10_passAll_146 : decode cX10_passAll 146 = .ok (.iload_n 1, 1) := by decide +kernel
theorem dX10_passAll_147 : decode cX10_passAll 147 = .ok (.iaload, 1) := by decide +kernel
theorem dX10_passAll_148 : decode cX10_passAll 148 = .ok (.invokevirtual 297, 3) := by decide +kernel
theorem dX10_passAll_151 : decode cX10_passAll 151 = .ok (.iastore, 1) := by decide +kernel
theorem dX10_passAll_152 : decode cX10_passAll 152 = .ok (.aload_n 0, 1) := by decide +kernel
theorem dX10_passAll_153 : decode cX10_passAll 153 = .ok (.getfield 19, 3) := by decide +kernel
theorem dX10_passAll_156 : decode cX10_passAll 156 = .ok (.iload_n 1, 1) := by decide +kernel
theorem dX10_passAll_157 : decode cX10_passAll 157 = .ok (.aload_n 0, 1) := by decide +kernel
theorem dX10_passAll_158 : decode cX10_passAll 158 = .ok (.aload_n 0, 1) := by decide +kernel
theorem dX10_passAll_159 : decode cX10_passAll 159 = .ok (.getfield 19, 3) := by decide +kernel
theorem dX10_passAll_162 : decode cX10_passAll 162 = .ok (.iload_n 1, 1) := by decide +kernel
theorem dX10_passAll_163 : decode cX10_passAll 163 = .ok (.iaload, 1) := by decide +kernel
theorem dX10_passAll_164 : decode cX10_passAll 164 = .ok (.invokevirtual 297, 3) := by decide +kernel
theorem dX10_passAll_167 : decode cX10_passAll 167 = .ok (.iastore, 1) := by decide +kernel
theorem dX10_passAll_168 : decode cX10_passAll 168 = .ok (.aload_n 0, 1) := by decide +kernel
theorem dX10_passAll_169 : decode cX10_passAll 169 = .ok (.getfield 22, 3) := by decide +kernel
theorem dX10_passAll_172 : decode cX10_passAll 172 = .ok (.iload_n 1, 1) := by decide +kernel
theorem dX10_passAll_173 : decode cX10_passAll 173 = .ok (.aload_n 0, 1) := by decide +kernel
theorem dX10_passAll_174 : decode cX10_passAll 174 = .ok (.aload_n 0, 1) := by decide +kernel
theorem dX10_passAll_175 : decode cX10_passAll 175 = .ok (.getfield 22, 3) := by decide +kernel
theorem dX10_passAll_178 : decode cX10_passAll 178 = .ok (.iload_n 1, 1) := by decide +kernel
theorem dX10_passAll_179 : decode cX10_passAll 179 = .ok (.iaload, 1) := by decide +kernel
theorem dX10_passAll_180 : decode cX10_passAll 180 = .ok (.invokevirtual 297, 3) := by decide +kernel
theorem dX10_passAll_183 : decode cX10_passAll 183 = .ok (.iastore, 1) := by decide +kernel
theorem dX10_passAll_184 : decode cX10_passAll 184 = .ok (.aload_n 0, 1) := by decide +kernel
theorem dX10_passAll_185 : decode cX10_passAll 185 = .ok (.getfield 25, 3) := by decide +kernel
theorem dX10_passAll_188 : decode cX10_passAll 188 = .ok (.iload_n 1, 1) := by decide +kernel
theorem dX10_passAll_189 : decode cX10_passAll 189 = .ok (.aload_n 0, 1) := by decide +kernel
theorem dX10_passAll_190 : decode cX10_passAll 190 = .ok (.aload_n 0, 1) := by decide +kernel
theorem dX10_passAll_191 : decode cX10_passAll 191 = .ok (.getfield 25, 3) := by decide +kernel
theorem dX10_passAll_194 : decode cX10_passAll 194 = .ok (.iload_n 1, 1) := by decide +kernel
theorem dX10_passAll_195 : decode cX10_passAll 195 = .ok (.iaload, 1) := by decide +kernel
theorem dX10_passAll_196 : decode cX10_passAll 196 = .ok (.invokevirtual 297, 3) := by decide +kernel
theorem dX10_passAll_199 : decode cX10_passAll 199 = .ok (.iastore, 1) := by decide +kernel
theorem dX10_passAll_200 : decode cX10_passAll 200 = .ok (.aload_n 0, 1) := by decide +kernel
theorem dX10_passAll_201 : decode cX10_passAll 201 = .ok (.getfield 28, 3) := by decide +kernel
theorem dX10_passAll_204 : decode cX10_passAll 204 = .ok (.iload_n 1, 1) := by decide +kernel
theorem dX10_passAll_205 : decode cX10_passAll 205 = .ok (.aload_n 0, 1) := by decide +kernel
theorem dX10_passAll_206 : decode cX10_passAll 206 = .ok (.aload_n 0, 1) := by decide +kernel
theorem dX10_passAll_207 : decode cX10_passAll 207 = .ok (.getfield 28, 3) := by decide +kernel
theorem dX10_passAll_210 : decode cX10_passAll 210 = .ok (.iload_n 1, 1) := by decide +kernel
theorem dX10_passAll_211 : decode cX10_passAll 211 = .ok (.iaload, 1) := by decide +kernel
theorem dX10_passAll_212 : decode cX10_passAll 212 = .ok (.invokevirtual 297, 3) := by decide +kernel
theorem dX10_passAll_215 : decode cX10_passAll 215 = .ok (.iastore, 1) := by decide +kernel
theorem dX10_passAll_216 : decode cX10_passAll 216 = .ok (.iinc 1 1, 3) := by decide +kernel
theorem dX10_passAll_219 : decode cX10_passAll 219 = .ok (.goto (-121), 3) := by decide +kernel
theorem dX10_passAll_222 : decode cX10_passAll 222 = .ok (.iconst 0, 1) := by decide +kernel
theorem dX10_passAll_223 : decode cX10_passAll 223 = .ok (.istore_n 1, 1) := by decide +kernel
theorem dX10_passAll_224 : decode cX10_passAll 224 = .ok (.iload_n 1, 1) := by decide +kernel
theorem dX10_passAll_225 : decode cX10_passAll 225 = .ok (.iconst 4, 1) := by decide +kernel
theorem dX10_passAll_226 : decode cX10_passAll 226 = .ok (.if_icmp .ge 25, 3) := by decide +kernel
theorem dX10_passAll_229 : decode cX10_passAll 229 = .ok (.aload_n 0, 1) := by decide +kernel
theorem dX10_passAll_230 : decode cX10_passAll 230 = .ok (.getfield 34, 3) := by decide +kernel
theorem dX10_passAll_233 : decode cX10_passAll 233 = .ok (.iload_n 1, 1) := by decide +kernel
theorem dX10_passAll_234 : decode cX10_passAll 234 = .ok (.aload_n 0, 1) := by decide +kernel
theorem dX10_passAll_235 : decode cX10_passAll 235 = .ok (.aload_n 0, 1) := by decide +kernel
theorem dX10_passAll_236 : decode cX10_passAll 236 = .ok (.getfield 34, 3) := by decide +kernel
theorem dX10_passAll_239 : decode cX10_passAll 239 = .ok (.iload_n 1, 1) := by decide +kernel
theorem dX10_passAll_240 : decode cX10_passAll 240 = .ok (.iaload, 1) := by decide +kernel
theorem dX10_passAll_241 : decode cX10_passAll 241 = .ok (.invokevirtual 297, 3) := by decide +kernel
theorem dX10_passAll_244 : decode cX10_passAll 244 = .ok (.iastore, 1) := by decide +kernel
theorem dX10_passAll_245 : decode cX10_passAll 245 = .ok (.iinc 1 1, 3) := by decide +kernel
theorem dX10_passAll_248 : decode cX10_passAll 248 = .ok (.goto (-24), 3) := by decide +kernel
theorem dX10_passAll_251 : decode cX10_passAll 251 = .ok (.iconst 0, 1) := by decide +kernel
theorem dX10_passAll_252 : decode cX10_passAll 252 = .ok (.istore_n 1, 1) := by decide +kernel
theorem dX10_passAll_253 : decode cX10_passAll 253 = .ok (.iload_n 1, 1) := by decide +kernel
theorem dX10_passAll_254 : decode cX10_passAll 254 = .ok (.bipush 60, 2) := by decide +kernel
theorem dX10_passAll_256 : decode cX10_passAll 256 = .ok (.if_icmp .ge 25, 3) := by decide +kernel
theorem dX10_passAll_259 : decode cX10_passAll 259 = .ok (.aload_n 0, 1) := by decide +kernel
theorem dX10_passAll_260 : decode cX10_passAll 260 = .ok (.getfield 37, 3) := by decide +kernel
theorem dX10_passAll_263 : decode cX10_passAll 263 = .ok (.iload_n 1, 1) := by decide +kernel
theorem dX10_passAll_264 : decode cX10_passAll 264 = .ok (.aload_n 0, 1) := by decide +kernel
theorem dX10_passAll_265 : decode cX10_passAll 265 = .ok (.aload_n 0, 1) := by decide +kernel
theorem dX10_passAll_266 : decode cX10_passAll 266 = .ok (.getfield 37, 3) := by decide +kernel
theorem dX10_passAll_269 : decode cX10_passAll 269 = .ok (.iload_n 1, 1) := by decide +kernel
theorem dX10_passAll_270 : decode cX10_passAll 270 = .ok (.iaload, 1) := by decide +kernel
theorem dX10_passAll_271 : decode cX10_passAll 271 = .ok (.invokevirtual 297, 3) := by decide +kernel
theorem dX10_passAll_274 : decode cX10_passAll 274 = .ok (.iastore, 1) := by decide +kernel
theorem dX10_passAll_275 : decode cX10_passAll 275 = .ok (.iinc 1 1, 3) := by decide +kernel
theorem dX10_passAll_278 : decode cX10_passAll 278 = .ok (.goto (-25), 3) := by decide +kernel
theorem dX10_passAll_281 : decode cX10_passAll 281 = .ok (.iconst 0, 1) := by decide +kernel
theorem dX10_passAll_282 : decode cX10_passAll 282 = .ok (.istore_n 1, 1) := by decide +kernel
theorem dX10_passAll_283 : decode cX10_passAll 283 = .ok (.iload_n 1, 1) := by decide +kernel
theorem dX10_passAll_284 : decode cX10_passAll 284 = .ok (.bipush 56, 2) := by decide +kernel
theorem dX10_passAll_286 : decode cX10_passAll 286 = .ok (.if_icmp .ge 73, 3) := by decide +kernel
theorem dX10_passAll_289 : decode cX10_passAll 289 = .ok (.aload_n 0, 1) := by decide +kernel
theorem dX10_passAll_290 : decode cX10_passAll 290 = .ok (.getfield 40, 3) := by decide +kernel
theorem dX10_passAll_293 : decode cX10_passAll 293 = .ok (.iload_n 1, 1) := by decide +kernel
theorem dX10_passAll_294 : decode cX10_passAll 294 = .ok (.aload_n 0, 1) := by decide +kernel
theorem dX10_passAll_295 : decode cX10_passAll 295 = .ok (.aload_n 0, 1) := by decide +kernel
theorem dX10_passAll_296 : decode cX10_passAll 296 = .ok (.getfield 40, 3) := by decide +kernel
theorem dX10_passAll_299 : decode cX10_passAll 299 = .ok (.iload_n 1, 1) := by decide +kernel
theorem dX10_passAll_300 : decode cX10_passAll 300 = .ok (.iaload, 1) := by decide +kernel
theorem dX10_passAll_301 : decode cX10_passAll 301 = .ok (.invokevirtual 297, 3) := by decide +kernel
theorem dX10_passAll_304 : decode cX10_passAll 304 = .ok (.iastore, 1) := by decide +kernel
theorem dX10_passAll_305 : decode cX10_passAll 305 = .ok (.aload_n 0, 1) := by decide +kernel
theorem dX10_passAll_306 : decode cX10_passAll 306 = .ok (.getfield 43, 3) := by decide +kernel
theorem dX10_passAll_309 : decode cX10_passAll 309 = .ok (.iload_n 1, 1) := by decide +kernel
theorem dX10_passAll_310 : decode cX10_passAll 310 = .ok (.aload_n 0, 1) := by decide +kernel
theorem dX10_passAll_311 : decode cX10_passAll 311 = .ok (.aload_n 0, 1) := by decide +kernel
theorem dX10_passAll_312 : decode cX10_passAll 312 = .ok (.getfield 43, 3) := by decide +kernel
theorem dX10_passAll_315 : decode cX10_passAll 315 = .ok (.iload_n 1, 1) := by decide +kernel
theorem dX10_passAll_316 : decode cX10_passAll 316 = .ok (.iaload, 1) := by decide +kernel
theorem dX10_passAll_317 : decode cX10_passAll 317 = .ok (.invokevirtual 297, 3) := by decide +kernel
theorem dX10_passAll_320 : decode cX10_passAll 320 = .ok (.iastore, 1) := by decide +kernel
theorem dX10_passAll_321 : decode cX10_passAll 321 = .ok (.aload_n 0, 1) := by decide +kernel
theorem dX10_passAll_322 : decode cX10_passAll 322 = .ok (.getfield 46, 3) := by decide +kernel
theorem dX10_passAll_325 : decode cX10_passAll 325 = .ok (.iload_n 1, 1) := by decide +kernel
theorem dX10_passAll_326 : decode cX10_passAll 326 = .ok (.aload_n 0, 1) := by decide +kernel
theorem dX10_passAll_327 : decode cX10_passAll 327 = .ok (.aload_n 0, 1) := by decide +kernel
theorem dX10_passAll_328 : decode cX10_passAll 328 = .ok (.getfield 46, 3) := by decide +kernel
theorem dX10_passAll_331 : decode cX10_passAll 331 = .ok (.iload_n 1, 1) := by decide +kernel
theorem dX10_passAll_332 : decode cX10_passAll 332 = .ok (.iaload, 1) := by decide +kernel
theorem dX10_passAll_333 : decode cX10_passAll 333 = .ok (.invokevirtual 297, 3) := by decide +kernel
theorem dX10_passAll_336 : decode cX10_passAll 336 = .ok (.iastore, 1) := by decide +kernel
theorem dX10_passAll_337 : decode cX10_passAll 337 = .ok (.aload_n 0, 1) := by decide +kernel
theorem dX10_passAll_338 : decode cX10_passAll 338 = .ok (.getfield 49, 3) := by decide +kernel
theorem dX10_passAll_341 : decode cX10_passAll 341 = .ok (.iload_n 1, 1) := by decide +kernel
theorem dX10_passAll_342 : decode cX10_passAll 342 = .ok (.aload_n 0, 1) := by decide +kernel
theorem dX10_passAll_343 : decode cX10_passAll 343 = .ok (.aload_n 0, 1) := by decide +kernel
theorem dX10_passAll_344 : decode cX10_passAll 344 = .ok (.getfield 49, 3) := by decide +kernel
theorem dX10_passAll_347 : decode cX10_passAll 347 = .ok (.iload_n 1, 1) := by decide +kernel
theorem dX10_passAll_348 : decode cX10_passAll 348 = .ok (.iaload, 1) := by decide +kernel
theorem dX10_passAll_349 : decode cX10_passAll 349 = .ok (.invokevirtual 297, 3) := by decide +kernel
theorem dX10_passAll_352 : decode cX10_passAll 352 = .ok (.iastore, 1) := by decide +kernel
theorem dX10_passAll_353 : decode cX10_passAll 353 = .ok (.iinc 1 1, 3) := by decide +kernel
theorem dX10_passAll_356 : decode cX10_passAll 356 = .ok (.goto (-73), 3) := by decide +kernel
theorem dX10_passAll_359 : decode cX10_passAll 359 = .ok (.iconst 0, 1) := by decide +kernel
theorem dX10_passAll_360 : decode cX10_passAll 360 = .ok (.istore_n 1, 1) := by decide +kernel
theorem dX10_passAll_361 : decode cX10_passAll 361 = .ok (.iload_n 1, 1) := by decide +kernel
theorem dX10_passAll_362 : decode cX10_passAll 362 = .ok (.iconst 4, 1) := by decide +kernel
theorem dX10_passAll_363 : decode cX10_passAll 363 = .ok (.if_icmp .ge 73, 3) := by decide +kernel
theorem dX10_passAll_366 : decode cX10_passAll 366 = .ok (.aload_n 0, 1) := by decide +kernel
theorem dX10_passAll_367 : decode cX10_passAll 367 = .ok (.getfield 52, 3) := by decide +kernel
theorem dX10_passAll_370 : decode cX10_passAll 370 = .ok (.iload_n 1, 1) := by decide +kernel
theorem dX10_passAll_371 : decode cX10_passAll 371 = .ok (.aload_n 0, 1) := by decide +kernel
theorem dX10_passAll_372 : decode cX10_passAll 372 = .ok (.aload_n 0, 1) := by decide +kernel
theorem dX10_passAll_373 : decode cX10_passAll 373 = .ok (.getfield 52, 3) := by decide +kernel
theorem dX10_passAll_376 : decode cX10_passAll 376 = .ok (.iload_n 1, 1) := by decide +kernel
theorem dX10_passAll_377 : decode cX10_passAll 377 = .ok (.iaload, 1) := by decide +kernel
theorem dX10_passAll_378 : decode cX10_passAll 378 = .ok (.invokevirtual 297, 3) := by decide +kernel
theorem dX10_passAll_381 : decode cX10_passAll 381 = .ok (.iastore, 1) := by decide +kernel
theorem dX10_passAll_382 : decode cX10_passAll 382 = .ok (.aload_n 0, 1) := by decide +kernel
theorem dX10_passAll_383 : decode cX10_passAll 383 = .ok (.getfield 55, 3) := by decide +kernel
theorem dX10_passAll_386 : decode cX10_passAll 386 = .ok (.iload_n 1, 1) := by decide +kernel
theorem dX10_passAll_387 : decode cX10_passAll 387 = .ok (.aload_n 0, 1) := by decide +kernel
theorem dX10_passAll_388 : decode cX10_passAll 388 = .ok (.aload_n 0, 1) := by decide +kernel
theorem dX10_passAll_389 : decode cX10_passAll 389 = .ok (.getfield 55, 3) := by decide +kernel
theorem dX10_passAll_392 : decode cX10_passAll 392 = .ok (.iload_n 1, 1) := by decide +kernel
theorem dX10_passAll_393 : decode cX10_passAll 393 = .ok (.iaload, 1) := by decide +kernel
theorem dX10_passAll_394 : decode cX10_passAll 394 = .ok (.invokevirtual 297, 3) := by decide +kernel
theorem dX10_passAll_397 : decode cX10_passAll 397 = .ok (.iastore, 1) := by decide +kernel
theorem dX10_passAll_398 : decode cX10_passAll 398 = .ok (.aload_n 0, 1) := by decide +kernel
theorem dX10_passAll_399 : decode cX10_passAll 399 = .ok (.getfield 58, 3) := by decide +kernel
theorem dX10_passAll_402 : decode cX10_passAll 402 = .ok (.iload_n 1, 1) := by decide +kernel
theorem dX10_passAll_403 : decode cX10_passAll 403 = .ok (.aload_n 0, 1) := by decide +kernel
theorem dX10_passAll_404 : decode cX10_passAll 404 = .ok (.aload_n 0, 1) := by decide +kernel
theorem dX10_passAll_405 : decode cX10_passAll 405 = .ok (.getfield 58, 3) := by decide +kernel
theorem dX10_passAll_408 : decode cX10_passAll 408 = .ok (.iload_n 1, 1) := by decide +kernel
theorem dX10_passAll_409 : decode cX10_passAll 409 = .ok (.iaload, 1) := by decide +kernel
theorem dX10_passAll_410 : decode cX10_passAll 410 = .ok (.invokevirtual 297, 3) := by decide +kernel
theorem dX10_passAll_413 : decode cX10_passAll 413 = .ok (.iastore, 1) := by decide +kernel
theorem dX10_passAll_414 : decode cX10_passAll 414 = .ok (.aload_n 0, 1) := by decide +kernel
theorem dX10_passAll_415 : decode cX10_passAll 415 = .ok (.getfield 61, 3) := by decide +kernel
theorem dX10_passAll_418 : decode cX10_passAll 418 = .ok (.iload_n 1, 1) := by decide +kernel
theorem dX10_passAll_419 : decode cX10_passAll 419 = .ok (.aload_n 0, 1) := by decide +kernel
theorem dX10_passAll_420 : decode cX10_passAll 420 = .ok (.aload_n 0, 1) := by decide +kernel
theorem dX10_passAll_421 : decode cX10_passAll 421 = .ok (.getfield 61, 3) := by decide +kernel
theorem dX10_passAll_424 : decode cX10_passAll 424 = .ok (.iload_n 1, 1) := by decide +kernel
theorem dX10_passAll_425 : decode cX10_passAll 425 = .ok (.iaload, 1) := by decide +kernel
theorem dX10_passAll_426 : decode cX10_passAll 426 = .ok (.invokevirtual 297, 3) := by decide +kernel
theorem dX10_passAll_429 : decode cX10_passAll 429 = .ok (.iastore, 1) := by decide +kernel
theorem dX10_passAll_430 : decode cX10_passAll 430 = .ok (.iinc 1 1, 3) := by decide +kernel
theorem dX10_passAll_433 : decode cX10_passAll 433 = .ok (.goto (-72), 3) := by decide +kernel
theorem dX10_passAll_436 : decode cX10_passAll 436 = .ok (.return_, 1) := by decide +kernel
set_option maxRecDepth 20000 in
theorem ggX10_image_X10_isEnd : GoodIn wsX10_image wsX10_isEnd := goodIn_r _ [7, 8, 9, 6, 10] (by decide +kernel) (by decide +kernel)
set_option maxRecDepth 20000 in
theorem gX10_image_X10_isEnd : GoodIn wsX10_image (va_wsS RX10 122 yX10_isEnd wsX10_isEnd) := goodIn_app (goodIn_of _ (by decide +kernel)) ggX10_image_X10_isEnd
set_option maxRecDepth 20000 in
theorem ggX10_image_X10_passAll : GoodIn wsX10_image wsX10_passAll := goodIn_r _ [14, 15, 16, 17, 18, 19, 20, 21, 22, 23, 24, 25, 26, 27, 28, 29, 30, 31, 32, 33, 34, 35, 36, 37, 38, 39, 40, 41, 42, 6, 43, 2, 44, 1, 45, 46, 47, 48, 49, 50, 51, 52, 53, 54, 55, 56, 57, 58, 59, 60, 61, 62, 63, 64, 65, 66, 67, 68, 69, 70, 71, 72, 73, 74, 75, 76, 77, 78, 79, 80, 81, 82, 83, 84] (by decide +kernel) (by decide +kernel)
set_option maxRecDepth 20000 in
theorem gX10_image_X10_passAll : GoodIn wsX10_image (wsV RX10 300 RX10 yX10_passAll wsX10_passAll) := goodIn_app (goodIn_of _ (by decide +kernel)) ggX10_image_X10_passAll
theorem dX10_image_0 : decode cX10_image 0 = .ok (.iload_n 1, 1) := by decide +kernel
theorem dX10_image_1 : decode cX10_image 1 = .ok (.invokestatic 122, 3) := by decide +kernel
theorem dX10_image_4 : decode cX10_image 4 = .ok (.ifCond .ne 6, 3) := by decide +kernel
theorem dX10_image_7 : decode cX10_image 7 = .ok (.bipush (-2), 2) := by decide +kernel
theorem dX10_image_9 : decode cX10_image 9 = .ok (.ireturn, 1) := by decide +kernel
theorem dX10_image_10 : decode cX10_image 10 = .ok (.aload_n 0, 1) := by decide +kernel
theorem dX10_image_11 : decode cX10_image 11 = .ok (.sipush 800, 3) := by decide +kernel
theorem dX10_image_14 : decode cX10_image 14 = .ok (.iload_n 1, 1) := by decide +kernel
theorem dX10_image_15 : decode cX10_image 15 = .ok (.imul, 1) := by decide +kernel
theorem dX10_image_16 : decode cX10_image 16 = .ok (.putfield 294, 3) := by decide +kernel
theorem dX10_image_19 : decode cX10_image 19 = .ok (.aload_n 0, 1) := by decide +kernel
theorem dX10_image_20 : decode cX10_image 20 = .ok (.iconst 1, 1) := by decide +kernel
theorem dX10_image_21 : decode cX10_image 21 = .ok (.putfield 290, 3) := by decide +kernel
theorem dX10_image_24 : decode cX10_image 24 = .ok (.aload_n 0, 1) := by decide +kernel
theorem dX10_image_25 : decode cX10_image 25 = .ok (.invokevirtual 300, 3) := by decide +kernel
theorem dX10_image_28 : decode cX10_image 28 = .ok (.aload_n 0, 1) := by decide +kernel
theorem dX10_image_29 : decode cX10_image 29 = .ok (.getfield 76, 3) := by decide +kernel
theorem dX10_image_32 : decode cX10_image 32 = .ok (.iload_n 1, 1) := by decide +kernel
theorem dX10_image_33 : decode cX10_image 33 = .ok (.iconst 1, 1) := by decide +kernel
theorem dX10_image_34 : decode cX10_image 34 = .ok (.bastore, 1) := by decide +kernel
theorem dX10_image_35 : decode cX10_image 35 = .ok (.iconst 1, 1) := by decide +kernel
theorem dX10_image_36 : decode cX10_image 36 = .ok (.ireturn, 1) := by decide +kernel
set_option maxRecDepth 20000 in
theorem ggX10_restore_X10_isEnd : GoodIn wsX10_restore wsX10_isEnd := goodIn_r _ [7, 8, 9, 6, 10] (by decide +kernel) (by decide +kernel)
set_option maxRecDepth 20000 in
theorem gX10_restore_X10_isEnd : GoodIn wsX10_restore (va_wsS RX10 122 yX10_isEnd wsX10_isEnd) := goodIn_app (goodIn_of _ (by decide +kernel)) ggX10_restore_X10_isEnd
set_option maxRecDepth 20000 in
theorem ggX10_restore_X10_passAll : GoodIn wsX10_restore wsX10_passAll := goodIn_r _ [14, 15, 16, 17, 18, 19, 20, 21, 22, 23, 24, 25, 26, 27, 28, 29, 30, 31, 32, 33, 34, 35, 36, 37, 38, 39, 40, 41, 42, 6, 43, 3, 44, 2, 45, 46, 47, 48, 49, 50, 51, 52, 53, 54, 55, 56, 57, 58, 59, 60, 61, 62, 63, 64, 65, 66, 67, 68, 69, 70, 71, 72, 73, 74, 75, 76, 77, 78, 79, 80, 81, 82, 83, 84] (by decide +kernel) (by decide +kernel)
set_option maxRecDepth 20000 in
theorem gX10_restore_X10_passAll : GoodIn wsX10_restore (wsV RX10 300 RX10 yX10_passAll wsX10_passAll) := goodIn_app (goodIn_of _ (by decide +kernel)) ggX10_restore_X10_passAll
theorem dX10_restore_0 : decode cX10_restore 0 = .ok (.iload_n 1, 1) := by decide +kernel
theorem dX10_restore_1 : decode cX10_restore 1 = .ok (.invokestatic 122, 3) := by decide +kernel
theorem dX10_restore_4 : decode cX10_restore 4 = .ok (.ifCond .ne 6, 3) := by decide +kernel
theorem dX10_restore_7 : decode cX10_restore 7 = .ok (.bipush (-2), 2) := by decide +kernel
theorem dX10_restore_9 : decode cX10_restore 9 = .ok (.ireturn, 1) := by decide +kernel
theorem dX10_restore_10 : decode cX10_restore 10 = .ok (.aload_n 0, 1) := by decide +kernel
theorem dX10_restore_11 : decode cX10_restore 11 = .ok (.getfield 76, 3) := by decide +kernel
theorem dX10_restore_14 : decode cX10_restore 14 = .ok (.iload_n 1, 1) := by decide +kernel
theorem dX10_restore_15 : decode cX10_restore 15 = .ok (.baload, 1) := by decide +kernel
theorem dX10_restore_16 : decode cX10_restore 16 = .ok (.ifCond .ne 6, 3) := by decide +kernel
theorem dX10_restore_19 : decode cX10_restore 19 = .ok (.bipush (-3), 2) := by decide +kernel
theorem dX10_restore_21 : decode cX10_restore 21 = .ok (.ireturn, 1) := by decide +kernel
theorem dX10_restore_22 : decode cX10_restore 22 = .ok (.aload_n 0, 1) := by decide +kernel
theorem dX10_restore_23 : decode cX10_restore 23 = .ok (.sipush 800, 3) := by decide +kernel
theorem dX10_restore_26 : decode cX10_restore 26 = .ok (.iload_n 1, 1) := by decide +kernel
theorem dX10_restore_27 : decode cX10_restore 27 = .ok (.imul, 1) := by decide +kernel
theorem dX10_restore_28 : decode cX10_restore 28 = .ok (.putfield 294, 3) := by decide +kernel
theorem dX10_restore_31 : decode cX10_restore 31 = .ok (.aload_n 0, 1) := by decide +kernel
theorem dX10_restore_32 : decode cX10_restore 32 = .ok (.iconst 0, 1) := by decide +kernel
theorem dX10_restore_33 : decode cX10_restore 33 = .ok (.putfield 290, 3) := by decide +kernel
theorem dX10_restore_36 : decode cX10_restore 36 = .ok (.aload_n 0, 1) := by decide +kernel
theorem dX10_restore_37 : decode cX10_restore 37 = .ok (.invokevirtual 300, 3) := by decide +kernel
theorem dX10_restore_40 : decode cX10_restore 40 = .ok (.iconst 1, 1) := by decide +kernel
theorem dX10_restore_41 : decode cX10_restore 41 = .ok (.ireturn, 1) := by decide +kernel
set_option maxRecDepth 20000 in
theorem ggX10_told_X10_in : GoodIn wsX10_told wsX10_in := goodIn_r _ [15] (by decide +kernel) (by decide +kernel)
set_option maxRecDepth 20000 in
theorem gX10_told_X10_in : GoodIn wsX10_told (va_wsS RX10 99 yX10_in wsX10_in) := goodIn_app (goodIn_of _ (by decide +kernel)) ggX10_told_X10_in
theorem dX10_told_0 : decode cX10_told 0 = .ok (.iload_n 1, 1) := by decide +kernel
theorem dX10_told_1 : decode cX10_told 1 = .ok (.i2l, 1) := by decide +kernel
theorem dX10_told_2 : decode cX10_told 2 = .ok (.ldc2_w 200, 3) := by decide +kernel
theorem dX10_told_5 : decode cX10_told 5 = .ok (.ldc2_w 303, 3) := by decide +kernel
theorem dX10_told_8 : decode cX10_told 8 = .ok (.invokestatic 99, 3) := by decide +kernel
theorem dX10_told_11 : decode cX10_told 11 = .ok (.ifCond .eq 13, 3) := by decide +kernel
theorem dX10_told_14 : decode cX10_told 14 = .ok (.aload_n 0, 1) := by decide +kernel
theorem dX10_told_15 : decode cX10_told 15 = .ok (.getfield 34, 3) := by decide +kernel
theorem dX10_told_18 : decode cX10_told 18 = .ok (.iload_n 1, 1) := by decide +kernel
theorem dX10_told_19 : decode cX10_told 19 = .ok (.bipush 10, 2) := by decide +kernel
theorem dX10_told_21 : decode cX10_told 21 = .ok (.isub, 1) := by decide +kernel
theorem dX10_told_22 : decode cX10_told 22 = .ok (.iaload, 1) := by decide +kernel
theorem dX10_told_23 : decode cX10_told 23 = .ok (.ireturn, 1) := by decide +kernel
theorem dX10_told_24 : decode cX10_told 24 = .ok (.iload_n 1, 1) := by decide +kernel
theorem dX10_told_25 : decode cX10_told 25 = .ok (.tableswitch 87 0 7 #[47, 52, 57, 62, 67, 72, 77, 82], 47) := by decide +kernel
theorem dX10_told_72 : decode cX10_told 72 = .ok (.aload_n 0, 1) := by decide +kernel
theorem dX10_told_73 : decode cX10_told 73 = .ok (.getfield 111, 3) := by decide +kernel
theorem dX10_told_76 : decode cX10_told 76 = .ok (.ireturn, 1) := by decide +kernel
theorem dX10_told_77 : decode cX10_told 77 = .ok (.aload_n 0, 1) := by decide +kernel
theorem dX10_told_78 : decode cX10_told 78 = .ok (.getfield 141, 3) := by decide +kernel
theorem dX10_told_81 : decode cX10_told 81 = .ok (.ireturn, 1) := by decide +kernel
theorem dX10_told_82 : decode cX10_told 82 = .ok (.aload_n 0, 1) := by decide +kernel
theorem dX10_told_83 : decode cX10_told 83 = .ok (.getfield 84, 3) := by decide +kernel
theorem dX10_told_86 : decode cX10_told 86 = .ok (.ireturn, 1) := by decide +kernel
theorem dX10_told_87 : decode cX10_told 87 = .ok (.aload_n 0, 1) := by decide +kernel
theorem dX10_told_88 : decode cX10_told 88 = .ok (.getfield 87, 3) := by decide +kernel
theorem dX10_told_91 : decode cX10_told 91 = .ok (.ireturn, 1) := by decide +kernel
theorem dX10_told_92 : decode cX10_told 92 = .ok (.aload_n 0, 1) := by decide +kernel
theorem dX10_told_93 : decode cX10_told 93 = .ok (.getfield 90, 3) := by decide +kernel
theorem dX10_told_96 : decode cX10_told 96 = .ok (.ireturn, 1) := by decide +kernel
theorem dX10_told_97 : decode cX10_told 97 = .ok (.aload_n 0, 1) := by decide +kernel
theorem dX10_told_98 : decode cX10_told 98 = .ok (.getfield 93, 3) := by decide +kernel
theorem dX10_told_101 : decode cX10_told 101 = .ok (.ireturn, 1) := by decide +kernel
theorem dX10_told_102 : decode cX10_told 102 = .ok (.aload_n 0, 1) := by decide +kernel
theorem dX10_told_103 : decode cX10_told 103 = .ok (.getfield 96, 3) := by decide +kernel
theorem dX10_told_106 : decode cX10_told 106 = .ok (.ireturn, 1) := by decide +kernel
theorem dX10_told_107 : decode cX10_told 107 = .ok (.aload_n 0, 1) := by decide +kernel
theorem dX10_told_108 : decode cX10_told 108 = .ok (.getfield 262, 3) := by decide +kernel
theorem dX10_told_111 : decode cX10_told 111 = .ok (.ireturn, 1) := by decide +kernel
theorem dX10_told_112 : decode cX10_told 112 = .ok (.bipush (-2), 2) := by decide +kernel
theorem dX10_told_114 : decode cX10_told 114 = .ok (.ireturn, 1) := by decide +kernel
