theorem dX10_init_0 : decode cX10_init 0 = .ok (.aload_n 0, 1) := by decide +kernel
theorem dX10_init_1 : decode cX10_init 1 = .ok (.invokespecial 1, 3) := by decide +kernel
theorem dX10_init_4 : decode cX10_init 4 = .ok (.aload_n 0, 1) := by decide +kernel
theorem dX10_init_5 : decode cX10_init 5 = .ok (.bipush 60, 2) := by decide +kernel
theorem dX10_init_7 : decode cX10_init 7 = .ok (.newarray .int, 2) := by decide +kernel
theorem dX10_init_9 : decode cX10_init 9 = .ok (.putfield 7, 3) := by decide +kernel
theorem dX10_init_12 : decode cX10_init 12 = .ok (.aload_n 0, 1) := by decide +kernel
theorem dX10_init_13 : decode cX10_init 13 = .ok (.bipush 60, 2) := by decide +kernel
theorem dX10_init_15 : decode cX10_init 15 = .ok (.newarray .int, 2) := by decide +kernel
theorem dX10_init_17 : decode cX10_init 17 = .ok (.putfield 13, 3) := by decide +kernel
theorem dX10_init_20 : decode cX10_init 20 = .ok (.aload_n 0, 1) := by decide +kernel
theorem dX10_init_21 : decode cX10_init 21 = .ok (.bipush 60, 2) := by decide +kernel
theorem dX10_init_23 : decode cX10_init 23 = .ok (.newarray .int, 2) := by decide +kernel
theorem dX10_init_25 : decode cX10_init 25 = .ok (.putfield 16, 3) := by decide +kernel
theorem dX10_init_28 : decode cX10_init 28 = .ok (.aload_n 0, 1) := by decide +kernel
theorem dX10_init_29 : decode cX10_init 29 = .ok (.bipush 60, 2) := by decide +kernel
theorem dX10_init_31 : decode cX10_init 31 = .ok (.newarray .int, 2) := by decide +kernel
theorem dX10_init_33 : decode cX10_init 33 = .ok (.putfield 19, 3) := by decide +kernel
theorem dX10_init_36 : decode cX10_init 36 = .ok (.aload_n 0, 1) := by decide +kernel
theorem dX10_init_37 : decode cX10_init 37 = .ok (.bipush 60, 2) := by decide +kernel
theorem dX10_init_39 : decode cX10_init 39 = .ok (.newarray .int, 2) := by decide +kernel
theorem dX10_init_41 : decode cX10_init 41 = .ok (.putfield 22, 3) := by decide +kernel
theorem dX10_init_44 : decode cX10_init 44 = .ok (.aload_n 0, 1) := by decide +kernel
theorem dX10_init_45 : decode cX10_init 45 = .ok (.bipush 60, 2) := by decide +kernel
theorem dX10_init_47 : decode cX10_init 47 = .ok (.newarray .int, 2) := by decide +kernel
theorem dX10_init_49 : decode cX10_init 49 = .ok (.putfield 25, 3) := by decide +kernel
theorem dX10_init_52 : decode cX10_init 52 = .ok (.aload_n 0, 1) := by decide +kernel
theorem dX10_init_53 : decode cX10_init 53 = .ok (.bipush 60, 2) := by decide +kernel
theorem dX10_init_55 : decode cX10_init 55 = .ok (.newarray .int, 2) := by decide +kernel
theorem dX10_init_57 : decode cX10_init 57 = .ok (.putfield 28, 3) := by decide +kernel
theorem dX10_init_60 : decode cX10_init 60 = .ok (.aload_n 0, 1) := by decide +kernel
theorem dX10_init_61 : decode cX10_init 61 = .ok (.bipush 50, 2) := by decide +kernel
theorem dX10_init_63 : decode cX10_init 63 = .ok (.newarray .int, 2) := by decide +kernel
theorem dX10_init_65 : decode cX10_init 65 = .ok (.putfield 31, 3) := by decide +kernel
theorem dX10_init_68 : decode cX10_init 68 = .ok (.aload_n 0, 1) := by decide +kernel
theorem dX10_init_69 : decode cX10_init 69 = .ok (.iconst 4, 1) := by decide +kernel
theorem dX10_init_70 : decode cX10_init 70 = .ok (.newarray .int, 2) := by decide +kernel
theorem dX10_init_72 : decode cX10_init 72 = .ok (.putfield 34, 3) := by decide +kernel
theorem dX10_init_75 : decode cX10_init 75 = .ok (.aload_n 0, 1) := by decide +kernel
theorem dX10_init_76 : decode cX10_init 76 = .ok (.bipush 60, 2) := by decide +kernel
theorem dX10_init_78 : decode cX10_init 78 = .ok (.newarray .int, 2) := by decide +kernel
theorem dX10_init_80 : decode cX10_init 80 = .ok (.putfield 37, 3) := by decide +kernel
theorem dX10_init_83 : decode cX10_init 83 = .ok (.aload_n 0, 1) := by decide +kernel
theorem dX10_init_84 : decode cX10_init 84 = .ok (.bipush 56, 2) := by decide +kernel
theorem dX10_init_86 : decode cX10_init 86 = .ok (.newarray .int, 2) := by decide +kernel
theorem dX10_init_88 : decode cX10_init 88 = .ok (.putfield 40, 3) := by decide +kernel
theorem dX10_init_91 : decode cX10_init 91 = .ok (.aload_n 0, 1) := by decide +kernel
theorem dX10_init_92 : decode cX10_init 92 = .ok (.bipush 56, 2) := by decide +kernel
theorem dX10_init_94 : decode cX10_init 94 = .ok (.newarray .int, 2) := by decide +kernel
theorem dX10_init_96 : decode cX10_init 96 = .ok (.putfield 43, 3) := by decide +kernel
theorem dX10_init_99 : decode cX10_init 99 = .ok (.aload_n 0, 1) := by decide +kernel
theorem dX10_init_100 : decode cX10_init 100 = .ok (.bipush 56, 2) := by decide +kernel
theorem dX10_init_102 : decode cX10_init 102 = .ok (.newarray .int, 2) := by decide +kernel
theorem dX10_init_104 : decode cX10_init 104 = .ok (.putfield 46, 3) := by decide +kernel
theorem dX10_init_107 : decode cX10_init 107 = .ok (.aload_n 0, 1) := by decide +kernel
theorem dX10_init_108 : decode cX10_init 108 = .ok (.bipush 56, 2) := by decide +kernel
theorem dX10_init_110 : decode cX10_init 110 = .ok (.newarray .int, 2) := by decide +kernel
theorem dX10_init_112 : decode cX10_init 112 = .ok (.putfield 49, 3) := by decide +kernel
theorem dX10_init_115 : decode cX10_init 115 = .ok (.aload_n 0, 1) := by decide +kernel
theorem dX10_init_116 : decode cX10_init 116 = .ok (.iconst 4, 1) := by decide +kernel
theorem dX10_init_117 : decode cX10_init 117 = .ok (.newarray .int, 2) := by decide +kernel
theorem dX10_init_119 : decode cX10_init 119 = .ok (.putfield 52, 3) := by decide +kernel
theorem dX10_init_122 : decode cX10_init 122 = .ok (.aload_n 0, 1) := by decide +kernel
theorem dX10_init_123 : decode cX10_init 123 = .ok (.iconst 4, 1) := by decide +kernel
theorem dX10_init_124 : decode cX10_init 124 = .ok (.newarray .int, 2) := by decide +kernel
theorem dX10_init_126 : decode cX10_init 126 = .ok (.putfield 55, 3) := by decide +kernel
theorem dX10_init_129 : decode cX10_init 129 = .ok (.aload_n 0, 1) := by decide +kernel
theorem dX10_init_130 : decode cX10_init 130 = .ok (.iconst 4, 1) := by decide +kernel
theorem dX10_init_131 : decode cX10_init 131 = .ok (.newarray .int, 2) := by decide +kernel
theorem dX10_init_133 : decode cX10_init 133 = .ok (.putfield 58, 3) := by decide +kernel
theorem dX10_init_136 : decode cX10_init 136 = .ok (.aload_n 0, 1) := by decide +kernel
theorem dX10_init_137 : decode cX10_init 137 = .ok (.iconst 4, 1) := by decide +kernel
theorem dX10_init_138 : decode cX10_init 138 = .ok (.newarray .int, 2) := by decide +kernel
theorem dX10_init_140 : decode cX10_init 140 = .ok (.putfield 61, 3) := by decide +kernel
theorem dX10_init_143 : decode cX10_init 143 = .ok (.aload_n 0, 1) := by decide +kernel
theorem dX10_init_144 : decode cX10_init 144 = .ok (.bipush 9, 2) := by decide +kernel
theorem dX10_init_146 : decode cX10_init 146 = .ok (.newarray .int, 2) := by decide +kernel
theorem dX10_init_148 : decode cX10_init 148 = .ok (.putfield 64, 3) := by decide +kernel
theorem dX10_init_151 : decode cX10_init 151 = .ok (.aload_n 0, 1) := by decide +kernel
theorem dX10_init_152 : decode cX10_init 152 = .ok (.bipush 10, 2) := by decide +kernel
theorem dX10_init_154 : decode cX10_init 154 = .ok (.newarray .int, 2) := by decide +kernel
theorem dX10_init_156 : decode cX10_init 156 = .ok (.putfield 67, 3) := by decide +kernel
theorem dX10_init_159 : decode cX10_init 159 = .ok (.aload_n 0, 1) := by decide +kernel
theorem dX10_init_160 : decode cX10_init 160 = .ok (.bipush 10, 2) := by decide +kernel
theorem dX10_init_162 : decode cX10_init 162 = .ok (.newarray .int, 2) := by decide +kernel
theorem dX10_init_164 : decode cX10_init 164 = .ok (.putfield 70, 3) := by decide +kernel
theorem dX10_init_167 : decode cX10_init 167 = .ok (.aload_n 0, 1) := by decide +kernel
theorem dX10_init_168 : decode cX10_init 168 = .ok (.sipush 1600, 3) := by decide +kernel
theorem dX10_init_171 : decode cX10_init 171 = .ok (.newarray .int, 2) := by decide +kernel
theorem dX10_init_173 : decode cX10_init 173 = .ok (.putfield 73, 3) := by decide +kernel
theorem dX10_init_176 : decode cX10_init 176 = .ok (.aload_n 0, 1) := by decide +kernel
theorem dX10_init_177 : decode cX10_init 177 = .ok (.iconst 2, 1) := by decide +kernel
theorem dX10_init_178 : decode cX10_init 178 = .ok (.newarray .boolean, 2) := by decide +kernel
theorem dX10_init_180 : decode cX10_init 180 = .ok (.putfield 76, 3) := by decide +kernel
theorem dX10_init_183 : decode cX10_init 183 = .ok (.aload_n 0, 1) := by decide +kernel
theorem dX10_init_184 : decode cX10_init 184 = .ok (.bipush 50, 2) := by decide +kernel
theorem dX10_init_186 : decode cX10_init 186 = .ok (.putfield 80, 3) := by decide +kernel
theorem dX10_init_189 : decode cX10_init 189 = .ok (.aload_n 0, 1) := by decide +kernel
theorem dX10_init_190 : decode cX10_init 190 = .ok (.bipush 50, 2) := by decide +kernel
theorem dX10_init_192 : decode cX10_init 192 = .ok (.putfield 84, 3) := by decide +kernel
theorem dX10_init_195 : decode cX10_init 195 = .ok (.aload_n 0, 1) := by decide +kernel
theorem dX10_init_196 : decode cX10_init 196 = .ok (.iconst 2, 1) := by decide +kernel
theorem dX10_init_197 : decode cX10_init 197 = .ok (.putfield 87, 3) := by decide +kernel
theorem dX10_init_200 : decode cX10_init 200 = .ok (.aload_n 0, 1) := by decide +kernel
theorem dX10_init_201 : decode cX10_init 201 = .ok (.iconst 4, 1) := by decide +kernel
theorem dX10_init_202 : decode cX10_init 202 = .ok (.putfield 90, 3) := by decide +kernel
theorem dX10_init_205 : decode cX10_init 205 = .ok (.aload_n 0, 1) := by decide +kernel
theorem dX10_init_206 : decode cX10_init 206 = .ok (.iconst 5, 1) := by decide +kernel
theorem dX10_init_207 : decode cX10_init 207 = .ok (.putfield 93, 3) := by decide +kernel
theorem dX10_init_210 : decode cX10_init 210 = .ok (.aload_n 0, 1) := by decide +kernel
theorem dX10_init_211 : decode cX10_init 211 = .ok (.iconst 3, 1) := by decide +kernel
theorem dX10_init_212 : decode cX10_init 212 = .ok (.putfield 96, 3) := by decide +kernel
theorem dX10_init_215 : decode cX10_init 215 = .ok (.return_, 1) := by decide +kernel
theorem dX10_in_0 : decode cX10_in 0 = .ok (.lload_n 0, 1) := by decide +kernel
theorem dX10_in_1 : decode cX10_in 1 = .ok (.lload_n 2, 1) := by decide +kernel
theorem dX10_in_2 : decode cX10_in 2 = .ok (.lcmp, 1) := by decide +kernel
theorem dX10_in_3 : decode cX10_in 3 = .ok (.ifCond .lt 14, 3) := by decide +kernel
theorem dX10_in_6 : decode cX10_in 6 = .ok (.lload_n 0, 1) := by decide +kernel
theorem dX10_in_7 : decode cX10_in 7 = .ok (.lload 4, 2) := by decide +kernel
theorem dX10_in_9 : decode cX10_in 9 = .ok (.lcmp, 1) := by decide +kernel
theorem dX10_in_10 : decode cX10_in 10 = .ok (.ifCond .gt 7, 3) := by decide +kernel
theorem dX10_in_13 : decode cX10_in 13 = .ok (.iconst 1, 1) := by decide +kernel
theorem dX10_in_14 : decode cX10_in 14 = .ok (.goto 4, 3) := by decide +kernel
theorem dX10_in_17 : decode cX10_in 17 = .ok (.iconst 0, 1) := by decide +kernel
theorem dX10_in_18 : decode cX10_in 18 = .ok (.ireturn, 1) := by decide +kernel
theorem dX10_apart_0 : decode cX10_apart 0 = .ok (.iload_n 0, 1) := by decide +kernel
theorem dX10_apart_1 : decode cX10_apart 1 = .ok (.iload_n 1, 1) := by decide +kernel
theorem dX10_apart_2 : decode cX10_apart 2 = .ok (.if_icmp .ge 9, 3) := by decide +kernel
theorem dX10_apart_5 : decode cX10_apart 5 = .ok (.iload_n 1, 1) := by decide +kernel
theorem dX10_apart_6 : decode cX10_apart 6 = .ok (.iload_n 0, 1) := by decide +kernel
theorem dX10_apart_7 : decode cX10_apart 7 = .ok (.isub, 1) := by decide +kernel
theorem dX10_apart_8 : decode cX10_apart 8 = .ok (.goto 6, 3) := by decide +kernel
theorem dX10_apart_11 : decode cX10_apart 11 = .ok (.iload_n 0, 1) := by decide +kernel
theorem dX10_apart_12 : decode cX10_apart 12 = .ok (.iload_n 1, 1) := by decide +kernel
theorem dX10_apart_13 : decode cX10_apart 13 = .ok (.isub, 1) := by decide +kernel
theorem dX10_apart_14 : decode cX10_apart 14 = .ok (.ireturn, 1) := by decide +kernel
set_option maxRecDepth 20000 in
theorem ggX10_isEnd_X10_in : GoodIn wsX10_isEnd wsX10_in := goodIn_r _ [4] (by decide +kernel) (by decide +kernel)
set_option maxRecDepth 20000 in
theorem gX10_isEnd_X10_in : GoodIn wsX10_isEnd (va_wsS RX10 99 yX10_in wsX10_in) := goodIn_app (goodIn_of _ (by decide +kernel)) ggX10_isEnd_X10_in
theorem dX10_isEnd_0 : decode cX10_isEnd 0 = .ok (.iload_n 0, 1) := by decide +kernel
theorem dX10_isEnd_1 : decode cX10_isEnd 1 = .ok (.i2l, 1) := by decide +kernel
theorem dX10_isEnd_2 : decode cX10_isEnd 2 = .ok (.lconst 0, 1) := by decide +kernel
theorem dX10_isEnd_3 : decode cX10_isEnd 3 = .ok (.lconst 1, 1) := by decide +kernel
theorem dX10_isEnd_4 : decode cX10_isEnd 4 = .ok (.invokestatic 99, 3) := by decide +kernel
theorem dX10_isEnd_7 : decode cX10_isEnd 7 = .ok (.ireturn, 1) := by decide +kernel
theorem dX10_lowest_0 : decode cX10_lowest 0 = .ok (.lload_n 0, 1) := by decide +kernel
theorem dX10_lowest_1 : decode cX10_lowest 1 = .ok (.lstore 5, 2) := by decide +kernel
theorem dX10_lowest_3 : decode cX10_lowest 3 = .ok (.lload_n 2, 1) := by decide +kernel
theorem dX10_lowest_4 : decode cX10_lowest 4 = .ok (.lstore 7, 2) := by decide +kernel
theorem dX10_lowest_6 : decode cX10_lowest 6 = .ok (.lload 7, 2) := by decide +kernel
theorem dX10_lowest_8 : decode cX10_lowest 8 = .ok (.lconst 0, 1) := by decide +kernel
theorem dX10_lowest_9 : decode cX10_lowest 9 = .ok (.lcmp, 1) := by decide +kernel
theorem dX10_lowest_10 : decode cX10_lowest 10 = .ok (.ifCond .eq 21, 3) := by decide +kernel
theorem dX10_lowest_13 : decode cX10_lowest 13 = .ok (.lload 5, 2) := by decide +kernel
theorem dX10_lowest_15 : decode cX10_lowest 15 = .ok (.lload 7, 2) := by decide +kernel
theorem dX10_lowest_17 : decode cX10_lowest 17 = .ok (.lrem, 1) := by decide +kernel
theorem dX10_lowest_18 : decode cX10_lowest 18 = .ok (.lstore 9, 2) := by decide +kernel
theorem dX10_lowest_20 : decode cX10_lowest 20 = .ok (.lload 7, 2) := by decide +kernel
theorem dX10_lowest_22 : decode cX10_lowest 22 = .ok (.lstore 5, 2) := by decide +kernel
theorem dX10_lowest_24 : decode cX10_lowest 24 = .ok (.lload 9, 2) := by decide +kernel
theorem dX10_lowest_26 : decode cX10_lowest 26 = .ok (.lstore 7, 2) := by decide +kernel
theorem dX10_lowest_28 : decode cX10_lowest 28 = .ok (.goto (-22), 3) := by decide +kernel
theorem dX10_lowest_31 : decode cX10_lowest 31 = .ok (.iload 4, 2) := by decide +kernel
theorem dX10_lowest_33 : decode cX10_lowest 33 = .ok (.ifCond .ne 10, 3) := by decide +kernel
theorem dX10_lowest_36 : decode cX10_lowest 36 = .ok (.lload_n 0, 1) := by decide +kernel
theorem dX10_lowest_37 : decode cX10_lowest 37 = .ok (.lload 5, 2) := by decide +kernel
theorem dX10_lowest_39 : decode cX10_lowest 39 = .ok (.ldiv, 1) := by decide +kernel
theorem dX10_lowest_40 : decode cX10_lowest 40 = .ok (.goto 7, 3) := by decide +kernel
theorem dX10_lowest_43 : decode cX10_lowest 43 = .ok (.lload_n 2, 1) := by decide +kernel
theorem dX10_lowest_44 : decode cX10_lowest 44 = .ok (.lload 5, 2) := by decide +kernel
theorem dX10_lowest_46 : decode cX10_lowest 46 = .ok (.ldiv, 1) := by decide +kernel
theorem dX10_lowest_47 : decode cX10_lowest 47 = .ok (.lreturn, 1) := by decide +kernel
set_option maxRecDepth 20000 in
theorem ggX10_hour_X10_in : GoodIn wsX10_hour wsX10_in := goodIn_r _ [8] (by decide +kernel) (by decide +kernel)
set_option maxRecDepth 20000 in
theorem gX10_hour_X10_in : GoodIn wsX10_hour (va_wsS RX10 99 yX10_in wsX10_in) := goodIn_app (goodIn_of _ (by decide +kernel)) ggX10_hour_X10_in
set_option maxRecDepth 20000 in
theorem ggX10_hour_X10_apart : GoodIn wsX10_hour wsX10_apart := goodIn_r _ [11] (by decide +kernel) (by decide +kernel)
set_option maxRecDepth 20000 in
theorem gX10_hour_X10_apart : GoodIn wsX10_hour (va_wsS RX10 105 yX10_apart wsX10_apart) := goodIn_app (goodIn_of _ (by decide +kernel)) ggX10_hour_X10_apart
theorem dX10_hour_0 : decode cX10_hour 0 = .ok (.iload_n 1, 1) := by decide +kernel
theorem dX10_hour_1 : decode cX10_hour 1 = .ok (.i2l, 1) := by decide +kernel
theorem dX10_hour_2 : decode cX10_hour 2 = .ok (.lconst 0, 1) := by decide +kernel
theorem dX10_hour_3 : decode cX10_hour 3 = .ok (.ldc2_w 103, 3) := by decide +kernel
theorem dX10_hour_6 : decode cX10_hour 6 = .ok (.invokestatic 99, 3) := by decide +kernel
theorem dX10_hour_9 : decode cX10_hour 9 = .ok (.ifCond .ne 6, 3) := by decide +kernel
theorem dX10_hour_12 : decode cX10_hour 12 = .ok (.bipush (-2), 2) := by decide +kernel
theorem dX10_hour_14 : decode cX10_hour 14 = .ok (.ireturn, 1) := by decide +kernel
theorem dX10_hour_15 : decode cX10_hour 15 = .ok (.aload_n 0, 1) := by decide +kernel
theorem dX10_hour_16 : decode cX10_hour 16 = .ok (.aload_n 0, 1) := by decide +kernel
theorem dX10_hour_17 : decode cX10_hour 17 = .ok (.getfield 80, 3) := by decide +kernel
theorem dX10_hour_20 : decode cX10_hour 20 = .ok (.iload_n 1, 1) := by decide +kernel
theorem dX10_hour_21 : decode cX10_hour 21 = .ok (.iadd, 1) := by decide +kernel
theorem dX10_hour_22 : decode cX10_hour 22 = .ok (.iconst 2, 1) := by decide +kernel
theorem dX10_hour_23 : decode cX10_hour 23 = .ok (.idiv, 1) := by decide +kernel
theorem dX10_hour_24 : decode cX10_hour 24 = .ok (.putfield 80, 3) := by decide +kernel
theorem dX10_hour_27 : decode cX10_hour 27 = .ok (.aload_n 0, 1) := by decide +kernel
theorem dX10_hour_28 : decode cX10_hour 28 = .ok (.aload_n 0, 1) := by decide +kernel
theorem dX10_hour_29 : decode cX10_hour 29 = .ok (.getfield 80, 3) := by decide +kernel
theorem dX10_hour_32 : decode cX10_hour 32 = .ok (.aload_n 0, 1) := by decide +kernel
theorem dX10_hour_33 : decode cX10_hour 33 = .ok (.getfield 84, 3) := by decide +kernel
theorem dX10_hour_36 : decode cX10_hour 36 = .ok (.invokestatic 105, 3) := by decide +kernel
theorem dX10_hour_39 : decode cX10_hour 39 = .ok (.aload_n 0, 1) := by decide +kernel
theorem dX10_hour_40 : decode cX10_hour 40 = .ok (.getfield 87, 3) := by decide +kernel
theorem dX10_hour_43 : decode cX10_hour 43 = .ok (.if_icmp .le 10, 3) := by decide +kernel
theorem dX10_hour_46 : decode cX10_hour 46 = .ok (.aload_n 0, 1) := by decide +kernel
theorem dX10_hour_47 : decode cX10_hour 47 = .ok (.getfield 80, 3) := by decide +kernel
theorem dX10_hour_50 : decode cX10_hour 50 = .ok (.goto 7, 3) := by decide +kernel
theorem dX10_hour_53 : decode cX10_hour 53 = .ok (.aload_n 0, 1) := by decide +kernel
theorem dX10_hour_54 : decode cX10_hour 54 = .ok (.getfield 84, 3) := by decide +kernel
theorem dX10_hour_57 : decode cX10_hour 57 = .ok (.putfield 84, 3) := by decide +kernel
theorem dX10_hour_60 : decode cX10_hour 60 = .ok (.aload_n 0, 1) := by decide +kernel
theorem dX10_hour_61 : decode cX10_hour 61 = .ok (.getfield 84, 3) := by decide +kernel
theorem dX10_hour_64 : decode cX10_hour 64 = .ok (.ireturn, 1) := by decide +kernel
theorem dX10_tap_0 : decode cX10_tap 0 = .ok (.aload_n 0, 1) := by decide +kernel
theorem dX10_tap_1 : decode cX10_tap 1 = .ok (.getfield 80, 3) := by decide +kernel
theorem dX10_tap_4 : decode cX10_tap 4 = .ok (.aload_n 0, 1) := by decide +kernel
theorem dX10_tap_5 : decode cX10_tap 5 = .ok (.getfield 84, 3) := by decide +kernel
theorem dX10_tap_8 : decode cX10_tap 8 = .ok (.isub, 1) := by decide +kernel
theorem dX10_tap_9 : decode cX10_tap 9 = .ok (.istore_n 1, 1) := by decide +kernel
theorem dX10_tap_10 : decode cX10_tap 10 = .ok (.aload_n 0, 1) := by decide +kernel
theorem dX10_tap_11 : decode cX10_tap 11 = .ok (.aload_n 0, 1) := by decide +kernel
theorem dX10_tap_12 : decode cX10_tap 12 = .ok (.getfield 80, 3) := by decide +kernel
theorem dX10_tap_15 : decode cX10_tap 15 = .ok (.putfield 84, 3) := by decide +kernel
theorem dX10_tap_18 : decode cX10_tap 18 = .ok (.iload_n 1, 1) := by decide +kernel
theorem dX10_tap_19 : decode cX10_tap 19 = .ok (.ireturn, 1) := by decide +kernel
set_option maxRecDepth 20000 in
theorem ggX10_stick_X10_in : GoodIn wsX10_stick wsX10_in := goodIn_r _ [6] (by decide +kernel) (by decide +kernel)
set_option maxRecDepth 20000 in
theorem gX10_stick_X10_in : GoodIn wsX10_stick (va_wsS RX10 99 yX10_in wsX10_in) := goodIn_app (goodIn_of _ (by decide +kernel)) ggX10_stick_X10_in
theorem dX10_stick_0 : decode cX10_stick 0 = .ok (.iload_n 1, 1) := by decide +kernel
theorem dX10_stick_1 : decode cX10_stick 1 = .ok (.i2l, 1) := by decide +kernel
theorem dX10_stick_2 : decode cX10_stick 2 = .ok (.lconst 0, 1) := by decide +kernel
theorem dX10_stick_3 : decode cX10_stick 3 = .ok (.ldc2_w 109, 3) := by decide +kernel
theorem dX10_stick_6 : decode cX10_stick 6 = .ok (.invokestatic 99, 3) := by decide +kernel
theorem dX10_stick_9 : decode cX10_stick 9 = .ok (.ifCond .ne 6, 3) := by decide +kernel
theorem dX10_stick_12 : decode cX10_stick 12 = .ok (.bipush (-2), 2) := by decide +kernel
theorem dX10_stick_14 : decode cX10_stick 14 = .ok (.ireturn, 1) := by decide +kernel
theorem dX10_stick_15 : decode cX10_stick 15 = .ok (.aload_n 0, 1) := by decide +kernel
theorem dX10_stick_16 : decode cX10_stick 16 = .ok (.getfield 87, 3) := by decide +kernel
theorem dX10_stick_19 : decode cX10_stick 19 = .ok (.istore_n 2, 1) := by decide +kernel
theorem dX10_stick_20 : decode cX10_stick 20 = .ok (.aload_n 0, 1) := by decide +kernel
theorem dX10_stick_21 : decode cX10_stick 21 = .ok (.iload_n 1, 1) := by decide +kernel
theorem dX10_stick_22 : decode cX10_stick 22 = .ok (.putfield 87, 3) := by decide +kernel
theorem dX10_stick_25 : decode cX10_stick 25 = .ok (.iload_n 2, 1) := by decide +kernel
theorem dX10_stick_26 : decode cX10_stick 26 = .ok (.ireturn, 1) := by decide +kernel
set_option maxRecDepth 20000 in
theorem ggX10_isDay_X10_in : GoodIn wsX10_isDay wsX10_in := goodIn_r _ [5] (by decide +kernel) (by decide +kernel)
set_option maxRecDepth 20000 in
theorem gX10_isDay_X10_in : GoodIn wsX10_isDay (va_wsS RX10 99 yX10_in wsX10_in) := goodIn_app (goodIn_of _ (by decide +kernel)) ggX10_isDay_X10_in
theorem dX10_isDay_0 : decode cX10_isDay 0 = .ok (.iload_n 1, 1) := by decide +kernel
theorem dX10_isDay_1 : decode cX10_isDay 1 = .ok (.i2l, 1) := by decide +kernel
theorem dX10_isDay_2 : decode cX10_isDay 2 = .ok (.lconst 0, 1) := by decide +kernel
theorem dX10_isDay_3 : decode cX10_isDay 3 = .ok (.aload_n 0, 1) := by decide +kernel
theorem dX10_isDay_4 : decode cX10_isDay 4 = .ok (.getfield 111, 3) := by decide +kernel
theorem dX10_isDay_7 : decode cX10_isDay 7 = .ok (.iconst 1, 1) := by decide +kernel
theorem dX10_isDay_8 : decode cX10_isDay 8 = .ok (.isub, 1) := by decide +kernel
theorem dX10_isDay_9 : decode cX10_isDay 9 = .ok (.i2l, 1) := by decide +kernel
theorem dX10_isDay_10 : decode cX10_isDay 10 = .ok (.invokestatic 99, 3) := by decide +kernel
theorem dX10_isDay_13 : decode cX10_isDay 13 = .ok (.ireturn, 1) := by decide +kernel
set_option maxRecDepth 20000 in
theorem ggX10_day_X10_in : GoodIn wsX10_day wsX10_in := goodIn_r _ [18] (by decide +kernel) (by decide +kernel)
set_option maxRecDepth 20000 in
theorem gX10_day_X10_in : GoodIn wsX10_day (va_wsS RX10 99 yX10_in wsX10_in) := goodIn_app (goodIn_of _ (by decide +kernel)) ggX10_day_X10_in
set_option maxRecDepth 20000 in
theorem ggX10_day_X10_isEnd : GoodIn wsX10_day wsX10_isEnd := goodIn_r _ [21, 15, 16, 17, 18] (by decide +kernel) (by decide +kernel)
set_option maxRecDepth 20000 in
theorem gX10_day_X10_isEnd : GoodIn wsX10_day (va_wsS RX10 122 yX10_isEnd wsX10_isEnd) := goodIn_app (goodIn_of _ (by decide +kernel)) ggX10_day_X10_isEnd
theorem dX10_day_0 : decode cX10_day 0 = .ok (.iload_n 1, 1) := by decide +kernel
theorem dX10_day_1 : decode cX10_day 1 = .ok (.i2l, 1) := by decide +kernel
theorem dX10_day_2 : decode cX10_day 2 = .ok (.lconst 0, 1) := by decide +kernel
theorem dX10_day_3 : decode cX10_day 3 = .ok (.ldc2_w 109, 3) := by decide +kernel
theorem dX10_day_6 : decode cX10_day 6 = .ok (.invokestatic 99, 3) := by decide +kernel
theorem dX10_day_9 : decode cX10_day 9 = .ok (.ifCond .eq 63, 3) := by decide +kernel
theorem dX10_day_12 : decode cX10_day 12 = .ok (.iload_n 2, 1) := by decide +kernel
theorem dX10_day_13 : decode cX10_day 13 = .ok (.i2l, 1) := by decide +kernel
theorem dX10_day_14 : decode cX10_day 14 = .ok (.lconst 0, 1) := by decide +kernel
theorem dX10_day_15 : decode cX10_day 15 = .ok (.ldc2_w 114, 3) := by decide +kernel
theorem dX10_day_18 : decode cX10_day 18 = .ok (.invokestatic 99, 3) := by decide +kernel
theorem dX10_day_21 : decode cX10_day 21 = .ok (.ifCond .eq 51, 3) := by decide +kernel
theorem dX10_day_24 : decode cX10_day 24 = .ok (.iload_n 3, 1) := by decide +kernel
theorem dX10_day_25 : decode cX10_day 25 = .ok (.i2l, 1) := by decide +kernel
theorem dX10_day_26 : decode cX10_day 26 = .ok (.ldc2_w 116, 3) := by decide +kernel
theorem dX10_day_29 : decode cX10_day 29 = .ok (.ldc2_w 103, 3) := by decide +kernel
theorem dX10_day_32 : decode cX10_day 32 = .ok (.invokestatic 99, 3) := by decide +kernel
theorem dX10_day_35 : decode cX10_day 35 = .ok (.ifCond .eq 37, 3) := by decide +kernel
theorem dX10_day_38 : decode cX10_day 38 = .ok (.iload 4, 2) := by decide +kernel
theorem dX10_day_40 : decode cX10_day 40 = .ok (.i2l, 1) := by decide +kernel
theorem dX10_day_41 : decode cX10_day 41 = .ok (.lconst 0, 1) := by decide +kernel
theorem dX10_day_42 : decode cX10_day 42 = .ok (.ldc2_w 118, 3) := by decide +kernel
theorem dX10_day_45 : decode cX10_day 45 = .ok (.invokestatic 99, 3) := by decide +kernel
theorem dX10_day_48 : decode cX10_day 48 = .ok (.ifCond .eq 24, 3) := by decide +kernel
theorem dX10_day_51 : decode cX10_day 51 = .ok (.iload 5, 2) := by decide +kernel
theorem dX10_day_53 : decode cX10_day 53 = .ok (.i2l, 1) := by decide +kernel
theorem dX10_day_54 : decode cX10_day 54 = .ok (.lconst 0, 1) := by decide +kernel
theorem dX10_day_55 : decode cX10_day 55 = .ok (.ldc2_w 120, 3) := by decide +kernel
theorem dX10_day_58 : decode cX10_day 58 = .ok (.invokestatic 99, 3) := by decide +kernel
theorem dX10_day_61 : decode cX10_day 61 = .ok (.ifCond .eq 11, 3) := by decide +kernel
theorem dX10_day_64 : decode cX10_day 64 = .ok (.iload 6, 2) := by decide +kernel
theorem dX10_day_66 : decode cX10_day 66 = .ok (.invokestatic 122, 3) := by decide +kernel
theorem dX10_day_69 : decode cX10_day 69 = .ok (.ifCond .ne 6, 3) := by decide +kernel
theorem dX10_day_72 : decode cX10_day 72 = .ok (.bipush (-2), 2) := by decide +kernel
theorem dX10_day_74 : decode cX10_day 74 = .ok (.ireturn, 1) := by decide +kernel
theorem dX10_day_75 : decode cX10_day 75 = .ok (.aload_n 0, 1) := by decide +kernel
theorem dX10_day_76 : decode cX10_day 76 = .ok (.getfield 111, 3) := by decide +kernel
theorem dX10_day_79 : decode cX10_day 79 = .ok (.bipush 60, 2) := by decide +kernel
theorem dX10_day_81 : decode cX10_day 81 = .ok (.if_icmp .ne 6, 3) := by decide +kernel
theorem dX10_day_84 : decode cX10_day 84 = .ok (.bipush (-4), 2) := by decide +kernel
theorem dX10_day_86 : decode cX10_day 86 = .ok (.ireturn, 1) := by decide +kernel
theorem dX10_day_87 : decode cX10_day 87 = .ok (.aload_n 0, 1) := by decide +kernel
theorem dX10_day_88 : decode cX10_day 88 = .ok (.getfield 7, 3) := by decide +kernel
theorem dX10_day_91 : decode cX10_day 91 = .ok (.aload_n 0, 1) := by decide +kernel
theorem dX10_day_92 : decode cX10_day 92 = .ok (.getfield 111, 3) := by decide +kernel
theorem dX10_day_95 : decode cX10_day 95 = .ok (.iload_n 1, 1) := by decide +kernel
theorem dX10_day_96 : decode cX10_day 96 = .ok (.iastore, 1) := by decide +kernel
theorem dX10_day_97 : decode cX10_day 97 = .ok (.aload_n 0, 1) := by decide +kernel
theorem dX10_day_98 : decode cX10_day 98 = .ok (.getfield 13, 3) := by decide +kernel
theorem dX10_day_101 : decode cX10_day 101 = .ok (.aload_n 0, 1) := by decide +kernel
theorem dX10_day_102 : decode cX10_day 102 = .ok (.getfield 111, 3) := by decide +kernel
theorem dX10_day_105 : decode cX10_day 105 = .ok (.iload_n 2, 1) := by decide +kernel
theorem dX10_day_106 : decode cX10_day 106 = .ok (.iastore, 1) := by decide +kernel
theorem dX10_day_107 : decode cX10_day 107 = .ok (.aload_n 0, 1) := by decide +kernel
theorem dX10_day_108 : decode cX10_day 108 = .ok (.getfield 16, 3) := by decide +kernel
theorem dX10_day_111 : decode cX10_day 111 = .ok (.aload_n 0, 1) := by decide +kernel
theorem dX10_day_112 : decode cX10_day 112 = .ok (.getfield 111, 3) := by decide +kernel
theorem dX10_day_115 : decode cX10_day 115 = .ok (.iload_n 3, 1) := by decide +kernel
theorem dX10_day_116 : decode cX10_day 116 = .ok (.iastore, 1) := by decide +kernel
theorem dX10_day_117 : decode cX10_day 117 = .ok (.aload_n 0, 1) := by decide +kernel
theorem dX10_day_118 : decode cX10_day 118 = .ok (.getfield 19, 3) := by decide +kernel
theorem dX10_day_121 : decode cX10_day 121 = .ok (.aload_n 0, 1) := by decide +kernel
theorem dX10_day_122 : decode cX10_day 122 = .ok (.getfield 111, 3) := by decide +kernel
theorem dX10_day_125 : decode cX10_day 125 = .ok (.iload 4, 2) := by decide +kernel
theorem dX10_day_127 : decode cX10_day 127 = .ok (.iastore, 1) := by decide +kernel
theorem dX10_day_128 : decode cX10_day 128 = .ok (.aload_n 0, 1) := by decide +kernel
theorem dX10_day_129 : decode cX10_day 129 = .ok (.getfield 22, 3) := by decide +kernel
theorem dX10_day_132 : decode cX10_day 132 = .ok (.aload_n 0, 1) := by decide +kernel
theorem dX10_day_133 : decode cX10_day 133 = .ok (.getfield 111, 3) := by decide +kernel
theorem dX10_day_136 : decode cX10_day 136 = .ok (.iload 5, 2) := by decide +kernel
theorem dX10_day_138 : decode cX10_day 138 = .ok (.iastore, 1) := by decide +kernel
theorem dX10_day_139 : decode cX10_day 139 = .ok (.aload_n 0, 1) := by decide +kernel
theorem dX10_day_140 : decode cX10_day 140 = .ok (.getfield 25, 3) := by decide +kernel
theorem dX10_day_143 : decode cX10_day 143 = .ok (.aload_n 0, 1) := by decide +kernel
theorem dX10_day_144 : decode cX10_day 144 = .ok (.getfield 111, 3) := by decide +kernel
theorem dX10_day_147 : decode cX10_day 147 = .ok (.iload 6, 2) := by decide +kernel
theorem dX10_day_149 : decode cX10_day 149 = .ok (.iastore, 1) := by decide +kernel
theorem dX10_day_150 : decode cX10_day 150 = .ok (.aload_n 0, 1) := by decide +kernel
theorem dX10_day_151 : decode cX10_day 151 = .ok (.getfield 28, 3) := by decide +kernel
theorem dX10_day_154 : decode cX10_day 154 = .ok (.aload_n 0, 1) := by decide +kernel
theorem dX10_day_155 : decode cX10_day 155 = .ok (.getfield 111, 3) := by decide +kernel
theorem dX10_day_158 : decode cX10_day 158 = .ok (.bipush (-6), 2) := by decide +kernel
theorem dX10_day_160 : decode cX10_day 160 = .ok (.iastore, 1) := by decide +kernel
theorem dX10_day_161 : decode cX10_day 161 = .ok (.aload_n 0, 1) := by decide +kernel
theorem dX10_day_162 : decode cX10_day 162 = .ok (.dup, 1) := by decide +kernel
theorem dX10_day_163 : decode cX10_day 163 = .ok (.getfield 111, 3) := by decide +kernel
theorem dX10_day_166 : decode cX10_day 166 = .ok (.iconst 1, 1) := by decide +kernel
theorem dX10_day_167 : decode cX10_day 167 = .ok (.iadd, 1) := by decide +kernel
theorem dX10_day_168 : decode cX10_day 168 = .ok (.putfield 111, 3) := by decide +kernel
theorem dX10_day_171 : decode cX10_day 171 = .ok (.aload_n 0, 1) := by decide +kernel
theorem dX10_day_172 : decode cX10_day 172 = .ok (.getfield 111, 3) := by decide +kernel
theorem dX10_day_175 : decode cX10_day 175 = .ok (.iconst 1, 1) := by decide +kernel
theorem dX10_day_176 : decode cX10_day 176 = .ok (.isub, 1) := by decide +kernel
theorem dX10_day_177 : decode cX10_day 177 = .ok (.ireturn, 1) := by decide +kernel
theorem dX10_tear_0 : decode cX10_tear 0 = .ok (.aload_n 0, 1) := by decide +kernel
theorem dX10_tear_1 : decode cX10_tear 1 = .ok (.getfield 111, 3) := by decide +kernel
theorem dX10_tear_4 : decode cX10_tear 4 = .ok (.ifCond .ne 6, 3) := by decide +kernel
theorem dX10_tear_7 : decode cX10_tear 7 = .ok (.bipush (-5), 2) := by decide +kernel
theorem dX10_tear_9 : decode cX10_tear 9 = .ok (.ireturn, 1) := by decide +kernel
theorem dX10_tear_10 : decode cX10_tear 10 = .ok (.aload_n 0, 1) := by decide +kernel
theorem dX10_tear_11 : decode cX10_tear 11 = .ok (.dup, 1) := by decide +kernel
theorem dX10_tear_12 : decode cX10_tear 12 = .ok (.getfield 111, 3) := by decide +kernel
theorem dX10_tear_15 : decode cX10_tear 15 = .ok (.iconst 1, 1) := by decide +kernel
theorem dX10_tear_16 : decode cX10_tear 16 = .ok (.isub, 1) := by decide +kernel
theorem dX10_tear_17 : decode cX10_tear 17 = .ok (.putfield 111, 3) := by decide +kernel
theorem dX10_tear_20 : decode cX10_tear 20 = .ok (.aload_n 0, 1) := by decide +kernel
theorem dX10_tear_21 : decode cX10_tear 21 = .ok (.getfield 111, 3) := by decide +kernel
theorem dX10_tear_24 : decode cX10_tear 24 = .ok (.ireturn, 1) := by decide +kernel
theorem dX10_falls_0 : decode cX10_falls 0 = .ok (.iload_n 1, 1) := by decide +kernel
theorem dX10_falls_1 : decode cX10_falls 1 = .ok (.ifCond .le 27, 3) := by decide +kernel
theorem dX10_falls_4 : decode cX10_falls 4 = .ok (.aload_n 0, 1) := by decide +kernel
theorem dX10_falls_5 : decode cX10_falls 5 = .ok (.getfield 16, 3) := by decide +kernel
theorem dX10_falls_8 : decode cX10_falls 8 = .ok (.iload_n 1, 1) := by decide +kernel
theorem dX10_falls_9 : decode cX10_falls 9 = .ok (.iaload, 1) := by decide +kernel
theorem dX10_falls_10 : decode cX10_falls 10 = .ok (.ifCond .lt 18, 3) := by decide +kernel
theorem dX10_falls_13 : decode cX10_falls 13 = .ok (.aload_n 0, 1) := by decide +kernel
theorem dX10_falls_14 : decode cX10_falls 14 = .ok (.getfield 16, 3) := by decide +kernel
theorem dX10_falls_17 : decode cX10_falls 17 = .ok (.iload_n 1, 1) := by decide +kernel
theorem dX10_falls_18 : decode cX10_falls 18 = .ok (.iconst 1, 1) := by decide +kernel
theorem dX10_falls_19 : decode cX10_falls 19 = .ok (.isub, 1) := by decide +kernel
theorem dX10_falls_20 : decode cX10_falls 20 = .ok (.iaload, 1) := by decide +kernel
theorem dX10_falls_21 : decode cX10_falls 21 = .ok (.ifCond .lt 7, 3) := by decide +kernel
theorem dX10_falls_24 : decode cX10_falls 24 = .ok (.iconst 1, 1) := by decide +kernel
theorem dX10_falls_25 : decode cX10_falls 25 = .ok (.goto 4, 3) := by decide +kernel
theorem dX10_falls_28 : decode cX10_falls 28 = .ok (.iconst 0, 1) := by decide +kernel
theorem dX10_falls_29 : decode cX10_falls 29 = .ok (.ireturn, 1) := by decide +kernel
set_option maxRecDepth 20000 in
theorem ggX10_lookOf_X10_falls : GoodIn wsX10_lookOf wsX10_falls := goodIn_r _ [11, 1, 12, 13, 14, 15, 16, 17, 18, 19, 20, 21, 22, 23, 24, 25, 26, 27, 28, 29, 30, 31, 32, 33, 34, 35, 36, 37, 38, 39, 40, 41, 42, 43, 44, 45, 46, 47, 48, 49, 50, 51] (by decide +kernel) (by decide +kernel)
set_option maxRecDepth 20000 in
theorem gX10_lookOf_X10_falls : GoodIn wsX10_lookOf (wsV RX10 126 RX10 yX10_falls wsX10_falls) := goodIn_app (goodIn_of _ (by decide +kernel)) ggX10_lookOf_X10_falls
theorem dX10_lookOf_0 : decode cX10_lookOf 0 = .ok (.iload_n 2, 1) := by decide +kernel
theorem dX10_lookOf_1 : decode cX10_lookOf 1 = .ok (.tableswitch 214 0 7 #[47, 68, 75, 82, 89, 107, 157, 207], 47) := by decide +kernel
theorem dX10_lookOf_48 : decode cX10_lookOf 48 = .ok (.aload_n 0, 1) := by decide +kernel
theorem dX10_lookOf_49 : decode cX10_lookOf 49 = .ok (.getfield 16, 3) := by decide +kernel
theorem dX10_lookOf_52 : decode cX10_lookOf 52 = .ok (.iload_n 1, 1) := by decide +kernel
theorem dX10_lookOf_53 : decode cX10_lookOf 53 = .ok (.iaload, 1) := by decide +kernel
theorem dX10_lookOf_54 : decode cX10_lookOf 54 = .ok (.ifCond .ge 8, 3) := by decide +kernel
theorem dX10_lookOf_57 : decode cX10_lookOf 57 = .ok (.bipush (-6), 2) := by decide +kernel
theorem dX10_lookOf_59 : decode cX10_lookOf 59 = .ok (.goto 9, 3) := by decide +kernel
theorem dX10_lookOf_62 : decode cX10_lookOf 62 = .ok (.aload_n 0, 1) := by decide +kernel
theorem dX10_lookOf_63 : decode cX10_lookOf 63 = .ok (.getfield 16, 3) := by decide +kernel
theorem dX10_lookOf_66 : decode cX10_lookOf 66 = .ok (.iload_n 1, 1) := by decide +kernel
theorem dX10_lookOf_67 : decode cX10_lookOf 67 = .ok (.iaload, 1) := by decide +kernel
theorem dX10_lookOf_68 : decode cX10_lookOf 68 = .ok (.ireturn, 1) := by decide +kernel
theorem dX10_lookOf_69 : decode cX10_lookOf 69 = .ok (.aload_n 0, 1) := by decide +kernel
theorem dX10_lookOf_70 : decode cX10_lookOf 70 = .ok (.getfield 19, 3) := by decide +kernel
theorem dX10_lookOf_73 : decode cX10_lookOf 73 = .ok (.iload_n 1, 1) := by decide +kernel
theorem dX10_lookOf_74 : decode cX10_lookOf 74 = .ok (.iaload, 1) := by decide +kernel
theorem dX10_lookOf_75 : decode cX10_lookOf 75 = .ok (.ireturn, 1) := by decide +kernel
theorem dX10_lookOf_76 : decode cX10_lookOf 76 = .ok (.aload_n 0, 1) := by decide +kernel
theorem dX10_lookOf_77 : decode cX10_lookOf 77 = .ok (.getfield 22, 3) := by decide +kernel
theorem dX10_lookOf_80 : decode cX10_lookOf 80 = .ok (.iload_n 1, 1) := by decide +kernel
theorem dX10_lookOf_81 : decode cX10_lookOf 81 = .ok (.iaload, 1) := by decide +kernel
theorem dX10_lookOf_82 : decode cX10_lookOf 82 = .ok (.ireturn, 1) := by decide +kernel
theorem dX10_lookOf_83 : decode cX10_lookOf 83 = .ok (.aload_n 0, 1) := by decide +kernel
theorem dX10_lookOf_84 : decode cX10_lookOf 84 = .ok (.getfield 13, 3) := by decide +kernel
theorem dX10_lookOf_87 : decode cX10_lookOf 87 = .ok (.iload_n 1, 1) := by decide +kernel
theorem dX10_lookOf_88 : decode cX10_lookOf 88 = .ok (.iaload, 1) := by decide +kernel
theorem dX10_lookOf_89 : decode cX10_lookOf 89 = .ok (.ireturn, 1) := by decide +kernel
theorem dX10_lookOf_90 : decode cX10_lookOf 90 = .ok (.iload_n 1, 1) := by decide +kernel
theorem dX10_lookOf_91 : decode cX10_lookOf 91 = .ok (.ifCond .ne 8, 3) := by decide +kernel
theorem dX10_lookOf_94 : decode cX10_lookOf 94 = .ok (.bipush (-6), 2) := by decide +kernel
theorem dX10_lookOf_96 : decode cX10_lookOf 96 = .ok (.goto 11, 3) := by decide +kernel
theorem dX10_lookOf_99 : decode cX10_lookOf 99 = .ok (.aload_n 0, 1) := by decide +kernel
theorem dX10_lookOf_100 : decode cX10_lookOf 100 = .ok (.getfield 25, 3) := by decide +kernel
theorem dX10_lookOf_103 : decode cX10_lookOf 103 = .ok (.iload_n 1, 1) := by decide +kernel
theorem dX10_lookOf_104 : decode cX10_lookOf 104 = .ok (.iconst 1, 1) := by decide +kernel
theorem dX10_lookOf_105 : decode cX10_lookOf 105 = .ok (.isub, 1) := by decide +kernel
theorem dX10_lookOf_106 : decode cX10_lookOf 106 = .ok (.iaload, 1) := by decide +kernel
theorem dX10_lookOf_107 : decode cX10_lookOf 107 = .ok (.ireturn, 1) := by decide +kernel
theorem dX10_lookOf_108 : decode cX10_lookOf 108 = .ok (.aload_n 0, 1) := by decide +kernel
theorem dX10_lookOf_109 : decode cX10_lookOf 109 = .ok (.iload_n 1, 1) := by decide +kernel
theorem dX10_lookOf_110 : decode cX10_lookOf 110 = .ok (.invokevirtual 126, 3) := by decide +kernel
theorem dX10_lookOf_113 : decode cX10_lookOf 113 = .ok (.ifCond .ne 8, 3) := by decide +kernel
theorem dX10_lookOf_116 : decode cX10_lookOf 116 = .ok (.bipush (-6), 2) := by decide +kernel
theorem dX10_lookOf_118 : decode cX10_lookOf 118 = .ok (.goto 39, 3) := by decide +kernel
theorem dX10_lookOf_121 : decode cX10_lookOf 121 = .ok (.aload_n 0, 1) := by decide +kernel
theorem dX10_lookOf_122 : decode cX10_lookOf 122 = .ok (.getfield 16, 3) := by decide +kernel
theorem dX10_lookOf_125 : decode cX10_lookOf 125 = .ok (.iload_n 1, 1) := by decide +kernel
theorem dX10_lookOf_126 : decode cX10_lookOf 126 = .ok (.iaload, 1) := by decide +kernel
theorem dX10_lookOf_127 : decode cX10_lookOf 127 = .ok (.aload_n 0, 1) := by decide +kernel
theorem dX10_lookOf_128 : decode cX10_lookOf 128 = .ok (.getfield 16, 3) := by decide +kernel
theorem dX10_lookOf_131 : decode cX10_lookOf 131 = .ok (.iload_n 1, 1) := by decide +kernel
theorem dX10_lookOf_132 : decode cX10_lookOf 132 = .ok (.iconst 1, 1) := by decide +kernel
theorem dX10_lookOf_133 : decode cX10_lookOf 133 = .ok (.isub, 1) := by decide +kernel
theorem dX10_lookOf_134 : decode cX10_lookOf 134 = .ok (.iaload, 1) := by decide +kernel
theorem dX10_lookOf_135 : decode cX10_lookOf 135 = .ok (.if_icmp .ge 21, 3) := by decide +kernel
theorem dX10_lookOf_138 : decode cX10_lookOf 138 = .ok (.aload_n 0, 1) := by decide +kernel
theorem dX10_lookOf_139 : decode cX10_lookOf 139 = .ok (.getfield 16, 3) := by decide +kernel
theorem dX10_lookOf_142 : decode cX10_lookOf 142 = .ok (.iload_n 1, 1) := by decide +kernel
theorem dX10_lookOf_143 : decode cX10_lookOf 143 = .ok (.iconst 1, 1) := by decide +kernel
theorem dX10_lookOf_144 : decode cX10_lookOf 144 = .ok (.isub, 1) := by decide +kernel
theorem dX10_lookOf_145 : decode cX10_lookOf 145 = .ok (.iaload, 1) := by decide +kernel
theorem dX10_lookOf_146 : decode cX10_lookOf 146 = .ok (.aload_n 0, 1) := by decide +kernel
theorem dX10_lookOf_147 : decode cX10_lookOf 147 = .ok (.getfield 16, 3) := by decide +kernel
theorem dX10_lookOf_150 : decode cX10_lookOf 150 = .ok (.iload_n 1, 1) := by decide +kernel
theorem dX10_lookOf_151 : decode cX10_lookOf 151 = .ok (.iaload, 1) := by decide +kernel
theorem dX10_lookOf_152 : decode cX10_lookOf 152 = .ok (.isub, 1) := by decide +kernel
theorem dX10_lookOf_153 : decode cX10_lookOf 153 = .ok (.goto 4, 3) := by decide +kernel
theorem dX10_lookOf_156 : decode cX10_lookOf 156 = .ok (.iconst 0, 1) := by decide +kernel
theorem dX10_lookOf_157 : decode cX10_lookOf 157 = .ok (.ireturn, 1) := by decide +kernel
theorem dX10_lookOf_158 : decode cX10_lookOf 158 = .ok (.aload_n 0, 1) := by decide +kernel
theorem dX10_lookOf_159 : decode cX10_lookOf 159 = .ok (.iload_n 1, 1) := by decide +kernel
theorem dX10_lookOf_160 : decode cX10_lookOf 160 = .ok (.invokevirtual 126, 3) := by decide +kernel
theorem dX10_lookOf_163 : decode cX10_lookOf 163 = .ok (.ifCond .ne 8, 3) := by decide +kernel
theorem dX10_lookOf_166 : decode cX10_lookOf 166 = .ok (.bipush (-6), 2) := by decide +kernel
theorem dX10_lookOf_168 : decode cX10_lookOf 168 = .ok (.goto 39, 3) := by decide +kernel
theorem dX10_lookOf_171 : decode cX10_lookOf 171 = .ok (.aload_n 0, 1) := by decide +kernel
theorem dX10_lookOf_172 : decode cX10_lookOf 172 = .ok (.getfield 16, 3) := by decide +kernel
theorem dX10_lookOf_175 : decode cX10_lookOf 175 = .ok (.iload_n 1, 1) := by decide +kernel
theorem dX10_lookOf_176 : decode cX10_lookOf 176 = .ok (.iaload, 1) := by decide +kernel
theorem dX10_lookOf_177 : decode cX10_lookOf 177 = .ok (.aload_n 0, 1) := by decide +kernel
theorem dX10_lookOf_178 : decode cX10_lookOf 178 = .ok (.getfield 16, 3) := by decide +kernel
theorem dX10_lookOf_181 : decode cX10_lookOf 181 = .ok (.iload_n 1, 1) := by decide +kernel
theorem dX10_lookOf_182 : decode cX10_lookOf 182 = .ok (.iconst 1, 1) := by decide +kernel
theorem dX10_lookOf_183 : decode cX10_lookOf 183 = .ok (.isub, 1) := by decide +kernel
theorem dX10_lookOf_184 : decode cX10_lookOf 184 = .ok (.iaload, 1) := by decide +kernel
theorem dX10_lookOf_185 : decode cX10_lookOf 185 = .ok (.if_icmp .le 21, 3) := by decide +kernel
theorem dX10_lookOf_188 : decode cX10_lookOf 188 = .ok (.aload_n 0, 1) := by decide +kernel
theorem dX10_lookOf_189 : decode cX10_lookOf 189 = .ok (.getfield 16, 3) := by decide +kernel
theorem dX10_lookOf_192 : decode cX10_lookOf 192 = .ok (.iload_n 1, 1) := by decide +kernel
theorem dX10_lookOf_193 : decode cX10_lookOf 193 = .ok (.iaload, 1) := by decide +kernel
theorem dX10_lookOf_194 : decode cX10_lookOf 194 = .ok (.aload_n 0, 1) := by decide +kernel
theorem dX10_lookOf_195 : decode cX10_lookOf 195 = .ok (.getfield 16, 3) := by decide +kernel
theorem dX10_lookOf_198 : decode cX10_lookOf 198 = .ok (.iload_n 1, 1) := by decide +kernel
theorem dX10_lookOf_199 : decode cX10_lookOf 199 = .ok (.iconst 1, 1) := by decide +kernel
theorem dX10_lookOf_200 : decode cX10_lookOf 200 = .ok (.isub, 1) := by decide +kernel
theorem dX10_lookOf_201 : decode cX10_lookOf 201 = .ok (.iaload, 1) := by decide +kernel
theorem dX10_lookOf_202 : decode cX10_lookOf 202 = .ok (.isub, 1) := by decide +kernel
theorem dX10_lookOf_203 : decode cX10_lookOf 203 = .ok (.goto 4, 3) := by decide +kernel
theorem dX10_lookOf_206 : decode cX10_lookOf 206 = .ok (.iconst 0, 1) := by decide +kernel
theorem dX10_lookOf_207 : decode cX10_lookOf 207 = .ok (.ireturn, 1) := by decide +kernel
theorem dX10_lookOf_208 : decode cX10_lookOf 208 = .ok (.aload_n 0, 1) := by decide +kernel
theorem dX10_lookOf_209 : decode cX10_lookOf 209 = .ok (.getfield 7, 3) := by decide +kernel
theorem dX10_lookOf_212 : decode cX10_lookOf 212 = .ok (.iload_n 1, 1) := by decide +kernel
theorem dX10_lookOf_213 : decode cX10_lookOf 213 = .ok (.iaload, 1) := by decide +kernel
theorem dX10_lookOf_214 : decode cX10_lookOf 214 = .ok (.ireturn, 1) := by decide +kernel
theorem dX10_lookOf_215 : decode cX10_lookOf 215 = .ok (.aload_n 0, 1) := by decide +kernel
theorem dX10_lookOf_216 : decode cX10_lookOf 216 = .ok (.getfield 25, 3) := by decide +kernel
theorem dX10_lookOf_219 : decode cX10_lookOf 219 = .ok (.iload_n 1, 1) := by decide +kernel
theorem dX10_lookOf_220 : decode cX10_lookOf 220 = .ok (.iaload, 1) := by decide +kernel
theorem dX10_lookOf_221 : decode cX10_lookOf 221 = .ok (.ireturn, 1) := by decide +kernel
set_option maxRecDepth 20000 in
theorem ggX10_look_X10_isDay : GoodIn wsX10_look wsX10_isDay := goodIn_r _ [6, 7, 8, 9, 5, 10, 25, 26, 27, 28, 29, 30, 31, 32, 33, 34, 35, 36, 37, 38, 39, 40, 41, 42, 43, 44, 45, 46, 47, 48, 49, 50, 51, 52, 53, 54, 55, 56, 57, 58, 59, 60, 61, 62, 63, 64] (by decide +kernel) (by decide +kernel)
set_option maxRecDepth 20000 in
theorem gX10_look_X10_isDay : GoodIn wsX10_look (wsV RX10 129 RX10 yX10_isDay wsX10_isDay) := goodIn_app (goodIn_of _ (by decide +kernel)) ggX10_look_X10_isDay
set_option maxRecDepth 20000 in
theorem ggX10_look_X10_in : GoodIn wsX10_look wsX10_in := goodIn_r _ [10] (by decide +kernel) (by decide +kernel)
set_option maxRecDepth 20000 in
theorem gX10_look_X10_in : GoodIn wsX10_look (va_wsS RX10 99 yX10_in wsX10_in) := goodIn_app (goodIn_of _ (by decide +kernel)) ggX10_look_X10_in
set_option maxRecDepth 20000 in
theorem ggX10_look_X10_lookOf : GoodIn wsX10_look wsX10_lookOf := goodIn_r _ [14, 15, 16, 17, 18, 19, 20, 21, 22, 23, 5, 24, 25, 26, 27, 28, 29, 30, 31, 32, 33, 34, 35, 36, 37, 38, 39, 40, 41, 42, 43, 44, 45, 46, 47, 48, 49, 50, 51, 52, 53, 54, 55, 56, 57, 58, 59, 60, 61, 62, 63, 64] (by decide +kernel) (by decide +kernel)
set_option maxRecDepth 20000 in
theorem gX10_look_X10_lookOf : GoodIn wsX10_look (wsV RX10 134 RX10 yX10_lookOf wsX10_lookOf) := goodIn_app (goodIn_of _ (by decide +kernel)) ggX10_look_X10_lookOf
theorem dX10_look_0 : decode cX10_look 0 = .ok (.aload_n 0, 1) := by decide +kernel
theorem dX10_look_1 : decode cX10_look 1 = .ok (.iload_n 1, 1) := by decide +kernel
theorem dX10_look_2 : decode cX10_look 2 = .ok (.invokevirtual 129, 3) := by decide +kernel
theorem dX10_look_5 : decode cX10_look 5 = .ok (.ifCond .ne 5, 3) := by decide +kernel
theorem dX10_look_8 : decode cX10_look 8 = .ok (.iconst (-1), 1) := by decide +kernel
theorem dX10_look_9 : decode cX10_look 9 = .ok (.ireturn, 1) := by decide +kernel
theorem dX10_look_10 : decode cX10_look 10 = .ok (.iload_n 2, 1) := by decide +kernel
theorem dX10_look_11 : decode cX10_look 11 = .ok (.i2l, 1) := by decide +kernel
theorem dX10_look_12 : decode cX10_look 12 = .ok (.lconst 0, 1) := by decide +kernel
theorem dX10_look_13 : decode cX10_look 13 = .ok (.ldc2_w 132, 3) := by decide +kernel
theorem dX10_look_16 : decode cX10_look 16 = .ok (.invokestatic 99, 3) := by decide +kernel
theorem dX10_look_19 : decode cX10_look 19 = .ok (.ifCond .eq 12, 3) := by decide +kernel
theorem dX10_look_22 : decode cX10_look 22 = .ok (.aload_n 0, 1) := by decide +kernel
theorem dX10_look_23 : decode cX10_look 23 = .ok (.iload_n 1, 1) := by decide +kernel
theorem dX10_look_24 : decode cX10_look 24 = .ok (.iload_n 2, 1) := by decide +kernel
theorem dX10_look_25 : decode cX10_look 25 = .ok (.invokevirtual 134, 3) := by decide +kernel
theorem dX10_look_28 : decode cX10_look 28 = .ok (.goto 5, 3) := by decide +kernel
theorem dX10_look_31 : decode cX10_look 31 = .ok (.bipush (-2), 2) := by decide +kernel
theorem dX10_look_33 : decode cX10_look 33 = .ok (.ireturn, 1) := by decide +kernel
set_option maxRecDepth 20000 in
theorem ggX10_say_X10_in : GoodIn wsX10_say wsX10_in := goodIn_r _ [8] (by decide +kernel) (by decide +kernel)
set_option maxRecDepth 20000 in
theorem gX10_say_X10_in : GoodIn wsX10_say (va_wsS RX10 99 yX10_in wsX10_in) := goodIn_app (goodIn_of _ (by decide +kernel)) ggX10_say_X10_in
theorem dX10_say_0 : decode cX10_say 0 = .ok (.iload_n 1, 1) := by decide +kernel
theorem dX10_say_1 : decode cX10_say 1 = .ok (.i2l, 1) := by decide +kernel
theorem dX10_say_2 : decode cX10_say 2 = .ok (.ldc2_w 137, 3) := by decide +kernel
theorem dX10_say_5 : decode cX10_say 5 = .ok (.ldc2_w 139, 3) := by decide +kernel
theorem dX10_say_8 : decode cX10_say 8 = .ok (.invokestatic 99, 3) := by decide +kernel
theorem dX10_say_11 : decode cX10_say 11 = .ok (.ifCond .ne 6, 3) := by decide +kernel
theorem dX10_say_14 : decode cX10_say 14 = .ok (.bipush (-2), 2) := by decide +kernel
theorem dX10_say_16 : decode cX10_say 16 = .ok (.ireturn, 1) := by decide +kernel
theorem dX10_say_17 : decode cX10_say 17 = .ok (.aload_n 0, 1) := by decide +kernel
theorem dX10_say_18 : decode cX10_say 18 = .ok (.getfield 141, 3) := by decide +kernel
theorem dX10_say_21 : decode cX10_say 21 = .ok (.bipush 50, 2) := by decide +kernel
theorem dX10_say_23 : decode cX10_say 23 = .ok (.if_icmp .ne 6, 3) := by decide +kernel
theorem dX10_say_26 : decode cX10_say 26 = .ok (.bipush (-4), 2) := by decide +kernel
theorem dX10_say_28 : decode cX10_say 28 = .ok (.ireturn, 1) := by decide +kernel
theorem dX10_say_29 : decode cX10_say 29 = .ok (.aload_n 0, 1) := by decide +kernel
theorem dX10_say_30 : decode cX10_say 30 = .ok (.getfield 31, 3) := by decide +kernel
theorem dX10_say_33 : decode cX10_say 33 = .ok (.aload_n 0, 1) := by decide +kernel
theorem dX10_say_34 : decode cX10_say 34 = .ok (.getfield 141, 3) := by decide +kernel
theorem dX10_say_37 : decode cX10_say 37 = .ok (.iload_n 1, 1) := by decide +kernel
theorem dX10_say_38 : decode cX10_say 38 = .ok (.iastore, 1) := by decide +kernel
theorem dX10_say_39 : decode cX10_say 39 = .ok (.aload_n 0, 1) := by decide +kernel
theorem dX10_say_40 : decode cX10_say 40 = .ok (.dup, 1) := by decide +kernel
theorem dX10_say_41 : decode cX10_say 41 = .ok (.getfield 141, 3) := by decide +kernel
theorem dX10_say_44 : decode cX10_say 44 = .ok (.iconst 1, 1) := by decide +kernel
theorem dX10_say_45 : decode cX10_say 45 = .ok (.iadd, 1) := by decide +kernel
theorem dX10_say_46 : decode cX10_say 46 = .ok (.putfield 141, 3) := by decide +kernel
theorem dX10_say_49 : decode cX10_say 49 = .ok (.aload_n 0, 1) := by decide +kernel
theorem dX10_say_50 : decode cX10_say 50 = .ok (.getfield 141, 3) := by decide +kernel
theorem dX10_say_53 : decode cX10_say 53 = .ok (.ireturn, 1) := by decide +kernel
theorem dX10_wipe_0 : decode cX10_wipe 0 = .ok (.aload_n 0, 1) := by decide +kernel
theorem dX10_wipe_1 : decode cX10_wipe 1 = .ok (.getfield 141, 3) := by decide +kernel
theorem dX10_wipe_4 : decode cX10_wipe 4 = .ok (.istore_n 1, 1) := by decide +kernel
theorem dX10_wipe_5 : decode cX10_wipe 5 = .ok (.aload_n 0, 1) := by decide +kernel
theorem dX10_wipe_6 : decode cX10_wipe 6 = .ok (.iconst 0, 1) := by decide +kernel
theorem dX10_wipe_7 : decode cX10_wipe 7 = .ok (.putfield 141, 3) := by decide +kernel
theorem dX10_wipe_10 : decode cX10_wipe 10 = .ok (.iload_n 1, 1) := by decide +kernel
theorem dX10_wipe_11 : decode cX10_wipe 11 = .ok (.ireturn, 1) := by decide +kernel
set_option maxRecDepth 20000 in
theorem ggX10_isDigit_X10_in : GoodIn wsX10_isDigit wsX10_in := goodIn_r _ [6] (by decide +kernel) (by decide +kernel)
set_option maxRecDepth 20000 in
theorem gX10_isDigit_X10_in : GoodIn wsX10_isDigit (va_wsS RX10 99 yX10_in wsX10_in) := goodIn_app (goodIn_of _ (by decide +kernel)) ggX10_isDigit_X10_in
theorem dX10_isDigit_0 : decode cX10_isDigit 0 = .ok (.iload_n 0, 1) := by decide +kernel
theorem dX10_isDigit_1 : decode cX10_isDigit 1 = .ok (.i2l, 1) := by decide +kernel
theorem dX10_isDigit_2 : decode cX10_isDigit 2 = .ok (.ldc2_w 144, 3) := by decide +kernel
theorem dX10_isDigit_5 : decode cX10_isDigit 5 = .ok (.ldc2_w 146, 3) := by decide +kernel
theorem dX10_isDigit_8 : decode cX10_isDigit 8 = .ok (.invokestatic 99, 3) := by decide +kernel
theorem dX10_isDigit_11 : decode cX10_isDigit 11 = .ok (.ireturn, 1) := by decide +kernel
theorem dX10_lookOfLetter_0 : decode cX10_lookOfLetter 0 = .ok (.iload_n 0, 1) := by decide +kernel
theorem dX10_lookOfLetter_1 : decode cX10_lookOfLetter 1 = .ok (.tableswitch 118 100 121 #[113, 118, 118, 118, 118, 118, 118, 118, 118, 109, 118, 118, 103, 118, 118, 107, 118, 115, 118, 105, 118, 111], 103) := by decide +kernel
theorem dX10_lookOfLetter_104 : decode cX10_lookOfLetter 104 = .ok (.iconst 0, 1) := by decide +kernel
theorem dX10_lookOfLetter_105 : decode cX10_lookOfLetter 105 = .ok (.ireturn, 1) := by decide +kernel
theorem dX10_lookOfLetter_106 : decode cX10_lookOfLetter 106 = .ok (.iconst 1, 1) := by decide +kernel
theorem dX10_lookOfLetter_107 : decode cX10_lookOfLetter 107 = .ok (.ireturn, 1) := by decide +kernel
theorem dX10_lookOfLetter_108 : decode cX10_lookOfLetter 108 = .ok (.iconst 2, 1) := by decide +kernel
theorem dX10_lookOfLetter_109 : decode cX10_lookOfLetter 109 = .ok (.ireturn, 1) := by decide +kernel
theorem dX10_lookOfLetter_110 : decode cX10_lookOfLetter 110 = .ok (.iconst 3, 1) := by decide +kernel
theorem dX10_lookOfLetter_111 : decode cX10_lookOfLetter 111 = .ok (.ireturn, 1) := by decide +kernel
theorem dX10_lookOfLetter_112 : decode cX10_lookOfLetter 112 = .ok (.iconst 4, 1) := by decide +kernel
theorem dX10_lookOfLetter_113 : decode cX10_lookOfLetter 113 = .ok (.ireturn, 1) := by decide +kernel
theorem dX10_lookOfLetter_114 : decode cX10_lookOfLetter 114 = .ok (.iconst 5, 1) := by decide +kernel
theorem dX10_lookOfLetter_115 : decode cX10_lookOfLetter 115 = .ok (.ireturn, 1) := by decide +kernel
theorem dX10_lookOfLetter_116 : decode cX10_lookOfLetter 116 = .ok (.bipush 6, 2) := by decide +kernel
theorem dX10_lookOfLetter_118 : decode cX10_lookOfLetter 118 = .ok (.ireturn, 1) := by decide +kernel
theorem dX10_lookOfLetter_119 : decode cX10_lookOfLetter 119 = .ok (.iconst (-1), 1) := by decide +kernel
theorem dX10_lookOfLetter_120 : decode cX10_lookOfLetter 120 = .ok (.ireturn, 1) := by decide +kernel
set_option maxRecDepth 20000 in
theorem ggX10_stepOf_X10_lookOfLetter : GoodIn wsX10_stepOf wsX10_lookOfLetter := goodIn_r _ [4] (by decide +kernel) (by decide +kernel)
set_option maxRecDepth 20000 in
theorem gX10_stepOf_X10_lookOfLetter : GoodIn wsX10_stepOf (va_wsS RX10 148 yX10_lookOfLetter wsX10_lookOfLetter) := goodIn_app (goodIn_of _ (by decide +kernel)) ggX10_stepOf_X10_lookOfLetter
set_option maxRecDepth 20000 in
theorem ggX10_stepOf_X10_isDigit : GoodIn wsX10_stepOf wsX10_isDigit := goodIn_r _ [7, 8, 9, 10, 11, 3, 12] (by decide +kernel) (by decide +kernel)
set_option maxRecDepth 20000 in
theorem gX10_stepOf_X10_isDigit : GoodIn wsX10_stepOf (va_wsS RX10 152 yX10_isDigit wsX10_isDigit) := goodIn_app (goodIn_of _ (by decide +kernel)) ggX10_stepOf_X10_isDigit
theorem dX10_stepOf_0 : decode cX10_stepOf 0 = .ok (.iload_n 0, 1) := by decide +kernel
theorem dX10_stepOf_1 : decode cX10_stepOf 1 = .ok (.tableswitch 188 0 8 #[51, 78, 91, 115, 128, 128, 168, 188, 51], 51) := by decide +kernel
theorem dX10_stepOf_52 : decode cX10_stepOf 52 = .ok (.iload_n 1, 1) := by decide +kernel
theorem dX10_stepOf_53 : decode cX10_stepOf 53 = .ok (.bipush 42, 2) := by decide +kernel
theorem dX10_stepOf_55 : decode cX10_stepOf 55 = .ok (.if_icmp .ne 11, 3) := by decide +kernel
theorem dX10_stepOf_58 : decode cX10_stepOf 58 = .ok (.iload_n 0, 1) := by decide +kernel
theorem dX10_stepOf_59 : decode cX10_stepOf 59 = .ok (.ifCond .ne 7, 3) := by decide +kernel
theorem dX10_stepOf_62 : decode cX10_stepOf 62 = .ok (.iconst 1, 1) := by decide +kernel
theorem dX10_stepOf_63 : decode cX10_stepOf 63 = .ok (.goto 15, 3) := by decide +kernel
theorem dX10_stepOf_66 : decode cX10_stepOf 66 = .ok (.iload_n 1, 1) := by decide +kernel
theorem dX10_stepOf_67 : decode cX10_stepOf 67 = .ok (.invokestatic 148, 3) := by decide +kernel
theorem dX10_stepOf_70 : decode cX10_stepOf 70 = .ok (.ifCond .lt 7, 3) := by decide +kernel
theorem dX10_stepOf_73 : decode cX10_stepOf 73 = .ok (.iconst 2, 1) := by decide +kernel
theorem dX10_stepOf_74 : decode cX10_stepOf 74 = .ok (.goto 4, 3) := by decide +kernel
theorem dX10_stepOf_77 : decode cX10_stepOf 77 = .ok (.iconst (-1), 1) := by decide +kernel
theorem dX10_stepOf_78 : decode cX10_stepOf 78 = .ok (.ireturn, 1) := by decide +kernel
theorem dX10_stepOf_79 : decode cX10_stepOf 79 = .ok (.iload_n 1, 1) := by decide +kernel
theorem dX10_stepOf_80 : decode cX10_stepOf 80 = .ok (.bipush 58, 2) := by decide +kernel
theorem dX10_stepOf_82 : decode cX10_stepOf 82 = .ok (.if_icmp .ne 8, 3) := by decide +kernel
theorem dX10_stepOf_85 : decode cX10_stepOf 85 = .ok (.bipush 6, 2) := by decide +kernel
theorem dX10_stepOf_87 : decode cX10_stepOf 87 = .ok (.goto 4, 3) := by decide +kernel
theorem dX10_stepOf_90 : decode cX10_stepOf 90 = .ok (.iconst (-1), 1) := by decide +kernel
theorem dX10_stepOf_91 : decode cX10_stepOf 91 = .ok (.ireturn, 1) := by decide +kernel
theorem dX10_stepOf_92 : decode cX10_stepOf 92 = .ok (.iload_n 1, 1) := by decide +kernel
theorem dX10_stepOf_93 : decode cX10_stepOf 93 = .ok (.bipush 60, 2) := by decide +kernel
theorem dX10_stepOf_95 : decode cX10_stepOf 95 = .ok (.if_icmp .eq 15, 3) := by decide +kernel
theorem dX10_stepOf_98 : decode cX10_stepOf 98 = .ok (.iload_n 1, 1) := by decide +kernel
theorem dX10_stepOf_99 : decode cX10_stepOf 99 = .ok (.bipush 62, 2) := by decide +kernel
theorem dX10_stepOf_101 : decode cX10_stepOf 101 = .ok (.if_icmp .eq 9, 3) := by decide +kernel
theorem dX10_stepOf_104 : decode cX10_stepOf 104 = .ok (.iload_n 1, 1) := by decide +kernel
theorem dX10_stepOf_105 : decode cX10_stepOf 105 = .ok (.bipush 61, 2) := by decide +kernel
theorem dX10_stepOf_107 : decode cX10_stepOf 107 = .ok (.if_icmp .ne 7, 3) := by decide +kernel
theorem dX10_stepOf_110 : decode cX10_stepOf 110 = .ok (.iconst 3, 1) := by decide +kernel
theorem dX10_stepOf_111 : decode cX10_stepOf 111 = .ok (.goto 4, 3) := by decide +kernel
theorem dX10_stepOf_114 : decode cX10_stepOf 114 = .ok (.iconst (-1), 1) := by decide +kernel
theorem dX10_stepOf_115 : decode cX10_stepOf 115 = .ok (.ireturn, 1) := by decide +kernel
theorem dX10_stepOf_116 : decode cX10_stepOf 116 = .ok (.iload_n 1, 1) := by decide +kernel
theorem dX10_stepOf_117 : decode cX10_stepOf 117 = .ok (.invokestatic 152, 3) := by decide +kernel
theorem dX10_stepOf_120 : decode cX10_stepOf 120 = .ok (.ifCond .eq 7, 3) := by decide +kernel
theorem dX10_stepOf_123 : decode cX10_stepOf 123 = .ok (.iconst 4, 1) := by decide +kernel
theorem dX10_stepOf_124 : decode cX10_stepOf 124 = .ok (.goto 4, 3) := by decide +kernel
theorem dX10_stepOf_127 : decode cX10_stepOf 127 = .ok (.iconst (-1), 1) := by decide +kernel
theorem dX10_stepOf_128 : decode cX10_stepOf 128 = .ok (.ireturn, 1) := by decide +kernel
theorem dX10_stepOf_129 : decode cX10_stepOf 129 = .ok (.iload_n 1, 1) := by decide +kernel
theorem dX10_stepOf_130 : decode cX10_stepOf 130 = .ok (.invokestatic 152, 3) := by decide +kernel
theorem dX10_stepOf_133 : decode cX10_stepOf 133 = .ok (.ifCond .eq 12, 3) := by decide +kernel
theorem dX10_stepOf_136 : decode cX10_stepOf 136 = .ok (.iload_n 0, 1) := by decide +kernel
theorem dX10_stepOf_137 : decode cX10_stepOf 137 = .ok (.iconst 4, 1) := by decide +kernel
theorem dX10_stepOf_138 : decode cX10_stepOf 138 = .ok (.if_icmp .ne 7, 3) := by decide +kernel
theorem dX10_stepOf_141 : decode cX10_stepOf 141 = .ok (.iconst 5, 1) := by decide +kernel
theorem dX10_stepOf_142 : decode cX10_stepOf 142 = .ok (.goto 26, 3) := by decide +kernel
theorem dX10_stepOf_145 : decode cX10_stepOf 145 = .ok (.iload_n 1, 1) := by decide +kernel
theorem dX10_stepOf_146 : decode cX10_stepOf 146 = .ok (.bipush 38, 2) := by decide +kernel
theorem dX10_stepOf_148 : decode cX10_stepOf 148 = .ok (.if_icmp .ne 8, 3) := by decide +kernel
theorem dX10_stepOf_151 : decode cX10_stepOf 151 = .ok (.bipush 8, 2) := by decide +kernel
theorem dX10_stepOf_153 : decode cX10_stepOf 153 = .ok (.goto 15, 3) := by decide +kernel
theorem dX10_stepOf_156 : decode cX10_stepOf 156 = .ok (.iload_n 1, 1) := by decide +kernel
theorem dX10_stepOf_157 : decode cX10_stepOf 157 = .ok (.bipush 58, 2) := by decide +kernel
theorem dX10_stepOf_159 : decode cX10_stepOf 159 = .ok (.if_icmp .ne 8, 3) := by decide +kernel
theorem dX10_stepOf_162 : decode cX10_stepOf 162 = .ok (.bipush 6, 2) := by decide +kernel
theorem dX10_stepOf_164 : decode cX10_stepOf 164 = .ok (.goto 4, 3) := by decide +kernel
theorem dX10_stepOf_167 : decode cX10_stepOf 167 = .ok (.iconst (-1), 1) := by decide +kernel
theorem dX10_stepOf_168 : decode cX10_stepOf 168 = .ok (.ireturn, 1) := by decide +kernel
theorem dX10_stepOf_169 : decode cX10_stepOf 169 = .ok (.iload_n 1, 1) := by decide +kernel
theorem dX10_stepOf_170 : decode cX10_stepOf 170 = .ok (.invokestatic 152, 3) := by decide +kernel
theorem dX10_stepOf_173 : decode cX10_stepOf 173 = .ok (.ifCond .ne 9, 3) := by decide +kernel
theorem dX10_stepOf_176 : decode cX10_stepOf 176 = .ok (.iload_n 1, 1) := by decide +kernel
theorem dX10_stepOf_177 : decode cX10_stepOf 177 = .ok (.bipush 120, 2) := by decide +kernel
theorem dX10_stepOf_179 : decode cX10_stepOf 179 = .ok (.if_icmp .ne 8, 3) := by decide +kernel
theorem dX10_stepOf_182 : decode cX10_stepOf 182 = .ok (.bipush 7, 2) := by decide +kernel
theorem dX10_stepOf_184 : decode cX10_stepOf 184 = .ok (.goto 4, 3) := by decide +kernel
theorem dX10_stepOf_187 : decode cX10_stepOf 187 = .ok (.iconst (-1), 1) := by decide +kernel
theorem dX10_stepOf_188 : decode cX10_stepOf 188 = .ok (.ireturn, 1) := by decide +kernel
theorem dX10_stepOf_189 : decode cX10_stepOf 189 = .ok (.iload_n 1, 1) := by decide +kernel
theorem dX10_stepOf_190 : decode cX10_stepOf 190 = .ok (.bipush 59, 2) := by decide +kernel
theorem dX10_stepOf_192 : decode cX10_stepOf 192 = .ok (.if_icmp .ne 7, 3) := by decide +kernel
theorem dX10_stepOf_195 : decode cX10_stepOf 195 = .ok (.iconst 0, 1) := by decide +kernel
theorem dX10_stepOf_196 : decode cX10_stepOf 196 = .ok (.goto 4, 3) := by decide +kernel
theorem dX10_stepOf_199 : decode cX10_stepOf 199 = .ok (.iconst (-1), 1) := by decide +kernel
theorem dX10_stepOf_200 : decode cX10_stepOf 200 = .ok (.ireturn, 1) := by decide +kernel
set_option maxRecDepth 20000 in
theorem ggX10_fault_X10_stepOf : GoodIn wsX10_fault wsX10_stepOf := goodIn_r _ [6, 7, 8, 5, 9, 10, 11, 12, 13, 14, 15, 16, 17] (by decide +kernel) (by decide +kernel)
set_option maxRecDepth 20000 in
theorem gX10_fault_X10_stepOf : GoodIn wsX10_fault (va_wsS RX10 155 yX10_stepOf wsX10_stepOf) := goodIn_app (goodIn_of _ (by decide +kernel)) ggX10_fault_X10_stepOf
theorem dX10_fault_0 : decode cX10_fault 0 = .ok (.iconst 0, 1) := by decide +kernel
theorem dX10_fault_1 : decode cX10_fault 1 = .ok (.istore_n 1, 1) := by decide +kernel
theorem dX10_fault_2 : decode cX10_fault 2 = .ok (.iconst 0, 1) := by decide +kernel
theorem dX10_fault_3 : decode cX10_fault 3 = .ok (.istore_n 2, 1) := by decide +kernel
theorem dX10_fault_4 : decode cX10_fault 4 = .ok (.iload_n 2, 1) := by decide +kernel
theorem dX10_fault_5 : decode cX10_fault 5 = .ok (.aload_n 0, 1) := by decide +kernel
theorem dX10_fault_6 : decode cX10_fault 6 = .ok (.getfield 141, 3) := by decide +kernel
theorem dX10_fault_9 : decode cX10_fault 9 = .ok (.if_icmp .ge 26, 3) := by decide +kernel
theorem dX10_fault_12 : decode cX10_fault 12 = .ok (.iload_n 1, 1) := by decide +kernel
theorem dX10_fault_13 : decode cX10_fault 13 = .ok (.aload_n 0, 1) := by decide +kernel
theorem dX10_fault_14 : decode cX10_fault 14 = .ok (.getfield 31, 3) := by decide +kernel
theorem dX10_fault_17 : decode cX10_fault 17 = .ok (.iload_n 2, 1) := by decide +kernel
theorem dX10_fault_18 : decode cX10_fault 18 = .ok (.iaload, 1) := by decide +kernel
theorem dX10_fault_19 : decode cX10_fault 19 = .ok (.invokestatic 155, 3) := by decide +kernel
theorem dX10_fault_22 : decode cX10_fault 22 = .ok (.istore_n 1, 1) := by decide +kernel
theorem dX10_fault_23 : decode cX10_fault 23 = .ok (.iload_n 1, 1) := by decide +kernel
theorem dX10_fault_24 : decode cX10_fault 24 = .ok (.ifCond .ge 5, 3) := by decide +kernel
theorem dX10_fault_27 : decode cX10_fault 27 = .ok (.iload_n 2, 1) := by decide +kernel
theorem dX10_fault_28 : decode cX10_fault 28 = .ok (.ireturn, 1) := by decide +kernel
theorem dX10_fault_29 : decode cX10_fault 29 = .ok (.iinc 2 1, 3) := by decide +kernel
theorem dX10_fault_32 : decode cX10_fault 32 = .ok (.goto (-28), 3) := by decide +kernel
theorem dX10_fault_35 : decode cX10_fault 35 = .ok (.iload_n 1, 1) := by decide +kernel
theorem dX10_fault_36 : decode cX10_fault 36 = .ok (.bipush 7, 2) := by decide +kernel
theorem dX10_fault_38 : decode cX10_fault 38 = .ok (.if_icmp .ne 8, 3) := by decide +kernel
theorem dX10_fault_41 : decode cX10_fault 41 = .ok (.bipush (-6), 2) := by decide +kernel
theorem dX10_fault_43 : decode cX10_fault 43 = .ok (.goto 7, 3) := by decide +kernel
theorem dX10_fault_46 : decode cX10_fault 46 = .ok (.aload_n 0, 1) := by decide +kernel
theorem dX10_fault_47 : decode cX10_fault 47 = .ok (.getfield 141, 3) := by decide +kernel
theorem dX10_fault_50 : decode cX10_fault 50 = .ok (.ireturn, 1) := by decide +kernel
set_option maxRecDepth 20000 in
theorem ggX10_saying_X10_in : GoodIn wsX10_saying wsX10_in := goodIn_r _ [13] (by decide +kernel) (by decide +kernel)
set_option maxRecDepth 20000 in
theorem gX10_saying_X10_in : GoodIn wsX10_saying (va_wsS RX10 99 yX10_in wsX10_in) := goodIn_app (goodIn_of _ (by decide +kernel)) ggX10_saying_X10_in
set_option maxRecDepth 20000 in
theorem ggX10_saying_X10_fault : GoodIn wsX10_saying wsX10_fault := goodIn_r _ [17, 2, 4, 18, 19, 12, 20, 21, 22, 23, 24, 25, 26, 27, 28, 10, 11, 13, 29, 30, 31, 32, 33, 34, 35, 36, 37, 38, 39, 40, 41, 42, 43, 44, 45, 46, 47, 48, 49, 50, 51, 52, 53, 54, 55, 56, 57, 58, 59, 60, 61, 62, 63, 64, 65, 66, 67, 68] (by decide +kernel) (by decide +kernel)
set_option maxRecDepth 20000 in
theorem gX10_saying_X10_fault : GoodIn wsX10_saying (wsV RX10 158 RX10 yX10_fault wsX10_fault) := goodIn_app (goodIn_of _ (by decide +kernel)) ggX10_saying_X10_fault
set_option maxRecDepth 20000 in
theorem ggX10_saying_X10_stepOf : GoodIn wsX10_saying wsX10_stepOf := goodIn_r _ [20, 21, 22, 12, 23, 24, 25, 26, 27, 28, 10, 11, 13] (by decide +kernel) (by decide +kernel)
set_option maxRecDepth 20000 in
theorem gX10_saying_X10_stepOf : GoodIn wsX10_saying (va_wsS RX10 155 yX10_stepOf wsX10_stepOf) := goodIn_app (goodIn_of _ (by decide +kernel)) ggX10_saying_X10_stepOf
set_option maxRecDepth 20000 in
theorem ggX10_saying_X10_lookOfLetter : GoodIn wsX10_saying wsX10_lookOfLetter := goodIn_r _ [23] (by decide +kernel) (by decide +kernel)
set_option maxRecDepth 20000 in
theorem gX10_saying_X10_lookOfLetter : GoodIn wsX10_saying (va_wsS RX10 148 yX10_lookOfLetter wsX10_lookOfLetter) := goodIn_app (goodIn_of _ (by decide +kernel)) ggX10_saying_X10_lookOfLetter
theorem dX10_saying_0 : decode cX10_saying 0 = .ok (.iload_n 1, 1) := by decide +kernel
theorem dX10_saying_1 : decode cX10_saying 1 = .ok (.i2l, 1) := by decide +kernel
theorem dX10_saying_2 : decode cX10_saying 2 = .ok (.lconst 0, 1) := by decide +kernel
theorem dX10_saying_3 : decode cX10_saying 3 = .ok (.ldc2_w 120, 3) := by decide +kernel
theorem dX10_saying_6 : decode cX10_saying 6 = .ok (.invokestatic 99, 3) := by decide +kernel
theorem dX10_saying_9 : decode cX10_saying 9 = .ok (.ifCond .ne 5, 3) := by decide +kernel
theorem dX10_saying_12 : decode cX10_saying 12 = .ok (.iconst (-1), 1) := by decide +kernel
theorem dX10_saying_13 : decode cX10_saying 13 = .ok (.ireturn, 1) := by decide +kernel
theorem dX10_saying_14 : decode cX10_saying 14 = .ok (.aload_n 0, 1) := by decide +kernel
theorem dX10_saying_15 : decode cX10_saying 15 = .ok (.getfield 141, 3) := by decide +kernel
theorem dX10_saying_18 : decode cX10_saying 18 = .ok (.ifCond .le 13, 3) := by decide +kernel
theorem dX10_saying_21 : decode cX10_saying 21 = .ok (.aload_n 0, 1) := by decide +kernel
theorem dX10_saying_22 : decode cX10_saying 22 = .ok (.invokevirtual 158, 3) := by decide +kernel
theorem dX10_saying_25 : decode cX10_saying 25 = .ok (.ifCond .lt 6, 3) := by decide +kernel
theorem dX10_saying_28 : decode cX10_saying 28 = .ok (.bipush (-5), 2) := by decide +kernel
theorem dX10_saying_30 : decode cX10_saying 30 = .ok (.ireturn, 1) := by decide +kernel
theorem dX10_saying_31 : decode cX10_saying 31 = .ok (.iconst 0, 1) := by decide +kernel
theorem dX10_saying_32 : decode cX10_saying 32 = .ok (.istore_n 2, 1) := by decide +kernel
theorem dX10_saying_33 : decode cX10_saying 33 = .ok (.iconst 0, 1) := by decide +kernel
theorem dX10_saying_34 : decode cX10_saying 34 = .ok (.istore_n 3, 1) := by decide +kernel
theorem dX10_saying_35 : decode cX10_saying 35 = .ok (.iconst 0, 1) := by decide +kernel
theorem dX10_saying_36 : decode cX10_saying 36 = .ok (.istore 4, 2) := by decide +kernel
theorem dX10_saying_38 : decode cX10_saying 38 = .ok (.aload_n 0, 1) := by decide +kernel
theorem dX10_saying_39 : decode cX10_saying 39 = .ok (.getfield 37, 3) := by decide +kernel
theorem dX10_saying_42 : decode cX10_saying 42 = .ok (.bipush 15, 2) := by decide +kernel
theorem dX10_saying_44 : decode cX10_saying 44 = .ok (.iload_n 1, 1) := by decide +kernel
theorem dX10_saying_45 : decode cX10_saying 45 = .ok (.imul, 1) := by decide +kernel
theorem dX10_saying_46 : decode cX10_saying 46 = .ok (.iconst 0, 1) := by decide +kernel
theorem dX10_saying_47 : decode cX10_saying 47 = .ok (.iastore, 1) := by decide +kernel
theorem dX10_saying_48 : decode cX10_saying 48 = .ok (.iconst 0, 1) := by decide +kernel
theorem dX10_saying_49 : decode cX10_saying 49 = .ok (.istore 5, 2) := by decide +kernel
theorem dX10_saying_51 : decode cX10_saying 51 = .ok (.iload 5, 2) := by decide +kernel
theorem dX10_saying_53 : decode cX10_saying 53 = .ok (.aload_n 0, 1) := by decide +kernel
theorem dX10_saying_54 : decode cX10_saying 54 = .ok (.getfield 141, 3) := by decide +kernel
theorem dX10_saying_57 : decode cX10_saying 57 = .ok (.if_icmp .ge 183, 3) := by decide +kernel
theorem dX10_saying_60 : decode cX10_saying 60 = .ok (.aload_n 0, 1) := by decide +kernel
theorem dX10_saying_61 : decode cX10_saying 61 = .ok (.getfield 31, 3) := by decide +kernel
theorem dX10_saying_64 : decode cX10_saying 64 = .ok (.iload 5, 2) := by decide +kernel
theorem dX10_saying_66 : decode cX10_saying 66 = .ok (.iaload, 1) := by decide +kernel
theorem dX10_saying_67 : decode cX10_saying 67 = .ok (.istore 6, 2) := by decide +kernel
theorem dX10_saying_69 : decode cX10_saying 69 = .ok (.iload 4, 2) := by decide +kernel
theorem dX10_saying_71 : decode cX10_saying 71 = .ok (.iload 6, 2) := by decide +kernel
theorem dX10_saying_73 : decode cX10_saying 73 = .ok (.invokestatic 155, 3) := by decide +kernel
theorem dX10_saying_76 : decode cX10_saying 76 = .ok (.istore 4, 2) := by decide +kernel
theorem dX10_saying_78 : decode cX10_saying 78 = .ok (.bipush 14, 2) := by decide +kernel
theorem dX10_saying_80 : decode cX10_saying 80 = .ok (.iload_n 1, 1) := by decide +kernel
theorem dX10_saying_81 : decode cX10_saying 81 = .ok (.imul, 1) := by decide +kernel
theorem dX10_saying_82 : decode cX10_saying 82 = .ok (.iload_n 3, 1) := by decide +kernel
theorem dX10_saying_83 : decode cX10_saying 83 = .ok (.iadd, 1) := by decide +kernel
theorem dX10_saying_84 : decode cX10_saying 84 = .ok (.istore 7, 2) := by decide +kernel
theorem dX10_saying_86 : decode cX10_saying 86 = .ok (.iload 4, 2) := by decide +kernel
theorem dX10_saying_88 : decode cX10_saying 88 = .ok (.iconst 2, 1) := by decide +kernel
theorem dX10_saying_89 : decode cX10_saying 89 = .ok (.if_icmp .ne 29, 3) := by decide +kernel
theorem dX10_saying_92 : decode cX10_saying 92 = .ok (.aload_n 0, 1) := by decide +kernel
theorem dX10_saying_93 : decode cX10_saying 93 = .ok (.getfield 43, 3) := by decide +kernel
theorem dX10_saying_96 : decode cX10_saying 96 = .ok (.iload 7, 2) := by decide +kernel
theorem dX10_saying_98 : decode cX10_saying 98 = .ok (.iload 6, 2) := by decide +kernel
theorem dX10_saying_100 : decode cX10_saying 100 = .ok (.invokestatic 148, 3) := by decide +kernel
theorem dX10_saying_103 : decode cX10_saying 103 = .ok (.iastore, 1) := by decide +kernel
theorem dX10_saying_104 : decode cX10_saying 104 = .ok (.aload_n 0, 1) := by decide +kernel
theorem dX10_saying_105 : decode cX10_saying 105 = .ok (.getfield 49, 3) := by decide +kernel
theorem dX10_saying_108 : decode cX10_saying 108 = .ok (.iload 7, 2) := by decide +kernel
theorem dX10_saying_110 : decode cX10_saying 110 = .ok (.iconst 0, 1) := by decide +kernel
theorem dX10_saying_111 : decode cX10_saying 111 = .ok (.iastore, 1) := by decide +kernel
theorem dX10_saying_112 : decode cX10_saying 112 = .ok (.iinc 3 1, 3) := by decide +kernel
theorem dX10_saying_115 : decode cX10_saying 115 = .ok (.goto 119, 3) := by decide +kernel
theorem dX10_saying_118 : decode cX10_saying 118 = .ok (.iload 4, 2) := by decide +kernel
theorem dX10_saying_120 : decode cX10_saying 120 = .ok (.iconst 3, 1) := by decide +kernel
theorem dX10_saying_121 : decode cX10_saying 121 = .ok (.if_icmp .ne 17, 3) := by decide +kernel
theorem dX10_saying_124 : decode cX10_saying 124 = .ok (.aload_n 0, 1) := by decide +kernel
theorem dX10_saying_125 : decode cX10_saying 125 = .ok (.getfield 46, 3) := by decide +kernel
theorem dX10_saying_128 : decode cX10_saying 128 = .ok (.iload 7, 2) := by decide +kernel
theorem dX10_saying_130 : decode cX10_saying 130 = .ok (.iconst 1, 1) := by decide +kernel
theorem dX10_saying_131 : decode cX10_saying 131 = .ok (.isub, 1) := by decide +kernel
theorem dX10_saying_132 : decode cX10_saying 132 = .ok (.iload 6, 2) := by decide +kernel
theorem dX10_saying_134 : decode cX10_saying 134 = .ok (.iastore, 1) := by decide +kernel
theorem dX10_saying_135 : decode cX10_saying 135 = .ok (.goto 99, 3) := by decide +kernel
theorem dX10_saying_138 : decode cX10_saying 138 = .ok (.iload 4, 2) := by decide +kernel
theorem dX10_saying_140 : decode cX10_saying 140 = .ok (.iconst 4, 1) := by decide +kernel
theorem dX10_saying_141 : decode cX10_saying 141 = .ok (.if_icmp .eq 9, 3) := by decide +kernel
theorem dX10_saying_144 : decode cX10_saying 144 = .ok (.iload 4, 2) := by decide +kernel
theorem dX10_saying_146 : decode cX10_saying 146 = .ok (.iconst 5, 1) := by decide +kernel
theorem dX10_saying_147 : decode cX10_saying 147 = .ok (.if_icmp .ne 33, 3) := by decide +kernel
theorem dX10_saying_150 : decode cX10_saying 150 = .ok (.aload_n 0, 1) := by decide +kernel
theorem dX10_saying_151 : decode cX10_saying 151 = .ok (.getfield 49, 3) := by decide +kernel
theorem dX10_saying_154 : decode cX10_saying 154 = .ok (.iload 7, 2) := by decide +kernel
theorem dX10_saying_156 : decode cX10_saying 156 = .ok (.iconst 1, 1) := by decide +kernel
theorem dX10_saying_157 : decode cX10_saying 157 = .ok (.isub, 1) := by decide +kernel
theorem dX10_saying_158 : decode cX10_saying 158 = .ok (.bipush 10, 2) := by decide +kernel
theorem dX10_saying_160 : decode cX10_saying 160 = .ok (.aload_n 0, 1) := by decide +kernel
theorem dX10_saying_161 : decode cX10_saying 161 = .ok (.getfield 49, 3) := by decide +kernel
theorem dX10_saying_164 : decode cX10_saying 164 = .ok (.iload 7, 2) := by decide +kernel
theorem dX10_saying_166 : decode cX10_saying 166 = .ok (.iconst 1, 1) := by decide +kernel
theorem dX10_saying_167 : decode cX10_saying 167 = .ok (.isub, 1) := by decide +kernel
theorem dX10_saying_168 : decode cX10_saying 168 = .ok (.iaload, 1) := by decide +kernel
theorem dX10_saying_169 : decode cX10_saying 169 = .ok (.imul, 1) := by decide +kernel
theorem dX10_saying_170 : decode cX10_saying 170 = .ok (.iload 6, 2) := by decide +kernel
theorem dX10_saying_172 : decode cX10_saying 172 = .ok (.iadd, 1) := by decide +kernel
theorem dX10_saying_173 : decode cX10_saying 173 = .ok (.bipush 48, 2) := by decide +kernel
theorem dX10_saying_175 : decode cX10_saying 175 = .ok (.isub, 1) := by decide +kernel
theorem dX10_saying_176 : decode cX10_saying 176 = .ok (.iastore, 1) := by decide +kernel
theorem dX10_saying_177 : decode cX10_saying 177 = .ok (.goto 57, 3) := by decide +kernel
theorem dX10_saying_180 : decode cX10_saying 180 = .ok (.iload 4, 2) := by decide +kernel
theorem dX10_saying_182 : decode cX10_saying 182 = .ok (.bipush 7, 2) := by decide +kernel
theorem dX10_saying_184 : decode cX10_saying 184 = .ok (.if_icmp .ne 50, 3) := by decide +kernel
theorem dX10_saying_187 : decode cX10_saying 187 = .ok (.aload_n 0, 1) := by decide +kernel
theorem dX10_saying_188 : decode cX10_saying 188 = .ok (.getfield 40, 3) := by decide +kernel
theorem dX10_saying_191 : decode cX10_saying 191 = .ok (.bipush 14, 2) := by decide +kernel
theorem dX10_saying_193 : decode cX10_saying 193 = .ok (.iload_n 1, 1) := by decide +kernel
theorem dX10_saying_194 : decode cX10_saying 194 = .ok (.imul, 1) := by decide +kernel
theorem dX10_saying_195 : decode cX10_saying 195 = .ok (.iload_n 2, 1) := by decide +kernel
theorem dX10_saying_196 : decode cX10_saying 196 = .ok (.iadd, 1) := by decide +kernel
theorem dX10_saying_197 : decode cX10_saying 197 = .ok (.iload 6, 2) := by decide +kernel
theorem dX10_saying_199 : decode cX10_saying 199 = .ok (.bipush 120, 2) := by decide +kernel
theorem dX10_saying_201 : decode cX10_saying 201 = .ok (.if_icmp .ne 9, 3) := by decide +kernel
theorem dX10_saying_204 : decode cX10_saying 204 = .ok (.sipush 1000, 3) := by decide +kernel
theorem dX10_saying_207 : decode cX10_saying 207 = .ok (.goto 11, 3) := by decide +kernel
theorem dX10_saying_210 : decode cX10_saying 210 = .ok (.bipush 100, 2) := by decide +kernel
theorem dX10_saying_212 : decode cX10_saying 212 = .ok (.iload 6, 2) := by decide +kernel
theorem dX10_saying_214 : decode cX10_saying 214 = .ok (.bipush 48, 2) := by decide +kernel
theorem dX10_saying_216 : decode cX10_saying 216 = .ok (.isub, 1) := by decide +kernel
theorem dX10_saying_217 : decode cX10_saying 217 = .ok (.imul, 1) := by decide +kernel
theorem dX10_saying_218 : decode cX10_saying 218 = .ok (.iastore, 1) := by decide +kernel
theorem dX10_saying_219 : decode cX10_saying 219 = .ok (.iinc 2 1, 3) := by decide +kernel
theorem dX10_saying_222 : decode cX10_saying 222 = .ok (.aload_n 0, 1) := by decide +kernel
theorem dX10_saying_223 : decode cX10_saying 223 = .ok (.getfield 37, 3) := by decide +kernel
theorem dX10_saying_226 : decode cX10_saying 226 = .ok (.bipush 15, 2) := by decide +kernel
theorem dX10_saying_228 : decode cX10_saying 228 = .ok (.iload_n 1, 1) := by decide +kernel
theorem dX10_saying_229 : decode cX10_saying 229 = .ok (.imul, 1) := by decide +kernel
theorem dX10_saying_230 : decode cX10_saying 230 = .ok (.iload_n 2, 1) := by decide +kernel
theorem dX10_saying_231 : decode cX10_saying 231 = .ok (.iadd, 1) := by decide +kernel
theorem dX10_saying_232 : decode cX10_saying 232 = .ok (.iload_n 3, 1) := by decide +kernel
theorem dX10_saying_233 : decode cX10_saying 233 = .ok (.iastore, 1) := by decide +kernel
theorem dX10_saying_234 : decode cX10_saying 234 = .ok (.iinc 5 1, 3) := by decide +kernel
theorem dX10_saying_237 : decode cX10_saying 237 = .ok (.goto (-186), 3) := by decide +kernel
theorem dX10_saying_240 : decode cX10_saying 240 = .ok (.aload_n 0, 1) := by decide +kernel
theorem dX10_saying_241 : decode cX10_saying 241 = .ok (.getfield 34, 3) := by decide +kernel
theorem dX10_saying_244 : decode cX10_saying 244 = .ok (.iload_n 1, 1) := by decide +kernel
theorem dX10_saying_245 : decode cX10_saying 245 = .ok (.iload_n 2, 1) := by decide +kernel
theorem dX10_saying_246 : decode cX10_saying 246 = .ok (.iastore, 1) := by decide +kernel
theorem dX10_saying_247 : decode cX10_saying 247 = .ok (.aload_n 0, 1) := by decide +kernel
theorem dX10_saying_248 : decode cX10_saying 248 = .ok (.iconst 0, 1) := by decide +kernel
theorem dX10_saying_249 : decode cX10_saying 249 = .ok (.putfield 141, 3) := by decide +kernel
theorem dX10_saying_252 : decode cX10_saying 252 = .ok (.iload_n 2, 1) := by decide +kernel
theorem dX10_saying_253 : decode cX10_saying 253 = .ok (.ireturn, 1) := by decide +kernel
set_option maxRecDepth 20000 in
theorem ggX10_holds_X10_lookOf : GoodIn wsX10_holds wsX10_lookOf := goodIn_r _ [8, 9, 10, 11, 12, 13, 14, 15, 16, 17, 7, 18, 19, 20, 21, 22, 23, 24, 25, 26, 27, 28, 29, 30, 31, 32, 33, 34, 35, 36, 37, 38, 39, 40, 41, 42, 43, 44, 45, 46, 47, 48, 49, 50, 51, 52, 53, 54, 55, 56, 57, 58] (by decide +kernel) (by decide +kernel)
set_option maxRecDepth 20000 in
theorem gX10_holds_X10_lookOf : GoodIn wsX10_holds (wsV RX10 134 RX10 yX10_lookOf wsX10_lookOf) := goodIn_app (goodIn_of _ (by decide +kernel)) ggX10_holds_X10_lookOf
theorem dX10_holds_0 : decode cX10_holds 0 = .ok (.aload_n 0, 1) := by decide +kernel
theorem dX10_holds_1 : decode cX10_holds 1 = .ok (.iload_n 2, 1) := by decide +kernel
theorem dX10_holds_2 : decode cX10_holds 2 = .ok (.aload_n 0, 1) := by decide +kernel
theorem dX10_holds_3 : decode cX10_holds 3 = .ok (.getfield 43, 3) := by decide +kernel
theorem dX10_holds_6 : decode cX10_holds 6 = .ok (.iload_n 1, 1) := by decide +kernel
theorem dX10_holds_7 : decode cX10_holds 7 = .ok (.iaload, 1) := by decide +kernel
theorem dX10_holds_8 : decode cX10_holds 8 = .ok (.invokevirtual 134, 3) := by decide +kernel
theorem dX10_holds_11 : decode cX10_holds 11 = .ok (.istore_n 3, 1) := by decide +kernel
theorem dX10_holds_12 : decode cX10_holds 12 = .ok (.aload_n 0, 1) := by decide +kernel
theorem dX10_holds_13 : decode cX10_holds 13 = .ok (.getfield 46, 3) := by decide +kernel
theorem dX10_holds_16 : decode cX10_holds 16 = .ok (.iload_n 1, 1) := by decide +kernel
theorem dX10_holds_17 : decode cX10_holds 17 = .ok (.iaload, 1) := by decide +kernel
theorem dX10_holds_18 : decode cX10_holds 18 = .ok (.istore 4, 2) := by decide +kernel
theorem dX10_holds_20 : decode cX10_holds 20 = .ok (.aload_n 0, 1) := by decide +kernel
theorem dX10_holds_21 : decode cX10_holds 21 = .ok (.getfield 49, 3) := by decide +kernel
theorem dX10_holds_24 : decode cX10_holds 24 = .ok (.iload_n 1, 1) := by decide +kernel
theorem dX10_holds_25 : decode cX10_holds 25 = .ok (.iaload, 1) := by decide +kernel
theorem dX10_holds_26 : decode cX10_holds 26 = .ok (.istore 5, 2) := by decide +kernel
theorem dX10_holds_28 : decode cX10_holds 28 = .ok (.iload_n 3, 1) := by decide +kernel
theorem dX10_holds_29 : decode cX10_holds 29 = .ok (.bipush (-6), 2) := by decide +kernel
theorem dX10_holds_31 : decode cX10_holds 31 = .ok (.if_icmp .eq 45, 3) := by decide +kernel
theorem dX10_holds_34 : decode cX10_holds 34 = .ok (.iload 4, 2) := by decide +kernel
theorem dX10_holds_36 : decode cX10_holds 36 = .ok (.bipush 60, 2) := by decide +kernel
theorem dX10_holds_38 : decode cX10_holds 38 = .ok (.if_icmp .ne 12, 3) := by decide +kernel
theorem dX10_holds_41 : decode cX10_holds 41 = .ok (.iload_n 3, 1) := by decide +kernel
theorem dX10_holds_42 : decode cX10_holds 42 = .ok (.iload 5, 2) := by decide +kernel
theorem dX10_holds_44 : decode cX10_holds 44 = .ok (.if_icmp .ge 32, 3) := by decide +kernel
theorem dX10_holds_47 : decode cX10_holds 47 = .ok (.goto 25, 3) := by decide +kernel
theorem dX10_holds_50 : decode cX10_holds 50 = .ok (.iload 4, 2) := by decide +kernel
theorem dX10_holds_52 : decode cX10_holds 52 = .ok (.bipush 62, 2) := by decide +kernel
theorem dX10_holds_54 : decode cX10_holds 54 = .ok (.if_icmp .ne 12, 3) := by decide +kernel
theorem dX10_holds_57 : decode cX10_holds 57 = .ok (.iload_n 3, 1) := by decide +kernel
theorem dX10_holds_58 : decode cX10_holds 58 = .ok (.iload 5, 2) := by decide +kernel
theorem dX10_holds_60 : decode cX10_holds 60 = .ok (.if_icmp .le 16, 3) := by decide +kernel
theorem dX10_holds_63 : decode cX10_holds 63 = .ok (.goto 9, 3) := by decide +kernel
theorem dX10_holds_66 : decode cX10_holds 66 = .ok (.iload_n 3, 1) := by decide +kernel
theorem dX10_holds_67 : decode cX10_holds 67 = .ok (.iload 5, 2) := by decide +kernel
theorem dX10_holds_69 : decode cX10_holds 69 = .ok (.if_icmp .ne 7, 3) := by decide +kernel
theorem dX10_holds_72 : decode cX10_holds 72 = .ok (.iconst 1, 1) := by decide +kernel
theorem dX10_holds_73 : decode cX10_holds 73 = .ok (.goto 4, 3) := by decide +kernel
theorem dX10_holds_76 : decode cX10_holds 76 = .ok (.iconst 0, 1) := by decide +kernel
theorem dX10_holds_77 : decode cX10_holds 77 = .ok (.ireturn, 1) := by decide +kernel
set_option maxRecDepth 20000 in
theorem ggX10_saidOf_X10_holds : GoodIn wsX10_saidOf wsX10_holds := goodIn_r _ [8, 9, 10, 11, 12, 13, 14, 7, 15, 16, 17, 18, 19, 20, 21, 22, 23, 24, 25, 26, 27, 28, 29, 30, 31, 32, 33, 34, 35, 36, 37, 38, 39, 40, 41, 42, 43, 44, 45, 46, 47, 48, 49, 50, 51, 52, 53, 54, 55, 56, 57, 58, 59, 60, 61, 62, 63, 64, 65] (by decide +kernel) (by decide +kernel)
set_option maxRecDepth 20000 in
theorem gX10_saidOf_X10_holds : GoodIn wsX10_saidOf (wsV RX10 162 RX10 yX10_holds wsX10_holds) := goodIn_app (goodIn_of _ (by decide +kernel)) ggX10_saidOf_X10_holds
theorem dX10_saidOf_0 : decode cX10_saidOf 0 = .ok (.iconst 0, 1) := by decide +kernel
theorem dX10_saidOf_1 : decode cX10_saidOf 1 = .ok (.istore_n 3, 1) := by decide +kernel
theorem dX10_saidOf_2 : decode cX10_saidOf 2 = .ok (.iload_n 3, 1) := by decide +kernel
theorem dX10_saidOf_3 : decode cX10_saidOf 3 = .ok (.aload_n 0, 1) := by decide +kernel
theorem dX10_saidOf_4 : decode cX10_saidOf 4 = .ok (.getfield 34, 3) := by decide +kernel
theorem dX10_saidOf_7 : decode cX10_saidOf 7 = .ok (.iload_n 1, 1) := by decide +kernel
theorem dX10_saidOf_8 : decode cX10_saidOf 8 = .ok (.iaload, 1) := by decide +kernel
theorem dX10_saidOf_9 : decode cX10_saidOf 9 = .ok (.if_icmp .ge 93, 3) := by decide +kernel
theorem dX10_saidOf_12 : decode cX10_saidOf 12 = .ok (.iconst 1, 1) := by decide +kernel
theorem dX10_saidOf_13 : decode cX10_saidOf 13 = .ok (.istore 4, 2) := by decide +kernel
theorem dX10_saidOf_15 : decode cX10_saidOf 15 = .ok (.aload_n 0, 1) := by decide +kernel
theorem dX10_saidOf_16 : decode cX10_saidOf 16 = .ok (.getfield 37, 3) := by decide +kernel
theorem dX10_saidOf_19 : decode cX10_saidOf 19 = .ok (.bipush 15, 2) := by decide +kernel
theorem dX10_saidOf_21 : decode cX10_saidOf 21 = .ok (.iload_n 1, 1) := by decide +kernel
theorem dX10_saidOf_22 : decode cX10_saidOf 22 = .ok (.imul, 1) := by decide +kernel
theorem dX10_saidOf_23 : decode cX10_saidOf 23 = .ok (.iload_n 3, 1) := by decide +kernel
theorem dX10_saidOf_24 : decode cX10_saidOf 24 = .ok (.iadd, 1) := by decide +kernel
theorem dX10_saidOf_25 : decode cX10_saidOf 25 = .ok (.iaload, 1) := by decide +kernel
theorem dX10_saidOf_26 : decode cX10_saidOf 26 = .ok (.istore 5, 2) := by decide +kernel
theorem dX10_saidOf_28 : decode cX10_saidOf 28 = .ok (.iload 5, 2) := by decide +kernel
theorem dX10_saidOf_30 : decode cX10_saidOf 30 = .ok (.aload_n 0, 1) := by decide +kernel
theorem dX10_saidOf_31 : decode cX10_saidOf 31 = .ok (.getfield 37, 3) := by decide +kernel
theorem dX10_saidOf_34 : decode cX10_saidOf 34 = .ok (.bipush 15, 2) := by decide +kernel
theorem dX10_saidOf_36 : decode cX10_saidOf 36 = .ok (.iload_n 1, 1) := by decide +kernel
theorem dX10_saidOf_37 : decode cX10_saidOf 37 = .ok (.imul, 1) := by decide +kernel
theorem dX10_saidOf_38 : decode cX10_saidOf 38 = .ok (.iload_n 3, 1) := by decide +kernel
theorem dX10_saidOf_39 : decode cX10_saidOf 39 = .ok (.iadd, 1) := by decide +kernel
theorem dX10_saidOf_40 : decode cX10_saidOf 40 = .ok (.iconst 1, 1) := by decide +kernel
theorem dX10_saidOf_41 : decode cX10_saidOf 41 = .ok (.iadd, 1) := by decide +kernel
theorem dX10_saidOf_42 : decode cX10_saidOf 42 = .ok (.iaload, 1) := by decide +kernel
theorem dX10_saidOf_43 : decode cX10_saidOf 43 = .ok (.if_icmp .ge 36, 3) := by decide +kernel
theorem dX10_saidOf_46 : decode cX10_saidOf 46 = .ok (.iload 4, 2) := by decide +kernel
theorem dX10_saidOf_48 : decode cX10_saidOf 48 = .ok (.ifCond .eq 22, 3) := by decide +kernel
theorem dX10_saidOf_51 : decode cX10_saidOf 51 = .ok (.aload_n 0, 1) := by decide +kernel
theorem dX10_saidOf_52 : decode cX10_saidOf 52 = .ok (.bipush 14, 2) := by decide +kernel
theorem dX10_saidOf_54 : decode cX10_saidOf 54 = .ok (.iload_n 1, 1) := by decide +kernel
theorem dX10_saidOf_55 : decode cX10_saidOf 55 = .ok (.imul, 1) := by decide +kernel
theorem dX10_saidOf_56 : decode cX10_saidOf 56 = .ok (.iload 5, 2) := by decide +kernel
theorem dX10_saidOf_58 : decode cX10_saidOf 58 = .ok (.iadd, 1) := by decide +kernel
theorem dX10_saidOf_59 : decode cX10_saidOf 59 = .ok (.iload_n 2, 1) := by decide +kernel
theorem dX10_saidOf_60 : decode cX10_saidOf 60 = .ok (.invokevirtual 162, 3) := by decide +kernel
theorem dX10_saidOf_63 : decode cX10_saidOf 63 = .ok (.ifCond .eq 7, 3) := by decide +kernel
theorem dX10_saidOf_66 : decode cX10_saidOf 66 = .ok (.iconst 1, 1) := by decide +kernel
theorem dX10_saidOf_67 : decode cX10_saidOf 67 = .ok (.goto 4, 3) := by decide +kernel
theorem dX10_saidOf_70 : decode cX10_saidOf 70 = .ok (.iconst 0, 1) := by decide +kernel
theorem dX10_saidOf_71 : decode cX10_saidOf 71 = .ok (.istore 4, 2) := by decide +kernel
theorem dX10_saidOf_73 : decode cX10_saidOf 73 = .ok (.iinc 5 1, 3) := by decide +kernel
theorem dX10_saidOf_76 : decode cX10_saidOf 76 = .ok (.goto (-48), 3) := by decide +kernel
theorem dX10_saidOf_79 : decode cX10_saidOf 79 = .ok (.iload 4, 2) := by decide +kernel
theorem dX10_saidOf_81 : decode cX10_saidOf 81 = .ok (.ifCond .eq 15, 3) := by decide +kernel
theorem dX10_saidOf_84 : decode cX10_saidOf 84 = .ok (.aload_n 0, 1) := by decide +kernel
theorem dX10_saidOf_85 : decode cX10_saidOf 85 = .ok (.getfield 40, 3) := by decide +kernel
theorem dX10_saidOf_88 : decode cX10_saidOf 88 = .ok (.bipush 14, 2) := by decide +kernel
theorem dX10_saidOf_90 : decode cX10_saidOf 90 = .ok (.iload_n 1, 1) := by decide +kernel
theorem dX10_saidOf_91 : decode cX10_saidOf 91 = .ok (.imul, 1) := by decide +kernel
theorem dX10_saidOf_92 : decode cX10_saidOf 92 = .ok (.iload_n 3, 1) := by decide +kernel
theorem dX10_saidOf_93 : decode cX10_saidOf 93 = .ok (.iadd, 1) := by decide +kernel
theorem dX10_saidOf_94 : decode cX10_saidOf 94 = .ok (.iaload, 1) := by decide +kernel
theorem dX10_saidOf_95 : decode cX10_saidOf 95 = .ok (.ireturn, 1) := by decide +kernel
theorem dX10_saidOf_96 : decode cX10_saidOf 96 = .ok (.iinc 3 1, 3) := by decide +kernel
theorem dX10_saidOf_99 : decode cX10_saidOf 99 = .ok (.goto (-97), 3) := by decide +kernel
theorem dX10_saidOf_102 : decode cX10_saidOf 102 = .ok (.bipush (-6), 2) := by decide +kernel
theorem dX10_saidOf_104 : decode cX10_saidOf 104 = .ok (.ireturn, 1) := by decide +kernel
theorem dX10_share_0 : decode cX10_share 0 = .ok (.iload_n 1, 1) := by decide +kernel
theorem dX10_share_1 : decode cX10_share 1 = .ok (.ifCond .ne 8, 3) := by decide +kernel
theorem dX10_share_4 : decode cX10_share 4 = .ok (.bipush (-6), 2) := by decide +kernel
theorem dX10_share_6 : decode cX10_share 6 = .ok (.goto 10, 3) := by decide +kernel
theorem dX10_share_9 : decode cX10_share 9 = .ok (.sipush 1000, 3) := by decide +kernel
theorem dX10_share_12 : decode cX10_share 12 = .ok (.iload_n 0, 1) := by decide +kernel
theorem dX10_share_13 : decode cX10_share 13 = .ok (.imul, 1) := by decide +kernel
theorem dX10_share_14 : decode cX10_share 14 = .ok (.iload_n 1, 1) := by decide +kernel
theorem dX10_share_15 : decode cX10_share 15 = .ok (.idiv, 1) := by decide +kernel
theorem dX10_share_16 : decode cX10_share 16 = .ok (.ireturn, 1) := by decide +kernel
set_option maxRecDepth 20000 in
theorem ggX10_monthOf_X10_share : GoodIn wsX10_monthOf wsX10_share := goodIn_r _ [8] (by decide +kernel) (by decide +kernel)
set_option maxRecDepth 20000 in
theorem gX10_monthOf_X10_share : GoodIn wsX10_monthOf (va_wsS RX10 166 yX10_share wsX10_share) := goodIn_app (goodIn_of _ (by decide +kernel)) ggX10_monthOf_X10_share
theorem dX10_monthOf_0 : decode cX10_monthOf 0 = .ok (.iconst 0, 1) := by decide +kernel
theorem dX10_monthOf_1 : decode cX10_monthOf 1 = .ok (.istore_n 2, 1) := by decide +kernel
theorem dX10_monthOf_2 : decode cX10_monthOf 2 = .ok (.iconst 0, 1) := by decide +kernel
theorem dX10_monthOf_3 : decode cX10_monthOf 3 = .ok (.istore_n 3, 1) := by decide +kernel
theorem dX10_monthOf_4 : decode cX10_monthOf 4 = .ok (.iconst 0, 1) := by decide +kernel
theorem dX10_monthOf_5 : decode cX10_monthOf 5 = .ok (.istore 4, 2) := by decide +kernel
theorem dX10_monthOf_7 : decode cX10_monthOf 7 = .ok (.iload 4, 2) := by decide +kernel
theorem dX10_monthOf_9 : decode cX10_monthOf 9 = .ok (.aload_n 0, 1) := by decide +kernel
theorem dX10_monthOf_10 : decode cX10_monthOf 10 = .ok (.getfield 111, 3) := by decide +kernel
theorem dX10_monthOf_13 : decode cX10_monthOf 13 = .ok (.if_icmp .ge 80, 3) := by decide +kernel
theorem dX10_monthOf_16 : decode cX10_monthOf 16 = .ok (.aload_n 0, 1) := by decide +kernel
theorem dX10_monthOf_17 : decode cX10_monthOf 17 = .ok (.getfield 13, 3) := by decide +kernel
theorem dX10_monthOf_20 : decode cX10_monthOf 20 = .ok (.iload 4, 2) := by decide +kernel
theorem dX10_monthOf_22 : decode cX10_monthOf 22 = .ok (.iaload, 1) := by decide +kernel
theorem dX10_monthOf_23 : decode cX10_monthOf 23 = .ok (.aload_n 0, 1) := by decide +kernel
theorem dX10_monthOf_24 : decode cX10_monthOf 24 = .ok (.getfield 13, 3) := by decide +kernel
theorem dX10_monthOf_27 : decode cX10_monthOf 27 = .ok (.iload_n 1, 1) := by decide +kernel
theorem dX10_monthOf_28 : decode cX10_monthOf 28 = .ok (.iaload, 1) := by decide +kernel
theorem dX10_monthOf_29 : decode cX10_monthOf 29 = .ok (.if_icmp .ne 23, 3) := by decide +kernel
theorem dX10_monthOf_32 : decode cX10_monthOf 32 = .ok (.aload_n 0, 1) := by decide +kernel
theorem dX10_monthOf_33 : decode cX10_monthOf 33 = .ok (.getfield 7, 3) := by decide +kernel
theorem dX10_monthOf_36 : decode cX10_monthOf 36 = .ok (.iload 4, 2) := by decide +kernel
theorem dX10_monthOf_38 : decode cX10_monthOf 38 = .ok (.iaload, 1) := by decide +kernel
theorem dX10_monthOf_39 : decode cX10_monthOf 39 = .ok (.aload_n 0, 1) := by decide +kernel
theorem dX10_monthOf_40 : decode cX10_monthOf 40 = .ok (.getfield 7, 3) := by decide +kernel
theorem dX10_monthOf_43 : decode cX10_monthOf 43 = .ok (.iload_n 1, 1) := by decide +kernel
theorem dX10_monthOf_44 : decode cX10_monthOf 44 = .ok (.iaload, 1) := by decide +kernel
theorem dX10_monthOf_45 : decode cX10_monthOf 45 = .ok (.if_icmp .eq 7, 3) := by decide +kernel
theorem dX10_monthOf_48 : decode cX10_monthOf 48 = .ok (.iconst 1, 1) := by decide +kernel
theorem dX10_monthOf_49 : decode cX10_monthOf 49 = .ok (.goto 4, 3) := by decide +kernel
theorem dX10_monthOf_52 : decode cX10_monthOf 52 = .ok (.iconst 0, 1) := by decide +kernel
theorem dX10_monthOf_53 : decode cX10_monthOf 53 = .ok (.istore 5, 2) := by decide +kernel
theorem dX10_monthOf_55 : decode cX10_monthOf 55 = .ok (.iload_n 3, 1) := by decide +kernel
theorem dX10_monthOf_56 : decode cX10_monthOf 56 = .ok (.iload 5, 2) := by decide +kernel
theorem dX10_monthOf_58 : decode cX10_monthOf 58 = .ok (.ifCond .eq 7, 3) := by decide +kernel
theorem dX10_monthOf_61 : decode cX10_monthOf 61 = .ok (.iconst 1, 1) := by decide +kernel
theorem dX10_monthOf_62 : decode cX10_monthOf 62 = .ok (.goto 4, 3) := by decide +kernel
theorem dX10_monthOf_65 : decode cX10_monthOf 65 = .ok (.iconst 0, 1) := by decide +kernel
theorem dX10_monthOf_66 : decode cX10_monthOf 66 = .ok (.iadd, 1) := by decide +kernel
theorem dX10_monthOf_67 : decode cX10_monthOf 67 = .ok (.istore_n 3, 1) := by decide +kernel
theorem dX10_monthOf_68 : decode cX10_monthOf 68 = .ok (.iload_n 2, 1) := by decide +kernel
theorem dX10_monthOf_69 : decode cX10_monthOf 69 = .ok (.iload 5, 2) := by decide +kernel
theorem dX10_monthOf_71 : decode cX10_monthOf 71 = .ok (.ifCond .eq 13, 3) := by decide +kernel
theorem dX10_monthOf_74 : decode cX10_monthOf 74 = .ok (.aload_n 0, 1) := by decide +kernel
theorem dX10_monthOf_75 : decode cX10_monthOf 75 = .ok (.getfield 25, 3) := by decide +kernel
theorem dX10_monthOf_78 : decode cX10_monthOf 78 = .ok (.iload 4, 2) := by decide +kernel
theorem dX10_monthOf_80 : decode cX10_monthOf 80 = .ok (.iaload, 1) := by decide +kernel
theorem dX10_monthOf_81 : decode cX10_monthOf 81 = .ok (.goto 4, 3) := by decide +kernel
theorem dX10_monthOf_84 : decode cX10_monthOf 84 = .ok (.iconst 0, 1) := by decide +kernel
theorem dX10_monthOf_85 : decode cX10_monthOf 85 = .ok (.iadd, 1) := by decide +kernel
theorem dX10_monthOf_86 : decode cX10_monthOf 86 = .ok (.istore_n 2, 1) := by decide +kernel
theorem dX10_monthOf_87 : decode cX10_monthOf 87 = .ok (.iinc 4 1, 3) := by decide +kernel
theorem dX10_monthOf_90 : decode cX10_monthOf 90 = .ok (.goto (-83), 3) := by decide +kernel
theorem dX10_monthOf_93 : decode cX10_monthOf 93 = .ok (.iload_n 2, 1) := by decide +kernel
theorem dX10_monthOf_94 : decode cX10_monthOf 94 = .ok (.iload_n 3, 1) := by decide +kernel
theorem dX10_monthOf_95 : decode cX10_monthOf 95 = .ok (.invokestatic 166, 3) := by decide +kernel
theorem dX10_monthOf_98 : decode cX10_monthOf 98 = .ok (.ireturn, 1) := by decide +kernel
set_option maxRecDepth 20000 in
theorem ggX10_keyOf_X10_lookOf : GoodIn wsX10_keyOf wsX10_lookOf := goodIn_r _ [5, 6, 7, 8, 9, 10, 11, 12, 13, 14, 4, 15, 16, 17, 18, 19, 20, 21, 22, 23, 24, 25, 26, 27, 28, 29, 30, 31, 32, 33, 34, 35, 36, 37, 38, 39, 40, 41, 42, 43, 44, 45, 46, 47, 48, 49, 50, 51, 52, 53, 54, 55] (by decide +kernel) (by decide +kernel)
set_option maxRecDepth 20000 in
theorem gX10_keyOf_X10_lookOf : GoodIn wsX10_keyOf (wsV RX10 134 RX10 yX10_lookOf wsX10_lookOf) := goodIn_app (goodIn_of _ (by decide +kernel)) ggX10_keyOf_X10_lookOf
theorem dX10_keyOf_0 : decode cX10_keyOf 0 = .ok (.aload_n 0, 1) := by decide +kernel
theorem dX10_keyOf_1 : decode cX10_keyOf 1 = .ok (.iload_n 2, 1) := by decide +kernel
theorem dX10_keyOf_2 : decode cX10_keyOf 2 = .ok (.iload_n 1, 1) := by decide +kernel
theorem dX10_keyOf_3 : decode cX10_keyOf 3 = .ok (.ifCond .ne 7, 3) := by decide +kernel
theorem dX10_keyOf_6 : decode cX10_keyOf 6 = .ok (.iconst 0, 1) := by decide +kernel
theorem dX10_keyOf_7 : decode cX10_keyOf 7 = .ok (.goto 40, 3) := by decide +kernel
theorem dX10_keyOf_10 : decode cX10_keyOf 10 = .ok (.iload_n 1, 1) := by decide +kernel
theorem dX10_keyOf_11 : decode cX10_keyOf 11 = .ok (.iconst 1, 1) := by decide +kernel
theorem dX10_keyOf_12 : decode cX10_keyOf 12 = .ok (.if_icmp .ne 7, 3) := by decide +kernel
theorem dX10_keyOf_15 : decode cX10_keyOf 15 = .ok (.iconst 5, 1) := by decide +kernel
theorem dX10_keyOf_16 : decode cX10_keyOf 16 = .ok (.goto 31, 3) := by decide +kernel
theorem dX10_keyOf_19 : decode cX10_keyOf 19 = .ok (.iload_n 1, 1) := by decide +kernel
theorem dX10_keyOf_20 : decode cX10_keyOf 20 = .ok (.iconst 2, 1) := by decide +kernel
theorem dX10_keyOf_21 : decode cX10_keyOf 21 = .ok (.if_icmp .ne 7, 3) := by decide +kernel
theorem dX10_keyOf_24 : decode cX10_keyOf 24 = .ok (.iconst 1, 1) := by decide +kernel
theorem dX10_keyOf_25 : decode cX10_keyOf 25 = .ok (.goto 22, 3) := by decide +kernel
theorem dX10_keyOf_28 : decode cX10_keyOf 28 = .ok (.iload_n 1, 1) := by decide +kernel
theorem dX10_keyOf_29 : decode cX10_keyOf 29 = .ok (.iconst 3, 1) := by decide +kernel
theorem dX10_keyOf_30 : decode cX10_keyOf 30 = .ok (.if_icmp .ne 7, 3) := by decide +kernel
theorem dX10_keyOf_33 : decode cX10_keyOf 33 = .ok (.iconst 2, 1) := by decide +kernel
theorem dX10_keyOf_34 : decode cX10_keyOf 34 = .ok (.goto 13, 3) := by decide +kernel
theorem dX10_keyOf_37 : decode cX10_keyOf 37 = .ok (.iload_n 1, 1) := by decide +kernel
theorem dX10_keyOf_38 : decode cX10_keyOf 38 = .ok (.iconst 4, 1) := by decide +kernel
theorem dX10_keyOf_39 : decode cX10_keyOf 39 = .ok (.if_icmp .ne 7, 3) := by decide +kernel
theorem dX10_keyOf_42 : decode cX10_keyOf 42 = .ok (.iconst 3, 1) := by decide +kernel
theorem dX10_keyOf_43 : decode cX10_keyOf 43 = .ok (.goto 4, 3) := by decide +kernel
theorem dX10_keyOf_46 : decode cX10_keyOf 46 = .ok (.iconst 4, 1) := by decide +kernel
theorem dX10_keyOf_47 : decode cX10_keyOf 47 = .ok (.invokevirtual 134, 3) := by decide +kernel
theorem dX10_keyOf_50 : decode cX10_keyOf 50 = .ok (.istore_n 3, 1) := by decide +kernel
theorem dX10_keyOf_51 : decode cX10_keyOf 51 = .ok (.iload_n 3, 1) := by decide +kernel
theorem dX10_keyOf_52 : decode cX10_keyOf 52 = .ok (.bipush (-6), 2) := by decide +kernel
theorem dX10_keyOf_54 : decode cX10_keyOf 54 = .ok (.if_icmp .ne 6, 3) := by decide +kernel
theorem dX10_keyOf_57 : decode cX10_keyOf 57 = .ok (.bipush (-6), 2) := by decide +kernel
theorem dX10_keyOf_59 : decode cX10_keyOf 59 = .ok (.ireturn, 1) := by decide +kernel
theorem dX10_keyOf_60 : decode cX10_keyOf 60 = .ok (.iload_n 1, 1) := by decide +kernel
theorem dX10_keyOf_61 : decode cX10_keyOf 61 = .ok (.tableswitch 67 0 4 #[35, 40, 59, 67, 63], 35) := by decide +kernel
theorem dX10_keyOf_96 : decode cX10_keyOf 96 = .ok (.iload_n 3, 1) := by decide +kernel
theorem dX10_keyOf_97 : decode cX10_keyOf 97 = .ok (.bipush 20, 2) := by decide +kernel
theorem dX10_keyOf_99 : decode cX10_keyOf 99 = .ok (.idiv, 1) := by decide +kernel
theorem dX10_keyOf_100 : decode cX10_keyOf 100 = .ok (.ireturn, 1) := by decide +kernel
theorem dX10_keyOf_101 : decode cX10_keyOf 101 = .ok (.iload_n 3, 1) := by decide +kernel
theorem dX10_keyOf_102 : decode cX10_keyOf 102 = .ok (.ifCond .ne 7, 3) := by decide +kernel
theorem dX10_keyOf_105 : decode cX10_keyOf 105 = .ok (.iconst 0, 1) := by decide +kernel
theorem dX10_keyOf_106 : decode cX10_keyOf 106 = .ok (.goto 13, 3) := by decide +kernel
theorem dX10_keyOf_109 : decode cX10_keyOf 109 = .ok (.iload_n 3, 1) := by decide +kernel
theorem dX10_keyOf_110 : decode cX10_keyOf 110 = .ok (.iconst 5, 1) := by decide +kernel
theorem dX10_keyOf_111 : decode cX10_keyOf 111 = .ok (.if_icmp .ge 7, 3) := by decide +kernel
theorem dX10_keyOf_114 : decode cX10_keyOf 114 = .ok (.iconst 1, 1) := by decide +kernel
theorem dX10_keyOf_115 : decode cX10_keyOf 115 = .ok (.goto 4, 3) := by decide +kernel
theorem dX10_keyOf_118 : decode cX10_keyOf 118 = .ok (.iconst 2, 1) := by decide +kernel
theorem dX10_keyOf_119 : decode cX10_keyOf 119 = .ok (.ireturn, 1) := by decide +kernel
theorem dX10_keyOf_120 : decode cX10_keyOf 120 = .ok (.iload_n 3, 1) := by decide +kernel
theorem dX10_keyOf_121 : decode cX10_keyOf 121 = .ok (.iconst 2, 1) := by decide +kernel
theorem dX10_keyOf_122 : decode cX10_keyOf 122 = .ok (.idiv, 1) := by decide +kernel
theorem dX10_keyOf_123 : decode cX10_keyOf 123 = .ok (.ireturn, 1) := by decide +kernel
theorem dX10_keyOf_124 : decode cX10_keyOf 124 = .ok (.iload_n 3, 1) := by decide +kernel
theorem dX10_keyOf_125 : decode cX10_keyOf 125 = .ok (.iconst 3, 1) := by decide +kernel
theorem dX10_keyOf_126 : decode cX10_keyOf 126 = .ok (.idiv, 1) := by decide +kernel
theorem dX10_keyOf_127 : decode cX10_keyOf 127 = .ok (.ireturn, 1) := by decide +kernel
theorem dX10_keyOf_128 : decode cX10_keyOf 128 = .ok (.iload_n 3, 1) := by decide +kernel
theorem dX10_keyOf_129 : decode cX10_keyOf 129 = .ok (.ireturn, 1) := by decide +kernel
set_option maxRecDepth 20000 in
theorem ggX10_isSuch_X10_keyOf : GoodIn wsX10_isSuch wsX10_keyOf := goodIn_r _ [7, 8, 9, 10, 6, 11, 12, 13, 14, 15, 16, 1, 17, 18, 19, 20, 21, 22, 23, 24, 25, 26, 27, 28, 29, 30, 31, 32, 33, 34, 35, 36, 37, 38, 39, 40, 41, 42, 43, 44, 45, 46, 47, 48, 49, 50, 51, 52, 53, 54, 55, 56, 57, 58, 59, 60] (by decide +kernel) (by decide +kernel)
set_option maxRecDepth 20000 in
theorem gX10_isSuch_X10_keyOf : GoodIn wsX10_isSuch (wsV RX10 169 RX10 yX10_keyOf wsX10_keyOf) := goodIn_app (goodIn_of _ (by decide +kernel)) ggX10_isSuch_X10_keyOf
theorem dX10_isSuch_0 : decode cX10_isSuch 0 = .ok (.aload_n 0, 1) := by decide +kernel
theorem dX10_isSuch_1 : decode cX10_isSuch 1 = .ok (.getfield 7, 3) := by decide +kernel
theorem dX10_isSuch_4 : decode cX10_isSuch 4 = .ok (.iload_n 1, 1) := by decide +kernel
theorem dX10_isSuch_5 : decode cX10_isSuch 5 = .ok (.iaload, 1) := by decide +kernel
theorem dX10_isSuch_6 : decode cX10_isSuch 6 = .ok (.aload_n 0, 1) := by decide +kernel
theorem dX10_isSuch_7 : decode cX10_isSuch 7 = .ok (.getfield 7, 3) := by decide +kernel
theorem dX10_isSuch_10 : decode cX10_isSuch 10 = .ok (.iload_n 2, 1) := by decide +kernel
theorem dX10_isSuch_11 : decode cX10_isSuch 11 = .ok (.iaload, 1) := by decide +kernel
theorem dX10_isSuch_12 : decode cX10_isSuch 12 = .ok (.if_icmp .eq 7, 3) := by decide +kernel
theorem dX10_isSuch_15 : decode cX10_isSuch 15 = .ok (.iconst 1, 1) := by decide +kernel
theorem dX10_isSuch_16 : decode cX10_isSuch 16 = .ok (.goto 4, 3) := by decide +kernel
theorem dX10_isSuch_19 : decode cX10_isSuch 19 = .ok (.iconst 0, 1) := by decide +kernel
theorem dX10_isSuch_20 : decode cX10_isSuch 20 = .ok (.istore_n 3, 1) := by decide +kernel
theorem dX10_isSuch_21 : decode cX10_isSuch 21 = .ok (.iconst 0, 1) := by decide +kernel
theorem dX10_isSuch_22 : decode cX10_isSuch 22 = .ok (.istore 4, 2) := by decide +kernel
theorem dX10_isSuch_24 : decode cX10_isSuch 24 = .ok (.iload 4, 2) := by decide +kernel
theorem dX10_isSuch_26 : decode cX10_isSuch 26 = .ok (.bipush 6, 2) := by decide +kernel
theorem dX10_isSuch_28 : decode cX10_isSuch 28 = .ok (.if_icmp .ge 60, 3) := by decide +kernel
theorem dX10_isSuch_31 : decode cX10_isSuch 31 = .ok (.iload_n 3, 1) := by decide +kernel
theorem dX10_isSuch_32 : decode cX10_isSuch 32 = .ok (.ifCond .eq 56, 3) := by decide +kernel
theorem dX10_isSuch_35 : decode cX10_isSuch 35 = .ok (.aload_n 0, 1) := by decide +kernel
theorem dX10_isSuch_36 : decode cX10_isSuch 36 = .ok (.getfield 90, 3) := by decide +kernel
theorem dX10_isSuch_39 : decode cX10_isSuch 39 = .ok (.iload 4, 2) := by decide +kernel
theorem dX10_isSuch_41 : decode cX10_isSuch 41 = .ok (.ishr, 1) := by decide +kernel
theorem dX10_isSuch_42 : decode cX10_isSuch 42 = .ok (.iconst 1, 1) := by decide +kernel
theorem dX10_isSuch_43 : decode cX10_isSuch 43 = .ok (.iand, 1) := by decide +kernel
theorem dX10_isSuch_44 : decode cX10_isSuch 44 = .ok (.iconst 1, 1) := by decide +kernel
theorem dX10_isSuch_45 : decode cX10_isSuch 45 = .ok (.if_icmp .ne 37, 3) := by decide +kernel
theorem dX10_isSuch_48 : decode cX10_isSuch 48 = .ok (.aload_n 0, 1) := by decide +kernel
theorem dX10_isSuch_49 : decode cX10_isSuch 49 = .ok (.iload 4, 2) := by decide +kernel
theorem dX10_isSuch_51 : decode cX10_isSuch 51 = .ok (.iload_n 1, 1) := by decide +kernel
theorem dX10_isSuch_52 : decode cX10_isSuch 52 = .ok (.invokevirtual 169, 3) := by decide +kernel
theorem dX10_isSuch_55 : decode cX10_isSuch 55 = .ok (.istore 5, 2) := by decide +kernel
theorem dX10_isSuch_57 : decode cX10_isSuch 57 = .ok (.iload 5, 2) := by decide +kernel
theorem dX10_isSuch_59 : decode cX10_isSuch 59 = .ok (.bipush (-6), 2) := by decide +kernel
theorem dX10_isSuch_61 : decode cX10_isSuch 61 = .ok (.if_icmp .eq 19, 3) := by decide +kernel
theorem dX10_isSuch_64 : decode cX10_isSuch 64 = .ok (.iload 5, 2) := by decide +kernel
theorem dX10_isSuch_66 : decode cX10_isSuch 66 = .ok (.aload_n 0, 1) := by decide +kernel
theorem dX10_isSuch_67 : decode cX10_isSuch 67 = .ok (.iload 4, 2) := by decide +kernel
theorem dX10_isSuch_69 : decode cX10_isSuch 69 = .ok (.iload_n 2, 1) := by decide +kernel
theorem dX10_isSuch_70 : decode cX10_isSuch 70 = .ok (.invokevirtual 169, 3) := by decide +kernel
theorem dX10_isSuch_73 : decode cX10_isSuch 73 = .ok (.if_icmp .ne 7, 3) := by decide +kernel
theorem dX10_isSuch_76 : decode cX10_isSuch 76 = .ok (.iconst 1, 1) := by decide +kernel
theorem dX10_isSuch_77 : decode cX10_isSuch 77 = .ok (.goto 4, 3) := by decide +kernel
theorem dX10_isSuch_80 : decode cX10_isSuch 80 = .ok (.iconst 0, 1) := by decide +kernel
theorem dX10_isSuch_81 : decode cX10_isSuch 81 = .ok (.istore_n 3, 1) := by decide +kernel
theorem dX10_isSuch_82 : decode cX10_isSuch 82 = .ok (.iinc 4 1, 3) := by decide +kernel
theorem dX10_isSuch_85 : decode cX10_isSuch 85 = .ok (.goto (-61), 3) := by decide +kernel
theorem dX10_isSuch_88 : decode cX10_isSuch 88 = .ok (.iload_n 3, 1) := by decide +kernel
theorem dX10_isSuch_89 : decode cX10_isSuch 89 = .ok (.ireturn, 1) := by decide +kernel
set_option maxRecDepth 20000 in
theorem ggX10_suchMany_X10_isSuch : GoodIn wsX10_suchMany wsX10_isSuch := goodIn_r _ [7, 8, 9, 10, 11, 12, 6, 13, 14, 15, 16, 17, 18, 19, 20, 21, 2, 22, 23, 24, 25, 26, 27, 28, 29, 30, 31, 32, 33, 34, 35, 36, 37, 38, 39, 40, 41, 42, 43, 44, 45, 46, 47, 48, 49, 50, 51, 52, 53, 54, 55, 56, 57, 58, 59, 60, 61, 62, 63, 64, 65] (by decide +kernel) (by decide +kernel)
set_option maxRecDepth 20000 in
theorem gX10_suchMany_X10_isSuch : GoodIn wsX10_suchMany (wsV RX10 172 RX10 yX10_isSuch wsX10_isSuch) := goodIn_app (goodIn_of _ (by decide +kernel)) ggX10_suchMany_X10_isSuch
theorem dX10_suchMany_0 : decode cX10_suchMany 0 = .ok (.iconst 0, 1) := by decide +kernel
theorem dX10_suchMany_1 : decode cX10_suchMany 1 = .ok (.istore_n 3, 1) := by decide +kernel
theorem dX10_suchMany_2 : decode cX10_suchMany 2 = .ok (.iconst 0, 1) := by decide +kernel
theorem dX10_suchMany_3 : decode cX10_suchMany 3 = .ok (.istore 4, 2) := by decide +kernel
theorem dX10_suchMany_5 : decode cX10_suchMany 5 = .ok (.iload 4, 2) := by decide +kernel
theorem dX10_suchMany_7 : decode cX10_suchMany 7 = .ok (.aload_n 0, 1) := by decide +kernel
theorem dX10_suchMany_8 : decode cX10_suchMany 8 = .ok (.getfield 111, 3) := by decide +kernel
theorem dX10_suchMany_11 : decode cX10_suchMany 11 = .ok (.if_icmp .ge 42, 3) := by decide +kernel
theorem dX10_suchMany_14 : decode cX10_suchMany 14 = .ok (.iload_n 3, 1) := by decide +kernel
theorem dX10_suchMany_15 : decode cX10_suchMany 15 = .ok (.aload_n 0, 1) := by decide +kernel
theorem dX10_suchMany_16 : decode cX10_suchMany 16 = .ok (.iload_n 1, 1) := by decide +kernel
theorem dX10_suchMany_17 : decode cX10_suchMany 17 = .ok (.iload 4, 2) := by decide +kernel
theorem dX10_suchMany_19 : decode cX10_suchMany 19 = .ok (.invokevirtual 172, 3) := by decide +kernel
theorem dX10_suchMany_22 : decode cX10_suchMany 22 = .ok (.ifCond .eq 22, 3) := by decide +kernel
theorem dX10_suchMany_25 : decode cX10_suchMany 25 = .ok (.iload_n 2, 1) := by decide +kernel
theorem dX10_suchMany_26 : decode cX10_suchMany 26 = .ok (.ifCond .eq 14, 3) := by decide +kernel
theorem dX10_suchMany_29 : decode cX10_suchMany 29 = .ok (.aload_n 0, 1) := by decide +kernel
theorem dX10_suchMany_30 : decode cX10_suchMany 30 = .ok (.getfield 25, 3) := by decide +kernel
theorem dX10_suchMany_33 : decode cX10_suchMany 33 = .ok (.iload 4, 2) := by decide +kernel
theorem dX10_suchMany_35 : decode cX10_suchMany 35 = .ok (.iaload, 1) := by decide +kernel
theorem dX10_suchMany_36 : decode cX10_suchMany 36 = .ok (.iconst 1, 1) := by decide +kernel
theorem dX10_suchMany_37 : decode cX10_suchMany 37 = .ok (.if_icmp .ne 7, 3) := by decide +kernel
theorem dX10_suchMany_40 : decode cX10_suchMany 40 = .ok (.iconst 1, 1) := by decide +kernel
theorem dX10_suchMany_41 : decode cX10_suchMany 41 = .ok (.goto 4, 3) := by decide +kernel
theorem dX10_suchMany_44 : decode cX10_suchMany 44 = .ok (.iconst 0, 1) := by decide +kernel
theorem dX10_suchMany_45 : decode cX10_suchMany 45 = .ok (.iadd, 1) := by decide +kernel
theorem dX10_suchMany_46 : decode cX10_suchMany 46 = .ok (.istore_n 3, 1) := by decide +kernel
theorem dX10_suchMany_47 : decode cX10_suchMany 47 = .ok (.iinc 4 1, 3) := by decide +kernel
theorem dX10_suchMany_50 : decode cX10_suchMany 50 = .ok (.goto (-45), 3) := by decide +kernel
theorem dX10_suchMany_53 : decode cX10_suchMany 53 = .ok (.iload_n 3, 1) := by decide +kernel
theorem dX10_suchMany_54 : decode cX10_suchMany 54 = .ok (.ireturn, 1) := by decide +kernel
set_option maxRecDepth 20000 in
theorem ggX10_bookOf_X10_suchMany : GoodIn wsX10_bookOf wsX10_suchMany := goodIn_r _ [5, 6, 7, 8, 9, 10, 4, 11, 12, 13, 14, 15, 16, 17, 18, 19, 20, 21, 22, 23, 24, 25, 26, 27, 28, 29, 33, 34, 35, 36, 37, 38, 39, 40, 41, 42, 43, 44, 45, 46, 47, 48, 49, 50, 51, 52, 53, 54, 55, 56, 57, 58, 59, 60, 61, 62, 63, 64, 65, 66, 67, 68, 69, 70, 71, 72] (by decide +kernel) (by decide +kernel)
set_option maxRecDepth 20000 in
theorem gX10_bookOf_X10_suchMany : GoodIn wsX10_bookOf (wsV RX10 175 RX10 yX10_suchMany wsX10_suchMany) := goodIn_app (goodIn_of _ (by decide +kernel)) ggX10_bookOf_X10_suchMany
set_option maxRecDepth 20000 in
theorem ggX10_bookOf_X10_share : GoodIn wsX10_bookOf wsX10_share := goodIn_r _ [32] (by decide +kernel) (by decide +kernel)
set_option maxRecDepth 20000 in
theorem gX10_bookOf_X10_share : GoodIn wsX10_bookOf (va_wsS RX10 166 yX10_share wsX10_share) := goodIn_app (goodIn_of _ (by decide +kernel)) ggX10_bookOf_X10_share
theorem dX10_bookOf_0 : decode cX10_bookOf 0 = .ok (.aload_n 0, 1) := by decide +kernel
theorem dX10_bookOf_1 : decode cX10_bookOf 1 = .ok (.iload_n 1, 1) := by decide +kernel
theorem dX10_bookOf_2 : decode cX10_bookOf 2 = .ok (.iconst 1, 1) := by decide +kernel
theorem dX10_bookOf_3 : decode cX10_bookOf 3 = .ok (.invokevirtual 175, 3) := by decide +kernel
theorem dX10_bookOf_6 : decode cX10_bookOf 6 = .ok (.aload_n 0, 1) := by decide +kernel
theorem dX10_bookOf_7 : decode cX10_bookOf 7 = .ok (.iload_n 1, 1) := by decide +kernel
theorem dX10_bookOf_8 : decode cX10_bookOf 8 = .ok (.iconst 0, 1) := by decide +kernel
theorem dX10_bookOf_9 : decode cX10_bookOf 9 = .ok (.invokevirtual 175, 3) := by decide +kernel
theorem dX10_bookOf_12 : decode cX10_bookOf 12 = .ok (.invokestatic 166, 3) := by decide +kernel
theorem dX10_bookOf_15 : decode cX10_bookOf 15 = .ok (.ireturn, 1) := by decide +kernel
set_option maxRecDepth 20000 in
theorem ggX10_oddsOf_X10_monthOf : GoodIn wsX10_oddsOf wsX10_monthOf := goodIn_r _ [8, 9, 10, 11, 1, 12, 13, 7, 14, 57, 58, 59, 60, 61, 62, 63, 64, 65, 66, 67, 68, 69, 70, 71, 72, 73, 74, 75, 76, 77, 78, 79, 80, 81, 82, 83, 84, 85, 86, 87, 88, 89, 90, 91, 92, 93, 94, 95, 96] (by decide +kernel) (by decide +kernel)
set_option maxRecDepth 20000 in
theorem gX10_oddsOf_X10_monthOf : GoodIn wsX10_oddsOf (wsV RX10 179 RX10 yX10_monthOf wsX10_monthOf) := goodIn_app (goodIn_of _ (by decide +kernel)) ggX10_oddsOf_X10_monthOf
set_option maxRecDepth 20000 in
theorem ggX10_oddsOf_X10_saidOf : GoodIn wsX10_oddsOf wsX10_saidOf := goodIn_r _ [18, 19, 20, 21, 22, 23, 24, 7, 25, 26, 27, 28, 29, 30, 31, 32, 33, 34, 35, 10, 1, 11, 36, 37, 38, 39, 57, 58, 59, 60, 61, 62, 63, 64, 65, 66, 67, 68, 69, 70, 71, 72, 73, 74, 75, 76, 77, 78, 79, 80, 81, 82, 83, 84, 85, 86, 87, 88, 89, 90, 91, 92, 93, 94, 95, 96] (by decide +kernel) (by decide +kernel)
set_option maxRecDepth 20000 in
theorem gX10_oddsOf_X10_saidOf : GoodIn wsX10_oddsOf (wsV RX10 182 RX10 yX10_saidOf wsX10_saidOf) := goodIn_app (goodIn_of _ (by decide +kernel)) ggX10_oddsOf_X10_saidOf
set_option maxRecDepth 20000 in
theorem ggX10_oddsOf_X10_bookOf : GoodIn wsX10_oddsOf wsX10_bookOf := goodIn_r _ [43, 44, 45, 46, 7, 47, 9, 1, 48, 49, 50, 51, 11, 52, 53, 54, 55, 56, 29, 30, 31, 32, 33, 34, 35, 10, 36, 37, 38, 39, 12, 13, 14, 57, 58, 59, 60, 61, 62, 63, 64, 65, 66, 67, 68, 69, 70, 71, 72, 73, 74, 75, 76, 77, 78, 79, 80, 81, 82, 83, 84, 85, 86, 87, 88, 89, 90, 91, 92, 93, 94, 95, 96] (by decide +kernel) (by decide +kernel)
set_option maxRecDepth 20000 in
theorem gX10_oddsOf_X10_bookOf : GoodIn wsX10_oddsOf (wsV RX10 185 RX10 yX10_bookOf wsX10_bookOf) := goodIn_app (goodIn_of _ (by decide +kernel)) ggX10_oddsOf_X10_bookOf
theorem dX10_oddsOf_0 : decode cX10_oddsOf 0 = .ok (.iload_n 1, 1) := by decide +kernel
theorem dX10_oddsOf_1 : decode cX10_oddsOf 1 = .ok (.ifCond .ne 25, 3) := by decide +kernel
theorem dX10_oddsOf_4 : decode cX10_oddsOf 4 = .ok (.iload_n 2, 1) := by decide +kernel
theorem dX10_oddsOf_5 : decode cX10_oddsOf 5 = .ok (.ifCond .ne 8, 3) := by decide +kernel
theorem dX10_oddsOf_8 : decode cX10_oddsOf 8 = .ok (.bipush (-6), 2) := by decide +kernel
theorem dX10_oddsOf_10 : decode cX10_oddsOf 10 = .ok (.goto 15, 3) := by decide +kernel
theorem dX10_oddsOf_13 : decode cX10_oddsOf 13 = .ok (.sipush 1000, 3) := by decide +kernel
theorem dX10_oddsOf_16 : decode cX10_oddsOf 16 = .ok (.aload_n 0, 1) := by decide +kernel
theorem dX10_oddsOf_17 : decode cX10_oddsOf 17 = .ok (.getfield 25, 3) := by decide +kernel
theorem dX10_oddsOf_20 : decode cX10_oddsOf 20 = .ok (.iload_n 2, 1) := by decide +kernel
theorem dX10_oddsOf_21 : decode cX10_oddsOf 21 = .ok (.iconst 1, 1) := by decide +kernel
theorem dX10_oddsOf_22 : decode cX10_oddsOf 22 = .ok (.isub, 1) := by decide +kernel
theorem dX10_oddsOf_23 : decode cX10_oddsOf 23 = .ok (.iaload, 1) := by decide +kernel
theorem dX10_oddsOf_24 : decode cX10_oddsOf 24 = .ok (.imul, 1) := by decide +kernel
theorem dX10_oddsOf_25 : decode cX10_oddsOf 25 = .ok (.ireturn, 1) := by decide +kernel
theorem dX10_oddsOf_26 : decode cX10_oddsOf 26 = .ok (.iload_n 1, 1) := by decide +kernel
theorem dX10_oddsOf_27 : decode cX10_oddsOf 27 = .ok (.iconst 1, 1) := by decide +kernel
theorem dX10_oddsOf_28 : decode cX10_oddsOf 28 = .ok (.if_icmp .ne 9, 3) := by decide +kernel
theorem dX10_oddsOf_31 : decode cX10_oddsOf 31 = .ok (.aload_n 0, 1) := by decide +kernel
theorem dX10_oddsOf_32 : decode cX10_oddsOf 32 = .ok (.iload_n 2, 1) := by decide +kernel
theorem dX10_oddsOf_33 : decode cX10_oddsOf 33 = .ok (.invokevirtual 179, 3) := by decide +kernel
theorem dX10_oddsOf_36 : decode cX10_oddsOf 36 = .ok (.ireturn, 1) := by decide +kernel
theorem dX10_oddsOf_37 : decode cX10_oddsOf 37 = .ok (.iload_n 1, 1) := by decide +kernel
theorem dX10_oddsOf_38 : decode cX10_oddsOf 38 = .ok (.bipush 6, 2) := by decide +kernel
theorem dX10_oddsOf_40 : decode cX10_oddsOf 40 = .ok (.if_icmp .ge 12, 3) := by decide +kernel
theorem dX10_oddsOf_43 : decode cX10_oddsOf 43 = .ok (.aload_n 0, 1) := by decide +kernel
theorem dX10_oddsOf_44 : decode cX10_oddsOf 44 = .ok (.iload_n 1, 1) := by decide +kernel
theorem dX10_oddsOf_45 : decode cX10_oddsOf 45 = .ok (.iconst 2, 1) := by decide +kernel
theorem dX10_oddsOf_46 : decode cX10_oddsOf 46 = .ok (.isub, 1) := by decide +kernel
theorem dX10_oddsOf_47 : decode cX10_oddsOf 47 = .ok (.iload_n 2, 1) := by decide +kernel
theorem dX10_oddsOf_48 : decode cX10_oddsOf 48 = .ok (.invokevirtual 182, 3) := by decide +kernel
theorem dX10_oddsOf_51 : decode cX10_oddsOf 51 = .ok (.ireturn, 1) := by decide +kernel
theorem dX10_oddsOf_52 : decode cX10_oddsOf 52 = .ok (.iload_n 1, 1) := by decide +kernel
theorem dX10_oddsOf_53 : decode cX10_oddsOf 53 = .ok (.bipush 6, 2) := by decide +kernel
theorem dX10_oddsOf_55 : decode cX10_oddsOf 55 = .ok (.if_icmp .ne 9, 3) := by decide +kernel
theorem dX10_oddsOf_58 : decode cX10_oddsOf 58 = .ok (.aload_n 0, 1) := by decide +kernel
theorem dX10_oddsOf_59 : decode cX10_oddsOf 59 = .ok (.iload_n 2, 1) := by decide +kernel
theorem dX10_oddsOf_60 : decode cX10_oddsOf 60 = .ok (.invokevirtual 185, 3) := by decide +kernel
theorem dX10_oddsOf_63 : decode cX10_oddsOf 63 = .ok (.ireturn, 1) := by decide +kernel
theorem dX10_oddsOf_64 : decode cX10_oddsOf 64 = .ok (.iload_n 1, 1) := by decide +kernel
theorem dX10_oddsOf_65 : decode cX10_oddsOf 65 = .ok (.bipush 7, 2) := by decide +kernel
theorem dX10_oddsOf_67 : decode cX10_oddsOf 67 = .ok (.if_icmp .ne 10, 3) := by decide +kernel
theorem dX10_oddsOf_70 : decode cX10_oddsOf 70 = .ok (.aload_n 0, 1) := by decide +kernel
theorem dX10_oddsOf_71 : decode cX10_oddsOf 71 = .ok (.getfield 28, 3) := by decide +kernel
theorem dX10_oddsOf_74 : decode cX10_oddsOf 74 = .ok (.iload_n 2, 1) := by decide +kernel
theorem dX10_oddsOf_75 : decode cX10_oddsOf 75 = .ok (.iaload, 1) := by decide +kernel
theorem dX10_oddsOf_76 : decode cX10_oddsOf 76 = .ok (.ireturn, 1) := by decide +kernel
theorem dX10_oddsOf_77 : decode cX10_oddsOf 77 = .ok (.aload_n 0, 1) := by decide +kernel
theorem dX10_oddsOf_78 : decode cX10_oddsOf 78 = .ok (.iload_n 2, 1) := by decide +kernel
theorem dX10_oddsOf_79 : decode cX10_oddsOf 79 = .ok (.invokevirtual 185, 3) := by decide +kernel
theorem dX10_oddsOf_82 : decode cX10_oddsOf 82 = .ok (.istore_n 3, 1) := by decide +kernel
theorem dX10_oddsOf_83 : decode cX10_oddsOf 83 = .ok (.iload_n 3, 1) := by decide +kernel
theorem dX10_oddsOf_84 : decode cX10_oddsOf 84 = .ok (.ifCond .lt 12, 3) := by decide +kernel
theorem dX10_oddsOf_87 : decode cX10_oddsOf 87 = .ok (.aload_n 0, 1) := by decide +kernel
theorem dX10_oddsOf_88 : decode cX10_oddsOf 88 = .ok (.getfield 28, 3) := by decide +kernel
theorem dX10_oddsOf_91 : decode cX10_oddsOf 91 = .ok (.iload_n 2, 1) := by decide +kernel
theorem dX10_oddsOf_92 : decode cX10_oddsOf 92 = .ok (.iaload, 1) := by decide +kernel
theorem dX10_oddsOf_93 : decode cX10_oddsOf 93 = .ok (.ifCond .ge 8, 3) := by decide +kernel
theorem dX10_oddsOf_96 : decode cX10_oddsOf 96 = .ok (.bipush (-6), 2) := by decide +kernel
theorem dX10_oddsOf_98 : decode cX10_oddsOf 98 = .ok (.goto 27, 3) := by decide +kernel
theorem dX10_oddsOf_101 : decode cX10_oddsOf 101 = .ok (.iload_n 3, 1) := by decide +kernel
theorem dX10_oddsOf_102 : decode cX10_oddsOf 102 = .ok (.aload_n 0, 1) := by decide +kernel
theorem dX10_oddsOf_103 : decode cX10_oddsOf 103 = .ok (.getfield 93, 3) := by decide +kernel
theorem dX10_oddsOf_106 : decode cX10_oddsOf 106 = .ok (.imul, 1) := by decide +kernel
theorem dX10_oddsOf_107 : decode cX10_oddsOf 107 = .ok (.aload_n 0, 1) := by decide +kernel
theorem dX10_oddsOf_108 : decode cX10_oddsOf 108 = .ok (.getfield 28, 3) := by decide +kernel
theorem dX10_oddsOf_111 : decode cX10_oddsOf 111 = .ok (.iload_n 2, 1) := by decide +kernel
theorem dX10_oddsOf_112 : decode cX10_oddsOf 112 = .ok (.iaload, 1) := by decide +kernel
theorem dX10_oddsOf_113 : decode cX10_oddsOf 113 = .ok (.bipush 10, 2) := by decide +kernel
theorem dX10_oddsOf_115 : decode cX10_oddsOf 115 = .ok (.aload_n 0, 1) := by decide +kernel
theorem dX10_oddsOf_116 : decode cX10_oddsOf 116 = .ok (.getfield 93, 3) := by decide +kernel
theorem dX10_oddsOf_119 : decode cX10_oddsOf 119 = .ok (.isub, 1) := by decide +kernel
theorem dX10_oddsOf_120 : decode cX10_oddsOf 120 = .ok (.imul, 1) := by decide +kernel
theorem dX10_oddsOf_121 : decode cX10_oddsOf 121 = .ok (.iadd, 1) := by decide +kernel
theorem dX10_oddsOf_122 : decode cX10_oddsOf 122 = .ok (.bipush 10, 2) := by decide +kernel
theorem dX10_oddsOf_124 : decode cX10_oddsOf 124 = .ok (.idiv, 1) := by decide +kernel
theorem dX10_oddsOf_125 : decode cX10_oddsOf 125 = .ok (.ireturn, 1) := by decide +kernel
set_option maxRecDepth 20000 in
theorem ggX10_isTeller_X10_in : GoodIn wsX10_isTeller wsX10_in := goodIn_r _ [5] (by decide +kernel) (by decide +kernel)
set_option maxRecDepth 20000 in
theorem gX10_isTeller_X10_in : GoodIn wsX10_isTeller (va_wsS RX10 99 yX10_in wsX10_in) := goodIn_app (goodIn_of _ (by decide +kernel)) ggX10_isTeller_X10_in
theorem dX10_isTeller_0 : decode cX10_isTeller 0 = .ok (.iload_n 0, 1) := by decide +kernel
theorem dX10_isTeller_1 : decode cX10_isTeller 1 = .ok (.i2l, 1) := by decide +kernel
theorem dX10_isTeller_2 : decode cX10_isTeller 2 = .ok (.lconst 0, 1) := by decide +kernel
theorem dX10_isTeller_3 : decode cX10_isTeller 3 = .ok (.ldc2_w 132, 3) := by decide +kernel
theorem dX10_isTeller_6 : decode cX10_isTeller 6 = .ok (.invokestatic 99, 3) := by decide +kernel
theorem dX10_isTeller_9 : decode cX10_isTeller 9 = .ok (.ireturn, 1) := by decide +kernel
set_option maxRecDepth 20000 in
theorem ggX10_odds_X10_isTeller : GoodIn wsX10_odds wsX10_isTeller := goodIn_r _ [4, 5, 6, 7, 3, 8] (by decide +kernel) (by decide +kernel)
set_option maxRecDepth 20000 in
theorem gX10_odds_X10_isTeller : GoodIn wsX10_odds (va_wsS RX10 188 yX10_isTeller wsX10_isTeller) := goodIn_app (goodIn_of _ (by decide +kernel)) ggX10_odds_X10_isTeller
set_option maxRecDepth 20000 in
theorem ggX10_odds_X10_isDay : GoodIn wsX10_odds wsX10_isDay := goodIn_r _ [12, 13, 6, 7, 3, 8, 72, 73, 74, 75, 76, 77, 78, 79, 80, 81, 82, 83, 84, 85, 86, 87, 88, 89, 90, 91, 92, 93, 94, 95, 96, 97, 98, 99, 100, 101, 102, 103, 104, 105, 106, 107, 108, 109, 110, 111] (by decide +kernel) (by decide +kernel)
set_option maxRecDepth 20000 in
theorem gX10_odds_X10_isDay : GoodIn wsX10_odds (wsV RX10 129 RX10 yX10_isDay wsX10_isDay) := goodIn_app (goodIn_of _ (by decide +kernel)) ggX10_odds_X10_isDay
set_option maxRecDepth 20000 in
theorem ggX10_odds_X10_oddsOf : GoodIn wsX10_odds wsX10_oddsOf := goodIn_r _ [17, 18, 19, 20, 21, 22, 23, 3, 24, 13, 25, 26, 27, 28, 29, 30, 31, 32, 33, 34, 35, 36, 37, 38, 39, 40, 41, 42, 43, 44, 45, 46, 47, 48, 49, 50, 51, 52, 53, 54, 55, 56, 57, 58, 59, 60, 61, 62, 63, 64, 65, 66, 67, 68, 69, 70, 71, 72, 73, 74, 75, 76, 77, 78, 79, 80, 81, 82, 83, 84, 85, 86, 87, 88, 89, 90, 91, 92, 93, 94, 95, 96, 97, 98, 99, 100, 101, 102, 103, 104, 105, 106, 107, 108, 109, 110, 111] (by decide +kernel) (by decide +kernel)
set_option maxRecDepth 20000 in
theorem gX10_odds_X10_oddsOf : GoodIn wsX10_odds (wsV RX10 191 RX10 yX10_oddsOf wsX10_oddsOf) := goodIn_app (goodIn_of _ (by decide +kernel)) ggX10_odds_X10_oddsOf
theorem dX10_odds_0 : decode cX10_odds 0 = .ok (.iload_n 1, 1) := by decide +kernel
theorem dX10_odds_1 : decode cX10_odds 1 = .ok (.invokestatic 188, 3) := by decide +kernel
theorem dX10_odds_4 : decode cX10_odds 4 = .ok (.ifCond .eq 20, 3) := by decide +kernel
theorem dX10_odds_7 : decode cX10_odds 7 = .ok (.aload_n 0, 1) := by decide +kernel
theorem dX10_odds_8 : decode cX10_odds 8 = .ok (.iload_n 2, 1) := by decide +kernel
theorem dX10_odds_9 : decode cX10_odds 9 = .ok (.invokevirtual 129, 3) := by decide +kernel
theorem dX10_odds_12 : decode cX10_odds 12 = .ok (.ifCond .eq 12, 3) := by decide +kernel
theorem dX10_odds_15 : decode cX10_odds 15 = .ok (.aload_n 0, 1) := by decide +kernel
theorem dX10_odds_16 : decode cX10_odds 16 = .ok (.iload_n 1, 1) := by decide +kernel
theorem dX10_odds_17 : decode cX10_odds 17 = .ok (.iload_n 2, 1) := by decide +kernel
theorem dX10_odds_18 : decode cX10_odds 18 = .ok (.invokevirtual 191, 3) := by decide +kernel
theorem dX10_odds_21 : decode cX10_odds 21 = .ok (.goto 4, 3) := by decide +kernel
theorem dX10_odds_24 : decode cX10_odds 24 = .ok (.iconst (-1), 1) := by decide +kernel
theorem dX10_odds_25 : decode cX10_odds 25 = .ok (.ireturn, 1) := by decide +kernel
set_option maxRecDepth 20000 in
theorem ggX10_such_X10_isDay : GoodIn wsX10_such wsX10_isDay := goodIn_r _ [5, 6, 7, 8, 4, 9, 40, 41, 42, 43, 44, 45, 46, 47, 48, 49, 50, 51, 52, 53, 54, 55, 56, 57, 58, 59, 60, 61, 62, 63, 64, 65, 66, 67, 68, 69, 70, 71, 72, 73, 74, 75, 76, 77, 78, 79] (by decide +kernel) (by decide +kernel)
set_option maxRecDepth 20000 in
theorem gX10_such_X10_isDay : GoodIn wsX10_such (wsV RX10 129 RX10 yX10_isDay wsX10_isDay) := goodIn_app (goodIn_of _ (by decide +kernel)) ggX10_such_X10_isDay
set_option maxRecDepth 20000 in
theorem ggX10_such_X10_isEnd : GoodIn wsX10_such wsX10_isEnd := goodIn_r _ [12, 7, 8, 4, 9] (by decide +kernel) (by decide +kernel)
set_option maxRecDepth 20000 in
theorem gX10_such_X10_isEnd : GoodIn wsX10_such (va_wsS RX10 122 yX10_isEnd wsX10_isEnd) := goodIn_app (goodIn_of _ (by decide +kernel)) ggX10_such_X10_isEnd
set_option maxRecDepth 20000 in
theorem ggX10_such_X10_suchMany : GoodIn wsX10_such wsX10_suchMany := goodIn_r _ [16, 6, 17, 18, 19, 20, 4, 21, 22, 23, 24, 25, 26, 27, 28, 29, 30, 31, 32, 33, 34, 35, 36, 37, 38, 39, 40, 41, 42, 43, 44, 45, 46, 47, 48, 49, 50, 51, 52, 53, 54, 55, 56, 57, 58, 59, 60, 61, 62, 63, 64, 65, 66, 67, 68, 69, 70, 71, 72, 73, 74, 75, 76, 77, 78, 79] (by decide +kernel) (by decide +kernel)
set_option maxRecDepth 20000 in
theorem gX10_such_X10_suchMany : GoodIn wsX10_such (wsV RX10 175 RX10 yX10_suchMany wsX10_suchMany) := goodIn_app (goodIn_of _ (by decide +kernel)) ggX10_such_X10_suchMany
theorem dX10_such_0 : decode cX10_such 0 = .ok (.aload_n 0, 1) := by decide +kernel
theorem dX10_such_1 : decode cX10_such 1 = .ok (.iload_n 1, 1) := by decide +kernel
theorem dX10_such_2 : decode cX10_such 2 = .ok (.invokevirtual 129, 3) := by decide +kernel
theorem dX10_such_5 : decode cX10_such 5 = .ok (.ifCond .ne 5, 3) := by decide +kernel
theorem dX10_such_8 : decode cX10_such 8 = .ok (.iconst (-1), 1) := by decide +kernel
theorem dX10_such_9 : decode cX10_such 9 = .ok (.ireturn, 1) := by decide +kernel
theorem dX10_such_10 : decode cX10_such 10 = .ok (.iload_n 2, 1) := by decide +kernel
theorem dX10_such_11 : decode cX10_such 11 = .ok (.invokestatic 122, 3) := by decide +kernel
theorem dX10_such_14 : decode cX10_such 14 = .ok (.ifCond .eq 21, 3) := by decide +kernel
theorem dX10_such_17 : decode cX10_such 17 = .ok (.aload_n 0, 1) := by decide +kernel
theorem dX10_such_18 : decode cX10_such 18 = .ok (.iload_n 1, 1) := by decide +kernel
theorem dX10_such_19 : decode cX10_such 19 = .ok (.iload_n 2, 1) := by decide +kernel
theorem dX10_such_20 : decode cX10_such 20 = .ok (.iconst 1, 1) := by decide +kernel
theorem dX10_such_21 : decode cX10_such 21 = .ok (.if_icmp .ne 7, 3) := by decide +kernel
theorem dX10_such_24 : decode cX10_such 24 = .ok (.iconst 1, 1) := by decide +kernel
theorem dX10_such_25 : decode cX10_such 25 = .ok (.goto 4, 3) := by decide +kernel
theorem dX10_such_28 : decode cX10_such 28 = .ok (.iconst 0, 1) := by decide +kernel
theorem dX10_such_29 : decode cX10_such 29 = .ok (.invokevirtual 175, 3) := by decide +kernel
theorem dX10_such_32 : decode cX10_such 32 = .ok (.goto 5, 3) := by decide +kernel
theorem dX10_such_35 : decode cX10_such 35 = .ok (.bipush (-2), 2) := by decide +kernel
theorem dX10_such_37 : decode cX10_such 37 = .ok (.ireturn, 1) := by decide +kernel
set_option maxRecDepth 20000 in
theorem ggX10_wire_X10_isDay : GoodIn wsX10_wire wsX10_isDay := goodIn_r _ [8, 9, 10, 11, 7, 12, 13, 14, 15, 16, 17, 18, 19, 20, 21, 22, 23, 24, 25, 26, 27, 28, 29, 30, 31, 32, 33, 34, 35, 36, 37, 38, 39, 40, 41, 42, 43, 44, 45, 46, 47, 48, 49, 50, 51, 52] (by decide +kernel) (by decide +kernel)
set_option maxRecDepth 20000 in
theorem gX10_wire_X10_isDay : GoodIn wsX10_wire (wsV RX10 129 RX10 yX10_isDay wsX10_isDay) := goodIn_app (goodIn_of _ (by decide +kernel)) ggX10_wire_X10_isDay
set_option maxRecDepth 20000 in
theorem ggX10_wire_X10_in : GoodIn wsX10_wire wsX10_in := goodIn_r _ [12] (by decide +kernel) (by decide +kernel)
set_option maxRecDepth 20000 in
theorem gX10_wire_X10_in : GoodIn wsX10_wire (va_wsS RX10 99 yX10_in wsX10_in) := goodIn_app (goodIn_of _ (by decide +kernel)) ggX10_wire_X10_in
theorem dX10_wire_0 : decode cX10_wire 0 = .ok (.aload_n 0, 1) := by decide +kernel
theorem dX10_wire_1 : decode cX10_wire 1 = .ok (.iload_n 1, 1) := by decide +kernel
theorem dX10_wire_2 : decode cX10_wire 2 = .ok (.invokevirtual 129, 3) := by decide +kernel
theorem dX10_wire_5 : decode cX10_wire 5 = .ok (.ifCond .ne 5, 3) := by decide +kernel
theorem dX10_wire_8 : decode cX10_wire 8 = .ok (.iconst (-1), 1) := by decide +kernel
theorem dX10_wire_9 : decode cX10_wire 9 = .ok (.ireturn, 1) := by decide +kernel
theorem dX10_wire_10 : decode cX10_wire 10 = .ok (.iload_n 2, 1) := by decide +kernel
theorem dX10_wire_11 : decode cX10_wire 11 = .ok (.i2l, 1) := by decide +kernel
theorem dX10_wire_12 : decode cX10_wire 12 = .ok (.ldc2_w 116, 3) := by decide +kernel
theorem dX10_wire_15 : decode cX10_wire 15 = .ok (.ldc2_w 194, 3) := by decide +kernel
theorem dX10_wire_18 : decode cX10_wire 18 = .ok (.invokestatic 99, 3) := by decide +kernel
theorem dX10_wire_21 : decode cX10_wire 21 = .ok (.ifCond .ne 6, 3) := by decide +kernel
theorem dX10_wire_24 : decode cX10_wire 24 = .ok (.bipush (-2), 2) := by decide +kernel
theorem dX10_wire_26 : decode cX10_wire 26 = .ok (.ireturn, 1) := by decide +kernel
theorem dX10_wire_27 : decode cX10_wire 27 = .ok (.aload_n 0, 1) := by decide +kernel
theorem dX10_wire_28 : decode cX10_wire 28 = .ok (.getfield 28, 3) := by decide +kernel
theorem dX10_wire_31 : decode cX10_wire 31 = .ok (.iload_n 1, 1) := by decide +kernel
theorem dX10_wire_32 : decode cX10_wire 32 = .ok (.iaload, 1) := by decide +kernel
theorem dX10_wire_33 : decode cX10_wire 33 = .ok (.istore_n 3, 1) := by decide +kernel
theorem dX10_wire_34 : decode cX10_wire 34 = .ok (.aload_n 0, 1) := by decide +kernel
theorem dX10_wire_35 : decode cX10_wire 35 = .ok (.getfield 28, 3) := by decide +kernel
theorem dX10_wire_38 : decode cX10_wire 38 = .ok (.iload_n 1, 1) := by decide +kernel
theorem dX10_wire_39 : decode cX10_wire 39 = .ok (.iload_n 2, 1) := by decide +kernel
theorem dX10_wire_40 : decode cX10_wire 40 = .ok (.ifCond .ge 8, 3) := by decide +kernel
theorem dX10_wire_43 : decode cX10_wire 43 = .ok (.bipush (-6), 2) := by decide +kernel
theorem dX10_wire_45 : decode cX10_wire 45 = .ok (.goto 4, 3) := by decide +kernel
theorem dX10_wire_48 : decode cX10_wire 48 = .ok (.iload_n 2, 1) := by decide +kernel
theorem dX10_wire_49 : decode cX10_wire 49 = .ok (.iastore, 1) := by decide +kernel
theorem dX10_wire_50 : decode cX10_wire 50 = .ok (.iload_n 3, 1) := by decide +kernel
theorem dX10_wire_51 : decode cX10_wire 51 = .ok (.ireturn, 1) := by decide +kernel
set_option maxRecDepth 20000 in
theorem ggX10_set_X10_in : GoodIn wsX10_set wsX10_in := goodIn_r _ [11] (by decide +kernel) (by decide +kernel)
set_option maxRecDepth 20000 in
theorem gX10_set_X10_in : GoodIn wsX10_set (va_wsS RX10 99 yX10_in wsX10_in) := goodIn_app (goodIn_of _ (by decide +kernel)) ggX10_set_X10_in
theorem dX10_set_0 : decode cX10_set 0 = .ok (.iload_n 1, 1) := by decide +kernel
theorem dX10_set_1 : decode cX10_set 1 = .ok (.i2l, 1) := by decide +kernel
theorem dX10_set_2 : decode cX10_set 2 = .ok (.lconst 0, 1) := by decide +kernel
theorem dX10_set_3 : decode cX10_set 3 = .ok (.ldc2_w 196, 3) := by decide +kernel
theorem dX10_set_6 : decode cX10_set 6 = .ok (.invokestatic 99, 3) := by decide +kernel
theorem dX10_set_9 : decode cX10_set 9 = .ok (.ifCond .eq 36, 3) := by decide +kernel
theorem dX10_set_12 : decode cX10_set 12 = .ok (.iload_n 2, 1) := by decide +kernel
theorem dX10_set_13 : decode cX10_set 13 = .ok (.i2l, 1) := by decide +kernel
theorem dX10_set_14 : decode cX10_set 14 = .ok (.lconst 0, 1) := by decide +kernel
theorem dX10_set_15 : decode cX10_set 15 = .ok (.iload_n 1, 1) := by decide +kernel
theorem dX10_set_16 : decode cX10_set 16 = .ok (.ifCond .ne 9, 3) := by decide +kernel
theorem dX10_set_19 : decode cX10_set 19 = .ok (.ldc2_w 198, 3) := by decide +kernel
theorem dX10_set_22 : decode cX10_set 22 = .ok (.goto 17, 3) := by decide +kernel
theorem dX10_set_25 : decode cX10_set 25 = .ok (.iload_n 1, 1) := by decide +kernel
theorem dX10_set_26 : decode cX10_set 26 = .ok (.iconst 1, 1) := by decide +kernel
theorem dX10_set_27 : decode cX10_set 27 = .ok (.if_icmp .ne 9, 3) := by decide +kernel
theorem dX10_set_30 : decode cX10_set 30 = .ok (.ldc2_w 200, 3) := by decide +kernel
theorem dX10_set_33 : decode cX10_set 33 = .ok (.goto 6, 3) := by decide +kernel
theorem dX10_set_36 : decode cX10_set 36 = .ok (.ldc2_w 202, 3) := by decide +kernel
theorem dX10_set_39 : decode cX10_set 39 = .ok (.invokestatic 99, 3) := by decide +kernel
theorem dX10_set_42 : decode cX10_set 42 = .ok (.ifCond .ne 6, 3) := by decide +kernel
theorem dX10_set_45 : decode cX10_set 45 = .ok (.bipush (-2), 2) := by decide +kernel
theorem dX10_set_47 : decode cX10_set 47 = .ok (.ireturn, 1) := by decide +kernel
theorem dX10_set_48 : decode cX10_set 48 = .ok (.iload_n 1, 1) := by decide +kernel
theorem dX10_set_49 : decode cX10_set 49 = .ok (.ifCond .ne 10, 3) := by decide +kernel
theorem dX10_set_52 : decode cX10_set 52 = .ok (.aload_n 0, 1) := by decide +kernel
theorem dX10_set_53 : decode cX10_set 53 = .ok (.getfield 90, 3) := by decide +kernel
theorem dX10_set_56 : decode cX10_set 56 = .ok (.goto 19, 3) := by decide +kernel
theorem dX10_set_59 : decode cX10_set 59 = .ok (.iload_n 1, 1) := by decide +kernel
theorem dX10_set_60 : decode cX10_set 60 = .ok (.iconst 1, 1) := by decide +kernel
theorem dX10_set_61 : decode cX10_set 61 = .ok (.if_icmp .ne 10, 3) := by decide +kernel
theorem dX10_set_64 : decode cX10_set 64 = .ok (.aload_n 0, 1) := by decide +kernel
theorem dX10_set_65 : decode cX10_set 65 = .ok (.getfield 93, 3) := by decide +kernel
theorem dX10_set_68 : decode cX10_set 68 = .ok (.goto 7, 3) := by decide +kernel
theorem dX10_set_71 : decode cX10_set 71 = .ok (.aload_n 0, 1) := by decide +kernel
theorem dX10_set_72 : decode cX10_set 72 = .ok (.getfield 96, 3) := by decide +kernel
theorem dX10_set_75 : decode cX10_set 75 = .ok (.istore_n 3, 1) := by decide +kernel
theorem dX10_set_76 : decode cX10_set 76 = .ok (.iload_n 1, 1) := by decide +kernel
theorem dX10_set_77 : decode cX10_set 77 = .ok (.ifCond .ne 11, 3) := by decide +kernel
theorem dX10_set_80 : decode cX10_set 80 = .ok (.aload_n 0, 1) := by decide +kernel
theorem dX10_set_81 : decode cX10_set 81 = .ok (.iload_n 2, 1) := by decide +kernel
theorem dX10_set_82 : decode cX10_set 82 = .ok (.putfield 90, 3) := by decide +kernel
theorem dX10_set_85 : decode cX10_set 85 = .ok (.goto 21, 3) := by decide +kernel
theorem dX10_set_88 : decode cX10_set 88 = .ok (.iload_n 1, 1) := by decide +kernel
theorem dX10_set_89 : decode cX10_set 89 = .ok (.iconst 1, 1) := by decide +kernel
theorem dX10_set_90 : decode cX10_set 90 = .ok (.if_icmp .ne 11, 3) := by decide +kernel
theorem dX10_set_93 : decode cX10_set 93 = .ok (.aload_n 0, 1) := by decide +kernel
theorem dX10_set_94 : decode cX10_set 94 = .ok (.iload_n 2, 1) := by decide +kernel
theorem dX10_set_95 : decode cX10_set 95 = .ok (.putfield 93, 3) := by decide +kernel
theorem dX10_set_98 : decode cX10_set 98 = .ok (.goto 8, 3) := by decide +kernel
theorem dX10_set_101 : decode cX10_set 101 = .ok (.aload_n 0, 1) := by decide +kernel
theorem dX10_set_102 : decode cX10_set 102 = .ok (.iload_n 2, 1) := by decide +kernel
theorem dX10_set_103 : decode cX10_set 103 = .ok (.putfield 96, 3) := by decide +kernel
theorem dX10_set_106 : decode cX10_set 106 = .ok (.iload_n 3, 1) := by decide +kernel
theorem dX10_set_107 : decode cX10_set 107 = .ok (.ireturn, 1) := by decide +kernel
set_option maxRecDepth 20000 in
theorem ggX10_findScore_X10_oddsOf : GoodIn wsX10_findScore wsX10_oddsOf := goodIn_r _ [10, 5, 11, 12, 13, 14, 15, 9, 16, 3, 17, 18, 19, 20, 21, 22, 23, 24, 25, 26, 27, 28, 29, 30, 31, 32, 33, 34, 35, 36, 37, 38, 39, 40, 41, 42, 43, 44, 45, 46, 47, 48, 49, 50, 51, 52, 53, 54, 55, 56, 57, 58, 59, 60, 61, 62, 63, 64, 65, 66, 67, 68, 69, 70, 71, 72, 73, 74, 75, 76, 77, 78, 79, 80, 81, 82, 83, 84, 85, 86, 87, 88, 89, 90, 91, 92, 93, 94, 95, 96, 97, 98, 99, 100, 101, 102, 103] (by decide +kernel) (by decide +kernel)
set_option maxRecDepth 20000 in
theorem gX10_findScore_X10_oddsOf : GoodIn wsX10_findScore (wsV RX10 191 RX10 yX10_oddsOf wsX10_oddsOf) := goodIn_app (goodIn_of _ (by decide +kernel)) ggX10_findScore_X10_oddsOf
theorem dX10_findScore_0 : decode cX10_findScore 0 = .ok (.aload_n 0, 1) := by decide +kernel
theorem dX10_findScore_1 : decode cX10_findScore 1 = .ok (.lconst 0, 1) := by decide +kernel
theorem dX10_findScore_2 : decode cX10_findScore 2 = .ok (.putfield 204, 3) := by decide +kernel
theorem dX10_findScore_5 : decode cX10_findScore 5 = .ok (.aload_n 0, 1) := by decide +kernel
theorem dX10_findScore_6 : decode cX10_findScore 6 = .ok (.lconst 0, 1) := by decide +kernel
theorem dX10_findScore_7 : decode cX10_findScore 7 = .ok (.putfield 208, 3) := by decide +kernel
theorem dX10_findScore_10 : decode cX10_findScore 10 = .ok (.iconst 0, 1) := by decide +kernel
theorem dX10_findScore_11 : decode cX10_findScore 11 = .ok (.istore_n 2, 1) := by decide +kernel
theorem dX10_findScore_12 : decode cX10_findScore 12 = .ok (.iload_n 2, 1) := by decide +kernel
theorem dX10_findScore_13 : decode cX10_findScore 13 = .ok (.aload_n 0, 1) := by decide +kernel
theorem dX10_findScore_14 : decode cX10_findScore 14 = .ok (.getfield 111, 3) := by decide +kernel
theorem dX10_findScore_17 : decode cX10_findScore 17 = .ok (.if_icmp .ge 60, 3) := by decide +kernel
theorem dX10_findScore_20 : decode cX10_findScore 20 = .ok (.aload_n 0, 1) := by decide +kernel
theorem dX10_findScore_21 : decode cX10_findScore 21 = .ok (.iload_n 1, 1) := by decide +kernel
theorem dX10_findScore_22 : decode cX10_findScore 22 = .ok (.iload_n 2, 1) := by decide +kernel
theorem dX10_findScore_23 : decode cX10_findScore 23 = .ok (.invokevirtual 191, 3) := by decide +kernel
theorem dX10_findScore_26 : decode cX10_findScore 26 = .ok (.istore_n 3, 1) := by decide +kernel
theorem dX10_findScore_27 : decode cX10_findScore 27 = .ok (.iload_n 3, 1) := by decide +kernel
theorem dX10_findScore_28 : decode cX10_findScore 28 = .ok (.ifCond .lt 43, 3) := by decide +kernel
theorem dX10_findScore_31 : decode cX10_findScore 31 = .ok (.iload_n 3, 1) := by decide +kernel
theorem dX10_findScore_32 : decode cX10_findScore 32 = .ok (.i2l, 1) := by decide +kernel
theorem dX10_findScore_33 : decode cX10_findScore 33 = .ok (.ldc2_w 194, 3) := by decide +kernel
theorem dX10_findScore_36 : decode cX10_findScore 36 = .ok (.aload_n 0, 1) := by decide +kernel
theorem dX10_findScore_37 : decode cX10_findScore 37 = .ok (.getfield 25, 3) := by decide +kernel
theorem dX10_findScore_40 : decode cX10_findScore 40 = .ok (.iload_n 2, 1) := by decide +kernel
theorem dX10_findScore_41 : decode cX10_findScore 41 = .ok (.iaload, 1) := by decide +kernel
theorem dX10_findScore_42 : decode cX10_findScore 42 = .ok (.i2l, 1) := by decide +kernel
theorem dX10_findScore_43 : decode cX10_findScore 43 = .ok (.lmul, 1) := by decide +kernel
theorem dX10_findScore_44 : decode cX10_findScore 44 = .ok (.lsub, 1) := by decide +kernel
theorem dX10_findScore_45 : decode cX10_findScore 45 = .ok (.lstore 4, 2) := by decide +kernel
theorem dX10_findScore_47 : decode cX10_findScore 47 = .ok (.aload_n 0, 1) := by decide +kernel
theorem dX10_findScore_48 : decode cX10_findScore 48 = .ok (.dup, 1) := by decide +kernel
theorem dX10_findScore_49 : decode cX10_findScore 49 = .ok (.getfield 204, 3) := by decide +kernel
theorem dX10_findScore_52 : decode cX10_findScore 52 = .ok (.lload 4, 2) := by decide +kernel
theorem dX10_findScore_54 : decode cX10_findScore 54 = .ok (.lload 4, 2) := by decide +kernel
theorem dX10_findScore_56 : decode cX10_findScore 56 = .ok (.lmul, 1) := by decide +kernel
theorem dX10_findScore_57 : decode cX10_findScore 57 = .ok (.ladd, 1) := by decide +kernel
theorem dX10_findScore_58 : decode cX10_findScore 58 = .ok (.putfield 204, 3) := by decide +kernel
theorem dX10_findScore_61 : decode cX10_findScore 61 = .ok (.aload_n 0, 1) := by decide +kernel
theorem dX10_findScore_62 : decode cX10_findScore 62 = .ok (.dup, 1) := by decide +kernel
theorem dX10_findScore_63 : decode cX10_findScore 63 = .ok (.getfield 208, 3) := by decide +kernel
theorem dX10_findScore_66 : decode cX10_findScore 66 = .ok (.lconst 1, 1) := by decide +kernel
theorem dX10_findScore_67 : decode cX10_findScore 67 = .ok (.ladd, 1) := by decide +kernel
theorem dX10_findScore_68 : decode cX10_findScore 68 = .ok (.putfield 208, 3) := by decide +kernel
theorem dX10_findScore_71 : decode cX10_findScore 71 = .ok (.iinc 2 1, 3) := by decide +kernel
theorem dX10_findScore_74 : decode cX10_findScore 74 = .ok (.goto (-62), 3) := by decide +kernel
theorem dX10_findScore_77 : decode cX10_findScore 77 = .ok (.return_, 1) := by decide +kernel
set_option maxRecDepth 20000 in
theorem ggX10_score_X10_isTeller : GoodIn wsX10_score wsX10_isTeller := goodIn_r _ [9, 10, 11, 12, 8, 13] (by decide +kernel) (by decide +kernel)
set_option maxRecDepth 20000 in
theorem gX10_score_X10_isTeller : GoodIn wsX10_score (va_wsS RX10 188 yX10_isTeller wsX10_isTeller) := goodIn_app (goodIn_of _ (by decide +kernel)) ggX10_score_X10_isTeller
set_option maxRecDepth 20000 in
theorem ggX10_score_X10_isEnd : GoodIn wsX10_score wsX10_isEnd := goodIn_r _ [16, 11, 12, 8, 13] (by decide +kernel) (by decide +kernel)
set_option maxRecDepth 20000 in
theorem gX10_score_X10_isEnd : GoodIn wsX10_score (va_wsS RX10 122 yX10_isEnd wsX10_isEnd) := goodIn_app (goodIn_of _ (by decide +kernel)) ggX10_score_X10_isEnd
set_option maxRecDepth 20000 in
theorem ggX10_score_X10_findScore : GoodIn wsX10_score wsX10_findScore := goodIn_r _ [20, 5, 3, 21, 22, 23, 24, 25, 26, 8, 27, 28, 29, 30, 31, 32, 33, 34, 35, 36, 37, 38, 39, 40, 41, 42, 43, 44, 45, 46, 47, 48, 49, 50, 51, 52, 53, 54, 55, 56, 57, 58, 59, 60, 61, 62, 63, 64, 65, 66, 67, 68, 69, 70, 71, 72, 73, 74, 75, 76, 77, 78, 79, 80, 84, 85, 86, 87, 88, 89, 90, 91, 92, 93, 94, 95, 96, 97, 98, 99, 100, 101, 102, 103, 104, 105, 106, 107, 108, 109, 110, 111, 112, 113, 114, 115, 116, 117, 118, 119, 120, 121, 122, 123] (by decide +kernel) (by decide +kernel)
set_option maxRecDepth 20000 in
theorem gX10_score_X10_findScore : GoodIn wsX10_score (wsV RX10 215 RX10 yX10_findScore wsX10_findScore) := goodIn_app (goodIn_of _ (by decide +kernel)) ggX10_score_X10_findScore
set_option maxRecDepth 20000 in
theorem ggX10_score_X10_lowest : GoodIn wsX10_score wsX10_lowest := goodIn_r _ [83] (by decide +kernel) (by decide +kernel)
set_option maxRecDepth 20000 in
theorem gX10_score_X10_lowest : GoodIn wsX10_score (va_wsS RX10 221 yX10_lowest wsX10_lowest) := goodIn_app (goodIn_of _ (by decide +kernel)) ggX10_score_X10_lowest
theorem dX10_score_0 : decode cX10_score 0 = .ok (.iload_n 1, 1) := by decide +kernel
theorem dX10_score_1 : decode cX10_score 1 = .ok (.invokestatic 188, 3) := by decide +kernel
theorem dX10_score_4 : decode cX10_score 4 = .ok (.ifCond .ne 7, 3) := by decide +kernel
theorem dX10_score_7 : decode cX10_score 7 = .ok (.ldc2_w 211, 3) := by decide +kernel
theorem dX10_score_10 : decode cX10_score 10 = .ok (.lreturn, 1) := by decide +kernel
theorem dX10_score_11 : decode cX10_score 11 = .ok (.iload_n 2, 1) := by decide +kernel
theorem dX10_score_12 : decode cX10_score 12 = .ok (.invokestatic 122, 3) := by decide +kernel
theorem dX10_score_15 : decode cX10_score 15 = .ok (.ifCond .ne 7, 3) := by decide +kernel
theorem dX10_score_18 : decode cX10_score 18 = .ok (.ldc2_w 213, 3) := by decide +kernel
theorem dX10_score_21 : decode cX10_score 21 = .ok (.lreturn, 1) := by decide +kernel
theorem dX10_score_22 : decode cX10_score 22 = .ok (.aload_n 0, 1) := by decide +kernel
theorem dX10_score_23 : decode cX10_score 23 = .ok (.iload_n 1, 1) := by decide +kernel
theorem dX10_score_24 : decode cX10_score 24 = .ok (.invokevirtual 215, 3) := by decide +kernel
theorem dX10_score_27 : decode cX10_score 27 = .ok (.aload_n 0, 1) := by decide +kernel
theorem dX10_score_28 : decode cX10_score 28 = .ok (.getfield 208, 3) := by decide +kernel
theorem dX10_score_31 : decode cX10_score 31 = .ok (.lconst 0, 1) := by decide +kernel
theorem dX10_score_32 : decode cX10_score 32 = .ok (.lcmp, 1) := by decide +kernel
theorem dX10_score_33 : decode cX10_score 33 = .ok (.ifCond .ne 9, 3) := by decide +kernel
theorem dX10_score_36 : decode cX10_score 36 = .ok (.ldc2_w 219, 3) := by decide +kernel
theorem dX10_score_39 : decode cX10_score 39 = .ok (.goto 15, 3) := by decide +kernel
theorem dX10_score_42 : decode cX10_score 42 = .ok (.aload_n 0, 1) := by decide +kernel
theorem dX10_score_43 : decode cX10_score 43 = .ok (.getfield 204, 3) := by decide +kernel
theorem dX10_score_46 : decode cX10_score 46 = .ok (.aload_n 0, 1) := by decide +kernel
theorem dX10_score_47 : decode cX10_score 47 = .ok (.getfield 208, 3) := by decide +kernel
theorem dX10_score_50 : decode cX10_score 50 = .ok (.iload_n 2, 1) := by decide +kernel
theorem dX10_score_51 : decode cX10_score 51 = .ok (.invokestatic 221, 3) := by decide +kernel
theorem dX10_score_54 : decode cX10_score 54 = .ok (.lreturn, 1) := by decide +kernel
set_option maxRecDepth 20000 in
theorem ggX10_means_X10_isTeller : GoodIn wsX10_means wsX10_isTeller := goodIn_r _ [7, 8, 9, 10, 6, 11] (by decide +kernel) (by decide +kernel)
set_option maxRecDepth 20000 in
theorem gX10_means_X10_isTeller : GoodIn wsX10_means (va_wsS RX10 188 yX10_isTeller wsX10_isTeller) := goodIn_app (goodIn_of _ (by decide +kernel)) ggX10_means_X10_isTeller
set_option maxRecDepth 20000 in
theorem ggX10_means_X10_in : GoodIn wsX10_means wsX10_in := goodIn_r _ [11] (by decide +kernel) (by decide +kernel)
set_option maxRecDepth 20000 in
theorem gX10_means_X10_in : GoodIn wsX10_means (va_wsS RX10 99 yX10_in wsX10_in) := goodIn_app (goodIn_of _ (by decide +kernel)) ggX10_means_X10_in
set_option maxRecDepth 20000 in
theorem ggX10_means_X10_isEnd : GoodIn wsX10_means wsX10_isEnd := goodIn_r _ [14, 9, 10, 6, 11] (by decide +kernel) (by decide +kernel)
set_option maxRecDepth 20000 in
theorem gX10_means_X10_isEnd : GoodIn wsX10_means (va_wsS RX10 122 yX10_isEnd wsX10_isEnd) := goodIn_app (goodIn_of _ (by decide +kernel)) ggX10_means_X10_isEnd
set_option maxRecDepth 20000 in
theorem ggX10_means_X10_oddsOf : GoodIn wsX10_means wsX10_oddsOf := goodIn_r _ [18, 3, 19, 20, 21, 22, 23, 6, 24, 2, 25, 26, 27, 28, 29, 30, 31, 32, 33, 34, 35, 36, 37, 38, 39, 40, 41, 42, 43, 44, 45, 46, 47, 48, 49, 50, 51, 52, 53, 54, 55, 56, 57, 58, 59, 60, 61, 62, 63, 64, 65, 66, 67, 68, 69, 70, 71, 72, 73, 74, 75, 76, 77, 78, 79, 80, 81, 82, 83, 84, 85, 86, 87, 88, 89, 90, 91, 92, 93, 94, 95, 96, 97, 98, 99, 100, 101, 102, 103, 104, 105, 106, 107, 108, 109, 110, 111] (by decide +kernel) (by decide +kernel)
set_option maxRecDepth 20000 in
theorem gX10_means_X10_oddsOf : GoodIn wsX10_means (wsV RX10 191 RX10 yX10_oddsOf wsX10_oddsOf) := goodIn_app (goodIn_of _ (by decide +kernel)) ggX10_means_X10_oddsOf
theorem dX10_means_0 : decode cX10_means 0 = .ok (.iload_n 1, 1) := by decide +kernel
theorem dX10_means_1 : decode cX10_means 1 = .ok (.invokestatic 188, 3) := by decide +kernel
theorem dX10_means_4 : decode cX10_means 4 = .ok (.ifCond .ne 5, 3) := by decide +kernel
theorem dX10_means_7 : decode cX10_means 7 = .ok (.iconst (-1), 1) := by decide +kernel
theorem dX10_means_8 : decode cX10_means 8 = .ok (.ireturn, 1) := by decide +kernel
theorem dX10_means_9 : decode cX10_means 9 = .ok (.iload_n 2, 1) := by decide +kernel
theorem dX10_means_10 : decode cX10_means 10 = .ok (.i2l, 1) := by decide +kernel
theorem dX10_means_11 : decode cX10_means 11 = .ok (.lconst 0, 1) := by decide +kernel
theorem dX10_means_12 : decode cX10_means 12 = .ok (.ldc2_w 194, 3) := by decide +kernel
theorem dX10_means_15 : decode cX10_means 15 = .ok (.invokestatic 99, 3) := by decide +kernel
theorem dX10_means_18 : decode cX10_means 18 = .ok (.ifCond .eq 24, 3) := by decide +kernel
theorem dX10_means_21 : decode cX10_means 21 = .ok (.iload_n 3, 1) := by decide +kernel
theorem dX10_means_22 : decode cX10_means 22 = .ok (.i2l, 1) := by decide +kernel
theorem dX10_means_23 : decode cX10_means 23 = .ok (.iload_n 2, 1) := by decide +kernel
theorem dX10_means_24 : decode cX10_means 24 = .ok (.i2l, 1) := by decide +kernel
theorem dX10_means_25 : decode cX10_means 25 = .ok (.ldc2_w 194, 3) := by decide +kernel
theorem dX10_means_28 : decode cX10_means 28 = .ok (.invokestatic 99, 3) := by decide +kernel
theorem dX10_means_31 : decode cX10_means 31 = .ok (.ifCond .eq 11, 3) := by decide +kernel
theorem dX10_means_34 : decode cX10_means 34 = .ok (.iload 4, 2) := by decide +kernel
theorem dX10_means_36 : decode cX10_means 36 = .ok (.invokestatic 122, 3) := by decide +kernel
theorem dX10_means_39 : decode cX10_means 39 = .ok (.ifCond .ne 6, 3) := by decide +kernel
theorem dX10_means_42 : decode cX10_means 42 = .ok (.bipush (-2), 2) := by decide +kernel
theorem dX10_means_44 : decode cX10_means 44 = .ok (.ireturn, 1) := by decide +kernel
theorem dX10_means_45 : decode cX10_means 45 = .ok (.iconst 0, 1) := by decide +kernel
theorem dX10_means_46 : decode cX10_means 46 = .ok (.istore 5, 2) := by decide +kernel
theorem dX10_means_48 : decode cX10_means 48 = .ok (.iconst 0, 1) := by decide +kernel
theorem dX10_means_49 : decode cX10_means 49 = .ok (.istore 6, 2) := by decide +kernel
theorem dX10_means_51 : decode cX10_means 51 = .ok (.iload 6, 2) := by decide +kernel
theorem dX10_means_53 : decode cX10_means 53 = .ok (.aload_n 0, 1) := by decide +kernel
theorem dX10_means_54 : decode cX10_means 54 = .ok (.getfield 111, 3) := by decide +kernel
theorem dX10_means_57 : decode cX10_means 57 = .ok (.if_icmp .ge 53, 3) := by decide +kernel
theorem dX10_means_60 : decode cX10_means 60 = .ok (.iload 5, 2) := by decide +kernel
theorem dX10_means_62 : decode cX10_means 62 = .ok (.aload_n 0, 1) := by decide +kernel
theorem dX10_means_63 : decode cX10_means 63 = .ok (.iload_n 1, 1) := by decide +kernel
theorem dX10_means_64 : decode cX10_means 64 = .ok (.iload 6, 2) := by decide +kernel
theorem dX10_means_66 : decode cX10_means 66 = .ok (.invokevirtual 191, 3) := by decide +kernel
theorem dX10_means_69 : decode cX10_means 69 = .ok (.i2l, 1) := by decide +kernel
theorem dX10_means_70 : decode cX10_means 70 = .ok (.iload_n 2, 1) := by decide +kernel
theorem dX10_means_71 : decode cX10_means 71 = .ok (.i2l, 1) := by decide +kernel
theorem dX10_means_72 : decode cX10_means 72 = .ok (.iload_n 3, 1) := by decide +kernel
theorem dX10_means_73 : decode cX10_means 73 = .ok (.i2l, 1) := by decide +kernel
theorem dX10_means_74 : decode cX10_means 74 = .ok (.invokestatic 99, 3) := by decide +kernel
theorem dX10_means_77 : decode cX10_means 77 = .ok (.ifCond .eq 23, 3) := by decide +kernel
theorem dX10_means_80 : decode cX10_means 80 = .ok (.iload 4, 2) := by decide +kernel
theorem dX10_means_82 : decode cX10_means 82 = .ok (.ifCond .eq 14, 3) := by decide +kernel
theorem dX10_means_85 : decode cX10_means 85 = .ok (.aload_n 0, 1) := by decide +kernel
theorem dX10_means_86 : decode cX10_means 86 = .ok (.getfield 25, 3) := by decide +kernel
theorem dX10_means_89 : decode cX10_means 89 = .ok (.iload 6, 2) := by decide +kernel
theorem dX10_means_91 : decode cX10_means 91 = .ok (.iaload, 1) := by decide +kernel
theorem dX10_means_92 : decode cX10_means 92 = .ok (.iconst 1, 1) := by decide +kernel
theorem dX10_means_93 : decode cX10_means 93 = .ok (.if_icmp .ne 7, 3) := by decide +kernel
theorem dX10_means_96 : decode cX10_means 96 = .ok (.iconst 1, 1) := by decide +kernel
theorem dX10_means_97 : decode cX10_means 97 = .ok (.goto 4, 3) := by decide +kernel
theorem dX10_means_100 : decode cX10_means 100 = .ok (.iconst 0, 1) := by decide +kernel
theorem dX10_means_101 : decode cX10_means 101 = .ok (.iadd, 1) := by decide +kernel
theorem dX10_means_102 : decode cX10_means 102 = .ok (.istore 5, 2) := by decide +kernel
theorem dX10_means_104 : decode cX10_means 104 = .ok (.iinc 6 1, 3) := by decide +kernel
theorem dX10_means_107 : decode cX10_means 107 = .ok (.goto (-56), 3) := by decide +kernel
theorem dX10_means_110 : decode cX10_means 110 = .ok (.iload 5, 2) := by decide +kernel
theorem dX10_means_112 : decode cX10_means 112 = .ok (.ireturn, 1) := by decide +kernel
theorem dX10_ones_0 : decode cX10_ones 0 = .ok (.iconst 0, 1) := by decide +kernel
theorem dX10_ones_1 : decode cX10_ones 1 = .ok (.istore_n 1, 1) := by decide +kernel
theorem dX10_ones_2 : decode cX10_ones 2 = .ok (.iconst 0, 1) := by decide +kernel
theorem dX10_ones_3 : decode cX10_ones 3 = .ok (.istore_n 2, 1) := by decide +kernel
theorem dX10_ones_4 : decode cX10_ones 4 = .ok (.iload_n 2, 1) := by decide +kernel
theorem dX10_ones_5 : decode cX10_ones 5 = .ok (.bipush 6, 2) := by decide +kernel
theorem dX10_ones_7 : decode cX10_ones 7 = .ok (.if_icmp .ge 17, 3) := by decide +kernel
theorem dX10_ones_10 : decode cX10_ones 10 = .ok (.iload_n 1, 1) := by decide +kernel
theorem dX10_ones_11 : decode cX10_ones 11 = .ok (.iload_n 0, 1) := by decide +kernel
theorem dX10_ones_12 : decode cX10_ones 12 = .ok (.iload_n 2, 1) := by decide +kernel
theorem dX10_ones_13 : decode cX10_ones 13 = .ok (.ishr, 1) := by decide +kernel
theorem dX10_ones_14 : decode cX10_ones 14 = .ok (.iconst 1, 1) := by decide +kernel
theorem dX10_ones_15 : decode cX10_ones 15 = .ok (.iand, 1) := by decide +kernel
theorem dX10_ones_16 : decode cX10_ones 16 = .ok (.iadd, 1) := by decide +kernel
theorem dX10_ones_17 : decode cX10_ones 17 = .ok (.istore_n 1, 1) := by decide +kernel
theorem dX10_ones_18 : decode cX10_ones 18 = .ok (.iinc 2 1, 3) := by decide +kernel
theorem dX10_ones_21 : decode cX10_ones 21 = .ok (.goto (-17), 3) := by decide +kernel
theorem dX10_ones_24 : decode cX10_ones 24 = .ok (.iload_n 1, 1) := by decide +kernel
theorem dX10_ones_25 : decode cX10_ones 25 = .ok (.ireturn, 1) := by decide +kernel
set_option maxRecDepth 20000 in
theorem ggX10_bestKeys_X10_findScore : GoodIn wsX10_bestKeys wsX10_findScore := goodIn_r _ [8, 2, 3, 9, 10, 11, 12, 13, 14, 7, 15, 16, 17, 18, 19, 20, 21, 22, 23, 24, 25, 26, 27, 28, 29, 30, 31, 32, 33, 34, 35, 36, 37, 38, 39, 40, 41, 42, 43, 44, 45, 46, 47, 48, 49, 50, 51, 52, 53, 54, 55, 56, 57, 58, 59, 60, 61, 62, 63, 1, 64, 65, 66, 67, 71, 72, 73, 74, 75, 76, 77, 78, 79, 80, 81, 82, 83, 84, 85, 86, 87, 88, 89, 90, 91, 92, 93, 94, 95, 96, 97, 98, 99, 100, 101, 102, 103, 104, 105, 106, 107, 108, 109, 110] (by decide +kernel) (by decide +kernel)
set_option maxRecDepth 20000 in
theorem gX10_bestKeys_X10_findScore : GoodIn wsX10_bestKeys (wsV RX10 215 RX10 yX10_findScore wsX10_findScore) := goodIn_app (goodIn_of _ (by decide +kernel)) ggX10_bestKeys_X10_findScore
set_option maxRecDepth 20000 in
theorem ggX10_bestKeys_X10_ones : GoodIn wsX10_bestKeys wsX10_ones := goodIn_r _ [70] (by decide +kernel) (by decide +kernel)
set_option maxRecDepth 20000 in
theorem gX10_bestKeys_X10_ones : GoodIn wsX10_bestKeys (va_wsS RX10 225 yX10_ones wsX10_ones) := goodIn_app (goodIn_of _ (by decide +kernel)) ggX10_bestKeys_X10_ones
