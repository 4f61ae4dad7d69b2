theorem dX6_square_0 : decode cX6_square 0 = .ok (.aload_n 0, 1) := by decide +kernel
theorem dX6_square_1 : decode cX6_square 1 = .ok (.getfield 60, 3) := by decide +kernel
theorem dX6_square_4 : decode cX6_square 4 = .ok (.iload_n 1, 1) := by decide +kernel
theorem dX6_square_5 : decode cX6_square 5 = .ok (.iaload, 1) := by decide +kernel
theorem dX6_square_6 : decode cX6_square 6 = .ok (.i2l, 1) := by decide +kernel
theorem dX6_square_7 : decode cX6_square 7 = .ok (.aload_n 0, 1) := by decide +kernel
theorem dX6_square_8 : decode cX6_square 8 = .ok (.getfield 60, 3) := by decide +kernel
theorem dX6_square_11 : decode cX6_square 11 = .ok (.iload_n 1, 1) := by decide +kernel
theorem dX6_square_12 : decode cX6_square 12 = .ok (.iaload, 1) := by decide +kernel
theorem dX6_square_13 : decode cX6_square 13 = .ok (.i2l, 1) := by decide +kernel
theorem dX6_square_14 : decode cX6_square 14 = .ok (.lmul, 1) := by decide +kernel
theorem dX6_square_15 : decode cX6_square 15 = .ok (.lreturn, 1) := by decide +kernel
set_option maxRecDepth 20000 in
set_option maxRecDepth 20000 in
theorem ggX6_tellLeast_X6_all : GoodIn wsX6_tellLeast wsX6_all := goodIn_r _ [7, 8, 26, 27, 28, 29, 30, 31, 32, 33, 34, 35, 36, 37, 38, 39, 40, 41, 42, 43, 44, 45, 46, 47, 48, 49, 50, 51, 52, 53, 54] rfl (by decide +kernel)
set_option maxRecDepth 20000 in
theorem gX6_tellLeast_X6_all : GoodIn wsX6_tellLeast (wsV RX6 152 RX6 yX6_all wsX6_all) := goodIn_app (goodIn_of _ (by decide +kernel)) ggX6_tellLeast_X6_all
set_option maxRecDepth 20000 in
set_option maxRecDepth 20000 in
theorem ggX6_tellLeast_X6_canBe : GoodIn wsX6_tellLeast wsX6_canBe := goodIn_r _ [12, 13, 8, 14, 15, 16, 17, 18, 19, 6, 20, 26, 27, 28, 29, 30, 31, 32, 33, 34, 35, 36, 37, 38, 39, 40, 41, 42, 43, 44, 45, 46, 47, 48, 49, 50, 51, 52, 53, 54] rfl (by decide +kernel)
set_option maxRecDepth 20000 in
theorem gX6_tellLeast_X6_canBe : GoodIn wsX6_tellLeast (wsV RX6 158 RX6 yX6_canBe wsX6_canBe) := goodIn_app (goodIn_of _ (by decide +kernel)) ggX6_tellLeast_X6_canBe
set_option maxRecDepth 20000 in
set_option maxRecDepth 20000 in
theorem ggX6_tellLeast_X6_square : GoodIn wsX6_tellLeast wsX6_square := goodIn_r _ [24, 25, 26, 27, 28, 29, 30, 31, 32, 33, 34, 35, 36, 37, 38, 39, 40, 41, 42, 43, 44, 45, 46, 47, 48, 49, 50, 51, 52, 53, 54] rfl (by decide +kernel)
set_option maxRecDepth 20000 in
theorem gX6_tellLeast_X6_square : GoodIn wsX6_tellLeast (wsV RX6 167 RX6 yX6_square wsX6_square) := goodIn_app (goodIn_of _ (by decide +kernel)) ggX6_tellLeast_X6_square
theorem dX6_tellLeast_0 : decode cX6_tellLeast 0 = .ok (.iload_n 1, 1) := by decide +kernel
theorem dX6_tellLeast_1 : decode cX6_tellLeast 1 = .ok (.istore_n 2, 1) := by decide +kernel
theorem dX6_tellLeast_2 : decode cX6_tellLeast 2 = .ok (.iload_n 2, 1) := by decide +kernel
theorem dX6_tellLeast_3 : decode cX6_tellLeast 3 = .ok (.ifCond .lt 186, 3) := by decide +kernel
theorem dX6_tellLeast_6 : decode cX6_tellLeast 6 = .ok (.aload_n 0, 1) := by decide +kernel
theorem dX6_tellLeast_7 : decode cX6_tellLeast 7 = .ok (.invokevirtual 152, 3) := by decide +kernel
theorem dX6_tellLeast_10 : decode cX6_tellLeast 10 = .ok (.istore_n 3, 1) := by decide +kernel
theorem dX6_tellLeast_11 : decode cX6_tellLeast 11 = .ok (.iload_n 3, 1) := by decide +kernel
theorem dX6_tellLeast_12 : decode cX6_tellLeast 12 = .ok (.ifCond .lt 171, 3) := by decide +kernel
theorem dX6_tellLeast_15 : decode cX6_tellLeast 15 = .ok (.iload_n 2, 1) := by decide +kernel
theorem dX6_tellLeast_16 : decode cX6_tellLeast 16 = .ok (.iload_n 1, 1) := by decide +kernel
theorem dX6_tellLeast_17 : decode cX6_tellLeast 17 = .ok (.if_icmp .ne 15, 3) := by decide +kernel
theorem dX6_tellLeast_20 : decode cX6_tellLeast 20 = .ok (.iload_n 3, 1) := by decide +kernel
theorem dX6_tellLeast_21 : decode cX6_tellLeast 21 = .ok (.aload_n 0, 1) := by decide +kernel
theorem dX6_tellLeast_22 : decode cX6_tellLeast 22 = .ok (.invokevirtual 152, 3) := by decide +kernel
theorem dX6_tellLeast_25 : decode cX6_tellLeast 25 = .ok (.if_icmp .ne 7, 3) := by decide +kernel
theorem dX6_tellLeast_28 : decode cX6_tellLeast 28 = .ok (.lconst 0, 1) := by decide +kernel
theorem dX6_tellLeast_29 : decode cX6_tellLeast 29 = .ok (.goto 6, 3) := by decide +kernel
theorem dX6_tellLeast_32 : decode cX6_tellLeast 32 = .ok (.ldc2_w 165, 3) := by decide +kernel
theorem dX6_tellLeast_35 : decode cX6_tellLeast 35 = .ok (.lstore 4, 2) := by decide +kernel
theorem dX6_tellLeast_37 : decode cX6_tellLeast 37 = .ok (.aload_n 0, 1) := by decide +kernel
theorem dX6_tellLeast_38 : decode cX6_tellLeast 38 = .ok (.invokevirtual 152, 3) := by decide +kernel
theorem dX6_tellLeast_41 : decode cX6_tellLeast 41 = .ok (.iload_n 3, 1) := by decide +kernel
theorem dX6_tellLeast_42 : decode cX6_tellLeast 42 = .ok (.iconst (-1), 1) := by decide +kernel
theorem dX6_tellLeast_43 : decode cX6_tellLeast 43 = .ok (.ixor, 1) := by decide +kernel
theorem dX6_tellLeast_44 : decode cX6_tellLeast 44 = .ok (.iand, 1) := by decide +kernel
theorem dX6_tellLeast_45 : decode cX6_tellLeast 45 = .ok (.istore 6, 2) := by decide +kernel
theorem dX6_tellLeast_47 : decode cX6_tellLeast 47 = .ok (.iconst 0, 1) := by decide +kernel
theorem dX6_tellLeast_48 : decode cX6_tellLeast 48 = .ok (.istore 7, 2) := by decide +kernel
theorem dX6_tellLeast_50 : decode cX6_tellLeast 50 = .ok (.iload 7, 2) := by decide +kernel
theorem dX6_tellLeast_52 : decode cX6_tellLeast 52 = .ok (.iload 6, 2) := by decide +kernel
theorem dX6_tellLeast_54 : decode cX6_tellLeast 54 = .ok (.if_icmp .gt 109, 3) := by decide +kernel
theorem dX6_tellLeast_57 : decode cX6_tellLeast 57 = .ok (.iload_n 2, 1) := by decide +kernel
theorem dX6_tellLeast_58 : decode cX6_tellLeast 58 = .ok (.iload_n 1, 1) := by decide +kernel
theorem dX6_tellLeast_59 : decode cX6_tellLeast 59 = .ok (.if_icmp .ge 104, 3) := by decide +kernel
theorem dX6_tellLeast_62 : decode cX6_tellLeast 62 = .ok (.iload 7, 2) := by decide +kernel
theorem dX6_tellLeast_64 : decode cX6_tellLeast 64 = .ok (.iload 6, 2) := by decide +kernel
theorem dX6_tellLeast_66 : decode cX6_tellLeast 66 = .ok (.iconst (-1), 1) := by decide +kernel
theorem dX6_tellLeast_67 : decode cX6_tellLeast 67 = .ok (.ixor, 1) := by decide +kernel
theorem dX6_tellLeast_68 : decode cX6_tellLeast 68 = .ok (.iand, 1) := by decide +kernel
theorem dX6_tellLeast_69 : decode cX6_tellLeast 69 = .ok (.ifCond .ne 88, 3) := by decide +kernel
theorem dX6_tellLeast_72 : decode cX6_tellLeast 72 = .ok (.aload_n 0, 1) := by decide +kernel
theorem dX6_tellLeast_73 : decode cX6_tellLeast 73 = .ok (.getfield 73, 3) := by decide +kernel
theorem dX6_tellLeast_76 : decode cX6_tellLeast 76 = .ok (.sipush 1024, 3) := by decide +kernel
theorem dX6_tellLeast_79 : decode cX6_tellLeast 79 = .ok (.iload_n 2, 1) := by decide +kernel
theorem dX6_tellLeast_80 : decode cX6_tellLeast 80 = .ok (.iconst 1, 1) := by decide +kernel
theorem dX6_tellLeast_81 : decode cX6_tellLeast 81 = .ok (.iadd, 1) := by decide +kernel
theorem dX6_tellLeast_82 : decode cX6_tellLeast 82 = .ok (.imul, 1) := by decide +kernel
theorem dX6_tellLeast_83 : decode cX6_tellLeast 83 = .ok (.iload_n 3, 1) := by decide +kernel
theorem dX6_tellLeast_84 : decode cX6_tellLeast 84 = .ok (.iload 7, 2) := by decide +kernel
theorem dX6_tellLeast_86 : decode cX6_tellLeast 86 = .ok (.ior, 1) := by decide +kernel
theorem dX6_tellLeast_87 : decode cX6_tellLeast 87 = .ok (.iadd, 1) := by decide +kernel
theorem dX6_tellLeast_88 : decode cX6_tellLeast 88 = .ok (.laload, 1) := by decide +kernel
theorem dX6_tellLeast_89 : decode cX6_tellLeast 89 = .ok (.lconst 0, 1) := by decide +kernel
theorem dX6_tellLeast_90 : decode cX6_tellLeast 90 = .ok (.lcmp, 1) := by decide +kernel
theorem dX6_tellLeast_91 : decode cX6_tellLeast 91 = .ok (.ifCond .lt 66, 3) := by decide +kernel
theorem dX6_tellLeast_94 : decode cX6_tellLeast 94 = .ok (.aload_n 0, 1) := by decide +kernel
theorem dX6_tellLeast_95 : decode cX6_tellLeast 95 = .ok (.iload 7, 2) := by decide +kernel
theorem dX6_tellLeast_97 : decode cX6_tellLeast 97 = .ok (.iload_n 2, 1) := by decide +kernel
theorem dX6_tellLeast_98 : decode cX6_tellLeast 98 = .ok (.iconst 1, 1) := by decide +kernel
theorem dX6_tellLeast_99 : decode cX6_tellLeast 99 = .ok (.iadd, 1) := by decide +kernel
theorem dX6_tellLeast_100 : decode cX6_tellLeast 100 = .ok (.iload_n 3, 1) := by decide +kernel
theorem dX6_tellLeast_101 : decode cX6_tellLeast 101 = .ok (.invokevirtual 158, 3) := by decide +kernel
theorem dX6_tellLeast_104 : decode cX6_tellLeast 104 = .ok (.ifCond .eq 53, 3) := by decide +kernel
theorem dX6_tellLeast_107 : decode cX6_tellLeast 107 = .ok (.aload_n 0, 1) := by decide +kernel
theorem dX6_tellLeast_108 : decode cX6_tellLeast 108 = .ok (.iload 7, 2) := by decide +kernel
theorem dX6_tellLeast_110 : decode cX6_tellLeast 110 = .ok (.invokevirtual 167, 3) := by decide +kernel
theorem dX6_tellLeast_113 : decode cX6_tellLeast 113 = .ok (.aload_n 0, 1) := by decide +kernel
theorem dX6_tellLeast_114 : decode cX6_tellLeast 114 = .ok (.getfield 73, 3) := by decide +kernel
theorem dX6_tellLeast_117 : decode cX6_tellLeast 117 = .ok (.sipush 1024, 3) := by decide +kernel
theorem dX6_tellLeast_120 : decode cX6_tellLeast 120 = .ok (.iload_n 2, 1) := by decide +kernel
theorem dX6_tellLeast_121 : decode cX6_tellLeast 121 = .ok (.iconst 1, 1) := by decide +kernel
theorem dX6_tellLeast_122 : decode cX6_tellLeast 122 = .ok (.iadd, 1) := by decide +kernel
theorem dX6_tellLeast_123 : decode cX6_tellLeast 123 = .ok (.imul, 1) := by decide +kernel
theorem dX6_tellLeast_124 : decode cX6_tellLeast 124 = .ok (.iload_n 3, 1) := by decide +kernel
theorem dX6_tellLeast_125 : decode cX6_tellLeast 125 = .ok (.iload 7, 2) := by decide +kernel
theorem dX6_tellLeast_127 : decode cX6_tellLeast 127 = .ok (.ior, 1) := by decide +kernel
theorem dX6_tellLeast_128 : decode cX6_tellLeast 128 = .ok (.iadd, 1) := by decide +kernel
theorem dX6_tellLeast_129 : decode cX6_tellLeast 129 = .ok (.laload, 1) := by decide +kernel
theorem dX6_tellLeast_130 : decode cX6_tellLeast 130 = .ok (.ladd, 1) := by decide +kernel
theorem dX6_tellLeast_131 : decode cX6_tellLeast 131 = .ok (.lstore 8, 2) := by decide +kernel
theorem dX6_tellLeast_133 : decode cX6_tellLeast 133 = .ok (.lload 4, 2) := by decide +kernel
theorem dX6_tellLeast_135 : decode cX6_tellLeast 135 = .ok (.lconst 0, 1) := by decide +kernel
theorem dX6_tellLeast_136 : decode cX6_tellLeast 136 = .ok (.lcmp, 1) := by decide +kernel
theorem dX6_tellLeast_137 : decode cX6_tellLeast 137 = .ok (.ifCond .lt 11, 3) := by decide +kernel
theorem dX6_tellLeast_140 : decode cX6_tellLeast 140 = .ok (.lload 8, 2) := by decide +kernel
theorem dX6_tellLeast_142 : decode cX6_tellLeast 142 = .ok (.lload 4, 2) := by decide +kernel
theorem dX6_tellLeast_144 : decode cX6_tellLeast 144 = .ok (.lcmp, 1) := by decide +kernel
theorem dX6_tellLeast_145 : decode cX6_tellLeast 145 = .ok (.ifCond .ge 8, 3) := by decide +kernel
theorem dX6_tellLeast_148 : decode cX6_tellLeast 148 = .ok (.lload 8, 2) := by decide +kernel
theorem dX6_tellLeast_150 : decode cX6_tellLeast 150 = .ok (.goto 5, 3) := by decide +kernel
theorem dX6_tellLeast_153 : decode cX6_tellLeast 153 = .ok (.lload 4, 2) := by decide +kernel
theorem dX6_tellLeast_155 : decode cX6_tellLeast 155 = .ok (.lstore 4, 2) := by decide +kernel
theorem dX6_tellLeast_157 : decode cX6_tellLeast 157 = .ok (.iinc 7 1, 3) := by decide +kernel
theorem dX6_tellLeast_160 : decode cX6_tellLeast 160 = .ok (.goto (-110), 3) := by decide +kernel
theorem dX6_tellLeast_163 : decode cX6_tellLeast 163 = .ok (.aload_n 0, 1) := by decide +kernel
theorem dX6_tellLeast_164 : decode cX6_tellLeast 164 = .ok (.getfield 73, 3) := by decide +kernel
theorem dX6_tellLeast_167 : decode cX6_tellLeast 167 = .ok (.sipush 1024, 3) := by decide +kernel
theorem dX6_tellLeast_170 : decode cX6_tellLeast 170 = .ok (.iload_n 2, 1) := by decide +kernel
theorem dX6_tellLeast_171 : decode cX6_tellLeast 171 = .ok (.imul, 1) := by decide +kernel
theorem dX6_tellLeast_172 : decode cX6_tellLeast 172 = .ok (.iload_n 3, 1) := by decide +kernel
theorem dX6_tellLeast_173 : decode cX6_tellLeast 173 = .ok (.iadd, 1) := by decide +kernel
theorem dX6_tellLeast_174 : decode cX6_tellLeast 174 = .ok (.lload 4, 2) := by decide +kernel
theorem dX6_tellLeast_176 : decode cX6_tellLeast 176 = .ok (.lastore, 1) := by decide +kernel
theorem dX6_tellLeast_177 : decode cX6_tellLeast 177 = .ok (.iinc 3 (-1), 3) := by decide +kernel
theorem dX6_tellLeast_180 : decode cX6_tellLeast 180 = .ok (.goto (-169), 3) := by decide +kernel
theorem dX6_tellLeast_183 : decode cX6_tellLeast 183 = .ok (.iinc 2 (-1), 3) := by decide +kernel
theorem dX6_tellLeast_186 : decode cX6_tellLeast 186 = .ok (.goto (-184), 3) := by decide +kernel
theorem dX6_tellLeast_189 : decode cX6_tellLeast 189 = .ok (.return_, 1) := by decide +kernel
set_option maxRecDepth 20000 in
set_option maxRecDepth 20000 in
theorem ggX6_best_X6_tellWays : GoodIn wsX6_best wsX6_tellWays := goodIn_r _ [7, 8, 9, 10, 11, 6, 12, 1, 13, 14, 15, 16, 17, 18, 19, 20, 21, 22, 23, 24, 25, 26, 27, 28, 29, 30, 31, 32, 33, 34, 35, 36, 37, 38, 39, 40, 41, 42, 43, 44, 45, 46, 47, 48, 49, 50, 51, 52, 53, 54, 55, 70, 71, 72, 73, 74, 75, 76, 77, 78, 79, 80, 81, 82, 83, 84, 85, 86, 87, 88, 89, 90, 91, 92, 93, 94, 95, 96, 97, 98] rfl (by decide +kernel)
set_option maxRecDepth 20000 in
theorem gX6_best_X6_tellWays : GoodIn wsX6_best (wsV RX6 162 RX6 yX6_tellWays wsX6_tellWays) := goodIn_app (goodIn_of _ (by decide +kernel)) ggX6_best_X6_tellWays
set_option maxRecDepth 20000 in
set_option maxRecDepth 20000 in
theorem ggX6_best_X6_tellLeast : GoodIn wsX6_best wsX6_tellLeast := goodIn_r _ [59, 60, 61, 38, 39, 40, 6, 41, 1, 51, 52, 53, 54, 18, 13, 35, 14, 55, 24, 25, 26, 62, 63, 64, 65, 15, 70, 71, 72, 73, 74, 75, 76, 77, 78, 79, 80, 81, 82, 83, 84, 85, 86, 87, 88, 89, 90, 91, 92, 93, 94, 95, 96, 97, 98] rfl (by decide +kernel)
set_option maxRecDepth 20000 in
theorem gX6_best_X6_tellLeast : GoodIn wsX6_best (wsV RX6 171 RX6 yX6_tellLeast wsX6_tellLeast) := goodIn_app (goodIn_of _ (by decide +kernel)) ggX6_best_X6_tellLeast
set_option maxRecDepth 20000 in
set_option maxRecDepth 20000 in
theorem ggX6_best_X6_isNext : GoodIn wsX6_best wsX6_isNext := goodIn_r _ [69, 61, 51, 52, 53, 6, 54, 18, 1, 13, 35, 14, 55, 24, 25, 26, 62, 63, 64, 65, 15, 70, 71, 72, 73, 74, 75, 76, 77, 78, 79, 80, 81, 82, 83, 84, 85, 86, 87, 88, 89, 90, 91, 92, 93, 94, 95, 96, 97, 98] rfl (by decide +kernel)
set_option maxRecDepth 20000 in
theorem gX6_best_X6_isNext : GoodIn wsX6_best (wsV RX6 175 RX6 yX6_isNext wsX6_isNext) := goodIn_app (goodIn_of _ (by decide +kernel)) ggX6_best_X6_isNext
set_option maxRecDepth 20000 in
set_option maxRecDepth 20000 in
theorem ggX6_best_X6_in : GoodIn wsX6_best wsX6_in := goodIn_r _ [26] rfl (by decide +kernel)
set_option maxRecDepth 20000 in
theorem gX6_best_X6_in : GoodIn wsX6_best (va_wsS RX6 95 yX6_in wsX6_in) := goodIn_app (goodIn_of _ (by decide +kernel)) ggX6_best_X6_in
theorem dX6_best_0 : decode cX6_best 0 = .ok (.aload_n 0, 1) := by decide +kernel
theorem dX6_best_1 : decode cX6_best 1 = .ok (.invokevirtual 162, 3) := by decide +kernel
theorem dX6_best_4 : decode cX6_best 4 = .ok (.istore_n 2, 1) := by decide +kernel
theorem dX6_best_5 : decode cX6_best 5 = .ok (.iload_n 2, 1) := by decide +kernel
theorem dX6_best_6 : decode cX6_best 6 = .ok (.ifCond .ge 6, 3) := by decide +kernel
theorem dX6_best_9 : decode cX6_best 9 = .ok (.bipush (-4), 2) := by decide +kernel
theorem dX6_best_11 : decode cX6_best 11 = .ok (.ireturn, 1) := by decide +kernel
theorem dX6_best_12 : decode cX6_best 12 = .ok (.aload_n 0, 1) := by decide +kernel
theorem dX6_best_13 : decode cX6_best 13 = .ok (.iload_n 2, 1) := by decide +kernel
theorem dX6_best_14 : decode cX6_best 14 = .ok (.invokevirtual 171, 3) := by decide +kernel
theorem dX6_best_17 : decode cX6_best 17 = .ok (.iconst 0, 1) := by decide +kernel
theorem dX6_best_18 : decode cX6_best 18 = .ok (.istore_n 3, 1) := by decide +kernel
theorem dX6_best_19 : decode cX6_best 19 = .ok (.iconst 1, 1) := by decide +kernel
theorem dX6_best_20 : decode cX6_best 20 = .ok (.istore 4, 2) := by decide +kernel
theorem dX6_best_22 : decode cX6_best 22 = .ok (.iload 4, 2) := by decide +kernel
theorem dX6_best_24 : decode cX6_best 24 = .ok (.iload_n 2, 1) := by decide +kernel
theorem dX6_best_25 : decode cX6_best 25 = .ok (.if_icmp .gt 83, 3) := by decide +kernel
theorem dX6_best_28 : decode cX6_best 28 = .ok (.iconst 0, 1) := by decide +kernel
theorem dX6_best_29 : decode cX6_best 29 = .ok (.istore 5, 2) := by decide +kernel
theorem dX6_best_31 : decode cX6_best 31 = .ok (.aload_n 0, 1) := by decide +kernel
theorem dX6_best_32 : decode cX6_best 32 = .ok (.iload 5, 2) := by decide +kernel
theorem dX6_best_34 : decode cX6_best 34 = .ok (.iload 4, 2) := by decide +kernel
theorem dX6_best_36 : decode cX6_best 36 = .ok (.iload_n 3, 1) := by decide +kernel
theorem dX6_best_37 : decode cX6_best 37 = .ok (.iload_n 1, 1) := by decide +kernel
theorem dX6_best_38 : decode cX6_best 38 = .ok (.invokevirtual 175, 3) := by decide +kernel
theorem dX6_best_41 : decode cX6_best 41 = .ok (.ifCond .ne 9, 3) := by decide +kernel
theorem dX6_best_44 : decode cX6_best 44 = .ok (.iinc 5 1, 3) := by decide +kernel
theorem dX6_best_47 : decode cX6_best 47 = .ok (.goto (-16), 3) := by decide +kernel
theorem dX6_best_50 : decode cX6_best 50 = .ok (.iconst 0, 1) := by decide +kernel
theorem dX6_best_51 : decode cX6_best 51 = .ok (.istore 6, 2) := by decide +kernel
theorem dX6_best_53 : decode cX6_best 53 = .ok (.iload 6, 2) := by decide +kernel
theorem dX6_best_55 : decode cX6_best 55 = .ok (.aload_n 0, 1) := by decide +kernel
theorem dX6_best_56 : decode cX6_best 56 = .ok (.getfield 85, 3) := by decide +kernel
theorem dX6_best_59 : decode cX6_best 59 = .ok (.if_icmp .ge 38, 3) := by decide +kernel
theorem dX6_best_62 : decode cX6_best 62 = .ok (.aload_n 0, 1) := by decide +kernel
theorem dX6_best_63 : decode cX6_best 63 = .ok (.getfield 25, 3) := by decide +kernel
theorem dX6_best_66 : decode cX6_best 66 = .ok (.iload 6, 2) := by decide +kernel
theorem dX6_best_68 : decode cX6_best 68 = .ok (.iload 5, 2) := by decide +kernel
theorem dX6_best_70 : decode cX6_best 70 = .ok (.iload 6, 2) := by decide +kernel
theorem dX6_best_72 : decode cX6_best 72 = .ok (.invokestatic 95, 3) := by decide +kernel
theorem dX6_best_75 : decode cX6_best 75 = .ok (.ifCond .eq 8, 3) := by decide +kernel
theorem dX6_best_78 : decode cX6_best 78 = .ok (.iload 4, 2) := by decide +kernel
theorem dX6_best_80 : decode cX6_best 80 = .ok (.goto 10, 3) := by decide +kernel
theorem dX6_best_83 : decode cX6_best 83 = .ok (.aload_n 0, 1) := by decide +kernel
theorem dX6_best_84 : decode cX6_best 84 = .ok (.getfield 25, 3) := by decide +kernel
theorem dX6_best_87 : decode cX6_best 87 = .ok (.iload 6, 2) := by decide +kernel
theorem dX6_best_89 : decode cX6_best 89 = .ok (.iaload, 1) := by decide +kernel
theorem dX6_best_90 : decode cX6_best 90 = .ok (.iastore, 1) := by decide +kernel
theorem dX6_best_91 : decode cX6_best 91 = .ok (.iinc 6 1, 3) := by decide +kernel
theorem dX6_best_94 : decode cX6_best 94 = .ok (.goto (-41), 3) := by decide +kernel
theorem dX6_best_97 : decode cX6_best 97 = .ok (.iload_n 3, 1) := by decide +kernel
theorem dX6_best_98 : decode cX6_best 98 = .ok (.iload 5, 2) := by decide +kernel
theorem dX6_best_100 : decode cX6_best 100 = .ok (.ior, 1) := by decide +kernel
theorem dX6_best_101 : decode cX6_best 101 = .ok (.istore_n 3, 1) := by decide +kernel
theorem dX6_best_102 : decode cX6_best 102 = .ok (.iinc 4 1, 3) := by decide +kernel
theorem dX6_best_105 : decode cX6_best 105 = .ok (.goto (-83), 3) := by decide +kernel
theorem dX6_best_108 : decode cX6_best 108 = .ok (.iload_n 2, 1) := by decide +kernel
theorem dX6_best_109 : decode cX6_best 109 = .ok (.ireturn, 1) := by decide +kernel
set_option maxRecDepth 20000 in
set_option maxRecDepth 20000 in
theorem ggX6_isNext_X6_canBe : GoodIn wsX6_isNext wsX6_canBe := goodIn_r _ [6, 7, 8, 9, 10, 11, 12, 13, 14, 5, 15, 21, 22, 23, 24, 25, 26, 27, 28, 29, 30, 31, 32, 33, 34, 35, 36, 37, 38, 39, 40, 41, 42, 43, 44, 45, 46, 47, 48, 49] rfl (by decide +kernel)
set_option maxRecDepth 20000 in
theorem gX6_isNext_X6_canBe : GoodIn wsX6_isNext (wsV RX6 158 RX6 yX6_canBe wsX6_canBe) := goodIn_app (goodIn_of _ (by decide +kernel)) ggX6_isNext_X6_canBe
set_option maxRecDepth 20000 in
set_option maxRecDepth 20000 in
theorem ggX6_isNext_X6_square : GoodIn wsX6_isNext wsX6_square := goodIn_r _ [19, 20, 21, 22, 23, 24, 25, 26, 27, 28, 29, 30, 31, 32, 33, 34, 35, 36, 37, 38, 39, 40, 41, 42, 43, 44, 45, 46, 47, 48, 49] rfl (by decide +kernel)
set_option maxRecDepth 20000 in
theorem gX6_isNext_X6_square : GoodIn wsX6_isNext (wsV RX6 167 RX6 yX6_square wsX6_square) := goodIn_app (goodIn_of _ (by decide +kernel)) ggX6_isNext_X6_square
theorem dX6_isNext_0 : decode cX6_isNext 0 = .ok (.iload_n 1, 1) := by decide +kernel
theorem dX6_isNext_1 : decode cX6_isNext 1 = .ok (.iload_n 3, 1) := by decide +kernel
theorem dX6_isNext_2 : decode cX6_isNext 2 = .ok (.iand, 1) := by decide +kernel
theorem dX6_isNext_3 : decode cX6_isNext 3 = .ok (.ifCond .ne 32, 3) := by decide +kernel
theorem dX6_isNext_6 : decode cX6_isNext 6 = .ok (.aload_n 0, 1) := by decide +kernel
theorem dX6_isNext_7 : decode cX6_isNext 7 = .ok (.iload_n 1, 1) := by decide +kernel
theorem dX6_isNext_8 : decode cX6_isNext 8 = .ok (.iload_n 2, 1) := by decide +kernel
theorem dX6_isNext_9 : decode cX6_isNext 9 = .ok (.iload_n 3, 1) := by decide +kernel
theorem dX6_isNext_10 : decode cX6_isNext 10 = .ok (.invokevirtual 158, 3) := by decide +kernel
theorem dX6_isNext_13 : decode cX6_isNext 13 = .ok (.ifCond .eq 22, 3) := by decide +kernel
theorem dX6_isNext_16 : decode cX6_isNext 16 = .ok (.aload_n 0, 1) := by decide +kernel
theorem dX6_isNext_17 : decode cX6_isNext 17 = .ok (.getfield 73, 3) := by decide +kernel
theorem dX6_isNext_20 : decode cX6_isNext 20 = .ok (.sipush 1024, 3) := by decide +kernel
theorem dX6_isNext_23 : decode cX6_isNext 23 = .ok (.iload_n 2, 1) := by decide +kernel
theorem dX6_isNext_24 : decode cX6_isNext 24 = .ok (.imul, 1) := by decide +kernel
theorem dX6_isNext_25 : decode cX6_isNext 25 = .ok (.iload_n 3, 1) := by decide +kernel
theorem dX6_isNext_26 : decode cX6_isNext 26 = .ok (.iload_n 1, 1) := by decide +kernel
theorem dX6_isNext_27 : decode cX6_isNext 27 = .ok (.ior, 1) := by decide +kernel
theorem dX6_isNext_28 : decode cX6_isNext 28 = .ok (.iadd, 1) := by decide +kernel
theorem dX6_isNext_29 : decode cX6_isNext 29 = .ok (.laload, 1) := by decide +kernel
theorem dX6_isNext_30 : decode cX6_isNext 30 = .ok (.lconst 0, 1) := by decide +kernel
theorem dX6_isNext_31 : decode cX6_isNext 31 = .ok (.lcmp, 1) := by decide +kernel
theorem dX6_isNext_32 : decode cX6_isNext 32 = .ok (.ifCond .ge 5, 3) := by decide +kernel
theorem dX6_isNext_35 : decode cX6_isNext 35 = .ok (.iconst 0, 1) := by decide +kernel
theorem dX6_isNext_36 : decode cX6_isNext 36 = .ok (.ireturn, 1) := by decide +kernel
theorem dX6_isNext_37 : decode cX6_isNext 37 = .ok (.iload 4, 2) := by decide +kernel
theorem dX6_isNext_39 : decode cX6_isNext 39 = .ok (.ifCond .eq 41, 3) := by decide +kernel
theorem dX6_isNext_42 : decode cX6_isNext 42 = .ok (.aload_n 0, 1) := by decide +kernel
theorem dX6_isNext_43 : decode cX6_isNext 43 = .ok (.iload_n 1, 1) := by decide +kernel
theorem dX6_isNext_44 : decode cX6_isNext 44 = .ok (.invokevirtual 167, 3) := by decide +kernel
theorem dX6_isNext_47 : decode cX6_isNext 47 = .ok (.aload_n 0, 1) := by decide +kernel
theorem dX6_isNext_48 : decode cX6_isNext 48 = .ok (.getfield 73, 3) := by decide +kernel
theorem dX6_isNext_51 : decode cX6_isNext 51 = .ok (.sipush 1024, 3) := by decide +kernel
theorem dX6_isNext_54 : decode cX6_isNext 54 = .ok (.iload_n 2, 1) := by decide +kernel
theorem dX6_isNext_55 : decode cX6_isNext 55 = .ok (.imul, 1) := by decide +kernel
theorem dX6_isNext_56 : decode cX6_isNext 56 = .ok (.iload_n 3, 1) := by decide +kernel
theorem dX6_isNext_57 : decode cX6_isNext 57 = .ok (.iload_n 1, 1) := by decide +kernel
theorem dX6_isNext_58 : decode cX6_isNext 58 = .ok (.ior, 1) := by decide +kernel
theorem dX6_isNext_59 : decode cX6_isNext 59 = .ok (.iadd, 1) := by decide +kernel
theorem dX6_isNext_60 : decode cX6_isNext 60 = .ok (.laload, 1) := by decide +kernel
theorem dX6_isNext_61 : decode cX6_isNext 61 = .ok (.ladd, 1) := by decide +kernel
theorem dX6_isNext_62 : decode cX6_isNext 62 = .ok (.aload_n 0, 1) := by decide +kernel
theorem dX6_isNext_63 : decode cX6_isNext 63 = .ok (.getfield 73, 3) := by decide +kernel
theorem dX6_isNext_66 : decode cX6_isNext 66 = .ok (.sipush 1024, 3) := by decide +kernel
theorem dX6_isNext_69 : decode cX6_isNext 69 = .ok (.iload_n 2, 1) := by decide +kernel
theorem dX6_isNext_70 : decode cX6_isNext 70 = .ok (.iconst 1, 1) := by decide +kernel
theorem dX6_isNext_71 : decode cX6_isNext 71 = .ok (.isub, 1) := by decide +kernel
theorem dX6_isNext_72 : decode cX6_isNext 72 = .ok (.imul, 1) := by decide +kernel
theorem dX6_isNext_73 : decode cX6_isNext 73 = .ok (.iload_n 3, 1) := by decide +kernel
theorem dX6_isNext_74 : decode cX6_isNext 74 = .ok (.iadd, 1) := by decide +kernel
theorem dX6_isNext_75 : decode cX6_isNext 75 = .ok (.laload, 1) := by decide +kernel
theorem dX6_isNext_76 : decode cX6_isNext 76 = .ok (.lcmp, 1) := by decide +kernel
theorem dX6_isNext_77 : decode cX6_isNext 77 = .ok (.ifCond .ne 7, 3) := by decide +kernel
theorem dX6_isNext_80 : decode cX6_isNext 80 = .ok (.iconst 1, 1) := by decide +kernel
theorem dX6_isNext_81 : decode cX6_isNext 81 = .ok (.goto 4, 3) := by decide +kernel
theorem dX6_isNext_84 : decode cX6_isNext 84 = .ok (.iconst 0, 1) := by decide +kernel
theorem dX6_isNext_85 : decode cX6_isNext 85 = .ok (.ireturn, 1) := by decide +kernel
set_option maxRecDepth 20000 in
set_option maxRecDepth 20000 in
theorem ggX6_evenest_X6_tellWays : GoodIn wsX6_evenest wsX6_tellWays := goodIn_r _ [7, 8, 9, 10, 11, 6, 12, 13, 14, 15, 16, 17, 18, 19, 20, 21, 22, 23, 24, 25, 26, 27, 28, 29, 30, 31, 32, 33, 34, 35, 36, 37, 38, 39, 40, 41, 42, 43, 44, 45, 46, 47, 48, 49, 50, 51, 52, 53, 54, 55, 56, 65, 66, 67, 68, 69, 70, 71, 72, 73, 74, 75, 76, 77, 78, 79, 80, 81, 82, 83, 84, 85, 86, 87, 88, 89, 90, 91, 92, 93] rfl (by decide +kernel)
set_option maxRecDepth 20000 in
theorem gX6_evenest_X6_tellWays : GoodIn wsX6_evenest (wsV RX6 162 RX6 yX6_tellWays wsX6_tellWays) := goodIn_app (goodIn_of _ (by decide +kernel)) ggX6_evenest_X6_tellWays
set_option maxRecDepth 20000 in
set_option maxRecDepth 20000 in
theorem ggX6_evenest_X6_tellLeast : GoodIn wsX6_evenest wsX6_tellLeast := goodIn_r _ [60, 1, 2, 39, 40, 41, 6, 42, 13, 52, 53, 54, 55, 19, 14, 36, 15, 56, 25, 26, 27, 61, 62, 63, 64, 16, 65, 66, 67, 68, 69, 70, 71, 72, 73, 74, 75, 76, 77, 78, 79, 80, 81, 82, 83, 84, 85, 86, 87, 88, 89, 90, 91, 92, 93] rfl (by decide +kernel)
set_option maxRecDepth 20000 in
theorem gX6_evenest_X6_tellLeast : GoodIn wsX6_evenest (wsV RX6 171 RX6 yX6_tellLeast wsX6_tellLeast) := goodIn_app (goodIn_of _ (by decide +kernel)) ggX6_evenest_X6_tellLeast
theorem dX6_evenest_0 : decode cX6_evenest 0 = .ok (.aload_n 0, 1) := by decide +kernel
theorem dX6_evenest_1 : decode cX6_evenest 1 = .ok (.invokevirtual 162, 3) := by decide +kernel
theorem dX6_evenest_4 : decode cX6_evenest 4 = .ok (.istore_n 1, 1) := by decide +kernel
theorem dX6_evenest_5 : decode cX6_evenest 5 = .ok (.iload_n 1, 1) := by decide +kernel
theorem dX6_evenest_6 : decode cX6_evenest 6 = .ok (.ifCond .ge 7, 3) := by decide +kernel
theorem dX6_evenest_9 : decode cX6_evenest 9 = .ok (.ldc2_w 165, 3) := by decide +kernel
theorem dX6_evenest_12 : decode cX6_evenest 12 = .ok (.lreturn, 1) := by decide +kernel
theorem dX6_evenest_13 : decode cX6_evenest 13 = .ok (.aload_n 0, 1) := by decide +kernel
theorem dX6_evenest_14 : decode cX6_evenest 14 = .ok (.iload_n 1, 1) := by decide +kernel
theorem dX6_evenest_15 : decode cX6_evenest 15 = .ok (.invokevirtual 171, 3) := by decide +kernel
theorem dX6_evenest_18 : decode cX6_evenest 18 = .ok (.aload_n 0, 1) := by decide +kernel
theorem dX6_evenest_19 : decode cX6_evenest 19 = .ok (.getfield 73, 3) := by decide +kernel
theorem dX6_evenest_22 : decode cX6_evenest 22 = .ok (.iconst 0, 1) := by decide +kernel
theorem dX6_evenest_23 : decode cX6_evenest 23 = .ok (.laload, 1) := by decide +kernel
theorem dX6_evenest_24 : decode cX6_evenest 24 = .ok (.lreturn, 1) := by decide +kernel
set_option maxRecDepth 20000 in
set_option maxRecDepth 20000 in
theorem ggX6_leastBeat_X6_tellWays : GoodIn wsX6_leastBeat wsX6_tellWays := goodIn_r _ [6, 7, 8, 9, 10, 5, 11, 12, 13, 14, 15, 16, 17, 18, 19, 20, 21, 22, 23, 24, 25, 26, 27, 28, 29, 30, 31, 32, 33, 34, 35, 1, 36, 37, 38, 39, 40, 41, 42, 43, 44, 45, 46, 47, 48, 49, 50, 51, 52, 53, 54, 55, 56, 57, 58, 59, 60, 61, 62, 63, 64, 65, 66, 67, 68, 69, 70, 71, 72, 73, 74, 75, 76, 77, 78, 79, 80, 81, 82, 83] rfl (by decide +kernel)
set_option maxRecDepth 20000 in
theorem gX6_leastBeat_X6_tellWays : GoodIn wsX6_leastBeat (wsV RX6 162 RX6 yX6_tellWays wsX6_tellWays) := goodIn_app (goodIn_of _ (by decide +kernel)) ggX6_leastBeat_X6_tellWays
theorem dX6_leastBeat_0 : decode cX6_leastBeat 0 = .ok (.iload_n 1, 1) := by decide +kernel
theorem dX6_leastBeat_1 : decode cX6_leastBeat 1 = .ok (.iconst 1, 1) := by decide +kernel
theorem dX6_leastBeat_2 : decode cX6_leastBeat 2 = .ok (.if_icmp .lt 9, 3) := by decide +kernel
theorem dX6_leastBeat_5 : decode cX6_leastBeat 5 = .ok (.iload_n 1, 1) := by decide +kernel
theorem dX6_leastBeat_6 : decode cX6_leastBeat 6 = .ok (.bipush 10, 2) := by decide +kernel
theorem dX6_leastBeat_8 : decode cX6_leastBeat 8 = .ok (.if_icmp .le 6, 3) := by decide +kernel
theorem dX6_leastBeat_11 : decode cX6_leastBeat 11 = .ok (.bipush (-2), 2) := by decide +kernel
theorem dX6_leastBeat_13 : decode cX6_leastBeat 13 = .ok (.ireturn, 1) := by decide +kernel
theorem dX6_leastBeat_14 : decode cX6_leastBeat 14 = .ok (.aload_n 0, 1) := by decide +kernel
theorem dX6_leastBeat_15 : decode cX6_leastBeat 15 = .ok (.getfield 28, 3) := by decide +kernel
theorem dX6_leastBeat_18 : decode cX6_leastBeat 18 = .ok (.istore_n 2, 1) := by decide +kernel
theorem dX6_leastBeat_19 : decode cX6_leastBeat 19 = .ok (.iconst 0, 1) := by decide +kernel
theorem dX6_leastBeat_20 : decode cX6_leastBeat 20 = .ok (.istore_n 3, 1) := by decide +kernel
theorem dX6_leastBeat_21 : decode cX6_leastBeat 21 = .ok (.sipush 1001, 3) := by decide +kernel
theorem dX6_leastBeat_24 : decode cX6_leastBeat 24 = .ok (.istore 4, 2) := by decide +kernel
theorem dX6_leastBeat_26 : decode cX6_leastBeat 26 = .ok (.iload 4, 2) := by decide +kernel
theorem dX6_leastBeat_28 : decode cX6_leastBeat 28 = .ok (.iload_n 3, 1) := by decide +kernel
theorem dX6_leastBeat_29 : decode cX6_leastBeat 29 = .ok (.isub, 1) := by decide +kernel
theorem dX6_leastBeat_30 : decode cX6_leastBeat 30 = .ok (.iconst 1, 1) := by decide +kernel
theorem dX6_leastBeat_31 : decode cX6_leastBeat 31 = .ok (.if_icmp .le 47, 3) := by decide +kernel
theorem dX6_leastBeat_34 : decode cX6_leastBeat 34 = .ok (.aload_n 0, 1) := by decide +kernel
theorem dX6_leastBeat_35 : decode cX6_leastBeat 35 = .ok (.iload_n 3, 1) := by decide +kernel
theorem dX6_leastBeat_36 : decode cX6_leastBeat 36 = .ok (.iload 4, 2) := by decide +kernel
theorem dX6_leastBeat_38 : decode cX6_leastBeat 38 = .ok (.iadd, 1) := by decide +kernel
theorem dX6_leastBeat_39 : decode cX6_leastBeat 39 = .ok (.iconst 2, 1) := by decide +kernel
theorem dX6_leastBeat_40 : decode cX6_leastBeat 40 = .ok (.idiv, 1) := by decide +kernel
theorem dX6_leastBeat_41 : decode cX6_leastBeat 41 = .ok (.putfield 28, 3) := by decide +kernel
theorem dX6_leastBeat_44 : decode cX6_leastBeat 44 = .ok (.aload_n 0, 1) := by decide +kernel
theorem dX6_leastBeat_45 : decode cX6_leastBeat 45 = .ok (.invokevirtual 162, 3) := by decide +kernel
theorem dX6_leastBeat_48 : decode cX6_leastBeat 48 = .ok (.istore 5, 2) := by decide +kernel
theorem dX6_leastBeat_50 : decode cX6_leastBeat 50 = .ok (.iload 5, 2) := by decide +kernel
theorem dX6_leastBeat_52 : decode cX6_leastBeat 52 = .ok (.ifCond .lt 18, 3) := by decide +kernel
theorem dX6_leastBeat_55 : decode cX6_leastBeat 55 = .ok (.iload 5, 2) := by decide +kernel
theorem dX6_leastBeat_57 : decode cX6_leastBeat 57 = .ok (.iload_n 1, 1) := by decide +kernel
theorem dX6_leastBeat_58 : decode cX6_leastBeat 58 = .ok (.if_icmp .gt 12, 3) := by decide +kernel
theorem dX6_leastBeat_61 : decode cX6_leastBeat 61 = .ok (.aload_n 0, 1) := by decide +kernel
theorem dX6_leastBeat_62 : decode cX6_leastBeat 62 = .ok (.getfield 28, 3) := by decide +kernel
theorem dX6_leastBeat_65 : decode cX6_leastBeat 65 = .ok (.istore 4, 2) := by decide +kernel
theorem dX6_leastBeat_67 : decode cX6_leastBeat 67 = .ok (.goto 8, 3) := by decide +kernel
theorem dX6_leastBeat_70 : decode cX6_leastBeat 70 = .ok (.aload_n 0, 1) := by decide +kernel
theorem dX6_leastBeat_71 : decode cX6_leastBeat 71 = .ok (.getfield 28, 3) := by decide +kernel
theorem dX6_leastBeat_74 : decode cX6_leastBeat 74 = .ok (.istore_n 3, 1) := by decide +kernel
theorem dX6_leastBeat_75 : decode cX6_leastBeat 75 = .ok (.goto (-49), 3) := by decide +kernel
theorem dX6_leastBeat_78 : decode cX6_leastBeat 78 = .ok (.aload_n 0, 1) := by decide +kernel
theorem dX6_leastBeat_79 : decode cX6_leastBeat 79 = .ok (.iload_n 2, 1) := by decide +kernel
theorem dX6_leastBeat_80 : decode cX6_leastBeat 80 = .ok (.putfield 28, 3) := by decide +kernel
theorem dX6_leastBeat_83 : decode cX6_leastBeat 83 = .ok (.iload 4, 2) := by decide +kernel
theorem dX6_leastBeat_85 : decode cX6_leastBeat 85 = .ok (.sipush 1000, 3) := by decide +kernel
theorem dX6_leastBeat_88 : decode cX6_leastBeat 88 = .ok (.if_icmp .le 8, 3) := by decide +kernel
theorem dX6_leastBeat_91 : decode cX6_leastBeat 91 = .ok (.bipush (-4), 2) := by decide +kernel
theorem dX6_leastBeat_93 : decode cX6_leastBeat 93 = .ok (.goto 5, 3) := by decide +kernel
theorem dX6_leastBeat_96 : decode cX6_leastBeat 96 = .ok (.iload 4, 2) := by decide +kernel
theorem dX6_leastBeat_98 : decode cX6_leastBeat 98 = .ok (.ireturn, 1) := by decide +kernel
set_option maxRecDepth 20000 in
set_option maxRecDepth 20000 in
theorem ggX6_byRoom_X6_room : GoodIn wsX6_byRoom wsX6_room := goodIn_r _ [5, 6, 7, 8, 9, 10, 11, 12, 13, 14, 15, 16, 17, 18, 19, 20, 21, 22, 23, 24, 25, 26, 27, 28, 29, 30, 31, 32, 33, 34, 35, 36, 37] rfl (by decide +kernel)
set_option maxRecDepth 20000 in
theorem gX6_byRoom_X6_room : GoodIn wsX6_byRoom (wsV RX6 130 RX6 yX6_room wsX6_room) := goodIn_app (goodIn_of _ (by decide +kernel)) ggX6_byRoom_X6_room
theorem dX6_byRoom_0 : decode cX6_byRoom 0 = .ok (.iload_n 1, 1) := by decide +kernel
theorem dX6_byRoom_1 : decode cX6_byRoom 1 = .ok (.aload_n 0, 1) := by decide +kernel
theorem dX6_byRoom_2 : decode cX6_byRoom 2 = .ok (.invokevirtual 130, 3) := by decide +kernel
theorem dX6_byRoom_5 : decode cX6_byRoom 5 = .ok (.iadd, 1) := by decide +kernel
theorem dX6_byRoom_6 : decode cX6_byRoom 6 = .ok (.iconst 1, 1) := by decide +kernel
theorem dX6_byRoom_7 : decode cX6_byRoom 7 = .ok (.isub, 1) := by decide +kernel
theorem dX6_byRoom_8 : decode cX6_byRoom 8 = .ok (.aload_n 0, 1) := by decide +kernel
theorem dX6_byRoom_9 : decode cX6_byRoom 9 = .ok (.invokevirtual 130, 3) := by decide +kernel
theorem dX6_byRoom_12 : decode cX6_byRoom 12 = .ok (.idiv, 1) := by decide +kernel
theorem dX6_byRoom_13 : decode cX6_byRoom 13 = .ok (.ireturn, 1) := by decide +kernel
set_option maxRecDepth 20000 in
set_option maxRecDepth 20000 in
theorem ggX6_bound_X6_all : GoodIn wsX6_bound wsX6_all := goodIn_r _ [6, 1, 30, 31, 32, 33, 34, 35, 36, 37, 38, 39, 40, 41, 42, 43, 44, 45, 46, 47, 48, 49, 50, 51, 52, 53, 54, 55, 56, 57, 58] rfl (by decide +kernel)
set_option maxRecDepth 20000 in
theorem gX6_bound_X6_all : GoodIn wsX6_bound (wsV RX6 152 RX6 yX6_all wsX6_all) := goodIn_app (goodIn_of _ (by decide +kernel)) ggX6_bound_X6_all
set_option maxRecDepth 20000 in
set_option maxRecDepth 20000 in
theorem ggX6_bound_X6_loadOf : GoodIn wsX6_bound wsX6_loadOf := goodIn_r _ [10, 11, 12, 13, 14, 15, 5, 16, 1, 17, 18, 19, 20, 30, 31, 32, 33, 34, 35, 36, 37, 38, 39, 40, 41, 42, 43, 44, 45, 46, 47, 48, 49, 50, 51, 52, 53, 54, 55, 56, 57, 58] rfl (by decide +kernel)
set_option maxRecDepth 20000 in
theorem gX6_bound_X6_loadOf : GoodIn wsX6_bound (wsV RX6 123 RX6 yX6_loadOf wsX6_loadOf) := goodIn_app (goodIn_of _ (by decide +kernel)) ggX6_bound_X6_loadOf
set_option maxRecDepth 20000 in
set_option maxRecDepth 20000 in
theorem ggX6_bound_X6_byRoom : GoodIn wsX6_bound wsX6_byRoom := goodIn_r _ [24, 25, 26, 27, 5, 28, 11, 29, 12, 30, 31, 32, 33, 34, 35, 36, 37, 38, 39, 40, 41, 42, 43, 44, 45, 46, 47, 48, 49, 50, 51, 52, 53, 54, 55, 56, 57, 58] rfl (by decide +kernel)
set_option maxRecDepth 20000 in
theorem gX6_bound_X6_byRoom : GoodIn wsX6_bound (wsV RX6 179 RX6 yX6_byRoom wsX6_byRoom) := goodIn_app (goodIn_of _ (by decide +kernel)) ggX6_bound_X6_byRoom
set_option maxRecDepth 20000 in
set_option maxRecDepth 20000 in
theorem ggX6_bound_X6_room : GoodIn wsX6_bound wsX6_room := goodIn_r _ [28, 11, 29, 12, 30, 31, 32, 33, 34, 35, 36, 37, 38, 39, 40, 41, 42, 43, 44, 45, 46, 47, 48, 49, 50, 51, 52, 53, 54, 55, 56, 57, 58] rfl (by decide +kernel)
set_option maxRecDepth 20000 in
theorem gX6_bound_X6_room : GoodIn wsX6_bound (wsV RX6 130 RX6 yX6_room wsX6_room) := goodIn_app (goodIn_of _ (by decide +kernel)) ggX6_bound_X6_room
theorem dX6_bound_0 : decode cX6_bound 0 = .ok (.iload_n 1, 1) := by decide +kernel
theorem dX6_bound_1 : decode cX6_bound 1 = .ok (.ifCond .lt 8, 3) := by decide +kernel
theorem dX6_bound_4 : decode cX6_bound 4 = .ok (.iload_n 1, 1) := by decide +kernel
theorem dX6_bound_5 : decode cX6_bound 5 = .ok (.iconst 1, 1) := by decide +kernel
theorem dX6_bound_6 : decode cX6_bound 6 = .ok (.if_icmp .le 6, 3) := by decide +kernel
theorem dX6_bound_9 : decode cX6_bound 9 = .ok (.bipush (-2), 2) := by decide +kernel
theorem dX6_bound_11 : decode cX6_bound 11 = .ok (.ireturn, 1) := by decide +kernel
theorem dX6_bound_12 : decode cX6_bound 12 = .ok (.iload_n 1, 1) := by decide +kernel
theorem dX6_bound_13 : decode cX6_bound 13 = .ok (.ifCond .ne 16, 3) := by decide +kernel
theorem dX6_bound_16 : decode cX6_bound 16 = .ok (.aload_n 0, 1) := by decide +kernel
theorem dX6_bound_17 : decode cX6_bound 17 = .ok (.aload_n 0, 1) := by decide +kernel
theorem dX6_bound_18 : decode cX6_bound 18 = .ok (.aload_n 0, 1) := by decide +kernel
theorem dX6_bound_19 : decode cX6_bound 19 = .ok (.invokevirtual 152, 3) := by decide +kernel
theorem dX6_bound_22 : decode cX6_bound 22 = .ok (.invokevirtual 123, 3) := by decide +kernel
theorem dX6_bound_25 : decode cX6_bound 25 = .ok (.invokevirtual 179, 3) := by decide +kernel
theorem dX6_bound_28 : decode cX6_bound 28 = .ok (.ireturn, 1) := by decide +kernel
theorem dX6_bound_29 : decode cX6_bound 29 = .ok (.iconst 0, 1) := by decide +kernel
theorem dX6_bound_30 : decode cX6_bound 30 = .ok (.istore_n 2, 1) := by decide +kernel
theorem dX6_bound_31 : decode cX6_bound 31 = .ok (.iconst 0, 1) := by decide +kernel
theorem dX6_bound_32 : decode cX6_bound 32 = .ok (.istore_n 3, 1) := by decide +kernel
theorem dX6_bound_33 : decode cX6_bound 33 = .ok (.iconst 0, 1) := by decide +kernel
theorem dX6_bound_34 : decode cX6_bound 34 = .ok (.istore 4, 2) := by decide +kernel
theorem dX6_bound_36 : decode cX6_bound 36 = .ok (.iload 4, 2) := by decide +kernel
theorem dX6_bound_38 : decode cX6_bound 38 = .ok (.aload_n 0, 1) := by decide +kernel
theorem dX6_bound_39 : decode cX6_bound 39 = .ok (.getfield 85, 3) := by decide +kernel
theorem dX6_bound_42 : decode cX6_bound 42 = .ok (.if_icmp .ge 55, 3) := by decide +kernel
theorem dX6_bound_45 : decode cX6_bound 45 = .ok (.iconst 2, 1) := by decide +kernel
theorem dX6_bound_46 : decode cX6_bound 46 = .ok (.aload_n 0, 1) := by decide +kernel
theorem dX6_bound_47 : decode cX6_bound 47 = .ok (.iconst 1, 1) := by decide +kernel
theorem dX6_bound_48 : decode cX6_bound 48 = .ok (.iload 4, 2) := by decide +kernel
theorem dX6_bound_50 : decode cX6_bound 50 = .ok (.ishl, 1) := by decide +kernel
theorem dX6_bound_51 : decode cX6_bound 51 = .ok (.invokevirtual 123, 3) := by decide +kernel
theorem dX6_bound_54 : decode cX6_bound 54 = .ok (.imul, 1) := by decide +kernel
theorem dX6_bound_55 : decode cX6_bound 55 = .ok (.istore 5, 2) := by decide +kernel
theorem dX6_bound_57 : decode cX6_bound 57 = .ok (.iload_n 2, 1) := by decide +kernel
theorem dX6_bound_58 : decode cX6_bound 58 = .ok (.iload 5, 2) := by decide +kernel
theorem dX6_bound_60 : decode cX6_bound 60 = .ok (.aload_n 0, 1) := by decide +kernel
theorem dX6_bound_61 : decode cX6_bound 61 = .ok (.invokevirtual 130, 3) := by decide +kernel
theorem dX6_bound_64 : decode cX6_bound 64 = .ok (.if_icmp .le 7, 3) := by decide +kernel
theorem dX6_bound_67 : decode cX6_bound 67 = .ok (.iconst 1, 1) := by decide +kernel
theorem dX6_bound_68 : decode cX6_bound 68 = .ok (.goto 4, 3) := by decide +kernel
theorem dX6_bound_71 : decode cX6_bound 71 = .ok (.iconst 0, 1) := by decide +kernel
theorem dX6_bound_72 : decode cX6_bound 72 = .ok (.iadd, 1) := by decide +kernel
theorem dX6_bound_73 : decode cX6_bound 73 = .ok (.istore_n 2, 1) := by decide +kernel
theorem dX6_bound_74 : decode cX6_bound 74 = .ok (.iload_n 3, 1) := by decide +kernel
theorem dX6_bound_75 : decode cX6_bound 75 = .ok (.iload 5, 2) := by decide +kernel
theorem dX6_bound_77 : decode cX6_bound 77 = .ok (.aload_n 0, 1) := by decide +kernel
theorem dX6_bound_78 : decode cX6_bound 78 = .ok (.invokevirtual 130, 3) := by decide +kernel
theorem dX6_bound_81 : decode cX6_bound 81 = .ok (.if_icmp .ne 7, 3) := by decide +kernel
theorem dX6_bound_84 : decode cX6_bound 84 = .ok (.iconst 1, 1) := by decide +kernel
theorem dX6_bound_85 : decode cX6_bound 85 = .ok (.goto 4, 3) := by decide +kernel
theorem dX6_bound_88 : decode cX6_bound 88 = .ok (.iconst 0, 1) := by decide +kernel
theorem dX6_bound_89 : decode cX6_bound 89 = .ok (.iadd, 1) := by decide +kernel
theorem dX6_bound_90 : decode cX6_bound 90 = .ok (.istore_n 3, 1) := by decide +kernel
theorem dX6_bound_91 : decode cX6_bound 91 = .ok (.iinc 4 1, 3) := by decide +kernel
theorem dX6_bound_94 : decode cX6_bound 94 = .ok (.goto (-58), 3) := by decide +kernel
theorem dX6_bound_97 : decode cX6_bound 97 = .ok (.iload_n 2, 1) := by decide +kernel
theorem dX6_bound_98 : decode cX6_bound 98 = .ok (.iload_n 3, 1) := by decide +kernel
theorem dX6_bound_99 : decode cX6_bound 99 = .ok (.iconst 1, 1) := by decide +kernel
theorem dX6_bound_100 : decode cX6_bound 100 = .ok (.iadd, 1) := by decide +kernel
theorem dX6_bound_101 : decode cX6_bound 101 = .ok (.iconst 2, 1) := by decide +kernel
theorem dX6_bound_102 : decode cX6_bound 102 = .ok (.idiv, 1) := by decide +kernel
theorem dX6_bound_103 : decode cX6_bound 103 = .ok (.iadd, 1) := by decide +kernel
theorem dX6_bound_104 : decode cX6_bound 104 = .ok (.ireturn, 1) := by decide +kernel
set_option maxRecDepth 20000 in
set_option maxRecDepth 20000 in
theorem ggX6_early_X6_isTask : GoodIn wsX6_early wsX6_isTask := goodIn_r _ [5, 6, 35, 36, 37, 38, 39, 40, 41, 42, 43, 44, 45, 46, 47, 48, 49, 50, 51, 52, 53, 54, 55, 56, 57, 58, 59, 60, 61, 62, 63] rfl (by decide +kernel)
set_option maxRecDepth 20000 in
theorem gX6_early_X6_isTask : GoodIn wsX6_early (wsV RX6 88 RX6 yX6_isTask wsX6_isTask) := goodIn_app (goodIn_of _ (by decide +kernel)) ggX6_early_X6_isTask
set_option maxRecDepth 20000 in
set_option maxRecDepth 20000 in
theorem ggX6_early_X6_leading : GoodIn wsX6_early wsX6_leading := goodIn_r _ [10, 11, 6, 12, 13, 4, 14, 35, 36, 37, 38, 39, 40, 41, 42, 43, 44, 45, 46, 47, 48, 49, 50, 51, 52, 53, 54, 55, 56, 57, 58, 59, 60, 61, 62, 63] rfl (by decide +kernel)
set_option maxRecDepth 20000 in
theorem gX6_early_X6_leading : GoodIn wsX6_early (wsV RX6 99 RX6 yX6_leading wsX6_leading) := goodIn_app (goodIn_of _ (by decide +kernel)) ggX6_early_X6_leading
set_option maxRecDepth 20000 in
set_option maxRecDepth 20000 in
theorem ggX6_early_X6_loadOf : GoodIn wsX6_early wsX6_loadOf := goodIn_r _ [18, 19, 20, 21, 22, 23, 4, 24, 6, 25, 12, 13, 14, 35, 36, 37, 38, 39, 40, 41, 42, 43, 44, 45, 46, 47, 48, 49, 50, 51, 52, 53, 54, 55, 56, 57, 58, 59, 60, 61, 62, 63] rfl (by decide +kernel)
set_option maxRecDepth 20000 in
theorem gX6_early_X6_loadOf : GoodIn wsX6_early (wsV RX6 123 RX6 yX6_loadOf wsX6_loadOf) := goodIn_app (goodIn_of _ (by decide +kernel)) ggX6_early_X6_loadOf
set_option maxRecDepth 20000 in
set_option maxRecDepth 20000 in
theorem ggX6_early_X6_byRoom : GoodIn wsX6_early wsX6_byRoom := goodIn_r _ [29, 30, 31, 32, 4, 33, 19, 34, 20, 35, 36, 37, 38, 39, 40, 41, 42, 43, 44, 45, 46, 47, 48, 49, 50, 51, 52, 53, 54, 55, 56, 57, 58, 59, 60, 61, 62, 63] rfl (by decide +kernel)
set_option maxRecDepth 20000 in
theorem gX6_early_X6_byRoom : GoodIn wsX6_early (wsV RX6 179 RX6 yX6_byRoom wsX6_byRoom) := goodIn_app (goodIn_of _ (by decide +kernel)) ggX6_early_X6_byRoom
theorem dX6_early_0 : decode cX6_early 0 = .ok (.aload_n 0, 1) := by decide +kernel
theorem dX6_early_1 : decode cX6_early 1 = .ok (.iload_n 1, 1) := by decide +kernel
theorem dX6_early_2 : decode cX6_early 2 = .ok (.invokevirtual 88, 3) := by decide +kernel
theorem dX6_early_5 : decode cX6_early 5 = .ok (.ifCond .eq 23, 3) := by decide +kernel
theorem dX6_early_8 : decode cX6_early 8 = .ok (.aload_n 0, 1) := by decide +kernel
theorem dX6_early_9 : decode cX6_early 9 = .ok (.aload_n 0, 1) := by decide +kernel
theorem dX6_early_10 : decode cX6_early 10 = .ok (.iconst 1, 1) := by decide +kernel
theorem dX6_early_11 : decode cX6_early 11 = .ok (.iload_n 1, 1) := by decide +kernel
theorem dX6_early_12 : decode cX6_early 12 = .ok (.ishl, 1) := by decide +kernel
theorem dX6_early_13 : decode cX6_early 13 = .ok (.aload_n 0, 1) := by decide +kernel
theorem dX6_early_14 : decode cX6_early 14 = .ok (.iload_n 1, 1) := by decide +kernel
theorem dX6_early_15 : decode cX6_early 15 = .ok (.invokevirtual 99, 3) := by decide +kernel
theorem dX6_early_18 : decode cX6_early 18 = .ok (.ior, 1) := by decide +kernel
theorem dX6_early_19 : decode cX6_early 19 = .ok (.invokevirtual 123, 3) := by decide +kernel
theorem dX6_early_22 : decode cX6_early 22 = .ok (.invokevirtual 179, 3) := by decide +kernel
theorem dX6_early_25 : decode cX6_early 25 = .ok (.goto 5, 3) := by decide +kernel
theorem dX6_early_28 : decode cX6_early 28 = .ok (.bipush (-2), 2) := by decide +kernel
theorem dX6_early_30 : decode cX6_early 30 = .ok (.ireturn, 1) := by decide +kernel
set_option maxRecDepth 20000 in
set_option maxRecDepth 20000 in
theorem ggX6_late_X6_isTask : GoodIn wsX6_late wsX6_isTask := goodIn_r _ [5, 6, 39, 40, 41, 42, 43, 44, 45, 46, 47, 48, 49, 50, 51, 52, 53, 54, 55, 56, 57, 58, 59, 60, 61, 62, 63, 64, 65, 66, 67] rfl (by decide +kernel)
set_option maxRecDepth 20000 in
theorem gX6_late_X6_isTask : GoodIn wsX6_late (wsV RX6 88 RX6 yX6_isTask wsX6_isTask) := goodIn_app (goodIn_of _ (by decide +kernel)) ggX6_late_X6_isTask
set_option maxRecDepth 20000 in
set_option maxRecDepth 20000 in
theorem ggX6_late_X6_following : GoodIn wsX6_late wsX6_following := goodIn_r _ [10, 6, 11, 12, 13, 4, 14, 15, 16, 17, 18, 39, 40, 41, 42, 43, 44, 45, 46, 47, 48, 49, 50, 51, 52, 53, 54, 55, 56, 57, 58, 59, 60, 61, 62, 63, 64, 65, 66, 67] rfl (by decide +kernel)
set_option maxRecDepth 20000 in
theorem gX6_late_X6_following : GoodIn wsX6_late (wsV RX6 120 RX6 yX6_following wsX6_following) := goodIn_app (goodIn_of _ (by decide +kernel)) ggX6_late_X6_following
set_option maxRecDepth 20000 in
set_option maxRecDepth 20000 in
theorem ggX6_late_X6_loadOf : GoodIn wsX6_late wsX6_loadOf := goodIn_r _ [22, 23, 24, 25, 26, 27, 4, 28, 6, 29, 16, 17, 18, 39, 40, 41, 42, 43, 44, 45, 46, 47, 48, 49, 50, 51, 52, 53, 54, 55, 56, 57, 58, 59, 60, 61, 62, 63, 64, 65, 66, 67] rfl (by decide +kernel)
set_option maxRecDepth 20000 in
theorem gX6_late_X6_loadOf : GoodIn wsX6_late (wsV RX6 123 RX6 yX6_loadOf wsX6_loadOf) := goodIn_app (goodIn_of _ (by decide +kernel)) ggX6_late_X6_loadOf
set_option maxRecDepth 20000 in
set_option maxRecDepth 20000 in
theorem ggX6_late_X6_byRoom : GoodIn wsX6_late wsX6_byRoom := goodIn_r _ [33, 34, 35, 36, 4, 37, 23, 38, 24, 39, 40, 41, 42, 43, 44, 45, 46, 47, 48, 49, 50, 51, 52, 53, 54, 55, 56, 57, 58, 59, 60, 61, 62, 63, 64, 65, 66, 67] rfl (by decide +kernel)
set_option maxRecDepth 20000 in
theorem gX6_late_X6_byRoom : GoodIn wsX6_late (wsV RX6 179 RX6 yX6_byRoom wsX6_byRoom) := goodIn_app (goodIn_of _ (by decide +kernel)) ggX6_late_X6_byRoom
theorem dX6_late_0 : decode cX6_late 0 = .ok (.aload_n 0, 1) := by decide +kernel
theorem dX6_late_1 : decode cX6_late 1 = .ok (.iload_n 1, 1) := by decide +kernel
theorem dX6_late_2 : decode cX6_late 2 = .ok (.invokevirtual 88, 3) := by decide +kernel
theorem dX6_late_5 : decode cX6_late 5 = .ok (.ifCond .eq 14, 3) := by decide +kernel
theorem dX6_late_8 : decode cX6_late 8 = .ok (.iload_n 2, 1) := by decide +kernel
theorem dX6_late_9 : decode cX6_late 9 = .ok (.iconst 1, 1) := by decide +kernel
theorem dX6_late_10 : decode cX6_late 10 = .ok (.if_icmp .lt 9, 3) := by decide +kernel
theorem dX6_late_13 : decode cX6_late 13 = .ok (.iload_n 2, 1) := by decide +kernel
theorem dX6_late_14 : decode cX6_late 14 = .ok (.bipush 10, 2) := by decide +kernel
theorem dX6_late_16 : decode cX6_late 16 = .ok (.if_icmp .le 8, 3) := by decide +kernel
theorem dX6_late_19 : decode cX6_late 19 = .ok (.bipush (-2), 2) := by decide +kernel
theorem dX6_late_21 : decode cX6_late 21 = .ok (.goto 24, 3) := by decide +kernel
theorem dX6_late_24 : decode cX6_late 24 = .ok (.iload_n 2, 1) := by decide +kernel
theorem dX6_late_25 : decode cX6_late 25 = .ok (.iconst 1, 1) := by decide +kernel
theorem dX6_late_26 : decode cX6_late 26 = .ok (.iadd, 1) := by decide +kernel
theorem dX6_late_27 : decode cX6_late 27 = .ok (.aload_n 0, 1) := by decide +kernel
theorem dX6_late_28 : decode cX6_late 28 = .ok (.aload_n 0, 1) := by decide +kernel
theorem dX6_late_29 : decode cX6_late 29 = .ok (.iconst 1, 1) := by decide +kernel
theorem dX6_late_30 : decode cX6_late 30 = .ok (.iload_n 1, 1) := by decide +kernel
theorem dX6_late_31 : decode cX6_late 31 = .ok (.ishl, 1) := by decide +kernel
theorem dX6_late_32 : decode cX6_late 32 = .ok (.aload_n 0, 1) := by decide +kernel
theorem dX6_late_33 : decode cX6_late 33 = .ok (.iload_n 1, 1) := by decide +kernel
theorem dX6_late_34 : decode cX6_late 34 = .ok (.invokevirtual 120, 3) := by decide +kernel
theorem dX6_late_37 : decode cX6_late 37 = .ok (.ior, 1) := by decide +kernel
theorem dX6_late_38 : decode cX6_late 38 = .ok (.invokevirtual 123, 3) := by decide +kernel
theorem dX6_late_41 : decode cX6_late 41 = .ok (.invokevirtual 179, 3) := by decide +kernel
theorem dX6_late_44 : decode cX6_late 44 = .ok (.isub, 1) := by decide +kernel
theorem dX6_late_45 : decode cX6_late 45 = .ok (.ireturn, 1) := by decide +kernel
set_option maxRecDepth 20000 in
set_option maxRecDepth 20000 in
theorem ggX6_worth_X6_following : GoodIn wsX6_worth wsX6_following := goodIn_r _ [6, 1, 7, 8, 9, 5, 10, 11, 12, 13, 14, 26, 27, 28, 29, 30, 31, 32, 33, 34, 35, 36, 37, 38, 39, 40, 41, 42, 43, 44, 45, 46, 47, 48, 49, 50, 51, 52, 53, 54] rfl (by decide +kernel)
set_option maxRecDepth 20000 in
theorem gX6_worth_X6_following : GoodIn wsX6_worth (wsV RX6 120 RX6 yX6_following wsX6_following) := goodIn_app (goodIn_of _ (by decide +kernel)) ggX6_worth_X6_following
set_option maxRecDepth 20000 in
set_option maxRecDepth 20000 in
theorem ggX6_worth_X6_in : GoodIn wsX6_worth wsX6_in := goodIn_r _ [14] rfl (by decide +kernel)
set_option maxRecDepth 20000 in
theorem gX6_worth_X6_in : GoodIn wsX6_worth (va_wsS RX6 95 yX6_in wsX6_in) := goodIn_app (goodIn_of _ (by decide +kernel)) ggX6_worth_X6_in
set_option maxRecDepth 20000 in
set_option maxRecDepth 20000 in
theorem ggX6_worth_X6_loadOf : GoodIn wsX6_worth wsX6_loadOf := goodIn_r _ [18, 19, 20, 21, 22, 23, 5, 24, 1, 25, 12, 13, 14, 26, 27, 28, 29, 30, 31, 32, 33, 34, 35, 36, 37, 38, 39, 40, 41, 42, 43, 44, 45, 46, 47, 48, 49, 50, 51, 52, 53, 54] rfl (by decide +kernel)
set_option maxRecDepth 20000 in
theorem gX6_worth_X6_loadOf : GoodIn wsX6_worth (wsV RX6 123 RX6 yX6_loadOf wsX6_loadOf) := goodIn_app (goodIn_of _ (by decide +kernel)) ggX6_worth_X6_loadOf
theorem dX6_worth_0 : decode cX6_worth 0 = .ok (.iconst 0, 1) := by decide +kernel
theorem dX6_worth_1 : decode cX6_worth 1 = .ok (.istore_n 3, 1) := by decide +kernel
theorem dX6_worth_2 : decode cX6_worth 2 = .ok (.iconst 0, 1) := by decide +kernel
theorem dX6_worth_3 : decode cX6_worth 3 = .ok (.istore 4, 2) := by decide +kernel
theorem dX6_worth_5 : decode cX6_worth 5 = .ok (.iload 4, 2) := by decide +kernel
theorem dX6_worth_7 : decode cX6_worth 7 = .ok (.aload_n 0, 1) := by decide +kernel
theorem dX6_worth_8 : decode cX6_worth 8 = .ok (.getfield 85, 3) := by decide +kernel
theorem dX6_worth_11 : decode cX6_worth 11 = .ok (.if_icmp .ge 30, 3) := by decide +kernel
theorem dX6_worth_14 : decode cX6_worth 14 = .ok (.iload_n 3, 1) := by decide +kernel
theorem dX6_worth_15 : decode cX6_worth 15 = .ok (.aload_n 0, 1) := by decide +kernel
theorem dX6_worth_16 : decode cX6_worth 16 = .ok (.iload_n 2, 1) := by decide +kernel
theorem dX6_worth_17 : decode cX6_worth 17 = .ok (.invokevirtual 120, 3) := by decide +kernel
theorem dX6_worth_20 : decode cX6_worth 20 = .ok (.iload 4, 2) := by decide +kernel
theorem dX6_worth_22 : decode cX6_worth 22 = .ok (.invokestatic 95, 3) := by decide +kernel
theorem dX6_worth_25 : decode cX6_worth 25 = .ok (.ifCond .eq 7, 3) := by decide +kernel
theorem dX6_worth_28 : decode cX6_worth 28 = .ok (.iconst 1, 1) := by decide +kernel
theorem dX6_worth_29 : decode cX6_worth 29 = .ok (.goto 4, 3) := by decide +kernel
theorem dX6_worth_32 : decode cX6_worth 32 = .ok (.iconst 0, 1) := by decide +kernel
theorem dX6_worth_33 : decode cX6_worth 33 = .ok (.iadd, 1) := by decide +kernel
theorem dX6_worth_34 : decode cX6_worth 34 = .ok (.istore_n 3, 1) := by decide +kernel
theorem dX6_worth_35 : decode cX6_worth 35 = .ok (.iinc 4 1, 3) := by decide +kernel
theorem dX6_worth_38 : decode cX6_worth 38 = .ok (.goto (-33), 3) := by decide +kernel
theorem dX6_worth_41 : decode cX6_worth 41 = .ok (.iload_n 1, 1) := by decide +kernel
theorem dX6_worth_42 : decode cX6_worth 42 = .ok (.ifCond .ne 13, 3) := by decide +kernel
theorem dX6_worth_45 : decode cX6_worth 45 = .ok (.aload_n 0, 1) := by decide +kernel
theorem dX6_worth_46 : decode cX6_worth 46 = .ok (.iconst 1, 1) := by decide +kernel
theorem dX6_worth_47 : decode cX6_worth 47 = .ok (.iload_n 2, 1) := by decide +kernel
theorem dX6_worth_48 : decode cX6_worth 48 = .ok (.ishl, 1) := by decide +kernel
theorem dX6_worth_49 : decode cX6_worth 49 = .ok (.invokevirtual 123, 3) := by decide +kernel
theorem dX6_worth_52 : decode cX6_worth 52 = .ok (.goto 34, 3) := by decide +kernel
theorem dX6_worth_55 : decode cX6_worth 55 = .ok (.iload_n 1, 1) := by decide +kernel
theorem dX6_worth_56 : decode cX6_worth 56 = .ok (.iconst 1, 1) := by decide +kernel
theorem dX6_worth_57 : decode cX6_worth 57 = .ok (.if_icmp .ne 19, 3) := by decide +kernel
theorem dX6_worth_60 : decode cX6_worth 60 = .ok (.aload_n 0, 1) := by decide +kernel
theorem dX6_worth_61 : decode cX6_worth 61 = .ok (.iconst 1, 1) := by decide +kernel
theorem dX6_worth_62 : decode cX6_worth 62 = .ok (.iload_n 2, 1) := by decide +kernel
theorem dX6_worth_63 : decode cX6_worth 63 = .ok (.ishl, 1) := by decide +kernel
theorem dX6_worth_64 : decode cX6_worth 64 = .ok (.aload_n 0, 1) := by decide +kernel
theorem dX6_worth_65 : decode cX6_worth 65 = .ok (.iload_n 2, 1) := by decide +kernel
theorem dX6_worth_66 : decode cX6_worth 66 = .ok (.invokevirtual 120, 3) := by decide +kernel
theorem dX6_worth_69 : decode cX6_worth 69 = .ok (.ior, 1) := by decide +kernel
theorem dX6_worth_70 : decode cX6_worth 70 = .ok (.invokevirtual 123, 3) := by decide +kernel
theorem dX6_worth_73 : decode cX6_worth 73 = .ok (.goto 13, 3) := by decide +kernel
theorem dX6_worth_76 : decode cX6_worth 76 = .ok (.iload_n 1, 1) := by decide +kernel
theorem dX6_worth_77 : decode cX6_worth 77 = .ok (.iconst 2, 1) := by decide +kernel
theorem dX6_worth_78 : decode cX6_worth 78 = .ok (.if_icmp .ne 7, 3) := by decide +kernel
theorem dX6_worth_81 : decode cX6_worth 81 = .ok (.iload_n 3, 1) := by decide +kernel
theorem dX6_worth_82 : decode cX6_worth 82 = .ok (.goto 4, 3) := by decide +kernel
theorem dX6_worth_85 : decode cX6_worth 85 = .ok (.iconst 0, 1) := by decide +kernel
theorem dX6_worth_86 : decode cX6_worth 86 = .ok (.ireturn, 1) := by decide +kernel
set_option maxRecDepth 20000 in
set_option maxRecDepth 20000 in
theorem ggX6_nextBy_X6_all : GoodIn wsX6_nextBy wsX6_all := goodIn_r _ [8, 2, 44, 45, 46, 47, 48, 49, 50, 51, 52, 53, 54, 55, 56, 57, 58, 59, 60, 61, 62, 63, 64, 65, 66, 67, 68, 69, 70, 71, 72] rfl (by decide +kernel)
set_option maxRecDepth 20000 in
theorem gX6_nextBy_X6_all : GoodIn wsX6_nextBy (wsV RX6 152 RX6 yX6_all wsX6_all) := goodIn_app (goodIn_of _ (by decide +kernel)) ggX6_nextBy_X6_all
set_option maxRecDepth 20000 in
set_option maxRecDepth 20000 in
theorem ggX6_nextBy_X6_setAt : GoodIn wsX6_nextBy wsX6_setAt := goodIn_r _ [12, 2, 44, 45, 46, 47, 48, 49, 50, 51, 52, 53, 54, 55, 56, 57, 58, 59, 60, 61, 62, 63, 64, 65, 66, 67, 68, 69, 70, 71, 72] rfl (by decide +kernel)
set_option maxRecDepth 20000 in
theorem gX6_nextBy_X6_setAt : GoodIn wsX6_nextBy (wsV RX6 126 RX6 yX6_setAt wsX6_setAt) := goodIn_app (goodIn_of _ (by decide +kernel)) ggX6_nextBy_X6_setAt
set_option maxRecDepth 20000 in
set_option maxRecDepth 20000 in
theorem ggX6_nextBy_X6_leading : GoodIn wsX6_nextBy wsX6_leading := goodIn_r _ [16, 17, 2, 18, 19, 7, 20, 44, 45, 46, 47, 48, 49, 50, 51, 52, 53, 54, 55, 56, 57, 58, 59, 60, 61, 62, 63, 64, 65, 66, 67, 68, 69, 70, 71, 72] rfl (by decide +kernel)
set_option maxRecDepth 20000 in
theorem gX6_nextBy_X6_leading : GoodIn wsX6_nextBy (wsV RX6 99 RX6 yX6_leading wsX6_leading) := goodIn_app (goodIn_of _ (by decide +kernel)) ggX6_nextBy_X6_leading
set_option maxRecDepth 20000 in
set_option maxRecDepth 20000 in
theorem ggX6_nextBy_X6_following : GoodIn wsX6_nextBy wsX6_following := goodIn_r _ [24, 2, 13, 14, 15, 7, 16, 17, 18, 19, 20, 44, 45, 46, 47, 48, 49, 50, 51, 52, 53, 54, 55, 56, 57, 58, 59, 60, 61, 62, 63, 64, 65, 66, 67, 68, 69, 70, 71, 72] rfl (by decide +kernel)
set_option maxRecDepth 20000 in
theorem gX6_nextBy_X6_following : GoodIn wsX6_nextBy (wsV RX6 120 RX6 yX6_following wsX6_following) := goodIn_app (goodIn_of _ (by decide +kernel)) ggX6_nextBy_X6_following
set_option maxRecDepth 20000 in
set_option maxRecDepth 20000 in
theorem ggX6_nextBy_X6_loadOf : GoodIn wsX6_nextBy wsX6_loadOf := goodIn_r _ [28, 3, 29, 30, 31, 32, 7, 33, 2, 34, 18, 19, 20, 44, 45, 46, 47, 48, 49, 50, 51, 52, 53, 54, 55, 56, 57, 58, 59, 60, 61, 62, 63, 64, 65, 66, 67, 68, 69, 70, 71, 72] rfl (by decide +kernel)
set_option maxRecDepth 20000 in
theorem gX6_nextBy_X6_loadOf : GoodIn wsX6_nextBy (wsV RX6 123 RX6 yX6_loadOf wsX6_loadOf) := goodIn_app (goodIn_of _ (by decide +kernel)) ggX6_nextBy_X6_loadOf
set_option maxRecDepth 20000 in
set_option maxRecDepth 20000 in
theorem ggX6_nextBy_X6_room : GoodIn wsX6_nextBy wsX6_room := goodIn_r _ [38, 3, 39, 29, 44, 45, 46, 47, 48, 49, 50, 51, 52, 53, 54, 55, 56, 57, 58, 59, 60, 61, 62, 63, 64, 65, 66, 67, 68, 69, 70, 71, 72] rfl (by decide +kernel)
set_option maxRecDepth 20000 in
theorem gX6_nextBy_X6_room : GoodIn wsX6_nextBy (wsV RX6 130 RX6 yX6_room wsX6_room) := goodIn_app (goodIn_of _ (by decide +kernel)) ggX6_nextBy_X6_room
set_option maxRecDepth 20000 in
set_option maxRecDepth 20000 in
theorem ggX6_nextBy_X6_worth : GoodIn wsX6_nextBy wsX6_worth := goodIn_r _ [43, 2, 21, 22, 23, 7, 24, 13, 14, 15, 16, 17, 18, 19, 20, 25, 26, 27, 28, 3, 29, 30, 31, 32, 33, 34, 44, 45, 46, 47, 48, 49, 50, 51, 52, 53, 54, 55, 56, 57, 58, 59, 60, 61, 62, 63, 64, 65, 66, 67, 68, 69, 70, 71, 72] rfl (by decide +kernel)
set_option maxRecDepth 20000 in
theorem gX6_nextBy_X6_worth : GoodIn wsX6_nextBy (wsV RX6 182 RX6 yX6_worth wsX6_worth) := goodIn_app (goodIn_of _ (by decide +kernel)) ggX6_nextBy_X6_worth
theorem dX6_nextBy_0 : decode cX6_nextBy 0 = .ok (.iconst (-1), 1) := by decide +kernel
theorem dX6_nextBy_1 : decode cX6_nextBy 1 = .ok (.istore_n 3, 1) := by decide +kernel
theorem dX6_nextBy_2 : decode cX6_nextBy 2 = .ok (.aload_n 0, 1) := by decide +kernel
theorem dX6_nextBy_3 : decode cX6_nextBy 3 = .ok (.invokevirtual 152, 3) := by decide +kernel
theorem dX6_nextBy_6 : decode cX6_nextBy 6 = .ok (.aload_n 0, 1) := by decide +kernel
theorem dX6_nextBy_7 : decode cX6_nextBy 7 = .ok (.aload_n 0, 1) := by decide +kernel
theorem dX6_nextBy_8 : decode cX6_nextBy 8 = .ok (.getfield 76, 3) := by decide +kernel
theorem dX6_nextBy_11 : decode cX6_nextBy 11 = .ok (.iconst 0, 1) := by decide +kernel
theorem dX6_nextBy_12 : decode cX6_nextBy 12 = .ok (.invokevirtual 126, 3) := by decide +kernel
theorem dX6_nextBy_15 : decode cX6_nextBy 15 = .ok (.iconst (-1), 1) := by decide +kernel
theorem dX6_nextBy_16 : decode cX6_nextBy 16 = .ok (.ixor, 1) := by decide +kernel
theorem dX6_nextBy_17 : decode cX6_nextBy 17 = .ok (.iand, 1) := by decide +kernel
theorem dX6_nextBy_18 : decode cX6_nextBy 18 = .ok (.istore 4, 2) := by decide +kernel
theorem dX6_nextBy_20 : decode cX6_nextBy 20 = .ok (.iconst 0, 1) := by decide +kernel
theorem dX6_nextBy_21 : decode cX6_nextBy 21 = .ok (.istore 5, 2) := by decide +kernel
theorem dX6_nextBy_23 : decode cX6_nextBy 23 = .ok (.iload 5, 2) := by decide +kernel
theorem dX6_nextBy_25 : decode cX6_nextBy 25 = .ok (.aload_n 0, 1) := by decide +kernel
theorem dX6_nextBy_26 : decode cX6_nextBy 26 = .ok (.getfield 85, 3) := by decide +kernel
theorem dX6_nextBy_29 : decode cX6_nextBy 29 = .ok (.if_icmp .ge 131, 3) := by decide +kernel
theorem dX6_nextBy_32 : decode cX6_nextBy 32 = .ok (.aload_n 0, 1) := by decide +kernel
theorem dX6_nextBy_33 : decode cX6_nextBy 33 = .ok (.getfield 76, 3) := by decide +kernel
theorem dX6_nextBy_36 : decode cX6_nextBy 36 = .ok (.iload 5, 2) := by decide +kernel
theorem dX6_nextBy_38 : decode cX6_nextBy 38 = .ok (.iaload, 1) := by decide +kernel
theorem dX6_nextBy_39 : decode cX6_nextBy 39 = .ok (.ifCond .ne 43, 3) := by decide +kernel
theorem dX6_nextBy_42 : decode cX6_nextBy 42 = .ok (.aload_n 0, 1) := by decide +kernel
theorem dX6_nextBy_43 : decode cX6_nextBy 43 = .ok (.iload 5, 2) := by decide +kernel
theorem dX6_nextBy_45 : decode cX6_nextBy 45 = .ok (.invokevirtual 99, 3) := by decide +kernel
theorem dX6_nextBy_48 : decode cX6_nextBy 48 = .ok (.iload 4, 2) := by decide +kernel
theorem dX6_nextBy_50 : decode cX6_nextBy 50 = .ok (.iconst (-1), 1) := by decide +kernel
theorem dX6_nextBy_51 : decode cX6_nextBy 51 = .ok (.ixor, 1) := by decide +kernel
theorem dX6_nextBy_52 : decode cX6_nextBy 52 = .ok (.iand, 1) := by decide +kernel
theorem dX6_nextBy_53 : decode cX6_nextBy 53 = .ok (.ifCond .eq 25, 3) := by decide +kernel
theorem dX6_nextBy_56 : decode cX6_nextBy 56 = .ok (.aload_n 0, 1) := by decide +kernel
theorem dX6_nextBy_57 : decode cX6_nextBy 57 = .ok (.getfield 113, 3) := by decide +kernel
theorem dX6_nextBy_60 : decode cX6_nextBy 60 = .ok (.iconst 1, 1) := by decide +kernel
theorem dX6_nextBy_61 : decode cX6_nextBy 61 = .ok (.if_icmp .ne 21, 3) := by decide +kernel
theorem dX6_nextBy_64 : decode cX6_nextBy 64 = .ok (.aload_n 0, 1) := by decide +kernel
theorem dX6_nextBy_65 : decode cX6_nextBy 65 = .ok (.iload 5, 2) := by decide +kernel
theorem dX6_nextBy_67 : decode cX6_nextBy 67 = .ok (.invokevirtual 120, 3) := by decide +kernel
theorem dX6_nextBy_70 : decode cX6_nextBy 70 = .ok (.iload 4, 2) := by decide +kernel
theorem dX6_nextBy_72 : decode cX6_nextBy 72 = .ok (.iconst (-1), 1) := by decide +kernel
theorem dX6_nextBy_73 : decode cX6_nextBy 73 = .ok (.ixor, 1) := by decide +kernel
theorem dX6_nextBy_74 : decode cX6_nextBy 74 = .ok (.iand, 1) := by decide +kernel
theorem dX6_nextBy_75 : decode cX6_nextBy 75 = .ok (.ifCond .ne 7, 3) := by decide +kernel
theorem dX6_nextBy_78 : decode cX6_nextBy 78 = .ok (.iconst 1, 1) := by decide +kernel
theorem dX6_nextBy_79 : decode cX6_nextBy 79 = .ok (.goto 4, 3) := by decide +kernel
theorem dX6_nextBy_82 : decode cX6_nextBy 82 = .ok (.iconst 0, 1) := by decide +kernel
theorem dX6_nextBy_83 : decode cX6_nextBy 83 = .ok (.istore 6, 2) := by decide +kernel
theorem dX6_nextBy_85 : decode cX6_nextBy 85 = .ok (.iload 6, 2) := by decide +kernel
theorem dX6_nextBy_87 : decode cX6_nextBy 87 = .ok (.ifCond .eq 32, 3) := by decide +kernel
theorem dX6_nextBy_90 : decode cX6_nextBy 90 = .ok (.aload_n 0, 1) := by decide +kernel
theorem dX6_nextBy_91 : decode cX6_nextBy 91 = .ok (.aload_n 0, 1) := by decide +kernel
theorem dX6_nextBy_92 : decode cX6_nextBy 92 = .ok (.aload_n 0, 1) := by decide +kernel
theorem dX6_nextBy_93 : decode cX6_nextBy 93 = .ok (.getfield 76, 3) := by decide +kernel
theorem dX6_nextBy_96 : decode cX6_nextBy 96 = .ok (.iload_n 2, 1) := by decide +kernel
theorem dX6_nextBy_97 : decode cX6_nextBy 97 = .ok (.invokevirtual 126, 3) := by decide +kernel
theorem dX6_nextBy_100 : decode cX6_nextBy 100 = .ok (.iconst 1, 1) := by decide +kernel
theorem dX6_nextBy_101 : decode cX6_nextBy 101 = .ok (.iload 5, 2) := by decide +kernel
theorem dX6_nextBy_103 : decode cX6_nextBy 103 = .ok (.ishl, 1) := by decide +kernel
theorem dX6_nextBy_104 : decode cX6_nextBy 104 = .ok (.ior, 1) := by decide +kernel
theorem dX6_nextBy_105 : decode cX6_nextBy 105 = .ok (.invokevirtual 123, 3) := by decide +kernel
theorem dX6_nextBy_108 : decode cX6_nextBy 108 = .ok (.aload_n 0, 1) := by decide +kernel
theorem dX6_nextBy_109 : decode cX6_nextBy 109 = .ok (.invokevirtual 130, 3) := by decide +kernel
theorem dX6_nextBy_112 : decode cX6_nextBy 112 = .ok (.if_icmp .gt 7, 3) := by decide +kernel
theorem dX6_nextBy_115 : decode cX6_nextBy 115 = .ok (.iconst 1, 1) := by decide +kernel
theorem dX6_nextBy_116 : decode cX6_nextBy 116 = .ok (.goto 4, 3) := by decide +kernel
theorem dX6_nextBy_119 : decode cX6_nextBy 119 = .ok (.iconst 0, 1) := by decide +kernel
theorem dX6_nextBy_120 : decode cX6_nextBy 120 = .ok (.istore 6, 2) := by decide +kernel
theorem dX6_nextBy_122 : decode cX6_nextBy 122 = .ok (.iload 6, 2) := by decide +kernel
theorem dX6_nextBy_124 : decode cX6_nextBy 124 = .ok (.ifCond .eq 28, 3) := by decide +kernel
theorem dX6_nextBy_127 : decode cX6_nextBy 127 = .ok (.iload_n 3, 1) := by decide +kernel
theorem dX6_nextBy_128 : decode cX6_nextBy 128 = .ok (.ifCond .lt 19, 3) := by decide +kernel
theorem dX6_nextBy_131 : decode cX6_nextBy 131 = .ok (.aload_n 0, 1) := by decide +kernel
theorem dX6_nextBy_132 : decode cX6_nextBy 132 = .ok (.iload_n 1, 1) := by decide +kernel
theorem dX6_nextBy_133 : decode cX6_nextBy 133 = .ok (.iload 5, 2) := by decide +kernel
theorem dX6_nextBy_135 : decode cX6_nextBy 135 = .ok (.invokevirtual 182, 3) := by decide +kernel
theorem dX6_nextBy_138 : decode cX6_nextBy 138 = .ok (.aload_n 0, 1) := by decide +kernel
theorem dX6_nextBy_139 : decode cX6_nextBy 139 = .ok (.iload_n 1, 1) := by decide +kernel
theorem dX6_nextBy_140 : decode cX6_nextBy 140 = .ok (.iload_n 3, 1) := by decide +kernel
theorem dX6_nextBy_141 : decode cX6_nextBy 141 = .ok (.invokevirtual 182, 3) := by decide +kernel
theorem dX6_nextBy_144 : decode cX6_nextBy 144 = .ok (.if_icmp .le 8, 3) := by decide +kernel
theorem dX6_nextBy_147 : decode cX6_nextBy 147 = .ok (.iload 5, 2) := by decide +kernel
theorem dX6_nextBy_149 : decode cX6_nextBy 149 = .ok (.goto 4, 3) := by decide +kernel
theorem dX6_nextBy_152 : decode cX6_nextBy 152 = .ok (.iload_n 3, 1) := by decide +kernel
theorem dX6_nextBy_153 : decode cX6_nextBy 153 = .ok (.istore_n 3, 1) := by decide +kernel
theorem dX6_nextBy_154 : decode cX6_nextBy 154 = .ok (.iinc 5 1, 3) := by decide +kernel
theorem dX6_nextBy_157 : decode cX6_nextBy 157 = .ok (.goto (-134), 3) := by decide +kernel
theorem dX6_nextBy_160 : decode cX6_nextBy 160 = .ok (.iload_n 3, 1) := by decide +kernel
theorem dX6_nextBy_161 : decode cX6_nextBy 161 = .ok (.ireturn, 1) := by decide +kernel
set_option maxRecDepth 20000 in
set_option maxRecDepth 20000 in
theorem ggX6_rule_X6_loadOf : GoodIn wsX6_rule wsX6_loadOf := goodIn_r _ [8, 9, 10, 11, 12, 13, 7, 14, 1, 15, 16, 17, 18, 53, 54, 55, 56, 57, 58, 59, 60, 61, 62, 63, 64, 65, 66, 67, 68, 69, 70, 71, 72, 73, 74, 75, 76, 77, 78, 79, 80, 81] rfl (by decide +kernel)
set_option maxRecDepth 20000 in
theorem gX6_rule_X6_loadOf : GoodIn wsX6_rule (wsV RX6 123 RX6 yX6_loadOf wsX6_loadOf) := goodIn_app (goodIn_of _ (by decide +kernel)) ggX6_rule_X6_loadOf
set_option maxRecDepth 20000 in
set_option maxRecDepth 20000 in
theorem ggX6_rule_X6_room : GoodIn wsX6_rule wsX6_room := goodIn_r _ [22, 9, 23, 10, 53, 54, 55, 56, 57, 58, 59, 60, 61, 62, 63, 64, 65, 66, 67, 68, 69, 70, 71, 72, 73, 74, 75, 76, 77, 78, 79, 80, 81] rfl (by decide +kernel)
set_option maxRecDepth 20000 in
theorem gX6_rule_X6_room : GoodIn wsX6_rule (wsV RX6 130 RX6 yX6_room wsX6_room) := goodIn_app (goodIn_of _ (by decide +kernel)) ggX6_rule_X6_room
set_option maxRecDepth 20000 in
set_option maxRecDepth 20000 in
theorem ggX6_rule_X6_setAt : GoodIn wsX6_rule wsX6_setAt := goodIn_r _ [27, 1, 53, 54, 55, 56, 57, 58, 59, 60, 61, 62, 63, 64, 65, 66, 67, 68, 69, 70, 71, 72, 73, 74, 75, 76, 77, 78, 79, 80, 81] rfl (by decide +kernel)
set_option maxRecDepth 20000 in
theorem gX6_rule_X6_setAt : GoodIn wsX6_rule (wsV RX6 126 RX6 yX6_setAt wsX6_setAt) := goodIn_app (goodIn_of _ (by decide +kernel)) ggX6_rule_X6_setAt
set_option maxRecDepth 20000 in
set_option maxRecDepth 20000 in
theorem ggX6_rule_X6_nextBy : GoodIn wsX6_rule wsX6_nextBy := goodIn_r _ [31, 2, 1, 9, 32, 33, 34, 7, 35, 24, 25, 26, 27, 36, 37, 38, 39, 40, 16, 17, 18, 41, 42, 43, 44, 4, 5, 6, 8, 10, 11, 12, 13, 14, 15, 19, 20, 21, 22, 23, 45, 46, 47, 48, 53, 54, 55, 56, 57, 58, 59, 60, 61, 62, 63, 64, 65, 66, 67, 68, 69, 70, 71, 72, 73, 74, 75, 76, 77, 78, 79, 80, 81] rfl (by decide +kernel)
set_option maxRecDepth 20000 in
theorem gX6_rule_X6_nextBy : GoodIn wsX6_rule (wsV RX6 185 RX6 yX6_nextBy wsX6_nextBy) := goodIn_app (goodIn_of _ (by decide +kernel)) ggX6_rule_X6_nextBy
set_option maxRecDepth 20000 in
set_option maxRecDepth 20000 in
theorem ggX6_rule_X6_lengthOf : GoodIn wsX6_rule wsX6_lengthOf := goodIn_r _ [52, 1, 53, 54, 55, 56, 57, 58, 59, 60, 61, 62, 63, 64, 65, 66, 67, 68, 69, 70, 71, 72, 73, 74, 75, 76, 77, 78, 79, 80, 81] rfl (by decide +kernel)
set_option maxRecDepth 20000 in
theorem gX6_rule_X6_lengthOf : GoodIn wsX6_rule (wsV RX6 145 RX6 yX6_lengthOf wsX6_lengthOf) := goodIn_app (goodIn_of _ (by decide +kernel)) ggX6_rule_X6_lengthOf
theorem dX6_rule_0 : decode cX6_rule 0 = .ok (.iload_n 1, 1) := by decide +kernel
theorem dX6_rule_1 : decode cX6_rule 1 = .ok (.ifCond .lt 8, 3) := by decide +kernel
theorem dX6_rule_4 : decode cX6_rule 4 = .ok (.iload_n 1, 1) := by decide +kernel
theorem dX6_rule_5 : decode cX6_rule 5 = .ok (.iconst 3, 1) := by decide +kernel
theorem dX6_rule_6 : decode cX6_rule 6 = .ok (.if_icmp .le 6, 3) := by decide +kernel
theorem dX6_rule_9 : decode cX6_rule 9 = .ok (.bipush (-2), 2) := by decide +kernel
theorem dX6_rule_11 : decode cX6_rule 11 = .ok (.ireturn, 1) := by decide +kernel
theorem dX6_rule_12 : decode cX6_rule 12 = .ok (.iconst 0, 1) := by decide +kernel
theorem dX6_rule_13 : decode cX6_rule 13 = .ok (.istore_n 2, 1) := by decide +kernel
theorem dX6_rule_14 : decode cX6_rule 14 = .ok (.iload_n 2, 1) := by decide +kernel
theorem dX6_rule_15 : decode cX6_rule 15 = .ok (.aload_n 0, 1) := by decide +kernel
theorem dX6_rule_16 : decode cX6_rule 16 = .ok (.getfield 85, 3) := by decide +kernel
theorem dX6_rule_19 : decode cX6_rule 19 = .ok (.if_icmp .ge 33, 3) := by decide +kernel
theorem dX6_rule_22 : decode cX6_rule 22 = .ok (.aload_n 0, 1) := by decide +kernel
theorem dX6_rule_23 : decode cX6_rule 23 = .ok (.getfield 76, 3) := by decide +kernel
theorem dX6_rule_26 : decode cX6_rule 26 = .ok (.iload_n 2, 1) := by decide +kernel
theorem dX6_rule_27 : decode cX6_rule 27 = .ok (.iconst 0, 1) := by decide +kernel
theorem dX6_rule_28 : decode cX6_rule 28 = .ok (.iastore, 1) := by decide +kernel
theorem dX6_rule_29 : decode cX6_rule 29 = .ok (.aload_n 0, 1) := by decide +kernel
theorem dX6_rule_30 : decode cX6_rule 30 = .ok (.iconst 1, 1) := by decide +kernel
theorem dX6_rule_31 : decode cX6_rule 31 = .ok (.iload_n 2, 1) := by decide +kernel
theorem dX6_rule_32 : decode cX6_rule 32 = .ok (.ishl, 1) := by decide +kernel
theorem dX6_rule_33 : decode cX6_rule 33 = .ok (.invokevirtual 123, 3) := by decide +kernel
theorem dX6_rule_36 : decode cX6_rule 36 = .ok (.aload_n 0, 1) := by decide +kernel
theorem dX6_rule_37 : decode cX6_rule 37 = .ok (.invokevirtual 130, 3) := by decide +kernel
theorem dX6_rule_40 : decode cX6_rule 40 = .ok (.if_icmp .le 6, 3) := by decide +kernel
theorem dX6_rule_43 : decode cX6_rule 43 = .ok (.bipush (-4), 2) := by decide +kernel
theorem dX6_rule_45 : decode cX6_rule 45 = .ok (.ireturn, 1) := by decide +kernel
theorem dX6_rule_46 : decode cX6_rule 46 = .ok (.iinc 2 1, 3) := by decide +kernel
theorem dX6_rule_49 : decode cX6_rule 49 = .ok (.goto (-35), 3) := by decide +kernel
theorem dX6_rule_52 : decode cX6_rule 52 = .ok (.iconst 1, 1) := by decide +kernel
theorem dX6_rule_53 : decode cX6_rule 53 = .ok (.istore_n 2, 1) := by decide +kernel
theorem dX6_rule_54 : decode cX6_rule 54 = .ok (.aload_n 0, 1) := by decide +kernel
theorem dX6_rule_55 : decode cX6_rule 55 = .ok (.aload_n 0, 1) := by decide +kernel
theorem dX6_rule_56 : decode cX6_rule 56 = .ok (.getfield 76, 3) := by decide +kernel
theorem dX6_rule_59 : decode cX6_rule 59 = .ok (.iconst 0, 1) := by decide +kernel
theorem dX6_rule_60 : decode cX6_rule 60 = .ok (.invokevirtual 126, 3) := by decide +kernel
theorem dX6_rule_63 : decode cX6_rule 63 = .ok (.ifCond .eq 39, 3) := by decide +kernel
theorem dX6_rule_66 : decode cX6_rule 66 = .ok (.aload_n 0, 1) := by decide +kernel
theorem dX6_rule_67 : decode cX6_rule 67 = .ok (.iload_n 1, 1) := by decide +kernel
theorem dX6_rule_68 : decode cX6_rule 68 = .ok (.iload_n 2, 1) := by decide +kernel
theorem dX6_rule_69 : decode cX6_rule 69 = .ok (.invokevirtual 185, 3) := by decide +kernel
theorem dX6_rule_72 : decode cX6_rule 72 = .ok (.istore_n 3, 1) := by decide +kernel
theorem dX6_rule_73 : decode cX6_rule 73 = .ok (.iload_n 3, 1) := by decide +kernel
theorem dX6_rule_74 : decode cX6_rule 74 = .ok (.ifCond .lt 13, 3) := by decide +kernel
theorem dX6_rule_77 : decode cX6_rule 77 = .ok (.aload_n 0, 1) := by decide +kernel
theorem dX6_rule_78 : decode cX6_rule 78 = .ok (.getfield 76, 3) := by decide +kernel
theorem dX6_rule_81 : decode cX6_rule 81 = .ok (.iload_n 3, 1) := by decide +kernel
theorem dX6_rule_82 : decode cX6_rule 82 = .ok (.iload_n 2, 1) := by decide +kernel
theorem dX6_rule_83 : decode cX6_rule 83 = .ok (.iastore, 1) := by decide +kernel
theorem dX6_rule_84 : decode cX6_rule 84 = .ok (.goto 15, 3) := by decide +kernel
theorem dX6_rule_87 : decode cX6_rule 87 = .ok (.iload_n 2, 1) := by decide +kernel
theorem dX6_rule_88 : decode cX6_rule 88 = .ok (.bipush 10, 2) := by decide +kernel
theorem dX6_rule_90 : decode cX6_rule 90 = .ok (.if_icmp .ne 6, 3) := by decide +kernel
theorem dX6_rule_93 : decode cX6_rule 93 = .ok (.bipush (-4), 2) := by decide +kernel
theorem dX6_rule_95 : decode cX6_rule 95 = .ok (.ireturn, 1) := by decide +kernel
theorem dX6_rule_96 : decode cX6_rule 96 = .ok (.iinc 2 1, 3) := by decide +kernel
theorem dX6_rule_99 : decode cX6_rule 99 = .ok (.goto (-45), 3) := by decide +kernel
theorem dX6_rule_102 : decode cX6_rule 102 = .ok (.iconst 0, 1) := by decide +kernel
theorem dX6_rule_103 : decode cX6_rule 103 = .ok (.istore_n 3, 1) := by decide +kernel
theorem dX6_rule_104 : decode cX6_rule 104 = .ok (.iload_n 3, 1) := by decide +kernel
theorem dX6_rule_105 : decode cX6_rule 105 = .ok (.aload_n 0, 1) := by decide +kernel
theorem dX6_rule_106 : decode cX6_rule 106 = .ok (.getfield 85, 3) := by decide +kernel
theorem dX6_rule_109 : decode cX6_rule 109 = .ok (.if_icmp .ge 21, 3) := by decide +kernel
theorem dX6_rule_112 : decode cX6_rule 112 = .ok (.aload_n 0, 1) := by decide +kernel
theorem dX6_rule_113 : decode cX6_rule 113 = .ok (.getfield 25, 3) := by decide +kernel
theorem dX6_rule_116 : decode cX6_rule 116 = .ok (.iload_n 3, 1) := by decide +kernel
theorem dX6_rule_117 : decode cX6_rule 117 = .ok (.aload_n 0, 1) := by decide +kernel
theorem dX6_rule_118 : decode cX6_rule 118 = .ok (.getfield 76, 3) := by decide +kernel
theorem dX6_rule_121 : decode cX6_rule 121 = .ok (.iload_n 3, 1) := by decide +kernel
theorem dX6_rule_122 : decode cX6_rule 122 = .ok (.iaload, 1) := by decide +kernel
theorem dX6_rule_123 : decode cX6_rule 123 = .ok (.iastore, 1) := by decide +kernel
theorem dX6_rule_124 : decode cX6_rule 124 = .ok (.iinc 3 1, 3) := by decide +kernel
theorem dX6_rule_127 : decode cX6_rule 127 = .ok (.goto (-23), 3) := by decide +kernel
theorem dX6_rule_130 : decode cX6_rule 130 = .ok (.aload_n 0, 1) := by decide +kernel
theorem dX6_rule_131 : decode cX6_rule 131 = .ok (.aload_n 0, 1) := by decide +kernel
theorem dX6_rule_132 : decode cX6_rule 132 = .ok (.getfield 25, 3) := by decide +kernel
theorem dX6_rule_135 : decode cX6_rule 135 = .ok (.invokevirtual 145, 3) := by decide +kernel
theorem dX6_rule_138 : decode cX6_rule 138 = .ok (.ireturn, 1) := by decide +kernel
set_option maxRecDepth 20000 in
set_option maxRecDepth 20000 in
theorem ggX6_betters_X6_squaresOf : GoodIn wsX6_betters wsX6_squaresOf := goodIn_r _ [7, 8, 9, 10, 6, 11, 2, 12, 13, 14, 15, 16, 17, 18, 19, 20, 21, 22, 23, 24, 25, 58, 59, 60, 61, 62, 63, 64, 65, 66, 67, 68, 69, 70, 71, 72, 73, 74, 75, 76, 77, 78, 79, 80, 81, 82, 83, 84, 85, 86] rfl (by decide +kernel)
set_option maxRecDepth 20000 in
theorem gX6_betters_X6_squaresOf : GoodIn wsX6_betters (wsV RX6 148 RX6 yX6_squaresOf wsX6_squaresOf) := goodIn_app (goodIn_of _ (by decide +kernel)) ggX6_betters_X6_squaresOf
set_option maxRecDepth 20000 in
set_option maxRecDepth 20000 in
theorem ggX6_betters_X6_lengthOf : GoodIn wsX6_betters wsX6_lengthOf := goodIn_r _ [29, 2, 58, 59, 60, 61, 62, 63, 64, 65, 66, 67, 68, 69, 70, 71, 72, 73, 74, 75, 76, 77, 78, 79, 80, 81, 82, 83, 84, 85, 86] rfl (by decide +kernel)
set_option maxRecDepth 20000 in
theorem gX6_betters_X6_lengthOf : GoodIn wsX6_betters (wsV RX6 145 RX6 yX6_lengthOf wsX6_lengthOf) := goodIn_app (goodIn_of _ (by decide +kernel)) ggX6_betters_X6_lengthOf
set_option maxRecDepth 20000 in
set_option maxRecDepth 20000 in
theorem ggX6_betters_X6_clashIn : GoodIn wsX6_betters wsX6_clashIn := goodIn_r _ [33, 2, 34, 35, 36, 6, 37, 38, 39, 16, 8, 9, 10, 11, 12, 13, 14, 15, 17, 18, 19, 20, 21, 22, 23, 24, 25, 40, 41, 42, 43, 44, 45, 46, 47, 48, 49, 50, 51, 52, 53, 54, 55, 56, 57, 58, 59, 60, 61, 62, 63, 64, 65, 66, 67, 68, 69, 70, 71, 72, 73, 74, 75, 76, 77, 78, 79, 80, 81, 82, 83, 84, 85, 86] rfl (by decide +kernel)
set_option maxRecDepth 20000 in
theorem gX6_betters_X6_clashIn : GoodIn wsX6_betters (wsV RX6 141 RX6 yX6_clashIn wsX6_clashIn) := goodIn_app (goodIn_of _ (by decide +kernel)) ggX6_betters_X6_clashIn
theorem dX6_betters_0 : decode cX6_betters 0 = .ok (.aload_n 0, 1) := by decide +kernel
theorem dX6_betters_1 : decode cX6_betters 1 = .ok (.aload_n 0, 1) := by decide +kernel
theorem dX6_betters_2 : decode cX6_betters 2 = .ok (.getfield 25, 3) := by decide +kernel
theorem dX6_betters_5 : decode cX6_betters 5 = .ok (.invokevirtual 148, 3) := by decide +kernel
theorem dX6_betters_8 : decode cX6_betters 8 = .ok (.lstore_n 1, 1) := by decide +kernel
theorem dX6_betters_9 : decode cX6_betters 9 = .ok (.aload_n 0, 1) := by decide +kernel
theorem dX6_betters_10 : decode cX6_betters 10 = .ok (.aload_n 0, 1) := by decide +kernel
theorem dX6_betters_11 : decode cX6_betters 11 = .ok (.getfield 25, 3) := by decide +kernel
theorem dX6_betters_14 : decode cX6_betters 14 = .ok (.invokevirtual 145, 3) := by decide +kernel
theorem dX6_betters_17 : decode cX6_betters 17 = .ok (.istore_n 3, 1) := by decide +kernel
theorem dX6_betters_18 : decode cX6_betters 18 = .ok (.iconst 0, 1) := by decide +kernel
theorem dX6_betters_19 : decode cX6_betters 19 = .ok (.istore 4, 2) := by decide +kernel
theorem dX6_betters_21 : decode cX6_betters 21 = .ok (.iload 4, 2) := by decide +kernel
theorem dX6_betters_23 : decode cX6_betters 23 = .ok (.aload_n 0, 1) := by decide +kernel
theorem dX6_betters_24 : decode cX6_betters 24 = .ok (.getfield 85, 3) := by decide +kernel
theorem dX6_betters_27 : decode cX6_betters 27 = .ok (.if_icmp .ge 77, 3) := by decide +kernel
theorem dX6_betters_30 : decode cX6_betters 30 = .ok (.aload_n 0, 1) := by decide +kernel
theorem dX6_betters_31 : decode cX6_betters 31 = .ok (.getfield 25, 3) := by decide +kernel
theorem dX6_betters_34 : decode cX6_betters 34 = .ok (.iload 4, 2) := by decide +kernel
theorem dX6_betters_36 : decode cX6_betters 36 = .ok (.iaload, 1) := by decide +kernel
theorem dX6_betters_37 : decode cX6_betters 37 = .ok (.istore 5, 2) := by decide +kernel
theorem dX6_betters_39 : decode cX6_betters 39 = .ok (.iconst 1, 1) := by decide +kernel
theorem dX6_betters_40 : decode cX6_betters 40 = .ok (.istore 6, 2) := by decide +kernel
theorem dX6_betters_42 : decode cX6_betters 42 = .ok (.iload 6, 2) := by decide +kernel
theorem dX6_betters_44 : decode cX6_betters 44 = .ok (.iload_n 3, 1) := by decide +kernel
theorem dX6_betters_45 : decode cX6_betters 45 = .ok (.if_icmp .gt 44, 3) := by decide +kernel
theorem dX6_betters_48 : decode cX6_betters 48 = .ok (.aload_n 0, 1) := by decide +kernel
theorem dX6_betters_49 : decode cX6_betters 49 = .ok (.getfield 25, 3) := by decide +kernel
theorem dX6_betters_52 : decode cX6_betters 52 = .ok (.iload 4, 2) := by decide +kernel
theorem dX6_betters_54 : decode cX6_betters 54 = .ok (.iload 6, 2) := by decide +kernel
theorem dX6_betters_56 : decode cX6_betters 56 = .ok (.iastore, 1) := by decide +kernel
theorem dX6_betters_57 : decode cX6_betters 57 = .ok (.aload_n 0, 1) := by decide +kernel
theorem dX6_betters_58 : decode cX6_betters 58 = .ok (.aload_n 0, 1) := by decide +kernel
theorem dX6_betters_59 : decode cX6_betters 59 = .ok (.getfield 25, 3) := by decide +kernel
theorem dX6_betters_62 : decode cX6_betters 62 = .ok (.invokevirtual 148, 3) := by decide +kernel
theorem dX6_betters_65 : decode cX6_betters 65 = .ok (.lload_n 1, 1) := by decide +kernel
theorem dX6_betters_66 : decode cX6_betters 66 = .ok (.lcmp, 1) := by decide +kernel
theorem dX6_betters_67 : decode cX6_betters 67 = .ok (.ifCond .ge 16, 3) := by decide +kernel
theorem dX6_betters_70 : decode cX6_betters 70 = .ok (.aload_n 0, 1) := by decide +kernel
theorem dX6_betters_71 : decode cX6_betters 71 = .ok (.aload_n 0, 1) := by decide +kernel
theorem dX6_betters_72 : decode cX6_betters 72 = .ok (.getfield 25, 3) := by decide +kernel
theorem dX6_betters_75 : decode cX6_betters 75 = .ok (.invokevirtual 141, 3) := by decide +kernel
theorem dX6_betters_78 : decode cX6_betters 78 = .ok (.ifCond .ge 5, 3) := by decide +kernel
theorem dX6_betters_81 : decode cX6_betters 81 = .ok (.iconst 1, 1) := by decide +kernel
theorem dX6_betters_82 : decode cX6_betters 82 = .ok (.ireturn, 1) := by decide +kernel
theorem dX6_betters_83 : decode cX6_betters 83 = .ok (.iinc 6 1, 3) := by decide +kernel
theorem dX6_betters_86 : decode cX6_betters 86 = .ok (.goto (-44), 3) := by decide +kernel
theorem dX6_betters_89 : decode cX6_betters 89 = .ok (.aload_n 0, 1) := by decide +kernel
theorem dX6_betters_90 : decode cX6_betters 90 = .ok (.getfield 25, 3) := by decide +kernel
theorem dX6_betters_93 : decode cX6_betters 93 = .ok (.iload 4, 2) := by decide +kernel
theorem dX6_betters_95 : decode cX6_betters 95 = .ok (.iload 5, 2) := by decide +kernel
theorem dX6_betters_97 : decode cX6_betters 97 = .ok (.iastore, 1) := by decide +kernel
theorem dX6_betters_98 : decode cX6_betters 98 = .ok (.iinc 4 1, 3) := by decide +kernel
theorem dX6_betters_101 : decode cX6_betters 101 = .ok (.goto (-80), 3) := by decide +kernel
theorem dX6_betters_104 : decode cX6_betters 104 = .ok (.iconst 0, 1) := by decide +kernel
theorem dX6_betters_105 : decode cX6_betters 105 = .ok (.ireturn, 1) := by decide +kernel
set_option maxRecDepth 20000 in
set_option maxRecDepth 20000 in
theorem ggX6_better_X6_clash : GoodIn wsX6_better wsX6_clash := goodIn_r _ [5, 6, 7, 8, 9, 4, 10, 11, 12, 13, 14, 15, 16, 17, 18, 19, 20, 21, 22, 23, 24, 25, 26, 27, 28, 29, 30, 31, 32, 33, 34, 35, 36, 37, 38, 39, 40, 41, 42, 43, 44, 45, 46, 47, 48, 49, 50, 51, 52, 53, 66, 67, 68, 69, 70, 71, 72, 73, 74, 75, 76, 77, 78, 79, 80, 81, 82, 83, 84, 85, 86, 87, 88, 89, 90, 91, 92, 93, 94] rfl (by decide +kernel)
set_option maxRecDepth 20000 in
theorem gX6_better_X6_clash : GoodIn wsX6_better (wsV RX6 188 RX6 yX6_clash wsX6_clash) := goodIn_app (goodIn_of _ (by decide +kernel)) ggX6_better_X6_clash
set_option maxRecDepth 20000 in
set_option maxRecDepth 20000 in
theorem ggX6_better_X6_betters : GoodIn wsX6_better wsX6_betters := goodIn_r _ [57, 6, 11, 58, 59, 60, 4, 61, 19, 20, 21, 22, 23, 24, 25, 26, 18, 27, 28, 29, 30, 31, 32, 33, 34, 35, 62, 63, 64, 65, 7, 8, 9, 10, 12, 13, 14, 15, 16, 17, 36, 37, 38, 39, 40, 41, 42, 43, 44, 45, 46, 47, 48, 49, 50, 51, 52, 53, 66, 67, 68, 69, 70, 71, 72, 73, 74, 75, 76, 77, 78, 79, 80, 81, 82, 83, 84, 85, 86, 87, 88, 89, 90, 91, 92, 93, 94] rfl (by decide +kernel)
set_option maxRecDepth 20000 in
theorem gX6_better_X6_betters : GoodIn wsX6_better (wsV RX6 191 RX6 yX6_betters wsX6_betters) := goodIn_app (goodIn_of _ (by decide +kernel)) ggX6_better_X6_betters
theorem dX6_better_0 : decode cX6_better 0 = .ok (.aload_n 0, 1) := by decide +kernel
theorem dX6_better_1 : decode cX6_better 1 = .ok (.invokevirtual 188, 3) := by decide +kernel
theorem dX6_better_4 : decode cX6_better 4 = .ok (.ifCond .lt 6, 3) := by decide +kernel
theorem dX6_better_7 : decode cX6_better 7 = .ok (.bipush (-4), 2) := by decide +kernel
theorem dX6_better_9 : decode cX6_better 9 = .ok (.ireturn, 1) := by decide +kernel
theorem dX6_better_10 : decode cX6_better 10 = .ok (.iconst 0, 1) := by decide +kernel
theorem dX6_better_11 : decode cX6_better 11 = .ok (.istore_n 1, 1) := by decide +kernel
theorem dX6_better_12 : decode cX6_better 12 = .ok (.aload_n 0, 1) := by decide +kernel
theorem dX6_better_13 : decode cX6_better 13 = .ok (.invokevirtual 191, 3) := by decide +kernel
theorem dX6_better_16 : decode cX6_better 16 = .ok (.ifCond .eq 9, 3) := by decide +kernel
theorem dX6_better_19 : decode cX6_better 19 = .ok (.iinc 1 1, 3) := by decide +kernel
theorem dX6_better_22 : decode cX6_better 22 = .ok (.goto (-10), 3) := by decide +kernel
theorem dX6_better_25 : decode cX6_better 25 = .ok (.iload_n 1, 1) := by decide +kernel
theorem dX6_better_26 : decode cX6_better 26 = .ok (.ireturn, 1) := by decide +kernel
