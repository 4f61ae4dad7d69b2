theorem dX3_init_0 : decode cX3_init 0 = .ok (.aload_n 0, 1) := by decide +kernel
theorem dX3_init_1 : decode cX3_init 1 = .ok (.invokespecial 3, 3) := by decide +kernel
theorem dX3_init_4 : decode cX3_init 4 = .ok (.aload_n 0, 1) := by decide +kernel
theorem dX3_init_5 : decode cX3_init 5 = .ok (.iconst 0, 1) := by decide +kernel
theorem dX3_init_6 : decode cX3_init 6 = .ok (.putfield 9, 3) := by decide +kernel
theorem dX3_init_9 : decode cX3_init 9 = .ok (.aload_n 0, 1) := by decide +kernel
theorem dX3_init_10 : decode cX3_init 10 = .ok (.sipush 1024, 3) := by decide +kernel
theorem dX3_init_13 : decode cX3_init 13 = .ok (.newarray .int, 2) := by decide +kernel
theorem dX3_init_15 : decode cX3_init 15 = .ok (.putfield 15, 3) := by decide +kernel
theorem dX3_init_18 : decode cX3_init 18 = .ok (.aload_n 0, 1) := by decide +kernel
theorem dX3_init_19 : decode cX3_init 19 = .ok (.sipush 1024, 3) := by decide +kernel
theorem dX3_init_22 : decode cX3_init 22 = .ok (.newarray .boolean, 2) := by decide +kernel
theorem dX3_init_24 : decode cX3_init 24 = .ok (.putfield 19, 3) := by decide +kernel
theorem dX3_init_27 : decode cX3_init 27 = .ok (.aload_n 0, 1) := by decide +kernel
theorem dX3_init_28 : decode cX3_init 28 = .ok (.sipush 1024, 3) := by decide +kernel
theorem dX3_init_31 : decode cX3_init 31 = .ok (.newarray .int, 2) := by decide +kernel
theorem dX3_init_33 : decode cX3_init 33 = .ok (.putfield 23, 3) := by decide +kernel
theorem dX3_init_36 : decode cX3_init 36 = .ok (.aload_n 0, 1) := by decide +kernel
theorem dX3_init_37 : decode cX3_init 37 = .ok (.sipush 1024, 3) := by decide +kernel
theorem dX3_init_40 : decode cX3_init 40 = .ok (.newarray .int, 2) := by decide +kernel
theorem dX3_init_42 : decode cX3_init 42 = .ok (.putfield 26, 3) := by decide +kernel
theorem dX3_init_45 : decode cX3_init 45 = .ok (.aload_n 0, 1) := by decide +kernel
theorem dX3_init_46 : decode cX3_init 46 = .ok (.sipush 1024, 3) := by decide +kernel
theorem dX3_init_49 : decode cX3_init 49 = .ok (.newarray .int, 2) := by decide +kernel
theorem dX3_init_51 : decode cX3_init 51 = .ok (.putfield 29, 3) := by decide +kernel
theorem dX3_init_54 : decode cX3_init 54 = .ok (.aload_n 0, 1) := by decide +kernel
theorem dX3_init_55 : decode cX3_init 55 = .ok (.sipush 1024, 3) := by decide +kernel
theorem dX3_init_58 : decode cX3_init 58 = .ok (.newarray .int, 2) := by decide +kernel
theorem dX3_init_60 : decode cX3_init 60 = .ok (.putfield 32, 3) := by decide +kernel
theorem dX3_init_63 : decode cX3_init 63 = .ok (.aload_n 0, 1) := by decide +kernel
theorem dX3_init_64 : decode cX3_init 64 = .ok (.sipush 1024, 3) := by decide +kernel
theorem dX3_init_67 : decode cX3_init 67 = .ok (.newarray .int, 2) := by decide +kernel
theorem dX3_init_69 : decode cX3_init 69 = .ok (.putfield 35, 3) := by decide +kernel
theorem dX3_init_72 : decode cX3_init 72 = .ok (.aload_n 0, 1) := by decide +kernel
theorem dX3_init_73 : decode cX3_init 73 = .ok (.bipush 11, 2) := by decide +kernel
theorem dX3_init_75 : decode cX3_init 75 = .ok (.sipush 1024, 3) := by decide +kernel
theorem dX3_init_78 : decode cX3_init 78 = .ok (.multianewarray 38 2, 4) := by decide +kernel
theorem dX3_init_82 : decode cX3_init 82 = .ok (.putfield 40, 3) := by decide +kernel
theorem dX3_init_85 : decode cX3_init 85 = .ok (.aload_n 0, 1) := by decide +kernel
theorem dX3_init_86 : decode cX3_init 86 = .ok (.iconst 2, 1) := by decide +kernel
theorem dX3_init_87 : decode cX3_init 87 = .ok (.sipush 1024, 3) := by decide +kernel
theorem dX3_init_90 : decode cX3_init 90 = .ok (.multianewarray 38 2, 4) := by decide +kernel
theorem dX3_init_94 : decode cX3_init 94 = .ok (.putfield 43, 3) := by decide +kernel
theorem dX3_init_97 : decode cX3_init 97 = .ok (.aload_n 0, 1) := by decide +kernel
theorem dX3_init_98 : decode cX3_init 98 = .ok (.aload_n 1, 1) := by decide +kernel
theorem dX3_init_99 : decode cX3_init 99 = .ok (.putfield 46, 3) := by decide +kernel
theorem dX3_init_102 : decode cX3_init 102 = .ok (.return_, 1) := by decide +kernel
set_option maxRecDepth 20000 in
set_option maxRecDepth 20000 in
theorem ggX3_leastLength_X3_prepare : GoodIn wsX3_leastLength wsX3_prepare := goodIn_r _ [6, 1, 7, 8, 9, 10, 11, 12, 13, 14, 15, 16, 17, 5, 18, 19, 20, 21, 22, 23, 24, 25, 26, 27, 28, 29, 30, 31, 32, 33, 34, 35, 36, 37, 38, 39, 40, 41, 42, 43, 44, 45, 46, 47, 48, 49, 50, 51, 52, 53, 54, 55, 56, 57, 58, 59, 60, 61, 62, 63, 64, 65, 85, 86, 87, 88, 89, 90, 91, 92, 93, 94, 95, 96, 97, 98, 99, 100, 101, 102, 103, 104, 105, 106] rfl (by decide +kernel)
set_option maxRecDepth 20000 in
theorem gX3_leastLength_X3_prepare : GoodIn wsX3_leastLength (wsV RX3 50 RX3 yX3_prepare wsX3_prepare) := goodIn_app (goodIn_of _ (by decide +kernel)) ggX3_leastLength_X3_prepare
set_option maxRecDepth 20000 in
set_option maxRecDepth 20000 in
theorem ggX3_leastLength_X0_room : GoodIn wsX3_leastLength wsX0_room := goodIn_r _ [69, 28, 70, 71, 72, 73, 12, 74, 29, 96, 97, 98, 99, 100, 101, 102, 103, 104, 105, 106] rfl (by decide +kernel)
set_option maxRecDepth 20000 in
theorem gX3_leastLength_X0_room : GoodIn wsX3_leastLength (wsV RX3 53 RX0 yX0_room wsX0_room) := goodIn_app (goodIn_of _ (by decide +kernel)) ggX3_leastLength_X0_room
set_option maxRecDepth 20000 in
set_option maxRecDepth 20000 in
theorem ggX3_leastLength_X3_lengthWithin : GoodIn wsX3_leastLength wsX3_lengthWithin := goodIn_r _ [78, 7, 79, 19, 49, 80, 81, 82, 83, 5, 84, 8, 85, 86, 87, 88, 89, 90, 91, 92, 93, 94, 95] rfl (by decide +kernel)
set_option maxRecDepth 20000 in
theorem gX3_leastLength_X3_lengthWithin : GoodIn wsX3_leastLength (wsV RX3 59 RX3 yX3_lengthWithin wsX3_lengthWithin) := goodIn_app (goodIn_of _ (by decide +kernel)) ggX3_leastLength_X3_lengthWithin
theorem dX3_leastLength_0 : decode cX3_leastLength 0 = .ok (.aload_n 0, 1) := by decide +kernel
theorem dX3_leastLength_1 : decode cX3_leastLength 1 = .ok (.invokevirtual 50, 3) := by decide +kernel
theorem dX3_leastLength_4 : decode cX3_leastLength 4 = .ok (.aload_n 0, 1) := by decide +kernel
theorem dX3_leastLength_5 : decode cX3_leastLength 5 = .ok (.aload_n 0, 1) := by decide +kernel
theorem dX3_leastLength_6 : decode cX3_leastLength 6 = .ok (.getfield 46, 3) := by decide +kernel
theorem dX3_leastLength_9 : decode cX3_leastLength 9 = .ok (.invokevirtual 53, 3) := by decide +kernel
theorem dX3_leastLength_12 : decode cX3_leastLength 12 = .ok (.invokevirtual 59, 3) := by decide +kernel
theorem dX3_leastLength_15 : decode cX3_leastLength 15 = .ok (.istore_n 1, 1) := by decide +kernel
theorem dX3_leastLength_16 : decode cX3_leastLength 16 = .ok (.iload_n 1, 1) := by decide +kernel
theorem dX3_leastLength_17 : decode cX3_leastLength 17 = .ok (.bipush 10, 2) := by decide +kernel
theorem dX3_leastLength_19 : decode cX3_leastLength 19 = .ok (.if_icmp .le 8, 3) := by decide +kernel
theorem dX3_leastLength_22 : decode cX3_leastLength 22 = .ok (.bipush (-4), 2) := by decide +kernel
theorem dX3_leastLength_24 : decode cX3_leastLength 24 = .ok (.goto 4, 3) := by decide +kernel
theorem dX3_leastLength_27 : decode cX3_leastLength 27 = .ok (.iload_n 1, 1) := by decide +kernel
theorem dX3_leastLength_28 : decode cX3_leastLength 28 = .ok (.ireturn, 1) := by decide +kernel
set_option maxRecDepth 20000 in
set_option maxRecDepth 20000 in
theorem ggX3_leastBeatFor_X3_prepare : GoodIn wsX3_leastBeatFor wsX3_prepare := goodIn_r _ [12, 1, 3, 13, 14, 15, 16, 17, 18, 19, 20, 21, 22, 11, 23, 2, 24, 25, 26, 27, 28, 29, 30, 31, 32, 33, 34, 35, 36, 37, 38, 39, 40, 41, 42, 43, 44, 45, 5, 6, 7, 46, 47, 48, 49, 50, 51, 52, 53, 54, 55, 56, 57, 58, 59, 60, 61, 62, 63, 64, 65, 66, 88, 89, 90, 91, 92, 93, 94, 95, 96, 97, 98, 99, 100, 101, 102, 103, 104, 105, 106, 107, 108, 109] rfl (by decide +kernel)
set_option maxRecDepth 20000 in
theorem gX3_leastBeatFor_X3_prepare : GoodIn wsX3_leastBeatFor (wsV RX3 50 RX3 yX3_prepare wsX3_prepare) := goodIn_app (goodIn_of _ (by decide +kernel)) ggX3_leastBeatFor_X3_prepare
set_option maxRecDepth 20000 in
set_option maxRecDepth 20000 in
theorem ggX3_leastBeatFor_X0_roomOfOneBeat : GoodIn wsX3_leastBeatFor wsX0_roomOfOneBeat := goodIn_r _ [70, 32, 71, 72, 73, 17, 74, 33, 99, 100, 101, 102, 103, 104, 105, 106, 107, 108, 109] rfl (by decide +kernel)
set_option maxRecDepth 20000 in
theorem gX3_leastBeatFor_X0_roomOfOneBeat : GoodIn wsX3_leastBeatFor (wsV RX3 63 RX0 yX0_roomOfOneBeat wsX0_roomOfOneBeat) := goodIn_app (goodIn_of _ (by decide +kernel)) ggX3_leastBeatFor_X0_roomOfOneBeat
set_option maxRecDepth 20000 in
set_option maxRecDepth 20000 in
theorem ggX3_leastBeatFor_X5_takenUp : GoodIn wsX3_leastBeatFor wsX5_takenUp := goodIn_r _ [77] rfl (by decide +kernel)
set_option maxRecDepth 20000 in
theorem gX3_leastBeatFor_X5_takenUp_n66 : GoodIn wsX3_leastBeatFor (wsX5_takenUp) := ggX3_leastBeatFor_X5_takenUp
set_option maxRecDepth 20000 in
set_option maxRecDepth 20000 in
theorem ggX3_leastBeatFor_X3_lengthWithin : GoodIn wsX3_leastBeatFor wsX3_lengthWithin := goodIn_r _ [81, 3, 82, 2, 50, 83, 84, 85, 86, 11, 87, 13, 88, 89, 90, 91, 92, 93, 94, 95, 96, 97, 98] rfl (by decide +kernel)
set_option maxRecDepth 20000 in
theorem gX3_leastBeatFor_X3_lengthWithin : GoodIn wsX3_leastBeatFor (wsV RX3 59 RX3 yX3_lengthWithin wsX3_lengthWithin) := goodIn_app (goodIn_of _ (by decide +kernel)) ggX3_leastBeatFor_X3_lengthWithin
theorem dX3_leastBeatFor_0 : decode cX3_leastBeatFor 0 = .ok (.aload_n 0, 1) := by decide +kernel
theorem dX3_leastBeatFor_1 : decode cX3_leastBeatFor 1 = .ok (.invokevirtual 50, 3) := by decide +kernel
theorem dX3_leastBeatFor_4 : decode cX3_leastBeatFor 4 = .ok (.aload_n 0, 1) := by decide +kernel
theorem dX3_leastBeatFor_5 : decode cX3_leastBeatFor 5 = .ok (.getfield 46, 3) := by decide +kernel
theorem dX3_leastBeatFor_8 : decode cX3_leastBeatFor 8 = .ok (.invokevirtual 63, 3) := by decide +kernel
theorem dX3_leastBeatFor_11 : decode cX3_leastBeatFor 11 = .ok (.istore_n 2, 1) := by decide +kernel
theorem dX3_leastBeatFor_12 : decode cX3_leastBeatFor 12 = .ok (.iconst 1, 1) := by decide +kernel
theorem dX3_leastBeatFor_13 : decode cX3_leastBeatFor 13 = .ok (.aload_n 0, 1) := by decide +kernel
theorem dX3_leastBeatFor_14 : decode cX3_leastBeatFor 14 = .ok (.getfield 15, 3) := by decide +kernel
theorem dX3_leastBeatFor_17 : decode cX3_leastBeatFor 17 = .ok (.aload_n 0, 1) := by decide +kernel
theorem dX3_leastBeatFor_18 : decode cX3_leastBeatFor 18 = .ok (.getfield 9, 3) := by decide +kernel
theorem dX3_leastBeatFor_21 : decode cX3_leastBeatFor 21 = .ok (.iaload, 1) := by decide +kernel
theorem dX3_leastBeatFor_22 : decode cX3_leastBeatFor 22 = .ok (.iload_n 2, 1) := by decide +kernel
theorem dX3_leastBeatFor_23 : decode cX3_leastBeatFor 23 = .ok (.iload_n 1, 1) := by decide +kernel
theorem dX3_leastBeatFor_24 : decode cX3_leastBeatFor 24 = .ok (.imul, 1) := by decide +kernel
theorem dX3_leastBeatFor_25 : decode cX3_leastBeatFor 25 = .ok (.invokestatic 66, 3) := by decide +kernel
theorem dX3_leastBeatFor_28 : decode cX3_leastBeatFor 28 = .ok (.invokestatic 70, 3) := by decide +kernel
theorem dX3_leastBeatFor_31 : decode cX3_leastBeatFor 31 = .ok (.istore_n 3, 1) := by decide +kernel
theorem dX3_leastBeatFor_32 : decode cX3_leastBeatFor 32 = .ok (.iload_n 3, 1) := by decide +kernel
theorem dX3_leastBeatFor_33 : decode cX3_leastBeatFor 33 = .ok (.aload_n 0, 1) := by decide +kernel
theorem dX3_leastBeatFor_34 : decode cX3_leastBeatFor 34 = .ok (.getfield 15, 3) := by decide +kernel
theorem dX3_leastBeatFor_37 : decode cX3_leastBeatFor 37 = .ok (.aload_n 0, 1) := by decide +kernel
theorem dX3_leastBeatFor_38 : decode cX3_leastBeatFor 38 = .ok (.getfield 9, 3) := by decide +kernel
theorem dX3_leastBeatFor_41 : decode cX3_leastBeatFor 41 = .ok (.iaload, 1) := by decide +kernel
theorem dX3_leastBeatFor_42 : decode cX3_leastBeatFor 42 = .ok (.iload_n 2, 1) := by decide +kernel
theorem dX3_leastBeatFor_43 : decode cX3_leastBeatFor 43 = .ok (.invokestatic 66, 3) := by decide +kernel
theorem dX3_leastBeatFor_46 : decode cX3_leastBeatFor 46 = .ok (.invokestatic 70, 3) := by decide +kernel
theorem dX3_leastBeatFor_49 : decode cX3_leastBeatFor 49 = .ok (.istore 4, 2) := by decide +kernel
theorem dX3_leastBeatFor_51 : decode cX3_leastBeatFor 51 = .ok (.aload_n 0, 1) := by decide +kernel
theorem dX3_leastBeatFor_52 : decode cX3_leastBeatFor 52 = .ok (.iload 4, 2) := by decide +kernel
theorem dX3_leastBeatFor_54 : decode cX3_leastBeatFor 54 = .ok (.iload_n 2, 1) := by decide +kernel
theorem dX3_leastBeatFor_55 : decode cX3_leastBeatFor 55 = .ok (.imul, 1) := by decide +kernel
theorem dX3_leastBeatFor_56 : decode cX3_leastBeatFor 56 = .ok (.invokevirtual 59, 3) := by decide +kernel
theorem dX3_leastBeatFor_59 : decode cX3_leastBeatFor 59 = .ok (.iload_n 1, 1) := by decide +kernel
theorem dX3_leastBeatFor_60 : decode cX3_leastBeatFor 60 = .ok (.if_icmp .le 6, 3) := by decide +kernel
theorem dX3_leastBeatFor_63 : decode cX3_leastBeatFor 63 = .ok (.bipush (-4), 2) := by decide +kernel
theorem dX3_leastBeatFor_65 : decode cX3_leastBeatFor 65 = .ok (.ireturn, 1) := by decide +kernel
theorem dX3_leastBeatFor_66 : decode cX3_leastBeatFor 66 = .ok (.iconst 0, 1) := by decide +kernel
theorem dX3_leastBeatFor_67 : decode cX3_leastBeatFor 67 = .ok (.istore 5, 2) := by decide +kernel
theorem dX3_leastBeatFor_69 : decode cX3_leastBeatFor 69 = .ok (.iload 5, 2) := by decide +kernel
theorem dX3_leastBeatFor_71 : decode cX3_leastBeatFor 71 = .ok (.sipush 1000, 3) := by decide +kernel
theorem dX3_leastBeatFor_74 : decode cX3_leastBeatFor 74 = .ok (.if_icmp .ge 47, 3) := by decide +kernel
theorem dX3_leastBeatFor_77 : decode cX3_leastBeatFor 77 = .ok (.iload_n 3, 1) := by decide +kernel
theorem dX3_leastBeatFor_78 : decode cX3_leastBeatFor 78 = .ok (.iload 4, 2) := by decide +kernel
theorem dX3_leastBeatFor_80 : decode cX3_leastBeatFor 80 = .ok (.if_icmp .ge 41, 3) := by decide +kernel
theorem dX3_leastBeatFor_83 : decode cX3_leastBeatFor 83 = .ok (.iload_n 3, 1) := by decide +kernel
theorem dX3_leastBeatFor_84 : decode cX3_leastBeatFor 84 = .ok (.iload 4, 2) := by decide +kernel
theorem dX3_leastBeatFor_86 : decode cX3_leastBeatFor 86 = .ok (.iadd, 1) := by decide +kernel
theorem dX3_leastBeatFor_87 : decode cX3_leastBeatFor 87 = .ok (.iconst 2, 1) := by decide +kernel
theorem dX3_leastBeatFor_88 : decode cX3_leastBeatFor 88 = .ok (.idiv, 1) := by decide +kernel
theorem dX3_leastBeatFor_89 : decode cX3_leastBeatFor 89 = .ok (.istore 6, 2) := by decide +kernel
theorem dX3_leastBeatFor_91 : decode cX3_leastBeatFor 91 = .ok (.aload_n 0, 1) := by decide +kernel
theorem dX3_leastBeatFor_92 : decode cX3_leastBeatFor 92 = .ok (.iload 6, 2) := by decide +kernel
theorem dX3_leastBeatFor_94 : decode cX3_leastBeatFor 94 = .ok (.iload_n 2, 1) := by decide +kernel
theorem dX3_leastBeatFor_95 : decode cX3_leastBeatFor 95 = .ok (.imul, 1) := by decide +kernel
theorem dX3_leastBeatFor_96 : decode cX3_leastBeatFor 96 = .ok (.invokevirtual 59, 3) := by decide +kernel
theorem dX3_leastBeatFor_99 : decode cX3_leastBeatFor 99 = .ok (.iload_n 1, 1) := by decide +kernel
theorem dX3_leastBeatFor_100 : decode cX3_leastBeatFor 100 = .ok (.if_icmp .gt 10, 3) := by decide +kernel
theorem dX3_leastBeatFor_103 : decode cX3_leastBeatFor 103 = .ok (.iload 6, 2) := by decide +kernel
theorem dX3_leastBeatFor_105 : decode cX3_leastBeatFor 105 = .ok (.istore 4, 2) := by decide +kernel
theorem dX3_leastBeatFor_107 : decode cX3_leastBeatFor 107 = .ok (.goto 8, 3) := by decide +kernel
theorem dX3_leastBeatFor_110 : decode cX3_leastBeatFor 110 = .ok (.iload 6, 2) := by decide +kernel
theorem dX3_leastBeatFor_112 : decode cX3_leastBeatFor 112 = .ok (.iconst 1, 1) := by decide +kernel
theorem dX3_leastBeatFor_113 : decode cX3_leastBeatFor 113 = .ok (.iadd, 1) := by decide +kernel
theorem dX3_leastBeatFor_114 : decode cX3_leastBeatFor 114 = .ok (.istore_n 3, 1) := by decide +kernel
theorem dX3_leastBeatFor_115 : decode cX3_leastBeatFor 115 = .ok (.iinc 5 1, 3) := by decide +kernel
theorem dX3_leastBeatFor_118 : decode cX3_leastBeatFor 118 = .ok (.goto (-49), 3) := by decide +kernel
theorem dX3_leastBeatFor_121 : decode cX3_leastBeatFor 121 = .ok (.iload_n 3, 1) := by decide +kernel
theorem dX3_leastBeatFor_122 : decode cX3_leastBeatFor 122 = .ok (.ireturn, 1) := by decide +kernel
set_option maxRecDepth 20000 in
set_option maxRecDepth 20000 in
theorem ggX3_waysFor_X3_lookBack : GoodIn wsX3_waysFor wsX3_lookBack := goodIn_r _ [6, 7, 8, 9, 10, 11, 12, 5, 13, 14, 30, 31, 32, 33, 34, 35, 36, 37, 38, 39, 40] rfl (by decide +kernel)
set_option maxRecDepth 20000 in
theorem gX3_waysFor_X3_lookBack : GoodIn wsX3_waysFor (wsV RX3 75 RX3 yX3_lookBack wsX3_lookBack) := goodIn_app (goodIn_of _ (by decide +kernel)) ggX3_waysFor_X3_lookBack
set_option maxRecDepth 20000 in
set_option maxRecDepth 20000 in
theorem ggX3_waysFor_X3_weigh : GoodIn wsX3_waysFor wsX3_weigh := goodIn_r _ [18, 19, 8, 1, 9, 7, 20, 21, 22, 5, 23, 24, 14, 25, 26, 27, 28, 29, 30, 31, 32, 33, 34, 35, 36, 37, 38, 39, 40] rfl (by decide +kernel)
set_option maxRecDepth 20000 in
theorem gX3_waysFor_X3_weigh : GoodIn wsX3_waysFor (wsV RX3 79 RX3 yX3_weigh wsX3_weigh) := goodIn_app (goodIn_of _ (by decide +kernel)) ggX3_waysFor_X3_weigh
theorem dX3_waysFor_0 : decode cX3_waysFor 0 = .ok (.aload_n 0, 1) := by decide +kernel
theorem dX3_waysFor_1 : decode cX3_waysFor 1 = .ok (.iload_n 1, 1) := by decide +kernel
theorem dX3_waysFor_2 : decode cX3_waysFor 2 = .ok (.invokevirtual 75, 3) := by decide +kernel
theorem dX3_waysFor_5 : decode cX3_waysFor 5 = .ok (.aload_n 0, 1) := by decide +kernel
theorem dX3_waysFor_6 : decode cX3_waysFor 6 = .ok (.iload_n 1, 1) := by decide +kernel
theorem dX3_waysFor_7 : decode cX3_waysFor 7 = .ok (.invokevirtual 79, 3) := by decide +kernel
theorem dX3_waysFor_10 : decode cX3_waysFor 10 = .ok (.aload_n 0, 1) := by decide +kernel
theorem dX3_waysFor_11 : decode cX3_waysFor 11 = .ok (.getfield 43, 3) := by decide +kernel
theorem dX3_waysFor_14 : decode cX3_waysFor 14 = .ok (.iconst 0, 1) := by decide +kernel
theorem dX3_waysFor_15 : decode cX3_waysFor 15 = .ok (.aaload, 1) := by decide +kernel
theorem dX3_waysFor_16 : decode cX3_waysFor 16 = .ok (.iconst 0, 1) := by decide +kernel
theorem dX3_waysFor_17 : decode cX3_waysFor 17 = .ok (.laload, 1) := by decide +kernel
theorem dX3_waysFor_18 : decode cX3_waysFor 18 = .ok (.lreturn, 1) := by decide +kernel
set_option maxRecDepth 20000 in
set_option maxRecDepth 20000 in
theorem ggX3_costFor_X3_lookBack : GoodIn wsX3_costFor wsX3_lookBack := goodIn_r _ [6, 7, 8, 9, 10, 11, 12, 5, 13, 14, 30, 31, 32, 33, 34, 35, 36, 37, 38, 39, 40] rfl (by decide +kernel)
set_option maxRecDepth 20000 in
theorem gX3_costFor_X3_lookBack : GoodIn wsX3_costFor (wsV RX3 75 RX3 yX3_lookBack wsX3_lookBack) := goodIn_app (goodIn_of _ (by decide +kernel)) ggX3_costFor_X3_lookBack
set_option maxRecDepth 20000 in
set_option maxRecDepth 20000 in
theorem ggX3_costFor_X3_weigh : GoodIn wsX3_costFor wsX3_weigh := goodIn_r _ [18, 1, 8, 19, 9, 7, 20, 21, 22, 5, 23, 24, 14, 25, 26, 27, 28, 29, 30, 31, 32, 33, 34, 35, 36, 37, 38, 39, 40] rfl (by decide +kernel)
set_option maxRecDepth 20000 in
theorem gX3_costFor_X3_weigh : GoodIn wsX3_costFor (wsV RX3 79 RX3 yX3_weigh wsX3_weigh) := goodIn_app (goodIn_of _ (by decide +kernel)) ggX3_costFor_X3_weigh
theorem dX3_costFor_0 : decode cX3_costFor 0 = .ok (.aload_n 0, 1) := by decide +kernel
theorem dX3_costFor_1 : decode cX3_costFor 1 = .ok (.iload_n 1, 1) := by decide +kernel
theorem dX3_costFor_2 : decode cX3_costFor 2 = .ok (.invokevirtual 75, 3) := by decide +kernel
theorem dX3_costFor_5 : decode cX3_costFor 5 = .ok (.aload_n 0, 1) := by decide +kernel
theorem dX3_costFor_6 : decode cX3_costFor 6 = .ok (.iload_n 1, 1) := by decide +kernel
theorem dX3_costFor_7 : decode cX3_costFor 7 = .ok (.invokevirtual 79, 3) := by decide +kernel
theorem dX3_costFor_10 : decode cX3_costFor 10 = .ok (.aload_n 0, 1) := by decide +kernel
theorem dX3_costFor_11 : decode cX3_costFor 11 = .ok (.getfield 40, 3) := by decide +kernel
theorem dX3_costFor_14 : decode cX3_costFor 14 = .ok (.iconst 0, 1) := by decide +kernel
theorem dX3_costFor_15 : decode cX3_costFor 15 = .ok (.aaload, 1) := by decide +kernel
theorem dX3_costFor_16 : decode cX3_costFor 16 = .ok (.iconst 0, 1) := by decide +kernel
theorem dX3_costFor_17 : decode cX3_costFor 17 = .ok (.laload, 1) := by decide +kernel
theorem dX3_costFor_18 : decode cX3_costFor 18 = .ok (.lreturn, 1) := by decide +kernel
set_option maxRecDepth 20000 in
set_option maxRecDepth 20000 in
theorem ggX3_putFirst_X3_lookBack : GoodIn wsX3_putFirst wsX3_lookBack := goodIn_r _ [7, 8, 9, 10, 11, 12, 13, 6, 14, 15, 36, 37, 38, 39, 40, 41, 42, 43, 44, 45, 46] rfl (by decide +kernel)
set_option maxRecDepth 20000 in
theorem gX3_putFirst_X3_lookBack : GoodIn wsX3_putFirst (wsV RX3 75 RX3 yX3_lookBack wsX3_lookBack) := goodIn_app (goodIn_of _ (by decide +kernel)) ggX3_putFirst_X3_lookBack
set_option maxRecDepth 20000 in
set_option maxRecDepth 20000 in
theorem ggX3_putFirst_X3_weigh : GoodIn wsX3_putFirst wsX3_weigh := goodIn_r _ [19, 20, 9, 21, 10, 8, 22, 23, 24, 6, 25, 26, 15, 27, 28, 29, 30, 31, 36, 37, 38, 39, 40, 41, 42, 43, 44, 45, 46] rfl (by decide +kernel)
set_option maxRecDepth 20000 in
theorem gX3_putFirst_X3_weigh : GoodIn wsX3_putFirst (wsV RX3 79 RX3 yX3_weigh wsX3_weigh) := goodIn_app (goodIn_of _ (by decide +kernel)) ggX3_putFirst_X3_weigh
set_option maxRecDepth 20000 in
set_option maxRecDepth 20000 in
theorem ggX3_putFirst_X3_firstSet : GoodIn wsX3_putFirst wsX3_firstSet := goodIn_r _ [35, 9, 8, 15, 27, 20, 36, 37, 38, 39, 40, 41, 42, 43, 44, 45, 46] rfl (by decide +kernel)
set_option maxRecDepth 20000 in
theorem gX3_putFirst_X3_firstSet : GoodIn wsX3_putFirst (wsV RX3 82 RX3 yX3_firstSet wsX3_firstSet) := goodIn_app (goodIn_of _ (by decide +kernel)) ggX3_putFirst_X3_firstSet
theorem dX3_putFirst_0 : decode cX3_putFirst 0 = .ok (.aload_n 0, 1) := by decide +kernel
theorem dX3_putFirst_1 : decode cX3_putFirst 1 = .ok (.iload_n 1, 1) := by decide +kernel
theorem dX3_putFirst_2 : decode cX3_putFirst 2 = .ok (.invokevirtual 75, 3) := by decide +kernel
theorem dX3_putFirst_5 : decode cX3_putFirst 5 = .ok (.iload_n 2, 1) := by decide +kernel
theorem dX3_putFirst_6 : decode cX3_putFirst 6 = .ok (.ifCond .eq 8, 3) := by decide +kernel
theorem dX3_putFirst_9 : decode cX3_putFirst 9 = .ok (.aload_n 0, 1) := by decide +kernel
theorem dX3_putFirst_10 : decode cX3_putFirst 10 = .ok (.iload_n 1, 1) := by decide +kernel
theorem dX3_putFirst_11 : decode cX3_putFirst 11 = .ok (.invokevirtual 79, 3) := by decide +kernel
theorem dX3_putFirst_14 : decode cX3_putFirst 14 = .ok (.iconst 0, 1) := by decide +kernel
theorem dX3_putFirst_15 : decode cX3_putFirst 15 = .ok (.istore 4, 2) := by decide +kernel
theorem dX3_putFirst_17 : decode cX3_putFirst 17 = .ok (.iconst 1, 1) := by decide +kernel
theorem dX3_putFirst_18 : decode cX3_putFirst 18 = .ok (.istore 5, 2) := by decide +kernel
theorem dX3_putFirst_20 : decode cX3_putFirst 20 = .ok (.iload 5, 2) := by decide +kernel
theorem dX3_putFirst_22 : decode cX3_putFirst 22 = .ok (.iload_n 1, 1) := by decide +kernel
theorem dX3_putFirst_23 : decode cX3_putFirst 23 = .ok (.if_icmp .gt 64, 3) := by decide +kernel
theorem dX3_putFirst_26 : decode cX3_putFirst 26 = .ok (.aload_n 0, 1) := by decide +kernel
theorem dX3_putFirst_27 : decode cX3_putFirst 27 = .ok (.iload 5, 2) := by decide +kernel
theorem dX3_putFirst_29 : decode cX3_putFirst 29 = .ok (.iload 4, 2) := by decide +kernel
theorem dX3_putFirst_31 : decode cX3_putFirst 31 = .ok (.iload_n 2, 1) := by decide +kernel
theorem dX3_putFirst_32 : decode cX3_putFirst 32 = .ok (.invokevirtual 82, 3) := by decide +kernel
theorem dX3_putFirst_35 : decode cX3_putFirst 35 = .ok (.istore 6, 2) := by decide +kernel
theorem dX3_putFirst_37 : decode cX3_putFirst 37 = .ok (.iconst 0, 1) := by decide +kernel
theorem dX3_putFirst_38 : decode cX3_putFirst 38 = .ok (.istore 7, 2) := by decide +kernel
theorem dX3_putFirst_40 : decode cX3_putFirst 40 = .ok (.iload 7, 2) := by decide +kernel
theorem dX3_putFirst_42 : decode cX3_putFirst 42 = .ok (.aload_n 0, 1) := by decide +kernel
theorem dX3_putFirst_43 : decode cX3_putFirst 43 = .ok (.getfield 46, 3) := by decide +kernel
theorem dX3_putFirst_46 : decode cX3_putFirst 46 = .ok (.getfield 86, 3) := by decide +kernel
theorem dX3_putFirst_49 : decode cX3_putFirst 49 = .ok (.if_icmp .ge 25, 3) := by decide +kernel
theorem dX3_putFirst_52 : decode cX3_putFirst 52 = .ok (.iload 6, 2) := by decide +kernel
theorem dX3_putFirst_54 : decode cX3_putFirst 54 = .ok (.iconst 1, 1) := by decide +kernel
theorem dX3_putFirst_55 : decode cX3_putFirst 55 = .ok (.iload 7, 2) := by decide +kernel
theorem dX3_putFirst_57 : decode cX3_putFirst 57 = .ok (.ishl, 1) := by decide +kernel
theorem dX3_putFirst_58 : decode cX3_putFirst 58 = .ok (.iand, 1) := by decide +kernel
theorem dX3_putFirst_59 : decode cX3_putFirst 59 = .ok (.ifCond .eq 9, 3) := by decide +kernel
theorem dX3_putFirst_62 : decode cX3_putFirst 62 = .ok (.aload_n 3, 1) := by decide +kernel
theorem dX3_putFirst_63 : decode cX3_putFirst 63 = .ok (.iload 7, 2) := by decide +kernel
theorem dX3_putFirst_65 : decode cX3_putFirst 65 = .ok (.iload 5, 2) := by decide +kernel
theorem dX3_putFirst_67 : decode cX3_putFirst 67 = .ok (.iastore, 1) := by decide +kernel
theorem dX3_putFirst_68 : decode cX3_putFirst 68 = .ok (.iinc 7 1, 3) := by decide +kernel
theorem dX3_putFirst_71 : decode cX3_putFirst 71 = .ok (.goto (-31), 3) := by decide +kernel
theorem dX3_putFirst_74 : decode cX3_putFirst 74 = .ok (.iload 4, 2) := by decide +kernel
theorem dX3_putFirst_76 : decode cX3_putFirst 76 = .ok (.iload 6, 2) := by decide +kernel
theorem dX3_putFirst_78 : decode cX3_putFirst 78 = .ok (.ior, 1) := by decide +kernel
theorem dX3_putFirst_79 : decode cX3_putFirst 79 = .ok (.istore 4, 2) := by decide +kernel
theorem dX3_putFirst_81 : decode cX3_putFirst 81 = .ok (.iinc 5 1, 3) := by decide +kernel
theorem dX3_putFirst_84 : decode cX3_putFirst 84 = .ok (.goto (-64), 3) := by decide +kernel
theorem dX3_putFirst_87 : decode cX3_putFirst 87 = .ok (.return_, 1) := by decide +kernel
theorem dX3_firstSet_0 : decode cX3_firstSet 0 = .ok (.iconst 0, 1) := by decide +kernel
theorem dX3_firstSet_1 : decode cX3_firstSet 1 = .ok (.istore 4, 2) := by decide +kernel
theorem dX3_firstSet_3 : decode cX3_firstSet 3 = .ok (.iload 4, 2) := by decide +kernel
theorem dX3_firstSet_5 : decode cX3_firstSet 5 = .ok (.aload_n 0, 1) := by decide +kernel
theorem dX3_firstSet_6 : decode cX3_firstSet 6 = .ok (.getfield 9, 3) := by decide +kernel
theorem dX3_firstSet_9 : decode cX3_firstSet 9 = .ok (.if_icmp .gt 103, 3) := by decide +kernel
theorem dX3_firstSet_12 : decode cX3_firstSet 12 = .ok (.iload_n 2, 1) := by decide +kernel
theorem dX3_firstSet_13 : decode cX3_firstSet 13 = .ok (.iload 4, 2) := by decide +kernel
theorem dX3_firstSet_15 : decode cX3_firstSet 15 = .ok (.ior, 1) := by decide +kernel
theorem dX3_firstSet_16 : decode cX3_firstSet 16 = .ok (.istore 5, 2) := by decide +kernel
theorem dX3_firstSet_18 : decode cX3_firstSet 18 = .ok (.iload 4, 2) := by decide +kernel
theorem dX3_firstSet_20 : decode cX3_firstSet 20 = .ok (.iload_n 2, 1) := by decide +kernel
theorem dX3_firstSet_21 : decode cX3_firstSet 21 = .ok (.iand, 1) := by decide +kernel
theorem dX3_firstSet_22 : decode cX3_firstSet 22 = .ok (.ifCond .ne 84, 3) := by decide +kernel
theorem dX3_firstSet_25 : decode cX3_firstSet 25 = .ok (.iload_n 1, 1) := by decide +kernel
theorem dX3_firstSet_26 : decode cX3_firstSet 26 = .ok (.aload_n 0, 1) := by decide +kernel
theorem dX3_firstSet_27 : decode cX3_firstSet 27 = .ok (.getfield 32, 3) := by decide +kernel
theorem dX3_firstSet_30 : decode cX3_firstSet 30 = .ok (.iload 5, 2) := by decide +kernel
theorem dX3_firstSet_32 : decode cX3_firstSet 32 = .ok (.iaload, 1) := by decide +kernel
theorem dX3_firstSet_33 : decode cX3_firstSet 33 = .ok (.if_icmp .gt 73, 3) := by decide +kernel
theorem dX3_firstSet_36 : decode cX3_firstSet 36 = .ok (.aload_n 0, 1) := by decide +kernel
theorem dX3_firstSet_37 : decode cX3_firstSet 37 = .ok (.getfield 26, 3) := by decide +kernel
theorem dX3_firstSet_40 : decode cX3_firstSet 40 = .ok (.iload 4, 2) := by decide +kernel
theorem dX3_firstSet_42 : decode cX3_firstSet 42 = .ok (.iaload, 1) := by decide +kernel
theorem dX3_firstSet_43 : decode cX3_firstSet 43 = .ok (.ifCond .eq 17, 3) := by decide +kernel
theorem dX3_firstSet_46 : decode cX3_firstSet 46 = .ok (.aload_n 0, 1) := by decide +kernel
theorem dX3_firstSet_47 : decode cX3_firstSet 47 = .ok (.getfield 26, 3) := by decide +kernel
theorem dX3_firstSet_50 : decode cX3_firstSet 50 = .ok (.iload 4, 2) := by decide +kernel
theorem dX3_firstSet_52 : decode cX3_firstSet 52 = .ok (.iaload, 1) := by decide +kernel
theorem dX3_firstSet_53 : decode cX3_firstSet 53 = .ok (.iload_n 1, 1) := by decide +kernel
theorem dX3_firstSet_54 : decode cX3_firstSet 54 = .ok (.if_icmp .eq 6, 3) := by decide +kernel
theorem dX3_firstSet_57 : decode cX3_firstSet 57 = .ok (.goto 49, 3) := by decide +kernel
theorem dX3_firstSet_60 : decode cX3_firstSet 60 = .ok (.aload_n 0, 1) := by decide +kernel
theorem dX3_firstSet_61 : decode cX3_firstSet 61 = .ok (.getfield 15, 3) := by decide +kernel
theorem dX3_firstSet_64 : decode cX3_firstSet 64 = .ok (.iload 4, 2) := by decide +kernel
theorem dX3_firstSet_66 : decode cX3_firstSet 66 = .ok (.iaload, 1) := by decide +kernel
theorem dX3_firstSet_67 : decode cX3_firstSet 67 = .ok (.i2l, 1) := by decide +kernel
theorem dX3_firstSet_68 : decode cX3_firstSet 68 = .ok (.lstore 6, 2) := by decide +kernel
theorem dX3_firstSet_70 : decode cX3_firstSet 70 = .ok (.iload_n 3, 1) := by decide +kernel
theorem dX3_firstSet_71 : decode cX3_firstSet 71 = .ok (.ifCond .eq 32, 3) := by decide +kernel
theorem dX3_firstSet_74 : decode cX3_firstSet 74 = .ok (.lload 6, 2) := by decide +kernel
theorem dX3_firstSet_76 : decode cX3_firstSet 76 = .ok (.lload 6, 2) := by decide +kernel
theorem dX3_firstSet_78 : decode cX3_firstSet 78 = .ok (.lmul, 1) := by decide +kernel
theorem dX3_firstSet_79 : decode cX3_firstSet 79 = .ok (.aload_n 0, 1) := by decide +kernel
theorem dX3_firstSet_80 : decode cX3_firstSet 80 = .ok (.getfield 40, 3) := by decide +kernel
theorem dX3_firstSet_83 : decode cX3_firstSet 83 = .ok (.iload_n 1, 1) := by decide +kernel
theorem dX3_firstSet_84 : decode cX3_firstSet 84 = .ok (.aaload, 1) := by decide +kernel
theorem dX3_firstSet_85 : decode cX3_firstSet 85 = .ok (.iload 5, 2) := by decide +kernel
theorem dX3_firstSet_87 : decode cX3_firstSet 87 = .ok (.laload, 1) := by decide +kernel
theorem dX3_firstSet_88 : decode cX3_firstSet 88 = .ok (.ladd, 1) := by decide +kernel
theorem dX3_firstSet_89 : decode cX3_firstSet 89 = .ok (.aload_n 0, 1) := by decide +kernel
theorem dX3_firstSet_90 : decode cX3_firstSet 90 = .ok (.getfield 40, 3) := by decide +kernel
theorem dX3_firstSet_93 : decode cX3_firstSet 93 = .ok (.iload_n 1, 1) := by decide +kernel
theorem dX3_firstSet_94 : decode cX3_firstSet 94 = .ok (.iconst 1, 1) := by decide +kernel
theorem dX3_firstSet_95 : decode cX3_firstSet 95 = .ok (.isub, 1) := by decide +kernel
theorem dX3_firstSet_96 : decode cX3_firstSet 96 = .ok (.aaload, 1) := by decide +kernel
theorem dX3_firstSet_97 : decode cX3_firstSet 97 = .ok (.iload_n 2, 1) := by decide +kernel
theorem dX3_firstSet_98 : decode cX3_firstSet 98 = .ok (.laload, 1) := by decide +kernel
theorem dX3_firstSet_99 : decode cX3_firstSet 99 = .ok (.lcmp, 1) := by decide +kernel
theorem dX3_firstSet_100 : decode cX3_firstSet 100 = .ok (.ifCond .ne 6, 3) := by decide +kernel
theorem dX3_firstSet_103 : decode cX3_firstSet 103 = .ok (.iload 4, 2) := by decide +kernel
theorem dX3_firstSet_105 : decode cX3_firstSet 105 = .ok (.ireturn, 1) := by decide +kernel
theorem dX3_firstSet_106 : decode cX3_firstSet 106 = .ok (.iinc 4 1, 3) := by decide +kernel
theorem dX3_firstSet_109 : decode cX3_firstSet 109 = .ok (.goto (-106), 3) := by decide +kernel
theorem dX3_firstSet_112 : decode cX3_firstSet 112 = .ok (.iconst 0, 1) := by decide +kernel
theorem dX3_firstSet_113 : decode cX3_firstSet 113 = .ok (.ireturn, 1) := by decide +kernel
set_option maxRecDepth 20000 in
set_option maxRecDepth 20000 in
theorem ggX3_prepare_X0_all : GoodIn wsX3_prepare wsX0_all := goodIn_r _ [8, 9, 73, 74, 75, 76, 77, 78, 79, 80, 81, 82, 83] rfl (by decide +kernel)
set_option maxRecDepth 20000 in
theorem gX3_prepare_X0_all : GoodIn wsX3_prepare (wsV RX3 89 RX0 yX0_all wsX0_all) := goodIn_app (goodIn_of _ (by decide +kernel)) ggX3_prepare_X0_all
set_option maxRecDepth 20000 in
set_option maxRecDepth 20000 in
theorem ggX3_prepare_X3_fillLoads : GoodIn wsX3_prepare wsX3_fillLoads := goodIn_r _ [14, 15, 1, 16, 17, 18, 19, 20, 21, 22, 7, 23, 24, 25, 26, 27, 28, 13, 29, 30, 31, 32, 2, 33, 34, 35, 36, 37, 38, 39, 40, 62, 63, 64, 65, 66, 67, 68, 69, 70, 71, 72, 73, 74, 75, 76, 77, 78, 79, 80, 81, 82, 83] rfl (by decide +kernel)
set_option maxRecDepth 20000 in
theorem gX3_prepare_X3_fillLoads : GoodIn wsX3_prepare (wsV RX3 91 RX3 yX3_fillLoads wsX3_fillLoads) := goodIn_app (goodIn_of _ (by decide +kernel)) ggX3_prepare_X3_fillLoads
set_option maxRecDepth 20000 in
set_option maxRecDepth 20000 in
theorem ggX3_prepare_X3_fillAllowed : GoodIn wsX3_prepare wsX3_fillAllowed := goodIn_r _ [44, 30, 45, 1, 31, 46, 47, 48, 2, 49, 50, 13, 51, 62, 63, 64, 65, 66, 67, 68, 69, 70, 71, 72, 73, 74, 75, 76, 77, 78, 79, 80, 81, 82, 83] rfl (by decide +kernel)
set_option maxRecDepth 20000 in
theorem gX3_prepare_X3_fillAllowed : GoodIn wsX3_prepare (wsV RX3 94 RX3 yX3_fillAllowed wsX3_fillAllowed) := goodIn_app (goodIn_of _ (by decide +kernel)) ggX3_prepare_X3_fillAllowed
set_option maxRecDepth 20000 in
set_option maxRecDepth 20000 in
theorem ggX3_prepare_X3_isFine : GoodIn wsX3_prepare wsX3_isFine := goodIn_r _ [55, 1, 31, 56, 57, 58, 7, 59, 60, 24, 61, 62, 63, 64, 65, 66, 67, 68, 69, 70, 71, 72, 73, 74, 75, 76, 77, 78, 79, 80, 81, 82, 83] rfl (by decide +kernel)
set_option maxRecDepth 20000 in
theorem gX3_prepare_X3_isFine : GoodIn wsX3_prepare (wsV RX3 97 RX3 yX3_isFine wsX3_isFine) := goodIn_app (goodIn_of _ (by decide +kernel)) ggX3_prepare_X3_isFine
theorem dX3_prepare_0 : decode cX3_prepare 0 = .ok (.aload_n 0, 1) := by decide +kernel
theorem dX3_prepare_1 : decode cX3_prepare 1 = .ok (.aload_n 0, 1) := by decide +kernel
theorem dX3_prepare_2 : decode cX3_prepare 2 = .ok (.getfield 46, 3) := by decide +kernel
theorem dX3_prepare_5 : decode cX3_prepare 5 = .ok (.invokevirtual 89, 3) := by decide +kernel
theorem dX3_prepare_8 : decode cX3_prepare 8 = .ok (.putfield 9, 3) := by decide +kernel
theorem dX3_prepare_11 : decode cX3_prepare 11 = .ok (.aload_n 0, 1) := by decide +kernel
theorem dX3_prepare_12 : decode cX3_prepare 12 = .ok (.invokevirtual 91, 3) := by decide +kernel
theorem dX3_prepare_15 : decode cX3_prepare 15 = .ok (.aload_n 0, 1) := by decide +kernel
theorem dX3_prepare_16 : decode cX3_prepare 16 = .ok (.invokevirtual 94, 3) := by decide +kernel
theorem dX3_prepare_19 : decode cX3_prepare 19 = .ok (.iconst 0, 1) := by decide +kernel
theorem dX3_prepare_20 : decode cX3_prepare 20 = .ok (.istore_n 1, 1) := by decide +kernel
theorem dX3_prepare_21 : decode cX3_prepare 21 = .ok (.iload_n 1, 1) := by decide +kernel
theorem dX3_prepare_22 : decode cX3_prepare 22 = .ok (.aload_n 0, 1) := by decide +kernel
theorem dX3_prepare_23 : decode cX3_prepare 23 = .ok (.getfield 9, 3) := by decide +kernel
theorem dX3_prepare_26 : decode cX3_prepare 26 = .ok (.if_icmp .gt 20, 3) := by decide +kernel
theorem dX3_prepare_29 : decode cX3_prepare 29 = .ok (.aload_n 0, 1) := by decide +kernel
theorem dX3_prepare_30 : decode cX3_prepare 30 = .ok (.getfield 19, 3) := by decide +kernel
theorem dX3_prepare_33 : decode cX3_prepare 33 = .ok (.iload_n 1, 1) := by decide +kernel
theorem dX3_prepare_34 : decode cX3_prepare 34 = .ok (.aload_n 0, 1) := by decide +kernel
theorem dX3_prepare_35 : decode cX3_prepare 35 = .ok (.iload_n 1, 1) := by decide +kernel
theorem dX3_prepare_36 : decode cX3_prepare 36 = .ok (.invokevirtual 97, 3) := by decide +kernel
theorem dX3_prepare_39 : decode cX3_prepare 39 = .ok (.bastore, 1) := by decide +kernel
theorem dX3_prepare_40 : decode cX3_prepare 40 = .ok (.iinc 1 1, 3) := by decide +kernel
theorem dX3_prepare_43 : decode cX3_prepare 43 = .ok (.goto (-22), 3) := by decide +kernel
theorem dX3_prepare_46 : decode cX3_prepare 46 = .ok (.return_, 1) := by decide +kernel
set_option maxRecDepth 20000 in
set_option maxRecDepth 20000 in
theorem ggX3_fillLoads_J7_fill_53178 : GoodIn wsX3_fillLoads wsJ7_fill_53178 := goodIn_r _ [6] rfl (by decide +kernel)
set_option maxRecDepth 20000 in
theorem gX3_fillLoads_J7_fill_53178 : GoodIn wsX3_fillLoads (va_wsS RX3 101 yJ7_fill_53178 wsJ7_fill_53178) := goodIn_app (goodIn_of _ (by decide +kernel)) ggX3_fillLoads_J7_fill_53178
set_option maxRecDepth 20000 in
set_option maxRecDepth 20000 in
theorem ggX3_fillLoads_X0_weight : GoodIn wsX3_fillLoads wsX0_weight := goodIn_r _ [11, 12, 13, 42, 43, 44, 45, 46, 47, 48, 49, 50, 51, 52] rfl (by decide +kernel)
set_option maxRecDepth 20000 in
theorem gX3_fillLoads_X0_weight : GoodIn wsX3_fillLoads (wsV RX3 107 RX0 yX0_weight wsX0_weight) := goodIn_app (goodIn_of _ (by decide +kernel)) ggX3_fillLoads_X0_weight
set_option maxRecDepth 20000 in
set_option maxRecDepth 20000 in
theorem ggX3_fillLoads_X3_joinLoads : GoodIn wsX3_fillLoads wsX3_joinLoads := goodIn_r _ [18, 19, 2, 20, 21, 22, 1, 23, 24, 25, 10, 26, 12, 27, 28, 29, 30, 31, 32, 33, 34, 35, 36, 37, 38, 39, 40, 41, 42, 43, 44, 45, 46, 47, 48, 49, 50, 51, 52] rfl (by decide +kernel)
set_option maxRecDepth 20000 in
theorem gX3_fillLoads_X3_joinLoads : GoodIn wsX3_fillLoads (wsV RX3 110 RX3 yX3_joinLoads wsX3_joinLoads) := goodIn_app (goodIn_of _ (by decide +kernel)) ggX3_fillLoads_X3_joinLoads
theorem dX3_fillLoads_0 : decode cX3_fillLoads 0 = .ok (.aload_n 0, 1) := by decide +kernel
theorem dX3_fillLoads_1 : decode cX3_fillLoads 1 = .ok (.getfield 15, 3) := by decide +kernel
theorem dX3_fillLoads_4 : decode cX3_fillLoads 4 = .ok (.iconst 0, 1) := by decide +kernel
theorem dX3_fillLoads_5 : decode cX3_fillLoads 5 = .ok (.invokestatic 101, 3) := by decide +kernel
theorem dX3_fillLoads_8 : decode cX3_fillLoads 8 = .ok (.iconst 0, 1) := by decide +kernel
theorem dX3_fillLoads_9 : decode cX3_fillLoads 9 = .ok (.istore_n 1, 1) := by decide +kernel
theorem dX3_fillLoads_10 : decode cX3_fillLoads 10 = .ok (.iload_n 1, 1) := by decide +kernel
theorem dX3_fillLoads_11 : decode cX3_fillLoads 11 = .ok (.iconst 3, 1) := by decide +kernel
theorem dX3_fillLoads_12 : decode cX3_fillLoads 12 = .ok (.if_icmp .ge 28, 3) := by decide +kernel
theorem dX3_fillLoads_15 : decode cX3_fillLoads 15 = .ok (.aload_n 0, 1) := by decide +kernel
theorem dX3_fillLoads_16 : decode cX3_fillLoads 16 = .ok (.getfield 46, 3) := by decide +kernel
theorem dX3_fillLoads_19 : decode cX3_fillLoads 19 = .ok (.iload_n 1, 1) := by decide +kernel
theorem dX3_fillLoads_20 : decode cX3_fillLoads 20 = .ok (.invokevirtual 107, 3) := by decide +kernel
theorem dX3_fillLoads_23 : decode cX3_fillLoads 23 = .ok (.istore_n 2, 1) := by decide +kernel
theorem dX3_fillLoads_24 : decode cX3_fillLoads 24 = .ok (.iload_n 2, 1) := by decide +kernel
theorem dX3_fillLoads_25 : decode cX3_fillLoads 25 = .ok (.ifCond .le 9, 3) := by decide +kernel
theorem dX3_fillLoads_28 : decode cX3_fillLoads 28 = .ok (.aload_n 0, 1) := by decide +kernel
theorem dX3_fillLoads_29 : decode cX3_fillLoads 29 = .ok (.iload_n 1, 1) := by decide +kernel
theorem dX3_fillLoads_30 : decode cX3_fillLoads 30 = .ok (.iload_n 2, 1) := by decide +kernel
theorem dX3_fillLoads_31 : decode cX3_fillLoads 31 = .ok (.invokevirtual 110, 3) := by decide +kernel
theorem dX3_fillLoads_34 : decode cX3_fillLoads 34 = .ok (.iinc 1 1, 3) := by decide +kernel
theorem dX3_fillLoads_37 : decode cX3_fillLoads 37 = .ok (.goto (-27), 3) := by decide +kernel
theorem dX3_fillLoads_40 : decode cX3_fillLoads 40 = .ok (.return_, 1) := by decide +kernel
set_option maxRecDepth 20000 in
set_option maxRecDepth 20000 in
theorem ggX3_joinLoads_X0_joined : GoodIn wsX3_joinLoads wsX0_joined := goodIn_r _ [11, 12, 13, 14, 15, 16, 28, 29, 30, 31, 32, 33, 34, 35, 36, 37, 38] rfl (by decide +kernel)
set_option maxRecDepth 20000 in
theorem gX3_joinLoads_X0_joined : GoodIn wsX3_joinLoads (wsV RX3 118 RX0 yX0_joined wsX0_joined) := goodIn_app (goodIn_of _ (by decide +kernel)) ggX3_joinLoads_X0_joined
theorem dX3_joinLoads_0 : decode cX3_joinLoads 0 = .ok (.aload_n 0, 1) := by decide +kernel
theorem dX3_joinLoads_1 : decode cX3_joinLoads 1 = .ok (.getfield 35, 3) := by decide +kernel
theorem dX3_joinLoads_4 : decode cX3_joinLoads 4 = .ok (.iconst 0, 1) := by decide +kernel
theorem dX3_joinLoads_5 : decode cX3_joinLoads 5 = .ok (.iconst 0, 1) := by decide +kernel
theorem dX3_joinLoads_6 : decode cX3_joinLoads 6 = .ok (.iastore, 1) := by decide +kernel
theorem dX3_joinLoads_7 : decode cX3_joinLoads 7 = .ok (.iconst 0, 1) := by decide +kernel
theorem dX3_joinLoads_8 : decode cX3_joinLoads 8 = .ok (.istore_n 3, 1) := by decide +kernel
theorem dX3_joinLoads_9 : decode cX3_joinLoads 9 = .ok (.iload_n 3, 1) := by decide +kernel
theorem dX3_joinLoads_10 : decode cX3_joinLoads 10 = .ok (.aload_n 0, 1) := by decide +kernel
theorem dX3_joinLoads_11 : decode cX3_joinLoads 11 = .ok (.getfield 46, 3) := by decide +kernel
theorem dX3_joinLoads_14 : decode cX3_joinLoads 14 = .ok (.getfield 86, 3) := by decide +kernel
theorem dX3_joinLoads_17 : decode cX3_joinLoads 17 = .ok (.if_icmp .ge 65, 3) := by decide +kernel
theorem dX3_joinLoads_20 : decode cX3_joinLoads 20 = .ok (.iconst 1, 1) := by decide +kernel
theorem dX3_joinLoads_21 : decode cX3_joinLoads 21 = .ok (.iload_n 3, 1) := by decide +kernel
theorem dX3_joinLoads_22 : decode cX3_joinLoads 22 = .ok (.ishl, 1) := by decide +kernel
theorem dX3_joinLoads_23 : decode cX3_joinLoads 23 = .ok (.istore 4, 2) := by decide +kernel
theorem dX3_joinLoads_25 : decode cX3_joinLoads 25 = .ok (.iload_n 2, 1) := by decide +kernel
theorem dX3_joinLoads_26 : decode cX3_joinLoads 26 = .ok (.aload_n 0, 1) := by decide +kernel
theorem dX3_joinLoads_27 : decode cX3_joinLoads 27 = .ok (.getfield 46, 3) := by decide +kernel
theorem dX3_joinLoads_30 : decode cX3_joinLoads 30 = .ok (.getfield 114, 3) := by decide +kernel
theorem dX3_joinLoads_33 : decode cX3_joinLoads 33 = .ok (.iload_n 1, 1) := by decide +kernel
theorem dX3_joinLoads_34 : decode cX3_joinLoads 34 = .ok (.aaload, 1) := by decide +kernel
theorem dX3_joinLoads_35 : decode cX3_joinLoads 35 = .ok (.iload_n 3, 1) := by decide +kernel
theorem dX3_joinLoads_36 : decode cX3_joinLoads 36 = .ok (.iaload, 1) := by decide +kernel
theorem dX3_joinLoads_37 : decode cX3_joinLoads 37 = .ok (.imul, 1) := by decide +kernel
theorem dX3_joinLoads_38 : decode cX3_joinLoads 38 = .ok (.istore 5, 2) := by decide +kernel
theorem dX3_joinLoads_40 : decode cX3_joinLoads 40 = .ok (.iconst 0, 1) := by decide +kernel
theorem dX3_joinLoads_41 : decode cX3_joinLoads 41 = .ok (.istore 6, 2) := by decide +kernel
theorem dX3_joinLoads_43 : decode cX3_joinLoads 43 = .ok (.iload 6, 2) := by decide +kernel
theorem dX3_joinLoads_45 : decode cX3_joinLoads 45 = .ok (.iload 4, 2) := by decide +kernel
theorem dX3_joinLoads_47 : decode cX3_joinLoads 47 = .ok (.if_icmp .ge 29, 3) := by decide +kernel
theorem dX3_joinLoads_50 : decode cX3_joinLoads 50 = .ok (.aload_n 0, 1) := by decide +kernel
theorem dX3_joinLoads_51 : decode cX3_joinLoads 51 = .ok (.getfield 35, 3) := by decide +kernel
theorem dX3_joinLoads_54 : decode cX3_joinLoads 54 = .ok (.iload 4, 2) := by decide +kernel
theorem dX3_joinLoads_56 : decode cX3_joinLoads 56 = .ok (.iload 6, 2) := by decide +kernel
theorem dX3_joinLoads_58 : decode cX3_joinLoads 58 = .ok (.ior, 1) := by decide +kernel
theorem dX3_joinLoads_59 : decode cX3_joinLoads 59 = .ok (.aload_n 0, 1) := by decide +kernel
theorem dX3_joinLoads_60 : decode cX3_joinLoads 60 = .ok (.getfield 35, 3) := by decide +kernel
theorem dX3_joinLoads_63 : decode cX3_joinLoads 63 = .ok (.iload 6, 2) := by decide +kernel
theorem dX3_joinLoads_65 : decode cX3_joinLoads 65 = .ok (.iaload, 1) := by decide +kernel
theorem dX3_joinLoads_66 : decode cX3_joinLoads 66 = .ok (.iload 5, 2) := by decide +kernel
theorem dX3_joinLoads_68 : decode cX3_joinLoads 68 = .ok (.iadd, 1) := by decide +kernel
theorem dX3_joinLoads_69 : decode cX3_joinLoads 69 = .ok (.iastore, 1) := by decide +kernel
theorem dX3_joinLoads_70 : decode cX3_joinLoads 70 = .ok (.iinc 6 1, 3) := by decide +kernel
theorem dX3_joinLoads_73 : decode cX3_joinLoads 73 = .ok (.goto (-30), 3) := by decide +kernel
theorem dX3_joinLoads_76 : decode cX3_joinLoads 76 = .ok (.iinc 3 1, 3) := by decide +kernel
theorem dX3_joinLoads_79 : decode cX3_joinLoads 79 = .ok (.goto (-70), 3) := by decide +kernel
theorem dX3_joinLoads_82 : decode cX3_joinLoads 82 = .ok (.iconst 1, 1) := by decide +kernel
theorem dX3_joinLoads_83 : decode cX3_joinLoads 83 = .ok (.istore_n 3, 1) := by decide +kernel
theorem dX3_joinLoads_84 : decode cX3_joinLoads 84 = .ok (.iload_n 3, 1) := by decide +kernel
theorem dX3_joinLoads_85 : decode cX3_joinLoads 85 = .ok (.aload_n 0, 1) := by decide +kernel
theorem dX3_joinLoads_86 : decode cX3_joinLoads 86 = .ok (.getfield 9, 3) := by decide +kernel
theorem dX3_joinLoads_89 : decode cX3_joinLoads 89 = .ok (.if_icmp .gt 34, 3) := by decide +kernel
theorem dX3_joinLoads_92 : decode cX3_joinLoads 92 = .ok (.aload_n 0, 1) := by decide +kernel
theorem dX3_joinLoads_93 : decode cX3_joinLoads 93 = .ok (.getfield 15, 3) := by decide +kernel
theorem dX3_joinLoads_96 : decode cX3_joinLoads 96 = .ok (.iload_n 3, 1) := by decide +kernel
theorem dX3_joinLoads_97 : decode cX3_joinLoads 97 = .ok (.aload_n 0, 1) := by decide +kernel
theorem dX3_joinLoads_98 : decode cX3_joinLoads 98 = .ok (.getfield 46, 3) := by decide +kernel
theorem dX3_joinLoads_101 : decode cX3_joinLoads 101 = .ok (.aload_n 0, 1) := by decide +kernel
theorem dX3_joinLoads_102 : decode cX3_joinLoads 102 = .ok (.getfield 15, 3) := by decide +kernel
theorem dX3_joinLoads_105 : decode cX3_joinLoads 105 = .ok (.iload_n 3, 1) := by decide +kernel
theorem dX3_joinLoads_106 : decode cX3_joinLoads 106 = .ok (.iaload, 1) := by decide +kernel
theorem dX3_joinLoads_107 : decode cX3_joinLoads 107 = .ok (.aload_n 0, 1) := by decide +kernel
theorem dX3_joinLoads_108 : decode cX3_joinLoads 108 = .ok (.getfield 35, 3) := by decide +kernel
theorem dX3_joinLoads_111 : decode cX3_joinLoads 111 = .ok (.iload_n 3, 1) := by decide +kernel
theorem dX3_joinLoads_112 : decode cX3_joinLoads 112 = .ok (.iaload, 1) := by decide +kernel
theorem dX3_joinLoads_113 : decode cX3_joinLoads 113 = .ok (.invokevirtual 118, 3) := by decide +kernel
theorem dX3_joinLoads_116 : decode cX3_joinLoads 116 = .ok (.iastore, 1) := by decide +kernel
theorem dX3_joinLoads_117 : decode cX3_joinLoads 117 = .ok (.iinc 3 1, 3) := by decide +kernel
theorem dX3_joinLoads_120 : decode cX3_joinLoads 120 = .ok (.goto (-36), 3) := by decide +kernel
theorem dX3_joinLoads_123 : decode cX3_joinLoads 123 = .ok (.return_, 1) := by decide +kernel
set_option maxRecDepth 20000 in
set_option maxRecDepth 20000 in
theorem ggX3_fillAllowed_X3_meet : GoodIn wsX3_fillAllowed wsX3_meet := goodIn_r _ [12] rfl (by decide +kernel)
set_option maxRecDepth 20000 in
theorem gX3_fillAllowed_X3_meet : GoodIn wsX3_fillAllowed (va_wsS RX3 130 yX3_meet wsX3_meet) := goodIn_app (goodIn_of _ (by decide +kernel)) ggX3_fillAllowed_X3_meet
theorem dX3_fillAllowed_0 : decode cX3_fillAllowed 0 = .ok (.aload_n 0, 1) := by decide +kernel
theorem dX3_fillAllowed_1 : decode cX3_fillAllowed 1 = .ok (.getfield 35, 3) := by decide +kernel
theorem dX3_fillAllowed_4 : decode cX3_fillAllowed 4 = .ok (.astore_n 1, 1) := by decide +kernel
theorem dX3_fillAllowed_5 : decode cX3_fillAllowed 5 = .ok (.aload_n 1, 1) := by decide +kernel
theorem dX3_fillAllowed_6 : decode cX3_fillAllowed 6 = .ok (.iconst 0, 1) := by decide +kernel
theorem dX3_fillAllowed_7 : decode cX3_fillAllowed 7 = .ok (.iconst 0, 1) := by decide +kernel
theorem dX3_fillAllowed_8 : decode cX3_fillAllowed 8 = .ok (.iastore, 1) := by decide +kernel
theorem dX3_fillAllowed_9 : decode cX3_fillAllowed 9 = .ok (.aload_n 0, 1) := by decide +kernel
theorem dX3_fillAllowed_10 : decode cX3_fillAllowed 10 = .ok (.getfield 23, 3) := by decide +kernel
theorem dX3_fillAllowed_13 : decode cX3_fillAllowed 13 = .ok (.iconst 0, 1) := by decide +kernel
theorem dX3_fillAllowed_14 : decode cX3_fillAllowed 14 = .ok (.iconst 0, 1) := by decide +kernel
theorem dX3_fillAllowed_15 : decode cX3_fillAllowed 15 = .ok (.iastore, 1) := by decide +kernel
theorem dX3_fillAllowed_16 : decode cX3_fillAllowed 16 = .ok (.iconst 0, 1) := by decide +kernel
theorem dX3_fillAllowed_17 : decode cX3_fillAllowed 17 = .ok (.istore_n 2, 1) := by decide +kernel
theorem dX3_fillAllowed_18 : decode cX3_fillAllowed 18 = .ok (.iload_n 2, 1) := by decide +kernel
theorem dX3_fillAllowed_19 : decode cX3_fillAllowed 19 = .ok (.aload_n 0, 1) := by decide +kernel
theorem dX3_fillAllowed_20 : decode cX3_fillAllowed 20 = .ok (.getfield 46, 3) := by decide +kernel
theorem dX3_fillAllowed_23 : decode cX3_fillAllowed 23 = .ok (.getfield 86, 3) := by decide +kernel
theorem dX3_fillAllowed_26 : decode cX3_fillAllowed 26 = .ok (.if_icmp .ge 107, 3) := by decide +kernel
theorem dX3_fillAllowed_29 : decode cX3_fillAllowed 29 = .ok (.iconst 1, 1) := by decide +kernel
theorem dX3_fillAllowed_30 : decode cX3_fillAllowed 30 = .ok (.iload_n 2, 1) := by decide +kernel
theorem dX3_fillAllowed_31 : decode cX3_fillAllowed 31 = .ok (.ishl, 1) := by decide +kernel
theorem dX3_fillAllowed_32 : decode cX3_fillAllowed 32 = .ok (.istore_n 3, 1) := by decide +kernel
theorem dX3_fillAllowed_33 : decode cX3_fillAllowed 33 = .ok (.iconst 0, 1) := by decide +kernel
theorem dX3_fillAllowed_34 : decode cX3_fillAllowed 34 = .ok (.istore 4, 2) := by decide +kernel
theorem dX3_fillAllowed_36 : decode cX3_fillAllowed 36 = .ok (.iload 4, 2) := by decide +kernel
theorem dX3_fillAllowed_38 : decode cX3_fillAllowed 38 = .ok (.iload_n 3, 1) := by decide +kernel
theorem dX3_fillAllowed_39 : decode cX3_fillAllowed 39 = .ok (.if_icmp .ge 88, 3) := by decide +kernel
theorem dX3_fillAllowed_42 : decode cX3_fillAllowed 42 = .ok (.aload_n 1, 1) := by decide +kernel
theorem dX3_fillAllowed_43 : decode cX3_fillAllowed 43 = .ok (.iload_n 3, 1) := by decide +kernel
theorem dX3_fillAllowed_44 : decode cX3_fillAllowed 44 = .ok (.iload 4, 2) := by decide +kernel
theorem dX3_fillAllowed_46 : decode cX3_fillAllowed 46 = .ok (.ior, 1) := by decide +kernel
theorem dX3_fillAllowed_47 : decode cX3_fillAllowed 47 = .ok (.aload_n 1, 1) := by decide +kernel
theorem dX3_fillAllowed_48 : decode cX3_fillAllowed 48 = .ok (.iload 4, 2) := by decide +kernel
theorem dX3_fillAllowed_50 : decode cX3_fillAllowed 50 = .ok (.iaload, 1) := by decide +kernel
theorem dX3_fillAllowed_51 : decode cX3_fillAllowed 51 = .ok (.aload_n 0, 1) := by decide +kernel
theorem dX3_fillAllowed_52 : decode cX3_fillAllowed 52 = .ok (.getfield 46, 3) := by decide +kernel
theorem dX3_fillAllowed_55 : decode cX3_fillAllowed 55 = .ok (.getfield 121, 3) := by decide +kernel
theorem dX3_fillAllowed_58 : decode cX3_fillAllowed 58 = .ok (.iload_n 2, 1) := by decide +kernel
theorem dX3_fillAllowed_59 : decode cX3_fillAllowed 59 = .ok (.iaload, 1) := by decide +kernel
theorem dX3_fillAllowed_60 : decode cX3_fillAllowed 60 = .ok (.ior, 1) := by decide +kernel
theorem dX3_fillAllowed_61 : decode cX3_fillAllowed 61 = .ok (.iastore, 1) := by decide +kernel
theorem dX3_fillAllowed_62 : decode cX3_fillAllowed 62 = .ok (.aload_n 0, 1) := by decide +kernel
theorem dX3_fillAllowed_63 : decode cX3_fillAllowed 63 = .ok (.getfield 46, 3) := by decide +kernel
theorem dX3_fillAllowed_66 : decode cX3_fillAllowed 66 = .ok (.getfield 124, 3) := by decide +kernel
theorem dX3_fillAllowed_69 : decode cX3_fillAllowed 69 = .ok (.iload_n 2, 1) := by decide +kernel
theorem dX3_fillAllowed_70 : decode cX3_fillAllowed 70 = .ok (.iaload, 1) := by decide +kernel
theorem dX3_fillAllowed_71 : decode cX3_fillAllowed 71 = .ok (.iload 4, 2) := by decide +kernel
theorem dX3_fillAllowed_73 : decode cX3_fillAllowed 73 = .ok (.iand, 1) := by decide +kernel
theorem dX3_fillAllowed_74 : decode cX3_fillAllowed 74 = .ok (.ifCond .eq 7, 3) := by decide +kernel
theorem dX3_fillAllowed_77 : decode cX3_fillAllowed 77 = .ok (.iconst 1, 1) := by decide +kernel
theorem dX3_fillAllowed_78 : decode cX3_fillAllowed 78 = .ok (.goto 4, 3) := by decide +kernel
theorem dX3_fillAllowed_81 : decode cX3_fillAllowed 81 = .ok (.iconst 0, 1) := by decide +kernel
theorem dX3_fillAllowed_82 : decode cX3_fillAllowed 82 = .ok (.istore 5, 2) := by decide +kernel
theorem dX3_fillAllowed_84 : decode cX3_fillAllowed 84 = .ok (.aload_n 0, 1) := by decide +kernel
theorem dX3_fillAllowed_85 : decode cX3_fillAllowed 85 = .ok (.getfield 23, 3) := by decide +kernel
theorem dX3_fillAllowed_88 : decode cX3_fillAllowed 88 = .ok (.iload_n 3, 1) := by decide +kernel
theorem dX3_fillAllowed_89 : decode cX3_fillAllowed 89 = .ok (.iload 4, 2) := by decide +kernel
theorem dX3_fillAllowed_91 : decode cX3_fillAllowed 91 = .ok (.ior, 1) := by decide +kernel
theorem dX3_fillAllowed_92 : decode cX3_fillAllowed 92 = .ok (.iload 5, 2) := by decide +kernel
theorem dX3_fillAllowed_94 : decode cX3_fillAllowed 94 = .ok (.ifCond .eq 7, 3) := by decide +kernel
theorem dX3_fillAllowed_97 : decode cX3_fillAllowed 97 = .ok (.iconst (-1), 1) := by decide +kernel
theorem dX3_fillAllowed_98 : decode cX3_fillAllowed 98 = .ok (.goto 22, 3) := by decide +kernel
theorem dX3_fillAllowed_101 : decode cX3_fillAllowed 101 = .ok (.aload_n 0, 1) := by decide +kernel
theorem dX3_fillAllowed_102 : decode cX3_fillAllowed 102 = .ok (.getfield 23, 3) := by decide +kernel
theorem dX3_fillAllowed_105 : decode cX3_fillAllowed 105 = .ok (.iload 4, 2) := by decide +kernel
theorem dX3_fillAllowed_107 : decode cX3_fillAllowed 107 = .ok (.iaload, 1) := by decide +kernel
theorem dX3_fillAllowed_108 : decode cX3_fillAllowed 108 = .ok (.aload_n 0, 1) := by decide +kernel
theorem dX3_fillAllowed_109 : decode cX3_fillAllowed 109 = .ok (.getfield 46, 3) := by decide +kernel
theorem dX3_fillAllowed_112 : decode cX3_fillAllowed 112 = .ok (.getfield 127, 3) := by decide +kernel
theorem dX3_fillAllowed_115 : decode cX3_fillAllowed 115 = .ok (.iload_n 2, 1) := by decide +kernel
theorem dX3_fillAllowed_116 : decode cX3_fillAllowed 116 = .ok (.iaload, 1) := by decide +kernel
theorem dX3_fillAllowed_117 : decode cX3_fillAllowed 117 = .ok (.invokestatic 130, 3) := by decide +kernel
theorem dX3_fillAllowed_120 : decode cX3_fillAllowed 120 = .ok (.iastore, 1) := by decide +kernel
theorem dX3_fillAllowed_121 : decode cX3_fillAllowed 121 = .ok (.iinc 4 1, 3) := by decide +kernel
theorem dX3_fillAllowed_124 : decode cX3_fillAllowed 124 = .ok (.goto (-88), 3) := by decide +kernel
theorem dX3_fillAllowed_127 : decode cX3_fillAllowed 127 = .ok (.iinc 2 1, 3) := by decide +kernel
theorem dX3_fillAllowed_130 : decode cX3_fillAllowed 130 = .ok (.goto (-112), 3) := by decide +kernel
theorem dX3_fillAllowed_133 : decode cX3_fillAllowed 133 = .ok (.iconst 1, 1) := by decide +kernel
theorem dX3_fillAllowed_134 : decode cX3_fillAllowed 134 = .ok (.istore_n 2, 1) := by decide +kernel
theorem dX3_fillAllowed_135 : decode cX3_fillAllowed 135 = .ok (.iload_n 2, 1) := by decide +kernel
theorem dX3_fillAllowed_136 : decode cX3_fillAllowed 136 = .ok (.aload_n 0, 1) := by decide +kernel
theorem dX3_fillAllowed_137 : decode cX3_fillAllowed 137 = .ok (.getfield 9, 3) := by decide +kernel
theorem dX3_fillAllowed_140 : decode cX3_fillAllowed 140 = .ok (.if_icmp .gt 26, 3) := by decide +kernel
theorem dX3_fillAllowed_143 : decode cX3_fillAllowed 143 = .ok (.aload_n 1, 1) := by decide +kernel
theorem dX3_fillAllowed_144 : decode cX3_fillAllowed 144 = .ok (.iload_n 2, 1) := by decide +kernel
theorem dX3_fillAllowed_145 : decode cX3_fillAllowed 145 = .ok (.iaload, 1) := by decide +kernel
theorem dX3_fillAllowed_146 : decode cX3_fillAllowed 146 = .ok (.iload_n 2, 1) := by decide +kernel
theorem dX3_fillAllowed_147 : decode cX3_fillAllowed 147 = .ok (.iconst (-1), 1) := by decide +kernel
theorem dX3_fillAllowed_148 : decode cX3_fillAllowed 148 = .ok (.ixor, 1) := by decide +kernel
theorem dX3_fillAllowed_149 : decode cX3_fillAllowed 149 = .ok (.iand, 1) := by decide +kernel
theorem dX3_fillAllowed_150 : decode cX3_fillAllowed 150 = .ok (.ifCond .eq 10, 3) := by decide +kernel
theorem dX3_fillAllowed_153 : decode cX3_fillAllowed 153 = .ok (.aload_n 0, 1) := by decide +kernel
theorem dX3_fillAllowed_154 : decode cX3_fillAllowed 154 = .ok (.getfield 23, 3) := by decide +kernel
theorem dX3_fillAllowed_157 : decode cX3_fillAllowed 157 = .ok (.iload_n 2, 1) := by decide +kernel
theorem dX3_fillAllowed_158 : decode cX3_fillAllowed 158 = .ok (.iconst (-1), 1) := by decide +kernel
theorem dX3_fillAllowed_159 : decode cX3_fillAllowed 159 = .ok (.iastore, 1) := by decide +kernel
theorem dX3_fillAllowed_160 : decode cX3_fillAllowed 160 = .ok (.iinc 2 1, 3) := by decide +kernel
theorem dX3_fillAllowed_163 : decode cX3_fillAllowed 163 = .ok (.goto (-28), 3) := by decide +kernel
theorem dX3_fillAllowed_166 : decode cX3_fillAllowed 166 = .ok (.return_, 1) := by decide +kernel
theorem dX3_meet_0 : decode cX3_meet 0 = .ok (.iload_n 1, 1) := by decide +kernel
theorem dX3_meet_1 : decode cX3_meet 1 = .ok (.ifCond .eq 8, 3) := by decide +kernel
theorem dX3_meet_4 : decode cX3_meet 4 = .ok (.iload_n 0, 1) := by decide +kernel
theorem dX3_meet_5 : decode cX3_meet 5 = .ok (.iload_n 1, 1) := by decide +kernel
theorem dX3_meet_6 : decode cX3_meet 6 = .ok (.if_icmp .ne 5, 3) := by decide +kernel
theorem dX3_meet_9 : decode cX3_meet 9 = .ok (.iload_n 0, 1) := by decide +kernel
theorem dX3_meet_10 : decode cX3_meet 10 = .ok (.ireturn, 1) := by decide +kernel
theorem dX3_meet_11 : decode cX3_meet 11 = .ok (.iload_n 0, 1) := by decide +kernel
theorem dX3_meet_12 : decode cX3_meet 12 = .ok (.ifCond .ne 7, 3) := by decide +kernel
theorem dX3_meet_15 : decode cX3_meet 15 = .ok (.iload_n 1, 1) := by decide +kernel
theorem dX3_meet_16 : decode cX3_meet 16 = .ok (.goto 4, 3) := by decide +kernel
theorem dX3_meet_19 : decode cX3_meet 19 = .ok (.iconst (-1), 1) := by decide +kernel
theorem dX3_meet_20 : decode cX3_meet 20 = .ok (.ireturn, 1) := by decide +kernel
set_option maxRecDepth 20000 in
set_option maxRecDepth 20000 in
theorem ggX3_isFine_X0_isOpen : GoodIn wsX3_isFine wsX0_isOpen := goodIn_r _ [7, 8, 9, 10, 22, 23, 24, 25, 26, 27, 28, 29, 30, 31, 32] rfl (by decide +kernel)
set_option maxRecDepth 20000 in
theorem gX3_isFine_X0_isOpen : GoodIn wsX3_isFine (wsV RX3 133 RX0 yX0_isOpen wsX0_isOpen) := goodIn_app (goodIn_of _ (by decide +kernel)) ggX3_isFine_X0_isOpen
theorem dX3_isFine_0 : decode cX3_isFine 0 = .ok (.iconst 0, 1) := by decide +kernel
theorem dX3_isFine_1 : decode cX3_isFine 1 = .ok (.istore_n 2, 1) := by decide +kernel
theorem dX3_isFine_2 : decode cX3_isFine 2 = .ok (.iload_n 2, 1) := by decide +kernel
theorem dX3_isFine_3 : decode cX3_isFine 3 = .ok (.aload_n 0, 1) := by decide +kernel
theorem dX3_isFine_4 : decode cX3_isFine 4 = .ok (.getfield 46, 3) := by decide +kernel
theorem dX3_isFine_7 : decode cX3_isFine 7 = .ok (.getfield 86, 3) := by decide +kernel
theorem dX3_isFine_10 : decode cX3_isFine 10 = .ok (.if_icmp .ge 31, 3) := by decide +kernel
theorem dX3_isFine_13 : decode cX3_isFine 13 = .ok (.iload_n 1, 1) := by decide +kernel
theorem dX3_isFine_14 : decode cX3_isFine 14 = .ok (.iconst 1, 1) := by decide +kernel
theorem dX3_isFine_15 : decode cX3_isFine 15 = .ok (.iload_n 2, 1) := by decide +kernel
theorem dX3_isFine_16 : decode cX3_isFine 16 = .ok (.ishl, 1) := by decide +kernel
theorem dX3_isFine_17 : decode cX3_isFine 17 = .ok (.iand, 1) := by decide +kernel
theorem dX3_isFine_18 : decode cX3_isFine 18 = .ok (.ifCond .eq 17, 3) := by decide +kernel
theorem dX3_isFine_21 : decode cX3_isFine 21 = .ok (.aload_n 0, 1) := by decide +kernel
theorem dX3_isFine_22 : decode cX3_isFine 22 = .ok (.getfield 46, 3) := by decide +kernel
theorem dX3_isFine_25 : decode cX3_isFine 25 = .ok (.iload_n 2, 1) := by decide +kernel
theorem dX3_isFine_26 : decode cX3_isFine 26 = .ok (.iload_n 1, 1) := by decide +kernel
theorem dX3_isFine_27 : decode cX3_isFine 27 = .ok (.invokevirtual 133, 3) := by decide +kernel
theorem dX3_isFine_30 : decode cX3_isFine 30 = .ok (.ifCond .ne 5, 3) := by decide +kernel
theorem dX3_isFine_33 : decode cX3_isFine 33 = .ok (.iconst 0, 1) := by decide +kernel
theorem dX3_isFine_34 : decode cX3_isFine 34 = .ok (.ireturn, 1) := by decide +kernel
theorem dX3_isFine_35 : decode cX3_isFine 35 = .ok (.iinc 2 1, 3) := by decide +kernel
theorem dX3_isFine_38 : decode cX3_isFine 38 = .ok (.goto (-36), 3) := by decide +kernel
theorem dX3_isFine_41 : decode cX3_isFine 41 = .ok (.iconst 1, 1) := by decide +kernel
theorem dX3_isFine_42 : decode cX3_isFine 42 = .ok (.ireturn, 1) := by decide +kernel
set_option maxRecDepth 20000 in
set_option maxRecDepth 20000 in
theorem ggX3_lengthWithin_X3_spread : GoodIn wsX3_lengthWithin wsX3_spread := goodIn_r _ [10, 1, 2, 11, 5, 12, 13, 14, 15, 16, 17, 18, 19, 20, 21, 22] rfl (by decide +kernel)
set_option maxRecDepth 20000 in
theorem gX3_lengthWithin_X3_spread : GoodIn wsX3_lengthWithin (wsV RX3 137 RX3 yX3_spread wsX3_spread) := goodIn_app (goodIn_of _ (by decide +kernel)) ggX3_lengthWithin_X3_spread
theorem dX3_lengthWithin_0 : decode cX3_lengthWithin 0 = .ok (.iconst 0, 1) := by decide +kernel
theorem dX3_lengthWithin_1 : decode cX3_lengthWithin 1 = .ok (.istore_n 2, 1) := by decide +kernel
theorem dX3_lengthWithin_2 : decode cX3_lengthWithin 2 = .ok (.iload_n 2, 1) := by decide +kernel
theorem dX3_lengthWithin_3 : decode cX3_lengthWithin 3 = .ok (.aload_n 0, 1) := by decide +kernel
theorem dX3_lengthWithin_4 : decode cX3_lengthWithin 4 = .ok (.getfield 9, 3) := by decide +kernel
theorem dX3_lengthWithin_7 : decode cX3_lengthWithin 7 = .ok (.if_icmp .gt 43, 3) := by decide +kernel
theorem dX3_lengthWithin_10 : decode cX3_lengthWithin 10 = .ok (.aload_n 0, 1) := by decide +kernel
theorem dX3_lengthWithin_11 : decode cX3_lengthWithin 11 = .ok (.getfield 26, 3) := by decide +kernel
theorem dX3_lengthWithin_14 : decode cX3_lengthWithin 14 = .ok (.iload_n 2, 1) := by decide +kernel
theorem dX3_lengthWithin_15 : decode cX3_lengthWithin 15 = .ok (.aload_n 0, 1) := by decide +kernel
theorem dX3_lengthWithin_16 : decode cX3_lengthWithin 16 = .ok (.getfield 15, 3) := by decide +kernel
theorem dX3_lengthWithin_19 : decode cX3_lengthWithin 19 = .ok (.iload_n 2, 1) := by decide +kernel
theorem dX3_lengthWithin_20 : decode cX3_lengthWithin 20 = .ok (.iaload, 1) := by decide +kernel
theorem dX3_lengthWithin_21 : decode cX3_lengthWithin 21 = .ok (.iload_n 1, 1) := by decide +kernel
theorem dX3_lengthWithin_22 : decode cX3_lengthWithin 22 = .ok (.if_icmp .le 7, 3) := by decide +kernel
theorem dX3_lengthWithin_25 : decode cX3_lengthWithin 25 = .ok (.iconst (-1), 1) := by decide +kernel
theorem dX3_lengthWithin_26 : decode cX3_lengthWithin 26 = .ok (.goto 9, 3) := by decide +kernel
theorem dX3_lengthWithin_29 : decode cX3_lengthWithin 29 = .ok (.aload_n 0, 1) := by decide +kernel
theorem dX3_lengthWithin_30 : decode cX3_lengthWithin 30 = .ok (.getfield 23, 3) := by decide +kernel
theorem dX3_lengthWithin_33 : decode cX3_lengthWithin 33 = .ok (.iload_n 2, 1) := by decide +kernel
theorem dX3_lengthWithin_34 : decode cX3_lengthWithin 34 = .ok (.iaload, 1) := by decide +kernel
theorem dX3_lengthWithin_35 : decode cX3_lengthWithin 35 = .ok (.iastore, 1) := by decide +kernel
theorem dX3_lengthWithin_36 : decode cX3_lengthWithin 36 = .ok (.aload_n 0, 1) := by decide +kernel
theorem dX3_lengthWithin_37 : decode cX3_lengthWithin 37 = .ok (.getfield 29, 3) := by decide +kernel
theorem dX3_lengthWithin_40 : decode cX3_lengthWithin 40 = .ok (.iload_n 2, 1) := by decide +kernel
theorem dX3_lengthWithin_41 : decode cX3_lengthWithin 41 = .ok (.bipush 11, 2) := by decide +kernel
theorem dX3_lengthWithin_43 : decode cX3_lengthWithin 43 = .ok (.iastore, 1) := by decide +kernel
theorem dX3_lengthWithin_44 : decode cX3_lengthWithin 44 = .ok (.iinc 2 1, 3) := by decide +kernel
theorem dX3_lengthWithin_47 : decode cX3_lengthWithin 47 = .ok (.goto (-45), 3) := by decide +kernel
theorem dX3_lengthWithin_50 : decode cX3_lengthWithin 50 = .ok (.aload_n 0, 1) := by decide +kernel
theorem dX3_lengthWithin_51 : decode cX3_lengthWithin 51 = .ok (.getfield 29, 3) := by decide +kernel
theorem dX3_lengthWithin_54 : decode cX3_lengthWithin 54 = .ok (.iconst 0, 1) := by decide +kernel
theorem dX3_lengthWithin_55 : decode cX3_lengthWithin 55 = .ok (.iconst 0, 1) := by decide +kernel
theorem dX3_lengthWithin_56 : decode cX3_lengthWithin 56 = .ok (.iastore, 1) := by decide +kernel
theorem dX3_lengthWithin_57 : decode cX3_lengthWithin 57 = .ok (.iconst 0, 1) := by decide +kernel
theorem dX3_lengthWithin_58 : decode cX3_lengthWithin 58 = .ok (.istore_n 2, 1) := by decide +kernel
theorem dX3_lengthWithin_59 : decode cX3_lengthWithin 59 = .ok (.iload_n 2, 1) := by decide +kernel
theorem dX3_lengthWithin_60 : decode cX3_lengthWithin 60 = .ok (.aload_n 0, 1) := by decide +kernel
theorem dX3_lengthWithin_61 : decode cX3_lengthWithin 61 = .ok (.getfield 9, 3) := by decide +kernel
theorem dX3_lengthWithin_64 : decode cX3_lengthWithin 64 = .ok (.if_icmp .ge 33, 3) := by decide +kernel
theorem dX3_lengthWithin_67 : decode cX3_lengthWithin 67 = .ok (.aload_n 0, 1) := by decide +kernel
theorem dX3_lengthWithin_68 : decode cX3_lengthWithin 68 = .ok (.getfield 29, 3) := by decide +kernel
theorem dX3_lengthWithin_71 : decode cX3_lengthWithin 71 = .ok (.iload_n 2, 1) := by decide +kernel
theorem dX3_lengthWithin_72 : decode cX3_lengthWithin 72 = .ok (.iaload, 1) := by decide +kernel
theorem dX3_lengthWithin_73 : decode cX3_lengthWithin 73 = .ok (.bipush 10, 2) := by decide +kernel
theorem dX3_lengthWithin_75 : decode cX3_lengthWithin 75 = .ok (.if_icmp .ge 16, 3) := by decide +kernel
theorem dX3_lengthWithin_78 : decode cX3_lengthWithin 78 = .ok (.aload_n 0, 1) := by decide +kernel
theorem dX3_lengthWithin_79 : decode cX3_lengthWithin 79 = .ok (.iload_n 2, 1) := by decide +kernel
theorem dX3_lengthWithin_80 : decode cX3_lengthWithin 80 = .ok (.aload_n 0, 1) := by decide +kernel
theorem dX3_lengthWithin_81 : decode cX3_lengthWithin 81 = .ok (.getfield 29, 3) := by decide +kernel
theorem dX3_lengthWithin_84 : decode cX3_lengthWithin 84 = .ok (.iload_n 2, 1) := by decide +kernel
theorem dX3_lengthWithin_85 : decode cX3_lengthWithin 85 = .ok (.iaload, 1) := by decide +kernel
theorem dX3_lengthWithin_86 : decode cX3_lengthWithin 86 = .ok (.iconst 1, 1) := by decide +kernel
theorem dX3_lengthWithin_87 : decode cX3_lengthWithin 87 = .ok (.iadd, 1) := by decide +kernel
theorem dX3_lengthWithin_88 : decode cX3_lengthWithin 88 = .ok (.invokevirtual 137, 3) := by decide +kernel
theorem dX3_lengthWithin_91 : decode cX3_lengthWithin 91 = .ok (.iinc 2 1, 3) := by decide +kernel
theorem dX3_lengthWithin_94 : decode cX3_lengthWithin 94 = .ok (.goto (-35), 3) := by decide +kernel
theorem dX3_lengthWithin_97 : decode cX3_lengthWithin 97 = .ok (.aload_n 0, 1) := by decide +kernel
theorem dX3_lengthWithin_98 : decode cX3_lengthWithin 98 = .ok (.getfield 29, 3) := by decide +kernel
theorem dX3_lengthWithin_101 : decode cX3_lengthWithin 101 = .ok (.aload_n 0, 1) := by decide +kernel
theorem dX3_lengthWithin_102 : decode cX3_lengthWithin 102 = .ok (.getfield 9, 3) := by decide +kernel
theorem dX3_lengthWithin_105 : decode cX3_lengthWithin 105 = .ok (.iaload, 1) := by decide +kernel
theorem dX3_lengthWithin_106 : decode cX3_lengthWithin 106 = .ok (.ireturn, 1) := by decide +kernel
theorem dX3_spread_0 : decode cX3_spread 0 = .ok (.aload_n 0, 1) := by decide +kernel
theorem dX3_spread_1 : decode cX3_spread 1 = .ok (.getfield 9, 3) := by decide +kernel
theorem dX3_spread_4 : decode cX3_spread 4 = .ok (.iload_n 1, 1) := by decide +kernel
theorem dX3_spread_5 : decode cX3_spread 5 = .ok (.iconst (-1), 1) := by decide +kernel
theorem dX3_spread_6 : decode cX3_spread 6 = .ok (.ixor, 1) := by decide +kernel
theorem dX3_spread_7 : decode cX3_spread 7 = .ok (.iand, 1) := by decide +kernel
theorem dX3_spread_8 : decode cX3_spread 8 = .ok (.istore_n 3, 1) := by decide +kernel
theorem dX3_spread_9 : decode cX3_spread 9 = .ok (.iload_n 3, 1) := by decide +kernel
theorem dX3_spread_10 : decode cX3_spread 10 = .ok (.istore 4, 2) := by decide +kernel
theorem dX3_spread_12 : decode cX3_spread 12 = .ok (.iload 4, 2) := by decide +kernel
theorem dX3_spread_14 : decode cX3_spread 14 = .ok (.ifCond .le 88, 3) := by decide +kernel
theorem dX3_spread_17 : decode cX3_spread 17 = .ok (.aload_n 0, 1) := by decide +kernel
theorem dX3_spread_18 : decode cX3_spread 18 = .ok (.getfield 26, 3) := by decide +kernel
theorem dX3_spread_21 : decode cX3_spread 21 = .ok (.iload 4, 2) := by decide +kernel
theorem dX3_spread_23 : decode cX3_spread 23 = .ok (.iaload, 1) := by decide +kernel
theorem dX3_spread_24 : decode cX3_spread 24 = .ok (.istore 5, 2) := by decide +kernel
theorem dX3_spread_26 : decode cX3_spread 26 = .ok (.iload 5, 2) := by decide +kernel
theorem dX3_spread_28 : decode cX3_spread 28 = .ok (.iconst (-1), 1) := by decide +kernel
theorem dX3_spread_29 : decode cX3_spread 29 = .ok (.if_icmp .eq 62, 3) := by decide +kernel
theorem dX3_spread_32 : decode cX3_spread 32 = .ok (.aload_n 0, 1) := by decide +kernel
theorem dX3_spread_33 : decode cX3_spread 33 = .ok (.getfield 19, 3) := by decide +kernel
theorem dX3_spread_36 : decode cX3_spread 36 = .ok (.iload_n 1, 1) := by decide +kernel
theorem dX3_spread_37 : decode cX3_spread 37 = .ok (.iload 4, 2) := by decide +kernel
theorem dX3_spread_39 : decode cX3_spread 39 = .ok (.ior, 1) := by decide +kernel
theorem dX3_spread_40 : decode cX3_spread 40 = .ok (.baload, 1) := by decide +kernel
theorem dX3_spread_41 : decode cX3_spread 41 = .ok (.ifCond .ne 6, 3) := by decide +kernel
theorem dX3_spread_44 : decode cX3_spread 44 = .ok (.goto 47, 3) := by decide +kernel
theorem dX3_spread_47 : decode cX3_spread 47 = .ok (.iload 5, 2) := by decide +kernel
theorem dX3_spread_49 : decode cX3_spread 49 = .ok (.ifCond .ne 7, 3) := by decide +kernel
theorem dX3_spread_52 : decode cX3_spread 52 = .ok (.iload_n 2, 1) := by decide +kernel
theorem dX3_spread_53 : decode cX3_spread 53 = .ok (.goto 5, 3) := by decide +kernel
theorem dX3_spread_56 : decode cX3_spread 56 = .ok (.iload 5, 2) := by decide +kernel
theorem dX3_spread_58 : decode cX3_spread 58 = .ok (.istore 6, 2) := by decide +kernel
theorem dX3_spread_60 : decode cX3_spread 60 = .ok (.iload 6, 2) := by decide +kernel
theorem dX3_spread_62 : decode cX3_spread 62 = .ok (.iload_n 2, 1) := by decide +kernel
theorem dX3_spread_63 : decode cX3_spread 63 = .ok (.if_icmp .lt 28, 3) := by decide +kernel
theorem dX3_spread_66 : decode cX3_spread 66 = .ok (.iload 6, 2) := by decide +kernel
theorem dX3_spread_68 : decode cX3_spread 68 = .ok (.aload_n 0, 1) := by decide +kernel
theorem dX3_spread_69 : decode cX3_spread 69 = .ok (.getfield 29, 3) := by decide +kernel
theorem dX3_spread_72 : decode cX3_spread 72 = .ok (.iload_n 1, 1) := by decide +kernel
theorem dX3_spread_73 : decode cX3_spread 73 = .ok (.iload 4, 2) := by decide +kernel
theorem dX3_spread_75 : decode cX3_spread 75 = .ok (.ior, 1) := by decide +kernel
theorem dX3_spread_76 : decode cX3_spread 76 = .ok (.iaload, 1) := by decide +kernel
theorem dX3_spread_77 : decode cX3_spread 77 = .ok (.if_icmp .ge 14, 3) := by decide +kernel
theorem dX3_spread_80 : decode cX3_spread 80 = .ok (.aload_n 0, 1) := by decide +kernel
theorem dX3_spread_81 : decode cX3_spread 81 = .ok (.getfield 29, 3) := by decide +kernel
theorem dX3_spread_84 : decode cX3_spread 84 = .ok (.iload_n 1, 1) := by decide +kernel
theorem dX3_spread_85 : decode cX3_spread 85 = .ok (.iload 4, 2) := by decide +kernel
theorem dX3_spread_87 : decode cX3_spread 87 = .ok (.ior, 1) := by decide +kernel
theorem dX3_spread_88 : decode cX3_spread 88 = .ok (.iload 6, 2) := by decide +kernel
theorem dX3_spread_90 : decode cX3_spread 90 = .ok (.iastore, 1) := by decide +kernel
theorem dX3_spread_91 : decode cX3_spread 91 = .ok (.iload 4, 2) := by decide +kernel
theorem dX3_spread_93 : decode cX3_spread 93 = .ok (.iconst 1, 1) := by decide +kernel
theorem dX3_spread_94 : decode cX3_spread 94 = .ok (.isub, 1) := by decide +kernel
theorem dX3_spread_95 : decode cX3_spread 95 = .ok (.iload_n 3, 1) := by decide +kernel
theorem dX3_spread_96 : decode cX3_spread 96 = .ok (.iand, 1) := by decide +kernel
theorem dX3_spread_97 : decode cX3_spread 97 = .ok (.istore 4, 2) := by decide +kernel
theorem dX3_spread_99 : decode cX3_spread 99 = .ok (.goto (-87), 3) := by decide +kernel
theorem dX3_spread_102 : decode cX3_spread 102 = .ok (.return_, 1) := by decide +kernel
set_option maxRecDepth 20000 in
set_option maxRecDepth 20000 in
theorem ggX3_lookBack_X3_latestOf : GoodIn wsX3_lookBack wsX3_latestOf := goodIn_r _ [8, 2, 9, 1, 10, 11, 12, 13, 14, 15, 16, 17, 18, 19, 20] rfl (by decide +kernel)
set_option maxRecDepth 20000 in
theorem gX3_lookBack_X3_latestOf : GoodIn wsX3_lookBack (wsV RX3 140 RX3 yX3_latestOf wsX3_latestOf) := goodIn_app (goodIn_of _ (by decide +kernel)) ggX3_lookBack_X3_latestOf
theorem dX3_lookBack_0 : decode cX3_lookBack 0 = .ok (.aload_n 0, 1) := by decide +kernel
theorem dX3_lookBack_1 : decode cX3_lookBack 1 = .ok (.getfield 32, 3) := by decide +kernel
theorem dX3_lookBack_4 : decode cX3_lookBack 4 = .ok (.aload_n 0, 1) := by decide +kernel
theorem dX3_lookBack_5 : decode cX3_lookBack 5 = .ok (.getfield 9, 3) := by decide +kernel
theorem dX3_lookBack_8 : decode cX3_lookBack 8 = .ok (.iload_n 1, 1) := by decide +kernel
theorem dX3_lookBack_9 : decode cX3_lookBack 9 = .ok (.iastore, 1) := by decide +kernel
theorem dX3_lookBack_10 : decode cX3_lookBack 10 = .ok (.aload_n 0, 1) := by decide +kernel
theorem dX3_lookBack_11 : decode cX3_lookBack 11 = .ok (.getfield 9, 3) := by decide +kernel
theorem dX3_lookBack_14 : decode cX3_lookBack 14 = .ok (.iconst 1, 1) := by decide +kernel
theorem dX3_lookBack_15 : decode cX3_lookBack 15 = .ok (.isub, 1) := by decide +kernel
theorem dX3_lookBack_16 : decode cX3_lookBack 16 = .ok (.istore_n 2, 1) := by decide +kernel
theorem dX3_lookBack_17 : decode cX3_lookBack 17 = .ok (.iload_n 2, 1) := by decide +kernel
theorem dX3_lookBack_18 : decode cX3_lookBack 18 = .ok (.ifCond .lt 50, 3) := by decide +kernel
theorem dX3_lookBack_21 : decode cX3_lookBack 21 = .ok (.aload_n 0, 1) := by decide +kernel
theorem dX3_lookBack_22 : decode cX3_lookBack 22 = .ok (.getfield 29, 3) := by decide +kernel
theorem dX3_lookBack_25 : decode cX3_lookBack 25 = .ok (.iload_n 2, 1) := by decide +kernel
theorem dX3_lookBack_26 : decode cX3_lookBack 26 = .ok (.iaload, 1) := by decide +kernel
theorem dX3_lookBack_27 : decode cX3_lookBack 27 = .ok (.iload_n 1, 1) := by decide +kernel
theorem dX3_lookBack_28 : decode cX3_lookBack 28 = .ok (.if_icmp .le 7, 3) := by decide +kernel
theorem dX3_lookBack_31 : decode cX3_lookBack 31 = .ok (.iconst (-1), 1) := by decide +kernel
theorem dX3_lookBack_32 : decode cX3_lookBack 32 = .ok (.goto 8, 3) := by decide +kernel
theorem dX3_lookBack_35 : decode cX3_lookBack 35 = .ok (.aload_n 0, 1) := by decide +kernel
theorem dX3_lookBack_36 : decode cX3_lookBack 36 = .ok (.iload_n 2, 1) := by decide +kernel
theorem dX3_lookBack_37 : decode cX3_lookBack 37 = .ok (.invokevirtual 140, 3) := by decide +kernel
theorem dX3_lookBack_40 : decode cX3_lookBack 40 = .ok (.istore_n 3, 1) := by decide +kernel
theorem dX3_lookBack_41 : decode cX3_lookBack 41 = .ok (.aload_n 0, 1) := by decide +kernel
theorem dX3_lookBack_42 : decode cX3_lookBack 42 = .ok (.getfield 32, 3) := by decide +kernel
theorem dX3_lookBack_45 : decode cX3_lookBack 45 = .ok (.iload_n 2, 1) := by decide +kernel
theorem dX3_lookBack_46 : decode cX3_lookBack 46 = .ok (.iload_n 3, 1) := by decide +kernel
theorem dX3_lookBack_47 : decode cX3_lookBack 47 = .ok (.aload_n 0, 1) := by decide +kernel
theorem dX3_lookBack_48 : decode cX3_lookBack 48 = .ok (.getfield 29, 3) := by decide +kernel
theorem dX3_lookBack_51 : decode cX3_lookBack 51 = .ok (.iload_n 2, 1) := by decide +kernel
theorem dX3_lookBack_52 : decode cX3_lookBack 52 = .ok (.iaload, 1) := by decide +kernel
theorem dX3_lookBack_53 : decode cX3_lookBack 53 = .ok (.if_icmp .ge 7, 3) := by decide +kernel
theorem dX3_lookBack_56 : decode cX3_lookBack 56 = .ok (.iconst (-1), 1) := by decide +kernel
theorem dX3_lookBack_57 : decode cX3_lookBack 57 = .ok (.goto 4, 3) := by decide +kernel
theorem dX3_lookBack_60 : decode cX3_lookBack 60 = .ok (.iload_n 3, 1) := by decide +kernel
theorem dX3_lookBack_61 : decode cX3_lookBack 61 = .ok (.iastore, 1) := by decide +kernel
theorem dX3_lookBack_62 : decode cX3_lookBack 62 = .ok (.iinc 2 (-1), 3) := by decide +kernel
theorem dX3_lookBack_65 : decode cX3_lookBack 65 = .ok (.goto (-48), 3) := by decide +kernel
theorem dX3_lookBack_68 : decode cX3_lookBack 68 = .ok (.return_, 1) := by decide +kernel
