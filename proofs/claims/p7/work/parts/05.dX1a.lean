theorem dX1_init_0 : decode cX1_init 0 = .ok (.aload_n 0, 1) := by decide +kernel
theorem dX1_init_1 : decode cX1_init 1 = .ok (.invokespecial 3, 3) := by decide +kernel
theorem dX1_init_4 : decode cX1_init 4 = .ok (.aload_n 0, 1) := by decide +kernel
theorem dX1_init_5 : decode cX1_init 5 = .ok (.bipush 10, 2) := by decide +kernel
theorem dX1_init_7 : decode cX1_init 7 = .ok (.newarray .int, 2) := by decide +kernel
theorem dX1_init_9 : decode cX1_init 9 = .ok (.putfield 9, 3) := by decide +kernel
theorem dX1_init_12 : decode cX1_init 12 = .ok (.aload_n 0, 1) := by decide +kernel
theorem dX1_init_13 : decode cX1_init 13 = .ok (.aload_n 1, 1) := by decide +kernel
theorem dX1_init_14 : decode cX1_init 14 = .ok (.putfield 15, 3) := by decide +kernel
theorem dX1_init_17 : decode cX1_init 17 = .ok (.return_, 1) := by decide +kernel
theorem dX1_copyRow_0 : decode cX1_copyRow 0 = .ok (.aload_n 1, 1) := by decide +kernel
theorem dX1_copyRow_1 : decode cX1_copyRow 1 = .ok (.getfield 9, 3) := by decide +kernel
theorem dX1_copyRow_4 : decode cX1_copyRow 4 = .ok (.iconst 0, 1) := by decide +kernel
theorem dX1_copyRow_5 : decode cX1_copyRow 5 = .ok (.aload_n 0, 1) := by decide +kernel
theorem dX1_copyRow_6 : decode cX1_copyRow 6 = .ok (.getfield 9, 3) := by decide +kernel
theorem dX1_copyRow_9 : decode cX1_copyRow 9 = .ok (.iconst 0, 1) := by decide +kernel
theorem dX1_copyRow_10 : decode cX1_copyRow 10 = .ok (.bipush 10, 2) := by decide +kernel
theorem dX1_copyRow_12 : decode cX1_copyRow 12 = .ok (.invokestatic 19, 3) := by decide +kernel
theorem dX1_copyRow_15 : decode cX1_copyRow 15 = .ok (.return_, 1) := by decide +kernel
theorem dX1_setAt_0 : decode cX1_setAt 0 = .ok (.iconst 0, 1) := by decide +kernel
theorem dX1_setAt_1 : decode cX1_setAt 1 = .ok (.istore_n 2, 1) := by decide +kernel
theorem dX1_setAt_2 : decode cX1_setAt 2 = .ok (.iconst 0, 1) := by decide +kernel
theorem dX1_setAt_3 : decode cX1_setAt 3 = .ok (.istore_n 3, 1) := by decide +kernel
theorem dX1_setAt_4 : decode cX1_setAt 4 = .ok (.iload_n 3, 1) := by decide +kernel
theorem dX1_setAt_5 : decode cX1_setAt 5 = .ok (.aload_n 0, 1) := by decide +kernel
theorem dX1_setAt_6 : decode cX1_setAt 6 = .ok (.getfield 15, 3) := by decide +kernel
theorem dX1_setAt_9 : decode cX1_setAt 9 = .ok (.getfield 25, 3) := by decide +kernel
theorem dX1_setAt_12 : decode cX1_setAt 12 = .ok (.if_icmp .ge 25, 3) := by decide +kernel
theorem dX1_setAt_15 : decode cX1_setAt 15 = .ok (.aload_n 0, 1) := by decide +kernel
theorem dX1_setAt_16 : decode cX1_setAt 16 = .ok (.getfield 9, 3) := by decide +kernel
theorem dX1_setAt_19 : decode cX1_setAt 19 = .ok (.iload_n 3, 1) := by decide +kernel
theorem dX1_setAt_20 : decode cX1_setAt 20 = .ok (.iaload, 1) := by decide +kernel
theorem dX1_setAt_21 : decode cX1_setAt 21 = .ok (.iload_n 1, 1) := by decide +kernel
theorem dX1_setAt_22 : decode cX1_setAt 22 = .ok (.if_icmp .ne 9, 3) := by decide +kernel
theorem dX1_setAt_25 : decode cX1_setAt 25 = .ok (.iload_n 2, 1) := by decide +kernel
theorem dX1_setAt_26 : decode cX1_setAt 26 = .ok (.iconst 1, 1) := by decide +kernel
theorem dX1_setAt_27 : decode cX1_setAt 27 = .ok (.iload_n 3, 1) := by decide +kernel
theorem dX1_setAt_28 : decode cX1_setAt 28 = .ok (.ishl, 1) := by decide +kernel
theorem dX1_setAt_29 : decode cX1_setAt 29 = .ok (.ior, 1) := by decide +kernel
theorem dX1_setAt_30 : decode cX1_setAt 30 = .ok (.istore_n 2, 1) := by decide +kernel
theorem dX1_setAt_31 : decode cX1_setAt 31 = .ok (.iinc 3 1, 3) := by decide +kernel
theorem dX1_setAt_34 : decode cX1_setAt 34 = .ok (.goto (-30), 3) := by decide +kernel
theorem dX1_setAt_37 : decode cX1_setAt 37 = .ok (.iload_n 2, 1) := by decide +kernel
theorem dX1_setAt_38 : decode cX1_setAt 38 = .ok (.ireturn, 1) := by decide +kernel
theorem dX1_setUpTo_0 : decode cX1_setUpTo 0 = .ok (.iconst 0, 1) := by decide +kernel
theorem dX1_setUpTo_1 : decode cX1_setUpTo 1 = .ok (.istore_n 2, 1) := by decide +kernel
theorem dX1_setUpTo_2 : decode cX1_setUpTo 2 = .ok (.iconst 0, 1) := by decide +kernel
theorem dX1_setUpTo_3 : decode cX1_setUpTo 3 = .ok (.istore_n 3, 1) := by decide +kernel
theorem dX1_setUpTo_4 : decode cX1_setUpTo 4 = .ok (.iload_n 3, 1) := by decide +kernel
theorem dX1_setUpTo_5 : decode cX1_setUpTo 5 = .ok (.aload_n 0, 1) := by decide +kernel
theorem dX1_setUpTo_6 : decode cX1_setUpTo 6 = .ok (.getfield 15, 3) := by decide +kernel
theorem dX1_setUpTo_9 : decode cX1_setUpTo 9 = .ok (.getfield 25, 3) := by decide +kernel
theorem dX1_setUpTo_12 : decode cX1_setUpTo 12 = .ok (.if_icmp .ge 34, 3) := by decide +kernel
theorem dX1_setUpTo_15 : decode cX1_setUpTo 15 = .ok (.aload_n 0, 1) := by decide +kernel
theorem dX1_setUpTo_16 : decode cX1_setUpTo 16 = .ok (.getfield 9, 3) := by decide +kernel
theorem dX1_setUpTo_19 : decode cX1_setUpTo 19 = .ok (.iload_n 3, 1) := by decide +kernel
theorem dX1_setUpTo_20 : decode cX1_setUpTo 20 = .ok (.iaload, 1) := by decide +kernel
theorem dX1_setUpTo_21 : decode cX1_setUpTo 21 = .ok (.ifCond .le 19, 3) := by decide +kernel
theorem dX1_setUpTo_24 : decode cX1_setUpTo 24 = .ok (.aload_n 0, 1) := by decide +kernel
theorem dX1_setUpTo_25 : decode cX1_setUpTo 25 = .ok (.getfield 9, 3) := by decide +kernel
theorem dX1_setUpTo_28 : decode cX1_setUpTo 28 = .ok (.iload_n 3, 1) := by decide +kernel
theorem dX1_setUpTo_29 : decode cX1_setUpTo 29 = .ok (.iaload, 1) := by decide +kernel
theorem dX1_setUpTo_30 : decode cX1_setUpTo 30 = .ok (.iload_n 1, 1) := by decide +kernel
theorem dX1_setUpTo_31 : decode cX1_setUpTo 31 = .ok (.if_icmp .gt 9, 3) := by decide +kernel
theorem dX1_setUpTo_34 : decode cX1_setUpTo 34 = .ok (.iload_n 2, 1) := by decide +kernel
theorem dX1_setUpTo_35 : decode cX1_setUpTo 35 = .ok (.iconst 1, 1) := by decide +kernel
theorem dX1_setUpTo_36 : decode cX1_setUpTo 36 = .ok (.iload_n 3, 1) := by decide +kernel
theorem dX1_setUpTo_37 : decode cX1_setUpTo 37 = .ok (.ishl, 1) := by decide +kernel
theorem dX1_setUpTo_38 : decode cX1_setUpTo 38 = .ok (.ior, 1) := by decide +kernel
theorem dX1_setUpTo_39 : decode cX1_setUpTo 39 = .ok (.istore_n 2, 1) := by decide +kernel
theorem dX1_setUpTo_40 : decode cX1_setUpTo 40 = .ok (.iinc 3 1, 3) := by decide +kernel
theorem dX1_setUpTo_43 : decode cX1_setUpTo 43 = .ok (.goto (-39), 3) := by decide +kernel
theorem dX1_setUpTo_46 : decode cX1_setUpTo 46 = .ok (.iload_n 2, 1) := by decide +kernel
theorem dX1_setUpTo_47 : decode cX1_setUpTo 47 = .ok (.ireturn, 1) := by decide +kernel
theorem dX1_greatest_0 : decode cX1_greatest 0 = .ok (.iconst 0, 1) := by decide +kernel
theorem dX1_greatest_1 : decode cX1_greatest 1 = .ok (.istore_n 1, 1) := by decide +kernel
theorem dX1_greatest_2 : decode cX1_greatest 2 = .ok (.iconst 0, 1) := by decide +kernel
theorem dX1_greatest_3 : decode cX1_greatest 3 = .ok (.istore_n 2, 1) := by decide +kernel
theorem dX1_greatest_4 : decode cX1_greatest 4 = .ok (.iload_n 2, 1) := by decide +kernel
theorem dX1_greatest_5 : decode cX1_greatest 5 = .ok (.aload_n 0, 1) := by decide +kernel
theorem dX1_greatest_6 : decode cX1_greatest 6 = .ok (.getfield 15, 3) := by decide +kernel
theorem dX1_greatest_9 : decode cX1_greatest 9 = .ok (.getfield 25, 3) := by decide +kernel
theorem dX1_greatest_12 : decode cX1_greatest 12 = .ok (.if_icmp .ge 20, 3) := by decide +kernel
theorem dX1_greatest_15 : decode cX1_greatest 15 = .ok (.iload_n 1, 1) := by decide +kernel
theorem dX1_greatest_16 : decode cX1_greatest 16 = .ok (.aload_n 0, 1) := by decide +kernel
theorem dX1_greatest_17 : decode cX1_greatest 17 = .ok (.getfield 9, 3) := by decide +kernel
theorem dX1_greatest_20 : decode cX1_greatest 20 = .ok (.iload_n 2, 1) := by decide +kernel
theorem dX1_greatest_21 : decode cX1_greatest 21 = .ok (.iaload, 1) := by decide +kernel
theorem dX1_greatest_22 : decode cX1_greatest 22 = .ok (.invokestatic 31, 3) := by decide +kernel
theorem dX1_greatest_25 : decode cX1_greatest 25 = .ok (.istore_n 1, 1) := by decide +kernel
theorem dX1_greatest_26 : decode cX1_greatest 26 = .ok (.iinc 2 1, 3) := by decide +kernel
theorem dX1_greatest_29 : decode cX1_greatest 29 = .ok (.goto (-25), 3) := by decide +kernel
theorem dX1_greatest_32 : decode cX1_greatest 32 = .ok (.iload_n 1, 1) := by decide +kernel
theorem dX1_greatest_33 : decode cX1_greatest 33 = .ok (.ireturn, 1) := by decide +kernel
set_option maxRecDepth 20000 in
set_option maxRecDepth 20000 in
theorem ggX1_squareAt_X1_setAt : GoodIn wsX1_squareAt wsX1_setAt := goodIn_r _ [6, 1, 7, 8, 34, 35, 36, 37, 38, 39, 40, 41, 42, 43, 44, 45, 46] rfl (by decide +kernel)
set_option maxRecDepth 20000 in
theorem gX1_squareAt_X1_setAt : GoodIn wsX1_squareAt (wsV RX1 37 RX1 yX1_setAt wsX1_setAt) := goodIn_app (goodIn_of _ (by decide +kernel)) ggX1_squareAt_X1_setAt
set_option maxRecDepth 20000 in
set_option maxRecDepth 20000 in
theorem ggX1_squareAt_X0_loadOf : GoodIn wsX1_squareAt wsX0_loadOf := goodIn_r _ [13, 14, 15, 16, 12, 17, 18, 19, 20, 21, 22, 23, 24, 25, 26, 27, 28, 29, 30, 31, 32, 33, 36, 37, 38, 39, 40, 41, 42, 43, 44, 45, 46] rfl (by decide +kernel)
set_option maxRecDepth 20000 in
theorem gX1_squareAt_X0_loadOf : GoodIn wsX1_squareAt (wsV RX1 41 RX0 yX0_loadOf wsX0_loadOf) := goodIn_app (goodIn_of _ (by decide +kernel)) ggX1_squareAt_X0_loadOf
theorem dX1_squareAt_0 : decode cX1_squareAt 0 = .ok (.aload_n 0, 1) := by decide +kernel
theorem dX1_squareAt_1 : decode cX1_squareAt 1 = .ok (.getfield 15, 3) := by decide +kernel
theorem dX1_squareAt_4 : decode cX1_squareAt 4 = .ok (.aload_n 0, 1) := by decide +kernel
theorem dX1_squareAt_5 : decode cX1_squareAt 5 = .ok (.iload_n 1, 1) := by decide +kernel
theorem dX1_squareAt_6 : decode cX1_squareAt 6 = .ok (.invokevirtual 37, 3) := by decide +kernel
theorem dX1_squareAt_9 : decode cX1_squareAt 9 = .ok (.invokevirtual 41, 3) := by decide +kernel
theorem dX1_squareAt_12 : decode cX1_squareAt 12 = .ok (.i2l, 1) := by decide +kernel
theorem dX1_squareAt_13 : decode cX1_squareAt 13 = .ok (.lstore_n 2, 1) := by decide +kernel
theorem dX1_squareAt_14 : decode cX1_squareAt 14 = .ok (.lload_n 2, 1) := by decide +kernel
theorem dX1_squareAt_15 : decode cX1_squareAt 15 = .ok (.lload_n 2, 1) := by decide +kernel
theorem dX1_squareAt_16 : decode cX1_squareAt 16 = .ok (.lmul, 1) := by decide +kernel
theorem dX1_squareAt_17 : decode cX1_squareAt 17 = .ok (.lreturn, 1) := by decide +kernel
set_option maxRecDepth 20000 in
set_option maxRecDepth 20000 in
theorem ggX1_squareSum_X1_squareAt : GoodIn wsX1_squareSum wsX1_squareAt := goodIn_r _ [5, 6, 7, 8, 9, 4, 10, 11, 12, 13, 14, 15, 16, 17, 18, 19, 20, 21, 22, 23, 24, 25, 26, 27, 28, 29, 30, 31, 32, 33, 34, 35, 36, 37, 38, 39, 40, 41, 42, 43, 44, 45, 46, 47, 48, 49, 50] rfl (by decide +kernel)
set_option maxRecDepth 20000 in
theorem gX1_squareSum_X1_squareAt : GoodIn wsX1_squareSum (wsV RX1 44 RX1 yX1_squareAt wsX1_squareAt) := goodIn_app (goodIn_of _ (by decide +kernel)) ggX1_squareSum_X1_squareAt
theorem dX1_squareSum_0 : decode cX1_squareSum 0 = .ok (.lconst 0, 1) := by decide +kernel
theorem dX1_squareSum_1 : decode cX1_squareSum 1 = .ok (.lstore_n 1, 1) := by decide +kernel
theorem dX1_squareSum_2 : decode cX1_squareSum 2 = .ok (.iconst 1, 1) := by decide +kernel
theorem dX1_squareSum_3 : decode cX1_squareSum 3 = .ok (.istore_n 3, 1) := by decide +kernel
theorem dX1_squareSum_4 : decode cX1_squareSum 4 = .ok (.iload_n 3, 1) := by decide +kernel
theorem dX1_squareSum_5 : decode cX1_squareSum 5 = .ok (.bipush 10, 2) := by decide +kernel
theorem dX1_squareSum_7 : decode cX1_squareSum 7 = .ok (.if_icmp .gt 17, 3) := by decide +kernel
theorem dX1_squareSum_10 : decode cX1_squareSum 10 = .ok (.lload_n 1, 1) := by decide +kernel
theorem dX1_squareSum_11 : decode cX1_squareSum 11 = .ok (.aload_n 0, 1) := by decide +kernel
theorem dX1_squareSum_12 : decode cX1_squareSum 12 = .ok (.iload_n 3, 1) := by decide +kernel
theorem dX1_squareSum_13 : decode cX1_squareSum 13 = .ok (.invokevirtual 44, 3) := by decide +kernel
theorem dX1_squareSum_16 : decode cX1_squareSum 16 = .ok (.ladd, 1) := by decide +kernel
theorem dX1_squareSum_17 : decode cX1_squareSum 17 = .ok (.lstore_n 1, 1) := by decide +kernel
theorem dX1_squareSum_18 : decode cX1_squareSum 18 = .ok (.iinc 3 1, 3) := by decide +kernel
theorem dX1_squareSum_21 : decode cX1_squareSum 21 = .ok (.goto (-17), 3) := by decide +kernel
theorem dX1_squareSum_24 : decode cX1_squareSum 24 = .ok (.lload_n 1, 1) := by decide +kernel
theorem dX1_squareSum_25 : decode cX1_squareSum 25 = .ok (.lreturn, 1) := by decide +kernel
set_option maxRecDepth 20000 in
set_option maxRecDepth 20000 in
theorem ggX1_causeOf_X1_setAt : GoodIn wsX1_causeOf wsX1_setAt := goodIn_r _ [10, 2, 11, 1, 56, 57, 58, 59, 60, 61, 62, 63, 64, 65, 66, 67, 68] rfl (by decide +kernel)
set_option maxRecDepth 20000 in
theorem gX1_causeOf_X1_setAt : GoodIn wsX1_causeOf (wsV RX1 37 RX1 yX1_setAt wsX1_setAt) := goodIn_app (goodIn_of _ (by decide +kernel)) ggX1_causeOf_X1_setAt
set_option maxRecDepth 20000 in
set_option maxRecDepth 20000 in
theorem ggX1_causeOf_X0_loadOf : GoodIn wsX1_causeOf wsX0_loadOf := goodIn_r _ [16, 17, 18, 19, 15, 20, 21, 22, 23, 24, 25, 26, 27, 28, 29, 30, 31, 32, 33, 34, 35, 36, 58, 59, 60, 61, 62, 63, 64, 65, 66, 67, 68] rfl (by decide +kernel)
set_option maxRecDepth 20000 in
theorem gX1_causeOf_X0_loadOf : GoodIn wsX1_causeOf (wsV RX1 41 RX0 yX0_loadOf wsX0_loadOf) := goodIn_app (goodIn_of _ (by decide +kernel)) ggX1_causeOf_X0_loadOf
set_option maxRecDepth 20000 in
set_option maxRecDepth 20000 in
theorem ggX1_causeOf_X0_room : GoodIn wsX1_causeOf wsX0_room := goodIn_r _ [40, 21, 41, 42, 43, 44, 15, 45, 22, 58, 59, 60, 61, 62, 63, 64, 65, 66, 67, 68] rfl (by decide +kernel)
set_option maxRecDepth 20000 in
theorem gX1_causeOf_X0_room : GoodIn wsX1_causeOf (wsV RX1 48 RX0 yX0_room wsX0_room) := goodIn_app (goodIn_of _ (by decide +kernel)) ggX1_causeOf_X0_room
set_option maxRecDepth 20000 in
set_option maxRecDepth 20000 in
theorem ggX1_causeOf_X1_setUpTo : GoodIn wsX1_causeOf wsX1_setUpTo := goodIn_r _ [49, 2, 11, 1, 56, 57, 58, 59, 60, 61, 62, 63, 64, 65, 66, 67, 68] rfl (by decide +kernel)
set_option maxRecDepth 20000 in
theorem gX1_causeOf_X1_setUpTo : GoodIn wsX1_causeOf (wsV RX1 61 RX1 yX1_setUpTo wsX1_setUpTo) := goodIn_app (goodIn_of _ (by decide +kernel)) ggX1_causeOf_X1_setUpTo
set_option maxRecDepth 20000 in
set_option maxRecDepth 20000 in
theorem ggX1_causeOf_X0_isOpen : GoodIn wsX1_causeOf wsX0_isOpen := goodIn_r _ [53, 54, 21, 55, 58, 59, 60, 61, 62, 63, 64, 65, 66, 67, 68] rfl (by decide +kernel)
set_option maxRecDepth 20000 in
theorem gX1_causeOf_X0_isOpen : GoodIn wsX1_causeOf (wsV RX1 64 RX0 yX0_isOpen wsX0_isOpen) := goodIn_app (goodIn_of _ (by decide +kernel)) ggX1_causeOf_X0_isOpen
theorem dX1_causeOf_0 : decode cX1_causeOf 0 = .ok (.aload_n 0, 1) := by decide +kernel
theorem dX1_causeOf_1 : decode cX1_causeOf 1 = .ok (.getfield 9, 3) := by decide +kernel
theorem dX1_causeOf_4 : decode cX1_causeOf 4 = .ok (.iload_n 1, 1) := by decide +kernel
theorem dX1_causeOf_5 : decode cX1_causeOf 5 = .ok (.iaload, 1) := by decide +kernel
theorem dX1_causeOf_6 : decode cX1_causeOf 6 = .ok (.istore_n 2, 1) := by decide +kernel
theorem dX1_causeOf_7 : decode cX1_causeOf 7 = .ok (.iload_n 2, 1) := by decide +kernel
theorem dX1_causeOf_8 : decode cX1_causeOf 8 = .ok (.ifCond .ne 5, 3) := by decide +kernel
theorem dX1_causeOf_11 : decode cX1_causeOf 11 = .ok (.iconst 1, 1) := by decide +kernel
theorem dX1_causeOf_12 : decode cX1_causeOf 12 = .ok (.ireturn, 1) := by decide +kernel
theorem dX1_causeOf_13 : decode cX1_causeOf 13 = .ok (.aload_n 0, 1) := by decide +kernel
theorem dX1_causeOf_14 : decode cX1_causeOf 14 = .ok (.iload_n 2, 1) := by decide +kernel
theorem dX1_causeOf_15 : decode cX1_causeOf 15 = .ok (.invokevirtual 37, 3) := by decide +kernel
theorem dX1_causeOf_18 : decode cX1_causeOf 18 = .ok (.istore_n 3, 1) := by decide +kernel
theorem dX1_causeOf_19 : decode cX1_causeOf 19 = .ok (.aload_n 0, 1) := by decide +kernel
theorem dX1_causeOf_20 : decode cX1_causeOf 20 = .ok (.getfield 15, 3) := by decide +kernel
theorem dX1_causeOf_23 : decode cX1_causeOf 23 = .ok (.iload_n 3, 1) := by decide +kernel
theorem dX1_causeOf_24 : decode cX1_causeOf 24 = .ok (.invokevirtual 41, 3) := by decide +kernel
theorem dX1_causeOf_27 : decode cX1_causeOf 27 = .ok (.aload_n 0, 1) := by decide +kernel
theorem dX1_causeOf_28 : decode cX1_causeOf 28 = .ok (.getfield 15, 3) := by decide +kernel
theorem dX1_causeOf_31 : decode cX1_causeOf 31 = .ok (.invokevirtual 48, 3) := by decide +kernel
theorem dX1_causeOf_34 : decode cX1_causeOf 34 = .ok (.if_icmp .le 5, 3) := by decide +kernel
theorem dX1_causeOf_37 : decode cX1_causeOf 37 = .ok (.iconst 2, 1) := by decide +kernel
theorem dX1_causeOf_38 : decode cX1_causeOf 38 = .ok (.ireturn, 1) := by decide +kernel
theorem dX1_causeOf_39 : decode cX1_causeOf 39 = .ok (.aload_n 0, 1) := by decide +kernel
theorem dX1_causeOf_40 : decode cX1_causeOf 40 = .ok (.getfield 15, 3) := by decide +kernel
theorem dX1_causeOf_43 : decode cX1_causeOf 43 = .ok (.getfield 52, 3) := by decide +kernel
theorem dX1_causeOf_46 : decode cX1_causeOf 46 = .ok (.iload_n 1, 1) := by decide +kernel
theorem dX1_causeOf_47 : decode cX1_causeOf 47 = .ok (.iaload, 1) := by decide +kernel
theorem dX1_causeOf_48 : decode cX1_causeOf 48 = .ok (.iload_n 3, 1) := by decide +kernel
theorem dX1_causeOf_49 : decode cX1_causeOf 49 = .ok (.iconst (-1), 1) := by decide +kernel
theorem dX1_causeOf_50 : decode cX1_causeOf 50 = .ok (.ixor, 1) := by decide +kernel
theorem dX1_causeOf_51 : decode cX1_causeOf 51 = .ok (.iand, 1) := by decide +kernel
theorem dX1_causeOf_52 : decode cX1_causeOf 52 = .ok (.ifCond .eq 5, 3) := by decide +kernel
theorem dX1_causeOf_55 : decode cX1_causeOf 55 = .ok (.iconst 3, 1) := by decide +kernel
theorem dX1_causeOf_56 : decode cX1_causeOf 56 = .ok (.ireturn, 1) := by decide +kernel
theorem dX1_causeOf_57 : decode cX1_causeOf 57 = .ok (.aload_n 0, 1) := by decide +kernel
theorem dX1_causeOf_58 : decode cX1_causeOf 58 = .ok (.getfield 15, 3) := by decide +kernel
theorem dX1_causeOf_61 : decode cX1_causeOf 61 = .ok (.getfield 55, 3) := by decide +kernel
theorem dX1_causeOf_64 : decode cX1_causeOf 64 = .ok (.iload_n 1, 1) := by decide +kernel
theorem dX1_causeOf_65 : decode cX1_causeOf 65 = .ok (.iaload, 1) := by decide +kernel
theorem dX1_causeOf_66 : decode cX1_causeOf 66 = .ok (.iload_n 3, 1) := by decide +kernel
theorem dX1_causeOf_67 : decode cX1_causeOf 67 = .ok (.iand, 1) := by decide +kernel
theorem dX1_causeOf_68 : decode cX1_causeOf 68 = .ok (.ifCond .eq 5, 3) := by decide +kernel
theorem dX1_causeOf_71 : decode cX1_causeOf 71 = .ok (.iconst 4, 1) := by decide +kernel
theorem dX1_causeOf_72 : decode cX1_causeOf 72 = .ok (.ireturn, 1) := by decide +kernel
theorem dX1_causeOf_73 : decode cX1_causeOf 73 = .ok (.aload_n 0, 1) := by decide +kernel
theorem dX1_causeOf_74 : decode cX1_causeOf 74 = .ok (.getfield 15, 3) := by decide +kernel
theorem dX1_causeOf_77 : decode cX1_causeOf 77 = .ok (.getfield 58, 3) := by decide +kernel
theorem dX1_causeOf_80 : decode cX1_causeOf 80 = .ok (.iload_n 1, 1) := by decide +kernel
theorem dX1_causeOf_81 : decode cX1_causeOf 81 = .ok (.iaload, 1) := by decide +kernel
theorem dX1_causeOf_82 : decode cX1_causeOf 82 = .ok (.ifCond .eq 18, 3) := by decide +kernel
theorem dX1_causeOf_85 : decode cX1_causeOf 85 = .ok (.aload_n 0, 1) := by decide +kernel
theorem dX1_causeOf_86 : decode cX1_causeOf 86 = .ok (.getfield 15, 3) := by decide +kernel
theorem dX1_causeOf_89 : decode cX1_causeOf 89 = .ok (.getfield 58, 3) := by decide +kernel
theorem dX1_causeOf_92 : decode cX1_causeOf 92 = .ok (.iload_n 1, 1) := by decide +kernel
theorem dX1_causeOf_93 : decode cX1_causeOf 93 = .ok (.iaload, 1) := by decide +kernel
theorem dX1_causeOf_94 : decode cX1_causeOf 94 = .ok (.iload_n 2, 1) := by decide +kernel
theorem dX1_causeOf_95 : decode cX1_causeOf 95 = .ok (.if_icmp .eq 5, 3) := by decide +kernel
theorem dX1_causeOf_98 : decode cX1_causeOf 98 = .ok (.iconst 5, 1) := by decide +kernel
theorem dX1_causeOf_99 : decode cX1_causeOf 99 = .ok (.ireturn, 1) := by decide +kernel
theorem dX1_causeOf_100 : decode cX1_causeOf 100 = .ok (.aload_n 0, 1) := by decide +kernel
theorem dX1_causeOf_101 : decode cX1_causeOf 101 = .ok (.getfield 15, 3) := by decide +kernel
theorem dX1_causeOf_104 : decode cX1_causeOf 104 = .ok (.iload_n 1, 1) := by decide +kernel
theorem dX1_causeOf_105 : decode cX1_causeOf 105 = .ok (.aload_n 0, 1) := by decide +kernel
theorem dX1_causeOf_106 : decode cX1_causeOf 106 = .ok (.iload_n 2, 1) := by decide +kernel
theorem dX1_causeOf_107 : decode cX1_causeOf 107 = .ok (.invokevirtual 61, 3) := by decide +kernel
theorem dX1_causeOf_110 : decode cX1_causeOf 110 = .ok (.invokevirtual 64, 3) := by decide +kernel
theorem dX1_causeOf_113 : decode cX1_causeOf 113 = .ok (.ifCond .eq 7, 3) := by decide +kernel
theorem dX1_causeOf_116 : decode cX1_causeOf 116 = .ok (.iconst 0, 1) := by decide +kernel
theorem dX1_causeOf_117 : decode cX1_causeOf 117 = .ok (.goto 5, 3) := by decide +kernel
theorem dX1_causeOf_120 : decode cX1_causeOf 120 = .ok (.bipush 6, 2) := by decide +kernel
theorem dX1_causeOf_122 : decode cX1_causeOf 122 = .ok (.ireturn, 1) := by decide +kernel
set_option maxRecDepth 20000 in
set_option maxRecDepth 20000 in
theorem ggX1_firstClash_X1_causeOf : GoodIn wsX1_firstClash wsX1_causeOf := goodIn_r _ [7, 8, 1, 9, 10, 11, 12, 13, 14, 6, 15, 2, 16, 17, 18, 19, 20, 21, 22, 23, 24, 25, 26, 27, 28, 29, 30, 31, 32, 33, 34, 35, 36, 37, 38, 39, 40, 41, 42, 43, 44, 45, 46, 47, 48, 49, 50, 51, 52, 53, 54, 55, 56, 57, 58, 59, 60, 61, 62, 63, 64, 65, 66, 67, 68, 69, 70, 71, 72] rfl (by decide +kernel)
set_option maxRecDepth 20000 in
theorem gX1_firstClash_X1_causeOf : GoodIn wsX1_firstClash (wsV RX1 68 RX1 yX1_causeOf wsX1_causeOf) := goodIn_app (goodIn_of _ (by decide +kernel)) ggX1_firstClash_X1_causeOf
theorem dX1_firstClash_0 : decode cX1_firstClash 0 = .ok (.iconst 0, 1) := by decide +kernel
theorem dX1_firstClash_1 : decode cX1_firstClash 1 = .ok (.istore_n 1, 1) := by decide +kernel
theorem dX1_firstClash_2 : decode cX1_firstClash 2 = .ok (.iload_n 1, 1) := by decide +kernel
theorem dX1_firstClash_3 : decode cX1_firstClash 3 = .ok (.aload_n 0, 1) := by decide +kernel
theorem dX1_firstClash_4 : decode cX1_firstClash 4 = .ok (.getfield 15, 3) := by decide +kernel
theorem dX1_firstClash_7 : decode cX1_firstClash 7 = .ok (.getfield 25, 3) := by decide +kernel
theorem dX1_firstClash_10 : decode cX1_firstClash 10 = .ok (.if_icmp .ge 19, 3) := by decide +kernel
theorem dX1_firstClash_13 : decode cX1_firstClash 13 = .ok (.aload_n 0, 1) := by decide +kernel
theorem dX1_firstClash_14 : decode cX1_firstClash 14 = .ok (.iload_n 1, 1) := by decide +kernel
theorem dX1_firstClash_15 : decode cX1_firstClash 15 = .ok (.invokevirtual 68, 3) := by decide +kernel
theorem dX1_firstClash_18 : decode cX1_firstClash 18 = .ok (.ifCond .eq 5, 3) := by decide +kernel
theorem dX1_firstClash_21 : decode cX1_firstClash 21 = .ok (.iload_n 1, 1) := by decide +kernel
theorem dX1_firstClash_22 : decode cX1_firstClash 22 = .ok (.ireturn, 1) := by decide +kernel
theorem dX1_firstClash_23 : decode cX1_firstClash 23 = .ok (.iinc 1 1, 3) := by decide +kernel
theorem dX1_firstClash_26 : decode cX1_firstClash 26 = .ok (.goto (-24), 3) := by decide +kernel
theorem dX1_firstClash_29 : decode cX1_firstClash 29 = .ok (.iconst (-1), 1) := by decide +kernel
theorem dX1_firstClash_30 : decode cX1_firstClash 30 = .ok (.ireturn, 1) := by decide +kernel
set_option maxRecDepth 20000 in
set_option maxRecDepth 20000 in
theorem ggX1_moveOnce_X1_greatest : GoodIn wsX1_moveOnce wsX1_greatest := goodIn_r _ [8, 1, 2, 3, 9, 10, 11, 12, 77, 78, 79, 80, 81, 82, 83, 84, 85, 86, 87, 88, 89] rfl (by decide +kernel)
set_option maxRecDepth 20000 in
theorem gX1_moveOnce_X1_greatest : GoodIn wsX1_moveOnce (wsV RX1 71 RX1 yX1_greatest wsX1_greatest) := goodIn_app (goodIn_of _ (by decide +kernel)) ggX1_moveOnce_X1_greatest
set_option maxRecDepth 20000 in
set_option maxRecDepth 20000 in
theorem ggX1_moveOnce_X1_moveIfBetter : GoodIn wsX1_moveOnce wsX1_moveIfBetter := goodIn_r _ [16, 3, 17, 18, 19, 7, 20, 1, 21, 22, 23, 24, 2, 25, 26, 27, 28, 29, 30, 31, 32, 33, 34, 35, 36, 37, 38, 39, 40, 41, 42, 43, 44, 45, 46, 10, 11, 12, 47, 48, 49, 50, 51, 52, 53, 54, 55, 56, 57, 58, 59, 60, 61, 62, 63, 64, 65, 66, 67, 68, 69, 70, 71, 72, 73, 74, 75, 76, 77, 78, 79, 80, 81, 82, 83, 84, 85, 86, 87, 88, 89] rfl (by decide +kernel)
set_option maxRecDepth 20000 in
theorem gX1_moveOnce_X1_moveIfBetter : GoodIn wsX1_moveOnce (wsV RX1 74 RX1 yX1_moveIfBetter wsX1_moveIfBetter) := goodIn_app (goodIn_of _ (by decide +kernel)) ggX1_moveOnce_X1_moveIfBetter
theorem dX1_moveOnce_0 : decode cX1_moveOnce 0 = .ok (.aload_n 0, 1) := by decide +kernel
theorem dX1_moveOnce_1 : decode cX1_moveOnce 1 = .ok (.invokevirtual 71, 3) := by decide +kernel
theorem dX1_moveOnce_4 : decode cX1_moveOnce 4 = .ok (.istore_n 1, 1) := by decide +kernel
theorem dX1_moveOnce_5 : decode cX1_moveOnce 5 = .ok (.iconst 0, 1) := by decide +kernel
theorem dX1_moveOnce_6 : decode cX1_moveOnce 6 = .ok (.istore_n 2, 1) := by decide +kernel
theorem dX1_moveOnce_7 : decode cX1_moveOnce 7 = .ok (.iload_n 2, 1) := by decide +kernel
theorem dX1_moveOnce_8 : decode cX1_moveOnce 8 = .ok (.aload_n 0, 1) := by decide +kernel
theorem dX1_moveOnce_9 : decode cX1_moveOnce 9 = .ok (.getfield 15, 3) := by decide +kernel
theorem dX1_moveOnce_12 : decode cX1_moveOnce 12 = .ok (.getfield 25, 3) := by decide +kernel
theorem dX1_moveOnce_15 : decode cX1_moveOnce 15 = .ok (.if_icmp .ge 43, 3) := by decide +kernel
theorem dX1_moveOnce_18 : decode cX1_moveOnce 18 = .ok (.iconst 1, 1) := by decide +kernel
theorem dX1_moveOnce_19 : decode cX1_moveOnce 19 = .ok (.istore_n 3, 1) := by decide +kernel
theorem dX1_moveOnce_20 : decode cX1_moveOnce 20 = .ok (.iload_n 3, 1) := by decide +kernel
theorem dX1_moveOnce_21 : decode cX1_moveOnce 21 = .ok (.iload_n 1, 1) := by decide +kernel
theorem dX1_moveOnce_22 : decode cX1_moveOnce 22 = .ok (.if_icmp .gt 30, 3) := by decide +kernel
theorem dX1_moveOnce_25 : decode cX1_moveOnce 25 = .ok (.iload_n 3, 1) := by decide +kernel
theorem dX1_moveOnce_26 : decode cX1_moveOnce 26 = .ok (.aload_n 0, 1) := by decide +kernel
theorem dX1_moveOnce_27 : decode cX1_moveOnce 27 = .ok (.getfield 9, 3) := by decide +kernel
theorem dX1_moveOnce_30 : decode cX1_moveOnce 30 = .ok (.iload_n 2, 1) := by decide +kernel
theorem dX1_moveOnce_31 : decode cX1_moveOnce 31 = .ok (.iaload, 1) := by decide +kernel
theorem dX1_moveOnce_32 : decode cX1_moveOnce 32 = .ok (.if_icmp .eq 14, 3) := by decide +kernel
theorem dX1_moveOnce_35 : decode cX1_moveOnce 35 = .ok (.aload_n 0, 1) := by decide +kernel
theorem dX1_moveOnce_36 : decode cX1_moveOnce 36 = .ok (.iload_n 2, 1) := by decide +kernel
theorem dX1_moveOnce_37 : decode cX1_moveOnce 37 = .ok (.iload_n 3, 1) := by decide +kernel
theorem dX1_moveOnce_38 : decode cX1_moveOnce 38 = .ok (.invokevirtual 74, 3) := by decide +kernel
theorem dX1_moveOnce_41 : decode cX1_moveOnce 41 = .ok (.ifCond .eq 5, 3) := by decide +kernel
theorem dX1_moveOnce_44 : decode cX1_moveOnce 44 = .ok (.iconst 1, 1) := by decide +kernel
theorem dX1_moveOnce_45 : decode cX1_moveOnce 45 = .ok (.ireturn, 1) := by decide +kernel
theorem dX1_moveOnce_46 : decode cX1_moveOnce 46 = .ok (.iinc 3 1, 3) := by decide +kernel
theorem dX1_moveOnce_49 : decode cX1_moveOnce 49 = .ok (.goto (-29), 3) := by decide +kernel
theorem dX1_moveOnce_52 : decode cX1_moveOnce 52 = .ok (.iinc 2 1, 3) := by decide +kernel
theorem dX1_moveOnce_55 : decode cX1_moveOnce 55 = .ok (.goto (-48), 3) := by decide +kernel
theorem dX1_moveOnce_58 : decode cX1_moveOnce 58 = .ok (.iconst 0, 1) := by decide +kernel
theorem dX1_moveOnce_59 : decode cX1_moveOnce 59 = .ok (.ireturn, 1) := by decide +kernel
set_option maxRecDepth 20000 in
set_option maxRecDepth 20000 in
theorem ggX1_moveIfBetter_X1_squareAt : GoodIn wsX1_moveIfBetter wsX1_squareAt := goodIn_r _ [6, 7, 8, 9, 10, 5, 11, 12, 1, 13, 14, 15, 16, 17, 18, 19, 20, 21, 22, 23, 24, 25, 26, 27, 28, 29, 30, 31, 32, 33, 34, 35, 36, 37, 68, 69, 70, 71, 72, 73, 74, 75, 76, 77, 78, 79, 80] rfl (by decide +kernel)
set_option maxRecDepth 20000 in
theorem gX1_moveIfBetter_X1_squareAt : GoodIn wsX1_moveIfBetter (wsV RX1 44 RX1 yX1_squareAt wsX1_squareAt) := goodIn_app (goodIn_of _ (by decide +kernel)) ggX1_moveIfBetter_X1_squareAt
set_option maxRecDepth 20000 in
set_option maxRecDepth 20000 in
theorem ggX1_moveIfBetter_X1_firstClash : GoodIn wsX1_moveIfBetter wsX1_firstClash := goodIn_r _ [41, 7, 12, 42, 43, 44, 5, 45, 1, 46, 47, 48, 8, 9, 10, 11, 13, 14, 15, 16, 17, 18, 19, 20, 21, 22, 23, 24, 25, 26, 27, 28, 29, 30, 31, 32, 33, 34, 35, 36, 37, 49, 50, 51, 52, 53, 54, 55, 56, 57, 58, 59, 60, 61, 62, 63, 64, 65, 66, 67, 68, 69, 70, 71, 72, 73, 74, 75, 76, 77, 78, 79, 80] rfl (by decide +kernel)
set_option maxRecDepth 20000 in
theorem gX1_moveIfBetter_X1_firstClash : GoodIn wsX1_moveIfBetter (wsV RX1 77 RX1 yX1_firstClash wsX1_firstClash) := goodIn_app (goodIn_of _ (by decide +kernel)) ggX1_moveIfBetter_X1_firstClash
theorem dX1_moveIfBetter_0 : decode cX1_moveIfBetter 0 = .ok (.aload_n 0, 1) := by decide +kernel
theorem dX1_moveIfBetter_1 : decode cX1_moveIfBetter 1 = .ok (.getfield 9, 3) := by decide +kernel
theorem dX1_moveIfBetter_4 : decode cX1_moveIfBetter 4 = .ok (.iload_n 1, 1) := by decide +kernel
theorem dX1_moveIfBetter_5 : decode cX1_moveIfBetter 5 = .ok (.iaload, 1) := by decide +kernel
theorem dX1_moveIfBetter_6 : decode cX1_moveIfBetter 6 = .ok (.istore_n 3, 1) := by decide +kernel
theorem dX1_moveIfBetter_7 : decode cX1_moveIfBetter 7 = .ok (.aload_n 0, 1) := by decide +kernel
theorem dX1_moveIfBetter_8 : decode cX1_moveIfBetter 8 = .ok (.iload_n 3, 1) := by decide +kernel
theorem dX1_moveIfBetter_9 : decode cX1_moveIfBetter 9 = .ok (.invokevirtual 44, 3) := by decide +kernel
theorem dX1_moveIfBetter_12 : decode cX1_moveIfBetter 12 = .ok (.aload_n 0, 1) := by decide +kernel
theorem dX1_moveIfBetter_13 : decode cX1_moveIfBetter 13 = .ok (.iload_n 2, 1) := by decide +kernel
theorem dX1_moveIfBetter_14 : decode cX1_moveIfBetter 14 = .ok (.invokevirtual 44, 3) := by decide +kernel
theorem dX1_moveIfBetter_17 : decode cX1_moveIfBetter 17 = .ok (.ladd, 1) := by decide +kernel
theorem dX1_moveIfBetter_18 : decode cX1_moveIfBetter 18 = .ok (.lstore 4, 2) := by decide +kernel
theorem dX1_moveIfBetter_20 : decode cX1_moveIfBetter 20 = .ok (.aload_n 0, 1) := by decide +kernel
theorem dX1_moveIfBetter_21 : decode cX1_moveIfBetter 21 = .ok (.getfield 9, 3) := by decide +kernel
theorem dX1_moveIfBetter_24 : decode cX1_moveIfBetter 24 = .ok (.iload_n 1, 1) := by decide +kernel
theorem dX1_moveIfBetter_25 : decode cX1_moveIfBetter 25 = .ok (.iload_n 2, 1) := by decide +kernel
theorem dX1_moveIfBetter_26 : decode cX1_moveIfBetter 26 = .ok (.iastore, 1) := by decide +kernel
theorem dX1_moveIfBetter_27 : decode cX1_moveIfBetter 27 = .ok (.aload_n 0, 1) := by decide +kernel
theorem dX1_moveIfBetter_28 : decode cX1_moveIfBetter 28 = .ok (.iload_n 3, 1) := by decide +kernel
theorem dX1_moveIfBetter_29 : decode cX1_moveIfBetter 29 = .ok (.invokevirtual 44, 3) := by decide +kernel
theorem dX1_moveIfBetter_32 : decode cX1_moveIfBetter 32 = .ok (.aload_n 0, 1) := by decide +kernel
theorem dX1_moveIfBetter_33 : decode cX1_moveIfBetter 33 = .ok (.iload_n 2, 1) := by decide +kernel
theorem dX1_moveIfBetter_34 : decode cX1_moveIfBetter 34 = .ok (.invokevirtual 44, 3) := by decide +kernel
theorem dX1_moveIfBetter_37 : decode cX1_moveIfBetter 37 = .ok (.ladd, 1) := by decide +kernel
theorem dX1_moveIfBetter_38 : decode cX1_moveIfBetter 38 = .ok (.lstore 6, 2) := by decide +kernel
theorem dX1_moveIfBetter_40 : decode cX1_moveIfBetter 40 = .ok (.lload 6, 2) := by decide +kernel
theorem dX1_moveIfBetter_42 : decode cX1_moveIfBetter 42 = .ok (.lload 4, 2) := by decide +kernel
theorem dX1_moveIfBetter_44 : decode cX1_moveIfBetter 44 = .ok (.lcmp, 1) := by decide +kernel
theorem dX1_moveIfBetter_45 : decode cX1_moveIfBetter 45 = .ok (.ifCond .ge 12, 3) := by decide +kernel
theorem dX1_moveIfBetter_48 : decode cX1_moveIfBetter 48 = .ok (.aload_n 0, 1) := by decide +kernel
theorem dX1_moveIfBetter_49 : decode cX1_moveIfBetter 49 = .ok (.invokevirtual 77, 3) := by decide +kernel
theorem dX1_moveIfBetter_52 : decode cX1_moveIfBetter 52 = .ok (.ifCond .ge 5, 3) := by decide +kernel
theorem dX1_moveIfBetter_55 : decode cX1_moveIfBetter 55 = .ok (.iconst 1, 1) := by decide +kernel
theorem dX1_moveIfBetter_56 : decode cX1_moveIfBetter 56 = .ok (.ireturn, 1) := by decide +kernel
theorem dX1_moveIfBetter_57 : decode cX1_moveIfBetter 57 = .ok (.aload_n 0, 1) := by decide +kernel
theorem dX1_moveIfBetter_58 : decode cX1_moveIfBetter 58 = .ok (.getfield 9, 3) := by decide +kernel
theorem dX1_moveIfBetter_61 : decode cX1_moveIfBetter 61 = .ok (.iload_n 1, 1) := by decide +kernel
theorem dX1_moveIfBetter_62 : decode cX1_moveIfBetter 62 = .ok (.iload_n 3, 1) := by decide +kernel
theorem dX1_moveIfBetter_63 : decode cX1_moveIfBetter 63 = .ok (.iastore, 1) := by decide +kernel
theorem dX1_moveIfBetter_64 : decode cX1_moveIfBetter 64 = .ok (.iconst 0, 1) := by decide +kernel
theorem dX1_moveIfBetter_65 : decode cX1_moveIfBetter 65 = .ok (.ireturn, 1) := by decide +kernel
set_option maxRecDepth 20000 in
set_option maxRecDepth 20000 in
theorem ggX1_putByRule_X1_someTaskIsTooMuch : GoodIn wsX1_putByRule wsX1_someTaskIsTooMuch := goodIn_r _ [7, 2, 8, 9, 10, 11, 12, 13, 14, 15, 16, 17, 18, 19, 20, 21, 22, 23, 24, 25, 26, 27, 28, 29, 30, 31, 32, 33, 34, 35, 36, 37, 38, 39, 40, 41, 42, 73, 74, 75, 76, 77, 78, 79, 80, 81, 82, 83, 84, 85] rfl (by decide +kernel)
set_option maxRecDepth 20000 in
theorem gX1_putByRule_X1_someTaskIsTooMuch : GoodIn wsX1_putByRule (wsV RX1 80 RX1 yX1_someTaskIsTooMuch wsX1_someTaskIsTooMuch) := goodIn_app (goodIn_of _ (by decide +kernel)) ggX1_putByRule_X1_someTaskIsTooMuch
set_option maxRecDepth 20000 in
set_option maxRecDepth 20000 in
theorem ggX1_putByRule_J7_fill_53178 : GoodIn wsX1_putByRule wsJ7_fill_53178 := goodIn_r _ [46] rfl (by decide +kernel)
set_option maxRecDepth 20000 in
theorem gX1_putByRule_J7_fill_53178 : GoodIn wsX1_putByRule (va_wsS RX1 84 yJ7_fill_53178 wsJ7_fill_53178) := goodIn_app (goodIn_of _ (by decide +kernel)) ggX1_putByRule_J7_fill_53178
set_option maxRecDepth 20000 in
set_option maxRecDepth 20000 in
theorem ggX1_putByRule_X0_all : GoodIn wsX1_putByRule wsX0_all := goodIn_r _ [50, 24, 75, 76, 77, 78, 79, 80, 81, 82, 83, 84, 85] rfl (by decide +kernel)
set_option maxRecDepth 20000 in
theorem gX1_putByRule_X0_all : GoodIn wsX1_putByRule (wsV RX1 90 RX0 yX0_all wsX0_all) := goodIn_app (goodIn_of _ (by decide +kernel)) ggX1_putByRule_X0_all
set_option maxRecDepth 20000 in
set_option maxRecDepth 20000 in
theorem ggX1_putByRule_X1_firstByRule : GoodIn wsX1_putByRule wsX1_firstByRule := goodIn_r _ [54, 2, 8, 55, 56, 57, 12, 58, 59, 18, 60, 9, 10, 11, 13, 14, 15, 16, 17, 19, 20, 21, 22, 23, 24, 25, 26, 27, 28, 29, 30, 31, 32, 33, 34, 35, 36, 37, 38, 39, 40, 41, 42, 61, 62, 63, 6, 64, 65, 66, 67, 68, 69, 70, 71, 72, 73, 74, 75, 76, 77, 78, 79, 80, 81, 82, 83, 84, 85] rfl (by decide +kernel)
set_option maxRecDepth 20000 in
theorem gX1_putByRule_X1_firstByRule : GoodIn wsX1_putByRule (wsV RX1 93 RX1 yX1_firstByRule wsX1_firstByRule) := goodIn_app (goodIn_of _ (by decide +kernel)) ggX1_putByRule_X1_firstByRule
theorem dX1_putByRule_0 : decode cX1_putByRule 0 = .ok (.aload_n 0, 1) := by decide +kernel
theorem dX1_putByRule_1 : decode cX1_putByRule 1 = .ok (.invokevirtual 80, 3) := by decide +kernel
theorem dX1_putByRule_4 : decode cX1_putByRule 4 = .ok (.ifCond .eq 5, 3) := by decide +kernel
theorem dX1_putByRule_7 : decode cX1_putByRule 7 = .ok (.iconst 0, 1) := by decide +kernel
theorem dX1_putByRule_8 : decode cX1_putByRule 8 = .ok (.ireturn, 1) := by decide +kernel
theorem dX1_putByRule_9 : decode cX1_putByRule 9 = .ok (.aload_n 0, 1) := by decide +kernel
theorem dX1_putByRule_10 : decode cX1_putByRule 10 = .ok (.getfield 9, 3) := by decide +kernel
theorem dX1_putByRule_13 : decode cX1_putByRule 13 = .ok (.iconst 0, 1) := by decide +kernel
theorem dX1_putByRule_14 : decode cX1_putByRule 14 = .ok (.invokestatic 84, 3) := by decide +kernel
theorem dX1_putByRule_17 : decode cX1_putByRule 17 = .ok (.iconst 0, 1) := by decide +kernel
theorem dX1_putByRule_18 : decode cX1_putByRule 18 = .ok (.istore_n 2, 1) := by decide +kernel
theorem dX1_putByRule_19 : decode cX1_putByRule 19 = .ok (.iconst 0, 1) := by decide +kernel
theorem dX1_putByRule_20 : decode cX1_putByRule 20 = .ok (.istore_n 3, 1) := by decide +kernel
theorem dX1_putByRule_21 : decode cX1_putByRule 21 = .ok (.iconst 1, 1) := by decide +kernel
theorem dX1_putByRule_22 : decode cX1_putByRule 22 = .ok (.istore 4, 2) := by decide +kernel
theorem dX1_putByRule_24 : decode cX1_putByRule 24 = .ok (.iconst 0, 1) := by decide +kernel
theorem dX1_putByRule_25 : decode cX1_putByRule 25 = .ok (.istore 5, 2) := by decide +kernel
theorem dX1_putByRule_27 : decode cX1_putByRule 27 = .ok (.iload 5, 2) := by decide +kernel
theorem dX1_putByRule_29 : decode cX1_putByRule 29 = .ok (.bipush 20, 2) := by decide +kernel
theorem dX1_putByRule_31 : decode cX1_putByRule 31 = .ok (.if_icmp .ge 77, 3) := by decide +kernel
theorem dX1_putByRule_34 : decode cX1_putByRule 34 = .ok (.iload_n 2, 1) := by decide +kernel
theorem dX1_putByRule_35 : decode cX1_putByRule 35 = .ok (.aload_n 0, 1) := by decide +kernel
theorem dX1_putByRule_36 : decode cX1_putByRule 36 = .ok (.getfield 15, 3) := by decide +kernel
theorem dX1_putByRule_39 : decode cX1_putByRule 39 = .ok (.invokevirtual 90, 3) := by decide +kernel
theorem dX1_putByRule_42 : decode cX1_putByRule 42 = .ok (.if_icmp .eq 66, 3) := by decide +kernel
theorem dX1_putByRule_45 : decode cX1_putByRule 45 = .ok (.aload_n 0, 1) := by decide +kernel
theorem dX1_putByRule_46 : decode cX1_putByRule 46 = .ok (.iload_n 1, 1) := by decide +kernel
theorem dX1_putByRule_47 : decode cX1_putByRule 47 = .ok (.iload_n 2, 1) := by decide +kernel
theorem dX1_putByRule_48 : decode cX1_putByRule 48 = .ok (.iload_n 3, 1) := by decide +kernel
theorem dX1_putByRule_49 : decode cX1_putByRule 49 = .ok (.invokevirtual 93, 3) := by decide +kernel
theorem dX1_putByRule_52 : decode cX1_putByRule 52 = .ok (.istore 6, 2) := by decide +kernel
theorem dX1_putByRule_54 : decode cX1_putByRule 54 = .ok (.iload 6, 2) := by decide +kernel
theorem dX1_putByRule_56 : decode cX1_putByRule 56 = .ok (.ifCond .lt 29, 3) := by decide +kernel
theorem dX1_putByRule_59 : decode cX1_putByRule 59 = .ok (.aload_n 0, 1) := by decide +kernel
theorem dX1_putByRule_60 : decode cX1_putByRule 60 = .ok (.getfield 9, 3) := by decide +kernel
theorem dX1_putByRule_63 : decode cX1_putByRule 63 = .ok (.iload 6, 2) := by decide +kernel
theorem dX1_putByRule_65 : decode cX1_putByRule 65 = .ok (.iload 4, 2) := by decide +kernel
theorem dX1_putByRule_67 : decode cX1_putByRule 67 = .ok (.iastore, 1) := by decide +kernel
theorem dX1_putByRule_68 : decode cX1_putByRule 68 = .ok (.iload_n 2, 1) := by decide +kernel
theorem dX1_putByRule_69 : decode cX1_putByRule 69 = .ok (.iconst 1, 1) := by decide +kernel
theorem dX1_putByRule_70 : decode cX1_putByRule 70 = .ok (.iload 6, 2) := by decide +kernel
theorem dX1_putByRule_72 : decode cX1_putByRule 72 = .ok (.ishl, 1) := by decide +kernel
theorem dX1_putByRule_73 : decode cX1_putByRule 73 = .ok (.ior, 1) := by decide +kernel
theorem dX1_putByRule_74 : decode cX1_putByRule 74 = .ok (.istore_n 2, 1) := by decide +kernel
theorem dX1_putByRule_75 : decode cX1_putByRule 75 = .ok (.iload_n 3, 1) := by decide +kernel
theorem dX1_putByRule_76 : decode cX1_putByRule 76 = .ok (.iconst 1, 1) := by decide +kernel
theorem dX1_putByRule_77 : decode cX1_putByRule 77 = .ok (.iload 6, 2) := by decide +kernel
theorem dX1_putByRule_79 : decode cX1_putByRule 79 = .ok (.ishl, 1) := by decide +kernel
theorem dX1_putByRule_80 : decode cX1_putByRule 80 = .ok (.ior, 1) := by decide +kernel
theorem dX1_putByRule_81 : decode cX1_putByRule 81 = .ok (.istore_n 3, 1) := by decide +kernel
theorem dX1_putByRule_82 : decode cX1_putByRule 82 = .ok (.goto 20, 3) := by decide +kernel
theorem dX1_putByRule_85 : decode cX1_putByRule 85 = .ok (.iload 4, 2) := by decide +kernel
theorem dX1_putByRule_87 : decode cX1_putByRule 87 = .ok (.bipush 10, 2) := by decide +kernel
theorem dX1_putByRule_89 : decode cX1_putByRule 89 = .ok (.if_icmp .ge 11, 3) := by decide +kernel
theorem dX1_putByRule_92 : decode cX1_putByRule 92 = .ok (.iinc 4 1, 3) := by decide +kernel
theorem dX1_putByRule_95 : decode cX1_putByRule 95 = .ok (.iconst 0, 1) := by decide +kernel
theorem dX1_putByRule_96 : decode cX1_putByRule 96 = .ok (.istore_n 3, 1) := by decide +kernel
theorem dX1_putByRule_97 : decode cX1_putByRule 97 = .ok (.goto 5, 3) := by decide +kernel
theorem dX1_putByRule_100 : decode cX1_putByRule 100 = .ok (.iconst 0, 1) := by decide +kernel
theorem dX1_putByRule_101 : decode cX1_putByRule 101 = .ok (.ireturn, 1) := by decide +kernel
theorem dX1_putByRule_102 : decode cX1_putByRule 102 = .ok (.iinc 5 1, 3) := by decide +kernel
theorem dX1_putByRule_105 : decode cX1_putByRule 105 = .ok (.goto (-78), 3) := by decide +kernel
theorem dX1_putByRule_108 : decode cX1_putByRule 108 = .ok (.iload_n 2, 1) := by decide +kernel
theorem dX1_putByRule_109 : decode cX1_putByRule 109 = .ok (.aload_n 0, 1) := by decide +kernel
theorem dX1_putByRule_110 : decode cX1_putByRule 110 = .ok (.getfield 15, 3) := by decide +kernel
theorem dX1_putByRule_113 : decode cX1_putByRule 113 = .ok (.invokevirtual 90, 3) := by decide +kernel
theorem dX1_putByRule_116 : decode cX1_putByRule 116 = .ok (.if_icmp .ne 7, 3) := by decide +kernel
theorem dX1_putByRule_119 : decode cX1_putByRule 119 = .ok (.iconst 1, 1) := by decide +kernel
theorem dX1_putByRule_120 : decode cX1_putByRule 120 = .ok (.goto 4, 3) := by decide +kernel
theorem dX1_putByRule_123 : decode cX1_putByRule 123 = .ok (.iconst 0, 1) := by decide +kernel
theorem dX1_putByRule_124 : decode cX1_putByRule 124 = .ok (.ireturn, 1) := by decide +kernel
set_option maxRecDepth 20000 in
set_option maxRecDepth 20000 in
theorem ggX1_someTaskIsTooMuch_X0_loadOf : GoodIn wsX1_someTaskIsTooMuch wsX0_loadOf := goodIn_r _ [7, 8, 9, 10, 6, 11, 12, 13, 14, 15, 16, 17, 18, 19, 20, 21, 22, 23, 24, 25, 26, 27, 39, 40, 41, 42, 43, 44, 45, 46, 47, 48, 49] rfl (by decide +kernel)
set_option maxRecDepth 20000 in
theorem gX1_someTaskIsTooMuch_X0_loadOf : GoodIn wsX1_someTaskIsTooMuch (wsV RX1 41 RX0 yX0_loadOf wsX0_loadOf) := goodIn_app (goodIn_of _ (by decide +kernel)) ggX1_someTaskIsTooMuch_X0_loadOf
set_option maxRecDepth 20000 in
set_option maxRecDepth 20000 in
theorem ggX1_someTaskIsTooMuch_X0_room : GoodIn wsX1_someTaskIsTooMuch wsX0_room := goodIn_r _ [31, 12, 32, 33, 34, 35, 6, 36, 13, 39, 40, 41, 42, 43, 44, 45, 46, 47, 48, 49] rfl (by decide +kernel)
set_option maxRecDepth 20000 in
theorem gX1_someTaskIsTooMuch_X0_room : GoodIn wsX1_someTaskIsTooMuch (wsV RX1 48 RX0 yX0_room wsX0_room) := goodIn_app (goodIn_of _ (by decide +kernel)) ggX1_someTaskIsTooMuch_X0_room
theorem dX1_someTaskIsTooMuch_0 : decode cX1_someTaskIsTooMuch 0 = .ok (.iconst 0, 1) := by decide +kernel
theorem dX1_someTaskIsTooMuch_1 : decode cX1_someTaskIsTooMuch 1 = .ok (.istore_n 1, 1) := by decide +kernel
theorem dX1_someTaskIsTooMuch_2 : decode cX1_someTaskIsTooMuch 2 = .ok (.iload_n 1, 1) := by decide +kernel
theorem dX1_someTaskIsTooMuch_3 : decode cX1_someTaskIsTooMuch 3 = .ok (.aload_n 0, 1) := by decide +kernel
theorem dX1_someTaskIsTooMuch_4 : decode cX1_someTaskIsTooMuch 4 = .ok (.getfield 15, 3) := by decide +kernel
theorem dX1_someTaskIsTooMuch_7 : decode cX1_someTaskIsTooMuch 7 = .ok (.getfield 25, 3) := by decide +kernel
theorem dX1_someTaskIsTooMuch_10 : decode cX1_someTaskIsTooMuch 10 = .ok (.if_icmp .ge 31, 3) := by decide +kernel
theorem dX1_someTaskIsTooMuch_13 : decode cX1_someTaskIsTooMuch 13 = .ok (.aload_n 0, 1) := by decide +kernel
theorem dX1_someTaskIsTooMuch_14 : decode cX1_someTaskIsTooMuch 14 = .ok (.getfield 15, 3) := by decide +kernel
theorem dX1_someTaskIsTooMuch_17 : decode cX1_someTaskIsTooMuch 17 = .ok (.iconst 1, 1) := by decide +kernel
theorem dX1_someTaskIsTooMuch_18 : decode cX1_someTaskIsTooMuch 18 = .ok (.iload_n 1, 1) := by decide +kernel
theorem dX1_someTaskIsTooMuch_19 : decode cX1_someTaskIsTooMuch 19 = .ok (.ishl, 1) := by decide +kernel
theorem dX1_someTaskIsTooMuch_20 : decode cX1_someTaskIsTooMuch 20 = .ok (.invokevirtual 41, 3) := by decide +kernel
theorem dX1_someTaskIsTooMuch_23 : decode cX1_someTaskIsTooMuch 23 = .ok (.aload_n 0, 1) := by decide +kernel
theorem dX1_someTaskIsTooMuch_24 : decode cX1_someTaskIsTooMuch 24 = .ok (.getfield 15, 3) := by decide +kernel
theorem dX1_someTaskIsTooMuch_27 : decode cX1_someTaskIsTooMuch 27 = .ok (.invokevirtual 48, 3) := by decide +kernel
theorem dX1_someTaskIsTooMuch_30 : decode cX1_someTaskIsTooMuch 30 = .ok (.if_icmp .le 5, 3) := by decide +kernel
theorem dX1_someTaskIsTooMuch_33 : decode cX1_someTaskIsTooMuch 33 = .ok (.iconst 1, 1) := by decide +kernel
theorem dX1_someTaskIsTooMuch_34 : decode cX1_someTaskIsTooMuch 34 = .ok (.ireturn, 1) := by decide +kernel
theorem dX1_someTaskIsTooMuch_35 : decode cX1_someTaskIsTooMuch 35 = .ok (.iinc 1 1, 3) := by decide +kernel
theorem dX1_someTaskIsTooMuch_38 : decode cX1_someTaskIsTooMuch 38 = .ok (.goto (-36), 3) := by decide +kernel
theorem dX1_someTaskIsTooMuch_41 : decode cX1_someTaskIsTooMuch 41 = .ok (.iconst 0, 1) := by decide +kernel
theorem dX1_someTaskIsTooMuch_42 : decode cX1_someTaskIsTooMuch 42 = .ok (.ireturn, 1) := by decide +kernel
set_option maxRecDepth 20000 in
set_option maxRecDepth 20000 in
theorem ggX1_firstByRule_X0_isOpen : GoodIn wsX1_firstByRule wsX0_isOpen := goodIn_r _ [7, 8, 9, 10, 58, 59, 60, 61, 62, 63, 64, 65, 66, 67, 68] rfl (by decide +kernel)
set_option maxRecDepth 20000 in
theorem gX1_firstByRule_X0_isOpen : GoodIn wsX1_firstByRule (wsV RX1 64 RX0 yX0_isOpen wsX0_isOpen) := goodIn_app (goodIn_of _ (by decide +kernel)) ggX1_firstByRule_X0_isOpen
set_option maxRecDepth 20000 in
set_option maxRecDepth 20000 in
theorem ggX1_firstByRule_X0_loadOf : GoodIn wsX1_firstByRule wsX0_loadOf := goodIn_r _ [14, 15, 16, 17, 6, 18, 9, 19, 20, 21, 22, 23, 24, 25, 26, 27, 28, 29, 30, 31, 32, 33, 58, 59, 60, 61, 62, 63, 64, 65, 66, 67, 68] rfl (by decide +kernel)
set_option maxRecDepth 20000 in
theorem gX1_firstByRule_X0_loadOf : GoodIn wsX1_firstByRule (wsV RX1 41 RX0 yX0_loadOf wsX0_loadOf) := goodIn_app (goodIn_of _ (by decide +kernel)) ggX1_firstByRule_X0_loadOf
set_option maxRecDepth 20000 in
set_option maxRecDepth 20000 in
theorem ggX1_firstByRule_X0_room : GoodIn wsX1_firstByRule wsX0_room := goodIn_r _ [37, 9, 38, 39, 40, 41, 6, 42, 19, 58, 59, 60, 61, 62, 63, 64, 65, 66, 67, 68] rfl (by decide +kernel)
set_option maxRecDepth 20000 in
theorem gX1_firstByRule_X0_room : GoodIn wsX1_firstByRule (wsV RX1 48 RX0 yX0_room wsX0_room) := goodIn_app (goodIn_of _ (by decide +kernel)) ggX1_firstByRule_X0_room
set_option maxRecDepth 20000 in
set_option maxRecDepth 20000 in
theorem ggX1_firstByRule_X1_worthByRule : GoodIn wsX1_firstByRule wsX1_worthByRule := goodIn_r _ [47, 1, 48, 11, 12, 13, 6, 14, 15, 16, 17, 18, 9, 19, 20, 21, 22, 23, 24, 25, 26, 27, 28, 29, 30, 31, 32, 33, 49, 50, 51, 52, 53, 54, 55, 56, 57, 58, 59, 60, 61, 62, 63, 64, 65, 66, 67, 68] rfl (by decide +kernel)
set_option maxRecDepth 20000 in
theorem gX1_firstByRule_X1_worthByRule : GoodIn wsX1_firstByRule (wsV RX1 97 RX1 yX1_worthByRule wsX1_worthByRule) := goodIn_app (goodIn_of _ (by decide +kernel)) ggX1_firstByRule_X1_worthByRule
theorem dX1_firstByRule_0 : decode cX1_firstByRule 0 = .ok (.iconst (-1), 1) := by decide +kernel
theorem dX1_firstByRule_1 : decode cX1_firstByRule 1 = .ok (.istore 4, 2) := by decide +kernel
theorem dX1_firstByRule_3 : decode cX1_firstByRule 3 = .ok (.iconst 0, 1) := by decide +kernel
theorem dX1_firstByRule_4 : decode cX1_firstByRule 4 = .ok (.istore 5, 2) := by decide +kernel
theorem dX1_firstByRule_6 : decode cX1_firstByRule 6 = .ok (.iconst 0, 1) := by decide +kernel
theorem dX1_firstByRule_7 : decode cX1_firstByRule 7 = .ok (.istore 6, 2) := by decide +kernel
theorem dX1_firstByRule_9 : decode cX1_firstByRule 9 = .ok (.iload 6, 2) := by decide +kernel
theorem dX1_firstByRule_11 : decode cX1_firstByRule 11 = .ok (.aload_n 0, 1) := by decide +kernel
theorem dX1_firstByRule_12 : decode cX1_firstByRule 12 = .ok (.getfield 15, 3) := by decide +kernel
theorem dX1_firstByRule_15 : decode cX1_firstByRule 15 = .ok (.getfield 25, 3) := by decide +kernel
theorem dX1_firstByRule_18 : decode cX1_firstByRule 18 = .ok (.if_icmp .ge 88, 3) := by decide +kernel
theorem dX1_firstByRule_21 : decode cX1_firstByRule 21 = .ok (.iconst 1, 1) := by decide +kernel
theorem dX1_firstByRule_22 : decode cX1_firstByRule 22 = .ok (.iload 6, 2) := by decide +kernel
theorem dX1_firstByRule_24 : decode cX1_firstByRule 24 = .ok (.ishl, 1) := by decide +kernel
theorem dX1_firstByRule_25 : decode cX1_firstByRule 25 = .ok (.istore 7, 2) := by decide +kernel
theorem dX1_firstByRule_27 : decode cX1_firstByRule 27 = .ok (.iload_n 2, 1) := by decide +kernel
theorem dX1_firstByRule_28 : decode cX1_firstByRule 28 = .ok (.iload 7, 2) := by decide +kernel
theorem dX1_firstByRule_30 : decode cX1_firstByRule 30 = .ok (.iand, 1) := by decide +kernel
theorem dX1_firstByRule_31 : decode cX1_firstByRule 31 = .ok (.ifCond .ne 69, 3) := by decide +kernel
theorem dX1_firstByRule_34 : decode cX1_firstByRule 34 = .ok (.aload_n 0, 1) := by decide +kernel
theorem dX1_firstByRule_35 : decode cX1_firstByRule 35 = .ok (.getfield 15, 3) := by decide +kernel
theorem dX1_firstByRule_38 : decode cX1_firstByRule 38 = .ok (.iload 6, 2) := by decide +kernel
theorem dX1_firstByRule_40 : decode cX1_firstByRule 40 = .ok (.iload_n 2, 1) := by decide +kernel
theorem dX1_firstByRule_41 : decode cX1_firstByRule 41 = .ok (.invokevirtual 64, 3) := by decide +kernel
theorem dX1_firstByRule_44 : decode cX1_firstByRule 44 = .ok (.ifCond .eq 56, 3) := by decide +kernel
theorem dX1_firstByRule_47 : decode cX1_firstByRule 47 = .ok (.aload_n 0, 1) := by decide +kernel
theorem dX1_firstByRule_48 : decode cX1_firstByRule 48 = .ok (.getfield 15, 3) := by decide +kernel
theorem dX1_firstByRule_51 : decode cX1_firstByRule 51 = .ok (.iload_n 3, 1) := by decide +kernel
theorem dX1_firstByRule_52 : decode cX1_firstByRule 52 = .ok (.iload 7, 2) := by decide +kernel
theorem dX1_firstByRule_54 : decode cX1_firstByRule 54 = .ok (.ior, 1) := by decide +kernel
theorem dX1_firstByRule_55 : decode cX1_firstByRule 55 = .ok (.invokevirtual 41, 3) := by decide +kernel
theorem dX1_firstByRule_58 : decode cX1_firstByRule 58 = .ok (.aload_n 0, 1) := by decide +kernel
theorem dX1_firstByRule_59 : decode cX1_firstByRule 59 = .ok (.getfield 15, 3) := by decide +kernel
theorem dX1_firstByRule_62 : decode cX1_firstByRule 62 = .ok (.invokevirtual 48, 3) := by decide +kernel
theorem dX1_firstByRule_65 : decode cX1_firstByRule 65 = .ok (.if_icmp .le 6, 3) := by decide +kernel
theorem dX1_firstByRule_68 : decode cX1_firstByRule 68 = .ok (.goto 32, 3) := by decide +kernel
theorem dX1_firstByRule_71 : decode cX1_firstByRule 71 = .ok (.aload_n 0, 1) := by decide +kernel
theorem dX1_firstByRule_72 : decode cX1_firstByRule 72 = .ok (.iload_n 1, 1) := by decide +kernel
theorem dX1_firstByRule_73 : decode cX1_firstByRule 73 = .ok (.iload 6, 2) := by decide +kernel
theorem dX1_firstByRule_75 : decode cX1_firstByRule 75 = .ok (.invokevirtual 97, 3) := by decide +kernel
theorem dX1_firstByRule_78 : decode cX1_firstByRule 78 = .ok (.istore 8, 2) := by decide +kernel
theorem dX1_firstByRule_80 : decode cX1_firstByRule 80 = .ok (.iload 4, 2) := by decide +kernel
theorem dX1_firstByRule_82 : decode cX1_firstByRule 82 = .ok (.ifCond .lt 10, 3) := by decide +kernel
theorem dX1_firstByRule_85 : decode cX1_firstByRule 85 = .ok (.iload 8, 2) := by decide +kernel
theorem dX1_firstByRule_87 : decode cX1_firstByRule 87 = .ok (.iload 5, 2) := by decide +kernel
theorem dX1_firstByRule_89 : decode cX1_firstByRule 89 = .ok (.if_icmp .le 11, 3) := by decide +kernel
theorem dX1_firstByRule_92 : decode cX1_firstByRule 92 = .ok (.iload 6, 2) := by decide +kernel
theorem dX1_firstByRule_94 : decode cX1_firstByRule 94 = .ok (.istore 4, 2) := by decide +kernel
theorem dX1_firstByRule_96 : decode cX1_firstByRule 96 = .ok (.iload 8, 2) := by decide +kernel
theorem dX1_firstByRule_98 : decode cX1_firstByRule 98 = .ok (.istore 5, 2) := by decide +kernel
theorem dX1_firstByRule_100 : decode cX1_firstByRule 100 = .ok (.iinc 6 1, 3) := by decide +kernel
theorem dX1_firstByRule_103 : decode cX1_firstByRule 103 = .ok (.goto (-94), 3) := by decide +kernel
theorem dX1_firstByRule_106 : decode cX1_firstByRule 106 = .ok (.iload 4, 2) := by decide +kernel
theorem dX1_firstByRule_108 : decode cX1_firstByRule 108 = .ok (.ireturn, 1) := by decide +kernel
set_option maxRecDepth 20000 in
set_option maxRecDepth 20000 in
theorem ggX1_worthByRule_X0_loadOf : GoodIn wsX1_worthByRule wsX0_loadOf := goodIn_r _ [7, 8, 9, 10, 6, 11, 12, 13, 14, 15, 16, 17, 18, 19, 20, 21, 22, 23, 24, 25, 26, 27, 37, 38, 39, 40, 41, 42, 43, 44, 45, 46, 47] rfl (by decide +kernel)
set_option maxRecDepth 20000 in
theorem gX1_worthByRule_X0_loadOf : GoodIn wsX1_worthByRule (wsV RX1 41 RX0 yX0_loadOf wsX0_loadOf) := goodIn_app (goodIn_of _ (by decide +kernel)) ggX1_worthByRule_X0_loadOf
set_option maxRecDepth 20000 in
set_option maxRecDepth 20000 in
theorem ggX1_worthByRule_J6_bitCount_0f7a4 : GoodIn wsX1_worthByRule wsJ6_bitCount_0f7a4 := goodIn_r _ [31, 32, 33, 34] rfl (by decide +kernel)
set_option maxRecDepth 20000 in
theorem gX1_worthByRule_J6_bitCount_0f7a4 : GoodIn wsX1_worthByRule (va_wsS RX1 103 yJ6_bitCount_0f7a4 wsJ6_bitCount_0f7a4) := goodIn_app (goodIn_of _ (by decide +kernel)) ggX1_worthByRule_J6_bitCount_0f7a4
theorem dX1_worthByRule_0 : decode cX1_worthByRule 0 = .ok (.iload_n 1, 1) := by decide +kernel
theorem dX1_worthByRule_1 : decode cX1_worthByRule 1 = .ok (.tableswitch 72 0 2 #[27, 38, 59], 27) := by decide +kernel
theorem dX1_worthByRule_28 : decode cX1_worthByRule 28 = .ok (.aload_n 0, 1) := by decide +kernel
theorem dX1_worthByRule_29 : decode cX1_worthByRule 29 = .ok (.getfield 15, 3) := by decide +kernel
theorem dX1_worthByRule_32 : decode cX1_worthByRule 32 = .ok (.iconst 1, 1) := by decide +kernel
theorem dX1_worthByRule_33 : decode cX1_worthByRule 33 = .ok (.iload_n 2, 1) := by decide +kernel
theorem dX1_worthByRule_34 : decode cX1_worthByRule 34 = .ok (.ishl, 1) := by decide +kernel
theorem dX1_worthByRule_35 : decode cX1_worthByRule 35 = .ok (.invokevirtual 41, 3) := by decide +kernel
theorem dX1_worthByRule_38 : decode cX1_worthByRule 38 = .ok (.ireturn, 1) := by decide +kernel
theorem dX1_worthByRule_39 : decode cX1_worthByRule 39 = .ok (.aload_n 0, 1) := by decide +kernel
theorem dX1_worthByRule_40 : decode cX1_worthByRule 40 = .ok (.getfield 15, 3) := by decide +kernel
theorem dX1_worthByRule_43 : decode cX1_worthByRule 43 = .ok (.iconst 1, 1) := by decide +kernel
theorem dX1_worthByRule_44 : decode cX1_worthByRule 44 = .ok (.iload_n 2, 1) := by decide +kernel
theorem dX1_worthByRule_45 : decode cX1_worthByRule 45 = .ok (.ishl, 1) := by decide +kernel
theorem dX1_worthByRule_46 : decode cX1_worthByRule 46 = .ok (.aload_n 0, 1) := by decide +kernel
theorem dX1_worthByRule_47 : decode cX1_worthByRule 47 = .ok (.getfield 15, 3) := by decide +kernel
theorem dX1_worthByRule_50 : decode cX1_worthByRule 50 = .ok (.getfield 100, 3) := by decide +kernel
theorem dX1_worthByRule_53 : decode cX1_worthByRule 53 = .ok (.iload_n 2, 1) := by decide +kernel
theorem dX1_worthByRule_54 : decode cX1_worthByRule 54 = .ok (.iaload, 1) := by decide +kernel
theorem dX1_worthByRule_55 : decode cX1_worthByRule 55 = .ok (.ior, 1) := by decide +kernel
theorem dX1_worthByRule_56 : decode cX1_worthByRule 56 = .ok (.invokevirtual 41, 3) := by decide +kernel
theorem dX1_worthByRule_59 : decode cX1_worthByRule 59 = .ok (.ireturn, 1) := by decide +kernel
theorem dX1_worthByRule_60 : decode cX1_worthByRule 60 = .ok (.aload_n 0, 1) := by decide +kernel
theorem dX1_worthByRule_61 : decode cX1_worthByRule 61 = .ok (.getfield 15, 3) := by decide +kernel
theorem dX1_worthByRule_64 : decode cX1_worthByRule 64 = .ok (.getfield 100, 3) := by decide +kernel
theorem dX1_worthByRule_67 : decode cX1_worthByRule 67 = .ok (.iload_n 2, 1) := by decide +kernel
theorem dX1_worthByRule_68 : decode cX1_worthByRule 68 = .ok (.iaload, 1) := by decide +kernel
theorem dX1_worthByRule_69 : decode cX1_worthByRule 69 = .ok (.invokestatic 103, 3) := by decide +kernel
theorem dX1_worthByRule_72 : decode cX1_worthByRule 72 = .ok (.ireturn, 1) := by decide +kernel
theorem dX1_worthByRule_73 : decode cX1_worthByRule 73 = .ok (.iload_n 2, 1) := by decide +kernel
theorem dX1_worthByRule_74 : decode cX1_worthByRule 74 = .ok (.ineg, 1) := by decide +kernel
theorem dX1_worthByRule_75 : decode cX1_worthByRule 75 = .ok (.ireturn, 1) := by decide +kernel
