set_option maxRecDepth 20000 in
set_option maxRecDepth 20000 in
theorem ggX5_init_X0_init : GoodIn wsX5_init wsX0_init := goodIn_r _ [34, 35, 2, 3, 36, 37, 38, 28, 39, 40, 41, 42, 43, 44, 45, 46, 47, 91, 92, 93, 94, 95, 96, 97, 98, 99, 100, 101] rfl (by decide +kernel)
set_option maxRecDepth 20000 in
theorem gX5_init_X0_init : GoodIn wsX5_init (wsX0_init) := ggX5_init_X0_init
set_option maxRecDepth 20000 in
set_option maxRecDepth 20000 in
theorem ggX5_init_X1_init : GoodIn wsX5_init wsX1_init := goodIn_r _ [50, 51, 2, 3, 28, 52, 53, 114, 115] rfl (by decide +kernel)
set_option maxRecDepth 20000 in
theorem gX5_init_X1_init : GoodIn wsX5_init (wsX1_init) := ggX5_init_X1_init
set_option maxRecDepth 20000 in
set_option maxRecDepth 20000 in
theorem ggX5_init_X2_init : GoodIn wsX5_init wsX2_init := goodIn_r _ [56, 57, 2, 3, 28, 58, 59, 60, 116, 117, 118] rfl (by decide +kernel)
set_option maxRecDepth 20000 in
theorem gX5_init_X2_init : GoodIn wsX5_init (wsX2_init) := ggX5_init_X2_init
set_option maxRecDepth 20000 in
set_option maxRecDepth 20000 in
theorem ggX5_init_X3_init : GoodIn wsX5_init wsX3_init := goodIn_r _ [63, 64, 2, 3, 65, 28, 66, 67, 68, 69, 70, 71, 72, 73, 74, 75, 76, 77, 78, 119, 120, 121, 122, 123, 124, 125, 126, 127, 128, 129] rfl (by decide +kernel)
set_option maxRecDepth 20000 in
theorem gX5_init_X3_init : GoodIn wsX5_init (wsX3_init) := ggX5_init_X3_init
set_option maxRecDepth 20000 in
set_option maxRecDepth 20000 in
theorem ggX5_init_X4_init : GoodIn wsX5_init wsX4_init := goodIn_r _ [81, 82, 2, 3, 28, 83, 84, 85, 86, 87, 88, 89, 90, 130, 131, 132] rfl (by decide +kernel)
set_option maxRecDepth 20000 in
theorem gX5_init_X4_init : GoodIn wsX5_init (wsX4_init) := ggX5_init_X4_init
theorem dX5_init_0 : decode cX5_init 0 = .ok (.aload_n 0, 1) := by decide +kernel
theorem dX5_init_1 : decode cX5_init 1 = .ok (.invokespecial 3, 3) := by decide +kernel
theorem dX5_init_4 : decode cX5_init 4 = .ok (.aload_n 0, 1) := by decide +kernel
theorem dX5_init_5 : decode cX5_init 5 = .ok (.new 9, 3) := by decide +kernel
theorem dX5_init_8 : decode cX5_init 8 = .ok (.dup, 1) := by decide +kernel
theorem dX5_init_9 : decode cX5_init 9 = .ok (.invokespecial 11, 3) := by decide +kernel
theorem dX5_init_12 : decode cX5_init 12 = .ok (.putfield 12, 3) := by decide +kernel
theorem dX5_init_15 : decode cX5_init 15 = .ok (.aload_n 0, 1) := by decide +kernel
theorem dX5_init_16 : decode cX5_init 16 = .ok (.new 16, 3) := by decide +kernel
theorem dX5_init_19 : decode cX5_init 19 = .ok (.dup, 1) := by decide +kernel
theorem dX5_init_20 : decode cX5_init 20 = .ok (.aload_n 0, 1) := by decide +kernel
theorem dX5_init_21 : decode cX5_init 21 = .ok (.getfield 12, 3) := by decide +kernel
theorem dX5_init_24 : decode cX5_init 24 = .ok (.invokespecial 18, 3) := by decide +kernel
theorem dX5_init_27 : decode cX5_init 27 = .ok (.putfield 21, 3) := by decide +kernel
theorem dX5_init_30 : decode cX5_init 30 = .ok (.aload_n 0, 1) := by decide +kernel
theorem dX5_init_31 : decode cX5_init 31 = .ok (.new 9, 3) := by decide +kernel
theorem dX5_init_34 : decode cX5_init 34 = .ok (.dup, 1) := by decide +kernel
theorem dX5_init_35 : decode cX5_init 35 = .ok (.invokespecial 11, 3) := by decide +kernel
theorem dX5_init_38 : decode cX5_init 38 = .ok (.putfield 25, 3) := by decide +kernel
theorem dX5_init_41 : decode cX5_init 41 = .ok (.aload_n 0, 1) := by decide +kernel
theorem dX5_init_42 : decode cX5_init 42 = .ok (.new 16, 3) := by decide +kernel
theorem dX5_init_45 : decode cX5_init 45 = .ok (.dup, 1) := by decide +kernel
theorem dX5_init_46 : decode cX5_init 46 = .ok (.aload_n 0, 1) := by decide +kernel
theorem dX5_init_47 : decode cX5_init 47 = .ok (.getfield 25, 3) := by decide +kernel
theorem dX5_init_50 : decode cX5_init 50 = .ok (.invokespecial 18, 3) := by decide +kernel
theorem dX5_init_53 : decode cX5_init 53 = .ok (.putfield 28, 3) := by decide +kernel
theorem dX5_init_56 : decode cX5_init 56 = .ok (.aload_n 0, 1) := by decide +kernel
theorem dX5_init_57 : decode cX5_init 57 = .ok (.iconst 0, 1) := by decide +kernel
theorem dX5_init_58 : decode cX5_init 58 = .ok (.putfield 31, 3) := by decide +kernel
theorem dX5_init_61 : decode cX5_init 61 = .ok (.aload_n 0, 1) := by decide +kernel
theorem dX5_init_62 : decode cX5_init 62 = .ok (.new 35, 3) := by decide +kernel
theorem dX5_init_65 : decode cX5_init 65 = .ok (.dup, 1) := by decide +kernel
theorem dX5_init_66 : decode cX5_init 66 = .ok (.invokespecial 37, 3) := by decide +kernel
theorem dX5_init_69 : decode cX5_init 69 = .ok (.putfield 38, 3) := by decide +kernel
theorem dX5_init_72 : decode cX5_init 72 = .ok (.aload_n 0, 1) := by decide +kernel
theorem dX5_init_73 : decode cX5_init 73 = .ok (.new 42, 3) := by decide +kernel
theorem dX5_init_76 : decode cX5_init 76 = .ok (.dup, 1) := by decide +kernel
theorem dX5_init_77 : decode cX5_init 77 = .ok (.aload_n 0, 1) := by decide +kernel
theorem dX5_init_78 : decode cX5_init 78 = .ok (.getfield 12, 3) := by decide +kernel
theorem dX5_init_81 : decode cX5_init 81 = .ok (.invokespecial 44, 3) := by decide +kernel
theorem dX5_init_84 : decode cX5_init 84 = .ok (.putfield 45, 3) := by decide +kernel
theorem dX5_init_87 : decode cX5_init 87 = .ok (.aload_n 0, 1) := by decide +kernel
theorem dX5_init_88 : decode cX5_init 88 = .ok (.new 16, 3) := by decide +kernel
theorem dX5_init_91 : decode cX5_init 91 = .ok (.dup, 1) := by decide +kernel
theorem dX5_init_92 : decode cX5_init 92 = .ok (.aload_n 0, 1) := by decide +kernel
theorem dX5_init_93 : decode cX5_init 93 = .ok (.getfield 12, 3) := by decide +kernel
theorem dX5_init_96 : decode cX5_init 96 = .ok (.invokespecial 18, 3) := by decide +kernel
theorem dX5_init_99 : decode cX5_init 99 = .ok (.putfield 49, 3) := by decide +kernel
theorem dX5_init_102 : decode cX5_init 102 = .ok (.aload_n 0, 1) := by decide +kernel
theorem dX5_init_103 : decode cX5_init 103 = .ok (.new 52, 3) := by decide +kernel
theorem dX5_init_106 : decode cX5_init 106 = .ok (.dup, 1) := by decide +kernel
theorem dX5_init_107 : decode cX5_init 107 = .ok (.invokespecial 54, 3) := by decide +kernel
theorem dX5_init_110 : decode cX5_init 110 = .ok (.putfield 55, 3) := by decide +kernel
theorem dX5_init_113 : decode cX5_init 113 = .ok (.aload_n 0, 1) := by decide +kernel
theorem dX5_init_114 : decode cX5_init 114 = .ok (.bipush 20, 2) := by decide +kernel
theorem dX5_init_116 : decode cX5_init 116 = .ok (.newarray .int, 2) := by decide +kernel
theorem dX5_init_118 : decode cX5_init 118 = .ok (.putfield 59, 3) := by decide +kernel
theorem dX5_init_121 : decode cX5_init 121 = .ok (.aload_n 0, 1) := by decide +kernel
theorem dX5_init_122 : decode cX5_init 122 = .ok (.iconst 0, 1) := by decide +kernel
theorem dX5_init_123 : decode cX5_init 123 = .ok (.putfield 63, 3) := by decide +kernel
theorem dX5_init_126 : decode cX5_init 126 = .ok (.aload_n 0, 1) := by decide +kernel
theorem dX5_init_127 : decode cX5_init 127 = .ok (.iconst 0, 1) := by decide +kernel
theorem dX5_init_128 : decode cX5_init 128 = .ok (.putfield 67, 3) := by decide +kernel
theorem dX5_init_131 : decode cX5_init 131 = .ok (.return_, 1) := by decide +kernel
set_option maxRecDepth 20000 in
set_option maxRecDepth 20000 in
theorem ggX5_task_X0_add : GoodIn wsX5_task wsX0_add := goodIn_r _ [9, 10, 11, 12, 13, 14, 15, 16, 17, 30, 31, 32, 33, 34, 35, 36, 37, 38, 39, 40] rfl (by decide +kernel)
set_option maxRecDepth 20000 in
theorem gX5_task_X0_add : GoodIn wsX5_task (wsV RX5 73 RX0 yX0_add wsX0_add) := goodIn_app (goodIn_of _ (by decide +kernel)) ggX5_task_X0_add
theorem dX5_task_0 : decode cX5_task 0 = .ok (.aload_n 0, 1) := by decide +kernel
theorem dX5_task_1 : decode cX5_task 1 = .ok (.getfield 12, 3) := by decide +kernel
theorem dX5_task_4 : decode cX5_task 4 = .ok (.getfield 70, 3) := by decide +kernel
theorem dX5_task_7 : decode cX5_task 7 = .ok (.bipush 10, 2) := by decide +kernel
theorem dX5_task_9 : decode cX5_task 9 = .ok (.if_icmp .lt 6, 3) := by decide +kernel
theorem dX5_task_12 : decode cX5_task 12 = .ok (.bipush (-2), 2) := by decide +kernel
theorem dX5_task_14 : decode cX5_task 14 = .ok (.ireturn, 1) := by decide +kernel
theorem dX5_task_15 : decode cX5_task 15 = .ok (.aload_n 0, 1) := by decide +kernel
theorem dX5_task_16 : decode cX5_task 16 = .ok (.getfield 12, 3) := by decide +kernel
theorem dX5_task_19 : decode cX5_task 19 = .ok (.invokevirtual 73, 3) := by decide +kernel
theorem dX5_task_22 : decode cX5_task 22 = .ok (.istore_n 1, 1) := by decide +kernel
theorem dX5_task_23 : decode cX5_task 23 = .ok (.aload_n 0, 1) := by decide +kernel
theorem dX5_task_24 : decode cX5_task 24 = .ok (.getfield 21, 3) := by decide +kernel
theorem dX5_task_27 : decode cX5_task 27 = .ok (.getfield 77, 3) := by decide +kernel
theorem dX5_task_30 : decode cX5_task 30 = .ok (.iload_n 1, 1) := by decide +kernel
theorem dX5_task_31 : decode cX5_task 31 = .ok (.iconst 0, 1) := by decide +kernel
theorem dX5_task_32 : decode cX5_task 32 = .ok (.iastore, 1) := by decide +kernel
theorem dX5_task_33 : decode cX5_task 33 = .ok (.iload_n 1, 1) := by decide +kernel
theorem dX5_task_34 : decode cX5_task 34 = .ok (.ireturn, 1) := by decide +kernel
set_option maxRecDepth 20000 in
set_option maxRecDepth 20000 in
theorem ggX5_time_X0_has : GoodIn wsX5_time wsX0_has := goodIn_r _ [7, 8, 25, 26, 27, 28, 29, 30, 31, 32, 33, 34, 35] rfl (by decide +kernel)
set_option maxRecDepth 20000 in
theorem gX5_time_X0_has : GoodIn wsX5_time (wsV RX5 80 RX0 yX0_has wsX0_has) := goodIn_app (goodIn_of _ (by decide +kernel)) ggX5_time_X0_has
set_option maxRecDepth 20000 in
set_option maxRecDepth 20000 in
theorem ggX5_time_X5_isMake : GoodIn wsX5_time wsX5_isMake := goodIn_r _ [12] rfl (by decide +kernel)
set_option maxRecDepth 20000 in
theorem gX5_time_X5_isMake : GoodIn wsX5_time (va_wsS RX5 84 yX5_isMake wsX5_isMake) := goodIn_app (goodIn_of _ (by decide +kernel)) ggX5_time_X5_isMake
theorem dX5_time_0 : decode cX5_time 0 = .ok (.aload_n 0, 1) := by decide +kernel
theorem dX5_time_1 : decode cX5_time 1 = .ok (.getfield 12, 3) := by decide +kernel
theorem dX5_time_4 : decode cX5_time 4 = .ok (.iload_n 1, 1) := by decide +kernel
theorem dX5_time_5 : decode cX5_time 5 = .ok (.invokevirtual 80, 3) := by decide +kernel
theorem dX5_time_8 : decode cX5_time 8 = .ok (.ifCond .eq 21, 3) := by decide +kernel
theorem dX5_time_11 : decode cX5_time 11 = .ok (.iload_n 2, 1) := by decide +kernel
theorem dX5_time_12 : decode cX5_time 12 = .ok (.invokestatic 84, 3) := by decide +kernel
theorem dX5_time_15 : decode cX5_time 15 = .ok (.ifCond .eq 14, 3) := by decide +kernel
theorem dX5_time_18 : decode cX5_time 18 = .ok (.iload_n 3, 1) := by decide +kernel
theorem dX5_time_19 : decode cX5_time 19 = .ok (.iconst 1, 1) := by decide +kernel
theorem dX5_time_20 : decode cX5_time 20 = .ok (.if_icmp .lt 9, 3) := by decide +kernel
theorem dX5_time_23 : decode cX5_time 23 = .ok (.iload_n 3, 1) := by decide +kernel
theorem dX5_time_24 : decode cX5_time 24 = .ok (.bipush 100, 2) := by decide +kernel
theorem dX5_time_26 : decode cX5_time 26 = .ok (.if_icmp .le 6, 3) := by decide +kernel
theorem dX5_time_29 : decode cX5_time 29 = .ok (.bipush (-2), 2) := by decide +kernel
theorem dX5_time_31 : decode cX5_time 31 = .ok (.ireturn, 1) := by decide +kernel
theorem dX5_time_32 : decode cX5_time 32 = .ok (.aload_n 0, 1) := by decide +kernel
theorem dX5_time_33 : decode cX5_time 33 = .ok (.getfield 12, 3) := by decide +kernel
theorem dX5_time_36 : decode cX5_time 36 = .ok (.getfield 87, 3) := by decide +kernel
theorem dX5_time_39 : decode cX5_time 39 = .ok (.iload_n 2, 1) := by decide +kernel
theorem dX5_time_40 : decode cX5_time 40 = .ok (.aaload, 1) := by decide +kernel
theorem dX5_time_41 : decode cX5_time 41 = .ok (.iload_n 1, 1) := by decide +kernel
theorem dX5_time_42 : decode cX5_time 42 = .ok (.iaload, 1) := by decide +kernel
theorem dX5_time_43 : decode cX5_time 43 = .ok (.istore 4, 2) := by decide +kernel
theorem dX5_time_45 : decode cX5_time 45 = .ok (.aload_n 0, 1) := by decide +kernel
theorem dX5_time_46 : decode cX5_time 46 = .ok (.getfield 12, 3) := by decide +kernel
theorem dX5_time_49 : decode cX5_time 49 = .ok (.getfield 87, 3) := by decide +kernel
theorem dX5_time_52 : decode cX5_time 52 = .ok (.iload_n 2, 1) := by decide +kernel
theorem dX5_time_53 : decode cX5_time 53 = .ok (.aaload, 1) := by decide +kernel
theorem dX5_time_54 : decode cX5_time 54 = .ok (.iload_n 1, 1) := by decide +kernel
theorem dX5_time_55 : decode cX5_time 55 = .ok (.iload_n 3, 1) := by decide +kernel
theorem dX5_time_56 : decode cX5_time 56 = .ok (.iastore, 1) := by decide +kernel
theorem dX5_time_57 : decode cX5_time 57 = .ok (.iload 4, 2) := by decide +kernel
theorem dX5_time_59 : decode cX5_time 59 = .ok (.ireturn, 1) := by decide +kernel
set_option maxRecDepth 20000 in
set_option maxRecDepth 20000 in
theorem ggX5_share_X5_isMake : GoodIn wsX5_share wsX5_isMake := goodIn_r _ [6] rfl (by decide +kernel)
set_option maxRecDepth 20000 in
theorem gX5_share_X5_isMake : GoodIn wsX5_share (va_wsS RX5 84 yX5_isMake wsX5_isMake) := goodIn_app (goodIn_of _ (by decide +kernel)) ggX5_share_X5_isMake
set_option maxRecDepth 20000 in
set_option maxRecDepth 20000 in
theorem ggX5_share_X0_shareSum : GoodIn wsX5_share wsX0_shareSum := goodIn_r _ [11, 12, 25, 26, 27, 28, 29, 30, 31, 32, 33, 34, 35] rfl (by decide +kernel)
set_option maxRecDepth 20000 in
theorem gX5_share_X0_shareSum : GoodIn wsX5_share (wsV RX5 94 RX0 yX0_shareSum wsX0_shareSum) := goodIn_app (goodIn_of _ (by decide +kernel)) ggX5_share_X0_shareSum
theorem dX5_share_0 : decode cX5_share 0 = .ok (.iload_n 1, 1) := by decide +kernel
theorem dX5_share_1 : decode cX5_share 1 = .ok (.invokestatic 84, 3) := by decide +kernel
theorem dX5_share_4 : decode cX5_share 4 = .ok (.ifCond .eq 13, 3) := by decide +kernel
theorem dX5_share_7 : decode cX5_share 7 = .ok (.iload_n 2, 1) := by decide +kernel
theorem dX5_share_8 : decode cX5_share 8 = .ok (.ifCond .lt 9, 3) := by decide +kernel
theorem dX5_share_11 : decode cX5_share 11 = .ok (.iload_n 2, 1) := by decide +kernel
theorem dX5_share_12 : decode cX5_share 12 = .ok (.bipush 9, 2) := by decide +kernel
theorem dX5_share_14 : decode cX5_share 14 = .ok (.if_icmp .le 6, 3) := by decide +kernel
theorem dX5_share_17 : decode cX5_share 17 = .ok (.bipush (-2), 2) := by decide +kernel
theorem dX5_share_19 : decode cX5_share 19 = .ok (.ireturn, 1) := by decide +kernel
theorem dX5_share_20 : decode cX5_share 20 = .ok (.aload_n 0, 1) := by decide +kernel
theorem dX5_share_21 : decode cX5_share 21 = .ok (.getfield 12, 3) := by decide +kernel
theorem dX5_share_24 : decode cX5_share 24 = .ok (.getfield 91, 3) := by decide +kernel
theorem dX5_share_27 : decode cX5_share 27 = .ok (.iload_n 1, 1) := by decide +kernel
theorem dX5_share_28 : decode cX5_share 28 = .ok (.iaload, 1) := by decide +kernel
theorem dX5_share_29 : decode cX5_share 29 = .ok (.istore_n 3, 1) := by decide +kernel
theorem dX5_share_30 : decode cX5_share 30 = .ok (.aload_n 0, 1) := by decide +kernel
theorem dX5_share_31 : decode cX5_share 31 = .ok (.getfield 12, 3) := by decide +kernel
theorem dX5_share_34 : decode cX5_share 34 = .ok (.invokevirtual 94, 3) := by decide +kernel
theorem dX5_share_37 : decode cX5_share 37 = .ok (.iload_n 3, 1) := by decide +kernel
theorem dX5_share_38 : decode cX5_share 38 = .ok (.isub, 1) := by decide +kernel
theorem dX5_share_39 : decode cX5_share 39 = .ok (.iload_n 2, 1) := by decide +kernel
theorem dX5_share_40 : decode cX5_share 40 = .ok (.iadd, 1) := by decide +kernel
theorem dX5_share_41 : decode cX5_share 41 = .ok (.ifCond .ne 6, 3) := by decide +kernel
theorem dX5_share_44 : decode cX5_share 44 = .ok (.bipush (-2), 2) := by decide +kernel
theorem dX5_share_46 : decode cX5_share 46 = .ok (.ireturn, 1) := by decide +kernel
theorem dX5_share_47 : decode cX5_share 47 = .ok (.aload_n 0, 1) := by decide +kernel
theorem dX5_share_48 : decode cX5_share 48 = .ok (.getfield 12, 3) := by decide +kernel
theorem dX5_share_51 : decode cX5_share 51 = .ok (.getfield 91, 3) := by decide +kernel
theorem dX5_share_54 : decode cX5_share 54 = .ok (.iload_n 1, 1) := by decide +kernel
theorem dX5_share_55 : decode cX5_share 55 = .ok (.iload_n 2, 1) := by decide +kernel
theorem dX5_share_56 : decode cX5_share 56 = .ok (.iastore, 1) := by decide +kernel
theorem dX5_share_57 : decode cX5_share 57 = .ok (.iload_n 3, 1) := by decide +kernel
theorem dX5_share_58 : decode cX5_share 58 = .ok (.ireturn, 1) := by decide +kernel
set_option maxRecDepth 20000 in
set_option maxRecDepth 20000 in
theorem ggX5_ahead_X0_has : GoodIn wsX5_ahead wsX0_has := goodIn_r _ [8, 9, 58, 59, 60, 61, 62, 63, 64, 65, 66, 67, 68] rfl (by decide +kernel)
set_option maxRecDepth 20000 in
theorem gX5_ahead_X0_has : GoodIn wsX5_ahead (wsV RX5 80 RX0 yX0_has wsX0_has) := goodIn_app (goodIn_of _ (by decide +kernel)) ggX5_ahead_X0_has
set_option maxRecDepth 20000 in
set_option maxRecDepth 20000 in
theorem ggX5_ahead_X2_trace : GoodIn wsX5_ahead wsX2_trace := goodIn_r _ [14, 15, 16, 17, 18, 19, 20, 13, 21, 22, 23, 24, 25, 26, 69, 70, 71, 58, 59, 60, 61, 62, 63, 64, 65, 66, 67, 68] rfl (by decide +kernel)
set_option maxRecDepth 20000 in
theorem gX5_ahead_X2_trace : GoodIn wsX5_ahead (wsV RX5 100 RX2 yX2_trace wsX2_trace) := goodIn_app (goodIn_of _ (by decide +kernel)) ggX5_ahead_X2_trace
set_option maxRecDepth 20000 in
set_option maxRecDepth 20000 in
theorem ggX5_ahead_X0_link : GoodIn wsX5_ahead wsX0_link := goodIn_r _ [30, 31, 32, 33, 34, 7, 35, 36, 9, 37, 38, 39, 40, 41, 42, 43, 44, 45, 58, 59, 60, 61, 62, 63, 64, 65, 66, 67, 68] rfl (by decide +kernel)
set_option maxRecDepth 20000 in
theorem gX5_ahead_X0_link : GoodIn wsX5_ahead (wsV RX5 104 RX0 yX0_link wsX0_link) := goodIn_app (goodIn_of _ (by decide +kernel)) ggX5_ahead_X0_link
theorem dX5_ahead_0 : decode cX5_ahead 0 = .ok (.aload_n 0, 1) := by decide +kernel
theorem dX5_ahead_1 : decode cX5_ahead 1 = .ok (.getfield 12, 3) := by decide +kernel
theorem dX5_ahead_4 : decode cX5_ahead 4 = .ok (.iload_n 1, 1) := by decide +kernel
theorem dX5_ahead_5 : decode cX5_ahead 5 = .ok (.invokevirtual 80, 3) := by decide +kernel
theorem dX5_ahead_8 : decode cX5_ahead 8 = .ok (.ifCond .eq 14, 3) := by decide +kernel
theorem dX5_ahead_11 : decode cX5_ahead 11 = .ok (.aload_n 0, 1) := by decide +kernel
theorem dX5_ahead_12 : decode cX5_ahead 12 = .ok (.getfield 12, 3) := by decide +kernel
theorem dX5_ahead_15 : decode cX5_ahead 15 = .ok (.iload_n 2, 1) := by decide +kernel
theorem dX5_ahead_16 : decode cX5_ahead 16 = .ok (.invokevirtual 80, 3) := by decide +kernel
theorem dX5_ahead_19 : decode cX5_ahead 19 = .ok (.ifCond .ne 6, 3) := by decide +kernel
theorem dX5_ahead_22 : decode cX5_ahead 22 = .ok (.bipush (-2), 2) := by decide +kernel
theorem dX5_ahead_24 : decode cX5_ahead 24 = .ok (.ireturn, 1) := by decide +kernel
theorem dX5_ahead_25 : decode cX5_ahead 25 = .ok (.iload_n 1, 1) := by decide +kernel
theorem dX5_ahead_26 : decode cX5_ahead 26 = .ok (.iload_n 2, 1) := by decide +kernel
theorem dX5_ahead_27 : decode cX5_ahead 27 = .ok (.if_icmp .eq 19, 3) := by decide +kernel
theorem dX5_ahead_30 : decode cX5_ahead 30 = .ok (.aload_n 0, 1) := by decide +kernel
theorem dX5_ahead_31 : decode cX5_ahead 31 = .ok (.getfield 12, 3) := by decide +kernel
theorem dX5_ahead_34 : decode cX5_ahead 34 = .ok (.getfield 97, 3) := by decide +kernel
theorem dX5_ahead_37 : decode cX5_ahead 37 = .ok (.iload_n 1, 1) := by decide +kernel
theorem dX5_ahead_38 : decode cX5_ahead 38 = .ok (.iaload, 1) := by decide +kernel
theorem dX5_ahead_39 : decode cX5_ahead 39 = .ok (.iconst 1, 1) := by decide +kernel
theorem dX5_ahead_40 : decode cX5_ahead 40 = .ok (.iload_n 2, 1) := by decide +kernel
theorem dX5_ahead_41 : decode cX5_ahead 41 = .ok (.ishl, 1) := by decide +kernel
theorem dX5_ahead_42 : decode cX5_ahead 42 = .ok (.iand, 1) := by decide +kernel
theorem dX5_ahead_43 : decode cX5_ahead 43 = .ok (.ifCond .eq 19, 3) := by decide +kernel
theorem dX5_ahead_46 : decode cX5_ahead 46 = .ok (.aload_n 0, 1) := by decide +kernel
theorem dX5_ahead_47 : decode cX5_ahead 47 = .ok (.getfield 38, 3) := by decide +kernel
theorem dX5_ahead_50 : decode cX5_ahead 50 = .ok (.aload_n 0, 1) := by decide +kernel
theorem dX5_ahead_51 : decode cX5_ahead 51 = .ok (.getfield 12, 3) := by decide +kernel
theorem dX5_ahead_54 : decode cX5_ahead 54 = .ok (.iload_n 1, 1) := by decide +kernel
theorem dX5_ahead_55 : decode cX5_ahead 55 = .ok (.iload_n 2, 1) := by decide +kernel
theorem dX5_ahead_56 : decode cX5_ahead 56 = .ok (.invokevirtual 100, 3) := by decide +kernel
theorem dX5_ahead_59 : decode cX5_ahead 59 = .ok (.bipush (-3), 2) := by decide +kernel
theorem dX5_ahead_61 : decode cX5_ahead 61 = .ok (.ireturn, 1) := by decide +kernel
theorem dX5_ahead_62 : decode cX5_ahead 62 = .ok (.aload_n 0, 1) := by decide +kernel
theorem dX5_ahead_63 : decode cX5_ahead 63 = .ok (.getfield 12, 3) := by decide +kernel
theorem dX5_ahead_66 : decode cX5_ahead 66 = .ok (.iload_n 1, 1) := by decide +kernel
theorem dX5_ahead_67 : decode cX5_ahead 67 = .ok (.iload_n 2, 1) := by decide +kernel
theorem dX5_ahead_68 : decode cX5_ahead 68 = .ok (.invokevirtual 104, 3) := by decide +kernel
theorem dX5_ahead_71 : decode cX5_ahead 71 = .ok (.ifCond .eq 7, 3) := by decide +kernel
theorem dX5_ahead_74 : decode cX5_ahead 74 = .ok (.iconst 1, 1) := by decide +kernel
theorem dX5_ahead_75 : decode cX5_ahead 75 = .ok (.goto 4, 3) := by decide +kernel
theorem dX5_ahead_78 : decode cX5_ahead 78 = .ok (.iconst 0, 1) := by decide +kernel
theorem dX5_ahead_79 : decode cX5_ahead 79 = .ok (.ireturn, 1) := by decide +kernel
set_option maxRecDepth 20000 in
set_option maxRecDepth 20000 in
theorem ggX5_free_X0_has : GoodIn wsX5_free wsX0_has := goodIn_r _ [6, 7, 39, 40, 41, 42, 43, 44, 45, 46, 47, 48, 49] rfl (by decide +kernel)
set_option maxRecDepth 20000 in
theorem gX5_free_X0_has : GoodIn wsX5_free (wsV RX5 80 RX0 yX0_has wsX0_has) := goodIn_app (goodIn_of _ (by decide +kernel)) ggX5_free_X0_has
set_option maxRecDepth 20000 in
set_option maxRecDepth 20000 in
theorem ggX5_free_X0_unlink : GoodIn wsX5_free wsX0_unlink := goodIn_r _ [11, 12, 13, 14, 15, 5, 16, 17, 7, 18, 19, 20, 21, 22, 23, 24, 25, 26, 39, 40, 41, 42, 43, 44, 45, 46, 47, 48, 49] rfl (by decide +kernel)
set_option maxRecDepth 20000 in
theorem gX5_free_X0_unlink : GoodIn wsX5_free (wsV RX5 108 RX0 yX0_unlink wsX0_unlink) := goodIn_app (goodIn_of _ (by decide +kernel)) ggX5_free_X0_unlink
theorem dX5_free_0 : decode cX5_free 0 = .ok (.aload_n 0, 1) := by decide +kernel
theorem dX5_free_1 : decode cX5_free 1 = .ok (.getfield 12, 3) := by decide +kernel
theorem dX5_free_4 : decode cX5_free 4 = .ok (.iload_n 1, 1) := by decide +kernel
theorem dX5_free_5 : decode cX5_free 5 = .ok (.invokevirtual 80, 3) := by decide +kernel
theorem dX5_free_8 : decode cX5_free 8 = .ok (.ifCond .eq 14, 3) := by decide +kernel
theorem dX5_free_11 : decode cX5_free 11 = .ok (.aload_n 0, 1) := by decide +kernel
theorem dX5_free_12 : decode cX5_free 12 = .ok (.getfield 12, 3) := by decide +kernel
theorem dX5_free_15 : decode cX5_free 15 = .ok (.iload_n 2, 1) := by decide +kernel
theorem dX5_free_16 : decode cX5_free 16 = .ok (.invokevirtual 80, 3) := by decide +kernel
theorem dX5_free_19 : decode cX5_free 19 = .ok (.ifCond .ne 6, 3) := by decide +kernel
theorem dX5_free_22 : decode cX5_free 22 = .ok (.bipush (-2), 2) := by decide +kernel
theorem dX5_free_24 : decode cX5_free 24 = .ok (.ireturn, 1) := by decide +kernel
theorem dX5_free_25 : decode cX5_free 25 = .ok (.aload_n 0, 1) := by decide +kernel
theorem dX5_free_26 : decode cX5_free 26 = .ok (.getfield 12, 3) := by decide +kernel
theorem dX5_free_29 : decode cX5_free 29 = .ok (.iload_n 1, 1) := by decide +kernel
theorem dX5_free_30 : decode cX5_free 30 = .ok (.iload_n 2, 1) := by decide +kernel
theorem dX5_free_31 : decode cX5_free 31 = .ok (.invokevirtual 108, 3) := by decide +kernel
theorem dX5_free_34 : decode cX5_free 34 = .ok (.ifCond .eq 7, 3) := by decide +kernel
theorem dX5_free_37 : decode cX5_free 37 = .ok (.iconst 1, 1) := by decide +kernel
theorem dX5_free_38 : decode cX5_free 38 = .ok (.goto 4, 3) := by decide +kernel
theorem dX5_free_41 : decode cX5_free 41 = .ok (.iconst 0, 1) := by decide +kernel
theorem dX5_free_42 : decode cX5_free 42 = .ok (.ireturn, 1) := by decide +kernel
theorem dX5_ring_0 : decode cX5_ring 0 = .ok (.iload_n 1, 1) := by decide +kernel
theorem dX5_ring_1 : decode cX5_ring 1 = .ok (.ifCond .lt 26, 3) := by decide +kernel
theorem dX5_ring_4 : decode cX5_ring 4 = .ok (.iload_n 1, 1) := by decide +kernel
theorem dX5_ring_5 : decode cX5_ring 5 = .ok (.aload_n 0, 1) := by decide +kernel
theorem dX5_ring_6 : decode cX5_ring 6 = .ok (.getfield 38, 3) := by decide +kernel
theorem dX5_ring_9 : decode cX5_ring 9 = .ok (.getfield 111, 3) := by decide +kernel
theorem dX5_ring_12 : decode cX5_ring 12 = .ok (.if_icmp .ge 15, 3) := by decide +kernel
theorem dX5_ring_15 : decode cX5_ring 15 = .ok (.aload_n 0, 1) := by decide +kernel
theorem dX5_ring_16 : decode cX5_ring 16 = .ok (.getfield 38, 3) := by decide +kernel
theorem dX5_ring_19 : decode cX5_ring 19 = .ok (.getfield 112, 3) := by decide +kernel
theorem dX5_ring_22 : decode cX5_ring 22 = .ok (.iload_n 1, 1) := by decide +kernel
theorem dX5_ring_23 : decode cX5_ring 23 = .ok (.iaload, 1) := by decide +kernel
theorem dX5_ring_24 : decode cX5_ring 24 = .ok (.goto 5, 3) := by decide +kernel
theorem dX5_ring_27 : decode cX5_ring 27 = .ok (.bipush (-4), 2) := by decide +kernel
theorem dX5_ring_29 : decode cX5_ring 29 = .ok (.ireturn, 1) := by decide +kernel
set_option maxRecDepth 20000 in
set_option maxRecDepth 20000 in
theorem ggX5_pair_X0_has : GoodIn wsX5_pair wsX0_has := goodIn_r _ [6, 7, 33, 34, 35, 36, 37, 38, 39, 40, 41, 42, 43] rfl (by decide +kernel)
set_option maxRecDepth 20000 in
theorem gX5_pair_X0_has : GoodIn wsX5_pair (wsV RX5 80 RX0 yX0_has wsX0_has) := goodIn_app (goodIn_of _ (by decide +kernel)) ggX5_pair_X0_has
set_option maxRecDepth 20000 in
set_option maxRecDepth 20000 in
theorem ggX5_pair_X0_pairing : GoodIn wsX5_pair wsX0_pairing := goodIn_r _ [11, 12, 13, 33, 34, 35, 36, 37, 38, 39, 40, 41, 42, 43] rfl (by decide +kernel)
set_option maxRecDepth 20000 in
theorem gX5_pair_X0_pairing : GoodIn wsX5_pair (wsV RX5 113 RX0 yX0_pairing wsX0_pairing) := goodIn_app (goodIn_of _ (by decide +kernel)) ggX5_pair_X0_pairing
set_option maxRecDepth 20000 in
set_option maxRecDepth 20000 in
theorem ggX5_pair_X0_pairUp : GoodIn wsX5_pair wsX0_pairUp := goodIn_r _ [17, 12, 13, 18, 19, 5, 20, 33, 34, 35, 36, 37, 38, 39, 40, 41, 42, 43] rfl (by decide +kernel)
set_option maxRecDepth 20000 in
theorem gX5_pair_X0_pairUp : GoodIn wsX5_pair (wsV RX5 117 RX0 yX0_pairUp wsX0_pairUp) := goodIn_app (goodIn_of _ (by decide +kernel)) ggX5_pair_X0_pairUp
theorem dX5_pair_0 : decode cX5_pair 0 = .ok (.aload_n 0, 1) := by decide +kernel
theorem dX5_pair_1 : decode cX5_pair 1 = .ok (.getfield 12, 3) := by decide +kernel
theorem dX5_pair_4 : decode cX5_pair 4 = .ok (.iload_n 1, 1) := by decide +kernel
theorem dX5_pair_5 : decode cX5_pair 5 = .ok (.invokevirtual 80, 3) := by decide +kernel
theorem dX5_pair_8 : decode cX5_pair 8 = .ok (.ifCond .eq 28, 3) := by decide +kernel
theorem dX5_pair_11 : decode cX5_pair 11 = .ok (.aload_n 0, 1) := by decide +kernel
theorem dX5_pair_12 : decode cX5_pair 12 = .ok (.getfield 12, 3) := by decide +kernel
theorem dX5_pair_15 : decode cX5_pair 15 = .ok (.iload_n 2, 1) := by decide +kernel
theorem dX5_pair_16 : decode cX5_pair 16 = .ok (.invokevirtual 80, 3) := by decide +kernel
theorem dX5_pair_19 : decode cX5_pair 19 = .ok (.ifCond .eq 17, 3) := by decide +kernel
theorem dX5_pair_22 : decode cX5_pair 22 = .ok (.iload_n 1, 1) := by decide +kernel
theorem dX5_pair_23 : decode cX5_pair 23 = .ok (.iload_n 2, 1) := by decide +kernel
theorem dX5_pair_24 : decode cX5_pair 24 = .ok (.if_icmp .eq 12, 3) := by decide +kernel
theorem dX5_pair_27 : decode cX5_pair 27 = .ok (.iload_n 3, 1) := by decide +kernel
theorem dX5_pair_28 : decode cX5_pair 28 = .ok (.ifCond .lt 8, 3) := by decide +kernel
theorem dX5_pair_31 : decode cX5_pair 31 = .ok (.iload_n 3, 1) := by decide +kernel
theorem dX5_pair_32 : decode cX5_pair 32 = .ok (.iconst 2, 1) := by decide +kernel
theorem dX5_pair_33 : decode cX5_pair 33 = .ok (.if_icmp .le 6, 3) := by decide +kernel
theorem dX5_pair_36 : decode cX5_pair 36 = .ok (.bipush (-2), 2) := by decide +kernel
theorem dX5_pair_38 : decode cX5_pair 38 = .ok (.ireturn, 1) := by decide +kernel
theorem dX5_pair_39 : decode cX5_pair 39 = .ok (.aload_n 0, 1) := by decide +kernel
theorem dX5_pair_40 : decode cX5_pair 40 = .ok (.getfield 12, 3) := by decide +kernel
theorem dX5_pair_43 : decode cX5_pair 43 = .ok (.iload_n 1, 1) := by decide +kernel
theorem dX5_pair_44 : decode cX5_pair 44 = .ok (.iload_n 2, 1) := by decide +kernel
theorem dX5_pair_45 : decode cX5_pair 45 = .ok (.invokevirtual 113, 3) := by decide +kernel
theorem dX5_pair_48 : decode cX5_pair 48 = .ok (.istore 4, 2) := by decide +kernel
theorem dX5_pair_50 : decode cX5_pair 50 = .ok (.aload_n 0, 1) := by decide +kernel
theorem dX5_pair_51 : decode cX5_pair 51 = .ok (.getfield 12, 3) := by decide +kernel
theorem dX5_pair_54 : decode cX5_pair 54 = .ok (.iload_n 1, 1) := by decide +kernel
theorem dX5_pair_55 : decode cX5_pair 55 = .ok (.iload_n 2, 1) := by decide +kernel
theorem dX5_pair_56 : decode cX5_pair 56 = .ok (.iload_n 3, 1) := by decide +kernel
theorem dX5_pair_57 : decode cX5_pair 57 = .ok (.invokevirtual 117, 3) := by decide +kernel
theorem dX5_pair_60 : decode cX5_pair 60 = .ok (.iload 4, 2) := by decide +kernel
theorem dX5_pair_62 : decode cX5_pair 62 = .ok (.ireturn, 1) := by decide +kernel
set_option maxRecDepth 20000 in
set_option maxRecDepth 20000 in
theorem ggX5_hold_X0_has : GoodIn wsX5_hold wsX0_has := goodIn_r _ [7, 8, 25, 26, 27, 28, 29, 30, 31, 32, 33, 34, 35] rfl (by decide +kernel)
set_option maxRecDepth 20000 in
theorem gX5_hold_X0_has : GoodIn wsX5_hold (wsV RX5 80 RX0 yX0_has wsX0_has) := goodIn_app (goodIn_of _ (by decide +kernel)) ggX5_hold_X0_has
set_option maxRecDepth 20000 in
set_option maxRecDepth 20000 in
theorem ggX5_hold_X5_isStationOrNone : GoodIn wsX5_hold wsX5_isStationOrNone := goodIn_r _ [12] rfl (by decide +kernel)
set_option maxRecDepth 20000 in
theorem gX5_hold_X5_isStationOrNone : GoodIn wsX5_hold (va_wsS RX5 121 yX5_isStationOrNone wsX5_isStationOrNone) := goodIn_app (goodIn_of _ (by decide +kernel)) ggX5_hold_X5_isStationOrNone
theorem dX5_hold_0 : decode cX5_hold 0 = .ok (.aload_n 0, 1) := by decide +kernel
theorem dX5_hold_1 : decode cX5_hold 1 = .ok (.getfield 12, 3) := by decide +kernel
theorem dX5_hold_4 : decode cX5_hold 4 = .ok (.iload_n 1, 1) := by decide +kernel
theorem dX5_hold_5 : decode cX5_hold 5 = .ok (.invokevirtual 80, 3) := by decide +kernel
theorem dX5_hold_8 : decode cX5_hold 8 = .ok (.ifCond .eq 10, 3) := by decide +kernel
theorem dX5_hold_11 : decode cX5_hold 11 = .ok (.iload_n 2, 1) := by decide +kernel
theorem dX5_hold_12 : decode cX5_hold 12 = .ok (.invokestatic 121, 3) := by decide +kernel
theorem dX5_hold_15 : decode cX5_hold 15 = .ok (.ifCond .ne 6, 3) := by decide +kernel
theorem dX5_hold_18 : decode cX5_hold 18 = .ok (.bipush (-2), 2) := by decide +kernel
theorem dX5_hold_20 : decode cX5_hold 20 = .ok (.ireturn, 1) := by decide +kernel
theorem dX5_hold_21 : decode cX5_hold 21 = .ok (.aload_n 0, 1) := by decide +kernel
theorem dX5_hold_22 : decode cX5_hold 22 = .ok (.getfield 12, 3) := by decide +kernel
theorem dX5_hold_25 : decode cX5_hold 25 = .ok (.getfield 124, 3) := by decide +kernel
theorem dX5_hold_28 : decode cX5_hold 28 = .ok (.iload_n 1, 1) := by decide +kernel
theorem dX5_hold_29 : decode cX5_hold 29 = .ok (.iaload, 1) := by decide +kernel
theorem dX5_hold_30 : decode cX5_hold 30 = .ok (.istore_n 3, 1) := by decide +kernel
theorem dX5_hold_31 : decode cX5_hold 31 = .ok (.aload_n 0, 1) := by decide +kernel
theorem dX5_hold_32 : decode cX5_hold 32 = .ok (.getfield 12, 3) := by decide +kernel
theorem dX5_hold_35 : decode cX5_hold 35 = .ok (.getfield 124, 3) := by decide +kernel
theorem dX5_hold_38 : decode cX5_hold 38 = .ok (.iload_n 1, 1) := by decide +kernel
theorem dX5_hold_39 : decode cX5_hold 39 = .ok (.iload_n 2, 1) := by decide +kernel
theorem dX5_hold_40 : decode cX5_hold 40 = .ok (.iastore, 1) := by decide +kernel
theorem dX5_hold_41 : decode cX5_hold 41 = .ok (.iload_n 3, 1) := by decide +kernel
theorem dX5_hold_42 : decode cX5_hold 42 = .ok (.ireturn, 1) := by decide +kernel
theorem dX5_line_0 : decode cX5_line 0 = .ok (.iload_n 1, 1) := by decide +kernel
theorem dX5_line_1 : decode cX5_line 1 = .ok (.ifCond .lt 8, 3) := by decide +kernel
theorem dX5_line_4 : decode cX5_line 4 = .ok (.iload_n 1, 1) := by decide +kernel
theorem dX5_line_5 : decode cX5_line 5 = .ok (.iconst 3, 1) := by decide +kernel
theorem dX5_line_6 : decode cX5_line 6 = .ok (.if_icmp .le 6, 3) := by decide +kernel
theorem dX5_line_9 : decode cX5_line 9 = .ok (.bipush (-2), 2) := by decide +kernel
theorem dX5_line_11 : decode cX5_line 11 = .ok (.ireturn, 1) := by decide +kernel
theorem dX5_line_12 : decode cX5_line 12 = .ok (.aload_n 0, 1) := by decide +kernel
theorem dX5_line_13 : decode cX5_line 13 = .ok (.getfield 12, 3) := by decide +kernel
theorem dX5_line_16 : decode cX5_line 16 = .ok (.getfield 127, 3) := by decide +kernel
theorem dX5_line_19 : decode cX5_line 19 = .ok (.istore_n 2, 1) := by decide +kernel
theorem dX5_line_20 : decode cX5_line 20 = .ok (.aload_n 0, 1) := by decide +kernel
theorem dX5_line_21 : decode cX5_line 21 = .ok (.getfield 12, 3) := by decide +kernel
theorem dX5_line_24 : decode cX5_line 24 = .ok (.iload_n 1, 1) := by decide +kernel
theorem dX5_line_25 : decode cX5_line 25 = .ok (.putfield 127, 3) := by decide +kernel
theorem dX5_line_28 : decode cX5_line 28 = .ok (.iload_n 2, 1) := by decide +kernel
theorem dX5_line_29 : decode cX5_line 29 = .ok (.ireturn, 1) := by decide +kernel
theorem dX5_beat_0 : decode cX5_beat 0 = .ok (.iload_n 1, 1) := by decide +kernel
theorem dX5_beat_1 : decode cX5_beat 1 = .ok (.iconst 1, 1) := by decide +kernel
theorem dX5_beat_2 : decode cX5_beat 2 = .ok (.if_icmp .lt 10, 3) := by decide +kernel
theorem dX5_beat_5 : decode cX5_beat 5 = .ok (.iload_n 1, 1) := by decide +kernel
theorem dX5_beat_6 : decode cX5_beat 6 = .ok (.sipush 1000, 3) := by decide +kernel
theorem dX5_beat_9 : decode cX5_beat 9 = .ok (.if_icmp .le 6, 3) := by decide +kernel
theorem dX5_beat_12 : decode cX5_beat 12 = .ok (.bipush (-2), 2) := by decide +kernel
theorem dX5_beat_14 : decode cX5_beat 14 = .ok (.ireturn, 1) := by decide +kernel
theorem dX5_beat_15 : decode cX5_beat 15 = .ok (.aload_n 0, 1) := by decide +kernel
theorem dX5_beat_16 : decode cX5_beat 16 = .ok (.getfield 12, 3) := by decide +kernel
theorem dX5_beat_19 : decode cX5_beat 19 = .ok (.getfield 130, 3) := by decide +kernel
theorem dX5_beat_22 : decode cX5_beat 22 = .ok (.istore_n 2, 1) := by decide +kernel
theorem dX5_beat_23 : decode cX5_beat 23 = .ok (.aload_n 0, 1) := by decide +kernel
theorem dX5_beat_24 : decode cX5_beat 24 = .ok (.getfield 12, 3) := by decide +kernel
theorem dX5_beat_27 : decode cX5_beat 27 = .ok (.iload_n 1, 1) := by decide +kernel
theorem dX5_beat_28 : decode cX5_beat 28 = .ok (.putfield 130, 3) := by decide +kernel
theorem dX5_beat_31 : decode cX5_beat 31 = .ok (.iload_n 2, 1) := by decide +kernel
theorem dX5_beat_32 : decode cX5_beat 32 = .ok (.ireturn, 1) := by decide +kernel
set_option maxRecDepth 20000 in
set_option maxRecDepth 20000 in
theorem ggX5_of_X0_has : GoodIn wsX5_of wsX0_has := goodIn_r _ [13, 14, 50, 51, 52, 53, 54, 55, 56, 57, 58, 59, 60] rfl (by decide +kernel)
set_option maxRecDepth 20000 in
theorem gX5_of_X0_has : GoodIn wsX5_of (wsV RX5 80 RX0 yX0_has wsX0_has) := goodIn_app (goodIn_of _ (by decide +kernel)) ggX5_of_X0_has
set_option maxRecDepth 20000 in
set_option maxRecDepth 20000 in
theorem ggX5_of_X0_loadOf : GoodIn wsX5_of wsX0_loadOf := goodIn_r _ [18, 19, 20, 21, 12, 22, 23, 24, 25, 26, 27, 28, 14, 29, 30, 31, 32, 33, 34, 35, 36, 37, 50, 51, 52, 53, 54, 55, 56, 57, 58, 59, 60] rfl (by decide +kernel)
set_option maxRecDepth 20000 in
theorem gX5_of_X0_loadOf : GoodIn wsX5_of (wsV RX5 139 RX0 yX0_loadOf wsX0_loadOf) := goodIn_app (goodIn_of _ (by decide +kernel)) ggX5_of_X0_loadOf
theorem dX5_of_0 : decode cX5_of 0 = .ok (.aload_n 0, 1) := by decide +kernel
theorem dX5_of_1 : decode cX5_of 1 = .ok (.getfield 12, 3) := by decide +kernel
theorem dX5_of_4 : decode cX5_of 4 = .ok (.iload_n 1, 1) := by decide +kernel
theorem dX5_of_5 : decode cX5_of 5 = .ok (.invokevirtual 80, 3) := by decide +kernel
theorem dX5_of_8 : decode cX5_of 8 = .ok (.ifCond .ne 6, 3) := by decide +kernel
theorem dX5_of_11 : decode cX5_of 11 = .ok (.bipush (-2), 2) := by decide +kernel
theorem dX5_of_13 : decode cX5_of 13 = .ok (.ireturn, 1) := by decide +kernel
theorem dX5_of_14 : decode cX5_of 14 = .ok (.iload_n 2, 1) := by decide +kernel
theorem dX5_of_15 : decode cX5_of 15 = .ok (.tableswitch 122 0 8 #[49, 49, 49, 61, 71, 81, 91, 101, 111], 49) := by decide +kernel
theorem dX5_of_64 : decode cX5_of 64 = .ok (.aload_n 0, 1) := by decide +kernel
theorem dX5_of_65 : decode cX5_of 65 = .ok (.getfield 12, 3) := by decide +kernel
theorem dX5_of_68 : decode cX5_of 68 = .ok (.getfield 87, 3) := by decide +kernel
theorem dX5_of_71 : decode cX5_of 71 = .ok (.iload_n 2, 1) := by decide +kernel
theorem dX5_of_72 : decode cX5_of 72 = .ok (.aaload, 1) := by decide +kernel
theorem dX5_of_73 : decode cX5_of 73 = .ok (.iload_n 1, 1) := by decide +kernel
theorem dX5_of_74 : decode cX5_of 74 = .ok (.iaload, 1) := by decide +kernel
theorem dX5_of_75 : decode cX5_of 75 = .ok (.ireturn, 1) := by decide +kernel
theorem dX5_of_76 : decode cX5_of 76 = .ok (.aload_n 0, 1) := by decide +kernel
theorem dX5_of_77 : decode cX5_of 77 = .ok (.getfield 12, 3) := by decide +kernel
theorem dX5_of_80 : decode cX5_of 80 = .ok (.getfield 133, 3) := by decide +kernel
theorem dX5_of_83 : decode cX5_of 83 = .ok (.iload_n 1, 1) := by decide +kernel
theorem dX5_of_84 : decode cX5_of 84 = .ok (.iaload, 1) := by decide +kernel
theorem dX5_of_85 : decode cX5_of 85 = .ok (.ireturn, 1) := by decide +kernel
theorem dX5_of_86 : decode cX5_of 86 = .ok (.aload_n 0, 1) := by decide +kernel
theorem dX5_of_87 : decode cX5_of 87 = .ok (.getfield 12, 3) := by decide +kernel
theorem dX5_of_90 : decode cX5_of 90 = .ok (.getfield 97, 3) := by decide +kernel
theorem dX5_of_93 : decode cX5_of 93 = .ok (.iload_n 1, 1) := by decide +kernel
theorem dX5_of_94 : decode cX5_of 94 = .ok (.iaload, 1) := by decide +kernel
theorem dX5_of_95 : decode cX5_of 95 = .ok (.ireturn, 1) := by decide +kernel
theorem dX5_of_96 : decode cX5_of 96 = .ok (.aload_n 0, 1) := by decide +kernel
theorem dX5_of_97 : decode cX5_of 97 = .ok (.getfield 12, 3) := by decide +kernel
theorem dX5_of_100 : decode cX5_of 100 = .ok (.getfield 136, 3) := by decide +kernel
theorem dX5_of_103 : decode cX5_of 103 = .ok (.iload_n 1, 1) := by decide +kernel
theorem dX5_of_104 : decode cX5_of 104 = .ok (.iaload, 1) := by decide +kernel
theorem dX5_of_105 : decode cX5_of 105 = .ok (.ireturn, 1) := by decide +kernel
theorem dX5_of_106 : decode cX5_of 106 = .ok (.aload_n 0, 1) := by decide +kernel
theorem dX5_of_107 : decode cX5_of 107 = .ok (.getfield 12, 3) := by decide +kernel
theorem dX5_of_110 : decode cX5_of 110 = .ok (.getfield 124, 3) := by decide +kernel
theorem dX5_of_113 : decode cX5_of 113 = .ok (.iload_n 1, 1) := by decide +kernel
theorem dX5_of_114 : decode cX5_of 114 = .ok (.iaload, 1) := by decide +kernel
theorem dX5_of_115 : decode cX5_of 115 = .ok (.ireturn, 1) := by decide +kernel
theorem dX5_of_116 : decode cX5_of 116 = .ok (.aload_n 0, 1) := by decide +kernel
theorem dX5_of_117 : decode cX5_of 117 = .ok (.getfield 21, 3) := by decide +kernel
theorem dX5_of_120 : decode cX5_of 120 = .ok (.getfield 77, 3) := by decide +kernel
theorem dX5_of_123 : decode cX5_of 123 = .ok (.iload_n 1, 1) := by decide +kernel
theorem dX5_of_124 : decode cX5_of 124 = .ok (.iaload, 1) := by decide +kernel
theorem dX5_of_125 : decode cX5_of 125 = .ok (.ireturn, 1) := by decide +kernel
theorem dX5_of_126 : decode cX5_of 126 = .ok (.aload_n 0, 1) := by decide +kernel
theorem dX5_of_127 : decode cX5_of 127 = .ok (.getfield 12, 3) := by decide +kernel
theorem dX5_of_130 : decode cX5_of 130 = .ok (.iconst 1, 1) := by decide +kernel
theorem dX5_of_131 : decode cX5_of 131 = .ok (.iload_n 1, 1) := by decide +kernel
theorem dX5_of_132 : decode cX5_of 132 = .ok (.ishl, 1) := by decide +kernel
theorem dX5_of_133 : decode cX5_of 133 = .ok (.invokevirtual 139, 3) := by decide +kernel
theorem dX5_of_136 : decode cX5_of 136 = .ok (.ireturn, 1) := by decide +kernel
theorem dX5_of_137 : decode cX5_of 137 = .ok (.bipush (-2), 2) := by decide +kernel
theorem dX5_of_139 : decode cX5_of 139 = .ok (.ireturn, 1) := by decide +kernel
set_option maxRecDepth 20000 in
set_option maxRecDepth 20000 in
theorem ggX5_put_X0_has : GoodIn wsX5_put wsX0_has := goodIn_r _ [8, 9, 28, 29, 30, 31, 32, 33, 34, 35, 36, 37, 38] rfl (by decide +kernel)
set_option maxRecDepth 20000 in
theorem gX5_put_X0_has : GoodIn wsX5_put (wsV RX5 80 RX0 yX0_has wsX0_has) := goodIn_app (goodIn_of _ (by decide +kernel)) ggX5_put_X0_has
set_option maxRecDepth 20000 in
set_option maxRecDepth 20000 in
theorem ggX5_put_X5_isStationOrNone : GoodIn wsX5_put wsX5_isStationOrNone := goodIn_r _ [13] rfl (by decide +kernel)
set_option maxRecDepth 20000 in
theorem gX5_put_X5_isStationOrNone : GoodIn wsX5_put (va_wsS RX5 121 yX5_isStationOrNone wsX5_isStationOrNone) := goodIn_app (goodIn_of _ (by decide +kernel)) ggX5_put_X5_isStationOrNone
theorem dX5_put_0 : decode cX5_put 0 = .ok (.aload_n 0, 1) := by decide +kernel
theorem dX5_put_1 : decode cX5_put 1 = .ok (.getfield 12, 3) := by decide +kernel
theorem dX5_put_4 : decode cX5_put 4 = .ok (.iload_n 1, 1) := by decide +kernel
theorem dX5_put_5 : decode cX5_put 5 = .ok (.invokevirtual 80, 3) := by decide +kernel
theorem dX5_put_8 : decode cX5_put 8 = .ok (.ifCond .eq 10, 3) := by decide +kernel
theorem dX5_put_11 : decode cX5_put 11 = .ok (.iload_n 2, 1) := by decide +kernel
theorem dX5_put_12 : decode cX5_put 12 = .ok (.invokestatic 121, 3) := by decide +kernel
theorem dX5_put_15 : decode cX5_put 15 = .ok (.ifCond .ne 6, 3) := by decide +kernel
theorem dX5_put_18 : decode cX5_put 18 = .ok (.bipush (-2), 2) := by decide +kernel
theorem dX5_put_20 : decode cX5_put 20 = .ok (.ireturn, 1) := by decide +kernel
theorem dX5_put_21 : decode cX5_put 21 = .ok (.aload_n 0, 1) := by decide +kernel
theorem dX5_put_22 : decode cX5_put 22 = .ok (.getfield 21, 3) := by decide +kernel
theorem dX5_put_25 : decode cX5_put 25 = .ok (.getfield 77, 3) := by decide +kernel
theorem dX5_put_28 : decode cX5_put 28 = .ok (.iload_n 1, 1) := by decide +kernel
theorem dX5_put_29 : decode cX5_put 29 = .ok (.iaload, 1) := by decide +kernel
theorem dX5_put_30 : decode cX5_put 30 = .ok (.istore_n 3, 1) := by decide +kernel
theorem dX5_put_31 : decode cX5_put 31 = .ok (.aload_n 0, 1) := by decide +kernel
theorem dX5_put_32 : decode cX5_put 32 = .ok (.getfield 21, 3) := by decide +kernel
theorem dX5_put_35 : decode cX5_put 35 = .ok (.getfield 77, 3) := by decide +kernel
theorem dX5_put_38 : decode cX5_put 38 = .ok (.iload_n 1, 1) := by decide +kernel
theorem dX5_put_39 : decode cX5_put 39 = .ok (.iload_n 2, 1) := by decide +kernel
theorem dX5_put_40 : decode cX5_put 40 = .ok (.iastore, 1) := by decide +kernel
theorem dX5_put_41 : decode cX5_put 41 = .ok (.iload_n 3, 1) := by decide +kernel
theorem dX5_put_42 : decode cX5_put 42 = .ok (.ireturn, 1) := by decide +kernel
set_option maxRecDepth 20000 in
set_option maxRecDepth 20000 in
theorem ggX5_cause_X0_has : GoodIn wsX5_cause wsX0_has := goodIn_r _ [7, 8, 78, 79, 80, 81, 82, 83, 84, 85, 86, 87, 88] rfl (by decide +kernel)
set_option maxRecDepth 20000 in
theorem gX5_cause_X0_has : GoodIn wsX5_cause (wsV RX5 80 RX0 yX0_has wsX0_has) := goodIn_app (goodIn_of _ (by decide +kernel)) ggX5_cause_X0_has
set_option maxRecDepth 20000 in
set_option maxRecDepth 20000 in
theorem ggX5_cause_X1_causeOf : GoodIn wsX5_cause wsX1_causeOf := goodIn_r _ [13, 14, 15, 16, 17, 18, 19, 20, 21, 12, 22, 23, 24, 25, 26, 6, 27, 28, 29, 30, 31, 32, 33, 34, 35, 36, 37, 8, 38, 39, 40, 41, 42, 43, 44, 45, 46, 47, 48, 49, 50, 51, 52, 53, 54, 55, 56, 57, 58, 59, 60, 61, 62, 63, 64, 65, 89, 90, 78, 79, 80, 81, 82, 83, 84, 85, 86, 87, 88] rfl (by decide +kernel)
set_option maxRecDepth 20000 in
theorem gX5_cause_X1_causeOf : GoodIn wsX5_cause (wsV RX5 143 RX1 yX1_causeOf wsX1_causeOf) := goodIn_app (goodIn_of _ (by decide +kernel)) ggX5_cause_X1_causeOf
theorem dX5_cause_0 : decode cX5_cause 0 = .ok (.aload_n 0, 1) := by decide +kernel
theorem dX5_cause_1 : decode cX5_cause 1 = .ok (.getfield 12, 3) := by decide +kernel
theorem dX5_cause_4 : decode cX5_cause 4 = .ok (.iload_n 1, 1) := by decide +kernel
theorem dX5_cause_5 : decode cX5_cause 5 = .ok (.invokevirtual 80, 3) := by decide +kernel
theorem dX5_cause_8 : decode cX5_cause 8 = .ok (.ifCond .eq 14, 3) := by decide +kernel
theorem dX5_cause_11 : decode cX5_cause 11 = .ok (.aload_n 0, 1) := by decide +kernel
theorem dX5_cause_12 : decode cX5_cause 12 = .ok (.getfield 21, 3) := by decide +kernel
theorem dX5_cause_15 : decode cX5_cause 15 = .ok (.iload_n 1, 1) := by decide +kernel
theorem dX5_cause_16 : decode cX5_cause 16 = .ok (.invokevirtual 143, 3) := by decide +kernel
theorem dX5_cause_19 : decode cX5_cause 19 = .ok (.goto 5, 3) := by decide +kernel
theorem dX5_cause_22 : decode cX5_cause 22 = .ok (.bipush (-2), 2) := by decide +kernel
theorem dX5_cause_24 : decode cX5_cause 24 = .ok (.ireturn, 1) := by decide +kernel
set_option maxRecDepth 20000 in
set_option maxRecDepth 20000 in
theorem ggX5_clash_X1_firstClash : GoodIn wsX5_clash wsX1_firstClash := goodIn_r _ [6, 7, 8, 9, 10, 11, 5, 12, 13, 14, 15, 16, 17, 18, 19, 20, 21, 22, 23, 24, 25, 26, 27, 28, 29, 30, 31, 32, 33, 34, 35, 36, 37, 38, 39, 40, 41, 42, 43, 44, 45, 46, 47, 48, 49, 50, 51, 52, 53, 54, 55, 56, 57, 58, 59, 60, 61, 62, 63, 64, 77, 78, 79, 80, 81, 82, 83, 84, 85, 86, 87, 88, 89] rfl (by decide +kernel)
set_option maxRecDepth 20000 in
theorem gX5_clash_X1_firstClash : GoodIn wsX5_clash (wsV RX5 146 RX1 yX1_firstClash wsX1_firstClash) := goodIn_app (goodIn_of _ (by decide +kernel)) ggX5_clash_X1_firstClash
theorem dX5_clash_0 : decode cX5_clash 0 = .ok (.aload_n 0, 1) := by decide +kernel
theorem dX5_clash_1 : decode cX5_clash 1 = .ok (.getfield 21, 3) := by decide +kernel
theorem dX5_clash_4 : decode cX5_clash 4 = .ok (.invokevirtual 146, 3) := by decide +kernel
theorem dX5_clash_7 : decode cX5_clash 7 = .ok (.ireturn, 1) := by decide +kernel
set_option maxRecDepth 20000 in
set_option maxRecDepth 20000 in
theorem ggX5_station_X1_setAt : GoodIn wsX5_station wsX1_setAt := goodIn_r _ [7, 8, 9, 10, 57, 58, 59, 60, 61, 62, 63, 64, 65, 66, 67, 68, 69] rfl (by decide +kernel)
set_option maxRecDepth 20000 in
theorem gX5_station_X1_setAt : GoodIn wsX5_station (wsV RX5 149 RX1 yX1_setAt wsX1_setAt) := goodIn_app (goodIn_of _ (by decide +kernel)) ggX5_station_X1_setAt
set_option maxRecDepth 20000 in
set_option maxRecDepth 20000 in
theorem ggX5_station_X0_loadOf : GoodIn wsX5_station wsX0_loadOf := goodIn_r _ [15, 16, 17, 18, 14, 19, 20, 21, 22, 23, 24, 25, 26, 27, 28, 29, 30, 31, 32, 33, 34, 35, 59, 60, 61, 62, 63, 64, 65, 66, 67, 68, 69] rfl (by decide +kernel)
set_option maxRecDepth 20000 in
theorem gX5_station_X0_loadOf : GoodIn wsX5_station (wsV RX5 139 RX0 yX0_loadOf wsX0_loadOf) := goodIn_app (goodIn_of _ (by decide +kernel)) ggX5_station_X0_loadOf
set_option maxRecDepth 20000 in
set_option maxRecDepth 20000 in
theorem ggX5_station_X0_room : GoodIn wsX5_station wsX0_room := goodIn_r _ [39, 20, 40, 41, 42, 43, 14, 44, 21, 59, 60, 61, 62, 63, 64, 65, 66, 67, 68, 69] rfl (by decide +kernel)
set_option maxRecDepth 20000 in
theorem gX5_station_X0_room : GoodIn wsX5_station (wsV RX5 152 RX0 yX0_room wsX0_room) := goodIn_app (goodIn_of _ (by decide +kernel)) ggX5_station_X0_room
theorem dX5_station_0 : decode cX5_station 0 = .ok (.iload_n 1, 1) := by decide +kernel
theorem dX5_station_1 : decode cX5_station 1 = .ok (.iconst 1, 1) := by decide +kernel
theorem dX5_station_2 : decode cX5_station 2 = .ok (.if_icmp .lt 18, 3) := by decide +kernel
theorem dX5_station_5 : decode cX5_station 5 = .ok (.iload_n 1, 1) := by decide +kernel
theorem dX5_station_6 : decode cX5_station 6 = .ok (.bipush 10, 2) := by decide +kernel
theorem dX5_station_8 : decode cX5_station 8 = .ok (.if_icmp .gt 12, 3) := by decide +kernel
theorem dX5_station_11 : decode cX5_station 11 = .ok (.iload_n 2, 1) := by decide +kernel
theorem dX5_station_12 : decode cX5_station 12 = .ok (.ifCond .lt 8, 3) := by decide +kernel
theorem dX5_station_15 : decode cX5_station 15 = .ok (.iload_n 2, 1) := by decide +kernel
theorem dX5_station_16 : decode cX5_station 16 = .ok (.iconst 2, 1) := by decide +kernel
theorem dX5_station_17 : decode cX5_station 17 = .ok (.if_icmp .le 6, 3) := by decide +kernel
theorem dX5_station_20 : decode cX5_station 20 = .ok (.bipush (-2), 2) := by decide +kernel
theorem dX5_station_22 : decode cX5_station 22 = .ok (.ireturn, 1) := by decide +kernel
theorem dX5_station_23 : decode cX5_station 23 = .ok (.aload_n 0, 1) := by decide +kernel
theorem dX5_station_24 : decode cX5_station 24 = .ok (.getfield 21, 3) := by decide +kernel
theorem dX5_station_27 : decode cX5_station 27 = .ok (.iload_n 1, 1) := by decide +kernel
theorem dX5_station_28 : decode cX5_station 28 = .ok (.invokevirtual 149, 3) := by decide +kernel
theorem dX5_station_31 : decode cX5_station 31 = .ok (.istore_n 3, 1) := by decide +kernel
theorem dX5_station_32 : decode cX5_station 32 = .ok (.iload_n 2, 1) := by decide +kernel
theorem dX5_station_33 : decode cX5_station 33 = .ok (.ifCond .ne 5, 3) := by decide +kernel
theorem dX5_station_36 : decode cX5_station 36 = .ok (.iload_n 3, 1) := by decide +kernel
theorem dX5_station_37 : decode cX5_station 37 = .ok (.ireturn, 1) := by decide +kernel
theorem dX5_station_38 : decode cX5_station 38 = .ok (.aload_n 0, 1) := by decide +kernel
theorem dX5_station_39 : decode cX5_station 39 = .ok (.getfield 12, 3) := by decide +kernel
theorem dX5_station_42 : decode cX5_station 42 = .ok (.iload_n 3, 1) := by decide +kernel
theorem dX5_station_43 : decode cX5_station 43 = .ok (.invokevirtual 139, 3) := by decide +kernel
theorem dX5_station_46 : decode cX5_station 46 = .ok (.istore 4, 2) := by decide +kernel
theorem dX5_station_48 : decode cX5_station 48 = .ok (.iload_n 2, 1) := by decide +kernel
theorem dX5_station_49 : decode cX5_station 49 = .ok (.iconst 1, 1) := by decide +kernel
theorem dX5_station_50 : decode cX5_station 50 = .ok (.if_icmp .ne 8, 3) := by decide +kernel
theorem dX5_station_53 : decode cX5_station 53 = .ok (.iload 4, 2) := by decide +kernel
theorem dX5_station_55 : decode cX5_station 55 = .ok (.goto 13, 3) := by decide +kernel
theorem dX5_station_58 : decode cX5_station 58 = .ok (.aload_n 0, 1) := by decide +kernel
theorem dX5_station_59 : decode cX5_station 59 = .ok (.getfield 12, 3) := by decide +kernel
theorem dX5_station_62 : decode cX5_station 62 = .ok (.invokevirtual 152, 3) := by decide +kernel
theorem dX5_station_65 : decode cX5_station 65 = .ok (.iload 4, 2) := by decide +kernel
theorem dX5_station_67 : decode cX5_station 67 = .ok (.isub, 1) := by decide +kernel
theorem dX5_station_68 : decode cX5_station 68 = .ok (.ireturn, 1) := by decide +kernel
set_option maxRecDepth 20000 in
set_option maxRecDepth 20000 in
theorem ggX5_length_X1_greatest : GoodIn wsX5_length wsX1_greatest := goodIn_r _ [6, 7, 8, 9, 10, 11, 12, 13, 26, 27, 28, 29, 30, 31, 32, 33, 34, 35, 36, 37, 38] rfl (by decide +kernel)
set_option maxRecDepth 20000 in
theorem gX5_length_X1_greatest : GoodIn wsX5_length (wsV RX5 155 RX1 yX1_greatest wsX1_greatest) := goodIn_app (goodIn_of _ (by decide +kernel)) ggX5_length_X1_greatest
theorem dX5_length_0 : decode cX5_length 0 = .ok (.aload_n 0, 1) := by decide +kernel
theorem dX5_length_1 : decode cX5_length 1 = .ok (.getfield 21, 3) := by decide +kernel
theorem dX5_length_4 : decode cX5_length 4 = .ok (.invokevirtual 155, 3) := by decide +kernel
theorem dX5_length_7 : decode cX5_length 7 = .ok (.ireturn, 1) := by decide +kernel
set_option maxRecDepth 20000 in
set_option maxRecDepth 20000 in
theorem ggX5_squares_X1_squareSum : GoodIn wsX5_squares wsX1_squareSum := goodIn_r _ [6, 7, 8, 9, 5, 10, 11, 12, 13, 14, 15, 16, 17, 18, 19, 20, 21, 22, 23, 24, 25, 26, 27, 28, 29, 30, 31, 32, 33, 34, 35, 36, 37, 38, 39, 40, 41, 42, 55, 56, 57, 58, 59, 60, 61, 62, 63, 64, 65, 66, 67] rfl (by decide +kernel)
set_option maxRecDepth 20000 in
theorem gX5_squares_X1_squareSum : GoodIn wsX5_squares (wsV RX5 158 RX1 yX1_squareSum wsX1_squareSum) := goodIn_app (goodIn_of _ (by decide +kernel)) ggX5_squares_X1_squareSum
theorem dX5_squares_0 : decode cX5_squares 0 = .ok (.aload_n 0, 1) := by decide +kernel
theorem dX5_squares_1 : decode cX5_squares 1 = .ok (.getfield 21, 3) := by decide +kernel
theorem dX5_squares_4 : decode cX5_squares 4 = .ok (.invokevirtual 158, 3) := by decide +kernel
theorem dX5_squares_7 : decode cX5_squares 7 = .ok (.lreturn, 1) := by decide +kernel
set_option maxRecDepth 20000 in
set_option maxRecDepth 20000 in
theorem ggX5_fewest_X3_leastLength : GoodIn wsX5_fewest wsX3_leastLength := goodIn_r _ [6, 7, 8, 9, 10, 5, 11, 12, 13, 14, 15, 16, 17, 18, 19, 20, 21, 22, 23, 24, 25, 26, 27, 28, 29, 30, 31, 32, 33, 34, 35, 36, 37, 38, 39, 40, 41, 42, 43, 44, 45, 46, 47, 48, 49, 50, 51, 52, 53, 54, 55, 56, 57, 58, 59, 60, 61, 62, 63, 64, 65, 66, 67, 68, 69, 70, 71, 72, 73, 74, 75, 76, 77, 78, 79, 80, 81, 82, 83, 84, 85, 86, 87, 88, 89, 102, 103, 104, 105, 106, 107, 108, 109, 110, 111, 112, 113, 114, 115, 116, 117, 118, 119, 120, 121, 122, 123] rfl (by decide +kernel)
set_option maxRecDepth 20000 in
theorem gX5_fewest_X3_leastLength : GoodIn wsX5_fewest (wsV RX5 162 RX3 yX3_leastLength wsX3_leastLength) := goodIn_app (goodIn_of _ (by decide +kernel)) ggX5_fewest_X3_leastLength
theorem dX5_fewest_0 : decode cX5_fewest 0 = .ok (.aload_n 0, 1) := by decide +kernel
theorem dX5_fewest_1 : decode cX5_fewest 1 = .ok (.getfield 45, 3) := by decide +kernel
theorem dX5_fewest_4 : decode cX5_fewest 4 = .ok (.invokevirtual 162, 3) := by decide +kernel
theorem dX5_fewest_7 : decode cX5_fewest 7 = .ok (.ireturn, 1) := by decide +kernel
set_option maxRecDepth 20000 in
set_option maxRecDepth 20000 in
theorem ggX5_many_X3_leastLength : GoodIn wsX5_many wsX3_leastLength := goodIn_r _ [6, 7, 8, 9, 10, 5, 11, 12, 13, 14, 15, 16, 17, 18, 19, 20, 21, 22, 23, 24, 25, 26, 27, 28, 29, 30, 31, 32, 33, 34, 35, 36, 37, 38, 39, 40, 41, 42, 43, 44, 45, 46, 47, 48, 49, 50, 51, 52, 53, 54, 55, 56, 57, 58, 59, 60, 61, 62, 63, 64, 65, 66, 67, 68, 69, 70, 71, 72, 73, 74, 75, 76, 77, 78, 79, 80, 81, 82, 83, 84, 85, 86, 87, 88, 89, 129, 130, 131, 132, 133, 134, 135, 136, 137, 138, 139, 140, 141, 142, 143, 144, 145, 146, 147, 148, 149, 150] rfl (by decide +kernel)
set_option maxRecDepth 20000 in
theorem gX5_many_X3_leastLength : GoodIn wsX5_many (wsV RX5 162 RX3 yX3_leastLength wsX3_leastLength) := goodIn_app (goodIn_of _ (by decide +kernel)) ggX5_many_X3_leastLength
set_option maxRecDepth 20000 in
set_option maxRecDepth 20000 in
theorem ggX5_many_X3_waysFor : GoodIn wsX5_many wsX3_waysFor := goodIn_r _ [93, 94, 95, 96, 97, 5, 98, 99, 12, 85, 100, 101, 102, 103, 84, 104, 105, 106, 107, 108, 109, 110, 111, 112, 113, 24, 114, 115, 48, 116, 129, 130, 131, 132, 133, 134, 135, 136, 137, 138, 139] rfl (by decide +kernel)
set_option maxRecDepth 20000 in
theorem gX5_many_X3_waysFor : GoodIn wsX5_many (wsV RX5 165 RX3 yX3_waysFor wsX3_waysFor) := goodIn_app (goodIn_of _ (by decide +kernel)) ggX5_many_X3_waysFor
theorem dX5_many_0 : decode cX5_many 0 = .ok (.aload_n 0, 1) := by decide +kernel
theorem dX5_many_1 : decode cX5_many 1 = .ok (.getfield 45, 3) := by decide +kernel
theorem dX5_many_4 : decode cX5_many 4 = .ok (.invokevirtual 162, 3) := by decide +kernel
theorem dX5_many_7 : decode cX5_many 7 = .ok (.istore_n 1, 1) := by decide +kernel
theorem dX5_many_8 : decode cX5_many 8 = .ok (.iload_n 1, 1) := by decide +kernel
theorem dX5_many_9 : decode cX5_many 9 = .ok (.ifCond .ge 7, 3) := by decide +kernel
theorem dX5_many_12 : decode cX5_many 12 = .ok (.lconst 0, 1) := by decide +kernel
theorem dX5_many_13 : decode cX5_many 13 = .ok (.goto 11, 3) := by decide +kernel
theorem dX5_many_16 : decode cX5_many 16 = .ok (.aload_n 0, 1) := by decide +kernel
theorem dX5_many_17 : decode cX5_many 17 = .ok (.getfield 45, 3) := by decide +kernel
theorem dX5_many_20 : decode cX5_many 20 = .ok (.iload_n 1, 1) := by decide +kernel
theorem dX5_many_21 : decode cX5_many 21 = .ok (.invokevirtual 165, 3) := by decide +kernel
theorem dX5_many_24 : decode cX5_many 24 = .ok (.lreturn, 1) := by decide +kernel
set_option maxRecDepth 20000 in
set_option maxRecDepth 20000 in
theorem ggX5_best_X3_leastLength : GoodIn wsX5_best wsX3_leastLength := goodIn_r _ [8, 9, 10, 11, 12, 7, 13, 14, 15, 16, 17, 18, 19, 20, 21, 22, 23, 24, 25, 26, 27, 28, 29, 30, 31, 32, 33, 34, 35, 36, 37, 38, 39, 40, 41, 42, 43, 44, 45, 46, 47, 48, 49, 50, 51, 52, 53, 54, 55, 56, 57, 58, 59, 60, 61, 62, 63, 64, 65, 66, 67, 68, 69, 70, 71, 72, 73, 74, 75, 76, 77, 78, 79, 80, 81, 82, 83, 84, 85, 86, 87, 88, 89, 90, 91, 137, 138, 139, 140, 141, 142, 143, 144, 145, 146, 147, 148, 149, 150, 151, 152, 153, 154, 155, 156, 157, 158] rfl (by decide +kernel)
set_option maxRecDepth 20000 in
theorem gX5_best_X3_leastLength : GoodIn wsX5_best (wsV RX5 162 RX3 yX3_leastLength wsX3_leastLength) := goodIn_app (goodIn_of _ (by decide +kernel)) ggX5_best_X3_leastLength
set_option maxRecDepth 20000 in
set_option maxRecDepth 20000 in
theorem ggX5_best_X3_putFirst : GoodIn wsX5_best wsX3_putFirst := goodIn_r _ [95, 9, 42, 96, 97, 98, 7, 99, 100, 14, 87, 101, 102, 103, 104, 86, 105, 106, 107, 108, 109, 110, 111, 112, 113, 114, 115, 26, 116, 117, 50, 118, 119, 120, 121, 122, 137, 138, 139, 140, 141, 142, 143, 144, 145, 146, 147, 148, 149, 150, 151, 152, 153, 154, 155, 156, 157, 158] rfl (by decide +kernel)
set_option maxRecDepth 20000 in
theorem gX5_best_X3_putFirst : GoodIn wsX5_best (wsV RX5 169 RX3 yX3_putFirst wsX3_putFirst) := goodIn_app (goodIn_of _ (by decide +kernel)) ggX5_best_X3_putFirst
theorem dX5_best_0 : decode cX5_best 0 = .ok (.aload_n 0, 1) := by decide +kernel
theorem dX5_best_1 : decode cX5_best 1 = .ok (.getfield 45, 3) := by decide +kernel
theorem dX5_best_4 : decode cX5_best 4 = .ok (.invokevirtual 162, 3) := by decide +kernel
theorem dX5_best_7 : decode cX5_best 7 = .ok (.istore_n 2, 1) := by decide +kernel
theorem dX5_best_8 : decode cX5_best 8 = .ok (.iload_n 2, 1) := by decide +kernel
theorem dX5_best_9 : decode cX5_best 9 = .ok (.ifCond .ge 6, 3) := by decide +kernel
theorem dX5_best_12 : decode cX5_best 12 = .ok (.bipush (-4), 2) := by decide +kernel
theorem dX5_best_14 : decode cX5_best 14 = .ok (.ireturn, 1) := by decide +kernel
theorem dX5_best_15 : decode cX5_best 15 = .ok (.aload_n 0, 1) := by decide +kernel
theorem dX5_best_16 : decode cX5_best 16 = .ok (.getfield 45, 3) := by decide +kernel
theorem dX5_best_19 : decode cX5_best 19 = .ok (.iload_n 2, 1) := by decide +kernel
theorem dX5_best_20 : decode cX5_best 20 = .ok (.iload_n 1, 1) := by decide +kernel
theorem dX5_best_21 : decode cX5_best 21 = .ok (.aload_n 0, 1) := by decide +kernel
theorem dX5_best_22 : decode cX5_best 22 = .ok (.getfield 21, 3) := by decide +kernel
theorem dX5_best_25 : decode cX5_best 25 = .ok (.getfield 77, 3) := by decide +kernel
theorem dX5_best_28 : decode cX5_best 28 = .ok (.invokevirtual 169, 3) := by decide +kernel
theorem dX5_best_31 : decode cX5_best 31 = .ok (.iload_n 2, 1) := by decide +kernel
theorem dX5_best_32 : decode cX5_best 32 = .ok (.ireturn, 1) := by decide +kernel
set_option maxRecDepth 20000 in
set_option maxRecDepth 20000 in
theorem ggX5_evenest_X3_leastLength : GoodIn wsX5_evenest wsX3_leastLength := goodIn_r _ [7, 8, 9, 10, 11, 6, 12, 13, 14, 15, 16, 17, 18, 19, 20, 21, 22, 23, 24, 25, 26, 27, 28, 29, 30, 31, 32, 33, 34, 35, 36, 37, 38, 39, 40, 41, 42, 43, 44, 45, 46, 47, 48, 49, 50, 51, 52, 53, 54, 55, 56, 57, 58, 59, 60, 61, 62, 63, 64, 65, 66, 67, 68, 69, 70, 71, 72, 73, 74, 75, 76, 77, 78, 79, 80, 81, 82, 83, 84, 85, 86, 87, 88, 89, 90, 130, 131, 132, 133, 134, 135, 136, 137, 138, 139, 140, 141, 142, 143, 144, 145, 146, 147, 148, 149, 150, 151] rfl (by decide +kernel)
set_option maxRecDepth 20000 in
theorem gX5_evenest_X3_leastLength : GoodIn wsX5_evenest (wsV RX5 162 RX3 yX3_leastLength wsX3_leastLength) := goodIn_app (goodIn_of _ (by decide +kernel)) ggX5_evenest_X3_leastLength
set_option maxRecDepth 20000 in
set_option maxRecDepth 20000 in
theorem ggX5_evenest_X3_costFor : GoodIn wsX5_evenest wsX3_costFor := goodIn_r _ [94, 95, 96, 97, 98, 6, 99, 100, 13, 86, 101, 102, 103, 104, 85, 105, 106, 107, 108, 109, 110, 111, 112, 113, 114, 25, 115, 116, 49, 117, 130, 131, 132, 133, 134, 135, 136, 137, 138, 139, 140] rfl (by decide +kernel)
set_option maxRecDepth 20000 in
theorem gX5_evenest_X3_costFor : GoodIn wsX5_evenest (wsV RX5 175 RX3 yX3_costFor wsX3_costFor) := goodIn_app (goodIn_of _ (by decide +kernel)) ggX5_evenest_X3_costFor
theorem dX5_evenest_0 : decode cX5_evenest 0 = .ok (.aload_n 0, 1) := by decide +kernel
theorem dX5_evenest_1 : decode cX5_evenest 1 = .ok (.getfield 45, 3) := by decide +kernel
theorem dX5_evenest_4 : decode cX5_evenest 4 = .ok (.invokevirtual 162, 3) := by decide +kernel
theorem dX5_evenest_7 : decode cX5_evenest 7 = .ok (.istore_n 1, 1) := by decide +kernel
theorem dX5_evenest_8 : decode cX5_evenest 8 = .ok (.iload_n 1, 1) := by decide +kernel
theorem dX5_evenest_9 : decode cX5_evenest 9 = .ok (.ifCond .ge 9, 3) := by decide +kernel
theorem dX5_evenest_12 : decode cX5_evenest 12 = .ok (.ldc2_w 173, 3) := by decide +kernel
theorem dX5_evenest_15 : decode cX5_evenest 15 = .ok (.goto 11, 3) := by decide +kernel
theorem dX5_evenest_18 : decode cX5_evenest 18 = .ok (.aload_n 0, 1) := by decide +kernel
theorem dX5_evenest_19 : decode cX5_evenest 19 = .ok (.getfield 45, 3) := by decide +kernel
theorem dX5_evenest_22 : decode cX5_evenest 22 = .ok (.iload_n 1, 1) := by decide +kernel
theorem dX5_evenest_23 : decode cX5_evenest 23 = .ok (.invokevirtual 175, 3) := by decide +kernel
theorem dX5_evenest_26 : decode cX5_evenest 26 = .ok (.lreturn, 1) := by decide +kernel
set_option maxRecDepth 20000 in
set_option maxRecDepth 20000 in
theorem ggX5_leastBeat_X5_isStation : GoodIn wsX5_leastBeat wsX5_isStation := goodIn_r _ [5] rfl (by decide +kernel)
set_option maxRecDepth 20000 in
theorem gX5_leastBeat_X5_isStation : GoodIn wsX5_leastBeat (va_wsS RX5 178 yX5_isStation wsX5_isStation) := goodIn_app (goodIn_of _ (by decide +kernel)) ggX5_leastBeat_X5_isStation
set_option maxRecDepth 20000 in
set_option maxRecDepth 20000 in
theorem ggX5_leastBeat_X3_leastBeatFor : GoodIn wsX5_leastBeat wsX3_leastBeatFor := goodIn_r _ [10, 11, 12, 13, 14, 15, 16, 17, 18, 19, 20, 9, 21, 22, 23, 24, 25, 26, 27, 28, 29, 30, 31, 32, 33, 34, 35, 36, 37, 38, 39, 40, 41, 42, 43, 44, 45, 46, 47, 48, 49, 50, 51, 52, 53, 54, 55, 56, 57, 58, 59, 60, 61, 62, 63, 64, 65, 66, 67, 68, 69, 70, 71, 72, 73, 74, 75, 76, 77, 78, 79, 80, 81, 82, 83, 84, 4, 85, 86, 87, 88, 89, 90, 91, 92, 93, 94, 95, 108, 109, 110, 111, 112, 113, 114, 115, 116, 117, 118, 119, 120, 121, 122, 123, 124, 125, 126, 127, 128, 129] rfl (by decide +kernel)
set_option maxRecDepth 20000 in
theorem gX5_leastBeat_X3_leastBeatFor : GoodIn wsX5_leastBeat (wsV RX5 181 RX3 yX3_leastBeatFor wsX3_leastBeatFor) := goodIn_app (goodIn_of _ (by decide +kernel)) ggX5_leastBeat_X3_leastBeatFor
theorem dX5_leastBeat_0 : decode cX5_leastBeat 0 = .ok (.iload_n 1, 1) := by decide +kernel
theorem dX5_leastBeat_1 : decode cX5_leastBeat 1 = .ok (.invokestatic 178, 3) := by decide +kernel
theorem dX5_leastBeat_4 : decode cX5_leastBeat 4 = .ok (.ifCond .eq 14, 3) := by decide +kernel
theorem dX5_leastBeat_7 : decode cX5_leastBeat 7 = .ok (.aload_n 0, 1) := by decide +kernel
theorem dX5_leastBeat_8 : decode cX5_leastBeat 8 = .ok (.getfield 45, 3) := by decide +kernel
theorem dX5_leastBeat_11 : decode cX5_leastBeat 11 = .ok (.iload_n 1, 1) := by decide +kernel
theorem dX5_leastBeat_12 : decode cX5_leastBeat 12 = .ok (.invokevirtual 181, 3) := by decide +kernel
theorem dX5_leastBeat_15 : decode cX5_leastBeat 15 = .ok (.goto 5, 3) := by decide +kernel
theorem dX5_leastBeat_18 : decode cX5_leastBeat 18 = .ok (.bipush (-2), 2) := by decide +kernel
theorem dX5_leastBeat_20 : decode cX5_leastBeat 20 = .ok (.ireturn, 1) := by decide +kernel
set_option maxRecDepth 20000 in
set_option maxRecDepth 20000 in
theorem ggX5_bound_X0_all : GoodIn wsX5_bound wsX0_all := goodIn_r _ [6, 7, 66, 67, 68, 69, 70, 71, 72, 73, 74, 75, 76] rfl (by decide +kernel)
set_option maxRecDepth 20000 in
theorem gX5_bound_X0_all : GoodIn wsX5_bound (wsV RX5 184 RX0 yX0_all wsX0_all) := goodIn_app (goodIn_of _ (by decide +kernel)) ggX5_bound_X0_all
set_option maxRecDepth 20000 in
set_option maxRecDepth 20000 in
theorem ggX5_bound_X5_stationsFor : GoodIn wsX5_bound wsX5_stationsFor := goodIn_r _ [12, 1, 13, 14, 15, 5, 16, 17, 18, 19, 20, 21, 22, 23, 24, 25, 26, 7, 27, 28, 29, 30, 31, 32, 33, 34, 35, 36, 37, 38, 39, 40, 41, 42, 43, 44, 45, 46, 11, 47, 54, 55, 56, 57, 58, 59, 60, 61, 62, 63, 64, 65, 66, 67, 68, 69, 70, 71, 72, 73, 74, 75, 76] rfl (by decide +kernel)
set_option maxRecDepth 20000 in
theorem gX5_bound_X5_stationsFor : GoodIn wsX5_bound (wsV RX5 187 RX5 yX5_stationsFor wsX5_stationsFor) := goodIn_app (goodIn_of _ (by decide +kernel)) ggX5_bound_X5_stationsFor
set_option maxRecDepth 20000 in
set_option maxRecDepth 20000 in
theorem ggX5_bound_X0_halfRoomBound : GoodIn wsX5_bound wsX0_halfRoomBound := goodIn_r _ [51, 7, 52, 37, 38, 5, 39, 21, 40, 41, 42, 43, 44, 22, 53, 14, 15, 16, 17, 18, 19, 20, 23, 24, 25, 26, 27, 28, 29, 30, 31, 32, 33, 34, 35, 46, 11, 47, 66, 67, 68, 69, 70, 71, 72, 73, 74, 75, 76] rfl (by decide +kernel)
set_option maxRecDepth 20000 in
theorem gX5_bound_X0_halfRoomBound : GoodIn wsX5_bound (wsV RX5 190 RX0 yX0_halfRoomBound wsX0_halfRoomBound) := goodIn_app (goodIn_of _ (by decide +kernel)) ggX5_bound_X0_halfRoomBound
theorem dX5_bound_0 : decode cX5_bound 0 = .ok (.iload_n 1, 1) := by decide +kernel
theorem dX5_bound_1 : decode cX5_bound 1 = .ok (.lookupswitch 47 #[(0, 27), (1, 39)], 27) := by decide +kernel
theorem dX5_bound_28 : decode cX5_bound 28 = .ok (.aload_n 0, 1) := by decide +kernel
theorem dX5_bound_29 : decode cX5_bound 29 = .ok (.aload_n 0, 1) := by decide +kernel
theorem dX5_bound_30 : decode cX5_bound 30 = .ok (.getfield 12, 3) := by decide +kernel
theorem dX5_bound_33 : decode cX5_bound 33 = .ok (.invokevirtual 184, 3) := by decide +kernel
theorem dX5_bound_36 : decode cX5_bound 36 = .ok (.invokevirtual 187, 3) := by decide +kernel
theorem dX5_bound_39 : decode cX5_bound 39 = .ok (.ireturn, 1) := by decide +kernel
theorem dX5_bound_40 : decode cX5_bound 40 = .ok (.aload_n 0, 1) := by decide +kernel
theorem dX5_bound_41 : decode cX5_bound 41 = .ok (.getfield 12, 3) := by decide +kernel
theorem dX5_bound_44 : decode cX5_bound 44 = .ok (.invokevirtual 190, 3) := by decide +kernel
theorem dX5_bound_47 : decode cX5_bound 47 = .ok (.ireturn, 1) := by decide +kernel
theorem dX5_bound_48 : decode cX5_bound 48 = .ok (.bipush (-2), 2) := by decide +kernel
theorem dX5_bound_50 : decode cX5_bound 50 = .ok (.ireturn, 1) := by decide +kernel
set_option maxRecDepth 20000 in
set_option maxRecDepth 20000 in
theorem ggX5_early_X0_has : GoodIn wsX5_early wsX0_has := goodIn_r _ [7, 8, 61, 62, 63, 64, 65, 66, 67, 68, 69, 70, 71] rfl (by decide +kernel)
set_option maxRecDepth 20000 in
theorem gX5_early_X0_has : GoodIn wsX5_early (wsV RX5 80 RX0 yX0_has wsX0_has) := goodIn_app (goodIn_of _ (by decide +kernel)) ggX5_early_X0_has
set_option maxRecDepth 20000 in
set_option maxRecDepth 20000 in
theorem ggX5_early_X5_stationsFor : GoodIn wsX5_early wsX5_stationsFor := goodIn_r _ [13, 1, 14, 15, 16, 6, 17, 18, 19, 20, 21, 22, 23, 24, 25, 26, 27, 8, 28, 29, 30, 31, 32, 33, 34, 35, 36, 37, 38, 39, 40, 41, 42, 43, 44, 45, 46, 47, 12, 48, 49, 50, 51, 52, 53, 54, 55, 56, 57, 58, 59, 60, 61, 62, 63, 64, 65, 66, 67, 68, 69, 70, 71] rfl (by decide +kernel)
set_option maxRecDepth 20000 in
theorem gX5_early_X5_stationsFor : GoodIn wsX5_early (wsV RX5 187 RX5 yX5_stationsFor wsX5_stationsFor) := goodIn_app (goodIn_of _ (by decide +kernel)) ggX5_early_X5_stationsFor
theorem dX5_early_0 : decode cX5_early 0 = .ok (.aload_n 0, 1) := by decide +kernel
theorem dX5_early_1 : decode cX5_early 1 = .ok (.getfield 12, 3) := by decide +kernel
theorem dX5_early_4 : decode cX5_early 4 = .ok (.iload_n 1, 1) := by decide +kernel
theorem dX5_early_5 : decode cX5_early 5 = .ok (.invokevirtual 80, 3) := by decide +kernel
theorem dX5_early_8 : decode cX5_early 8 = .ok (.ifCond .eq 23, 3) := by decide +kernel
theorem dX5_early_11 : decode cX5_early 11 = .ok (.aload_n 0, 1) := by decide +kernel
theorem dX5_early_12 : decode cX5_early 12 = .ok (.iconst 1, 1) := by decide +kernel
theorem dX5_early_13 : decode cX5_early 13 = .ok (.iload_n 1, 1) := by decide +kernel
theorem dX5_early_14 : decode cX5_early 14 = .ok (.ishl, 1) := by decide +kernel
theorem dX5_early_15 : decode cX5_early 15 = .ok (.aload_n 0, 1) := by decide +kernel
theorem dX5_early_16 : decode cX5_early 16 = .ok (.getfield 12, 3) := by decide +kernel
theorem dX5_early_19 : decode cX5_early 19 = .ok (.getfield 97, 3) := by decide +kernel
theorem dX5_early_22 : decode cX5_early 22 = .ok (.iload_n 1, 1) := by decide +kernel
theorem dX5_early_23 : decode cX5_early 23 = .ok (.iaload, 1) := by decide +kernel
theorem dX5_early_24 : decode cX5_early 24 = .ok (.ior, 1) := by decide +kernel
theorem dX5_early_25 : decode cX5_early 25 = .ok (.invokevirtual 187, 3) := by decide +kernel
theorem dX5_early_28 : decode cX5_early 28 = .ok (.goto 5, 3) := by decide +kernel
theorem dX5_early_31 : decode cX5_early 31 = .ok (.bipush (-2), 2) := by decide +kernel
theorem dX5_early_33 : decode cX5_early 33 = .ok (.ireturn, 1) := by decide +kernel
set_option maxRecDepth 20000 in
set_option maxRecDepth 20000 in
theorem ggX5_late_X0_has : GoodIn wsX5_late wsX0_has := goodIn_r _ [7, 8, 64, 65, 66, 67, 68, 69, 70, 71, 72, 73, 74] rfl (by decide +kernel)
set_option maxRecDepth 20000 in
theorem gX5_late_X0_has : GoodIn wsX5_late (wsV RX5 80 RX0 yX0_has wsX0_has) := goodIn_app (goodIn_of _ (by decide +kernel)) ggX5_late_X0_has
set_option maxRecDepth 20000 in
set_option maxRecDepth 20000 in
theorem ggX5_late_X5_isStation : GoodIn wsX5_late wsX5_isStation := goodIn_r _ [12] rfl (by decide +kernel)
set_option maxRecDepth 20000 in
theorem gX5_late_X5_isStation : GoodIn wsX5_late (va_wsS RX5 178 yX5_isStation wsX5_isStation) := goodIn_app (goodIn_of _ (by decide +kernel)) ggX5_late_X5_isStation
set_option maxRecDepth 20000 in
set_option maxRecDepth 20000 in
theorem ggX5_late_X5_stationsFor : GoodIn wsX5_late wsX5_stationsFor := goodIn_r _ [16, 1, 17, 18, 19, 6, 20, 21, 22, 23, 24, 25, 26, 27, 28, 29, 30, 8, 31, 32, 33, 34, 35, 36, 37, 38, 39, 40, 41, 42, 43, 44, 45, 46, 47, 48, 49, 50, 11, 51, 52, 53, 54, 55, 56, 57, 58, 59, 60, 61, 62, 63, 64, 65, 66, 67, 68, 69, 70, 71, 72, 73, 74] rfl (by decide +kernel)
set_option maxRecDepth 20000 in
theorem gX5_late_X5_stationsFor : GoodIn wsX5_late (wsV RX5 187 RX5 yX5_stationsFor wsX5_stationsFor) := goodIn_app (goodIn_of _ (by decide +kernel)) ggX5_late_X5_stationsFor
theorem dX5_late_0 : decode cX5_late 0 = .ok (.aload_n 0, 1) := by decide +kernel
theorem dX5_late_1 : decode cX5_late 1 = .ok (.getfield 12, 3) := by decide +kernel
theorem dX5_late_4 : decode cX5_late 4 = .ok (.iload_n 1, 1) := by decide +kernel
theorem dX5_late_5 : decode cX5_late 5 = .ok (.invokevirtual 80, 3) := by decide +kernel
theorem dX5_late_8 : decode cX5_late 8 = .ok (.ifCond .eq 10, 3) := by decide +kernel
theorem dX5_late_11 : decode cX5_late 11 = .ok (.iload_n 2, 1) := by decide +kernel
theorem dX5_late_12 : decode cX5_late 12 = .ok (.invokestatic 178, 3) := by decide +kernel
theorem dX5_late_15 : decode cX5_late 15 = .ok (.ifCond .ne 6, 3) := by decide +kernel
theorem dX5_late_18 : decode cX5_late 18 = .ok (.bipush (-2), 2) := by decide +kernel
theorem dX5_late_20 : decode cX5_late 20 = .ok (.ireturn, 1) := by decide +kernel
theorem dX5_late_21 : decode cX5_late 21 = .ok (.iload_n 2, 1) := by decide +kernel
theorem dX5_late_22 : decode cX5_late 22 = .ok (.iconst 1, 1) := by decide +kernel
theorem dX5_late_23 : decode cX5_late 23 = .ok (.iadd, 1) := by decide +kernel
theorem dX5_late_24 : decode cX5_late 24 = .ok (.aload_n 0, 1) := by decide +kernel
theorem dX5_late_25 : decode cX5_late 25 = .ok (.iconst 1, 1) := by decide +kernel
theorem dX5_late_26 : decode cX5_late 26 = .ok (.iload_n 1, 1) := by decide +kernel
theorem dX5_late_27 : decode cX5_late 27 = .ok (.ishl, 1) := by decide +kernel
theorem dX5_late_28 : decode cX5_late 28 = .ok (.aload_n 0, 1) := by decide +kernel
theorem dX5_late_29 : decode cX5_late 29 = .ok (.getfield 12, 3) := by decide +kernel
theorem dX5_late_32 : decode cX5_late 32 = .ok (.getfield 136, 3) := by decide +kernel
theorem dX5_late_35 : decode cX5_late 35 = .ok (.iload_n 1, 1) := by decide +kernel
theorem dX5_late_36 : decode cX5_late 36 = .ok (.iaload, 1) := by decide +kernel
theorem dX5_late_37 : decode cX5_late 37 = .ok (.ior, 1) := by decide +kernel
theorem dX5_late_38 : decode cX5_late 38 = .ok (.invokevirtual 187, 3) := by decide +kernel
theorem dX5_late_41 : decode cX5_late 41 = .ok (.isub, 1) := by decide +kernel
theorem dX5_late_42 : decode cX5_late 42 = .ok (.ireturn, 1) := by decide +kernel
set_option maxRecDepth 20000 in
set_option maxRecDepth 20000 in
theorem ggX5_rule_X1_putByRule : GoodIn wsX5_rule wsX1_putByRule := goodIn_r _ [7, 8, 9, 10, 11, 12, 6, 13, 14, 15, 16, 17, 18, 19, 20, 21, 22, 23, 24, 25, 26, 27, 28, 29, 30, 31, 32, 33, 34, 35, 36, 37, 38, 39, 40, 41, 42, 43, 44, 45, 46, 47, 48, 49, 50, 51, 52, 53, 54, 55, 56, 57, 58, 59, 60, 61, 62, 63, 64, 65, 66, 67, 68, 69, 70, 71, 72, 73, 74, 75, 76, 77, 78, 104, 105, 106, 107, 108, 109, 110, 111, 112, 113, 114, 115, 116] rfl (by decide +kernel)
set_option maxRecDepth 20000 in
theorem gX5_rule_X1_putByRule : GoodIn wsX5_rule (wsV RX5 193 RX1 yX1_putByRule wsX1_putByRule) := goodIn_app (goodIn_of _ (by decide +kernel)) ggX5_rule_X1_putByRule
set_option maxRecDepth 20000 in
set_option maxRecDepth 20000 in
theorem ggX5_rule_X1_copyRow : GoodIn wsX5_rule wsX1_copyRow := goodIn_r _ [82, 8, 83, 84, 85, 86, 104, 105] rfl (by decide +kernel)
set_option maxRecDepth 20000 in
theorem gX5_rule_X1_copyRow : GoodIn wsX5_rule (wsV RX5 196 RX1 yX1_copyRow wsX1_copyRow) := goodIn_app (goodIn_of _ (by decide +kernel)) ggX5_rule_X1_copyRow
set_option maxRecDepth 20000 in
set_option maxRecDepth 20000 in
theorem ggX5_rule_X1_greatest : GoodIn wsX5_rule wsX1_greatest := goodIn_r _ [90, 9, 14, 8, 91, 37, 38, 39, 104, 105, 106, 107, 108, 109, 110, 111, 112, 113, 114, 115, 116] rfl (by decide +kernel)
set_option maxRecDepth 20000 in
theorem gX5_rule_X1_greatest : GoodIn wsX5_rule (wsV RX5 155 RX1 yX1_greatest wsX1_greatest) := goodIn_app (goodIn_of _ (by decide +kernel)) ggX5_rule_X1_greatest
theorem dX5_rule_0 : decode cX5_rule 0 = .ok (.iload_n 1, 1) := by decide +kernel
theorem dX5_rule_1 : decode cX5_rule 1 = .ok (.ifCond .lt 8, 3) := by decide +kernel
theorem dX5_rule_4 : decode cX5_rule 4 = .ok (.iload_n 1, 1) := by decide +kernel
theorem dX5_rule_5 : decode cX5_rule 5 = .ok (.iconst 4, 1) := by decide +kernel
theorem dX5_rule_6 : decode cX5_rule 6 = .ok (.if_icmp .lt 6, 3) := by decide +kernel
theorem dX5_rule_9 : decode cX5_rule 9 = .ok (.bipush (-2), 2) := by decide +kernel
theorem dX5_rule_11 : decode cX5_rule 11 = .ok (.ireturn, 1) := by decide +kernel
theorem dX5_rule_12 : decode cX5_rule 12 = .ok (.aload_n 0, 1) := by decide +kernel
theorem dX5_rule_13 : decode cX5_rule 13 = .ok (.getfield 49, 3) := by decide +kernel
theorem dX5_rule_16 : decode cX5_rule 16 = .ok (.iload_n 1, 1) := by decide +kernel
theorem dX5_rule_17 : decode cX5_rule 17 = .ok (.invokevirtual 193, 3) := by decide +kernel
theorem dX5_rule_20 : decode cX5_rule 20 = .ok (.ifCond .ne 6, 3) := by decide +kernel
theorem dX5_rule_23 : decode cX5_rule 23 = .ok (.bipush (-4), 2) := by decide +kernel
theorem dX5_rule_25 : decode cX5_rule 25 = .ok (.ireturn, 1) := by decide +kernel
theorem dX5_rule_26 : decode cX5_rule 26 = .ok (.aload_n 0, 1) := by decide +kernel
theorem dX5_rule_27 : decode cX5_rule 27 = .ok (.getfield 21, 3) := by decide +kernel
theorem dX5_rule_30 : decode cX5_rule 30 = .ok (.aload_n 0, 1) := by decide +kernel
theorem dX5_rule_31 : decode cX5_rule 31 = .ok (.getfield 49, 3) := by decide +kernel
theorem dX5_rule_34 : decode cX5_rule 34 = .ok (.invokevirtual 196, 3) := by decide +kernel
theorem dX5_rule_37 : decode cX5_rule 37 = .ok (.aload_n 0, 1) := by decide +kernel
theorem dX5_rule_38 : decode cX5_rule 38 = .ok (.getfield 21, 3) := by decide +kernel
theorem dX5_rule_41 : decode cX5_rule 41 = .ok (.invokevirtual 155, 3) := by decide +kernel
theorem dX5_rule_44 : decode cX5_rule 44 = .ok (.ireturn, 1) := by decide +kernel
set_option maxRecDepth 20000 in
set_option maxRecDepth 20000 in
theorem ggX5_better_X1_firstClash : GoodIn wsX5_better wsX1_firstClash := goodIn_r _ [7, 8, 9, 10, 11, 12, 6, 13, 14, 15, 16, 17, 18, 19, 20, 21, 22, 23, 24, 25, 26, 27, 28, 29, 30, 31, 32, 33, 34, 35, 36, 37, 38, 39, 40, 41, 42, 43, 44, 45, 46, 47, 48, 49, 50, 51, 52, 53, 54, 55, 56, 57, 58, 59, 60, 61, 62, 63, 64, 65, 96, 97, 98, 99, 100, 101, 102, 103, 104, 105, 106, 107, 108] rfl (by decide +kernel)
set_option maxRecDepth 20000 in
theorem gX5_better_X1_firstClash : GoodIn wsX5_better (wsV RX5 146 RX1 yX1_firstClash wsX1_firstClash) := goodIn_app (goodIn_of _ (by decide +kernel)) ggX5_better_X1_firstClash
set_option maxRecDepth 20000 in
set_option maxRecDepth 20000 in
theorem ggX5_better_X1_moveOnce : GoodIn wsX5_better wsX1_moveOnce := goodIn_r _ [69, 8, 9, 14, 70, 71, 72, 6, 73, 74, 44, 45, 46, 75, 76, 77, 78, 79, 80, 81, 82, 18, 19, 20, 21, 22, 23, 24, 25, 26, 27, 28, 29, 30, 31, 32, 33, 34, 35, 36, 37, 38, 39, 40, 41, 42, 43, 83, 4, 5, 7, 10, 11, 12, 13, 15, 16, 17, 47, 48, 49, 50, 51, 52, 53, 54, 55, 56, 57, 58, 59, 60, 61, 62, 63, 64, 65, 96, 97, 98, 99, 100, 101, 102, 103, 104, 105, 106, 107, 108] rfl (by decide +kernel)
set_option maxRecDepth 20000 in
theorem gX5_better_X1_moveOnce : GoodIn wsX5_better (wsV RX5 201 RX1 yX1_moveOnce wsX1_moveOnce) := goodIn_app (goodIn_of _ (by decide +kernel)) ggX5_better_X1_moveOnce
theorem dX5_better_0 : decode cX5_better 0 = .ok (.aload_n 0, 1) := by decide +kernel
theorem dX5_better_1 : decode cX5_better 1 = .ok (.getfield 21, 3) := by decide +kernel
theorem dX5_better_4 : decode cX5_better 4 = .ok (.invokevirtual 146, 3) := by decide +kernel
theorem dX5_better_7 : decode cX5_better 7 = .ok (.ifCond .lt 6, 3) := by decide +kernel
theorem dX5_better_10 : decode cX5_better 10 = .ok (.bipush (-4), 2) := by decide +kernel
theorem dX5_better_12 : decode cX5_better 12 = .ok (.ireturn, 1) := by decide +kernel
theorem dX5_better_13 : decode cX5_better 13 = .ok (.iconst 0, 1) := by decide +kernel
theorem dX5_better_14 : decode cX5_better 14 = .ok (.istore_n 1, 1) := by decide +kernel
theorem dX5_better_15 : decode cX5_better 15 = .ok (.iload_n 1, 1) := by decide +kernel
theorem dX5_better_16 : decode cX5_better 16 = .ok (.ldc 200, 2) := by decide +kernel
theorem dX5_better_18 : decode cX5_better 18 = .ok (.if_icmp .ge 19, 3) := by decide +kernel
theorem dX5_better_21 : decode cX5_better 21 = .ok (.aload_n 0, 1) := by decide +kernel
theorem dX5_better_22 : decode cX5_better 22 = .ok (.getfield 21, 3) := by decide +kernel
theorem dX5_better_25 : decode cX5_better 25 = .ok (.invokevirtual 201, 3) := by decide +kernel
theorem dX5_better_28 : decode cX5_better 28 = .ok (.ifCond .eq 9, 3) := by decide +kernel
theorem dX5_better_31 : decode cX5_better 31 = .ok (.iinc 1 1, 3) := by decide +kernel
theorem dX5_better_34 : decode cX5_better 34 = .ok (.goto (-19), 3) := by decide +kernel
theorem dX5_better_37 : decode cX5_better 37 = .ok (.iload_n 1, 1) := by decide +kernel
theorem dX5_better_38 : decode cX5_better 38 = .ok (.ireturn, 1) := by decide +kernel
set_option maxRecDepth 20000 in
set_option maxRecDepth 20000 in
theorem ggX5_sheet_X5_isSheet : GoodIn wsX5_sheet wsX5_isSheet := goodIn_r _ [5] rfl (by decide +kernel)
set_option maxRecDepth 20000 in
theorem gX5_sheet_X5_isSheet : GoodIn wsX5_sheet (va_wsS RX5 205 yX5_isSheet wsX5_isSheet) := goodIn_app (goodIn_of _ (by decide +kernel)) ggX5_sheet_X5_isSheet
set_option maxRecDepth 20000 in
set_option maxRecDepth 20000 in
theorem ggX5_sheet_X5_isSort : GoodIn wsX5_sheet wsX5_isSort := goodIn_r _ [8] rfl (by decide +kernel)
set_option maxRecDepth 20000 in
theorem gX5_sheet_X5_isSort : GoodIn wsX5_sheet (va_wsS RX5 208 yX5_isSort wsX5_isSort) := goodIn_app (goodIn_of _ (by decide +kernel)) ggX5_sheet_X5_isSort
set_option maxRecDepth 20000 in
set_option maxRecDepth 20000 in
theorem ggX5_sheet_X5_found : GoodIn wsX5_sheet wsX5_found := goodIn_r _ [12, 13, 26, 27, 28, 29, 30, 31, 32, 33, 34, 35, 36, 37] rfl (by decide +kernel)
set_option maxRecDepth 20000 in
theorem gX5_sheet_X5_found : GoodIn wsX5_sheet (wsV RX5 211 RX5 yX5_found wsX5_found) := goodIn_app (goodIn_of _ (by decide +kernel)) ggX5_sheet_X5_found
set_option maxRecDepth 20000 in
set_option maxRecDepth 20000 in
theorem ggX5_sheet_X4_lay : GoodIn wsX5_sheet wsX4_lay := goodIn_r _ [18, 19, 20, 21, 22, 23, 24, 25, 38, 39, 40] rfl (by decide +kernel)
set_option maxRecDepth 20000 in
theorem gX5_sheet_X4_lay : GoodIn wsX5_sheet (wsV RX5 214 RX4 yX4_lay wsX4_lay) := goodIn_app (goodIn_of _ (by decide +kernel)) ggX5_sheet_X4_lay
theorem dX5_sheet_0 : decode cX5_sheet 0 = .ok (.iload_n 1, 1) := by decide +kernel
theorem dX5_sheet_1 : decode cX5_sheet 1 = .ok (.invokestatic 205, 3) := by decide +kernel
theorem dX5_sheet_4 : decode cX5_sheet 4 = .ok (.ifCond .eq 16, 3) := by decide +kernel
theorem dX5_sheet_7 : decode cX5_sheet 7 = .ok (.iload_n 2, 1) := by decide +kernel
theorem dX5_sheet_8 : decode cX5_sheet 8 = .ok (.invokestatic 208, 3) := by decide +kernel
theorem dX5_sheet_11 : decode cX5_sheet 11 = .ok (.ifCond .eq 9, 3) := by decide +kernel
theorem dX5_sheet_14 : decode cX5_sheet 14 = .ok (.iload_n 3, 1) := by decide +kernel
theorem dX5_sheet_15 : decode cX5_sheet 15 = .ok (.bipush 40, 2) := by decide +kernel
theorem dX5_sheet_17 : decode cX5_sheet 17 = .ok (.if_icmp .le 6, 3) := by decide +kernel
theorem dX5_sheet_20 : decode cX5_sheet 20 = .ok (.bipush (-2), 2) := by decide +kernel
theorem dX5_sheet_22 : decode cX5_sheet 22 = .ok (.ireturn, 1) := by decide +kernel
theorem dX5_sheet_23 : decode cX5_sheet 23 = .ok (.iload_n 3, 1) := by decide +kernel
theorem dX5_sheet_24 : decode cX5_sheet 24 = .ok (.ifCond .ge 10, 3) := by decide +kernel
theorem dX5_sheet_27 : decode cX5_sheet 27 = .ok (.aload_n 0, 1) := by decide +kernel
theorem dX5_sheet_28 : decode cX5_sheet 28 = .ok (.bipush (-13), 2) := by decide +kernel
theorem dX5_sheet_30 : decode cX5_sheet 30 = .ok (.invokevirtual 211, 3) := by decide +kernel
theorem dX5_sheet_33 : decode cX5_sheet 33 = .ok (.ireturn, 1) := by decide +kernel
theorem dX5_sheet_34 : decode cX5_sheet 34 = .ok (.aload_n 0, 1) := by decide +kernel
theorem dX5_sheet_35 : decode cX5_sheet 35 = .ok (.getfield 55, 3) := by decide +kernel
theorem dX5_sheet_38 : decode cX5_sheet 38 = .ok (.iload_n 1, 1) := by decide +kernel
theorem dX5_sheet_39 : decode cX5_sheet 39 = .ok (.iload_n 2, 1) := by decide +kernel
theorem dX5_sheet_40 : decode cX5_sheet 40 = .ok (.iload_n 3, 1) := by decide +kernel
theorem dX5_sheet_41 : decode cX5_sheet 41 = .ok (.invokevirtual 214, 3) := by decide +kernel
theorem dX5_sheet_44 : decode cX5_sheet 44 = .ok (.iload_n 3, 1) := by decide +kernel
theorem dX5_sheet_45 : decode cX5_sheet 45 = .ok (.ireturn, 1) := by decide +kernel
set_option maxRecDepth 20000 in
set_option maxRecDepth 20000 in
theorem ggX5_write_X5_isSheet : GoodIn wsX5_write wsX5_isSheet := goodIn_r _ [8] rfl (by decide +kernel)
set_option maxRecDepth 20000 in
theorem gX5_write_X5_isSheet : GoodIn wsX5_write (va_wsS RX5 205 yX5_isSheet wsX5_isSheet) := goodIn_app (goodIn_of _ (by decide +kernel)) ggX5_write_X5_isSheet
set_option maxRecDepth 20000 in
set_option maxRecDepth 20000 in
theorem ggX5_write_X4_isMissing : GoodIn wsX5_write wsX4_isMissing := goodIn_r _ [13, 14, 35, 36, 37] rfl (by decide +kernel)
set_option maxRecDepth 20000 in
theorem gX5_write_X4_isMissing : GoodIn wsX5_write (wsV RX5 217 RX4 yX4_isMissing wsX4_isMissing) := goodIn_app (goodIn_of _ (by decide +kernel)) ggX5_write_X4_isMissing
set_option maxRecDepth 20000 in
set_option maxRecDepth 20000 in
theorem ggX5_write_X5_found : GoodIn wsX5_write wsX5_found := goodIn_r _ [18, 19, 23, 24, 25, 26, 27, 28, 29, 30, 31, 32, 33, 34] rfl (by decide +kernel)
set_option maxRecDepth 20000 in
theorem gX5_write_X5_found : GoodIn wsX5_write (wsV RX5 211 RX5 yX5_found wsX5_found) := goodIn_app (goodIn_of _ (by decide +kernel)) ggX5_write_X5_found
set_option maxRecDepth 20000 in
set_option maxRecDepth 20000 in
theorem ggX5_write_X4_narrowed : GoodIn wsX5_write wsX4_narrowed := goodIn_r _ [22] rfl (by decide +kernel)
set_option maxRecDepth 20000 in
theorem gX5_write_X4_narrowed : GoodIn wsX5_write (va_wsS RX5 229 yX4_narrowed wsX4_narrowed) := goodIn_app (goodIn_of _ (by decide +kernel)) ggX5_write_X4_narrowed
theorem dX5_write_0 : decode cX5_write 0 = .ok (.iload_n 1, 1) := by decide +kernel
theorem dX5_write_1 : decode cX5_write 1 = .ok (.invokestatic 205, 3) := by decide +kernel
theorem dX5_write_4 : decode cX5_write 4 = .ok (.ifCond .ne 6, 3) := by decide +kernel
theorem dX5_write_7 : decode cX5_write 7 = .ok (.bipush (-2), 2) := by decide +kernel
theorem dX5_write_9 : decode cX5_write 9 = .ok (.ireturn, 1) := by decide +kernel
theorem dX5_write_10 : decode cX5_write 10 = .ok (.aload_n 0, 1) := by decide +kernel
theorem dX5_write_11 : decode cX5_write 11 = .ok (.getfield 55, 3) := by decide +kernel
theorem dX5_write_14 : decode cX5_write 14 = .ok (.iload_n 1, 1) := by decide +kernel
theorem dX5_write_15 : decode cX5_write 15 = .ok (.invokevirtual 217, 3) := by decide +kernel
theorem dX5_write_18 : decode cX5_write 18 = .ok (.ifCond .eq 10, 3) := by decide +kernel
theorem dX5_write_21 : decode cX5_write 21 = .ok (.aload_n 0, 1) := by decide +kernel
theorem dX5_write_22 : decode cX5_write 22 = .ok (.bipush (-10), 2) := by decide +kernel
theorem dX5_write_24 : decode cX5_write 24 = .ok (.invokevirtual 211, 3) := by decide +kernel
theorem dX5_write_27 : decode cX5_write 27 = .ok (.ireturn, 1) := by decide +kernel
theorem dX5_write_28 : decode cX5_write 28 = .ok (.iload_n 2, 1) := by decide +kernel
theorem dX5_write_29 : decode cX5_write 29 = .ok (.ifCond .lt 16, 3) := by decide +kernel
theorem dX5_write_32 : decode cX5_write 32 = .ok (.iload_n 2, 1) := by decide +kernel
theorem dX5_write_33 : decode cX5_write 33 = .ok (.aload_n 0, 1) := by decide +kernel
theorem dX5_write_34 : decode cX5_write 34 = .ok (.getfield 55, 3) := by decide +kernel
theorem dX5_write_37 : decode cX5_write 37 = .ok (.getfield 220, 3) := by decide +kernel
theorem dX5_write_40 : decode cX5_write 40 = .ok (.iload_n 1, 1) := by decide +kernel
theorem dX5_write_41 : decode cX5_write 41 = .ok (.iaload, 1) := by decide +kernel
theorem dX5_write_42 : decode cX5_write 42 = .ok (.if_icmp .lt 10, 3) := by decide +kernel
theorem dX5_write_45 : decode cX5_write 45 = .ok (.aload_n 0, 1) := by decide +kernel
theorem dX5_write_46 : decode cX5_write 46 = .ok (.bipush (-11), 2) := by decide +kernel
theorem dX5_write_48 : decode cX5_write 48 = .ok (.invokevirtual 211, 3) := by decide +kernel
theorem dX5_write_51 : decode cX5_write 51 = .ok (.ireturn, 1) := by decide +kernel
theorem dX5_write_52 : decode cX5_write 52 = .ok (.aload_n 0, 1) := by decide +kernel
theorem dX5_write_53 : decode cX5_write 53 = .ok (.getfield 55, 3) := by decide +kernel
theorem dX5_write_56 : decode cX5_write 56 = .ok (.getfield 223, 3) := by decide +kernel
theorem dX5_write_59 : decode cX5_write 59 = .ok (.iload_n 1, 1) := by decide +kernel
theorem dX5_write_60 : decode cX5_write 60 = .ok (.aaload, 1) := by decide +kernel
theorem dX5_write_61 : decode cX5_write 61 = .ok (.iload_n 2, 1) := by decide +kernel
theorem dX5_write_62 : decode cX5_write 62 = .ok (.iaload, 1) := by decide +kernel
theorem dX5_write_63 : decode cX5_write 63 = .ok (.istore 4, 2) := by decide +kernel
theorem dX5_write_65 : decode cX5_write 65 = .ok (.aload_n 0, 1) := by decide +kernel
theorem dX5_write_66 : decode cX5_write 66 = .ok (.getfield 55, 3) := by decide +kernel
theorem dX5_write_69 : decode cX5_write 69 = .ok (.getfield 223, 3) := by decide +kernel
theorem dX5_write_72 : decode cX5_write 72 = .ok (.iload_n 1, 1) := by decide +kernel
theorem dX5_write_73 : decode cX5_write 73 = .ok (.aaload, 1) := by decide +kernel
theorem dX5_write_74 : decode cX5_write 74 = .ok (.iload_n 2, 1) := by decide +kernel
theorem dX5_write_75 : decode cX5_write 75 = .ok (.aload_n 0, 1) := by decide +kernel
theorem dX5_write_76 : decode cX5_write 76 = .ok (.getfield 55, 3) := by decide +kernel
theorem dX5_write_79 : decode cX5_write 79 = .ok (.getfield 226, 3) := by decide +kernel
theorem dX5_write_82 : decode cX5_write 82 = .ok (.iload_n 1, 1) := by decide +kernel
theorem dX5_write_83 : decode cX5_write 83 = .ok (.iaload, 1) := by decide +kernel
theorem dX5_write_84 : decode cX5_write 84 = .ok (.iload_n 3, 1) := by decide +kernel
theorem dX5_write_85 : decode cX5_write 85 = .ok (.invokestatic 229, 3) := by decide +kernel
theorem dX5_write_88 : decode cX5_write 88 = .ok (.iastore, 1) := by decide +kernel
theorem dX5_write_89 : decode cX5_write 89 = .ok (.iload 4, 2) := by decide +kernel
theorem dX5_write_91 : decode cX5_write 91 = .ok (.ireturn, 1) := by decide +kernel
set_option maxRecDepth 20000 in
set_option maxRecDepth 20000 in
theorem ggX5_take_X5_isMake : GoodIn wsX5_take wsX5_isMake := goodIn_r _ [10] rfl (by decide +kernel)
set_option maxRecDepth 20000 in
theorem gX5_take_X5_isMake : GoodIn wsX5_take (va_wsS RX5 84 yX5_isMake wsX5_isMake) := goodIn_app (goodIn_of _ (by decide +kernel)) ggX5_take_X5_isMake
set_option maxRecDepth 20000 in
set_option maxRecDepth 20000 in
theorem ggX5_take_X5_isSheet : GoodIn wsX5_take wsX5_isSheet := goodIn_r _ [13] rfl (by decide +kernel)
set_option maxRecDepth 20000 in
theorem gX5_take_X5_isSheet : GoodIn wsX5_take (va_wsS RX5 205 yX5_isSheet wsX5_isSheet) := goodIn_app (goodIn_of _ (by decide +kernel)) ggX5_take_X5_isSheet
set_option maxRecDepth 20000 in
set_option maxRecDepth 20000 in
theorem ggX5_take_X5_isSort : GoodIn wsX5_take wsX5_isSort := goodIn_r _ [16] rfl (by decide +kernel)
set_option maxRecDepth 20000 in
theorem gX5_take_X5_isSort : GoodIn wsX5_take (va_wsS RX5 208 yX5_isSort wsX5_isSort) := goodIn_app (goodIn_of _ (by decide +kernel)) ggX5_take_X5_isSort
set_option maxRecDepth 20000 in
set_option maxRecDepth 20000 in
theorem ggX5_take_X4_isMissing : GoodIn wsX5_take wsX4_isMissing := goodIn_r _ [21, 22, 54, 55, 56] rfl (by decide +kernel)
set_option maxRecDepth 20000 in
theorem gX5_take_X4_isMissing : GoodIn wsX5_take (wsV RX5 217 RX4 yX4_isMissing wsX4_isMissing) := goodIn_app (goodIn_of _ (by decide +kernel)) ggX5_take_X4_isMissing
set_option maxRecDepth 20000 in
set_option maxRecDepth 20000 in
theorem ggX5_take_X5_found : GoodIn wsX5_take wsX5_found := goodIn_r _ [26, 27, 42, 43, 44, 45, 46, 47, 48, 49, 50, 51, 52, 53] rfl (by decide +kernel)
set_option maxRecDepth 20000 in
theorem gX5_take_X5_found : GoodIn wsX5_take (wsV RX5 211 RX5 yX5_found wsX5_found) := goodIn_app (goodIn_of _ (by decide +kernel)) ggX5_take_X5_found
set_option maxRecDepth 20000 in
set_option maxRecDepth 20000 in
theorem ggX5_take_X0_takeTimes : GoodIn wsX5_take wsX0_takeTimes := goodIn_r _ [32, 33, 34, 35, 36, 37, 38, 39, 40, 41, 57, 58, 59, 60, 61, 62, 63, 64, 65, 66, 67] rfl (by decide +kernel)
set_option maxRecDepth 20000 in
theorem gX5_take_X0_takeTimes : GoodIn wsX5_take (wsV RX5 232 RX0 yX0_takeTimes wsX0_takeTimes) := goodIn_app (goodIn_of _ (by decide +kernel)) ggX5_take_X0_takeTimes
theorem dX5_take_0 : decode cX5_take 0 = .ok (.iload_n 1, 1) := by decide +kernel
theorem dX5_take_1 : decode cX5_take 1 = .ok (.invokestatic 84, 3) := by decide +kernel
theorem dX5_take_4 : decode cX5_take 4 = .ok (.ifCond .eq 17, 3) := by decide +kernel
theorem dX5_take_7 : decode cX5_take 7 = .ok (.iload_n 2, 1) := by decide +kernel
theorem dX5_take_8 : decode cX5_take 8 = .ok (.invokestatic 205, 3) := by decide +kernel
theorem dX5_take_11 : decode cX5_take 11 = .ok (.ifCond .eq 10, 3) := by decide +kernel
theorem dX5_take_14 : decode cX5_take 14 = .ok (.iload_n 3, 1) := by decide +kernel
theorem dX5_take_15 : decode cX5_take 15 = .ok (.invokestatic 208, 3) := by decide +kernel
theorem dX5_take_18 : decode cX5_take 18 = .ok (.ifCond .ne 6, 3) := by decide +kernel
theorem dX5_take_21 : decode cX5_take 21 = .ok (.bipush (-2), 2) := by decide +kernel
theorem dX5_take_23 : decode cX5_take 23 = .ok (.ireturn, 1) := by decide +kernel
theorem dX5_take_24 : decode cX5_take 24 = .ok (.aload_n 0, 1) := by decide +kernel
theorem dX5_take_25 : decode cX5_take 25 = .ok (.getfield 55, 3) := by decide +kernel
theorem dX5_take_28 : decode cX5_take 28 = .ok (.iload_n 2, 1) := by decide +kernel
theorem dX5_take_29 : decode cX5_take 29 = .ok (.invokevirtual 217, 3) := by decide +kernel
theorem dX5_take_32 : decode cX5_take 32 = .ok (.ifCond .eq 10, 3) := by decide +kernel
theorem dX5_take_35 : decode cX5_take 35 = .ok (.aload_n 0, 1) := by decide +kernel
theorem dX5_take_36 : decode cX5_take 36 = .ok (.bipush (-10), 2) := by decide +kernel
theorem dX5_take_38 : decode cX5_take 38 = .ok (.invokevirtual 211, 3) := by decide +kernel
theorem dX5_take_41 : decode cX5_take 41 = .ok (.ireturn, 1) := by decide +kernel
theorem dX5_take_42 : decode cX5_take 42 = .ok (.aload_n 0, 1) := by decide +kernel
theorem dX5_take_43 : decode cX5_take 43 = .ok (.getfield 55, 3) := by decide +kernel
theorem dX5_take_46 : decode cX5_take 46 = .ok (.getfield 226, 3) := by decide +kernel
theorem dX5_take_49 : decode cX5_take 49 = .ok (.iload_n 2, 1) := by decide +kernel
theorem dX5_take_50 : decode cX5_take 50 = .ok (.iaload, 1) := by decide +kernel
theorem dX5_take_51 : decode cX5_take 51 = .ok (.iload_n 3, 1) := by decide +kernel
theorem dX5_take_52 : decode cX5_take 52 = .ok (.if_icmp .eq 10, 3) := by decide +kernel
theorem dX5_take_55 : decode cX5_take 55 = .ok (.aload_n 0, 1) := by decide +kernel
theorem dX5_take_56 : decode cX5_take 56 = .ok (.bipush (-12), 2) := by decide +kernel
theorem dX5_take_58 : decode cX5_take 58 = .ok (.invokevirtual 211, 3) := by decide +kernel
theorem dX5_take_61 : decode cX5_take 61 = .ok (.ireturn, 1) := by decide +kernel
theorem dX5_take_62 : decode cX5_take 62 = .ok (.aload_n 0, 1) := by decide +kernel
theorem dX5_take_63 : decode cX5_take 63 = .ok (.getfield 12, 3) := by decide +kernel
theorem dX5_take_66 : decode cX5_take 66 = .ok (.getfield 70, 3) := by decide +kernel
theorem dX5_take_69 : decode cX5_take 69 = .ok (.ifCond .le 37, 3) := by decide +kernel
theorem dX5_take_72 : decode cX5_take 72 = .ok (.iload 4, 2) := by decide +kernel
theorem dX5_take_74 : decode cX5_take 74 = .ok (.ifCond .lt 25, 3) := by decide +kernel
theorem dX5_take_77 : decode cX5_take 77 = .ok (.iload 4, 2) := by decide +kernel
theorem dX5_take_79 : decode cX5_take 79 = .ok (.aload_n 0, 1) := by decide +kernel
theorem dX5_take_80 : decode cX5_take 80 = .ok (.getfield 55, 3) := by decide +kernel
theorem dX5_take_83 : decode cX5_take 83 = .ok (.getfield 220, 3) := by decide +kernel
theorem dX5_take_86 : decode cX5_take 86 = .ok (.iload_n 2, 1) := by decide +kernel
theorem dX5_take_87 : decode cX5_take 87 = .ok (.iaload, 1) := by decide +kernel
theorem dX5_take_88 : decode cX5_take 88 = .ok (.aload_n 0, 1) := by decide +kernel
theorem dX5_take_89 : decode cX5_take 89 = .ok (.getfield 12, 3) := by decide +kernel
theorem dX5_take_92 : decode cX5_take 92 = .ok (.getfield 70, 3) := by decide +kernel
theorem dX5_take_95 : decode cX5_take 95 = .ok (.isub, 1) := by decide +kernel
theorem dX5_take_96 : decode cX5_take 96 = .ok (.if_icmp .le 10, 3) := by decide +kernel
theorem dX5_take_99 : decode cX5_take 99 = .ok (.aload_n 0, 1) := by decide +kernel
theorem dX5_take_100 : decode cX5_take 100 = .ok (.bipush (-11), 2) := by decide +kernel
theorem dX5_take_102 : decode cX5_take 102 = .ok (.invokevirtual 211, 3) := by decide +kernel
theorem dX5_take_105 : decode cX5_take 105 = .ok (.ireturn, 1) := by decide +kernel
theorem dX5_take_106 : decode cX5_take 106 = .ok (.aload_n 0, 1) := by decide +kernel
theorem dX5_take_107 : decode cX5_take 107 = .ok (.getfield 12, 3) := by decide +kernel
theorem dX5_take_110 : decode cX5_take 110 = .ok (.iload_n 1, 1) := by decide +kernel
theorem dX5_take_111 : decode cX5_take 111 = .ok (.aload_n 0, 1) := by decide +kernel
theorem dX5_take_112 : decode cX5_take 112 = .ok (.getfield 55, 3) := by decide +kernel
theorem dX5_take_115 : decode cX5_take 115 = .ok (.getfield 223, 3) := by decide +kernel
theorem dX5_take_118 : decode cX5_take 118 = .ok (.iload_n 2, 1) := by decide +kernel
theorem dX5_take_119 : decode cX5_take 119 = .ok (.aaload, 1) := by decide +kernel
theorem dX5_take_120 : decode cX5_take 120 = .ok (.iload 4, 2) := by decide +kernel
theorem dX5_take_122 : decode cX5_take 122 = .ok (.invokevirtual 232, 3) := by decide +kernel
theorem dX5_take_125 : decode cX5_take 125 = .ok (.ireturn, 1) := by decide +kernel
set_option maxRecDepth 20000 in
set_option maxRecDepth 20000 in
theorem ggX5_lose_X5_isSheet : GoodIn wsX5_lose wsX5_isSheet := goodIn_r _ [5] rfl (by decide +kernel)
set_option maxRecDepth 20000 in
theorem gX5_lose_X5_isSheet : GoodIn wsX5_lose (va_wsS RX5 205 yX5_isSheet wsX5_isSheet) := goodIn_app (goodIn_of _ (by decide +kernel)) ggX5_lose_X5_isSheet
set_option maxRecDepth 20000 in
set_option maxRecDepth 20000 in
theorem ggX5_lose_X4_isMissing : GoodIn wsX5_lose wsX4_isMissing := goodIn_r _ [10, 11, 28, 29, 30] rfl (by decide +kernel)
set_option maxRecDepth 20000 in
theorem gX5_lose_X4_isMissing : GoodIn wsX5_lose (wsV RX5 217 RX4 yX4_isMissing wsX4_isMissing) := goodIn_app (goodIn_of _ (by decide +kernel)) ggX5_lose_X4_isMissing
set_option maxRecDepth 20000 in
set_option maxRecDepth 20000 in
theorem ggX5_lose_X4_drop : GoodIn wsX5_lose wsX4_drop := goodIn_r _ [15, 11, 28, 29, 30] rfl (by decide +kernel)
set_option maxRecDepth 20000 in
theorem gX5_lose_X4_drop : GoodIn wsX5_lose (wsV RX5 236 RX4 yX4_drop wsX4_drop) := goodIn_app (goodIn_of _ (by decide +kernel)) ggX5_lose_X4_drop
theorem dX5_lose_0 : decode cX5_lose 0 = .ok (.iload_n 1, 1) := by decide +kernel
theorem dX5_lose_1 : decode cX5_lose 1 = .ok (.invokestatic 205, 3) := by decide +kernel
theorem dX5_lose_4 : decode cX5_lose 4 = .ok (.ifCond .ne 6, 3) := by decide +kernel
theorem dX5_lose_7 : decode cX5_lose 7 = .ok (.bipush (-2), 2) := by decide +kernel
theorem dX5_lose_9 : decode cX5_lose 9 = .ok (.ireturn, 1) := by decide +kernel
theorem dX5_lose_10 : decode cX5_lose 10 = .ok (.aload_n 0, 1) := by decide +kernel
theorem dX5_lose_11 : decode cX5_lose 11 = .ok (.getfield 55, 3) := by decide +kernel
theorem dX5_lose_14 : decode cX5_lose 14 = .ok (.iload_n 1, 1) := by decide +kernel
theorem dX5_lose_15 : decode cX5_lose 15 = .ok (.invokevirtual 217, 3) := by decide +kernel
theorem dX5_lose_18 : decode cX5_lose 18 = .ok (.ifCond .eq 7, 3) := by decide +kernel
theorem dX5_lose_21 : decode cX5_lose 21 = .ok (.iconst 0, 1) := by decide +kernel
theorem dX5_lose_22 : decode cX5_lose 22 = .ok (.goto 4, 3) := by decide +kernel
theorem dX5_lose_25 : decode cX5_lose 25 = .ok (.iconst 1, 1) := by decide +kernel
theorem dX5_lose_26 : decode cX5_lose 26 = .ok (.istore_n 2, 1) := by decide +kernel
theorem dX5_lose_27 : decode cX5_lose 27 = .ok (.aload_n 0, 1) := by decide +kernel
theorem dX5_lose_28 : decode cX5_lose 28 = .ok (.getfield 55, 3) := by decide +kernel
theorem dX5_lose_31 : decode cX5_lose 31 = .ok (.iload_n 1, 1) := by decide +kernel
theorem dX5_lose_32 : decode cX5_lose 32 = .ok (.invokevirtual 236, 3) := by decide +kernel
theorem dX5_lose_35 : decode cX5_lose 35 = .ok (.iload_n 2, 1) := by decide +kernel
theorem dX5_lose_36 : decode cX5_lose 36 = .ok (.ireturn, 1) := by decide +kernel
