theorem dX5_tell_0 : decode cX5_tell 0 = .ok (.aload_n 0, 1) := by decide +kernel
theorem dX5_tell_1 : decode cX5_tell 1 = .ok (.getfield 63, 3) := by decide +kernel
theorem dX5_tell_4 : decode cX5_tell 4 = .ok (.bipush 20, 2) := by decide +kernel
theorem dX5_tell_6 : decode cX5_tell 6 = .ok (.if_icmp .lt 6, 3) := by decide +kernel
theorem dX5_tell_9 : decode cX5_tell 9 = .ok (.bipush (-2), 2) := by decide +kernel
theorem dX5_tell_11 : decode cX5_tell 11 = .ok (.ireturn, 1) := by decide +kernel
theorem dX5_tell_12 : decode cX5_tell 12 = .ok (.aload_n 0, 1) := by decide +kernel
theorem dX5_tell_13 : decode cX5_tell 13 = .ok (.getfield 59, 3) := by decide +kernel
theorem dX5_tell_16 : decode cX5_tell 16 = .ok (.aload_n 0, 1) := by decide +kernel
theorem dX5_tell_17 : decode cX5_tell 17 = .ok (.getfield 63, 3) := by decide +kernel
theorem dX5_tell_20 : decode cX5_tell 20 = .ok (.iload_n 1, 1) := by decide +kernel
theorem dX5_tell_21 : decode cX5_tell 21 = .ok (.iastore, 1) := by decide +kernel
theorem dX5_tell_22 : decode cX5_tell 22 = .ok (.aload_n 0, 1) := by decide +kernel
theorem dX5_tell_23 : decode cX5_tell 23 = .ok (.dup, 1) := by decide +kernel
theorem dX5_tell_24 : decode cX5_tell 24 = .ok (.getfield 63, 3) := by decide +kernel
theorem dX5_tell_27 : decode cX5_tell 27 = .ok (.iconst 1, 1) := by decide +kernel
theorem dX5_tell_28 : decode cX5_tell 28 = .ok (.iadd, 1) := by decide +kernel
theorem dX5_tell_29 : decode cX5_tell 29 = .ok (.putfield 63, 3) := by decide +kernel
theorem dX5_tell_32 : decode cX5_tell 32 = .ok (.aload_n 0, 1) := by decide +kernel
theorem dX5_tell_33 : decode cX5_tell 33 = .ok (.getfield 63, 3) := by decide +kernel
theorem dX5_tell_36 : decode cX5_tell 36 = .ok (.ireturn, 1) := by decide +kernel
set_option maxRecDepth 20000 in
set_option maxRecDepth 20000 in
theorem ggX5_check_X5_isStationOrNone : GoodIn wsX5_check wsX5_isStationOrNone := goodIn_r _ [14] rfl (by decide +kernel)
set_option maxRecDepth 20000 in
theorem gX5_check_X5_isStationOrNone : GoodIn wsX5_check (va_wsS RX5 121 yX5_isStationOrNone wsX5_isStationOrNone) := goodIn_app (goodIn_of _ (by decide +kernel)) ggX5_check_X5_isStationOrNone
set_option maxRecDepth 20000 in
set_option maxRecDepth 20000 in
theorem ggX5_check_X1_firstClash : GoodIn wsX5_check wsX1_firstClash := goodIn_r _ [19, 20, 21, 22, 23, 24, 18, 25, 26, 27, 28, 29, 30, 31, 32, 33, 34, 35, 36, 37, 38, 39, 40, 41, 42, 43, 44, 45, 46, 47, 48, 49, 50, 51, 52, 53, 54, 55, 56, 57, 58, 59, 60, 61, 62, 63, 64, 65, 66, 67, 68, 69, 70, 71, 72, 73, 74, 75, 76, 77, 102, 103, 91, 92, 93, 94, 95, 96, 97, 98, 99, 100, 101] rfl (by decide +kernel)
set_option maxRecDepth 20000 in
theorem gX5_check_X1_firstClash : GoodIn wsX5_check (wsV RX5 146 RX1 yX1_firstClash wsX1_firstClash) := goodIn_app (goodIn_of _ (by decide +kernel)) ggX5_check_X1_firstClash
set_option maxRecDepth 20000 in
set_option maxRecDepth 20000 in
theorem ggX5_check_X1_causeOf : GoodIn wsX5_check wsX1_causeOf := goodIn_r _ [25, 26, 20, 27, 28, 29, 30, 31, 32, 18, 33, 21, 34, 35, 36, 37, 38, 39, 40, 41, 42, 43, 44, 45, 46, 47, 48, 49, 50, 51, 52, 53, 54, 55, 56, 57, 58, 59, 60, 61, 62, 63, 64, 65, 66, 67, 68, 69, 70, 71, 72, 73, 74, 75, 76, 77, 102, 103, 91, 92, 93, 94, 95, 96, 97, 98, 99, 100, 101] rfl (by decide +kernel)
set_option maxRecDepth 20000 in
theorem gX5_check_X1_causeOf : GoodIn wsX5_check (wsV RX5 143 RX1 yX1_causeOf wsX1_causeOf) := goodIn_app (goodIn_of _ (by decide +kernel)) ggX5_check_X1_causeOf
theorem dX5_check_0 : decode cX5_check 0 = .ok (.aload_n 0, 1) := by decide +kernel
theorem dX5_check_1 : decode cX5_check 1 = .ok (.getfield 63, 3) := by decide +kernel
theorem dX5_check_4 : decode cX5_check 4 = .ok (.istore_n 1, 1) := by decide +kernel
theorem dX5_check_5 : decode cX5_check 5 = .ok (.aload_n 0, 1) := by decide +kernel
theorem dX5_check_6 : decode cX5_check 6 = .ok (.iconst 0, 1) := by decide +kernel
theorem dX5_check_7 : decode cX5_check 7 = .ok (.putfield 63, 3) := by decide +kernel
theorem dX5_check_10 : decode cX5_check 10 = .ok (.iload_n 1, 1) := by decide +kernel
theorem dX5_check_11 : decode cX5_check 11 = .ok (.aload_n 0, 1) := by decide +kernel
theorem dX5_check_12 : decode cX5_check 12 = .ok (.getfield 12, 3) := by decide +kernel
theorem dX5_check_15 : decode cX5_check 15 = .ok (.getfield 70, 3) := by decide +kernel
theorem dX5_check_18 : decode cX5_check 18 = .ok (.if_icmp .eq 6, 3) := by decide +kernel
theorem dX5_check_21 : decode cX5_check 21 = .ok (.bipush (-2), 2) := by decide +kernel
theorem dX5_check_23 : decode cX5_check 23 = .ok (.ireturn, 1) := by decide +kernel
theorem dX5_check_24 : decode cX5_check 24 = .ok (.iconst 0, 1) := by decide +kernel
theorem dX5_check_25 : decode cX5_check 25 = .ok (.istore_n 2, 1) := by decide +kernel
theorem dX5_check_26 : decode cX5_check 26 = .ok (.iload_n 2, 1) := by decide +kernel
theorem dX5_check_27 : decode cX5_check 27 = .ok (.iload_n 1, 1) := by decide +kernel
theorem dX5_check_28 : decode cX5_check 28 = .ok (.if_icmp .ge 24, 3) := by decide +kernel
theorem dX5_check_31 : decode cX5_check 31 = .ok (.aload_n 0, 1) := by decide +kernel
theorem dX5_check_32 : decode cX5_check 32 = .ok (.getfield 59, 3) := by decide +kernel
theorem dX5_check_35 : decode cX5_check 35 = .ok (.iload_n 2, 1) := by decide +kernel
theorem dX5_check_36 : decode cX5_check 36 = .ok (.iaload, 1) := by decide +kernel
theorem dX5_check_37 : decode cX5_check 37 = .ok (.invokestatic 121, 3) := by decide +kernel
theorem dX5_check_40 : decode cX5_check 40 = .ok (.ifCond .ne 6, 3) := by decide +kernel
theorem dX5_check_43 : decode cX5_check 43 = .ok (.bipush (-2), 2) := by decide +kernel
theorem dX5_check_45 : decode cX5_check 45 = .ok (.ireturn, 1) := by decide +kernel
theorem dX5_check_46 : decode cX5_check 46 = .ok (.iinc 2 1, 3) := by decide +kernel
theorem dX5_check_49 : decode cX5_check 49 = .ok (.goto (-23), 3) := by decide +kernel
theorem dX5_check_52 : decode cX5_check 52 = .ok (.aload_n 0, 1) := by decide +kernel
theorem dX5_check_53 : decode cX5_check 53 = .ok (.getfield 59, 3) := by decide +kernel
theorem dX5_check_56 : decode cX5_check 56 = .ok (.iconst 0, 1) := by decide +kernel
theorem dX5_check_57 : decode cX5_check 57 = .ok (.aload_n 0, 1) := by decide +kernel
theorem dX5_check_58 : decode cX5_check 58 = .ok (.getfield 49, 3) := by decide +kernel
theorem dX5_check_61 : decode cX5_check 61 = .ok (.getfield 77, 3) := by decide +kernel
theorem dX5_check_64 : decode cX5_check 64 = .ok (.iconst 0, 1) := by decide +kernel
theorem dX5_check_65 : decode cX5_check 65 = .ok (.iload_n 1, 1) := by decide +kernel
theorem dX5_check_66 : decode cX5_check 66 = .ok (.invokestatic 240, 3) := by decide +kernel
theorem dX5_check_69 : decode cX5_check 69 = .ok (.aload_n 0, 1) := by decide +kernel
theorem dX5_check_70 : decode cX5_check 70 = .ok (.getfield 49, 3) := by decide +kernel
theorem dX5_check_73 : decode cX5_check 73 = .ok (.invokevirtual 146, 3) := by decide +kernel
theorem dX5_check_76 : decode cX5_check 76 = .ok (.istore_n 2, 1) := by decide +kernel
theorem dX5_check_77 : decode cX5_check 77 = .ok (.iload_n 2, 1) := by decide +kernel
theorem dX5_check_78 : decode cX5_check 78 = .ok (.ifCond .ge 7, 3) := by decide +kernel
theorem dX5_check_81 : decode cX5_check 81 = .ok (.iconst 0, 1) := by decide +kernel
theorem dX5_check_82 : decode cX5_check 82 = .ok (.goto 16, 3) := by decide +kernel
theorem dX5_check_85 : decode cX5_check 85 = .ok (.bipush 10, 2) := by decide +kernel
theorem dX5_check_87 : decode cX5_check 87 = .ok (.iload_n 2, 1) := by decide +kernel
theorem dX5_check_88 : decode cX5_check 88 = .ok (.imul, 1) := by decide +kernel
theorem dX5_check_89 : decode cX5_check 89 = .ok (.aload_n 0, 1) := by decide +kernel
theorem dX5_check_90 : decode cX5_check 90 = .ok (.getfield 49, 3) := by decide +kernel
theorem dX5_check_93 : decode cX5_check 93 = .ok (.iload_n 2, 1) := by decide +kernel
theorem dX5_check_94 : decode cX5_check 94 = .ok (.invokevirtual 143, 3) := by decide +kernel
theorem dX5_check_97 : decode cX5_check 97 = .ok (.iadd, 1) := by decide +kernel
theorem dX5_check_98 : decode cX5_check 98 = .ok (.ireturn, 1) := by decide +kernel
set_option maxRecDepth 20000 in
set_option maxRecDepth 20000 in
theorem ggX5_keep_X0_become : GoodIn wsX5_keep wsX0_become := goodIn_r _ [11, 12, 13, 14, 15, 16, 17, 18, 19, 20, 21, 22, 23, 24, 25, 45, 46, 47, 48, 49, 50, 51, 52, 53, 54, 55] rfl (by decide +kernel)
set_option maxRecDepth 20000 in
theorem gX5_keep_X0_become : GoodIn wsX5_keep (wsV RX5 246 RX0 yX0_become wsX0_become) := goodIn_app (goodIn_of _ (by decide +kernel)) ggX5_keep_X0_become
set_option maxRecDepth 20000 in
set_option maxRecDepth 20000 in
theorem ggX5_keep_X1_copyRow : GoodIn wsX5_keep wsX1_copyRow := goodIn_r _ [30, 31, 32, 17, 18, 19, 56, 57] rfl (by decide +kernel)
set_option maxRecDepth 20000 in
theorem gX5_keep_X1_copyRow : GoodIn wsX5_keep (wsV RX5 196 RX1 yX1_copyRow wsX1_copyRow) := goodIn_app (goodIn_of _ (by decide +kernel)) ggX5_keep_X1_copyRow
theorem dX5_keep_0 : decode cX5_keep 0 = .ok (.aload_n 0, 1) := by decide +kernel
theorem dX5_keep_1 : decode cX5_keep 1 = .ok (.getfield 25, 3) := by decide +kernel
theorem dX5_keep_4 : decode cX5_keep 4 = .ok (.aload_n 0, 1) := by decide +kernel
theorem dX5_keep_5 : decode cX5_keep 5 = .ok (.getfield 12, 3) := by decide +kernel
theorem dX5_keep_8 : decode cX5_keep 8 = .ok (.invokevirtual 246, 3) := by decide +kernel
theorem dX5_keep_11 : decode cX5_keep 11 = .ok (.aload_n 0, 1) := by decide +kernel
theorem dX5_keep_12 : decode cX5_keep 12 = .ok (.getfield 28, 3) := by decide +kernel
theorem dX5_keep_15 : decode cX5_keep 15 = .ok (.aload_n 0, 1) := by decide +kernel
theorem dX5_keep_16 : decode cX5_keep 16 = .ok (.getfield 21, 3) := by decide +kernel
theorem dX5_keep_19 : decode cX5_keep 19 = .ok (.invokevirtual 196, 3) := by decide +kernel
theorem dX5_keep_22 : decode cX5_keep 22 = .ok (.aload_n 0, 1) := by decide +kernel
theorem dX5_keep_23 : decode cX5_keep 23 = .ok (.iconst 1, 1) := by decide +kernel
theorem dX5_keep_24 : decode cX5_keep 24 = .ok (.putfield 31, 3) := by decide +kernel
theorem dX5_keep_27 : decode cX5_keep 27 = .ok (.aload_n 0, 1) := by decide +kernel
theorem dX5_keep_28 : decode cX5_keep 28 = .ok (.getfield 12, 3) := by decide +kernel
theorem dX5_keep_31 : decode cX5_keep 31 = .ok (.getfield 70, 3) := by decide +kernel
theorem dX5_keep_34 : decode cX5_keep 34 = .ok (.ireturn, 1) := by decide +kernel
set_option maxRecDepth 20000 in
set_option maxRecDepth 20000 in
theorem ggX5_back_X5_found : GoodIn wsX5_back wsX5_found := goodIn_r _ [11, 12, 39, 40, 41, 42, 43, 44, 45, 46, 47, 48, 49, 50] rfl (by decide +kernel)
set_option maxRecDepth 20000 in
theorem gX5_back_X5_found : GoodIn wsX5_back (wsV RX5 211 RX5 yX5_found wsX5_found) := goodIn_app (goodIn_of _ (by decide +kernel)) ggX5_back_X5_found
set_option maxRecDepth 20000 in
set_option maxRecDepth 20000 in
theorem ggX5_back_X0_become : GoodIn wsX5_back wsX0_become := goodIn_r _ [17, 18, 19, 20, 21, 22, 23, 24, 25, 26, 27, 28, 29, 30, 31, 51, 52, 53, 54, 55, 56, 57, 58, 59, 60, 61] rfl (by decide +kernel)
set_option maxRecDepth 20000 in
theorem gX5_back_X0_become : GoodIn wsX5_back (wsV RX5 246 RX0 yX0_become wsX0_become) := goodIn_app (goodIn_of _ (by decide +kernel)) ggX5_back_X0_become
set_option maxRecDepth 20000 in
set_option maxRecDepth 20000 in
theorem ggX5_back_X1_copyRow : GoodIn wsX5_back wsX1_copyRow := goodIn_r _ [36, 37, 38, 23, 24, 25, 62, 63] rfl (by decide +kernel)
set_option maxRecDepth 20000 in
theorem gX5_back_X1_copyRow : GoodIn wsX5_back (wsV RX5 196 RX1 yX1_copyRow wsX1_copyRow) := goodIn_app (goodIn_of _ (by decide +kernel)) ggX5_back_X1_copyRow
theorem dX5_back_0 : decode cX5_back 0 = .ok (.aload_n 0, 1) := by decide +kernel
theorem dX5_back_1 : decode cX5_back 1 = .ok (.getfield 31, 3) := by decide +kernel
theorem dX5_back_4 : decode cX5_back 4 = .ok (.ifCond .ne 10, 3) := by decide +kernel
theorem dX5_back_7 : decode cX5_back 7 = .ok (.aload_n 0, 1) := by decide +kernel
theorem dX5_back_8 : decode cX5_back 8 = .ok (.bipush (-10), 2) := by decide +kernel
theorem dX5_back_10 : decode cX5_back 10 = .ok (.invokevirtual 211, 3) := by decide +kernel
theorem dX5_back_13 : decode cX5_back 13 = .ok (.ireturn, 1) := by decide +kernel
theorem dX5_back_14 : decode cX5_back 14 = .ok (.aload_n 0, 1) := by decide +kernel
theorem dX5_back_15 : decode cX5_back 15 = .ok (.getfield 12, 3) := by decide +kernel
theorem dX5_back_18 : decode cX5_back 18 = .ok (.aload_n 0, 1) := by decide +kernel
theorem dX5_back_19 : decode cX5_back 19 = .ok (.getfield 25, 3) := by decide +kernel
theorem dX5_back_22 : decode cX5_back 22 = .ok (.invokevirtual 246, 3) := by decide +kernel
theorem dX5_back_25 : decode cX5_back 25 = .ok (.aload_n 0, 1) := by decide +kernel
theorem dX5_back_26 : decode cX5_back 26 = .ok (.getfield 21, 3) := by decide +kernel
theorem dX5_back_29 : decode cX5_back 29 = .ok (.aload_n 0, 1) := by decide +kernel
theorem dX5_back_30 : decode cX5_back 30 = .ok (.getfield 28, 3) := by decide +kernel
theorem dX5_back_33 : decode cX5_back 33 = .ok (.invokevirtual 196, 3) := by decide +kernel
theorem dX5_back_36 : decode cX5_back 36 = .ok (.aload_n 0, 1) := by decide +kernel
theorem dX5_back_37 : decode cX5_back 37 = .ok (.getfield 12, 3) := by decide +kernel
theorem dX5_back_40 : decode cX5_back 40 = .ok (.getfield 70, 3) := by decide +kernel
theorem dX5_back_43 : decode cX5_back 43 = .ok (.ireturn, 1) := by decide +kernel
set_option maxRecDepth 20000 in
set_option maxRecDepth 20000 in
theorem ggX5_count_X0_room : GoodIn wsX5_count wsX0_room := goodIn_r _ [11, 12, 13, 14, 15, 16, 10, 17, 18, 31, 32, 33, 34, 35, 36, 37, 38, 39, 40, 41] rfl (by decide +kernel)
set_option maxRecDepth 20000 in
theorem gX5_count_X0_room : GoodIn wsX5_count (wsV RX5 152 RX0 yX0_room wsX0_room) := goodIn_app (goodIn_of _ (by decide +kernel)) ggX5_count_X0_room
theorem dX5_count_0 : decode cX5_count 0 = .ok (.iload_n 1, 1) := by decide +kernel
theorem dX5_count_1 : decode cX5_count 1 = .ok (.tableswitch 81 0 5 #[39, 47, 52, 57, 65, 73], 39) := by decide +kernel
theorem dX5_count_40 : decode cX5_count 40 = .ok (.aload_n 0, 1) := by decide +kernel
theorem dX5_count_41 : decode cX5_count 41 = .ok (.getfield 12, 3) := by decide +kernel
theorem dX5_count_44 : decode cX5_count 44 = .ok (.getfield 70, 3) := by decide +kernel
theorem dX5_count_47 : decode cX5_count 47 = .ok (.ireturn, 1) := by decide +kernel
theorem dX5_count_48 : decode cX5_count 48 = .ok (.aload_n 0, 1) := by decide +kernel
theorem dX5_count_49 : decode cX5_count 49 = .ok (.getfield 63, 3) := by decide +kernel
theorem dX5_count_52 : decode cX5_count 52 = .ok (.ireturn, 1) := by decide +kernel
theorem dX5_count_53 : decode cX5_count 53 = .ok (.aload_n 0, 1) := by decide +kernel
theorem dX5_count_54 : decode cX5_count 54 = .ok (.getfield 67, 3) := by decide +kernel
theorem dX5_count_57 : decode cX5_count 57 = .ok (.ireturn, 1) := by decide +kernel
theorem dX5_count_58 : decode cX5_count 58 = .ok (.aload_n 0, 1) := by decide +kernel
theorem dX5_count_59 : decode cX5_count 59 = .ok (.getfield 12, 3) := by decide +kernel
theorem dX5_count_62 : decode cX5_count 62 = .ok (.getfield 127, 3) := by decide +kernel
theorem dX5_count_65 : decode cX5_count 65 = .ok (.ireturn, 1) := by decide +kernel
theorem dX5_count_66 : decode cX5_count 66 = .ok (.aload_n 0, 1) := by decide +kernel
theorem dX5_count_67 : decode cX5_count 67 = .ok (.getfield 12, 3) := by decide +kernel
theorem dX5_count_70 : decode cX5_count 70 = .ok (.getfield 130, 3) := by decide +kernel
theorem dX5_count_73 : decode cX5_count 73 = .ok (.ireturn, 1) := by decide +kernel
theorem dX5_count_74 : decode cX5_count 74 = .ok (.aload_n 0, 1) := by decide +kernel
theorem dX5_count_75 : decode cX5_count 75 = .ok (.getfield 12, 3) := by decide +kernel
theorem dX5_count_78 : decode cX5_count 78 = .ok (.invokevirtual 152, 3) := by decide +kernel
theorem dX5_count_81 : decode cX5_count 81 = .ok (.ireturn, 1) := by decide +kernel
theorem dX5_count_82 : decode cX5_count 82 = .ok (.bipush (-2), 2) := by decide +kernel
theorem dX5_count_84 : decode cX5_count 84 = .ok (.ireturn, 1) := by decide +kernel
theorem dX5_found_0 : decode cX5_found 0 = .ok (.aload_n 0, 1) := by decide +kernel
theorem dX5_found_1 : decode cX5_found 1 = .ok (.dup, 1) := by decide +kernel
theorem dX5_found_2 : decode cX5_found 2 = .ok (.getfield 67, 3) := by decide +kernel
theorem dX5_found_5 : decode cX5_found 5 = .ok (.iconst 1, 1) := by decide +kernel
theorem dX5_found_6 : decode cX5_found 6 = .ok (.iadd, 1) := by decide +kernel
theorem dX5_found_7 : decode cX5_found 7 = .ok (.putfield 67, 3) := by decide +kernel
theorem dX5_found_10 : decode cX5_found 10 = .ok (.iload_n 1, 1) := by decide +kernel
theorem dX5_found_11 : decode cX5_found 11 = .ok (.ireturn, 1) := by decide +kernel
set_option maxRecDepth 20000 in
set_option maxRecDepth 20000 in
theorem ggX5_stationsFor_X0_loadOf : GoodIn wsX5_stationsFor wsX0_loadOf := goodIn_r _ [6, 7, 8, 9, 5, 10, 11, 12, 13, 14, 15, 16, 17, 18, 19, 20, 21, 22, 23, 24, 25, 26, 52, 53, 54, 55, 56, 57, 58, 59, 60, 61, 62] rfl (by decide +kernel)
set_option maxRecDepth 20000 in
theorem gX5_stationsFor_X0_loadOf : GoodIn wsX5_stationsFor (wsV RX5 139 RX0 yX0_loadOf wsX0_loadOf) := goodIn_app (goodIn_of _ (by decide +kernel)) ggX5_stationsFor_X0_loadOf
set_option maxRecDepth 20000 in
set_option maxRecDepth 20000 in
theorem ggX5_stationsFor_X0_room : GoodIn wsX5_stationsFor wsX0_room := goodIn_r _ [30, 11, 31, 32, 33, 34, 5, 35, 12, 52, 53, 54, 55, 56, 57, 58, 59, 60, 61, 62] rfl (by decide +kernel)
set_option maxRecDepth 20000 in
theorem gX5_stationsFor_X0_room : GoodIn wsX5_stationsFor (wsV RX5 152 RX0 yX0_room wsX0_room) := goodIn_app (goodIn_of _ (by decide +kernel)) ggX5_stationsFor_X0_room
set_option maxRecDepth 20000 in
set_option maxRecDepth 20000 in
theorem ggX5_stationsFor_X5_takenUp : GoodIn wsX5_stationsFor wsX5_takenUp := goodIn_r _ [39] rfl (by decide +kernel)
set_option maxRecDepth 20000 in
theorem gX5_stationsFor_X5_takenUp : GoodIn wsX5_stationsFor (va_wsS RX5 249 yX5_takenUp wsX5_takenUp) := goodIn_app (goodIn_of _ (by decide +kernel)) ggX5_stationsFor_X5_takenUp
theorem dX5_stationsFor_0 : decode cX5_stationsFor 0 = .ok (.aload_n 0, 1) := by decide +kernel
theorem dX5_stationsFor_1 : decode cX5_stationsFor 1 = .ok (.getfield 12, 3) := by decide +kernel
theorem dX5_stationsFor_4 : decode cX5_stationsFor 4 = .ok (.iload_n 1, 1) := by decide +kernel
theorem dX5_stationsFor_5 : decode cX5_stationsFor 5 = .ok (.invokevirtual 139, 3) := by decide +kernel
theorem dX5_stationsFor_8 : decode cX5_stationsFor 8 = .ok (.aload_n 0, 1) := by decide +kernel
theorem dX5_stationsFor_9 : decode cX5_stationsFor 9 = .ok (.getfield 12, 3) := by decide +kernel
theorem dX5_stationsFor_12 : decode cX5_stationsFor 12 = .ok (.invokevirtual 152, 3) := by decide +kernel
theorem dX5_stationsFor_15 : decode cX5_stationsFor 15 = .ok (.invokestatic 249, 3) := by decide +kernel
theorem dX5_stationsFor_18 : decode cX5_stationsFor 18 = .ok (.ireturn, 1) := by decide +kernel
theorem dX5_isMake_0 : decode cX5_isMake 0 = .ok (.iload_n 0, 1) := by decide +kernel
theorem dX5_isMake_1 : decode cX5_isMake 1 = .ok (.ifCond .lt 12, 3) := by decide +kernel
theorem dX5_isMake_4 : decode cX5_isMake 4 = .ok (.iload_n 0, 1) := by decide +kernel
theorem dX5_isMake_5 : decode cX5_isMake 5 = .ok (.iconst 3, 1) := by decide +kernel
theorem dX5_isMake_6 : decode cX5_isMake 6 = .ok (.if_icmp .ge 7, 3) := by decide +kernel
theorem dX5_isMake_9 : decode cX5_isMake 9 = .ok (.iconst 1, 1) := by decide +kernel
theorem dX5_isMake_10 : decode cX5_isMake 10 = .ok (.goto 4, 3) := by decide +kernel
theorem dX5_isMake_13 : decode cX5_isMake 13 = .ok (.iconst 0, 1) := by decide +kernel
theorem dX5_isMake_14 : decode cX5_isMake 14 = .ok (.ireturn, 1) := by decide +kernel
theorem dX5_isStation_0 : decode cX5_isStation 0 = .ok (.iload_n 0, 1) := by decide +kernel
theorem dX5_isStation_1 : decode cX5_isStation 1 = .ok (.iconst 1, 1) := by decide +kernel
theorem dX5_isStation_2 : decode cX5_isStation 2 = .ok (.if_icmp .lt 13, 3) := by decide +kernel
theorem dX5_isStation_5 : decode cX5_isStation 5 = .ok (.iload_n 0, 1) := by decide +kernel
theorem dX5_isStation_6 : decode cX5_isStation 6 = .ok (.bipush 10, 2) := by decide +kernel
theorem dX5_isStation_8 : decode cX5_isStation 8 = .ok (.if_icmp .gt 7, 3) := by decide +kernel
theorem dX5_isStation_11 : decode cX5_isStation 11 = .ok (.iconst 1, 1) := by decide +kernel
theorem dX5_isStation_12 : decode cX5_isStation 12 = .ok (.goto 4, 3) := by decide +kernel
theorem dX5_isStation_15 : decode cX5_isStation 15 = .ok (.iconst 0, 1) := by decide +kernel
theorem dX5_isStation_16 : decode cX5_isStation 16 = .ok (.ireturn, 1) := by decide +kernel
theorem dX5_isStationOrNone_0 : decode cX5_isStationOrNone 0 = .ok (.iload_n 0, 1) := by decide +kernel
theorem dX5_isStationOrNone_1 : decode cX5_isStationOrNone 1 = .ok (.ifCond .lt 13, 3) := by decide +kernel
theorem dX5_isStationOrNone_4 : decode cX5_isStationOrNone 4 = .ok (.iload_n 0, 1) := by decide +kernel
theorem dX5_isStationOrNone_5 : decode cX5_isStationOrNone 5 = .ok (.bipush 10, 2) := by decide +kernel
theorem dX5_isStationOrNone_7 : decode cX5_isStationOrNone 7 = .ok (.if_icmp .gt 7, 3) := by decide +kernel
theorem dX5_isStationOrNone_10 : decode cX5_isStationOrNone 10 = .ok (.iconst 1, 1) := by decide +kernel
theorem dX5_isStationOrNone_11 : decode cX5_isStationOrNone 11 = .ok (.goto 4, 3) := by decide +kernel
theorem dX5_isStationOrNone_14 : decode cX5_isStationOrNone 14 = .ok (.iconst 0, 1) := by decide +kernel
theorem dX5_isStationOrNone_15 : decode cX5_isStationOrNone 15 = .ok (.ireturn, 1) := by decide +kernel
theorem dX5_isSheet_0 : decode cX5_isSheet 0 = .ok (.iload_n 0, 1) := by decide +kernel
theorem dX5_isSheet_1 : decode cX5_isSheet 1 = .ok (.ifCond .lt 12, 3) := by decide +kernel
theorem dX5_isSheet_4 : decode cX5_isSheet 4 = .ok (.iload_n 0, 1) := by decide +kernel
theorem dX5_isSheet_5 : decode cX5_isSheet 5 = .ok (.iconst 4, 1) := by decide +kernel
theorem dX5_isSheet_6 : decode cX5_isSheet 6 = .ok (.if_icmp .ge 7, 3) := by decide +kernel
theorem dX5_isSheet_9 : decode cX5_isSheet 9 = .ok (.iconst 1, 1) := by decide +kernel
theorem dX5_isSheet_10 : decode cX5_isSheet 10 = .ok (.goto 4, 3) := by decide +kernel
theorem dX5_isSheet_13 : decode cX5_isSheet 13 = .ok (.iconst 0, 1) := by decide +kernel
theorem dX5_isSheet_14 : decode cX5_isSheet 14 = .ok (.ireturn, 1) := by decide +kernel
theorem dX5_isSort_0 : decode cX5_isSort 0 = .ok (.iload_n 0, 1) := by decide +kernel
theorem dX5_isSort_1 : decode cX5_isSort 1 = .ok (.ifCond .lt 12, 3) := by decide +kernel
theorem dX5_isSort_4 : decode cX5_isSort 4 = .ok (.iload_n 0, 1) := by decide +kernel
theorem dX5_isSort_5 : decode cX5_isSort 5 = .ok (.iconst 3, 1) := by decide +kernel
theorem dX5_isSort_6 : decode cX5_isSort 6 = .ok (.if_icmp .ge 7, 3) := by decide +kernel
theorem dX5_isSort_9 : decode cX5_isSort 9 = .ok (.iconst 1, 1) := by decide +kernel
theorem dX5_isSort_10 : decode cX5_isSort 10 = .ok (.goto 4, 3) := by decide +kernel
theorem dX5_isSort_13 : decode cX5_isSort 13 = .ok (.iconst 0, 1) := by decide +kernel
theorem dX5_isSort_14 : decode cX5_isSort 14 = .ok (.ireturn, 1) := by decide +kernel
theorem dX5_takenUp_0 : decode cX5_takenUp 0 = .ok (.iload_n 1, 1) := by decide +kernel
theorem dX5_takenUp_1 : decode cX5_takenUp 1 = .ok (.iconst 1, 1) := by decide +kernel
theorem dX5_takenUp_2 : decode cX5_takenUp 2 = .ok (.if_icmp .ge 7, 3) := by decide +kernel
theorem dX5_takenUp_5 : decode cX5_takenUp 5 = .ok (.iconst 0, 1) := by decide +kernel
theorem dX5_takenUp_6 : decode cX5_takenUp 6 = .ok (.goto 10, 3) := by decide +kernel
theorem dX5_takenUp_9 : decode cX5_takenUp 9 = .ok (.iload_n 0, 1) := by decide +kernel
theorem dX5_takenUp_10 : decode cX5_takenUp 10 = .ok (.iload_n 1, 1) := by decide +kernel
theorem dX5_takenUp_11 : decode cX5_takenUp 11 = .ok (.iadd, 1) := by decide +kernel
theorem dX5_takenUp_12 : decode cX5_takenUp 12 = .ok (.iconst 1, 1) := by decide +kernel
theorem dX5_takenUp_13 : decode cX5_takenUp 13 = .ok (.isub, 1) := by decide +kernel
theorem dX5_takenUp_14 : decode cX5_takenUp 14 = .ok (.iload_n 1, 1) := by decide +kernel
theorem dX5_takenUp_15 : decode cX5_takenUp 15 = .ok (.idiv, 1) := by decide +kernel
theorem dX5_takenUp_16 : decode cX5_takenUp 16 = .ok (.ireturn, 1) := by decide +kernel
