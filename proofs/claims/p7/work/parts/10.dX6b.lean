theorem dX6_isStation_0 : decode cX6_isStation 0 = .ok (.iload_n 0, 1) := by decide +kernel
theorem dX6_isStation_1 : decode cX6_isStation 1 = .ok (.ifCond .lt 13, 3) := by decide +kernel
theorem dX6_isStation_4 : decode cX6_isStation 4 = .ok (.iload_n 0, 1) := by decide +kernel
theorem dX6_isStation_5 : decode cX6_isStation 5 = .ok (.bipush 10, 2) := by decide +kernel
theorem dX6_isStation_7 : decode cX6_isStation 7 = .ok (.if_icmp .gt 7, 3) := by decide +kernel
theorem dX6_isStation_10 : decode cX6_isStation 10 = .ok (.iconst 1, 1) := by decide +kernel
theorem dX6_isStation_11 : decode cX6_isStation 11 = .ok (.goto 4, 3) := by decide +kernel
theorem dX6_isStation_14 : decode cX6_isStation 14 = .ok (.iconst 0, 1) := by decide +kernel
theorem dX6_isStation_15 : decode cX6_isStation 15 = .ok (.ireturn, 1) := by decide +kernel
set_option maxRecDepth 20000 in
set_option maxRecDepth 20000 in
theorem ggX6_hold_X6_isTask : GoodIn wsX6_hold wsX6_isTask := goodIn_r _ [6, 7, 11, 12, 13, 14, 15, 16, 17, 18, 19, 20, 21, 22, 23, 24, 25, 26, 27, 28, 29, 30, 31, 32, 33, 34, 35, 36, 37, 38, 39] rfl (by decide +kernel)
set_option maxRecDepth 20000 in
theorem gX6_hold_X6_isTask : GoodIn wsX6_hold (wsV RX6 88 RX6 yX6_isTask wsX6_isTask) := goodIn_app (goodIn_of _ (by decide +kernel)) ggX6_hold_X6_isTask
set_option maxRecDepth 20000 in
set_option maxRecDepth 20000 in
theorem ggX6_hold_X6_isStation : GoodIn wsX6_hold wsX6_isStation := goodIn_r _ [10] rfl (by decide +kernel)
set_option maxRecDepth 20000 in
theorem gX6_hold_X6_isStation : GoodIn wsX6_hold (va_wsS RX6 110 yX6_isStation wsX6_isStation) := goodIn_app (goodIn_of _ (by decide +kernel)) ggX6_hold_X6_isStation
theorem dX6_hold_0 : decode cX6_hold 0 = .ok (.aload_n 0, 1) := by decide +kernel
theorem dX6_hold_1 : decode cX6_hold 1 = .ok (.iload_n 1, 1) := by decide +kernel
theorem dX6_hold_2 : decode cX6_hold 2 = .ok (.invokevirtual 88, 3) := by decide +kernel
theorem dX6_hold_5 : decode cX6_hold 5 = .ok (.ifCond .eq 10, 3) := by decide +kernel
theorem dX6_hold_8 : decode cX6_hold 8 = .ok (.iload_n 2, 1) := by decide +kernel
theorem dX6_hold_9 : decode cX6_hold 9 = .ok (.invokestatic 110, 3) := by decide +kernel
theorem dX6_hold_12 : decode cX6_hold 12 = .ok (.ifCond .ne 6, 3) := by decide +kernel
theorem dX6_hold_15 : decode cX6_hold 15 = .ok (.bipush (-2), 2) := by decide +kernel
theorem dX6_hold_17 : decode cX6_hold 17 = .ok (.ireturn, 1) := by decide +kernel
theorem dX6_hold_18 : decode cX6_hold 18 = .ok (.aload_n 0, 1) := by decide +kernel
theorem dX6_hold_19 : decode cX6_hold 19 = .ok (.getfield 22, 3) := by decide +kernel
theorem dX6_hold_22 : decode cX6_hold 22 = .ok (.iload_n 1, 1) := by decide +kernel
theorem dX6_hold_23 : decode cX6_hold 23 = .ok (.iaload, 1) := by decide +kernel
theorem dX6_hold_24 : decode cX6_hold 24 = .ok (.istore_n 3, 1) := by decide +kernel
theorem dX6_hold_25 : decode cX6_hold 25 = .ok (.aload_n 0, 1) := by decide +kernel
theorem dX6_hold_26 : decode cX6_hold 26 = .ok (.getfield 22, 3) := by decide +kernel
theorem dX6_hold_29 : decode cX6_hold 29 = .ok (.iload_n 1, 1) := by decide +kernel
theorem dX6_hold_30 : decode cX6_hold 30 = .ok (.iload_n 2, 1) := by decide +kernel
theorem dX6_hold_31 : decode cX6_hold 31 = .ok (.iastore, 1) := by decide +kernel
theorem dX6_hold_32 : decode cX6_hold 32 = .ok (.iload_n 3, 1) := by decide +kernel
theorem dX6_hold_33 : decode cX6_hold 33 = .ok (.ireturn, 1) := by decide +kernel
theorem dX6_line_0 : decode cX6_line 0 = .ok (.iload_n 1, 1) := by decide +kernel
theorem dX6_line_1 : decode cX6_line 1 = .ok (.ifCond .lt 8, 3) := by decide +kernel
theorem dX6_line_4 : decode cX6_line 4 = .ok (.iload_n 1, 1) := by decide +kernel
theorem dX6_line_5 : decode cX6_line 5 = .ok (.iconst 3, 1) := by decide +kernel
theorem dX6_line_6 : decode cX6_line 6 = .ok (.if_icmp .le 6, 3) := by decide +kernel
theorem dX6_line_9 : decode cX6_line 9 = .ok (.bipush (-2), 2) := by decide +kernel
theorem dX6_line_11 : decode cX6_line 11 = .ok (.ireturn, 1) := by decide +kernel
theorem dX6_line_12 : decode cX6_line 12 = .ok (.aload_n 0, 1) := by decide +kernel
theorem dX6_line_13 : decode cX6_line 13 = .ok (.getfield 113, 3) := by decide +kernel
theorem dX6_line_16 : decode cX6_line 16 = .ok (.istore_n 2, 1) := by decide +kernel
theorem dX6_line_17 : decode cX6_line 17 = .ok (.aload_n 0, 1) := by decide +kernel
theorem dX6_line_18 : decode cX6_line 18 = .ok (.iload_n 1, 1) := by decide +kernel
theorem dX6_line_19 : decode cX6_line 19 = .ok (.putfield 113, 3) := by decide +kernel
theorem dX6_line_22 : decode cX6_line 22 = .ok (.iload_n 2, 1) := by decide +kernel
theorem dX6_line_23 : decode cX6_line 23 = .ok (.ireturn, 1) := by decide +kernel
theorem dX6_beat_0 : decode cX6_beat 0 = .ok (.iload_n 1, 1) := by decide +kernel
theorem dX6_beat_1 : decode cX6_beat 1 = .ok (.iconst 1, 1) := by decide +kernel
theorem dX6_beat_2 : decode cX6_beat 2 = .ok (.if_icmp .lt 10, 3) := by decide +kernel
theorem dX6_beat_5 : decode cX6_beat 5 = .ok (.iload_n 1, 1) := by decide +kernel
theorem dX6_beat_6 : decode cX6_beat 6 = .ok (.sipush 1000, 3) := by decide +kernel
theorem dX6_beat_9 : decode cX6_beat 9 = .ok (.if_icmp .le 6, 3) := by decide +kernel
theorem dX6_beat_12 : decode cX6_beat 12 = .ok (.bipush (-2), 2) := by decide +kernel
theorem dX6_beat_14 : decode cX6_beat 14 = .ok (.ireturn, 1) := by decide +kernel
theorem dX6_beat_15 : decode cX6_beat 15 = .ok (.aload_n 0, 1) := by decide +kernel
theorem dX6_beat_16 : decode cX6_beat 16 = .ok (.getfield 28, 3) := by decide +kernel
theorem dX6_beat_19 : decode cX6_beat 19 = .ok (.istore_n 2, 1) := by decide +kernel
theorem dX6_beat_20 : decode cX6_beat 20 = .ok (.aload_n 0, 1) := by decide +kernel
theorem dX6_beat_21 : decode cX6_beat 21 = .ok (.iload_n 1, 1) := by decide +kernel
theorem dX6_beat_22 : decode cX6_beat 22 = .ok (.putfield 28, 3) := by decide +kernel
theorem dX6_beat_25 : decode cX6_beat 25 = .ok (.iload_n 2, 1) := by decide +kernel
theorem dX6_beat_26 : decode cX6_beat 26 = .ok (.ireturn, 1) := by decide +kernel
set_option maxRecDepth 20000 in
set_option maxRecDepth 20000 in
theorem ggX6_sumOf_X6_in : GoodIn wsX6_sumOf wsX6_in := goodIn_r _ [6] rfl (by decide +kernel)
set_option maxRecDepth 20000 in
theorem gX6_sumOf_X6_in : GoodIn wsX6_sumOf (va_wsS RX6 95 yX6_in wsX6_in) := goodIn_app (goodIn_of _ (by decide +kernel)) ggX6_sumOf_X6_in
theorem dX6_sumOf_0 : decode cX6_sumOf 0 = .ok (.iconst 0, 1) := by decide +kernel
theorem dX6_sumOf_1 : decode cX6_sumOf 1 = .ok (.istore_n 3, 1) := by decide +kernel
theorem dX6_sumOf_2 : decode cX6_sumOf 2 = .ok (.iconst 0, 1) := by decide +kernel
theorem dX6_sumOf_3 : decode cX6_sumOf 3 = .ok (.istore 4, 2) := by decide +kernel
theorem dX6_sumOf_5 : decode cX6_sumOf 5 = .ok (.iload 4, 2) := by decide +kernel
theorem dX6_sumOf_7 : decode cX6_sumOf 7 = .ok (.aload_n 0, 1) := by decide +kernel
theorem dX6_sumOf_8 : decode cX6_sumOf 8 = .ok (.getfield 85, 3) := by decide +kernel
theorem dX6_sumOf_11 : decode cX6_sumOf 11 = .ok (.if_icmp .ge 36, 3) := by decide +kernel
theorem dX6_sumOf_14 : decode cX6_sumOf 14 = .ok (.iload_n 3, 1) := by decide +kernel
theorem dX6_sumOf_15 : decode cX6_sumOf 15 = .ok (.iload_n 1, 1) := by decide +kernel
theorem dX6_sumOf_16 : decode cX6_sumOf 16 = .ok (.iload 4, 2) := by decide +kernel
theorem dX6_sumOf_18 : decode cX6_sumOf 18 = .ok (.invokestatic 95, 3) := by decide +kernel
theorem dX6_sumOf_21 : decode cX6_sumOf 21 = .ok (.ifCond .eq 17, 3) := by decide +kernel
theorem dX6_sumOf_24 : decode cX6_sumOf 24 = .ok (.aload_n 0, 1) := by decide +kernel
theorem dX6_sumOf_25 : decode cX6_sumOf 25 = .ok (.getfield 7, 3) := by decide +kernel
theorem dX6_sumOf_28 : decode cX6_sumOf 28 = .ok (.iconst 3, 1) := by decide +kernel
theorem dX6_sumOf_29 : decode cX6_sumOf 29 = .ok (.iload 4, 2) := by decide +kernel
theorem dX6_sumOf_31 : decode cX6_sumOf 31 = .ok (.imul, 1) := by decide +kernel
theorem dX6_sumOf_32 : decode cX6_sumOf 32 = .ok (.iload_n 2, 1) := by decide +kernel
theorem dX6_sumOf_33 : decode cX6_sumOf 33 = .ok (.iadd, 1) := by decide +kernel
theorem dX6_sumOf_34 : decode cX6_sumOf 34 = .ok (.iaload, 1) := by decide +kernel
theorem dX6_sumOf_35 : decode cX6_sumOf 35 = .ok (.goto 4, 3) := by decide +kernel
theorem dX6_sumOf_38 : decode cX6_sumOf 38 = .ok (.iconst 0, 1) := by decide +kernel
theorem dX6_sumOf_39 : decode cX6_sumOf 39 = .ok (.iadd, 1) := by decide +kernel
theorem dX6_sumOf_40 : decode cX6_sumOf 40 = .ok (.istore_n 3, 1) := by decide +kernel
theorem dX6_sumOf_41 : decode cX6_sumOf 41 = .ok (.iinc 4 1, 3) := by decide +kernel
theorem dX6_sumOf_44 : decode cX6_sumOf 44 = .ok (.goto (-39), 3) := by decide +kernel
theorem dX6_sumOf_47 : decode cX6_sumOf 47 = .ok (.iload_n 3, 1) := by decide +kernel
theorem dX6_sumOf_48 : decode cX6_sumOf 48 = .ok (.ireturn, 1) := by decide +kernel
set_option maxRecDepth 20000 in
set_option maxRecDepth 20000 in
theorem ggX6_loadOf_X6_sumOf : GoodIn wsX6_loadOf wsX6_sumOf := goodIn_r _ [7, 8, 9, 10, 11, 6, 12, 13, 14, 15, 16, 17, 18, 19, 20, 21, 22, 23, 24, 25, 26, 27, 28, 29, 30, 31, 32, 33, 34, 35, 36, 37, 38, 39, 40, 41] rfl (by decide +kernel)
set_option maxRecDepth 20000 in
theorem gX6_loadOf_X6_sumOf : GoodIn wsX6_loadOf (wsV RX6 116 RX6 yX6_sumOf wsX6_sumOf) := goodIn_app (goodIn_of _ (by decide +kernel)) ggX6_loadOf_X6_sumOf
theorem dX6_loadOf_0 : decode cX6_loadOf 0 = .ok (.aload_n 0, 1) := by decide +kernel
theorem dX6_loadOf_1 : decode cX6_loadOf 1 = .ok (.getfield 113, 3) := by decide +kernel
theorem dX6_loadOf_4 : decode cX6_loadOf 4 = .ok (.iconst 2, 1) := by decide +kernel
theorem dX6_loadOf_5 : decode cX6_loadOf 5 = .ok (.if_icmp .ge 10, 3) := by decide +kernel
theorem dX6_loadOf_8 : decode cX6_loadOf 8 = .ok (.aload_n 0, 1) := by decide +kernel
theorem dX6_loadOf_9 : decode cX6_loadOf 9 = .ok (.iload_n 1, 1) := by decide +kernel
theorem dX6_loadOf_10 : decode cX6_loadOf 10 = .ok (.iconst 0, 1) := by decide +kernel
theorem dX6_loadOf_11 : decode cX6_loadOf 11 = .ok (.invokevirtual 116, 3) := by decide +kernel
theorem dX6_loadOf_14 : decode cX6_loadOf 14 = .ok (.ireturn, 1) := by decide +kernel
theorem dX6_loadOf_15 : decode cX6_loadOf 15 = .ok (.iconst 0, 1) := by decide +kernel
theorem dX6_loadOf_16 : decode cX6_loadOf 16 = .ok (.istore_n 2, 1) := by decide +kernel
theorem dX6_loadOf_17 : decode cX6_loadOf 17 = .ok (.iconst 0, 1) := by decide +kernel
theorem dX6_loadOf_18 : decode cX6_loadOf 18 = .ok (.istore_n 3, 1) := by decide +kernel
theorem dX6_loadOf_19 : decode cX6_loadOf 19 = .ok (.iload_n 3, 1) := by decide +kernel
theorem dX6_loadOf_20 : decode cX6_loadOf 20 = .ok (.iconst 3, 1) := by decide +kernel
theorem dX6_loadOf_21 : decode cX6_loadOf 21 = .ok (.if_icmp .ge 62, 3) := by decide +kernel
theorem dX6_loadOf_24 : decode cX6_loadOf 24 = .ok (.aload_n 0, 1) := by decide +kernel
theorem dX6_loadOf_25 : decode cX6_loadOf 25 = .ok (.iload_n 1, 1) := by decide +kernel
theorem dX6_loadOf_26 : decode cX6_loadOf 26 = .ok (.iload_n 3, 1) := by decide +kernel
theorem dX6_loadOf_27 : decode cX6_loadOf 27 = .ok (.invokevirtual 116, 3) := by decide +kernel
theorem dX6_loadOf_30 : decode cX6_loadOf 30 = .ok (.istore 4, 2) := by decide +kernel
theorem dX6_loadOf_32 : decode cX6_loadOf 32 = .ok (.aload_n 0, 1) := by decide +kernel
theorem dX6_loadOf_33 : decode cX6_loadOf 33 = .ok (.getfield 113, 3) := by decide +kernel
theorem dX6_loadOf_36 : decode cX6_loadOf 36 = .ok (.iconst 2, 1) := by decide +kernel
theorem dX6_loadOf_37 : decode cX6_loadOf 37 = .ok (.if_icmp .ne 18, 3) := by decide +kernel
theorem dX6_loadOf_40 : decode cX6_loadOf 40 = .ok (.iload_n 2, 1) := by decide +kernel
theorem dX6_loadOf_41 : decode cX6_loadOf 41 = .ok (.aload_n 0, 1) := by decide +kernel
theorem dX6_loadOf_42 : decode cX6_loadOf 42 = .ok (.getfield 13, 3) := by decide +kernel
theorem dX6_loadOf_45 : decode cX6_loadOf 45 = .ok (.iload_n 3, 1) := by decide +kernel
theorem dX6_loadOf_46 : decode cX6_loadOf 46 = .ok (.iaload, 1) := by decide +kernel
theorem dX6_loadOf_47 : decode cX6_loadOf 47 = .ok (.iload 4, 2) := by decide +kernel
theorem dX6_loadOf_49 : decode cX6_loadOf 49 = .ok (.imul, 1) := by decide +kernel
theorem dX6_loadOf_50 : decode cX6_loadOf 50 = .ok (.iadd, 1) := by decide +kernel
theorem dX6_loadOf_51 : decode cX6_loadOf 51 = .ok (.istore_n 2, 1) := by decide +kernel
theorem dX6_loadOf_52 : decode cX6_loadOf 52 = .ok (.goto 25, 3) := by decide +kernel
theorem dX6_loadOf_55 : decode cX6_loadOf 55 = .ok (.aload_n 0, 1) := by decide +kernel
theorem dX6_loadOf_56 : decode cX6_loadOf 56 = .ok (.getfield 13, 3) := by decide +kernel
theorem dX6_loadOf_59 : decode cX6_loadOf 59 = .ok (.iload_n 3, 1) := by decide +kernel
theorem dX6_loadOf_60 : decode cX6_loadOf 60 = .ok (.iaload, 1) := by decide +kernel
theorem dX6_loadOf_61 : decode cX6_loadOf 61 = .ok (.ifCond .le 14, 3) := by decide +kernel
theorem dX6_loadOf_64 : decode cX6_loadOf 64 = .ok (.iload 4, 2) := by decide +kernel
theorem dX6_loadOf_66 : decode cX6_loadOf 66 = .ok (.iload_n 2, 1) := by decide +kernel
theorem dX6_loadOf_67 : decode cX6_loadOf 67 = .ok (.if_icmp .le 8, 3) := by decide +kernel
theorem dX6_loadOf_70 : decode cX6_loadOf 70 = .ok (.iload 4, 2) := by decide +kernel
theorem dX6_loadOf_72 : decode cX6_loadOf 72 = .ok (.goto 4, 3) := by decide +kernel
theorem dX6_loadOf_75 : decode cX6_loadOf 75 = .ok (.iload_n 2, 1) := by decide +kernel
theorem dX6_loadOf_76 : decode cX6_loadOf 76 = .ok (.istore_n 2, 1) := by decide +kernel
theorem dX6_loadOf_77 : decode cX6_loadOf 77 = .ok (.iinc 3 1, 3) := by decide +kernel
theorem dX6_loadOf_80 : decode cX6_loadOf 80 = .ok (.goto (-61), 3) := by decide +kernel
theorem dX6_loadOf_83 : decode cX6_loadOf 83 = .ok (.iload_n 2, 1) := by decide +kernel
theorem dX6_loadOf_84 : decode cX6_loadOf 84 = .ok (.ireturn, 1) := by decide +kernel
theorem dX6_room_0 : decode cX6_room 0 = .ok (.aload_n 0, 1) := by decide +kernel
theorem dX6_room_1 : decode cX6_room 1 = .ok (.getfield 113, 3) := by decide +kernel
theorem dX6_room_4 : decode cX6_room 4 = .ok (.iconst 2, 1) := by decide +kernel
theorem dX6_room_5 : decode cX6_room 5 = .ok (.if_icmp .ne 31, 3) := by decide +kernel
theorem dX6_room_8 : decode cX6_room 8 = .ok (.aload_n 0, 1) := by decide +kernel
theorem dX6_room_9 : decode cX6_room 9 = .ok (.getfield 28, 3) := by decide +kernel
theorem dX6_room_12 : decode cX6_room 12 = .ok (.aload_n 0, 1) := by decide +kernel
theorem dX6_room_13 : decode cX6_room 13 = .ok (.getfield 13, 3) := by decide +kernel
theorem dX6_room_16 : decode cX6_room 16 = .ok (.iconst 0, 1) := by decide +kernel
theorem dX6_room_17 : decode cX6_room 17 = .ok (.iaload, 1) := by decide +kernel
theorem dX6_room_18 : decode cX6_room 18 = .ok (.aload_n 0, 1) := by decide +kernel
theorem dX6_room_19 : decode cX6_room 19 = .ok (.getfield 13, 3) := by decide +kernel
theorem dX6_room_22 : decode cX6_room 22 = .ok (.iconst 1, 1) := by decide +kernel
theorem dX6_room_23 : decode cX6_room 23 = .ok (.iaload, 1) := by decide +kernel
theorem dX6_room_24 : decode cX6_room 24 = .ok (.iadd, 1) := by decide +kernel
theorem dX6_room_25 : decode cX6_room 25 = .ok (.aload_n 0, 1) := by decide +kernel
theorem dX6_room_26 : decode cX6_room 26 = .ok (.getfield 13, 3) := by decide +kernel
theorem dX6_room_29 : decode cX6_room 29 = .ok (.iconst 2, 1) := by decide +kernel
theorem dX6_room_30 : decode cX6_room 30 = .ok (.iaload, 1) := by decide +kernel
theorem dX6_room_31 : decode cX6_room 31 = .ok (.iadd, 1) := by decide +kernel
theorem dX6_room_32 : decode cX6_room 32 = .ok (.imul, 1) := by decide +kernel
theorem dX6_room_33 : decode cX6_room 33 = .ok (.goto 7, 3) := by decide +kernel
theorem dX6_room_36 : decode cX6_room 36 = .ok (.aload_n 0, 1) := by decide +kernel
theorem dX6_room_37 : decode cX6_room 37 = .ok (.getfield 28, 3) := by decide +kernel
theorem dX6_room_40 : decode cX6_room 40 = .ok (.ireturn, 1) := by decide +kernel
set_option maxRecDepth 20000 in
set_option maxRecDepth 20000 in
theorem ggX6_of_X6_isTask : GoodIn wsX6_of wsX6_isTask := goodIn_r _ [9, 10, 32, 33, 34, 35, 36, 37, 38, 39, 40, 41, 42, 43, 44, 45, 46, 47, 48, 49, 50, 51, 52, 53, 54, 55, 56, 57, 58, 59, 60] rfl (by decide +kernel)
set_option maxRecDepth 20000 in
theorem gX6_of_X6_isTask : GoodIn wsX6_of (wsV RX6 88 RX6 yX6_isTask wsX6_isTask) := goodIn_app (goodIn_of _ (by decide +kernel)) ggX6_of_X6_isTask
set_option maxRecDepth 20000 in
set_option maxRecDepth 20000 in
theorem ggX6_of_X6_leading : GoodIn wsX6_of wsX6_leading := goodIn_r _ [14, 1, 10, 15, 16, 8, 17, 32, 33, 34, 35, 36, 37, 38, 39, 40, 41, 42, 43, 44, 45, 46, 47, 48, 49, 50, 51, 52, 53, 54, 55, 56, 57, 58, 59, 60] rfl (by decide +kernel)
set_option maxRecDepth 20000 in
theorem gX6_of_X6_leading : GoodIn wsX6_of (wsV RX6 99 RX6 yX6_leading wsX6_leading) := goodIn_app (goodIn_of _ (by decide +kernel)) ggX6_of_X6_leading
set_option maxRecDepth 20000 in
set_option maxRecDepth 20000 in
theorem ggX6_of_X6_following : GoodIn wsX6_of wsX6_following := goodIn_r _ [21, 10, 11, 12, 13, 8, 14, 1, 15, 16, 17, 32, 33, 34, 35, 36, 37, 38, 39, 40, 41, 42, 43, 44, 45, 46, 47, 48, 49, 50, 51, 52, 53, 54, 55, 56, 57, 58, 59, 60] rfl (by decide +kernel)
set_option maxRecDepth 20000 in
theorem gX6_of_X6_following : GoodIn wsX6_of (wsV RX6 120 RX6 yX6_following wsX6_following) := goodIn_app (goodIn_of _ (by decide +kernel)) ggX6_of_X6_following
set_option maxRecDepth 20000 in
set_option maxRecDepth 20000 in
theorem ggX6_of_X6_loadOf : GoodIn wsX6_of wsX6_loadOf := goodIn_r _ [25, 26, 27, 28, 29, 30, 8, 31, 10, 4, 15, 16, 17, 32, 33, 34, 35, 36, 37, 38, 39, 40, 41, 42, 43, 44, 45, 46, 47, 48, 49, 50, 51, 52, 53, 54, 55, 56, 57, 58, 59, 60] rfl (by decide +kernel)
set_option maxRecDepth 20000 in
theorem gX6_of_X6_loadOf : GoodIn wsX6_of (wsV RX6 123 RX6 yX6_loadOf wsX6_loadOf) := goodIn_app (goodIn_of _ (by decide +kernel)) ggX6_of_X6_loadOf
theorem dX6_of_0 : decode cX6_of 0 = .ok (.aload_n 0, 1) := by decide +kernel
theorem dX6_of_1 : decode cX6_of 1 = .ok (.iload_n 1, 1) := by decide +kernel
theorem dX6_of_2 : decode cX6_of 2 = .ok (.invokevirtual 88, 3) := by decide +kernel
theorem dX6_of_5 : decode cX6_of 5 = .ok (.ifCond .eq 13, 3) := by decide +kernel
theorem dX6_of_8 : decode cX6_of 8 = .ok (.iload_n 2, 1) := by decide +kernel
theorem dX6_of_9 : decode cX6_of 9 = .ok (.ifCond .lt 9, 3) := by decide +kernel
theorem dX6_of_12 : decode cX6_of 12 = .ok (.iload_n 2, 1) := by decide +kernel
theorem dX6_of_13 : decode cX6_of 13 = .ok (.bipush 8, 2) := by decide +kernel
theorem dX6_of_15 : decode cX6_of 15 = .ok (.if_icmp .le 6, 3) := by decide +kernel
theorem dX6_of_18 : decode cX6_of 18 = .ok (.bipush (-2), 2) := by decide +kernel
theorem dX6_of_20 : decode cX6_of 20 = .ok (.ireturn, 1) := by decide +kernel
theorem dX6_of_21 : decode cX6_of 21 = .ok (.iload_n 2, 1) := by decide +kernel
theorem dX6_of_22 : decode cX6_of 22 = .ok (.tableswitch 79 3 8 #[38, 45, 51, 57, 64, 71], 38) := by decide +kernel
theorem dX6_of_60 : decode cX6_of 60 = .ok (.aload_n 0, 1) := by decide +kernel
theorem dX6_of_61 : decode cX6_of 61 = .ok (.getfield 16, 3) := by decide +kernel
theorem dX6_of_64 : decode cX6_of 64 = .ok (.iload_n 1, 1) := by decide +kernel
theorem dX6_of_65 : decode cX6_of 65 = .ok (.iaload, 1) := by decide +kernel
theorem dX6_of_66 : decode cX6_of 66 = .ok (.ireturn, 1) := by decide +kernel
theorem dX6_of_67 : decode cX6_of 67 = .ok (.aload_n 0, 1) := by decide +kernel
theorem dX6_of_68 : decode cX6_of 68 = .ok (.iload_n 1, 1) := by decide +kernel
theorem dX6_of_69 : decode cX6_of 69 = .ok (.invokevirtual 99, 3) := by decide +kernel
theorem dX6_of_72 : decode cX6_of 72 = .ok (.ireturn, 1) := by decide +kernel
theorem dX6_of_73 : decode cX6_of 73 = .ok (.aload_n 0, 1) := by decide +kernel
theorem dX6_of_74 : decode cX6_of 74 = .ok (.iload_n 1, 1) := by decide +kernel
theorem dX6_of_75 : decode cX6_of 75 = .ok (.invokevirtual 120, 3) := by decide +kernel
theorem dX6_of_78 : decode cX6_of 78 = .ok (.ireturn, 1) := by decide +kernel
theorem dX6_of_79 : decode cX6_of 79 = .ok (.aload_n 0, 1) := by decide +kernel
theorem dX6_of_80 : decode cX6_of 80 = .ok (.getfield 22, 3) := by decide +kernel
theorem dX6_of_83 : decode cX6_of 83 = .ok (.iload_n 1, 1) := by decide +kernel
theorem dX6_of_84 : decode cX6_of 84 = .ok (.iaload, 1) := by decide +kernel
theorem dX6_of_85 : decode cX6_of 85 = .ok (.ireturn, 1) := by decide +kernel
theorem dX6_of_86 : decode cX6_of 86 = .ok (.aload_n 0, 1) := by decide +kernel
theorem dX6_of_87 : decode cX6_of 87 = .ok (.getfield 25, 3) := by decide +kernel
theorem dX6_of_90 : decode cX6_of 90 = .ok (.iload_n 1, 1) := by decide +kernel
theorem dX6_of_91 : decode cX6_of 91 = .ok (.iaload, 1) := by decide +kernel
theorem dX6_of_92 : decode cX6_of 92 = .ok (.ireturn, 1) := by decide +kernel
theorem dX6_of_93 : decode cX6_of 93 = .ok (.aload_n 0, 1) := by decide +kernel
theorem dX6_of_94 : decode cX6_of 94 = .ok (.iconst 1, 1) := by decide +kernel
theorem dX6_of_95 : decode cX6_of 95 = .ok (.iload_n 1, 1) := by decide +kernel
theorem dX6_of_96 : decode cX6_of 96 = .ok (.ishl, 1) := by decide +kernel
theorem dX6_of_97 : decode cX6_of 97 = .ok (.invokevirtual 123, 3) := by decide +kernel
theorem dX6_of_100 : decode cX6_of 100 = .ok (.ireturn, 1) := by decide +kernel
theorem dX6_of_101 : decode cX6_of 101 = .ok (.aload_n 0, 1) := by decide +kernel
theorem dX6_of_102 : decode cX6_of 102 = .ok (.getfield 7, 3) := by decide +kernel
theorem dX6_of_105 : decode cX6_of 105 = .ok (.iconst 3, 1) := by decide +kernel
theorem dX6_of_106 : decode cX6_of 106 = .ok (.iload_n 1, 1) := by decide +kernel
theorem dX6_of_107 : decode cX6_of 107 = .ok (.imul, 1) := by decide +kernel
theorem dX6_of_108 : decode cX6_of 108 = .ok (.iload_n 2, 1) := by decide +kernel
theorem dX6_of_109 : decode cX6_of 109 = .ok (.iadd, 1) := by decide +kernel
theorem dX6_of_110 : decode cX6_of 110 = .ok (.iaload, 1) := by decide +kernel
theorem dX6_of_111 : decode cX6_of 111 = .ok (.ireturn, 1) := by decide +kernel
set_option maxRecDepth 20000 in
set_option maxRecDepth 20000 in
theorem ggX6_put_X6_isTask : GoodIn wsX6_put wsX6_isTask := goodIn_r _ [6, 7, 11, 12, 13, 14, 15, 16, 17, 18, 19, 20, 21, 22, 23, 24, 25, 26, 27, 28, 29, 30, 31, 32, 33, 34, 35, 36, 37, 38, 39] rfl (by decide +kernel)
set_option maxRecDepth 20000 in
theorem gX6_put_X6_isTask : GoodIn wsX6_put (wsV RX6 88 RX6 yX6_isTask wsX6_isTask) := goodIn_app (goodIn_of _ (by decide +kernel)) ggX6_put_X6_isTask
set_option maxRecDepth 20000 in
set_option maxRecDepth 20000 in
theorem ggX6_put_X6_isStation : GoodIn wsX6_put wsX6_isStation := goodIn_r _ [10] rfl (by decide +kernel)
set_option maxRecDepth 20000 in
theorem gX6_put_X6_isStation : GoodIn wsX6_put (va_wsS RX6 110 yX6_isStation wsX6_isStation) := goodIn_app (goodIn_of _ (by decide +kernel)) ggX6_put_X6_isStation
theorem dX6_put_0 : decode cX6_put 0 = .ok (.aload_n 0, 1) := by decide +kernel
theorem dX6_put_1 : decode cX6_put 1 = .ok (.iload_n 1, 1) := by decide +kernel
theorem dX6_put_2 : decode cX6_put 2 = .ok (.invokevirtual 88, 3) := by decide +kernel
theorem dX6_put_5 : decode cX6_put 5 = .ok (.ifCond .eq 10, 3) := by decide +kernel
theorem dX6_put_8 : decode cX6_put 8 = .ok (.iload_n 2, 1) := by decide +kernel
theorem dX6_put_9 : decode cX6_put 9 = .ok (.invokestatic 110, 3) := by decide +kernel
theorem dX6_put_12 : decode cX6_put 12 = .ok (.ifCond .ne 6, 3) := by decide +kernel
theorem dX6_put_15 : decode cX6_put 15 = .ok (.bipush (-2), 2) := by decide +kernel
theorem dX6_put_17 : decode cX6_put 17 = .ok (.ireturn, 1) := by decide +kernel
theorem dX6_put_18 : decode cX6_put 18 = .ok (.aload_n 0, 1) := by decide +kernel
theorem dX6_put_19 : decode cX6_put 19 = .ok (.getfield 25, 3) := by decide +kernel
theorem dX6_put_22 : decode cX6_put 22 = .ok (.iload_n 1, 1) := by decide +kernel
theorem dX6_put_23 : decode cX6_put 23 = .ok (.iaload, 1) := by decide +kernel
theorem dX6_put_24 : decode cX6_put 24 = .ok (.istore_n 3, 1) := by decide +kernel
theorem dX6_put_25 : decode cX6_put 25 = .ok (.aload_n 0, 1) := by decide +kernel
theorem dX6_put_26 : decode cX6_put 26 = .ok (.getfield 25, 3) := by decide +kernel
theorem dX6_put_29 : decode cX6_put 29 = .ok (.iload_n 1, 1) := by decide +kernel
theorem dX6_put_30 : decode cX6_put 30 = .ok (.iload_n 2, 1) := by decide +kernel
theorem dX6_put_31 : decode cX6_put 31 = .ok (.iastore, 1) := by decide +kernel
theorem dX6_put_32 : decode cX6_put 32 = .ok (.iload_n 3, 1) := by decide +kernel
theorem dX6_put_33 : decode cX6_put 33 = .ok (.ireturn, 1) := by decide +kernel
theorem dX6_setAt_0 : decode cX6_setAt 0 = .ok (.iconst 0, 1) := by decide +kernel
theorem dX6_setAt_1 : decode cX6_setAt 1 = .ok (.istore_n 3, 1) := by decide +kernel
theorem dX6_setAt_2 : decode cX6_setAt 2 = .ok (.iconst 0, 1) := by decide +kernel
theorem dX6_setAt_3 : decode cX6_setAt 3 = .ok (.istore 4, 2) := by decide +kernel
theorem dX6_setAt_5 : decode cX6_setAt 5 = .ok (.iload 4, 2) := by decide +kernel
theorem dX6_setAt_7 : decode cX6_setAt 7 = .ok (.aload_n 0, 1) := by decide +kernel
theorem dX6_setAt_8 : decode cX6_setAt 8 = .ok (.getfield 85, 3) := by decide +kernel
theorem dX6_setAt_11 : decode cX6_setAt 11 = .ok (.if_icmp .ge 28, 3) := by decide +kernel
theorem dX6_setAt_14 : decode cX6_setAt 14 = .ok (.iload_n 3, 1) := by decide +kernel
theorem dX6_setAt_15 : decode cX6_setAt 15 = .ok (.aload_n 1, 1) := by decide +kernel
theorem dX6_setAt_16 : decode cX6_setAt 16 = .ok (.iload 4, 2) := by decide +kernel
theorem dX6_setAt_18 : decode cX6_setAt 18 = .ok (.iaload, 1) := by decide +kernel
theorem dX6_setAt_19 : decode cX6_setAt 19 = .ok (.iload_n 2, 1) := by decide +kernel
theorem dX6_setAt_20 : decode cX6_setAt 20 = .ok (.if_icmp .ne 10, 3) := by decide +kernel
theorem dX6_setAt_23 : decode cX6_setAt 23 = .ok (.iconst 1, 1) := by decide +kernel
theorem dX6_setAt_24 : decode cX6_setAt 24 = .ok (.iload 4, 2) := by decide +kernel
theorem dX6_setAt_26 : decode cX6_setAt 26 = .ok (.ishl, 1) := by decide +kernel
theorem dX6_setAt_27 : decode cX6_setAt 27 = .ok (.goto 4, 3) := by decide +kernel
theorem dX6_setAt_30 : decode cX6_setAt 30 = .ok (.iconst 0, 1) := by decide +kernel
theorem dX6_setAt_31 : decode cX6_setAt 31 = .ok (.ior, 1) := by decide +kernel
theorem dX6_setAt_32 : decode cX6_setAt 32 = .ok (.istore_n 3, 1) := by decide +kernel
theorem dX6_setAt_33 : decode cX6_setAt 33 = .ok (.iinc 4 1, 3) := by decide +kernel
theorem dX6_setAt_36 : decode cX6_setAt 36 = .ok (.goto (-31), 3) := by decide +kernel
theorem dX6_setAt_39 : decode cX6_setAt 39 = .ok (.iload_n 3, 1) := by decide +kernel
theorem dX6_setAt_40 : decode cX6_setAt 40 = .ok (.ireturn, 1) := by decide +kernel
set_option maxRecDepth 20000 in
set_option maxRecDepth 20000 in
theorem ggX6_areUpTo_X6_in : GoodIn wsX6_areUpTo wsX6_in := goodIn_r _ [5] rfl (by decide +kernel)
set_option maxRecDepth 20000 in
theorem gX6_areUpTo_X6_in : GoodIn wsX6_areUpTo (va_wsS RX6 95 yX6_in wsX6_in) := goodIn_app (goodIn_of _ (by decide +kernel)) ggX6_areUpTo_X6_in
theorem dX6_areUpTo_0 : decode cX6_areUpTo 0 = .ok (.iconst 1, 1) := by decide +kernel
theorem dX6_areUpTo_1 : decode cX6_areUpTo 1 = .ok (.istore 4, 2) := by decide +kernel
theorem dX6_areUpTo_3 : decode cX6_areUpTo 3 = .ok (.iconst 0, 1) := by decide +kernel
theorem dX6_areUpTo_4 : decode cX6_areUpTo 4 = .ok (.istore 5, 2) := by decide +kernel
theorem dX6_areUpTo_6 : decode cX6_areUpTo 6 = .ok (.iload 5, 2) := by decide +kernel
theorem dX6_areUpTo_8 : decode cX6_areUpTo 8 = .ok (.aload_n 0, 1) := by decide +kernel
theorem dX6_areUpTo_9 : decode cX6_areUpTo 9 = .ok (.getfield 85, 3) := by decide +kernel
theorem dX6_areUpTo_12 : decode cX6_areUpTo 12 = .ok (.if_icmp .ge 43, 3) := by decide +kernel
theorem dX6_areUpTo_15 : decode cX6_areUpTo 15 = .ok (.iload 4, 2) := by decide +kernel
theorem dX6_areUpTo_17 : decode cX6_areUpTo 17 = .ok (.iload_n 2, 1) := by decide +kernel
theorem dX6_areUpTo_18 : decode cX6_areUpTo 18 = .ok (.iload 5, 2) := by decide +kernel
theorem dX6_areUpTo_20 : decode cX6_areUpTo 20 = .ok (.invokestatic 95, 3) := by decide +kernel
theorem dX6_areUpTo_23 : decode cX6_areUpTo 23 = .ok (.ifCond .eq 18, 3) := by decide +kernel
theorem dX6_areUpTo_26 : decode cX6_areUpTo 26 = .ok (.aload_n 1, 1) := by decide +kernel
theorem dX6_areUpTo_27 : decode cX6_areUpTo 27 = .ok (.iload 5, 2) := by decide +kernel
theorem dX6_areUpTo_29 : decode cX6_areUpTo 29 = .ok (.iaload, 1) := by decide +kernel
theorem dX6_areUpTo_30 : decode cX6_areUpTo 30 = .ok (.ifCond .le 15, 3) := by decide +kernel
theorem dX6_areUpTo_33 : decode cX6_areUpTo 33 = .ok (.aload_n 1, 1) := by decide +kernel
theorem dX6_areUpTo_34 : decode cX6_areUpTo 34 = .ok (.iload 5, 2) := by decide +kernel
theorem dX6_areUpTo_36 : decode cX6_areUpTo 36 = .ok (.iaload, 1) := by decide +kernel
theorem dX6_areUpTo_37 : decode cX6_areUpTo 37 = .ok (.iload_n 3, 1) := by decide +kernel
theorem dX6_areUpTo_38 : decode cX6_areUpTo 38 = .ok (.if_icmp .gt 7, 3) := by decide +kernel
theorem dX6_areUpTo_41 : decode cX6_areUpTo 41 = .ok (.iconst 1, 1) := by decide +kernel
theorem dX6_areUpTo_42 : decode cX6_areUpTo 42 = .ok (.goto 4, 3) := by decide +kernel
theorem dX6_areUpTo_45 : decode cX6_areUpTo 45 = .ok (.iconst 0, 1) := by decide +kernel
theorem dX6_areUpTo_46 : decode cX6_areUpTo 46 = .ok (.iand, 1) := by decide +kernel
theorem dX6_areUpTo_47 : decode cX6_areUpTo 47 = .ok (.istore 4, 2) := by decide +kernel
theorem dX6_areUpTo_49 : decode cX6_areUpTo 49 = .ok (.iinc 5 1, 3) := by decide +kernel
theorem dX6_areUpTo_52 : decode cX6_areUpTo 52 = .ok (.goto (-46), 3) := by decide +kernel
theorem dX6_areUpTo_55 : decode cX6_areUpTo 55 = .ok (.iload 4, 2) := by decide +kernel
theorem dX6_areUpTo_57 : decode cX6_areUpTo 57 = .ok (.ireturn, 1) := by decide +kernel
set_option maxRecDepth 20000 in
set_option maxRecDepth 20000 in
theorem ggX6_causeIn_X6_setAt : GoodIn wsX6_causeIn wsX6_setAt := goodIn_r _ [9, 1, 41, 42, 43, 44, 45, 46, 47, 48, 49, 50, 51, 52, 53, 54, 55, 56, 57, 58, 59, 60, 61, 62, 63, 64, 65, 66, 67, 68, 69] rfl (by decide +kernel)
set_option maxRecDepth 20000 in
theorem gX6_causeIn_X6_setAt : GoodIn wsX6_causeIn (wsV RX6 126 RX6 yX6_setAt wsX6_setAt) := goodIn_app (goodIn_of _ (by decide +kernel)) ggX6_causeIn_X6_setAt
set_option maxRecDepth 20000 in
set_option maxRecDepth 20000 in
theorem ggX6_causeIn_X6_loadOf : GoodIn wsX6_causeIn wsX6_loadOf := goodIn_r _ [13, 4, 14, 15, 16, 17, 8, 18, 1, 19, 20, 21, 22, 41, 42, 43, 44, 45, 46, 47, 48, 49, 50, 51, 52, 53, 54, 55, 56, 57, 58, 59, 60, 61, 62, 63, 64, 65, 66, 67, 68, 69] rfl (by decide +kernel)
set_option maxRecDepth 20000 in
theorem gX6_causeIn_X6_loadOf : GoodIn wsX6_causeIn (wsV RX6 123 RX6 yX6_loadOf wsX6_loadOf) := goodIn_app (goodIn_of _ (by decide +kernel)) ggX6_causeIn_X6_loadOf
set_option maxRecDepth 20000 in
set_option maxRecDepth 20000 in
theorem ggX6_causeIn_X6_room : GoodIn wsX6_causeIn wsX6_room := goodIn_r _ [26, 4, 27, 14, 41, 42, 43, 44, 45, 46, 47, 48, 49, 50, 51, 52, 53, 54, 55, 56, 57, 58, 59, 60, 61, 62, 63, 64, 65, 66, 67, 68, 69] rfl (by decide +kernel)
set_option maxRecDepth 20000 in
theorem gX6_causeIn_X6_room : GoodIn wsX6_causeIn (wsV RX6 130 RX6 yX6_room wsX6_room) := goodIn_app (goodIn_of _ (by decide +kernel)) ggX6_causeIn_X6_room
set_option maxRecDepth 20000 in
set_option maxRecDepth 20000 in
theorem ggX6_causeIn_X6_leading : GoodIn wsX6_causeIn wsX6_leading := goodIn_r _ [31, 32, 1, 20, 21, 8, 22, 41, 42, 43, 44, 45, 46, 47, 48, 49, 50, 51, 52, 53, 54, 55, 56, 57, 58, 59, 60, 61, 62, 63, 64, 65, 66, 67, 68, 69] rfl (by decide +kernel)
set_option maxRecDepth 20000 in
theorem gX6_causeIn_X6_leading : GoodIn wsX6_causeIn (wsV RX6 99 RX6 yX6_leading wsX6_leading) := goodIn_app (goodIn_of _ (by decide +kernel)) ggX6_causeIn_X6_leading
set_option maxRecDepth 20000 in
set_option maxRecDepth 20000 in
theorem ggX6_causeIn_X6_areUpTo : GoodIn wsX6_causeIn wsX6_areUpTo := goodIn_r _ [36, 1, 20, 21, 8, 22, 41, 42, 43, 44, 45, 46, 47, 48, 49, 50, 51, 52, 53, 54, 55, 56, 57, 58, 59, 60, 61, 62, 63, 64, 65, 66, 67, 68, 69] rfl (by decide +kernel)
set_option maxRecDepth 20000 in
theorem gX6_causeIn_X6_areUpTo : GoodIn wsX6_causeIn (wsV RX6 134 RX6 yX6_areUpTo wsX6_areUpTo) := goodIn_app (goodIn_of _ (by decide +kernel)) ggX6_causeIn_X6_areUpTo
set_option maxRecDepth 20000 in
set_option maxRecDepth 20000 in
theorem ggX6_causeIn_X6_following : GoodIn wsX6_causeIn wsX6_following := goodIn_r _ [40, 1, 28, 29, 30, 8, 31, 32, 20, 21, 22, 41, 42, 43, 44, 45, 46, 47, 48, 49, 50, 51, 52, 53, 54, 55, 56, 57, 58, 59, 60, 61, 62, 63, 64, 65, 66, 67, 68, 69] rfl (by decide +kernel)
set_option maxRecDepth 20000 in
theorem gX6_causeIn_X6_following : GoodIn wsX6_causeIn (wsV RX6 120 RX6 yX6_following wsX6_following) := goodIn_app (goodIn_of _ (by decide +kernel)) ggX6_causeIn_X6_following
theorem dX6_causeIn_0 : decode cX6_causeIn 0 = .ok (.aload_n 1, 1) := by decide +kernel
theorem dX6_causeIn_1 : decode cX6_causeIn 1 = .ok (.iload_n 2, 1) := by decide +kernel
theorem dX6_causeIn_2 : decode cX6_causeIn 2 = .ok (.iaload, 1) := by decide +kernel
theorem dX6_causeIn_3 : decode cX6_causeIn 3 = .ok (.istore_n 3, 1) := by decide +kernel
theorem dX6_causeIn_4 : decode cX6_causeIn 4 = .ok (.iload_n 3, 1) := by decide +kernel
theorem dX6_causeIn_5 : decode cX6_causeIn 5 = .ok (.ifCond .ne 5, 3) := by decide +kernel
theorem dX6_causeIn_8 : decode cX6_causeIn 8 = .ok (.iconst 1, 1) := by decide +kernel
theorem dX6_causeIn_9 : decode cX6_causeIn 9 = .ok (.ireturn, 1) := by decide +kernel
theorem dX6_causeIn_10 : decode cX6_causeIn 10 = .ok (.aload_n 0, 1) := by decide +kernel
theorem dX6_causeIn_11 : decode cX6_causeIn 11 = .ok (.aload_n 0, 1) := by decide +kernel
theorem dX6_causeIn_12 : decode cX6_causeIn 12 = .ok (.aload_n 1, 1) := by decide +kernel
theorem dX6_causeIn_13 : decode cX6_causeIn 13 = .ok (.iload_n 3, 1) := by decide +kernel
theorem dX6_causeIn_14 : decode cX6_causeIn 14 = .ok (.invokevirtual 126, 3) := by decide +kernel
theorem dX6_causeIn_17 : decode cX6_causeIn 17 = .ok (.invokevirtual 123, 3) := by decide +kernel
theorem dX6_causeIn_20 : decode cX6_causeIn 20 = .ok (.aload_n 0, 1) := by decide +kernel
theorem dX6_causeIn_21 : decode cX6_causeIn 21 = .ok (.invokevirtual 130, 3) := by decide +kernel
theorem dX6_causeIn_24 : decode cX6_causeIn 24 = .ok (.if_icmp .le 5, 3) := by decide +kernel
theorem dX6_causeIn_27 : decode cX6_causeIn 27 = .ok (.iconst 2, 1) := by decide +kernel
theorem dX6_causeIn_28 : decode cX6_causeIn 28 = .ok (.ireturn, 1) := by decide +kernel
theorem dX6_causeIn_29 : decode cX6_causeIn 29 = .ok (.iconst 0, 1) := by decide +kernel
theorem dX6_causeIn_30 : decode cX6_causeIn 30 = .ok (.istore 4, 2) := by decide +kernel
theorem dX6_causeIn_32 : decode cX6_causeIn 32 = .ok (.iconst 0, 1) := by decide +kernel
theorem dX6_causeIn_33 : decode cX6_causeIn 33 = .ok (.istore 5, 2) := by decide +kernel
theorem dX6_causeIn_35 : decode cX6_causeIn 35 = .ok (.iconst 0, 1) := by decide +kernel
theorem dX6_causeIn_36 : decode cX6_causeIn 36 = .ok (.istore 6, 2) := by decide +kernel
theorem dX6_causeIn_38 : decode cX6_causeIn 38 = .ok (.iload 6, 2) := by decide +kernel
theorem dX6_causeIn_40 : decode cX6_causeIn 40 = .ok (.aload_n 0, 1) := by decide +kernel
theorem dX6_causeIn_41 : decode cX6_causeIn 41 = .ok (.getfield 85, 3) := by decide +kernel
theorem dX6_causeIn_44 : decode cX6_causeIn 44 = .ok (.if_icmp .ge 89, 3) := by decide +kernel
theorem dX6_causeIn_47 : decode cX6_causeIn 47 = .ok (.iload 4, 2) := by decide +kernel
theorem dX6_causeIn_49 : decode cX6_causeIn 49 = .ok (.iload 6, 2) := by decide +kernel
theorem dX6_causeIn_51 : decode cX6_causeIn 51 = .ok (.iload_n 2, 1) := by decide +kernel
theorem dX6_causeIn_52 : decode cX6_causeIn 52 = .ok (.if_icmp .eq 31, 3) := by decide +kernel
theorem dX6_causeIn_55 : decode cX6_causeIn 55 = .ok (.aload_n 0, 1) := by decide +kernel
theorem dX6_causeIn_56 : decode cX6_causeIn 56 = .ok (.getfield 19, 3) := by decide +kernel
theorem dX6_causeIn_59 : decode cX6_causeIn 59 = .ok (.bipush 10, 2) := by decide +kernel
theorem dX6_causeIn_61 : decode cX6_causeIn 61 = .ok (.iload_n 2, 1) := by decide +kernel
theorem dX6_causeIn_62 : decode cX6_causeIn 62 = .ok (.imul, 1) := by decide +kernel
theorem dX6_causeIn_63 : decode cX6_causeIn 63 = .ok (.iload 6, 2) := by decide +kernel
theorem dX6_causeIn_65 : decode cX6_causeIn 65 = .ok (.iadd, 1) := by decide +kernel
theorem dX6_causeIn_66 : decode cX6_causeIn 66 = .ok (.iaload, 1) := by decide +kernel
theorem dX6_causeIn_67 : decode cX6_causeIn 67 = .ok (.iconst 1, 1) := by decide +kernel
theorem dX6_causeIn_68 : decode cX6_causeIn 68 = .ok (.if_icmp .ne 15, 3) := by decide +kernel
theorem dX6_causeIn_71 : decode cX6_causeIn 71 = .ok (.aload_n 1, 1) := by decide +kernel
theorem dX6_causeIn_72 : decode cX6_causeIn 72 = .ok (.iload 6, 2) := by decide +kernel
theorem dX6_causeIn_74 : decode cX6_causeIn 74 = .ok (.iaload, 1) := by decide +kernel
theorem dX6_causeIn_75 : decode cX6_causeIn 75 = .ok (.iload_n 3, 1) := by decide +kernel
theorem dX6_causeIn_76 : decode cX6_causeIn 76 = .ok (.if_icmp .eq 7, 3) := by decide +kernel
theorem dX6_causeIn_79 : decode cX6_causeIn 79 = .ok (.iconst 1, 1) := by decide +kernel
theorem dX6_causeIn_80 : decode cX6_causeIn 80 = .ok (.goto 4, 3) := by decide +kernel
theorem dX6_causeIn_83 : decode cX6_causeIn 83 = .ok (.iconst 0, 1) := by decide +kernel
theorem dX6_causeIn_84 : decode cX6_causeIn 84 = .ok (.ior, 1) := by decide +kernel
theorem dX6_causeIn_85 : decode cX6_causeIn 85 = .ok (.istore 4, 2) := by decide +kernel
theorem dX6_causeIn_87 : decode cX6_causeIn 87 = .ok (.iload 5, 2) := by decide +kernel
theorem dX6_causeIn_89 : decode cX6_causeIn 89 = .ok (.iload 6, 2) := by decide +kernel
theorem dX6_causeIn_91 : decode cX6_causeIn 91 = .ok (.iload_n 2, 1) := by decide +kernel
theorem dX6_causeIn_92 : decode cX6_causeIn 92 = .ok (.if_icmp .eq 31, 3) := by decide +kernel
theorem dX6_causeIn_95 : decode cX6_causeIn 95 = .ok (.aload_n 0, 1) := by decide +kernel
theorem dX6_causeIn_96 : decode cX6_causeIn 96 = .ok (.getfield 19, 3) := by decide +kernel
theorem dX6_causeIn_99 : decode cX6_causeIn 99 = .ok (.bipush 10, 2) := by decide +kernel
theorem dX6_causeIn_101 : decode cX6_causeIn 101 = .ok (.iload_n 2, 1) := by decide +kernel
theorem dX6_causeIn_102 : decode cX6_causeIn 102 = .ok (.imul, 1) := by decide +kernel
theorem dX6_causeIn_103 : decode cX6_causeIn 103 = .ok (.iload 6, 2) := by decide +kernel
theorem dX6_causeIn_105 : decode cX6_causeIn 105 = .ok (.iadd, 1) := by decide +kernel
theorem dX6_causeIn_106 : decode cX6_causeIn 106 = .ok (.iaload, 1) := by decide +kernel
theorem dX6_causeIn_107 : decode cX6_causeIn 107 = .ok (.iconst 2, 1) := by decide +kernel
theorem dX6_causeIn_108 : decode cX6_causeIn 108 = .ok (.if_icmp .ne 15, 3) := by decide +kernel
theorem dX6_causeIn_111 : decode cX6_causeIn 111 = .ok (.aload_n 1, 1) := by decide +kernel
theorem dX6_causeIn_112 : decode cX6_causeIn 112 = .ok (.iload 6, 2) := by decide +kernel
theorem dX6_causeIn_114 : decode cX6_causeIn 114 = .ok (.iaload, 1) := by decide +kernel
theorem dX6_causeIn_115 : decode cX6_causeIn 115 = .ok (.iload_n 3, 1) := by decide +kernel
theorem dX6_causeIn_116 : decode cX6_causeIn 116 = .ok (.if_icmp .ne 7, 3) := by decide +kernel
theorem dX6_causeIn_119 : decode cX6_causeIn 119 = .ok (.iconst 1, 1) := by decide +kernel
theorem dX6_causeIn_120 : decode cX6_causeIn 120 = .ok (.goto 4, 3) := by decide +kernel
theorem dX6_causeIn_123 : decode cX6_causeIn 123 = .ok (.iconst 0, 1) := by decide +kernel
theorem dX6_causeIn_124 : decode cX6_causeIn 124 = .ok (.ior, 1) := by decide +kernel
theorem dX6_causeIn_125 : decode cX6_causeIn 125 = .ok (.istore 5, 2) := by decide +kernel
theorem dX6_causeIn_127 : decode cX6_causeIn 127 = .ok (.iinc 6 1, 3) := by decide +kernel
theorem dX6_causeIn_130 : decode cX6_causeIn 130 = .ok (.goto (-92), 3) := by decide +kernel
theorem dX6_causeIn_133 : decode cX6_causeIn 133 = .ok (.iload 4, 2) := by decide +kernel
theorem dX6_causeIn_135 : decode cX6_causeIn 135 = .ok (.ifCond .ne 8, 3) := by decide +kernel
theorem dX6_causeIn_138 : decode cX6_causeIn 138 = .ok (.iload 5, 2) := by decide +kernel
theorem dX6_causeIn_140 : decode cX6_causeIn 140 = .ok (.ifCond .eq 14, 3) := by decide +kernel
theorem dX6_causeIn_143 : decode cX6_causeIn 143 = .ok (.iload 4, 2) := by decide +kernel
theorem dX6_causeIn_145 : decode cX6_causeIn 145 = .ok (.ifCond .eq 7, 3) := by decide +kernel
theorem dX6_causeIn_148 : decode cX6_causeIn 148 = .ok (.iconst 3, 1) := by decide +kernel
theorem dX6_causeIn_149 : decode cX6_causeIn 149 = .ok (.goto 4, 3) := by decide +kernel
theorem dX6_causeIn_152 : decode cX6_causeIn 152 = .ok (.iconst 4, 1) := by decide +kernel
theorem dX6_causeIn_153 : decode cX6_causeIn 153 = .ok (.ireturn, 1) := by decide +kernel
theorem dX6_causeIn_154 : decode cX6_causeIn 154 = .ok (.aload_n 0, 1) := by decide +kernel
theorem dX6_causeIn_155 : decode cX6_causeIn 155 = .ok (.getfield 22, 3) := by decide +kernel
theorem dX6_causeIn_158 : decode cX6_causeIn 158 = .ok (.iload_n 2, 1) := by decide +kernel
theorem dX6_causeIn_159 : decode cX6_causeIn 159 = .ok (.iaload, 1) := by decide +kernel
theorem dX6_causeIn_160 : decode cX6_causeIn 160 = .ok (.ifCond .le 15, 3) := by decide +kernel
theorem dX6_causeIn_163 : decode cX6_causeIn 163 = .ok (.aload_n 0, 1) := by decide +kernel
theorem dX6_causeIn_164 : decode cX6_causeIn 164 = .ok (.getfield 22, 3) := by decide +kernel
theorem dX6_causeIn_167 : decode cX6_causeIn 167 = .ok (.iload_n 2, 1) := by decide +kernel
theorem dX6_causeIn_168 : decode cX6_causeIn 168 = .ok (.iaload, 1) := by decide +kernel
theorem dX6_causeIn_169 : decode cX6_causeIn 169 = .ok (.iload_n 3, 1) := by decide +kernel
theorem dX6_causeIn_170 : decode cX6_causeIn 170 = .ok (.if_icmp .eq 5, 3) := by decide +kernel
theorem dX6_causeIn_173 : decode cX6_causeIn 173 = .ok (.iconst 5, 1) := by decide +kernel
theorem dX6_causeIn_174 : decode cX6_causeIn 174 = .ok (.ireturn, 1) := by decide +kernel
theorem dX6_causeIn_175 : decode cX6_causeIn 175 = .ok (.aload_n 0, 1) := by decide +kernel
theorem dX6_causeIn_176 : decode cX6_causeIn 176 = .ok (.aload_n 1, 1) := by decide +kernel
theorem dX6_causeIn_177 : decode cX6_causeIn 177 = .ok (.aload_n 0, 1) := by decide +kernel
theorem dX6_causeIn_178 : decode cX6_causeIn 178 = .ok (.iload_n 2, 1) := by decide +kernel
theorem dX6_causeIn_179 : decode cX6_causeIn 179 = .ok (.invokevirtual 99, 3) := by decide +kernel
theorem dX6_causeIn_182 : decode cX6_causeIn 182 = .ok (.iload_n 3, 1) := by decide +kernel
theorem dX6_causeIn_183 : decode cX6_causeIn 183 = .ok (.invokevirtual 134, 3) := by decide +kernel
theorem dX6_causeIn_186 : decode cX6_causeIn 186 = .ok (.ifCond .ne 25, 3) := by decide +kernel
theorem dX6_causeIn_189 : decode cX6_causeIn 189 = .ok (.aload_n 0, 1) := by decide +kernel
theorem dX6_causeIn_190 : decode cX6_causeIn 190 = .ok (.getfield 113, 3) := by decide +kernel
theorem dX6_causeIn_193 : decode cX6_causeIn 193 = .ok (.iconst 1, 1) := by decide +kernel
theorem dX6_causeIn_194 : decode cX6_causeIn 194 = .ok (.if_icmp .ne 21, 3) := by decide +kernel
theorem dX6_causeIn_197 : decode cX6_causeIn 197 = .ok (.aload_n 0, 1) := by decide +kernel
theorem dX6_causeIn_198 : decode cX6_causeIn 198 = .ok (.aload_n 1, 1) := by decide +kernel
theorem dX6_causeIn_199 : decode cX6_causeIn 199 = .ok (.aload_n 0, 1) := by decide +kernel
theorem dX6_causeIn_200 : decode cX6_causeIn 200 = .ok (.iload_n 2, 1) := by decide +kernel
theorem dX6_causeIn_201 : decode cX6_causeIn 201 = .ok (.invokevirtual 120, 3) := by decide +kernel
theorem dX6_causeIn_204 : decode cX6_causeIn 204 = .ok (.iload_n 3, 1) := by decide +kernel
theorem dX6_causeIn_205 : decode cX6_causeIn 205 = .ok (.invokevirtual 134, 3) := by decide +kernel
theorem dX6_causeIn_208 : decode cX6_causeIn 208 = .ok (.ifCond .eq 7, 3) := by decide +kernel
theorem dX6_causeIn_211 : decode cX6_causeIn 211 = .ok (.iconst 1, 1) := by decide +kernel
theorem dX6_causeIn_212 : decode cX6_causeIn 212 = .ok (.goto 4, 3) := by decide +kernel
theorem dX6_causeIn_215 : decode cX6_causeIn 215 = .ok (.iconst 0, 1) := by decide +kernel
theorem dX6_causeIn_216 : decode cX6_causeIn 216 = .ok (.istore 6, 2) := by decide +kernel
theorem dX6_causeIn_218 : decode cX6_causeIn 218 = .ok (.iload 6, 2) := by decide +kernel
theorem dX6_causeIn_220 : decode cX6_causeIn 220 = .ok (.ifCond .eq 7, 3) := by decide +kernel
theorem dX6_causeIn_223 : decode cX6_causeIn 223 = .ok (.iconst 0, 1) := by decide +kernel
theorem dX6_causeIn_224 : decode cX6_causeIn 224 = .ok (.goto 5, 3) := by decide +kernel
theorem dX6_causeIn_227 : decode cX6_causeIn 227 = .ok (.bipush 6, 2) := by decide +kernel
theorem dX6_causeIn_229 : decode cX6_causeIn 229 = .ok (.ireturn, 1) := by decide +kernel
set_option maxRecDepth 20000 in
set_option maxRecDepth 20000 in
theorem ggX6_clashIn_X6_causeIn : GoodIn wsX6_clashIn wsX6_causeIn := goodIn_r _ [6, 1, 7, 8, 9, 10, 11, 12, 5, 13, 14, 15, 16, 17, 18, 19, 20, 21, 22, 23, 24, 25, 26, 27, 28, 29, 30, 31, 32, 33, 34, 35, 36, 37, 38, 39, 40, 41, 42, 43, 44, 45, 46, 47, 48, 49, 50, 51, 52, 53, 54, 55, 56, 57, 58, 59, 60, 61, 62, 63, 64, 65, 66, 67, 68, 69, 70, 71, 72, 73] rfl (by decide +kernel)
set_option maxRecDepth 20000 in
theorem gX6_clashIn_X6_causeIn : GoodIn wsX6_clashIn (wsV RX6 138 RX6 yX6_causeIn wsX6_causeIn) := goodIn_app (goodIn_of _ (by decide +kernel)) ggX6_clashIn_X6_causeIn
theorem dX6_clashIn_0 : decode cX6_clashIn 0 = .ok (.iconst 0, 1) := by decide +kernel
theorem dX6_clashIn_1 : decode cX6_clashIn 1 = .ok (.istore_n 2, 1) := by decide +kernel
theorem dX6_clashIn_2 : decode cX6_clashIn 2 = .ok (.iload_n 2, 1) := by decide +kernel
theorem dX6_clashIn_3 : decode cX6_clashIn 3 = .ok (.aload_n 0, 1) := by decide +kernel
theorem dX6_clashIn_4 : decode cX6_clashIn 4 = .ok (.getfield 85, 3) := by decide +kernel
theorem dX6_clashIn_7 : decode cX6_clashIn 7 = .ok (.if_icmp .ge 20, 3) := by decide +kernel
theorem dX6_clashIn_10 : decode cX6_clashIn 10 = .ok (.aload_n 0, 1) := by decide +kernel
theorem dX6_clashIn_11 : decode cX6_clashIn 11 = .ok (.aload_n 1, 1) := by decide +kernel
theorem dX6_clashIn_12 : decode cX6_clashIn 12 = .ok (.iload_n 2, 1) := by decide +kernel
theorem dX6_clashIn_13 : decode cX6_clashIn 13 = .ok (.invokevirtual 138, 3) := by decide +kernel
theorem dX6_clashIn_16 : decode cX6_clashIn 16 = .ok (.ifCond .eq 5, 3) := by decide +kernel
theorem dX6_clashIn_19 : decode cX6_clashIn 19 = .ok (.iload_n 2, 1) := by decide +kernel
theorem dX6_clashIn_20 : decode cX6_clashIn 20 = .ok (.ireturn, 1) := by decide +kernel
theorem dX6_clashIn_21 : decode cX6_clashIn 21 = .ok (.iinc 2 1, 3) := by decide +kernel
theorem dX6_clashIn_24 : decode cX6_clashIn 24 = .ok (.goto (-22), 3) := by decide +kernel
theorem dX6_clashIn_27 : decode cX6_clashIn 27 = .ok (.iconst (-1), 1) := by decide +kernel
theorem dX6_clashIn_28 : decode cX6_clashIn 28 = .ok (.ireturn, 1) := by decide +kernel
set_option maxRecDepth 20000 in
set_option maxRecDepth 20000 in
theorem ggX6_cause_X6_isTask : GoodIn wsX6_cause wsX6_isTask := goodIn_r _ [6, 7, 50, 51, 52, 53, 54, 55, 56, 57, 58, 59, 60, 61, 62, 63, 64, 65, 66, 67, 68, 69, 70, 71, 72, 73, 74, 75, 76, 77, 78] rfl (by decide +kernel)
set_option maxRecDepth 20000 in
theorem gX6_cause_X6_isTask : GoodIn wsX6_cause (wsV RX6 88 RX6 yX6_isTask wsX6_isTask) := goodIn_app (goodIn_of _ (by decide +kernel)) ggX6_cause_X6_isTask
set_option maxRecDepth 20000 in
set_option maxRecDepth 20000 in
theorem ggX6_cause_X6_causeIn : GoodIn wsX6_cause wsX6_causeIn := goodIn_r _ [11, 7, 12, 13, 14, 15, 16, 17, 5, 18, 19, 20, 21, 22, 23, 24, 25, 26, 27, 28, 29, 30, 31, 32, 33, 34, 35, 36, 37, 38, 39, 40, 41, 42, 43, 44, 45, 46, 47, 48, 49, 50, 51, 52, 53, 54, 55, 56, 57, 58, 59, 60, 61, 62, 63, 64, 65, 66, 67, 68, 69, 70, 71, 72, 73, 74, 75, 76, 77, 78] rfl (by decide +kernel)
set_option maxRecDepth 20000 in
theorem gX6_cause_X6_causeIn : GoodIn wsX6_cause (wsV RX6 138 RX6 yX6_causeIn wsX6_causeIn) := goodIn_app (goodIn_of _ (by decide +kernel)) ggX6_cause_X6_causeIn
theorem dX6_cause_0 : decode cX6_cause 0 = .ok (.aload_n 0, 1) := by decide +kernel
theorem dX6_cause_1 : decode cX6_cause 1 = .ok (.iload_n 1, 1) := by decide +kernel
theorem dX6_cause_2 : decode cX6_cause 2 = .ok (.invokevirtual 88, 3) := by decide +kernel
theorem dX6_cause_5 : decode cX6_cause 5 = .ok (.ifCond .eq 15, 3) := by decide +kernel
theorem dX6_cause_8 : decode cX6_cause 8 = .ok (.aload_n 0, 1) := by decide +kernel
theorem dX6_cause_9 : decode cX6_cause 9 = .ok (.aload_n 0, 1) := by decide +kernel
theorem dX6_cause_10 : decode cX6_cause 10 = .ok (.getfield 25, 3) := by decide +kernel
theorem dX6_cause_13 : decode cX6_cause 13 = .ok (.iload_n 1, 1) := by decide +kernel
theorem dX6_cause_14 : decode cX6_cause 14 = .ok (.invokevirtual 138, 3) := by decide +kernel
theorem dX6_cause_17 : decode cX6_cause 17 = .ok (.goto 5, 3) := by decide +kernel
theorem dX6_cause_20 : decode cX6_cause 20 = .ok (.bipush (-2), 2) := by decide +kernel
theorem dX6_cause_22 : decode cX6_cause 22 = .ok (.ireturn, 1) := by decide +kernel
set_option maxRecDepth 20000 in
set_option maxRecDepth 20000 in
theorem ggX6_clash_X6_clashIn : GoodIn wsX6_clash wsX6_clashIn := goodIn_r _ [6, 7, 8, 9, 10, 5, 11, 12, 13, 14, 15, 16, 17, 18, 19, 20, 21, 22, 23, 24, 25, 26, 27, 28, 29, 30, 31, 32, 33, 34, 35, 36, 37, 38, 39, 40, 41, 42, 43, 44, 45, 46, 47, 48, 49, 50, 51, 52, 53, 54, 55, 56, 57, 58, 59, 60, 61, 62, 63, 64, 65, 66, 67, 68, 69, 70, 71, 72, 73, 74, 75, 76, 77, 78] rfl (by decide +kernel)
set_option maxRecDepth 20000 in
theorem gX6_clash_X6_clashIn : GoodIn wsX6_clash (wsV RX6 141 RX6 yX6_clashIn wsX6_clashIn) := goodIn_app (goodIn_of _ (by decide +kernel)) ggX6_clash_X6_clashIn
theorem dX6_clash_0 : decode cX6_clash 0 = .ok (.aload_n 0, 1) := by decide +kernel
theorem dX6_clash_1 : decode cX6_clash 1 = .ok (.aload_n 0, 1) := by decide +kernel
theorem dX6_clash_2 : decode cX6_clash 2 = .ok (.getfield 25, 3) := by decide +kernel
theorem dX6_clash_5 : decode cX6_clash 5 = .ok (.invokevirtual 141, 3) := by decide +kernel
theorem dX6_clash_8 : decode cX6_clash 8 = .ok (.ireturn, 1) := by decide +kernel
set_option maxRecDepth 20000 in
set_option maxRecDepth 20000 in
theorem ggX6_station_X6_setAt : GoodIn wsX6_station wsX6_setAt := goodIn_r _ [6, 7, 27, 28, 29, 30, 31, 32, 33, 34, 35, 36, 37, 38, 39, 40, 41, 42, 43, 44, 45, 46, 47, 48, 49, 50, 51, 52, 53, 54, 55] rfl (by decide +kernel)
set_option maxRecDepth 20000 in
theorem gX6_station_X6_setAt : GoodIn wsX6_station (wsV RX6 126 RX6 yX6_setAt wsX6_setAt) := goodIn_app (goodIn_of _ (by decide +kernel)) ggX6_station_X6_setAt
set_option maxRecDepth 20000 in
set_option maxRecDepth 20000 in
theorem ggX6_station_X6_loadOf : GoodIn wsX6_station wsX6_loadOf := goodIn_r _ [11, 12, 13, 14, 15, 16, 5, 17, 7, 18, 19, 20, 21, 27, 28, 29, 30, 31, 32, 33, 34, 35, 36, 37, 38, 39, 40, 41, 42, 43, 44, 45, 46, 47, 48, 49, 50, 51, 52, 53, 54, 55] rfl (by decide +kernel)
set_option maxRecDepth 20000 in
theorem gX6_station_X6_loadOf : GoodIn wsX6_station (wsV RX6 123 RX6 yX6_loadOf wsX6_loadOf) := goodIn_app (goodIn_of _ (by decide +kernel)) ggX6_station_X6_loadOf
set_option maxRecDepth 20000 in
set_option maxRecDepth 20000 in
theorem ggX6_station_X6_room : GoodIn wsX6_station wsX6_room := goodIn_r _ [25, 12, 26, 13, 27, 28, 29, 30, 31, 32, 33, 34, 35, 36, 37, 38, 39, 40, 41, 42, 43, 44, 45, 46, 47, 48, 49, 50, 51, 52, 53, 54, 55] rfl (by decide +kernel)
set_option maxRecDepth 20000 in
theorem gX6_station_X6_room : GoodIn wsX6_station (wsV RX6 130 RX6 yX6_room wsX6_room) := goodIn_app (goodIn_of _ (by decide +kernel)) ggX6_station_X6_room
theorem dX6_station_0 : decode cX6_station 0 = .ok (.iload_n 1, 1) := by decide +kernel
theorem dX6_station_1 : decode cX6_station 1 = .ok (.iconst 1, 1) := by decide +kernel
theorem dX6_station_2 : decode cX6_station 2 = .ok (.if_icmp .lt 18, 3) := by decide +kernel
theorem dX6_station_5 : decode cX6_station 5 = .ok (.iload_n 1, 1) := by decide +kernel
theorem dX6_station_6 : decode cX6_station 6 = .ok (.bipush 10, 2) := by decide +kernel
theorem dX6_station_8 : decode cX6_station 8 = .ok (.if_icmp .gt 12, 3) := by decide +kernel
theorem dX6_station_11 : decode cX6_station 11 = .ok (.iload_n 2, 1) := by decide +kernel
theorem dX6_station_12 : decode cX6_station 12 = .ok (.ifCond .lt 8, 3) := by decide +kernel
theorem dX6_station_15 : decode cX6_station 15 = .ok (.iload_n 2, 1) := by decide +kernel
theorem dX6_station_16 : decode cX6_station 16 = .ok (.iconst 2, 1) := by decide +kernel
theorem dX6_station_17 : decode cX6_station 17 = .ok (.if_icmp .le 6, 3) := by decide +kernel
theorem dX6_station_20 : decode cX6_station 20 = .ok (.bipush (-2), 2) := by decide +kernel
theorem dX6_station_22 : decode cX6_station 22 = .ok (.ireturn, 1) := by decide +kernel
theorem dX6_station_23 : decode cX6_station 23 = .ok (.aload_n 0, 1) := by decide +kernel
theorem dX6_station_24 : decode cX6_station 24 = .ok (.aload_n 0, 1) := by decide +kernel
theorem dX6_station_25 : decode cX6_station 25 = .ok (.getfield 25, 3) := by decide +kernel
theorem dX6_station_28 : decode cX6_station 28 = .ok (.iload_n 1, 1) := by decide +kernel
theorem dX6_station_29 : decode cX6_station 29 = .ok (.invokevirtual 126, 3) := by decide +kernel
theorem dX6_station_32 : decode cX6_station 32 = .ok (.istore_n 3, 1) := by decide +kernel
theorem dX6_station_33 : decode cX6_station 33 = .ok (.iload_n 2, 1) := by decide +kernel
theorem dX6_station_34 : decode cX6_station 34 = .ok (.ifCond .ne 7, 3) := by decide +kernel
theorem dX6_station_37 : decode cX6_station 37 = .ok (.iload_n 3, 1) := by decide +kernel
theorem dX6_station_38 : decode cX6_station 38 = .ok (.goto 26, 3) := by decide +kernel
theorem dX6_station_41 : decode cX6_station 41 = .ok (.iload_n 2, 1) := by decide +kernel
theorem dX6_station_42 : decode cX6_station 42 = .ok (.iconst 1, 1) := by decide +kernel
theorem dX6_station_43 : decode cX6_station 43 = .ok (.if_icmp .ne 11, 3) := by decide +kernel
theorem dX6_station_46 : decode cX6_station 46 = .ok (.aload_n 0, 1) := by decide +kernel
theorem dX6_station_47 : decode cX6_station 47 = .ok (.iload_n 3, 1) := by decide +kernel
theorem dX6_station_48 : decode cX6_station 48 = .ok (.invokevirtual 123, 3) := by decide +kernel
theorem dX6_station_51 : decode cX6_station 51 = .ok (.goto 13, 3) := by decide +kernel
theorem dX6_station_54 : decode cX6_station 54 = .ok (.aload_n 0, 1) := by decide +kernel
theorem dX6_station_55 : decode cX6_station 55 = .ok (.invokevirtual 130, 3) := by decide +kernel
theorem dX6_station_58 : decode cX6_station 58 = .ok (.aload_n 0, 1) := by decide +kernel
theorem dX6_station_59 : decode cX6_station 59 = .ok (.iload_n 3, 1) := by decide +kernel
theorem dX6_station_60 : decode cX6_station 60 = .ok (.invokevirtual 123, 3) := by decide +kernel
theorem dX6_station_63 : decode cX6_station 63 = .ok (.isub, 1) := by decide +kernel
theorem dX6_station_64 : decode cX6_station 64 = .ok (.ireturn, 1) := by decide +kernel
theorem dX6_lengthOf_0 : decode cX6_lengthOf 0 = .ok (.iconst 0, 1) := by decide +kernel
theorem dX6_lengthOf_1 : decode cX6_lengthOf 1 = .ok (.istore_n 2, 1) := by decide +kernel
theorem dX6_lengthOf_2 : decode cX6_lengthOf 2 = .ok (.iconst 0, 1) := by decide +kernel
theorem dX6_lengthOf_3 : decode cX6_lengthOf 3 = .ok (.istore_n 3, 1) := by decide +kernel
theorem dX6_lengthOf_4 : decode cX6_lengthOf 4 = .ok (.iload_n 3, 1) := by decide +kernel
theorem dX6_lengthOf_5 : decode cX6_lengthOf 5 = .ok (.aload_n 0, 1) := by decide +kernel
theorem dX6_lengthOf_6 : decode cX6_lengthOf 6 = .ok (.getfield 85, 3) := by decide +kernel
theorem dX6_lengthOf_9 : decode cX6_lengthOf 9 = .ok (.if_icmp .ge 24, 3) := by decide +kernel
theorem dX6_lengthOf_12 : decode cX6_lengthOf 12 = .ok (.aload_n 1, 1) := by decide +kernel
theorem dX6_lengthOf_13 : decode cX6_lengthOf 13 = .ok (.iload_n 3, 1) := by decide +kernel
theorem dX6_lengthOf_14 : decode cX6_lengthOf 14 = .ok (.iaload, 1) := by decide +kernel
theorem dX6_lengthOf_15 : decode cX6_lengthOf 15 = .ok (.iload_n 2, 1) := by decide +kernel
theorem dX6_lengthOf_16 : decode cX6_lengthOf 16 = .ok (.if_icmp .le 9, 3) := by decide +kernel
theorem dX6_lengthOf_19 : decode cX6_lengthOf 19 = .ok (.aload_n 1, 1) := by decide +kernel
theorem dX6_lengthOf_20 : decode cX6_lengthOf 20 = .ok (.iload_n 3, 1) := by decide +kernel
theorem dX6_lengthOf_21 : decode cX6_lengthOf 21 = .ok (.iaload, 1) := by decide +kernel
theorem dX6_lengthOf_22 : decode cX6_lengthOf 22 = .ok (.goto 4, 3) := by decide +kernel
theorem dX6_lengthOf_25 : decode cX6_lengthOf 25 = .ok (.iload_n 2, 1) := by decide +kernel
theorem dX6_lengthOf_26 : decode cX6_lengthOf 26 = .ok (.istore_n 2, 1) := by decide +kernel
theorem dX6_lengthOf_27 : decode cX6_lengthOf 27 = .ok (.iinc 3 1, 3) := by decide +kernel
theorem dX6_lengthOf_30 : decode cX6_lengthOf 30 = .ok (.goto (-26), 3) := by decide +kernel
theorem dX6_lengthOf_33 : decode cX6_lengthOf 33 = .ok (.iload_n 2, 1) := by decide +kernel
theorem dX6_lengthOf_34 : decode cX6_lengthOf 34 = .ok (.ireturn, 1) := by decide +kernel
set_option maxRecDepth 20000 in
set_option maxRecDepth 20000 in
theorem ggX6_length_X6_lengthOf : GoodIn wsX6_length wsX6_lengthOf := goodIn_r _ [6, 7, 8, 9, 10, 11, 12, 13, 14, 15, 16, 17, 18, 19, 20, 21, 22, 23, 24, 25, 26, 27, 28, 29, 30, 31, 32, 33, 34, 35, 36] rfl (by decide +kernel)
set_option maxRecDepth 20000 in
theorem gX6_length_X6_lengthOf : GoodIn wsX6_length (wsV RX6 145 RX6 yX6_lengthOf wsX6_lengthOf) := goodIn_app (goodIn_of _ (by decide +kernel)) ggX6_length_X6_lengthOf
theorem dX6_length_0 : decode cX6_length 0 = .ok (.aload_n 0, 1) := by decide +kernel
theorem dX6_length_1 : decode cX6_length 1 = .ok (.aload_n 0, 1) := by decide +kernel
theorem dX6_length_2 : decode cX6_length 2 = .ok (.getfield 25, 3) := by decide +kernel
theorem dX6_length_5 : decode cX6_length 5 = .ok (.invokevirtual 145, 3) := by decide +kernel
theorem dX6_length_8 : decode cX6_length 8 = .ok (.ireturn, 1) := by decide +kernel
set_option maxRecDepth 20000 in
set_option maxRecDepth 20000 in
theorem ggX6_squaresOf_X6_setAt : GoodIn wsX6_squaresOf wsX6_setAt := goodIn_r _ [5, 6, 21, 22, 23, 24, 25, 26, 27, 28, 29, 30, 31, 32, 33, 34, 35, 36, 37, 38, 39, 40, 41, 42, 43, 44, 45, 46, 47, 48, 49] rfl (by decide +kernel)
set_option maxRecDepth 20000 in
theorem gX6_squaresOf_X6_setAt : GoodIn wsX6_squaresOf (wsV RX6 126 RX6 yX6_setAt wsX6_setAt) := goodIn_app (goodIn_of _ (by decide +kernel)) ggX6_squaresOf_X6_setAt
set_option maxRecDepth 20000 in
set_option maxRecDepth 20000 in
theorem ggX6_squaresOf_X6_loadOf : GoodIn wsX6_squaresOf wsX6_loadOf := goodIn_r _ [10, 11, 12, 13, 14, 15, 4, 16, 6, 17, 18, 19, 20, 21, 22, 23, 24, 25, 26, 27, 28, 29, 30, 31, 32, 33, 34, 35, 36, 37, 38, 39, 40, 41, 42, 43, 44, 45, 46, 47, 48, 49] rfl (by decide +kernel)
set_option maxRecDepth 20000 in
theorem gX6_squaresOf_X6_loadOf : GoodIn wsX6_squaresOf (wsV RX6 123 RX6 yX6_loadOf wsX6_loadOf) := goodIn_app (goodIn_of _ (by decide +kernel)) ggX6_squaresOf_X6_loadOf
theorem dX6_squaresOf_0 : decode cX6_squaresOf 0 = .ok (.lconst 0, 1) := by decide +kernel
theorem dX6_squaresOf_1 : decode cX6_squaresOf 1 = .ok (.lstore_n 2, 1) := by decide +kernel
theorem dX6_squaresOf_2 : decode cX6_squaresOf 2 = .ok (.iconst 1, 1) := by decide +kernel
theorem dX6_squaresOf_3 : decode cX6_squaresOf 3 = .ok (.istore 4, 2) := by decide +kernel
theorem dX6_squaresOf_5 : decode cX6_squaresOf 5 = .ok (.iload 4, 2) := by decide +kernel
theorem dX6_squaresOf_7 : decode cX6_squaresOf 7 = .ok (.bipush 10, 2) := by decide +kernel
theorem dX6_squaresOf_9 : decode cX6_squaresOf 9 = .ok (.if_icmp .gt 31, 3) := by decide +kernel
theorem dX6_squaresOf_12 : decode cX6_squaresOf 12 = .ok (.aload_n 0, 1) := by decide +kernel
theorem dX6_squaresOf_13 : decode cX6_squaresOf 13 = .ok (.aload_n 0, 1) := by decide +kernel
theorem dX6_squaresOf_14 : decode cX6_squaresOf 14 = .ok (.aload_n 1, 1) := by decide +kernel
theorem dX6_squaresOf_15 : decode cX6_squaresOf 15 = .ok (.iload 4, 2) := by decide +kernel
theorem dX6_squaresOf_17 : decode cX6_squaresOf 17 = .ok (.invokevirtual 126, 3) := by decide +kernel
theorem dX6_squaresOf_20 : decode cX6_squaresOf 20 = .ok (.invokevirtual 123, 3) := by decide +kernel
theorem dX6_squaresOf_23 : decode cX6_squaresOf 23 = .ok (.i2l, 1) := by decide +kernel
theorem dX6_squaresOf_24 : decode cX6_squaresOf 24 = .ok (.lstore 5, 2) := by decide +kernel
theorem dX6_squaresOf_26 : decode cX6_squaresOf 26 = .ok (.lload_n 2, 1) := by decide +kernel
theorem dX6_squaresOf_27 : decode cX6_squaresOf 27 = .ok (.lload 5, 2) := by decide +kernel
theorem dX6_squaresOf_29 : decode cX6_squaresOf 29 = .ok (.lload 5, 2) := by decide +kernel
theorem dX6_squaresOf_31 : decode cX6_squaresOf 31 = .ok (.lmul, 1) := by decide +kernel
theorem dX6_squaresOf_32 : decode cX6_squaresOf 32 = .ok (.ladd, 1) := by decide +kernel
theorem dX6_squaresOf_33 : decode cX6_squaresOf 33 = .ok (.lstore_n 2, 1) := by decide +kernel
theorem dX6_squaresOf_34 : decode cX6_squaresOf 34 = .ok (.iinc 4 1, 3) := by decide +kernel
theorem dX6_squaresOf_37 : decode cX6_squaresOf 37 = .ok (.goto (-32), 3) := by decide +kernel
theorem dX6_squaresOf_40 : decode cX6_squaresOf 40 = .ok (.lload_n 2, 1) := by decide +kernel
theorem dX6_squaresOf_41 : decode cX6_squaresOf 41 = .ok (.lreturn, 1) := by decide +kernel
set_option maxRecDepth 20000 in
set_option maxRecDepth 20000 in
theorem ggX6_squares_X6_squaresOf : GoodIn wsX6_squares wsX6_squaresOf := goodIn_r _ [6, 7, 8, 9, 5, 10, 11, 12, 13, 14, 15, 16, 17, 18, 19, 20, 21, 22, 23, 24, 25, 26, 27, 28, 29, 30, 31, 32, 33, 34, 35, 36, 37, 38, 39, 40, 41, 42, 43, 44, 45, 46, 47, 48, 49, 50, 51, 52, 53, 54] rfl (by decide +kernel)
set_option maxRecDepth 20000 in
theorem gX6_squares_X6_squaresOf : GoodIn wsX6_squares (wsV RX6 148 RX6 yX6_squaresOf wsX6_squaresOf) := goodIn_app (goodIn_of _ (by decide +kernel)) ggX6_squares_X6_squaresOf
theorem dX6_squares_0 : decode cX6_squares 0 = .ok (.aload_n 0, 1) := by decide +kernel
theorem dX6_squares_1 : decode cX6_squares 1 = .ok (.aload_n 0, 1) := by decide +kernel
theorem dX6_squares_2 : decode cX6_squares 2 = .ok (.getfield 25, 3) := by decide +kernel
theorem dX6_squares_5 : decode cX6_squares 5 = .ok (.invokevirtual 148, 3) := by decide +kernel
theorem dX6_squares_8 : decode cX6_squares 8 = .ok (.lreturn, 1) := by decide +kernel
set_option maxRecDepth 20000 in
set_option maxRecDepth 20000 in
theorem ggX6_tellSets_X6_leading : GoodIn wsX6_tellSets wsX6_leading := goodIn_r _ [12, 13, 1, 14, 15, 11, 16, 41, 42, 43, 44, 45, 46, 47, 48, 49, 50, 51, 52, 53, 54, 55, 56, 57, 58, 59, 60, 61, 62, 63, 64, 65, 66, 67, 68, 69] rfl (by decide +kernel)
set_option maxRecDepth 20000 in
theorem gX6_tellSets_X6_leading : GoodIn wsX6_tellSets (wsV RX6 99 RX6 yX6_leading wsX6_leading) := goodIn_app (goodIn_of _ (by decide +kernel)) ggX6_tellSets_X6_leading
set_option maxRecDepth 20000 in
set_option maxRecDepth 20000 in
theorem ggX6_tellSets_X6_following : GoodIn wsX6_tellSets wsX6_following := goodIn_r _ [20, 1, 8, 9, 10, 11, 12, 13, 14, 15, 16, 41, 42, 43, 44, 45, 46, 47, 48, 49, 50, 51, 52, 53, 54, 55, 56, 57, 58, 59, 60, 61, 62, 63, 64, 65, 66, 67, 68, 69] rfl (by decide +kernel)
set_option maxRecDepth 20000 in
theorem gX6_tellSets_X6_following : GoodIn wsX6_tellSets (wsV RX6 120 RX6 yX6_following wsX6_following) := goodIn_app (goodIn_of _ (by decide +kernel)) ggX6_tellSets_X6_following
set_option maxRecDepth 20000 in
set_option maxRecDepth 20000 in
theorem ggX6_tellSets_X6_room : GoodIn wsX6_tellSets wsX6_room := goodIn_r _ [24, 25, 26, 27, 41, 42, 43, 44, 45, 46, 47, 48, 49, 50, 51, 52, 53, 54, 55, 56, 57, 58, 59, 60, 61, 62, 63, 64, 65, 66, 67, 68, 69] rfl (by decide +kernel)
set_option maxRecDepth 20000 in
theorem gX6_tellSets_X6_room : GoodIn wsX6_tellSets (wsV RX6 130 RX6 yX6_room wsX6_room) := goodIn_app (goodIn_of _ (by decide +kernel)) ggX6_tellSets_X6_room
set_option maxRecDepth 20000 in
set_option maxRecDepth 20000 in
theorem ggX6_tellSets_X6_all : GoodIn wsX6_tellSets wsX6_all := goodIn_r _ [31, 1, 41, 42, 43, 44, 45, 46, 47, 48, 49, 50, 51, 52, 53, 54, 55, 56, 57, 58, 59, 60, 61, 62, 63, 64, 65, 66, 67, 68, 69] rfl (by decide +kernel)
set_option maxRecDepth 20000 in
theorem gX6_tellSets_X6_all : GoodIn wsX6_tellSets (wsV RX6 152 RX6 yX6_all wsX6_all) := goodIn_app (goodIn_of _ (by decide +kernel)) ggX6_tellSets_X6_all
set_option maxRecDepth 20000 in
set_option maxRecDepth 20000 in
theorem ggX6_tellSets_X6_loadOf : GoodIn wsX6_tellSets wsX6_loadOf := goodIn_r _ [35, 25, 27, 36, 37, 38, 11, 39, 1, 40, 14, 15, 16, 41, 42, 43, 44, 45, 46, 47, 48, 49, 50, 51, 52, 53, 54, 55, 56, 57, 58, 59, 60, 61, 62, 63, 64, 65, 66, 67, 68, 69] rfl (by decide +kernel)
set_option maxRecDepth 20000 in
theorem gX6_tellSets_X6_loadOf : GoodIn wsX6_tellSets (wsV RX6 123 RX6 yX6_loadOf wsX6_loadOf) := goodIn_app (goodIn_of _ (by decide +kernel)) ggX6_tellSets_X6_loadOf
set_option maxRecDepth 20000 in
set_option maxRecDepth 20000 in
theorem ggX6_tellSets_X6_in : GoodIn wsX6_tellSets wsX6_in := goodIn_r _ [16] rfl (by decide +kernel)
set_option maxRecDepth 20000 in
theorem gX6_tellSets_X6_in : GoodIn wsX6_tellSets (va_wsS RX6 95 yX6_in wsX6_in) := goodIn_app (goodIn_of _ (by decide +kernel)) ggX6_tellSets_X6_in
theorem dX6_tellSets_0 : decode cX6_tellSets 0 = .ok (.iconst 0, 1) := by decide +kernel
theorem dX6_tellSets_1 : decode cX6_tellSets 1 = .ok (.istore_n 1, 1) := by decide +kernel
theorem dX6_tellSets_2 : decode cX6_tellSets 2 = .ok (.iload_n 1, 1) := by decide +kernel
theorem dX6_tellSets_3 : decode cX6_tellSets 3 = .ok (.aload_n 0, 1) := by decide +kernel
theorem dX6_tellSets_4 : decode cX6_tellSets 4 = .ok (.getfield 85, 3) := by decide +kernel
theorem dX6_tellSets_7 : decode cX6_tellSets 7 = .ok (.if_icmp .ge 31, 3) := by decide +kernel
theorem dX6_tellSets_10 : decode cX6_tellSets 10 = .ok (.aload_n 0, 1) := by decide +kernel
theorem dX6_tellSets_11 : decode cX6_tellSets 11 = .ok (.getfield 66, 3) := by decide +kernel
theorem dX6_tellSets_14 : decode cX6_tellSets 14 = .ok (.iload_n 1, 1) := by decide +kernel
theorem dX6_tellSets_15 : decode cX6_tellSets 15 = .ok (.aload_n 0, 1) := by decide +kernel
theorem dX6_tellSets_16 : decode cX6_tellSets 16 = .ok (.iload_n 1, 1) := by decide +kernel
theorem dX6_tellSets_17 : decode cX6_tellSets 17 = .ok (.invokevirtual 99, 3) := by decide +kernel
theorem dX6_tellSets_20 : decode cX6_tellSets 20 = .ok (.iastore, 1) := by decide +kernel
theorem dX6_tellSets_21 : decode cX6_tellSets 21 = .ok (.aload_n 0, 1) := by decide +kernel
theorem dX6_tellSets_22 : decode cX6_tellSets 22 = .ok (.getfield 63, 3) := by decide +kernel
theorem dX6_tellSets_25 : decode cX6_tellSets 25 = .ok (.iload_n 1, 1) := by decide +kernel
theorem dX6_tellSets_26 : decode cX6_tellSets 26 = .ok (.aload_n 0, 1) := by decide +kernel
theorem dX6_tellSets_27 : decode cX6_tellSets 27 = .ok (.iload_n 1, 1) := by decide +kernel
theorem dX6_tellSets_28 : decode cX6_tellSets 28 = .ok (.invokevirtual 120, 3) := by decide +kernel
theorem dX6_tellSets_31 : decode cX6_tellSets 31 = .ok (.iastore, 1) := by decide +kernel
theorem dX6_tellSets_32 : decode cX6_tellSets 32 = .ok (.iinc 1 1, 3) := by decide +kernel
theorem dX6_tellSets_35 : decode cX6_tellSets 35 = .ok (.goto (-33), 3) := by decide +kernel
theorem dX6_tellSets_38 : decode cX6_tellSets 38 = .ok (.aload_n 0, 1) := by decide +kernel
theorem dX6_tellSets_39 : decode cX6_tellSets 39 = .ok (.invokevirtual 130, 3) := by decide +kernel
theorem dX6_tellSets_42 : decode cX6_tellSets 42 = .ok (.istore_n 1, 1) := by decide +kernel
theorem dX6_tellSets_43 : decode cX6_tellSets 43 = .ok (.iconst 0, 1) := by decide +kernel
theorem dX6_tellSets_44 : decode cX6_tellSets 44 = .ok (.istore_n 2, 1) := by decide +kernel
theorem dX6_tellSets_45 : decode cX6_tellSets 45 = .ok (.iload_n 2, 1) := by decide +kernel
theorem dX6_tellSets_46 : decode cX6_tellSets 46 = .ok (.aload_n 0, 1) := by decide +kernel
theorem dX6_tellSets_47 : decode cX6_tellSets 47 = .ok (.invokevirtual 152, 3) := by decide +kernel
theorem dX6_tellSets_50 : decode cX6_tellSets 50 = .ok (.if_icmp .gt 199, 3) := by decide +kernel
theorem dX6_tellSets_53 : decode cX6_tellSets 53 = .ok (.aload_n 0, 1) := by decide +kernel
theorem dX6_tellSets_54 : decode cX6_tellSets 54 = .ok (.getfield 60, 3) := by decide +kernel
theorem dX6_tellSets_57 : decode cX6_tellSets 57 = .ok (.iload_n 2, 1) := by decide +kernel
theorem dX6_tellSets_58 : decode cX6_tellSets 58 = .ok (.aload_n 0, 1) := by decide +kernel
theorem dX6_tellSets_59 : decode cX6_tellSets 59 = .ok (.iload_n 2, 1) := by decide +kernel
theorem dX6_tellSets_60 : decode cX6_tellSets 60 = .ok (.invokevirtual 123, 3) := by decide +kernel
theorem dX6_tellSets_63 : decode cX6_tellSets 63 = .ok (.iastore, 1) := by decide +kernel
theorem dX6_tellSets_64 : decode cX6_tellSets 64 = .ok (.aload_n 0, 1) := by decide +kernel
theorem dX6_tellSets_65 : decode cX6_tellSets 65 = .ok (.getfield 57, 3) := by decide +kernel
theorem dX6_tellSets_68 : decode cX6_tellSets 68 = .ok (.iload_n 2, 1) := by decide +kernel
theorem dX6_tellSets_69 : decode cX6_tellSets 69 = .ok (.iconst 0, 1) := by decide +kernel
theorem dX6_tellSets_70 : decode cX6_tellSets 70 = .ok (.iastore, 1) := by decide +kernel
theorem dX6_tellSets_71 : decode cX6_tellSets 71 = .ok (.aload_n 0, 1) := by decide +kernel
theorem dX6_tellSets_72 : decode cX6_tellSets 72 = .ok (.getfield 60, 3) := by decide +kernel
theorem dX6_tellSets_75 : decode cX6_tellSets 75 = .ok (.iload_n 2, 1) := by decide +kernel
theorem dX6_tellSets_76 : decode cX6_tellSets 76 = .ok (.iaload, 1) := by decide +kernel
theorem dX6_tellSets_77 : decode cX6_tellSets 77 = .ok (.iload_n 1, 1) := by decide +kernel
theorem dX6_tellSets_78 : decode cX6_tellSets 78 = .ok (.if_icmp .gt 7, 3) := by decide +kernel
theorem dX6_tellSets_81 : decode cX6_tellSets 81 = .ok (.iconst 1, 1) := by decide +kernel
theorem dX6_tellSets_82 : decode cX6_tellSets 82 = .ok (.goto 4, 3) := by decide +kernel
theorem dX6_tellSets_85 : decode cX6_tellSets 85 = .ok (.iconst 0, 1) := by decide +kernel
theorem dX6_tellSets_86 : decode cX6_tellSets 86 = .ok (.istore_n 3, 1) := by decide +kernel
theorem dX6_tellSets_87 : decode cX6_tellSets 87 = .ok (.iconst 0, 1) := by decide +kernel
theorem dX6_tellSets_88 : decode cX6_tellSets 88 = .ok (.istore 4, 2) := by decide +kernel
theorem dX6_tellSets_90 : decode cX6_tellSets 90 = .ok (.iload 4, 2) := by decide +kernel
theorem dX6_tellSets_92 : decode cX6_tellSets 92 = .ok (.aload_n 0, 1) := by decide +kernel
theorem dX6_tellSets_93 : decode cX6_tellSets 93 = .ok (.getfield 85, 3) := by decide +kernel
theorem dX6_tellSets_96 : decode cX6_tellSets 96 = .ok (.if_icmp .ge 140, 3) := by decide +kernel
theorem dX6_tellSets_99 : decode cX6_tellSets 99 = .ok (.aload_n 0, 1) := by decide +kernel
theorem dX6_tellSets_100 : decode cX6_tellSets 100 = .ok (.getfield 57, 3) := by decide +kernel
theorem dX6_tellSets_103 : decode cX6_tellSets 103 = .ok (.iload_n 2, 1) := by decide +kernel
theorem dX6_tellSets_104 : decode cX6_tellSets 104 = .ok (.dup2, 1) := by decide +kernel
theorem dX6_tellSets_105 : decode cX6_tellSets 105 = .ok (.iaload, 1) := by decide +kernel
theorem dX6_tellSets_106 : decode cX6_tellSets 106 = .ok (.iload_n 2, 1) := by decide +kernel
theorem dX6_tellSets_107 : decode cX6_tellSets 107 = .ok (.iload 4, 2) := by decide +kernel
theorem dX6_tellSets_109 : decode cX6_tellSets 109 = .ok (.invokestatic 95, 3) := by decide +kernel
theorem dX6_tellSets_112 : decode cX6_tellSets 112 = .ok (.ifCond .eq 13, 3) := by decide +kernel
theorem dX6_tellSets_115 : decode cX6_tellSets 115 = .ok (.aload_n 0, 1) := by decide +kernel
theorem dX6_tellSets_116 : decode cX6_tellSets 116 = .ok (.getfield 66, 3) := by decide +kernel
theorem dX6_tellSets_119 : decode cX6_tellSets 119 = .ok (.iload 4, 2) := by decide +kernel
theorem dX6_tellSets_121 : decode cX6_tellSets 121 = .ok (.iaload, 1) := by decide +kernel
theorem dX6_tellSets_122 : decode cX6_tellSets 122 = .ok (.goto 4, 3) := by decide +kernel
theorem dX6_tellSets_125 : decode cX6_tellSets 125 = .ok (.iconst 0, 1) := by decide +kernel
theorem dX6_tellSets_126 : decode cX6_tellSets 126 = .ok (.ior, 1) := by decide +kernel
theorem dX6_tellSets_127 : decode cX6_tellSets 127 = .ok (.iastore, 1) := by decide +kernel
theorem dX6_tellSets_128 : decode cX6_tellSets 128 = .ok (.iconst 0, 1) := by decide +kernel
theorem dX6_tellSets_129 : decode cX6_tellSets 129 = .ok (.istore 5, 2) := by decide +kernel
theorem dX6_tellSets_131 : decode cX6_tellSets 131 = .ok (.iload 5, 2) := by decide +kernel
theorem dX6_tellSets_133 : decode cX6_tellSets 133 = .ok (.iload 4, 2) := by decide +kernel
theorem dX6_tellSets_135 : decode cX6_tellSets 135 = .ok (.if_icmp .ge 95, 3) := by decide +kernel
theorem dX6_tellSets_138 : decode cX6_tellSets 138 = .ok (.aload_n 0, 1) := by decide +kernel
theorem dX6_tellSets_139 : decode cX6_tellSets 139 = .ok (.getfield 19, 3) := by decide +kernel
theorem dX6_tellSets_142 : decode cX6_tellSets 142 = .ok (.bipush 10, 2) := by decide +kernel
theorem dX6_tellSets_144 : decode cX6_tellSets 144 = .ok (.iload 4, 2) := by decide +kernel
theorem dX6_tellSets_146 : decode cX6_tellSets 146 = .ok (.imul, 1) := by decide +kernel
theorem dX6_tellSets_147 : decode cX6_tellSets 147 = .ok (.iload 5, 2) := by decide +kernel
theorem dX6_tellSets_149 : decode cX6_tellSets 149 = .ok (.iadd, 1) := by decide +kernel
theorem dX6_tellSets_150 : decode cX6_tellSets 150 = .ok (.iaload, 1) := by decide +kernel
theorem dX6_tellSets_151 : decode cX6_tellSets 151 = .ok (.istore 6, 2) := by decide +kernel
theorem dX6_tellSets_153 : decode cX6_tellSets 153 = .ok (.iload_n 3, 1) := by decide +kernel
theorem dX6_tellSets_154 : decode cX6_tellSets 154 = .ok (.iload 6, 2) := by decide +kernel
theorem dX6_tellSets_156 : decode cX6_tellSets 156 = .ok (.ifCond .eq 61, 3) := by decide +kernel
theorem dX6_tellSets_159 : decode cX6_tellSets 159 = .ok (.iload 6, 2) := by decide +kernel
theorem dX6_tellSets_161 : decode cX6_tellSets 161 = .ok (.iconst 1, 1) := by decide +kernel
theorem dX6_tellSets_162 : decode cX6_tellSets 162 = .ok (.if_icmp .ne 7, 3) := by decide +kernel
theorem dX6_tellSets_165 : decode cX6_tellSets 165 = .ok (.iconst 1, 1) := by decide +kernel
theorem dX6_tellSets_166 : decode cX6_tellSets 166 = .ok (.goto 4, 3) := by decide +kernel
theorem dX6_tellSets_169 : decode cX6_tellSets 169 = .ok (.iconst 0, 1) := by decide +kernel
theorem dX6_tellSets_170 : decode cX6_tellSets 170 = .ok (.iload_n 2, 1) := by decide +kernel
theorem dX6_tellSets_171 : decode cX6_tellSets 171 = .ok (.iload 4, 2) := by decide +kernel
theorem dX6_tellSets_173 : decode cX6_tellSets 173 = .ok (.invokestatic 95, 3) := by decide +kernel
theorem dX6_tellSets_176 : decode cX6_tellSets 176 = .ok (.iload_n 2, 1) := by decide +kernel
theorem dX6_tellSets_177 : decode cX6_tellSets 177 = .ok (.iload 5, 2) := by decide +kernel
theorem dX6_tellSets_179 : decode cX6_tellSets 179 = .ok (.invokestatic 95, 3) := by decide +kernel
theorem dX6_tellSets_182 : decode cX6_tellSets 182 = .ok (.if_icmp .ne 7, 3) := by decide +kernel
theorem dX6_tellSets_185 : decode cX6_tellSets 185 = .ok (.iconst 1, 1) := by decide +kernel
theorem dX6_tellSets_186 : decode cX6_tellSets 186 = .ok (.goto 4, 3) := by decide +kernel
theorem dX6_tellSets_189 : decode cX6_tellSets 189 = .ok (.iconst 0, 1) := by decide +kernel
theorem dX6_tellSets_190 : decode cX6_tellSets 190 = .ok (.if_icmp .eq 27, 3) := by decide +kernel
theorem dX6_tellSets_193 : decode cX6_tellSets 193 = .ok (.iload 6, 2) := by decide +kernel
theorem dX6_tellSets_195 : decode cX6_tellSets 195 = .ok (.iconst 2, 1) := by decide +kernel
theorem dX6_tellSets_196 : decode cX6_tellSets 196 = .ok (.if_icmp .ne 25, 3) := by decide +kernel
theorem dX6_tellSets_199 : decode cX6_tellSets 199 = .ok (.iload_n 2, 1) := by decide +kernel
theorem dX6_tellSets_200 : decode cX6_tellSets 200 = .ok (.iload 4, 2) := by decide +kernel
theorem dX6_tellSets_202 : decode cX6_tellSets 202 = .ok (.invokestatic 95, 3) := by decide +kernel
theorem dX6_tellSets_205 : decode cX6_tellSets 205 = .ok (.ifCond .eq 12, 3) := by decide +kernel
theorem dX6_tellSets_208 : decode cX6_tellSets 208 = .ok (.iload_n 2, 1) := by decide +kernel
theorem dX6_tellSets_209 : decode cX6_tellSets 209 = .ok (.iload 5, 2) := by decide +kernel
theorem dX6_tellSets_211 : decode cX6_tellSets 211 = .ok (.invokestatic 95, 3) := by decide +kernel
theorem dX6_tellSets_214 : decode cX6_tellSets 214 = .ok (.ifCond .ne 7, 3) := by decide +kernel
theorem dX6_tellSets_217 : decode cX6_tellSets 217 = .ok (.iconst 1, 1) := by decide +kernel
theorem dX6_tellSets_218 : decode cX6_tellSets 218 = .ok (.goto 4, 3) := by decide +kernel
theorem dX6_tellSets_221 : decode cX6_tellSets 221 = .ok (.iconst 0, 1) := by decide +kernel
theorem dX6_tellSets_222 : decode cX6_tellSets 222 = .ok (.iand, 1) := by decide +kernel
theorem dX6_tellSets_223 : decode cX6_tellSets 223 = .ok (.istore_n 3, 1) := by decide +kernel
theorem dX6_tellSets_224 : decode cX6_tellSets 224 = .ok (.iinc 5 1, 3) := by decide +kernel
theorem dX6_tellSets_227 : decode cX6_tellSets 227 = .ok (.goto (-96), 3) := by decide +kernel
theorem dX6_tellSets_230 : decode cX6_tellSets 230 = .ok (.iinc 4 1, 3) := by decide +kernel
theorem dX6_tellSets_233 : decode cX6_tellSets 233 = .ok (.goto (-143), 3) := by decide +kernel
theorem dX6_tellSets_236 : decode cX6_tellSets 236 = .ok (.aload_n 0, 1) := by decide +kernel
theorem dX6_tellSets_237 : decode cX6_tellSets 237 = .ok (.getfield 53, 3) := by decide +kernel
theorem dX6_tellSets_240 : decode cX6_tellSets 240 = .ok (.iload_n 2, 1) := by decide +kernel
theorem dX6_tellSets_241 : decode cX6_tellSets 241 = .ok (.iload_n 3, 1) := by decide +kernel
theorem dX6_tellSets_242 : decode cX6_tellSets 242 = .ok (.bastore, 1) := by decide +kernel
theorem dX6_tellSets_243 : decode cX6_tellSets 243 = .ok (.iinc 2 1, 3) := by decide +kernel
theorem dX6_tellSets_246 : decode cX6_tellSets 246 = .ok (.goto (-201), 3) := by decide +kernel
theorem dX6_tellSets_249 : decode cX6_tellSets 249 = .ok (.return_, 1) := by decide +kernel
set_option maxRecDepth 20000 in
set_option maxRecDepth 20000 in
theorem ggX6_canBe_X6_in : GoodIn wsX6_canBe wsX6_in := goodIn_r _ [10] rfl (by decide +kernel)
set_option maxRecDepth 20000 in
theorem gX6_canBe_X6_in : GoodIn wsX6_canBe (va_wsS RX6 95 yX6_in wsX6_in) := goodIn_app (goodIn_of _ (by decide +kernel)) ggX6_canBe_X6_in
theorem dX6_canBe_0 : decode cX6_canBe 0 = .ok (.aload_n 0, 1) := by decide +kernel
theorem dX6_canBe_1 : decode cX6_canBe 1 = .ok (.getfield 53, 3) := by decide +kernel
theorem dX6_canBe_4 : decode cX6_canBe 4 = .ok (.iload_n 1, 1) := by decide +kernel
theorem dX6_canBe_5 : decode cX6_canBe 5 = .ok (.baload, 1) := by decide +kernel
theorem dX6_canBe_6 : decode cX6_canBe 6 = .ok (.ifCond .ne 5, 3) := by decide +kernel
theorem dX6_canBe_9 : decode cX6_canBe 9 = .ok (.iconst 0, 1) := by decide +kernel
theorem dX6_canBe_10 : decode cX6_canBe 10 = .ok (.ireturn, 1) := by decide +kernel
theorem dX6_canBe_11 : decode cX6_canBe 11 = .ok (.iconst 0, 1) := by decide +kernel
theorem dX6_canBe_12 : decode cX6_canBe 12 = .ok (.istore 4, 2) := by decide +kernel
theorem dX6_canBe_14 : decode cX6_canBe 14 = .ok (.iload 4, 2) := by decide +kernel
theorem dX6_canBe_16 : decode cX6_canBe 16 = .ok (.aload_n 0, 1) := by decide +kernel
theorem dX6_canBe_17 : decode cX6_canBe 17 = .ok (.getfield 85, 3) := by decide +kernel
theorem dX6_canBe_20 : decode cX6_canBe 20 = .ok (.if_icmp .ge 93, 3) := by decide +kernel
theorem dX6_canBe_23 : decode cX6_canBe 23 = .ok (.iload_n 1, 1) := by decide +kernel
theorem dX6_canBe_24 : decode cX6_canBe 24 = .ok (.iload 4, 2) := by decide +kernel
theorem dX6_canBe_26 : decode cX6_canBe 26 = .ok (.invokestatic 95, 3) := by decide +kernel
theorem dX6_canBe_29 : decode cX6_canBe 29 = .ok (.ifCond .eq 78, 3) := by decide +kernel
theorem dX6_canBe_32 : decode cX6_canBe 32 = .ok (.aload_n 0, 1) := by decide +kernel
theorem dX6_canBe_33 : decode cX6_canBe 33 = .ok (.getfield 66, 3) := by decide +kernel
theorem dX6_canBe_36 : decode cX6_canBe 36 = .ok (.iload 4, 2) := by decide +kernel
theorem dX6_canBe_38 : decode cX6_canBe 38 = .ok (.iaload, 1) := by decide +kernel
theorem dX6_canBe_39 : decode cX6_canBe 39 = .ok (.iload_n 3, 1) := by decide +kernel
theorem dX6_canBe_40 : decode cX6_canBe 40 = .ok (.iload_n 1, 1) := by decide +kernel
theorem dX6_canBe_41 : decode cX6_canBe 41 = .ok (.ior, 1) := by decide +kernel
theorem dX6_canBe_42 : decode cX6_canBe 42 = .ok (.iconst (-1), 1) := by decide +kernel
theorem dX6_canBe_43 : decode cX6_canBe 43 = .ok (.ixor, 1) := by decide +kernel
theorem dX6_canBe_44 : decode cX6_canBe 44 = .ok (.iand, 1) := by decide +kernel
theorem dX6_canBe_45 : decode cX6_canBe 45 = .ok (.ifCond .eq 27, 3) := by decide +kernel
theorem dX6_canBe_48 : decode cX6_canBe 48 = .ok (.aload_n 0, 1) := by decide +kernel
theorem dX6_canBe_49 : decode cX6_canBe 49 = .ok (.getfield 113, 3) := by decide +kernel
theorem dX6_canBe_52 : decode cX6_canBe 52 = .ok (.iconst 1, 1) := by decide +kernel
theorem dX6_canBe_53 : decode cX6_canBe 53 = .ok (.if_icmp .ne 23, 3) := by decide +kernel
theorem dX6_canBe_56 : decode cX6_canBe 56 = .ok (.aload_n 0, 1) := by decide +kernel
theorem dX6_canBe_57 : decode cX6_canBe 57 = .ok (.getfield 63, 3) := by decide +kernel
theorem dX6_canBe_60 : decode cX6_canBe 60 = .ok (.iload 4, 2) := by decide +kernel
theorem dX6_canBe_62 : decode cX6_canBe 62 = .ok (.iaload, 1) := by decide +kernel
theorem dX6_canBe_63 : decode cX6_canBe 63 = .ok (.iload_n 3, 1) := by decide +kernel
theorem dX6_canBe_64 : decode cX6_canBe 64 = .ok (.iload_n 1, 1) := by decide +kernel
theorem dX6_canBe_65 : decode cX6_canBe 65 = .ok (.ior, 1) := by decide +kernel
theorem dX6_canBe_66 : decode cX6_canBe 66 = .ok (.iconst (-1), 1) := by decide +kernel
theorem dX6_canBe_67 : decode cX6_canBe 67 = .ok (.ixor, 1) := by decide +kernel
theorem dX6_canBe_68 : decode cX6_canBe 68 = .ok (.iand, 1) := by decide +kernel
theorem dX6_canBe_69 : decode cX6_canBe 69 = .ok (.ifCond .ne 7, 3) := by decide +kernel
theorem dX6_canBe_72 : decode cX6_canBe 72 = .ok (.iconst 1, 1) := by decide +kernel
theorem dX6_canBe_73 : decode cX6_canBe 73 = .ok (.goto 4, 3) := by decide +kernel
theorem dX6_canBe_76 : decode cX6_canBe 76 = .ok (.iconst 0, 1) := by decide +kernel
theorem dX6_canBe_77 : decode cX6_canBe 77 = .ok (.istore 5, 2) := by decide +kernel
theorem dX6_canBe_79 : decode cX6_canBe 79 = .ok (.iload 5, 2) := by decide +kernel
theorem dX6_canBe_81 : decode cX6_canBe 81 = .ok (.ifCond .eq 24, 3) := by decide +kernel
theorem dX6_canBe_84 : decode cX6_canBe 84 = .ok (.aload_n 0, 1) := by decide +kernel
theorem dX6_canBe_85 : decode cX6_canBe 85 = .ok (.getfield 22, 3) := by decide +kernel
theorem dX6_canBe_88 : decode cX6_canBe 88 = .ok (.iload 4, 2) := by decide +kernel
theorem dX6_canBe_90 : decode cX6_canBe 90 = .ok (.iaload, 1) := by decide +kernel
theorem dX6_canBe_91 : decode cX6_canBe 91 = .ok (.ifCond .le 16, 3) := by decide +kernel
theorem dX6_canBe_94 : decode cX6_canBe 94 = .ok (.aload_n 0, 1) := by decide +kernel
theorem dX6_canBe_95 : decode cX6_canBe 95 = .ok (.getfield 22, 3) := by decide +kernel
theorem dX6_canBe_98 : decode cX6_canBe 98 = .ok (.iload 4, 2) := by decide +kernel
theorem dX6_canBe_100 : decode cX6_canBe 100 = .ok (.iaload, 1) := by decide +kernel
theorem dX6_canBe_101 : decode cX6_canBe 101 = .ok (.iload_n 2, 1) := by decide +kernel
theorem dX6_canBe_102 : decode cX6_canBe 102 = .ok (.if_icmp .eq 5, 3) := by decide +kernel
theorem dX6_canBe_105 : decode cX6_canBe 105 = .ok (.iconst 0, 1) := by decide +kernel
theorem dX6_canBe_106 : decode cX6_canBe 106 = .ok (.ireturn, 1) := by decide +kernel
theorem dX6_canBe_107 : decode cX6_canBe 107 = .ok (.iinc 4 1, 3) := by decide +kernel
theorem dX6_canBe_110 : decode cX6_canBe 110 = .ok (.goto (-96), 3) := by decide +kernel
theorem dX6_canBe_113 : decode cX6_canBe 113 = .ok (.iconst 1, 1) := by decide +kernel
theorem dX6_canBe_114 : decode cX6_canBe 114 = .ok (.ireturn, 1) := by decide +kernel
set_option maxRecDepth 20000 in
set_option maxRecDepth 20000 in
theorem ggX6_tellWays_X6_tellSets : GoodIn wsX6_tellWays wsX6_tellSets := goodIn_r _ [6, 7, 8, 9, 10, 11, 12, 13, 14, 15, 16, 5, 17, 18, 19, 20, 21, 22, 23, 24, 25, 26, 27, 28, 29, 30, 31, 32, 33, 34, 35, 36, 37, 38, 39, 40, 41, 42, 43, 44, 45, 51, 52, 53, 54, 55, 56, 57, 58, 59, 60, 61, 62, 63, 64, 65, 66, 67, 68, 69, 70, 71, 72, 73, 74, 75, 76, 77, 78, 79] rfl (by decide +kernel)
set_option maxRecDepth 20000 in
theorem gX6_tellWays_X6_tellSets : GoodIn wsX6_tellWays (wsV RX6 155 RX6 yX6_tellSets wsX6_tellSets) := goodIn_app (goodIn_of _ (by decide +kernel)) ggX6_tellWays_X6_tellSets
set_option maxRecDepth 20000 in
set_option maxRecDepth 20000 in
theorem ggX6_tellWays_X6_all : GoodIn wsX6_tellWays wsX6_all := goodIn_r _ [36, 7, 51, 52, 53, 54, 55, 56, 57, 58, 59, 60, 61, 62, 63, 64, 65, 66, 67, 68, 69, 70, 71, 72, 73, 74, 75, 76, 77, 78, 79] rfl (by decide +kernel)
set_option maxRecDepth 20000 in
theorem gX6_tellWays_X6_all : GoodIn wsX6_tellWays (wsV RX6 152 RX6 yX6_all wsX6_all) := goodIn_app (goodIn_of _ (by decide +kernel)) ggX6_tellWays_X6_all
set_option maxRecDepth 20000 in
set_option maxRecDepth 20000 in
theorem ggX6_tellWays_X6_canBe : GoodIn wsX6_tellWays wsX6_canBe := goodIn_r _ [49, 13, 7, 8, 30, 9, 50, 19, 20, 5, 21, 51, 52, 53, 54, 55, 56, 57, 58, 59, 60, 61, 62, 63, 64, 65, 66, 67, 68, 69, 70, 71, 72, 73, 74, 75, 76, 77, 78, 79] rfl (by decide +kernel)
set_option maxRecDepth 20000 in
theorem gX6_tellWays_X6_canBe : GoodIn wsX6_tellWays (wsV RX6 158 RX6 yX6_canBe wsX6_canBe) := goodIn_app (goodIn_of _ (by decide +kernel)) ggX6_tellWays_X6_canBe
theorem dX6_tellWays_0 : decode cX6_tellWays 0 = .ok (.aload_n 0, 1) := by decide +kernel
theorem dX6_tellWays_1 : decode cX6_tellWays 1 = .ok (.invokevirtual 155, 3) := by decide +kernel
theorem dX6_tellWays_4 : decode cX6_tellWays 4 = .ok (.iconst 0, 1) := by decide +kernel
theorem dX6_tellWays_5 : decode cX6_tellWays 5 = .ok (.istore_n 1, 1) := by decide +kernel
theorem dX6_tellWays_6 : decode cX6_tellWays 6 = .ok (.iload_n 1, 1) := by decide +kernel
theorem dX6_tellWays_7 : decode cX6_tellWays 7 = .ok (.bipush 10, 2) := by decide +kernel
theorem dX6_tellWays_9 : decode cX6_tellWays 9 = .ok (.if_icmp .gt 179, 3) := by decide +kernel
theorem dX6_tellWays_12 : decode cX6_tellWays 12 = .ok (.iconst 0, 1) := by decide +kernel
theorem dX6_tellWays_13 : decode cX6_tellWays 13 = .ok (.istore_n 2, 1) := by decide +kernel
theorem dX6_tellWays_14 : decode cX6_tellWays 14 = .ok (.iload_n 2, 1) := by decide +kernel
theorem dX6_tellWays_15 : decode cX6_tellWays 15 = .ok (.aload_n 0, 1) := by decide +kernel
theorem dX6_tellWays_16 : decode cX6_tellWays 16 = .ok (.invokevirtual 152, 3) := by decide +kernel
theorem dX6_tellWays_19 : decode cX6_tellWays 19 = .ok (.if_icmp .gt 34, 3) := by decide +kernel
theorem dX6_tellWays_22 : decode cX6_tellWays 22 = .ok (.aload_n 0, 1) := by decide +kernel
theorem dX6_tellWays_23 : decode cX6_tellWays 23 = .ok (.getfield 69, 3) := by decide +kernel
theorem dX6_tellWays_26 : decode cX6_tellWays 26 = .ok (.sipush 1024, 3) := by decide +kernel
theorem dX6_tellWays_29 : decode cX6_tellWays 29 = .ok (.iload_n 1, 1) := by decide +kernel
theorem dX6_tellWays_30 : decode cX6_tellWays 30 = .ok (.imul, 1) := by decide +kernel
theorem dX6_tellWays_31 : decode cX6_tellWays 31 = .ok (.iload_n 2, 1) := by decide +kernel
theorem dX6_tellWays_32 : decode cX6_tellWays 32 = .ok (.iadd, 1) := by decide +kernel
theorem dX6_tellWays_33 : decode cX6_tellWays 33 = .ok (.iload_n 1, 1) := by decide +kernel
theorem dX6_tellWays_34 : decode cX6_tellWays 34 = .ok (.ifCond .ne 11, 3) := by decide +kernel
theorem dX6_tellWays_37 : decode cX6_tellWays 37 = .ok (.iload_n 2, 1) := by decide +kernel
theorem dX6_tellWays_38 : decode cX6_tellWays 38 = .ok (.ifCond .ne 7, 3) := by decide +kernel
theorem dX6_tellWays_41 : decode cX6_tellWays 41 = .ok (.lconst 1, 1) := by decide +kernel
theorem dX6_tellWays_42 : decode cX6_tellWays 42 = .ok (.goto 4, 3) := by decide +kernel
theorem dX6_tellWays_45 : decode cX6_tellWays 45 = .ok (.lconst 0, 1) := by decide +kernel
theorem dX6_tellWays_46 : decode cX6_tellWays 46 = .ok (.lastore, 1) := by decide +kernel
theorem dX6_tellWays_47 : decode cX6_tellWays 47 = .ok (.iinc 2 1, 3) := by decide +kernel
theorem dX6_tellWays_50 : decode cX6_tellWays 50 = .ok (.goto (-36), 3) := by decide +kernel
theorem dX6_tellWays_53 : decode cX6_tellWays 53 = .ok (.iconst 0, 1) := by decide +kernel
theorem dX6_tellWays_54 : decode cX6_tellWays 54 = .ok (.istore_n 2, 1) := by decide +kernel
theorem dX6_tellWays_55 : decode cX6_tellWays 55 = .ok (.iload_n 2, 1) := by decide +kernel
theorem dX6_tellWays_56 : decode cX6_tellWays 56 = .ok (.aload_n 0, 1) := by decide +kernel
theorem dX6_tellWays_57 : decode cX6_tellWays 57 = .ok (.invokevirtual 152, 3) := by decide +kernel
theorem dX6_tellWays_60 : decode cX6_tellWays 60 = .ok (.if_icmp .gt 100, 3) := by decide +kernel
theorem dX6_tellWays_63 : decode cX6_tellWays 63 = .ok (.iload_n 1, 1) := by decide +kernel
theorem dX6_tellWays_64 : decode cX6_tellWays 64 = .ok (.ifCond .le 96, 3) := by decide +kernel
theorem dX6_tellWays_67 : decode cX6_tellWays 67 = .ok (.aload_n 0, 1) := by decide +kernel
theorem dX6_tellWays_68 : decode cX6_tellWays 68 = .ok (.getfield 69, 3) := by decide +kernel
theorem dX6_tellWays_71 : decode cX6_tellWays 71 = .ok (.sipush 1024, 3) := by decide +kernel
theorem dX6_tellWays_74 : decode cX6_tellWays 74 = .ok (.iload_n 1, 1) := by decide +kernel
theorem dX6_tellWays_75 : decode cX6_tellWays 75 = .ok (.iconst 1, 1) := by decide +kernel
theorem dX6_tellWays_76 : decode cX6_tellWays 76 = .ok (.isub, 1) := by decide +kernel
theorem dX6_tellWays_77 : decode cX6_tellWays 77 = .ok (.imul, 1) := by decide +kernel
theorem dX6_tellWays_78 : decode cX6_tellWays 78 = .ok (.iload_n 2, 1) := by decide +kernel
theorem dX6_tellWays_79 : decode cX6_tellWays 79 = .ok (.iadd, 1) := by decide +kernel
theorem dX6_tellWays_80 : decode cX6_tellWays 80 = .ok (.laload, 1) := by decide +kernel
theorem dX6_tellWays_81 : decode cX6_tellWays 81 = .ok (.lstore_n 3, 1) := by decide +kernel
theorem dX6_tellWays_82 : decode cX6_tellWays 82 = .ok (.aload_n 0, 1) := by decide +kernel
theorem dX6_tellWays_83 : decode cX6_tellWays 83 = .ok (.invokevirtual 152, 3) := by decide +kernel
theorem dX6_tellWays_86 : decode cX6_tellWays 86 = .ok (.iload_n 2, 1) := by decide +kernel
theorem dX6_tellWays_87 : decode cX6_tellWays 87 = .ok (.iconst (-1), 1) := by decide +kernel
theorem dX6_tellWays_88 : decode cX6_tellWays 88 = .ok (.ixor, 1) := by decide +kernel
theorem dX6_tellWays_89 : decode cX6_tellWays 89 = .ok (.iand, 1) := by decide +kernel
theorem dX6_tellWays_90 : decode cX6_tellWays 90 = .ok (.istore 5, 2) := by decide +kernel
theorem dX6_tellWays_92 : decode cX6_tellWays 92 = .ok (.iconst 0, 1) := by decide +kernel
theorem dX6_tellWays_93 : decode cX6_tellWays 93 = .ok (.istore 6, 2) := by decide +kernel
theorem dX6_tellWays_95 : decode cX6_tellWays 95 = .ok (.iload 6, 2) := by decide +kernel
theorem dX6_tellWays_97 : decode cX6_tellWays 97 = .ok (.iload 5, 2) := by decide +kernel
theorem dX6_tellWays_99 : decode cX6_tellWays 99 = .ok (.if_icmp .gt 55, 3) := by decide +kernel
theorem dX6_tellWays_102 : decode cX6_tellWays 102 = .ok (.lload_n 3, 1) := by decide +kernel
theorem dX6_tellWays_103 : decode cX6_tellWays 103 = .ok (.lconst 0, 1) := by decide +kernel
theorem dX6_tellWays_104 : decode cX6_tellWays 104 = .ok (.lcmp, 1) := by decide +kernel
theorem dX6_tellWays_105 : decode cX6_tellWays 105 = .ok (.ifCond .le 49, 3) := by decide +kernel
theorem dX6_tellWays_108 : decode cX6_tellWays 108 = .ok (.iload 6, 2) := by decide +kernel
theorem dX6_tellWays_110 : decode cX6_tellWays 110 = .ok (.iload 5, 2) := by decide +kernel
theorem dX6_tellWays_112 : decode cX6_tellWays 112 = .ok (.iconst (-1), 1) := by decide +kernel
theorem dX6_tellWays_113 : decode cX6_tellWays 113 = .ok (.ixor, 1) := by decide +kernel
theorem dX6_tellWays_114 : decode cX6_tellWays 114 = .ok (.iand, 1) := by decide +kernel
theorem dX6_tellWays_115 : decode cX6_tellWays 115 = .ok (.ifCond .ne 33, 3) := by decide +kernel
theorem dX6_tellWays_118 : decode cX6_tellWays 118 = .ok (.aload_n 0, 1) := by decide +kernel
theorem dX6_tellWays_119 : decode cX6_tellWays 119 = .ok (.iload 6, 2) := by decide +kernel
theorem dX6_tellWays_121 : decode cX6_tellWays 121 = .ok (.iload_n 1, 1) := by decide +kernel
theorem dX6_tellWays_122 : decode cX6_tellWays 122 = .ok (.iload_n 2, 1) := by decide +kernel
theorem dX6_tellWays_123 : decode cX6_tellWays 123 = .ok (.invokevirtual 158, 3) := by decide +kernel
theorem dX6_tellWays_126 : decode cX6_tellWays 126 = .ok (.ifCond .eq 22, 3) := by decide +kernel
theorem dX6_tellWays_129 : decode cX6_tellWays 129 = .ok (.aload_n 0, 1) := by decide +kernel
theorem dX6_tellWays_130 : decode cX6_tellWays 130 = .ok (.getfield 69, 3) := by decide +kernel
theorem dX6_tellWays_133 : decode cX6_tellWays 133 = .ok (.sipush 1024, 3) := by decide +kernel
theorem dX6_tellWays_136 : decode cX6_tellWays 136 = .ok (.iload_n 1, 1) := by decide +kernel
theorem dX6_tellWays_137 : decode cX6_tellWays 137 = .ok (.imul, 1) := by decide +kernel
theorem dX6_tellWays_138 : decode cX6_tellWays 138 = .ok (.iload_n 2, 1) := by decide +kernel
theorem dX6_tellWays_139 : decode cX6_tellWays 139 = .ok (.iload 6, 2) := by decide +kernel
theorem dX6_tellWays_141 : decode cX6_tellWays 141 = .ok (.ior, 1) := by decide +kernel
theorem dX6_tellWays_142 : decode cX6_tellWays 142 = .ok (.iadd, 1) := by decide +kernel
theorem dX6_tellWays_143 : decode cX6_tellWays 143 = .ok (.dup2, 1) := by decide +kernel
theorem dX6_tellWays_144 : decode cX6_tellWays 144 = .ok (.laload, 1) := by decide +kernel
theorem dX6_tellWays_145 : decode cX6_tellWays 145 = .ok (.lload_n 3, 1) := by decide +kernel
theorem dX6_tellWays_146 : decode cX6_tellWays 146 = .ok (.ladd, 1) := by decide +kernel
theorem dX6_tellWays_147 : decode cX6_tellWays 147 = .ok (.lastore, 1) := by decide +kernel
theorem dX6_tellWays_148 : decode cX6_tellWays 148 = .ok (.iinc 6 1, 3) := by decide +kernel
theorem dX6_tellWays_151 : decode cX6_tellWays 151 = .ok (.goto (-56), 3) := by decide +kernel
theorem dX6_tellWays_154 : decode cX6_tellWays 154 = .ok (.iinc 2 1, 3) := by decide +kernel
theorem dX6_tellWays_157 : decode cX6_tellWays 157 = .ok (.goto (-102), 3) := by decide +kernel
theorem dX6_tellWays_160 : decode cX6_tellWays 160 = .ok (.aload_n 0, 1) := by decide +kernel
theorem dX6_tellWays_161 : decode cX6_tellWays 161 = .ok (.getfield 69, 3) := by decide +kernel
theorem dX6_tellWays_164 : decode cX6_tellWays 164 = .ok (.sipush 1024, 3) := by decide +kernel
theorem dX6_tellWays_167 : decode cX6_tellWays 167 = .ok (.iload_n 1, 1) := by decide +kernel
theorem dX6_tellWays_168 : decode cX6_tellWays 168 = .ok (.imul, 1) := by decide +kernel
theorem dX6_tellWays_169 : decode cX6_tellWays 169 = .ok (.aload_n 0, 1) := by decide +kernel
theorem dX6_tellWays_170 : decode cX6_tellWays 170 = .ok (.invokevirtual 152, 3) := by decide +kernel
theorem dX6_tellWays_173 : decode cX6_tellWays 173 = .ok (.iadd, 1) := by decide +kernel
theorem dX6_tellWays_174 : decode cX6_tellWays 174 = .ok (.laload, 1) := by decide +kernel
theorem dX6_tellWays_175 : decode cX6_tellWays 175 = .ok (.lconst 0, 1) := by decide +kernel
theorem dX6_tellWays_176 : decode cX6_tellWays 176 = .ok (.lcmp, 1) := by decide +kernel
theorem dX6_tellWays_177 : decode cX6_tellWays 177 = .ok (.ifCond .le 5, 3) := by decide +kernel
theorem dX6_tellWays_180 : decode cX6_tellWays 180 = .ok (.iload_n 1, 1) := by decide +kernel
theorem dX6_tellWays_181 : decode cX6_tellWays 181 = .ok (.ireturn, 1) := by decide +kernel
theorem dX6_tellWays_182 : decode cX6_tellWays 182 = .ok (.iinc 1 1, 3) := by decide +kernel
theorem dX6_tellWays_185 : decode cX6_tellWays 185 = .ok (.goto (-179), 3) := by decide +kernel
theorem dX6_tellWays_188 : decode cX6_tellWays 188 = .ok (.iconst (-1), 1) := by decide +kernel
theorem dX6_tellWays_189 : decode cX6_tellWays 189 = .ok (.ireturn, 1) := by decide +kernel
set_option maxRecDepth 20000 in
set_option maxRecDepth 20000 in
theorem ggX6_fewest_X6_tellWays : GoodIn wsX6_fewest wsX6_tellWays := goodIn_r _ [5, 6, 7, 8, 9, 4, 10, 11, 12, 13, 14, 15, 16, 17, 18, 19, 20, 21, 22, 23, 24, 25, 26, 27, 28, 29, 30, 31, 32, 33, 34, 35, 36, 37, 38, 39, 40, 41, 42, 43, 44, 45, 46, 47, 48, 49, 50, 51, 52, 53, 54, 55, 56, 57, 58, 59, 60, 61, 62, 63, 64, 65, 66, 67, 68, 69, 70, 71, 72, 73, 74, 75, 76, 77, 78, 79, 80, 81, 82, 83] rfl (by decide +kernel)
set_option maxRecDepth 20000 in
theorem gX6_fewest_X6_tellWays : GoodIn wsX6_fewest (wsV RX6 162 RX6 yX6_tellWays wsX6_tellWays) := goodIn_app (goodIn_of _ (by decide +kernel)) ggX6_fewest_X6_tellWays
theorem dX6_fewest_0 : decode cX6_fewest 0 = .ok (.aload_n 0, 1) := by decide +kernel
theorem dX6_fewest_1 : decode cX6_fewest 1 = .ok (.invokevirtual 162, 3) := by decide +kernel
theorem dX6_fewest_4 : decode cX6_fewest 4 = .ok (.istore_n 1, 1) := by decide +kernel
theorem dX6_fewest_5 : decode cX6_fewest 5 = .ok (.iload_n 1, 1) := by decide +kernel
theorem dX6_fewest_6 : decode cX6_fewest 6 = .ok (.ifCond .ge 8, 3) := by decide +kernel
theorem dX6_fewest_9 : decode cX6_fewest 9 = .ok (.bipush (-4), 2) := by decide +kernel
theorem dX6_fewest_11 : decode cX6_fewest 11 = .ok (.goto 4, 3) := by decide +kernel
theorem dX6_fewest_14 : decode cX6_fewest 14 = .ok (.iload_n 1, 1) := by decide +kernel
theorem dX6_fewest_15 : decode cX6_fewest 15 = .ok (.ireturn, 1) := by decide +kernel
set_option maxRecDepth 20000 in
set_option maxRecDepth 20000 in
theorem ggX6_many_X6_tellWays : GoodIn wsX6_many wsX6_tellWays := goodIn_r _ [6, 1, 7, 8, 9, 5, 10, 11, 12, 13, 14, 15, 16, 17, 18, 19, 20, 21, 22, 23, 24, 25, 26, 27, 28, 29, 30, 31, 32, 33, 34, 35, 36, 37, 38, 39, 40, 41, 42, 43, 44, 45, 46, 47, 48, 49, 50, 51, 52, 53, 54, 55, 56, 57, 58, 59, 60, 61, 62, 63, 64, 65, 66, 67, 68, 69, 70, 71, 72, 73, 74, 75, 76, 77, 78, 79, 80, 81, 82, 83] rfl (by decide +kernel)
set_option maxRecDepth 20000 in
theorem gX6_many_X6_tellWays : GoodIn wsX6_many (wsV RX6 162 RX6 yX6_tellWays wsX6_tellWays) := goodIn_app (goodIn_of _ (by decide +kernel)) ggX6_many_X6_tellWays
set_option maxRecDepth 20000 in
set_option maxRecDepth 20000 in
theorem ggX6_many_X6_all : GoodIn wsX6_many wsX6_all := goodIn_r _ [40, 11, 55, 56, 57, 58, 59, 60, 61, 62, 63, 64, 65, 66, 67, 68, 69, 70, 71, 72, 73, 74, 75, 76, 77, 78, 79, 80, 81, 82, 83] rfl (by decide +kernel)
set_option maxRecDepth 20000 in
theorem gX6_many_X6_all : GoodIn wsX6_many (wsV RX6 152 RX6 yX6_all wsX6_all) := goodIn_app (goodIn_of _ (by decide +kernel)) ggX6_many_X6_all
theorem dX6_many_0 : decode cX6_many 0 = .ok (.aload_n 0, 1) := by decide +kernel
theorem dX6_many_1 : decode cX6_many 1 = .ok (.invokevirtual 162, 3) := by decide +kernel
theorem dX6_many_4 : decode cX6_many 4 = .ok (.istore_n 1, 1) := by decide +kernel
theorem dX6_many_5 : decode cX6_many 5 = .ok (.iload_n 1, 1) := by decide +kernel
theorem dX6_many_6 : decode cX6_many 6 = .ok (.ifCond .ge 7, 3) := by decide +kernel
theorem dX6_many_9 : decode cX6_many 9 = .ok (.lconst 0, 1) := by decide +kernel
theorem dX6_many_10 : decode cX6_many 10 = .ok (.goto 18, 3) := by decide +kernel
theorem dX6_many_13 : decode cX6_many 13 = .ok (.aload_n 0, 1) := by decide +kernel
theorem dX6_many_14 : decode cX6_many 14 = .ok (.getfield 69, 3) := by decide +kernel
theorem dX6_many_17 : decode cX6_many 17 = .ok (.sipush 1024, 3) := by decide +kernel
theorem dX6_many_20 : decode cX6_many 20 = .ok (.iload_n 1, 1) := by decide +kernel
theorem dX6_many_21 : decode cX6_many 21 = .ok (.imul, 1) := by decide +kernel
theorem dX6_many_22 : decode cX6_many 22 = .ok (.aload_n 0, 1) := by decide +kernel
theorem dX6_many_23 : decode cX6_many 23 = .ok (.invokevirtual 152, 3) := by decide +kernel
theorem dX6_many_26 : decode cX6_many 26 = .ok (.iadd, 1) := by decide +kernel
theorem dX6_many_27 : decode cX6_many 27 = .ok (.laload, 1) := by decide +kernel
theorem dX6_many_28 : decode cX6_many 28 = .ok (.lreturn, 1) := by decide +kernel
