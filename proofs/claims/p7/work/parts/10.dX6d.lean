theorem dX6_isSheet_0 : decode cX6_isSheet 0 = .ok (.iload_n 0, 1) := by decide +kernel
theorem dX6_isSheet_1 : decode cX6_isSheet 1 = .ok (.ifCond .lt 12, 3) := by decide +kernel
theorem dX6_isSheet_4 : decode cX6_isSheet 4 = .ok (.iload_n 0, 1) := by decide +kernel
theorem dX6_isSheet_5 : decode cX6_isSheet 5 = .ok (.iconst 4, 1) := by decide +kernel
theorem dX6_isSheet_6 : decode cX6_isSheet 6 = .ok (.if_icmp .ge 7, 3) := by decide +kernel
theorem dX6_isSheet_9 : decode cX6_isSheet 9 = .ok (.iconst 1, 1) := by decide +kernel
theorem dX6_isSheet_10 : decode cX6_isSheet 10 = .ok (.goto 4, 3) := by decide +kernel
theorem dX6_isSheet_13 : decode cX6_isSheet 13 = .ok (.iconst 0, 1) := by decide +kernel
theorem dX6_isSheet_14 : decode cX6_isSheet 14 = .ok (.ireturn, 1) := by decide +kernel
set_option maxRecDepth 20000 in
set_option maxRecDepth 20000 in
theorem ggX6_sheet_X6_isSheet : GoodIn wsX6_sheet wsX6_isSheet := goodIn_r _ [7] rfl (by decide +kernel)
set_option maxRecDepth 20000 in
theorem gX6_sheet_X6_isSheet : GoodIn wsX6_sheet (va_wsS RX6 195 yX6_isSheet wsX6_isSheet) := goodIn_app (goodIn_of _ (by decide +kernel)) ggX6_sheet_X6_isSheet
set_option maxRecDepth 20000 in
set_option maxRecDepth 20000 in
theorem ggX6_sheet_X6_meet : GoodIn wsX6_sheet wsX6_meet := goodIn_r _ [11, 12, 13, 14, 15, 16, 17, 18, 19, 20, 21, 22, 23, 24, 25, 26, 27, 28, 29, 30, 31, 32, 33, 34, 35, 36, 37, 38, 39, 40, 41] rfl (by decide +kernel)
set_option maxRecDepth 20000 in
theorem gX6_sheet_X6_meet : GoodIn wsX6_sheet (wsV RX6 198 RX6 yX6_meet wsX6_meet) := goodIn_app (goodIn_of _ (by decide +kernel)) ggX6_sheet_X6_meet
theorem dX6_sheet_0 : decode cX6_sheet 0 = .ok (.iload_n 1, 1) := by decide +kernel
theorem dX6_sheet_1 : decode cX6_sheet 1 = .ok (.invokestatic 195, 3) := by decide +kernel
theorem dX6_sheet_4 : decode cX6_sheet 4 = .ok (.ifCond .eq 18, 3) := by decide +kernel
theorem dX6_sheet_7 : decode cX6_sheet 7 = .ok (.iload_n 2, 1) := by decide +kernel
theorem dX6_sheet_8 : decode cX6_sheet 8 = .ok (.ifCond .lt 14, 3) := by decide +kernel
theorem dX6_sheet_11 : decode cX6_sheet 11 = .ok (.iload_n 2, 1) := by decide +kernel
theorem dX6_sheet_12 : decode cX6_sheet 12 = .ok (.iconst 2, 1) := by decide +kernel
theorem dX6_sheet_13 : decode cX6_sheet 13 = .ok (.if_icmp .gt 9, 3) := by decide +kernel
theorem dX6_sheet_16 : decode cX6_sheet 16 = .ok (.iload_n 3, 1) := by decide +kernel
theorem dX6_sheet_17 : decode cX6_sheet 17 = .ok (.bipush 40, 2) := by decide +kernel
theorem dX6_sheet_19 : decode cX6_sheet 19 = .ok (.if_icmp .le 6, 3) := by decide +kernel
theorem dX6_sheet_22 : decode cX6_sheet 22 = .ok (.bipush (-2), 2) := by decide +kernel
theorem dX6_sheet_24 : decode cX6_sheet 24 = .ok (.ireturn, 1) := by decide +kernel
theorem dX6_sheet_25 : decode cX6_sheet 25 = .ok (.iload_n 3, 1) := by decide +kernel
theorem dX6_sheet_26 : decode cX6_sheet 26 = .ok (.ifCond .ge 10, 3) := by decide +kernel
theorem dX6_sheet_29 : decode cX6_sheet 29 = .ok (.aload_n 0, 1) := by decide +kernel
theorem dX6_sheet_30 : decode cX6_sheet 30 = .ok (.bipush (-13), 2) := by decide +kernel
theorem dX6_sheet_32 : decode cX6_sheet 32 = .ok (.invokevirtual 198, 3) := by decide +kernel
theorem dX6_sheet_35 : decode cX6_sheet 35 = .ok (.ireturn, 1) := by decide +kernel
theorem dX6_sheet_36 : decode cX6_sheet 36 = .ok (.aload_n 0, 1) := by decide +kernel
theorem dX6_sheet_37 : decode cX6_sheet 37 = .ok (.getfield 38, 3) := by decide +kernel
theorem dX6_sheet_40 : decode cX6_sheet 40 = .ok (.iload_n 1, 1) := by decide +kernel
theorem dX6_sheet_41 : decode cX6_sheet 41 = .ok (.iload_n 2, 1) := by decide +kernel
theorem dX6_sheet_42 : decode cX6_sheet 42 = .ok (.iastore, 1) := by decide +kernel
theorem dX6_sheet_43 : decode cX6_sheet 43 = .ok (.aload_n 0, 1) := by decide +kernel
theorem dX6_sheet_44 : decode cX6_sheet 44 = .ok (.getfield 41, 3) := by decide +kernel
theorem dX6_sheet_47 : decode cX6_sheet 47 = .ok (.iload_n 1, 1) := by decide +kernel
theorem dX6_sheet_48 : decode cX6_sheet 48 = .ok (.iload_n 3, 1) := by decide +kernel
theorem dX6_sheet_49 : decode cX6_sheet 49 = .ok (.iastore, 1) := by decide +kernel
theorem dX6_sheet_50 : decode cX6_sheet 50 = .ok (.iconst 0, 1) := by decide +kernel
theorem dX6_sheet_51 : decode cX6_sheet 51 = .ok (.istore 4, 2) := by decide +kernel
theorem dX6_sheet_53 : decode cX6_sheet 53 = .ok (.iload 4, 2) := by decide +kernel
theorem dX6_sheet_55 : decode cX6_sheet 55 = .ok (.iload_n 3, 1) := by decide +kernel
theorem dX6_sheet_56 : decode cX6_sheet 56 = .ok (.if_icmp .ge 22, 3) := by decide +kernel
theorem dX6_sheet_59 : decode cX6_sheet 59 = .ok (.aload_n 0, 1) := by decide +kernel
theorem dX6_sheet_60 : decode cX6_sheet 60 = .ok (.getfield 44, 3) := by decide +kernel
theorem dX6_sheet_63 : decode cX6_sheet 63 = .ok (.bipush 40, 2) := by decide +kernel
theorem dX6_sheet_65 : decode cX6_sheet 65 = .ok (.iload_n 1, 1) := by decide +kernel
theorem dX6_sheet_66 : decode cX6_sheet 66 = .ok (.imul, 1) := by decide +kernel
theorem dX6_sheet_67 : decode cX6_sheet 67 = .ok (.iload 4, 2) := by decide +kernel
theorem dX6_sheet_69 : decode cX6_sheet 69 = .ok (.iadd, 1) := by decide +kernel
theorem dX6_sheet_70 : decode cX6_sheet 70 = .ok (.iconst 0, 1) := by decide +kernel
theorem dX6_sheet_71 : decode cX6_sheet 71 = .ok (.iastore, 1) := by decide +kernel
theorem dX6_sheet_72 : decode cX6_sheet 72 = .ok (.iinc 4 1, 3) := by decide +kernel
theorem dX6_sheet_75 : decode cX6_sheet 75 = .ok (.goto (-22), 3) := by decide +kernel
theorem dX6_sheet_78 : decode cX6_sheet 78 = .ok (.iload_n 3, 1) := by decide +kernel
theorem dX6_sheet_79 : decode cX6_sheet 79 = .ok (.ireturn, 1) := by decide +kernel
set_option maxRecDepth 20000 in
set_option maxRecDepth 20000 in
theorem ggX6_write_X6_isSheet : GoodIn wsX6_write wsX6_isSheet := goodIn_r _ [7] rfl (by decide +kernel)
set_option maxRecDepth 20000 in
theorem gX6_write_X6_isSheet : GoodIn wsX6_write (va_wsS RX6 195 yX6_isSheet wsX6_isSheet) := goodIn_app (goodIn_of _ (by decide +kernel)) ggX6_write_X6_isSheet
set_option maxRecDepth 20000 in
set_option maxRecDepth 20000 in
theorem ggX6_write_X6_meet : GoodIn wsX6_write wsX6_meet := goodIn_r _ [11, 12, 13, 14, 15, 16, 17, 18, 19, 20, 21, 22, 23, 24, 25, 26, 27, 28, 29, 30, 31, 32, 33, 34, 35, 36, 37, 38, 39, 40, 41] rfl (by decide +kernel)
set_option maxRecDepth 20000 in
theorem gX6_write_X6_meet : GoodIn wsX6_write (wsV RX6 198 RX6 yX6_meet wsX6_meet) := goodIn_app (goodIn_of _ (by decide +kernel)) ggX6_write_X6_meet
theorem dX6_write_0 : decode cX6_write 0 = .ok (.iload_n 1, 1) := by decide +kernel
theorem dX6_write_1 : decode cX6_write 1 = .ok (.invokestatic 195, 3) := by decide +kernel
theorem dX6_write_4 : decode cX6_write 4 = .ok (.ifCond .ne 6, 3) := by decide +kernel
theorem dX6_write_7 : decode cX6_write 7 = .ok (.bipush (-2), 2) := by decide +kernel
theorem dX6_write_9 : decode cX6_write 9 = .ok (.ireturn, 1) := by decide +kernel
theorem dX6_write_10 : decode cX6_write 10 = .ok (.aload_n 0, 1) := by decide +kernel
theorem dX6_write_11 : decode cX6_write 11 = .ok (.getfield 41, 3) := by decide +kernel
theorem dX6_write_14 : decode cX6_write 14 = .ok (.iload_n 1, 1) := by decide +kernel
theorem dX6_write_15 : decode cX6_write 15 = .ok (.iaload, 1) := by decide +kernel
theorem dX6_write_16 : decode cX6_write 16 = .ok (.ifCond .ge 10, 3) := by decide +kernel
theorem dX6_write_19 : decode cX6_write 19 = .ok (.aload_n 0, 1) := by decide +kernel
theorem dX6_write_20 : decode cX6_write 20 = .ok (.bipush (-10), 2) := by decide +kernel
theorem dX6_write_22 : decode cX6_write 22 = .ok (.invokevirtual 198, 3) := by decide +kernel
theorem dX6_write_25 : decode cX6_write 25 = .ok (.ireturn, 1) := by decide +kernel
theorem dX6_write_26 : decode cX6_write 26 = .ok (.iload_n 2, 1) := by decide +kernel
theorem dX6_write_27 : decode cX6_write 27 = .ok (.ifCond .lt 13, 3) := by decide +kernel
theorem dX6_write_30 : decode cX6_write 30 = .ok (.iload_n 2, 1) := by decide +kernel
theorem dX6_write_31 : decode cX6_write 31 = .ok (.aload_n 0, 1) := by decide +kernel
theorem dX6_write_32 : decode cX6_write 32 = .ok (.getfield 41, 3) := by decide +kernel
theorem dX6_write_35 : decode cX6_write 35 = .ok (.iload_n 1, 1) := by decide +kernel
theorem dX6_write_36 : decode cX6_write 36 = .ok (.iaload, 1) := by decide +kernel
theorem dX6_write_37 : decode cX6_write 37 = .ok (.if_icmp .lt 10, 3) := by decide +kernel
theorem dX6_write_40 : decode cX6_write 40 = .ok (.aload_n 0, 1) := by decide +kernel
theorem dX6_write_41 : decode cX6_write 41 = .ok (.bipush (-11), 2) := by decide +kernel
theorem dX6_write_43 : decode cX6_write 43 = .ok (.invokevirtual 198, 3) := by decide +kernel
theorem dX6_write_46 : decode cX6_write 46 = .ok (.ireturn, 1) := by decide +kernel
theorem dX6_write_47 : decode cX6_write 47 = .ok (.aload_n 0, 1) := by decide +kernel
theorem dX6_write_48 : decode cX6_write 48 = .ok (.getfield 44, 3) := by decide +kernel
theorem dX6_write_51 : decode cX6_write 51 = .ok (.bipush 40, 2) := by decide +kernel
theorem dX6_write_53 : decode cX6_write 53 = .ok (.iload_n 1, 1) := by decide +kernel
theorem dX6_write_54 : decode cX6_write 54 = .ok (.imul, 1) := by decide +kernel
theorem dX6_write_55 : decode cX6_write 55 = .ok (.iload_n 2, 1) := by decide +kernel
theorem dX6_write_56 : decode cX6_write 56 = .ok (.iadd, 1) := by decide +kernel
theorem dX6_write_57 : decode cX6_write 57 = .ok (.iaload, 1) := by decide +kernel
theorem dX6_write_58 : decode cX6_write 58 = .ok (.istore 4, 2) := by decide +kernel
theorem dX6_write_60 : decode cX6_write 60 = .ok (.aload_n 0, 1) := by decide +kernel
theorem dX6_write_61 : decode cX6_write 61 = .ok (.getfield 44, 3) := by decide +kernel
theorem dX6_write_64 : decode cX6_write 64 = .ok (.bipush 40, 2) := by decide +kernel
theorem dX6_write_66 : decode cX6_write 66 = .ok (.iload_n 1, 1) := by decide +kernel
theorem dX6_write_67 : decode cX6_write 67 = .ok (.imul, 1) := by decide +kernel
theorem dX6_write_68 : decode cX6_write 68 = .ok (.iload_n 2, 1) := by decide +kernel
theorem dX6_write_69 : decode cX6_write 69 = .ok (.iadd, 1) := by decide +kernel
theorem dX6_write_70 : decode cX6_write 70 = .ok (.aload_n 0, 1) := by decide +kernel
theorem dX6_write_71 : decode cX6_write 71 = .ok (.getfield 38, 3) := by decide +kernel
theorem dX6_write_74 : decode cX6_write 74 = .ok (.iload_n 1, 1) := by decide +kernel
theorem dX6_write_75 : decode cX6_write 75 = .ok (.iaload, 1) := by decide +kernel
theorem dX6_write_76 : decode cX6_write 76 = .ok (.ifCond .ne 8, 3) := by decide +kernel
theorem dX6_write_79 : decode cX6_write 79 = .ok (.iload_n 3, 1) := by decide +kernel
theorem dX6_write_80 : decode cX6_write 80 = .ok (.i2b, 1) := by decide +kernel
theorem dX6_write_81 : decode cX6_write 81 = .ok (.goto 19, 3) := by decide +kernel
theorem dX6_write_84 : decode cX6_write 84 = .ok (.aload_n 0, 1) := by decide +kernel
theorem dX6_write_85 : decode cX6_write 85 = .ok (.getfield 38, 3) := by decide +kernel
theorem dX6_write_88 : decode cX6_write 88 = .ok (.iload_n 1, 1) := by decide +kernel
theorem dX6_write_89 : decode cX6_write 89 = .ok (.iaload, 1) := by decide +kernel
theorem dX6_write_90 : decode cX6_write 90 = .ok (.iconst 1, 1) := by decide +kernel
theorem dX6_write_91 : decode cX6_write 91 = .ok (.if_icmp .ne 8, 3) := by decide +kernel
theorem dX6_write_94 : decode cX6_write 94 = .ok (.iload_n 3, 1) := by decide +kernel
theorem dX6_write_95 : decode cX6_write 95 = .ok (.i2s, 1) := by decide +kernel
theorem dX6_write_96 : decode cX6_write 96 = .ok (.goto 4, 3) := by decide +kernel
theorem dX6_write_99 : decode cX6_write 99 = .ok (.iload_n 3, 1) := by decide +kernel
theorem dX6_write_100 : decode cX6_write 100 = .ok (.iastore, 1) := by decide +kernel
theorem dX6_write_101 : decode cX6_write 101 = .ok (.iload 4, 2) := by decide +kernel
theorem dX6_write_103 : decode cX6_write 103 = .ok (.ireturn, 1) := by decide +kernel
set_option maxRecDepth 20000 in
set_option maxRecDepth 20000 in
theorem ggX6_take_X6_isMake : GoodIn wsX6_take wsX6_isMake := goodIn_r _ [9] rfl (by decide +kernel)
set_option maxRecDepth 20000 in
theorem gX6_take_X6_isMake : GoodIn wsX6_take (va_wsS RX6 92 yX6_isMake wsX6_isMake) := goodIn_app (goodIn_of _ (by decide +kernel)) ggX6_take_X6_isMake
set_option maxRecDepth 20000 in
set_option maxRecDepth 20000 in
theorem ggX6_take_X6_isSheet : GoodIn wsX6_take wsX6_isSheet := goodIn_r _ [12] rfl (by decide +kernel)
set_option maxRecDepth 20000 in
theorem gX6_take_X6_isSheet : GoodIn wsX6_take (va_wsS RX6 195 yX6_isSheet wsX6_isSheet) := goodIn_app (goodIn_of _ (by decide +kernel)) ggX6_take_X6_isSheet
set_option maxRecDepth 20000 in
set_option maxRecDepth 20000 in
theorem ggX6_take_X6_meet : GoodIn wsX6_take wsX6_meet := goodIn_r _ [16, 17, 18, 19, 20, 21, 22, 23, 24, 25, 26, 27, 28, 29, 30, 31, 32, 33, 34, 35, 36, 37, 38, 39, 40, 41, 42, 43, 44, 45, 46] rfl (by decide +kernel)
set_option maxRecDepth 20000 in
theorem gX6_take_X6_meet : GoodIn wsX6_take (wsV RX6 198 RX6 yX6_meet wsX6_meet) := goodIn_app (goodIn_of _ (by decide +kernel)) ggX6_take_X6_meet
theorem dX6_take_0 : decode cX6_take 0 = .ok (.iload_n 1, 1) := by decide +kernel
theorem dX6_take_1 : decode cX6_take 1 = .ok (.invokestatic 92, 3) := by decide +kernel
theorem dX6_take_4 : decode cX6_take 4 = .ok (.ifCond .eq 19, 3) := by decide +kernel
theorem dX6_take_7 : decode cX6_take 7 = .ok (.iload_n 2, 1) := by decide +kernel
theorem dX6_take_8 : decode cX6_take 8 = .ok (.invokestatic 195, 3) := by decide +kernel
theorem dX6_take_11 : decode cX6_take 11 = .ok (.ifCond .eq 12, 3) := by decide +kernel
theorem dX6_take_14 : decode cX6_take 14 = .ok (.iload_n 3, 1) := by decide +kernel
theorem dX6_take_15 : decode cX6_take 15 = .ok (.ifCond .lt 8, 3) := by decide +kernel
theorem dX6_take_18 : decode cX6_take 18 = .ok (.iload_n 3, 1) := by decide +kernel
theorem dX6_take_19 : decode cX6_take 19 = .ok (.iconst 2, 1) := by decide +kernel
theorem dX6_take_20 : decode cX6_take 20 = .ok (.if_icmp .le 6, 3) := by decide +kernel
theorem dX6_take_23 : decode cX6_take 23 = .ok (.bipush (-2), 2) := by decide +kernel
theorem dX6_take_25 : decode cX6_take 25 = .ok (.ireturn, 1) := by decide +kernel
theorem dX6_take_26 : decode cX6_take 26 = .ok (.aload_n 0, 1) := by decide +kernel
theorem dX6_take_27 : decode cX6_take 27 = .ok (.getfield 41, 3) := by decide +kernel
theorem dX6_take_30 : decode cX6_take 30 = .ok (.iload_n 2, 1) := by decide +kernel
theorem dX6_take_31 : decode cX6_take 31 = .ok (.iaload, 1) := by decide +kernel
theorem dX6_take_32 : decode cX6_take 32 = .ok (.ifCond .ge 10, 3) := by decide +kernel
theorem dX6_take_35 : decode cX6_take 35 = .ok (.aload_n 0, 1) := by decide +kernel
theorem dX6_take_36 : decode cX6_take 36 = .ok (.bipush (-10), 2) := by decide +kernel
theorem dX6_take_38 : decode cX6_take 38 = .ok (.invokevirtual 198, 3) := by decide +kernel
theorem dX6_take_41 : decode cX6_take 41 = .ok (.ireturn, 1) := by decide +kernel
theorem dX6_take_42 : decode cX6_take 42 = .ok (.aload_n 0, 1) := by decide +kernel
theorem dX6_take_43 : decode cX6_take 43 = .ok (.getfield 38, 3) := by decide +kernel
theorem dX6_take_46 : decode cX6_take 46 = .ok (.iload_n 2, 1) := by decide +kernel
theorem dX6_take_47 : decode cX6_take 47 = .ok (.iaload, 1) := by decide +kernel
theorem dX6_take_48 : decode cX6_take 48 = .ok (.iload_n 3, 1) := by decide +kernel
theorem dX6_take_49 : decode cX6_take 49 = .ok (.if_icmp .eq 10, 3) := by decide +kernel
theorem dX6_take_52 : decode cX6_take 52 = .ok (.aload_n 0, 1) := by decide +kernel
theorem dX6_take_53 : decode cX6_take 53 = .ok (.bipush (-12), 2) := by decide +kernel
theorem dX6_take_55 : decode cX6_take 55 = .ok (.invokevirtual 198, 3) := by decide +kernel
theorem dX6_take_58 : decode cX6_take 58 = .ok (.ireturn, 1) := by decide +kernel
theorem dX6_take_59 : decode cX6_take 59 = .ok (.aload_n 0, 1) := by decide +kernel
theorem dX6_take_60 : decode cX6_take 60 = .ok (.getfield 85, 3) := by decide +kernel
theorem dX6_take_63 : decode cX6_take 63 = .ok (.ifCond .le 31, 3) := by decide +kernel
theorem dX6_take_66 : decode cX6_take 66 = .ok (.iload 4, 2) := by decide +kernel
theorem dX6_take_68 : decode cX6_take 68 = .ok (.ifCond .lt 19, 3) := by decide +kernel
theorem dX6_take_71 : decode cX6_take 71 = .ok (.iload 4, 2) := by decide +kernel
theorem dX6_take_73 : decode cX6_take 73 = .ok (.aload_n 0, 1) := by decide +kernel
theorem dX6_take_74 : decode cX6_take 74 = .ok (.getfield 41, 3) := by decide +kernel
theorem dX6_take_77 : decode cX6_take 77 = .ok (.iload_n 2, 1) := by decide +kernel
theorem dX6_take_78 : decode cX6_take 78 = .ok (.iaload, 1) := by decide +kernel
theorem dX6_take_79 : decode cX6_take 79 = .ok (.aload_n 0, 1) := by decide +kernel
theorem dX6_take_80 : decode cX6_take 80 = .ok (.getfield 85, 3) := by decide +kernel
theorem dX6_take_83 : decode cX6_take 83 = .ok (.isub, 1) := by decide +kernel
theorem dX6_take_84 : decode cX6_take 84 = .ok (.if_icmp .le 10, 3) := by decide +kernel
theorem dX6_take_87 : decode cX6_take 87 = .ok (.aload_n 0, 1) := by decide +kernel
theorem dX6_take_88 : decode cX6_take 88 = .ok (.bipush (-11), 2) := by decide +kernel
theorem dX6_take_90 : decode cX6_take 90 = .ok (.invokevirtual 198, 3) := by decide +kernel
theorem dX6_take_93 : decode cX6_take 93 = .ok (.ireturn, 1) := by decide +kernel
theorem dX6_take_94 : decode cX6_take 94 = .ok (.iconst 0, 1) := by decide +kernel
theorem dX6_take_95 : decode cX6_take 95 = .ok (.istore 5, 2) := by decide +kernel
theorem dX6_take_97 : decode cX6_take 97 = .ok (.iconst 0, 1) := by decide +kernel
theorem dX6_take_98 : decode cX6_take 98 = .ok (.istore 6, 2) := by decide +kernel
theorem dX6_take_100 : decode cX6_take 100 = .ok (.iload 6, 2) := by decide +kernel
theorem dX6_take_102 : decode cX6_take 102 = .ok (.aload_n 0, 1) := by decide +kernel
theorem dX6_take_103 : decode cX6_take 103 = .ok (.getfield 85, 3) := by decide +kernel
theorem dX6_take_106 : decode cX6_take 106 = .ok (.if_icmp .ge 84, 3) := by decide +kernel
theorem dX6_take_109 : decode cX6_take 109 = .ok (.aload_n 0, 1) := by decide +kernel
theorem dX6_take_110 : decode cX6_take 110 = .ok (.getfield 44, 3) := by decide +kernel
theorem dX6_take_113 : decode cX6_take 113 = .ok (.bipush 40, 2) := by decide +kernel
theorem dX6_take_115 : decode cX6_take 115 = .ok (.iload_n 2, 1) := by decide +kernel
theorem dX6_take_116 : decode cX6_take 116 = .ok (.imul, 1) := by decide +kernel
theorem dX6_take_117 : decode cX6_take 117 = .ok (.iload 4, 2) := by decide +kernel
theorem dX6_take_119 : decode cX6_take 119 = .ok (.iadd, 1) := by decide +kernel
theorem dX6_take_120 : decode cX6_take 120 = .ok (.iload 6, 2) := by decide +kernel
theorem dX6_take_122 : decode cX6_take 122 = .ok (.iadd, 1) := by decide +kernel
theorem dX6_take_123 : decode cX6_take 123 = .ok (.iaload, 1) := by decide +kernel
theorem dX6_take_124 : decode cX6_take 124 = .ok (.istore 7, 2) := by decide +kernel
theorem dX6_take_126 : decode cX6_take 126 = .ok (.aload_n 0, 1) := by decide +kernel
theorem dX6_take_127 : decode cX6_take 127 = .ok (.getfield 7, 3) := by decide +kernel
theorem dX6_take_130 : decode cX6_take 130 = .ok (.iconst 3, 1) := by decide +kernel
theorem dX6_take_131 : decode cX6_take 131 = .ok (.iload 6, 2) := by decide +kernel
theorem dX6_take_133 : decode cX6_take 133 = .ok (.imul, 1) := by decide +kernel
theorem dX6_take_134 : decode cX6_take 134 = .ok (.iload_n 1, 1) := by decide +kernel
theorem dX6_take_135 : decode cX6_take 135 = .ok (.iadd, 1) := by decide +kernel
theorem dX6_take_136 : decode cX6_take 136 = .ok (.iload 7, 2) := by decide +kernel
theorem dX6_take_138 : decode cX6_take 138 = .ok (.iconst 1, 1) := by decide +kernel
theorem dX6_take_139 : decode cX6_take 139 = .ok (.if_icmp .ge 7, 3) := by decide +kernel
theorem dX6_take_142 : decode cX6_take 142 = .ok (.iconst 1, 1) := by decide +kernel
theorem dX6_take_143 : decode cX6_take 143 = .ok (.goto 17, 3) := by decide +kernel
theorem dX6_take_146 : decode cX6_take 146 = .ok (.iload 7, 2) := by decide +kernel
theorem dX6_take_148 : decode cX6_take 148 = .ok (.bipush 100, 2) := by decide +kernel
theorem dX6_take_150 : decode cX6_take 150 = .ok (.if_icmp .le 8, 3) := by decide +kernel
theorem dX6_take_153 : decode cX6_take 153 = .ok (.bipush 100, 2) := by decide +kernel
theorem dX6_take_155 : decode cX6_take 155 = .ok (.goto 5, 3) := by decide +kernel
theorem dX6_take_158 : decode cX6_take 158 = .ok (.iload 7, 2) := by decide +kernel
theorem dX6_take_160 : decode cX6_take 160 = .ok (.iastore, 1) := by decide +kernel
theorem dX6_take_161 : decode cX6_take 161 = .ok (.iload 5, 2) := by decide +kernel
theorem dX6_take_163 : decode cX6_take 163 = .ok (.iload 7, 2) := by decide +kernel
theorem dX6_take_165 : decode cX6_take 165 = .ok (.iconst 1, 1) := by decide +kernel
theorem dX6_take_166 : decode cX6_take 166 = .ok (.if_icmp .lt 10, 3) := by decide +kernel
theorem dX6_take_169 : decode cX6_take 169 = .ok (.iload 7, 2) := by decide +kernel
theorem dX6_take_171 : decode cX6_take 171 = .ok (.bipush 100, 2) := by decide +kernel
theorem dX6_take_173 : decode cX6_take 173 = .ok (.if_icmp .le 7, 3) := by decide +kernel
theorem dX6_take_176 : decode cX6_take 176 = .ok (.iconst 1, 1) := by decide +kernel
theorem dX6_take_177 : decode cX6_take 177 = .ok (.goto 4, 3) := by decide +kernel
theorem dX6_take_180 : decode cX6_take 180 = .ok (.iconst 0, 1) := by decide +kernel
theorem dX6_take_181 : decode cX6_take 181 = .ok (.iadd, 1) := by decide +kernel
theorem dX6_take_182 : decode cX6_take 182 = .ok (.istore 5, 2) := by decide +kernel
theorem dX6_take_184 : decode cX6_take 184 = .ok (.iinc 6 1, 3) := by decide +kernel
theorem dX6_take_187 : decode cX6_take 187 = .ok (.goto (-87), 3) := by decide +kernel
theorem dX6_take_190 : decode cX6_take 190 = .ok (.iload 5, 2) := by decide +kernel
theorem dX6_take_192 : decode cX6_take 192 = .ok (.ireturn, 1) := by decide +kernel
set_option maxRecDepth 20000 in
set_option maxRecDepth 20000 in
theorem ggX6_lose_X6_isSheet : GoodIn wsX6_lose wsX6_isSheet := goodIn_r _ [5] rfl (by decide +kernel)
set_option maxRecDepth 20000 in
theorem gX6_lose_X6_isSheet : GoodIn wsX6_lose (va_wsS RX6 195 yX6_isSheet wsX6_isSheet) := goodIn_app (goodIn_of _ (by decide +kernel)) ggX6_lose_X6_isSheet
theorem dX6_lose_0 : decode cX6_lose 0 = .ok (.iload_n 1, 1) := by decide +kernel
theorem dX6_lose_1 : decode cX6_lose 1 = .ok (.invokestatic 195, 3) := by decide +kernel
theorem dX6_lose_4 : decode cX6_lose 4 = .ok (.ifCond .ne 6, 3) := by decide +kernel
theorem dX6_lose_7 : decode cX6_lose 7 = .ok (.bipush (-2), 2) := by decide +kernel
theorem dX6_lose_9 : decode cX6_lose 9 = .ok (.ireturn, 1) := by decide +kernel
theorem dX6_lose_10 : decode cX6_lose 10 = .ok (.aload_n 0, 1) := by decide +kernel
theorem dX6_lose_11 : decode cX6_lose 11 = .ok (.getfield 41, 3) := by decide +kernel
theorem dX6_lose_14 : decode cX6_lose 14 = .ok (.iload_n 1, 1) := by decide +kernel
theorem dX6_lose_15 : decode cX6_lose 15 = .ok (.iaload, 1) := by decide +kernel
theorem dX6_lose_16 : decode cX6_lose 16 = .ok (.ifCond .lt 7, 3) := by decide +kernel
theorem dX6_lose_19 : decode cX6_lose 19 = .ok (.iconst 1, 1) := by decide +kernel
theorem dX6_lose_20 : decode cX6_lose 20 = .ok (.goto 4, 3) := by decide +kernel
theorem dX6_lose_23 : decode cX6_lose 23 = .ok (.iconst 0, 1) := by decide +kernel
theorem dX6_lose_24 : decode cX6_lose 24 = .ok (.istore_n 2, 1) := by decide +kernel
theorem dX6_lose_25 : decode cX6_lose 25 = .ok (.aload_n 0, 1) := by decide +kernel
theorem dX6_lose_26 : decode cX6_lose 26 = .ok (.getfield 41, 3) := by decide +kernel
theorem dX6_lose_29 : decode cX6_lose 29 = .ok (.iload_n 1, 1) := by decide +kernel
theorem dX6_lose_30 : decode cX6_lose 30 = .ok (.iconst (-1), 1) := by decide +kernel
theorem dX6_lose_31 : decode cX6_lose 31 = .ok (.iastore, 1) := by decide +kernel
theorem dX6_lose_32 : decode cX6_lose 32 = .ok (.iload_n 2, 1) := by decide +kernel
theorem dX6_lose_33 : decode cX6_lose 33 = .ok (.ireturn, 1) := by decide +kernel
theorem dX6_tell_0 : decode cX6_tell 0 = .ok (.aload_n 0, 1) := by decide +kernel
theorem dX6_tell_1 : decode cX6_tell 1 = .ok (.getfield 201, 3) := by decide +kernel
theorem dX6_tell_4 : decode cX6_tell 4 = .ok (.bipush 20, 2) := by decide +kernel
theorem dX6_tell_6 : decode cX6_tell 6 = .ok (.if_icmp .ne 6, 3) := by decide +kernel
theorem dX6_tell_9 : decode cX6_tell 9 = .ok (.bipush (-2), 2) := by decide +kernel
theorem dX6_tell_11 : decode cX6_tell 11 = .ok (.ireturn, 1) := by decide +kernel
theorem dX6_tell_12 : decode cX6_tell 12 = .ok (.aload_n 0, 1) := by decide +kernel
theorem dX6_tell_13 : decode cX6_tell 13 = .ok (.getfield 47, 3) := by decide +kernel
theorem dX6_tell_16 : decode cX6_tell 16 = .ok (.aload_n 0, 1) := by decide +kernel
theorem dX6_tell_17 : decode cX6_tell 17 = .ok (.getfield 201, 3) := by decide +kernel
theorem dX6_tell_20 : decode cX6_tell 20 = .ok (.iload_n 1, 1) := by decide +kernel
theorem dX6_tell_21 : decode cX6_tell 21 = .ok (.iastore, 1) := by decide +kernel
theorem dX6_tell_22 : decode cX6_tell 22 = .ok (.aload_n 0, 1) := by decide +kernel
theorem dX6_tell_23 : decode cX6_tell 23 = .ok (.dup, 1) := by decide +kernel
theorem dX6_tell_24 : decode cX6_tell 24 = .ok (.getfield 201, 3) := by decide +kernel
theorem dX6_tell_27 : decode cX6_tell 27 = .ok (.iconst 1, 1) := by decide +kernel
theorem dX6_tell_28 : decode cX6_tell 28 = .ok (.iadd, 1) := by decide +kernel
theorem dX6_tell_29 : decode cX6_tell 29 = .ok (.putfield 201, 3) := by decide +kernel
theorem dX6_tell_32 : decode cX6_tell 32 = .ok (.aload_n 0, 1) := by decide +kernel
theorem dX6_tell_33 : decode cX6_tell 33 = .ok (.getfield 201, 3) := by decide +kernel
theorem dX6_tell_36 : decode cX6_tell 36 = .ok (.ireturn, 1) := by decide +kernel
set_option maxRecDepth 20000 in
set_option maxRecDepth 20000 in
theorem ggX6_check_X6_isStation : GoodIn wsX6_check wsX6_isStation := goodIn_r _ [8] rfl (by decide +kernel)
set_option maxRecDepth 20000 in
theorem gX6_check_X6_isStation : GoodIn wsX6_check (va_wsS RX6 110 yX6_isStation wsX6_isStation) := goodIn_app (goodIn_of _ (by decide +kernel)) ggX6_check_X6_isStation
set_option maxRecDepth 20000 in
set_option maxRecDepth 20000 in
theorem ggX6_check_X6_clashIn : GoodIn wsX6_check wsX6_clashIn := goodIn_r _ [12, 2, 13, 14, 15, 7, 16, 17, 18, 19, 20, 21, 22, 23, 24, 25, 26, 27, 28, 29, 30, 31, 32, 33, 34, 35, 36, 37, 38, 39, 40, 41, 42, 43, 44, 45, 46, 47, 48, 49, 50, 51, 52, 53, 54, 55, 56, 57, 58, 59, 60, 61, 62, 63, 64, 65, 66, 67, 68, 69, 70, 71, 72, 73, 74, 75, 76, 77, 78, 79, 80, 81, 82, 83] rfl (by decide +kernel)
set_option maxRecDepth 20000 in
theorem gX6_check_X6_clashIn : GoodIn wsX6_check (wsV RX6 141 RX6 yX6_clashIn wsX6_clashIn) := goodIn_app (goodIn_of _ (by decide +kernel)) ggX6_check_X6_clashIn
set_option maxRecDepth 20000 in
set_option maxRecDepth 20000 in
theorem ggX6_check_X6_causeIn : GoodIn wsX6_check wsX6_causeIn := goodIn_r _ [16, 2, 17, 18, 19, 20, 21, 22, 7, 23, 24, 25, 26, 27, 28, 29, 30, 31, 32, 33, 34, 35, 36, 37, 38, 39, 40, 41, 42, 43, 44, 45, 46, 47, 48, 49, 50, 51, 52, 53, 54, 55, 56, 57, 58, 59, 60, 61, 62, 63, 64, 65, 66, 67, 68, 69, 70, 71, 72, 73, 74, 75, 76, 77, 78, 79, 80, 81, 82, 83] rfl (by decide +kernel)
set_option maxRecDepth 20000 in
theorem gX6_check_X6_causeIn : GoodIn wsX6_check (wsV RX6 138 RX6 yX6_causeIn wsX6_causeIn) := goodIn_app (goodIn_of _ (by decide +kernel)) ggX6_check_X6_causeIn
theorem dX6_check_0 : decode cX6_check 0 = .ok (.aload_n 0, 1) := by decide +kernel
theorem dX6_check_1 : decode cX6_check 1 = .ok (.getfield 201, 3) := by decide +kernel
theorem dX6_check_4 : decode cX6_check 4 = .ok (.istore_n 1, 1) := by decide +kernel
theorem dX6_check_5 : decode cX6_check 5 = .ok (.aload_n 0, 1) := by decide +kernel
theorem dX6_check_6 : decode cX6_check 6 = .ok (.iconst 0, 1) := by decide +kernel
theorem dX6_check_7 : decode cX6_check 7 = .ok (.putfield 201, 3) := by decide +kernel
theorem dX6_check_10 : decode cX6_check 10 = .ok (.iload_n 1, 1) := by decide +kernel
theorem dX6_check_11 : decode cX6_check 11 = .ok (.aload_n 0, 1) := by decide +kernel
theorem dX6_check_12 : decode cX6_check 12 = .ok (.getfield 85, 3) := by decide +kernel
theorem dX6_check_15 : decode cX6_check 15 = .ok (.if_icmp .ne 7, 3) := by decide +kernel
theorem dX6_check_18 : decode cX6_check 18 = .ok (.iconst 1, 1) := by decide +kernel
theorem dX6_check_19 : decode cX6_check 19 = .ok (.goto 4, 3) := by decide +kernel
theorem dX6_check_22 : decode cX6_check 22 = .ok (.iconst 0, 1) := by decide +kernel
theorem dX6_check_23 : decode cX6_check 23 = .ok (.istore_n 2, 1) := by decide +kernel
theorem dX6_check_24 : decode cX6_check 24 = .ok (.iconst 0, 1) := by decide +kernel
theorem dX6_check_25 : decode cX6_check 25 = .ok (.istore_n 3, 1) := by decide +kernel
theorem dX6_check_26 : decode cX6_check 26 = .ok (.iload_n 3, 1) := by decide +kernel
theorem dX6_check_27 : decode cX6_check 27 = .ok (.iload_n 1, 1) := by decide +kernel
theorem dX6_check_28 : decode cX6_check 28 = .ok (.if_icmp .ge 21, 3) := by decide +kernel
theorem dX6_check_31 : decode cX6_check 31 = .ok (.iload_n 2, 1) := by decide +kernel
theorem dX6_check_32 : decode cX6_check 32 = .ok (.aload_n 0, 1) := by decide +kernel
theorem dX6_check_33 : decode cX6_check 33 = .ok (.getfield 47, 3) := by decide +kernel
theorem dX6_check_36 : decode cX6_check 36 = .ok (.iload_n 3, 1) := by decide +kernel
theorem dX6_check_37 : decode cX6_check 37 = .ok (.iaload, 1) := by decide +kernel
theorem dX6_check_38 : decode cX6_check 38 = .ok (.invokestatic 110, 3) := by decide +kernel
theorem dX6_check_41 : decode cX6_check 41 = .ok (.iand, 1) := by decide +kernel
theorem dX6_check_42 : decode cX6_check 42 = .ok (.istore_n 2, 1) := by decide +kernel
theorem dX6_check_43 : decode cX6_check 43 = .ok (.iinc 3 1, 3) := by decide +kernel
theorem dX6_check_46 : decode cX6_check 46 = .ok (.goto (-20), 3) := by decide +kernel
theorem dX6_check_49 : decode cX6_check 49 = .ok (.iload_n 2, 1) := by decide +kernel
theorem dX6_check_50 : decode cX6_check 50 = .ok (.ifCond .ne 6, 3) := by decide +kernel
theorem dX6_check_53 : decode cX6_check 53 = .ok (.bipush (-2), 2) := by decide +kernel
theorem dX6_check_55 : decode cX6_check 55 = .ok (.ireturn, 1) := by decide +kernel
theorem dX6_check_56 : decode cX6_check 56 = .ok (.iconst 0, 1) := by decide +kernel
theorem dX6_check_57 : decode cX6_check 57 = .ok (.istore_n 3, 1) := by decide +kernel
theorem dX6_check_58 : decode cX6_check 58 = .ok (.iload_n 3, 1) := by decide +kernel
theorem dX6_check_59 : decode cX6_check 59 = .ok (.aload_n 0, 1) := by decide +kernel
theorem dX6_check_60 : decode cX6_check 60 = .ok (.getfield 85, 3) := by decide +kernel
theorem dX6_check_63 : decode cX6_check 63 = .ok (.if_icmp .ge 21, 3) := by decide +kernel
theorem dX6_check_66 : decode cX6_check 66 = .ok (.aload_n 0, 1) := by decide +kernel
theorem dX6_check_67 : decode cX6_check 67 = .ok (.getfield 76, 3) := by decide +kernel
theorem dX6_check_70 : decode cX6_check 70 = .ok (.iload_n 3, 1) := by decide +kernel
theorem dX6_check_71 : decode cX6_check 71 = .ok (.aload_n 0, 1) := by decide +kernel
theorem dX6_check_72 : decode cX6_check 72 = .ok (.getfield 47, 3) := by decide +kernel
theorem dX6_check_75 : decode cX6_check 75 = .ok (.iload_n 3, 1) := by decide +kernel
theorem dX6_check_76 : decode cX6_check 76 = .ok (.iaload, 1) := by decide +kernel
theorem dX6_check_77 : decode cX6_check 77 = .ok (.iastore, 1) := by decide +kernel
theorem dX6_check_78 : decode cX6_check 78 = .ok (.iinc 3 1, 3) := by decide +kernel
theorem dX6_check_81 : decode cX6_check 81 = .ok (.goto (-23), 3) := by decide +kernel
theorem dX6_check_84 : decode cX6_check 84 = .ok (.aload_n 0, 1) := by decide +kernel
theorem dX6_check_85 : decode cX6_check 85 = .ok (.aload_n 0, 1) := by decide +kernel
theorem dX6_check_86 : decode cX6_check 86 = .ok (.getfield 76, 3) := by decide +kernel
theorem dX6_check_89 : decode cX6_check 89 = .ok (.invokevirtual 141, 3) := by decide +kernel
theorem dX6_check_92 : decode cX6_check 92 = .ok (.istore_n 3, 1) := by decide +kernel
theorem dX6_check_93 : decode cX6_check 93 = .ok (.iload_n 3, 1) := by decide +kernel
theorem dX6_check_94 : decode cX6_check 94 = .ok (.ifCond .ge 7, 3) := by decide +kernel
theorem dX6_check_97 : decode cX6_check 97 = .ok (.iconst 0, 1) := by decide +kernel
theorem dX6_check_98 : decode cX6_check 98 = .ok (.goto 17, 3) := by decide +kernel
theorem dX6_check_101 : decode cX6_check 101 = .ok (.bipush 10, 2) := by decide +kernel
theorem dX6_check_103 : decode cX6_check 103 = .ok (.iload_n 3, 1) := by decide +kernel
theorem dX6_check_104 : decode cX6_check 104 = .ok (.imul, 1) := by decide +kernel
theorem dX6_check_105 : decode cX6_check 105 = .ok (.aload_n 0, 1) := by decide +kernel
theorem dX6_check_106 : decode cX6_check 106 = .ok (.aload_n 0, 1) := by decide +kernel
theorem dX6_check_107 : decode cX6_check 107 = .ok (.getfield 76, 3) := by decide +kernel
theorem dX6_check_110 : decode cX6_check 110 = .ok (.iload_n 3, 1) := by decide +kernel
theorem dX6_check_111 : decode cX6_check 111 = .ok (.invokevirtual 138, 3) := by decide +kernel
theorem dX6_check_114 : decode cX6_check 114 = .ok (.iadd, 1) := by decide +kernel
theorem dX6_check_115 : decode cX6_check 115 = .ok (.ireturn, 1) := by decide +kernel
theorem dX6_carry_0 : decode cX6_carry 0 = .ok (.iconst 0, 1) := by decide +kernel
theorem dX6_carry_1 : decode cX6_carry 1 = .ok (.istore 5, 2) := by decide +kernel
theorem dX6_carry_3 : decode cX6_carry 3 = .ok (.iload 5, 2) := by decide +kernel
theorem dX6_carry_5 : decode cX6_carry 5 = .ok (.iload_n 2, 1) := by decide +kernel
theorem dX6_carry_6 : decode cX6_carry 6 = .ok (.if_icmp .ge 43, 3) := by decide +kernel
theorem dX6_carry_9 : decode cX6_carry 9 = .ok (.iload 4, 2) := by decide +kernel
theorem dX6_carry_11 : decode cX6_carry 11 = .ok (.ifCond .eq 19, 3) := by decide +kernel
theorem dX6_carry_14 : decode cX6_carry 14 = .ok (.aload_n 1, 1) := by decide +kernel
theorem dX6_carry_15 : decode cX6_carry 15 = .ok (.iload 5, 2) := by decide +kernel
theorem dX6_carry_17 : decode cX6_carry 17 = .ok (.aload_n 0, 1) := by decide +kernel
theorem dX6_carry_18 : decode cX6_carry 18 = .ok (.getfield 35, 3) := by decide +kernel
theorem dX6_carry_21 : decode cX6_carry 21 = .ok (.iload_n 3, 1) := by decide +kernel
theorem dX6_carry_22 : decode cX6_carry 22 = .ok (.iload 5, 2) := by decide +kernel
theorem dX6_carry_24 : decode cX6_carry 24 = .ok (.iadd, 1) := by decide +kernel
theorem dX6_carry_25 : decode cX6_carry 25 = .ok (.iaload, 1) := by decide +kernel
theorem dX6_carry_26 : decode cX6_carry 26 = .ok (.iastore, 1) := by decide +kernel
theorem dX6_carry_27 : decode cX6_carry 27 = .ok (.goto 16, 3) := by decide +kernel
theorem dX6_carry_30 : decode cX6_carry 30 = .ok (.aload_n 0, 1) := by decide +kernel
theorem dX6_carry_31 : decode cX6_carry 31 = .ok (.getfield 35, 3) := by decide +kernel
theorem dX6_carry_34 : decode cX6_carry 34 = .ok (.iload_n 3, 1) := by decide +kernel
theorem dX6_carry_35 : decode cX6_carry 35 = .ok (.iload 5, 2) := by decide +kernel
theorem dX6_carry_37 : decode cX6_carry 37 = .ok (.iadd, 1) := by decide +kernel
theorem dX6_carry_38 : decode cX6_carry 38 = .ok (.aload_n 1, 1) := by decide +kernel
theorem dX6_carry_39 : decode cX6_carry 39 = .ok (.iload 5, 2) := by decide +kernel
theorem dX6_carry_41 : decode cX6_carry 41 = .ok (.iaload, 1) := by decide +kernel
theorem dX6_carry_42 : decode cX6_carry 42 = .ok (.iastore, 1) := by decide +kernel
theorem dX6_carry_43 : decode cX6_carry 43 = .ok (.iinc 5 1, 3) := by decide +kernel
theorem dX6_carry_46 : decode cX6_carry 46 = .ok (.goto (-43), 3) := by decide +kernel
theorem dX6_carry_49 : decode cX6_carry 49 = .ok (.iload_n 3, 1) := by decide +kernel
theorem dX6_carry_50 : decode cX6_carry 50 = .ok (.iload_n 2, 1) := by decide +kernel
theorem dX6_carry_51 : decode cX6_carry 51 = .ok (.iadd, 1) := by decide +kernel
theorem dX6_carry_52 : decode cX6_carry 52 = .ok (.ireturn, 1) := by decide +kernel
set_option maxRecDepth 20000 in
set_option maxRecDepth 20000 in
theorem ggX6_carryAll_X6_carry : GoodIn wsX6_carryAll wsX6_carry := goodIn_r _ [15, 16, 17, 18, 19, 20, 21, 22, 23, 24, 25, 26, 27, 28, 29, 30, 31, 32, 33, 34, 35, 36, 37, 38, 39, 40, 41, 42, 43, 44, 45] rfl (by decide +kernel)
set_option maxRecDepth 20000 in
theorem gX6_carryAll_X6_carry : GoodIn wsX6_carryAll (wsV RX6 204 RX6 yX6_carry wsX6_carry) := goodIn_app (goodIn_of _ (by decide +kernel)) ggX6_carryAll_X6_carry
theorem dX6_carryAll_0 : decode cX6_carryAll 0 = .ok (.aload_n 0, 1) := by decide +kernel
theorem dX6_carryAll_1 : decode cX6_carryAll 1 = .ok (.getfield 79, 3) := by decide +kernel
theorem dX6_carryAll_4 : decode cX6_carryAll 4 = .ok (.iconst 0, 1) := by decide +kernel
theorem dX6_carryAll_5 : decode cX6_carryAll 5 = .ok (.aload_n 0, 1) := by decide +kernel
theorem dX6_carryAll_6 : decode cX6_carryAll 6 = .ok (.getfield 85, 3) := by decide +kernel
theorem dX6_carryAll_9 : decode cX6_carryAll 9 = .ok (.iastore, 1) := by decide +kernel
theorem dX6_carryAll_10 : decode cX6_carryAll 10 = .ok (.aload_n 0, 1) := by decide +kernel
theorem dX6_carryAll_11 : decode cX6_carryAll 11 = .ok (.getfield 79, 3) := by decide +kernel
theorem dX6_carryAll_14 : decode cX6_carryAll 14 = .ok (.iconst 1, 1) := by decide +kernel
theorem dX6_carryAll_15 : decode cX6_carryAll 15 = .ok (.aload_n 0, 1) := by decide +kernel
theorem dX6_carryAll_16 : decode cX6_carryAll 16 = .ok (.getfield 113, 3) := by decide +kernel
theorem dX6_carryAll_19 : decode cX6_carryAll 19 = .ok (.iastore, 1) := by decide +kernel
theorem dX6_carryAll_20 : decode cX6_carryAll 20 = .ok (.aload_n 0, 1) := by decide +kernel
theorem dX6_carryAll_21 : decode cX6_carryAll 21 = .ok (.getfield 79, 3) := by decide +kernel
theorem dX6_carryAll_24 : decode cX6_carryAll 24 = .ok (.iconst 2, 1) := by decide +kernel
theorem dX6_carryAll_25 : decode cX6_carryAll 25 = .ok (.aload_n 0, 1) := by decide +kernel
theorem dX6_carryAll_26 : decode cX6_carryAll 26 = .ok (.getfield 28, 3) := by decide +kernel
theorem dX6_carryAll_29 : decode cX6_carryAll 29 = .ok (.iastore, 1) := by decide +kernel
theorem dX6_carryAll_30 : decode cX6_carryAll 30 = .ok (.aload_n 0, 1) := by decide +kernel
theorem dX6_carryAll_31 : decode cX6_carryAll 31 = .ok (.aload_n 0, 1) := by decide +kernel
theorem dX6_carryAll_32 : decode cX6_carryAll 32 = .ok (.getfield 79, 3) := by decide +kernel
theorem dX6_carryAll_35 : decode cX6_carryAll 35 = .ok (.iconst 3, 1) := by decide +kernel
theorem dX6_carryAll_36 : decode cX6_carryAll 36 = .ok (.iconst 0, 1) := by decide +kernel
theorem dX6_carryAll_37 : decode cX6_carryAll 37 = .ok (.iload_n 1, 1) := by decide +kernel
theorem dX6_carryAll_38 : decode cX6_carryAll 38 = .ok (.invokevirtual 204, 3) := by decide +kernel
theorem dX6_carryAll_41 : decode cX6_carryAll 41 = .ok (.istore_n 2, 1) := by decide +kernel
theorem dX6_carryAll_42 : decode cX6_carryAll 42 = .ok (.aload_n 0, 1) := by decide +kernel
theorem dX6_carryAll_43 : decode cX6_carryAll 43 = .ok (.aload_n 0, 1) := by decide +kernel
theorem dX6_carryAll_44 : decode cX6_carryAll 44 = .ok (.getfield 7, 3) := by decide +kernel
theorem dX6_carryAll_47 : decode cX6_carryAll 47 = .ok (.bipush 30, 2) := by decide +kernel
theorem dX6_carryAll_49 : decode cX6_carryAll 49 = .ok (.iload_n 2, 1) := by decide +kernel
theorem dX6_carryAll_50 : decode cX6_carryAll 50 = .ok (.iload_n 1, 1) := by decide +kernel
theorem dX6_carryAll_51 : decode cX6_carryAll 51 = .ok (.invokevirtual 204, 3) := by decide +kernel
theorem dX6_carryAll_54 : decode cX6_carryAll 54 = .ok (.istore_n 2, 1) := by decide +kernel
theorem dX6_carryAll_55 : decode cX6_carryAll 55 = .ok (.aload_n 0, 1) := by decide +kernel
theorem dX6_carryAll_56 : decode cX6_carryAll 56 = .ok (.aload_n 0, 1) := by decide +kernel
theorem dX6_carryAll_57 : decode cX6_carryAll 57 = .ok (.getfield 13, 3) := by decide +kernel
theorem dX6_carryAll_60 : decode cX6_carryAll 60 = .ok (.iconst 3, 1) := by decide +kernel
theorem dX6_carryAll_61 : decode cX6_carryAll 61 = .ok (.iload_n 2, 1) := by decide +kernel
theorem dX6_carryAll_62 : decode cX6_carryAll 62 = .ok (.iload_n 1, 1) := by decide +kernel
theorem dX6_carryAll_63 : decode cX6_carryAll 63 = .ok (.invokevirtual 204, 3) := by decide +kernel
theorem dX6_carryAll_66 : decode cX6_carryAll 66 = .ok (.istore_n 2, 1) := by decide +kernel
theorem dX6_carryAll_67 : decode cX6_carryAll 67 = .ok (.aload_n 0, 1) := by decide +kernel
theorem dX6_carryAll_68 : decode cX6_carryAll 68 = .ok (.aload_n 0, 1) := by decide +kernel
theorem dX6_carryAll_69 : decode cX6_carryAll 69 = .ok (.getfield 16, 3) := by decide +kernel
theorem dX6_carryAll_72 : decode cX6_carryAll 72 = .ok (.bipush 10, 2) := by decide +kernel
theorem dX6_carryAll_74 : decode cX6_carryAll 74 = .ok (.iload_n 2, 1) := by decide +kernel
theorem dX6_carryAll_75 : decode cX6_carryAll 75 = .ok (.iload_n 1, 1) := by decide +kernel
theorem dX6_carryAll_76 : decode cX6_carryAll 76 = .ok (.invokevirtual 204, 3) := by decide +kernel
theorem dX6_carryAll_79 : decode cX6_carryAll 79 = .ok (.istore_n 2, 1) := by decide +kernel
theorem dX6_carryAll_80 : decode cX6_carryAll 80 = .ok (.aload_n 0, 1) := by decide +kernel
theorem dX6_carryAll_81 : decode cX6_carryAll 81 = .ok (.aload_n 0, 1) := by decide +kernel
theorem dX6_carryAll_82 : decode cX6_carryAll 82 = .ok (.getfield 19, 3) := by decide +kernel
theorem dX6_carryAll_85 : decode cX6_carryAll 85 = .ok (.bipush 100, 2) := by decide +kernel
theorem dX6_carryAll_87 : decode cX6_carryAll 87 = .ok (.iload_n 2, 1) := by decide +kernel
theorem dX6_carryAll_88 : decode cX6_carryAll 88 = .ok (.iload_n 1, 1) := by decide +kernel
theorem dX6_carryAll_89 : decode cX6_carryAll 89 = .ok (.invokevirtual 204, 3) := by decide +kernel
theorem dX6_carryAll_92 : decode cX6_carryAll 92 = .ok (.istore_n 2, 1) := by decide +kernel
theorem dX6_carryAll_93 : decode cX6_carryAll 93 = .ok (.aload_n 0, 1) := by decide +kernel
theorem dX6_carryAll_94 : decode cX6_carryAll 94 = .ok (.aload_n 0, 1) := by decide +kernel
theorem dX6_carryAll_95 : decode cX6_carryAll 95 = .ok (.getfield 22, 3) := by decide +kernel
theorem dX6_carryAll_98 : decode cX6_carryAll 98 = .ok (.bipush 10, 2) := by decide +kernel
theorem dX6_carryAll_100 : decode cX6_carryAll 100 = .ok (.iload_n 2, 1) := by decide +kernel
theorem dX6_carryAll_101 : decode cX6_carryAll 101 = .ok (.iload_n 1, 1) := by decide +kernel
theorem dX6_carryAll_102 : decode cX6_carryAll 102 = .ok (.invokevirtual 204, 3) := by decide +kernel
theorem dX6_carryAll_105 : decode cX6_carryAll 105 = .ok (.istore_n 2, 1) := by decide +kernel
theorem dX6_carryAll_106 : decode cX6_carryAll 106 = .ok (.aload_n 0, 1) := by decide +kernel
theorem dX6_carryAll_107 : decode cX6_carryAll 107 = .ok (.aload_n 0, 1) := by decide +kernel
theorem dX6_carryAll_108 : decode cX6_carryAll 108 = .ok (.getfield 25, 3) := by decide +kernel
theorem dX6_carryAll_111 : decode cX6_carryAll 111 = .ok (.bipush 10, 2) := by decide +kernel
theorem dX6_carryAll_113 : decode cX6_carryAll 113 = .ok (.iload_n 2, 1) := by decide +kernel
theorem dX6_carryAll_114 : decode cX6_carryAll 114 = .ok (.iload_n 1, 1) := by decide +kernel
theorem dX6_carryAll_115 : decode cX6_carryAll 115 = .ok (.invokevirtual 204, 3) := by decide +kernel
theorem dX6_carryAll_118 : decode cX6_carryAll 118 = .ok (.istore_n 2, 1) := by decide +kernel
theorem dX6_carryAll_119 : decode cX6_carryAll 119 = .ok (.aload_n 0, 1) := by decide +kernel
theorem dX6_carryAll_120 : decode cX6_carryAll 120 = .ok (.aload_n 0, 1) := by decide +kernel
theorem dX6_carryAll_121 : decode cX6_carryAll 121 = .ok (.getfield 79, 3) := by decide +kernel
theorem dX6_carryAll_124 : decode cX6_carryAll 124 = .ok (.iconst 0, 1) := by decide +kernel
theorem dX6_carryAll_125 : decode cX6_carryAll 125 = .ok (.iaload, 1) := by decide +kernel
theorem dX6_carryAll_126 : decode cX6_carryAll 126 = .ok (.putfield 85, 3) := by decide +kernel
theorem dX6_carryAll_129 : decode cX6_carryAll 129 = .ok (.aload_n 0, 1) := by decide +kernel
theorem dX6_carryAll_130 : decode cX6_carryAll 130 = .ok (.aload_n 0, 1) := by decide +kernel
theorem dX6_carryAll_131 : decode cX6_carryAll 131 = .ok (.getfield 79, 3) := by decide +kernel
theorem dX6_carryAll_134 : decode cX6_carryAll 134 = .ok (.iconst 1, 1) := by decide +kernel
theorem dX6_carryAll_135 : decode cX6_carryAll 135 = .ok (.iaload, 1) := by decide +kernel
theorem dX6_carryAll_136 : decode cX6_carryAll 136 = .ok (.putfield 113, 3) := by decide +kernel
theorem dX6_carryAll_139 : decode cX6_carryAll 139 = .ok (.aload_n 0, 1) := by decide +kernel
theorem dX6_carryAll_140 : decode cX6_carryAll 140 = .ok (.aload_n 0, 1) := by decide +kernel
theorem dX6_carryAll_141 : decode cX6_carryAll 141 = .ok (.getfield 79, 3) := by decide +kernel
theorem dX6_carryAll_144 : decode cX6_carryAll 144 = .ok (.iconst 2, 1) := by decide +kernel
theorem dX6_carryAll_145 : decode cX6_carryAll 145 = .ok (.iaload, 1) := by decide +kernel
theorem dX6_carryAll_146 : decode cX6_carryAll 146 = .ok (.putfield 28, 3) := by decide +kernel
theorem dX6_carryAll_149 : decode cX6_carryAll 149 = .ok (.return_, 1) := by decide +kernel
set_option maxRecDepth 20000 in
set_option maxRecDepth 20000 in
theorem ggX6_keep_X6_carryAll : GoodIn wsX6_keep wsX6_carryAll := goodIn_r _ [7, 8, 2, 9, 10, 11, 12, 13, 14, 15, 16, 17, 18, 19, 6, 20, 21, 22, 23, 24, 25, 26, 27, 28, 29, 30, 31, 32, 33, 34, 35, 36, 37, 38, 39, 40, 41, 42, 43, 44, 45, 46, 47, 48, 49, 50] rfl (by decide +kernel)
set_option maxRecDepth 20000 in
theorem gX6_keep_X6_carryAll : GoodIn wsX6_keep (wsV RX6 208 RX6 yX6_carryAll wsX6_carryAll) := goodIn_app (goodIn_of _ (by decide +kernel)) ggX6_keep_X6_carryAll
theorem dX6_keep_0 : decode cX6_keep 0 = .ok (.aload_n 0, 1) := by decide +kernel
theorem dX6_keep_1 : decode cX6_keep 1 = .ok (.iconst 0, 1) := by decide +kernel
theorem dX6_keep_2 : decode cX6_keep 2 = .ok (.invokevirtual 208, 3) := by decide +kernel
theorem dX6_keep_5 : decode cX6_keep 5 = .ok (.aload_n 0, 1) := by decide +kernel
theorem dX6_keep_6 : decode cX6_keep 6 = .ok (.iconst 1, 1) := by decide +kernel
theorem dX6_keep_7 : decode cX6_keep 7 = .ok (.putfield 212, 3) := by decide +kernel
theorem dX6_keep_10 : decode cX6_keep 10 = .ok (.aload_n 0, 1) := by decide +kernel
theorem dX6_keep_11 : decode cX6_keep 11 = .ok (.getfield 85, 3) := by decide +kernel
theorem dX6_keep_14 : decode cX6_keep 14 = .ok (.ireturn, 1) := by decide +kernel
set_option maxRecDepth 20000 in
set_option maxRecDepth 20000 in
theorem ggX6_back_X6_meet : GoodIn wsX6_back wsX6_meet := goodIn_r _ [7, 8, 27, 28, 29, 30, 31, 32, 33, 34, 35, 36, 37, 38, 39, 40, 41, 42, 43, 44, 45, 46, 47, 48, 49, 50, 51, 52, 53, 54, 55] rfl (by decide +kernel)
set_option maxRecDepth 20000 in
theorem gX6_back_X6_meet : GoodIn wsX6_back (wsV RX6 198 RX6 yX6_meet wsX6_meet) := goodIn_app (goodIn_of _ (by decide +kernel)) ggX6_back_X6_meet
set_option maxRecDepth 20000 in
set_option maxRecDepth 20000 in
theorem ggX6_back_X6_carryAll : GoodIn wsX6_back wsX6_carryAll := goodIn_r _ [12, 13, 2, 14, 15, 16, 17, 18, 19, 20, 21, 22, 23, 24, 6, 25, 26, 27, 28, 29, 30, 31, 32, 33, 34, 35, 36, 37, 38, 39, 40, 41, 42, 43, 44, 45, 46, 47, 48, 49, 50, 51, 52, 53, 54, 55] rfl (by decide +kernel)
set_option maxRecDepth 20000 in
theorem gX6_back_X6_carryAll : GoodIn wsX6_back (wsV RX6 208 RX6 yX6_carryAll wsX6_carryAll) := goodIn_app (goodIn_of _ (by decide +kernel)) ggX6_back_X6_carryAll
theorem dX6_back_0 : decode cX6_back 0 = .ok (.aload_n 0, 1) := by decide +kernel
theorem dX6_back_1 : decode cX6_back 1 = .ok (.getfield 212, 3) := by decide +kernel
theorem dX6_back_4 : decode cX6_back 4 = .ok (.ifCond .ne 10, 3) := by decide +kernel
theorem dX6_back_7 : decode cX6_back 7 = .ok (.aload_n 0, 1) := by decide +kernel
theorem dX6_back_8 : decode cX6_back 8 = .ok (.bipush (-10), 2) := by decide +kernel
theorem dX6_back_10 : decode cX6_back 10 = .ok (.invokevirtual 198, 3) := by decide +kernel
theorem dX6_back_13 : decode cX6_back 13 = .ok (.ireturn, 1) := by decide +kernel
theorem dX6_back_14 : decode cX6_back 14 = .ok (.aload_n 0, 1) := by decide +kernel
theorem dX6_back_15 : decode cX6_back 15 = .ok (.iconst 1, 1) := by decide +kernel
theorem dX6_back_16 : decode cX6_back 16 = .ok (.invokevirtual 208, 3) := by decide +kernel
theorem dX6_back_19 : decode cX6_back 19 = .ok (.aload_n 0, 1) := by decide +kernel
theorem dX6_back_20 : decode cX6_back 20 = .ok (.getfield 85, 3) := by decide +kernel
theorem dX6_back_23 : decode cX6_back 23 = .ok (.ireturn, 1) := by decide +kernel
set_option maxRecDepth 20000 in
set_option maxRecDepth 20000 in
theorem ggX6_count_X6_room : GoodIn wsX6_count wsX6_room := goodIn_r _ [10, 4, 5, 11, 12, 13, 14, 15, 16, 17, 18, 19, 20, 21, 22, 23, 24, 25, 26, 27, 28, 29, 30, 31, 32, 33, 34, 35, 36, 37, 38, 39, 40] rfl (by decide +kernel)
set_option maxRecDepth 20000 in
theorem gX6_count_X6_room : GoodIn wsX6_count (wsV RX6 130 RX6 yX6_room wsX6_room) := goodIn_app (goodIn_of _ (by decide +kernel)) ggX6_count_X6_room
theorem dX6_count_0 : decode cX6_count 0 = .ok (.iload_n 1, 1) := by decide +kernel
theorem dX6_count_1 : decode cX6_count 1 = .ok (.tableswitch 69 0 5 #[39, 44, 49, 54, 59, 64], 39) := by decide +kernel
theorem dX6_count_40 : decode cX6_count 40 = .ok (.aload_n 0, 1) := by decide +kernel
theorem dX6_count_41 : decode cX6_count 41 = .ok (.getfield 85, 3) := by decide +kernel
theorem dX6_count_44 : decode cX6_count 44 = .ok (.ireturn, 1) := by decide +kernel
theorem dX6_count_45 : decode cX6_count 45 = .ok (.aload_n 0, 1) := by decide +kernel
theorem dX6_count_46 : decode cX6_count 46 = .ok (.getfield 201, 3) := by decide +kernel
theorem dX6_count_49 : decode cX6_count 49 = .ok (.ireturn, 1) := by decide +kernel
theorem dX6_count_50 : decode cX6_count 50 = .ok (.aload_n 0, 1) := by decide +kernel
theorem dX6_count_51 : decode cX6_count 51 = .ok (.getfield 82, 3) := by decide +kernel
theorem dX6_count_54 : decode cX6_count 54 = .ok (.ireturn, 1) := by decide +kernel
theorem dX6_count_55 : decode cX6_count 55 = .ok (.aload_n 0, 1) := by decide +kernel
theorem dX6_count_56 : decode cX6_count 56 = .ok (.getfield 113, 3) := by decide +kernel
theorem dX6_count_59 : decode cX6_count 59 = .ok (.ireturn, 1) := by decide +kernel
theorem dX6_count_60 : decode cX6_count 60 = .ok (.aload_n 0, 1) := by decide +kernel
theorem dX6_count_61 : decode cX6_count 61 = .ok (.getfield 28, 3) := by decide +kernel
theorem dX6_count_64 : decode cX6_count 64 = .ok (.ireturn, 1) := by decide +kernel
theorem dX6_count_65 : decode cX6_count 65 = .ok (.aload_n 0, 1) := by decide +kernel
theorem dX6_count_66 : decode cX6_count 66 = .ok (.invokevirtual 130, 3) := by decide +kernel
theorem dX6_count_69 : decode cX6_count 69 = .ok (.ireturn, 1) := by decide +kernel
theorem dX6_count_70 : decode cX6_count 70 = .ok (.bipush (-2), 2) := by decide +kernel
theorem dX6_count_72 : decode cX6_count 72 = .ok (.ireturn, 1) := by decide +kernel
