theorem dX3_latestOf_0 : decode cX3_latestOf 0 = .ok (.iconst (-1), 1) := by decide +kernel
theorem dX3_latestOf_1 : decode cX3_latestOf 1 = .ok (.istore_n 2, 1) := by decide +kernel
theorem dX3_latestOf_2 : decode cX3_latestOf 2 = .ok (.aload_n 0, 1) := by decide +kernel
theorem dX3_latestOf_3 : decode cX3_latestOf 3 = .ok (.getfield 9, 3) := by decide +kernel
theorem dX3_latestOf_6 : decode cX3_latestOf 6 = .ok (.iload_n 1, 1) := by decide +kernel
theorem dX3_latestOf_7 : decode cX3_latestOf 7 = .ok (.iconst (-1), 1) := by decide +kernel
theorem dX3_latestOf_8 : decode cX3_latestOf 8 = .ok (.ixor, 1) := by decide +kernel
theorem dX3_latestOf_9 : decode cX3_latestOf 9 = .ok (.iand, 1) := by decide +kernel
theorem dX3_latestOf_10 : decode cX3_latestOf 10 = .ok (.istore_n 3, 1) := by decide +kernel
theorem dX3_latestOf_11 : decode cX3_latestOf 11 = .ok (.iload_n 3, 1) := by decide +kernel
theorem dX3_latestOf_12 : decode cX3_latestOf 12 = .ok (.istore 4, 2) := by decide +kernel
theorem dX3_latestOf_14 : decode cX3_latestOf 14 = .ok (.iload 4, 2) := by decide +kernel
theorem dX3_latestOf_16 : decode cX3_latestOf 16 = .ok (.ifCond .le 77, 3) := by decide +kernel
theorem dX3_latestOf_19 : decode cX3_latestOf 19 = .ok (.aload_n 0, 1) := by decide +kernel
theorem dX3_latestOf_20 : decode cX3_latestOf 20 = .ok (.getfield 26, 3) := by decide +kernel
theorem dX3_latestOf_23 : decode cX3_latestOf 23 = .ok (.iload 4, 2) := by decide +kernel
theorem dX3_latestOf_25 : decode cX3_latestOf 25 = .ok (.iaload, 1) := by decide +kernel
theorem dX3_latestOf_26 : decode cX3_latestOf 26 = .ok (.istore 5, 2) := by decide +kernel
theorem dX3_latestOf_28 : decode cX3_latestOf 28 = .ok (.aload_n 0, 1) := by decide +kernel
theorem dX3_latestOf_29 : decode cX3_latestOf 29 = .ok (.getfield 32, 3) := by decide +kernel
theorem dX3_latestOf_32 : decode cX3_latestOf 32 = .ok (.iload_n 1, 1) := by decide +kernel
theorem dX3_latestOf_33 : decode cX3_latestOf 33 = .ok (.iload 4, 2) := by decide +kernel
theorem dX3_latestOf_35 : decode cX3_latestOf 35 = .ok (.ior, 1) := by decide +kernel
theorem dX3_latestOf_36 : decode cX3_latestOf 36 = .ok (.iaload, 1) := by decide +kernel
theorem dX3_latestOf_37 : decode cX3_latestOf 37 = .ok (.istore 6, 2) := by decide +kernel
theorem dX3_latestOf_39 : decode cX3_latestOf 39 = .ok (.iload 5, 2) := by decide +kernel
theorem dX3_latestOf_41 : decode cX3_latestOf 41 = .ok (.iconst (-1), 1) := by decide +kernel
theorem dX3_latestOf_42 : decode cX3_latestOf 42 = .ok (.if_icmp .eq 40, 3) := by decide +kernel
theorem dX3_latestOf_45 : decode cX3_latestOf 45 = .ok (.iload 5, 2) := by decide +kernel
theorem dX3_latestOf_47 : decode cX3_latestOf 47 = .ok (.iload 6, 2) := by decide +kernel
theorem dX3_latestOf_49 : decode cX3_latestOf 49 = .ok (.if_icmp .le 6, 3) := by decide +kernel
theorem dX3_latestOf_52 : decode cX3_latestOf 52 = .ok (.goto 30, 3) := by decide +kernel
theorem dX3_latestOf_55 : decode cX3_latestOf 55 = .ok (.iload 5, 2) := by decide +kernel
theorem dX3_latestOf_57 : decode cX3_latestOf 57 = .ok (.ifCond .ne 8, 3) := by decide +kernel
theorem dX3_latestOf_60 : decode cX3_latestOf 60 = .ok (.iload 6, 2) := by decide +kernel
theorem dX3_latestOf_62 : decode cX3_latestOf 62 = .ok (.goto 5, 3) := by decide +kernel
theorem dX3_latestOf_65 : decode cX3_latestOf 65 = .ok (.iload 5, 2) := by decide +kernel
theorem dX3_latestOf_67 : decode cX3_latestOf 67 = .ok (.istore 7, 2) := by decide +kernel
theorem dX3_latestOf_69 : decode cX3_latestOf 69 = .ok (.iload 7, 2) := by decide +kernel
theorem dX3_latestOf_71 : decode cX3_latestOf 71 = .ok (.iconst 1, 1) := by decide +kernel
theorem dX3_latestOf_72 : decode cX3_latestOf 72 = .ok (.isub, 1) := by decide +kernel
theorem dX3_latestOf_73 : decode cX3_latestOf 73 = .ok (.iload_n 2, 1) := by decide +kernel
theorem dX3_latestOf_74 : decode cX3_latestOf 74 = .ok (.if_icmp .le 8, 3) := by decide +kernel
theorem dX3_latestOf_77 : decode cX3_latestOf 77 = .ok (.iload 7, 2) := by decide +kernel
theorem dX3_latestOf_79 : decode cX3_latestOf 79 = .ok (.iconst 1, 1) := by decide +kernel
theorem dX3_latestOf_80 : decode cX3_latestOf 80 = .ok (.isub, 1) := by decide +kernel
theorem dX3_latestOf_81 : decode cX3_latestOf 81 = .ok (.istore_n 2, 1) := by decide +kernel
theorem dX3_latestOf_82 : decode cX3_latestOf 82 = .ok (.iload 4, 2) := by decide +kernel
theorem dX3_latestOf_84 : decode cX3_latestOf 84 = .ok (.iconst 1, 1) := by decide +kernel
theorem dX3_latestOf_85 : decode cX3_latestOf 85 = .ok (.isub, 1) := by decide +kernel
theorem dX3_latestOf_86 : decode cX3_latestOf 86 = .ok (.iload_n 3, 1) := by decide +kernel
theorem dX3_latestOf_87 : decode cX3_latestOf 87 = .ok (.iand, 1) := by decide +kernel
theorem dX3_latestOf_88 : decode cX3_latestOf 88 = .ok (.istore 4, 2) := by decide +kernel
theorem dX3_latestOf_90 : decode cX3_latestOf 90 = .ok (.goto (-76), 3) := by decide +kernel
theorem dX3_latestOf_93 : decode cX3_latestOf 93 = .ok (.iload_n 2, 1) := by decide +kernel
theorem dX3_latestOf_94 : decode cX3_latestOf 94 = .ok (.ireturn, 1) := by decide +kernel
set_option maxRecDepth 20000 in
set_option maxRecDepth 20000 in
theorem ggX3_weigh_X3_weighState : GoodIn wsX3_weigh wsX3_weighState := goodIn_r _ [10, 1, 3, 11, 5, 2, 12, 13, 14, 15, 16, 17, 18, 19, 20, 21, 22, 23, 24, 25, 26, 27, 28] rfl (by decide +kernel)
set_option maxRecDepth 20000 in
theorem gX3_weigh_X3_weighState : GoodIn wsX3_weigh (wsV RX3 143 RX3 yX3_weighState wsX3_weighState) := goodIn_app (goodIn_of _ (by decide +kernel)) ggX3_weigh_X3_weighState
theorem dX3_weigh_0 : decode cX3_weigh 0 = .ok (.aload_n 0, 1) := by decide +kernel
theorem dX3_weigh_1 : decode cX3_weigh 1 = .ok (.getfield 40, 3) := by decide +kernel
theorem dX3_weigh_4 : decode cX3_weigh 4 = .ok (.iload_n 1, 1) := by decide +kernel
theorem dX3_weigh_5 : decode cX3_weigh 5 = .ok (.aaload, 1) := by decide +kernel
theorem dX3_weigh_6 : decode cX3_weigh 6 = .ok (.aload_n 0, 1) := by decide +kernel
theorem dX3_weigh_7 : decode cX3_weigh 7 = .ok (.getfield 9, 3) := by decide +kernel
theorem dX3_weigh_10 : decode cX3_weigh 10 = .ok (.lconst 0, 1) := by decide +kernel
theorem dX3_weigh_11 : decode cX3_weigh 11 = .ok (.lastore, 1) := by decide +kernel
theorem dX3_weigh_12 : decode cX3_weigh 12 = .ok (.aload_n 0, 1) := by decide +kernel
theorem dX3_weigh_13 : decode cX3_weigh 13 = .ok (.getfield 43, 3) := by decide +kernel
theorem dX3_weigh_16 : decode cX3_weigh 16 = .ok (.iload_n 1, 1) := by decide +kernel
theorem dX3_weigh_17 : decode cX3_weigh 17 = .ok (.iconst 1, 1) := by decide +kernel
theorem dX3_weigh_18 : decode cX3_weigh 18 = .ok (.iand, 1) := by decide +kernel
theorem dX3_weigh_19 : decode cX3_weigh 19 = .ok (.aaload, 1) := by decide +kernel
theorem dX3_weigh_20 : decode cX3_weigh 20 = .ok (.aload_n 0, 1) := by decide +kernel
theorem dX3_weigh_21 : decode cX3_weigh 21 = .ok (.getfield 9, 3) := by decide +kernel
theorem dX3_weigh_24 : decode cX3_weigh 24 = .ok (.lconst 1, 1) := by decide +kernel
theorem dX3_weigh_25 : decode cX3_weigh 25 = .ok (.lastore, 1) := by decide +kernel
theorem dX3_weigh_26 : decode cX3_weigh 26 = .ok (.iload_n 1, 1) := by decide +kernel
theorem dX3_weigh_27 : decode cX3_weigh 27 = .ok (.iconst 1, 1) := by decide +kernel
theorem dX3_weigh_28 : decode cX3_weigh 28 = .ok (.isub, 1) := by decide +kernel
theorem dX3_weigh_29 : decode cX3_weigh 29 = .ok (.istore_n 2, 1) := by decide +kernel
theorem dX3_weigh_30 : decode cX3_weigh 30 = .ok (.iload_n 2, 1) := by decide +kernel
theorem dX3_weigh_31 : decode cX3_weigh 31 = .ok (.ifCond .lt 51, 3) := by decide +kernel
theorem dX3_weigh_34 : decode cX3_weigh 34 = .ok (.iconst 0, 1) := by decide +kernel
theorem dX3_weigh_35 : decode cX3_weigh 35 = .ok (.istore_n 3, 1) := by decide +kernel
theorem dX3_weigh_36 : decode cX3_weigh 36 = .ok (.iload_n 3, 1) := by decide +kernel
theorem dX3_weigh_37 : decode cX3_weigh 37 = .ok (.aload_n 0, 1) := by decide +kernel
theorem dX3_weigh_38 : decode cX3_weigh 38 = .ok (.getfield 9, 3) := by decide +kernel
theorem dX3_weigh_41 : decode cX3_weigh 41 = .ok (.if_icmp .gt 35, 3) := by decide +kernel
theorem dX3_weigh_44 : decode cX3_weigh 44 = .ok (.aload_n 0, 1) := by decide +kernel
theorem dX3_weigh_45 : decode cX3_weigh 45 = .ok (.getfield 29, 3) := by decide +kernel
theorem dX3_weigh_48 : decode cX3_weigh 48 = .ok (.iload_n 3, 1) := by decide +kernel
theorem dX3_weigh_49 : decode cX3_weigh 49 = .ok (.iaload, 1) := by decide +kernel
theorem dX3_weigh_50 : decode cX3_weigh 50 = .ok (.iload_n 2, 1) := by decide +kernel
theorem dX3_weigh_51 : decode cX3_weigh 51 = .ok (.if_icmp .gt 19, 3) := by decide +kernel
theorem dX3_weigh_54 : decode cX3_weigh 54 = .ok (.iload_n 2, 1) := by decide +kernel
theorem dX3_weigh_55 : decode cX3_weigh 55 = .ok (.aload_n 0, 1) := by decide +kernel
theorem dX3_weigh_56 : decode cX3_weigh 56 = .ok (.getfield 32, 3) := by decide +kernel
theorem dX3_weigh_59 : decode cX3_weigh 59 = .ok (.iload_n 3, 1) := by decide +kernel
theorem dX3_weigh_60 : decode cX3_weigh 60 = .ok (.iaload, 1) := by decide +kernel
theorem dX3_weigh_61 : decode cX3_weigh 61 = .ok (.if_icmp .gt 9, 3) := by decide +kernel
theorem dX3_weigh_64 : decode cX3_weigh 64 = .ok (.aload_n 0, 1) := by decide +kernel
theorem dX3_weigh_65 : decode cX3_weigh 65 = .ok (.iload_n 2, 1) := by decide +kernel
theorem dX3_weigh_66 : decode cX3_weigh 66 = .ok (.iload_n 3, 1) := by decide +kernel
theorem dX3_weigh_67 : decode cX3_weigh 67 = .ok (.invokevirtual 143, 3) := by decide +kernel
theorem dX3_weigh_70 : decode cX3_weigh 70 = .ok (.iinc 3 1, 3) := by decide +kernel
theorem dX3_weigh_73 : decode cX3_weigh 73 = .ok (.goto (-37), 3) := by decide +kernel
theorem dX3_weigh_76 : decode cX3_weigh 76 = .ok (.iinc 2 (-1), 3) := by decide +kernel
theorem dX3_weigh_79 : decode cX3_weigh 79 = .ok (.goto (-49), 3) := by decide +kernel
theorem dX3_weigh_82 : decode cX3_weigh 82 = .ok (.return_, 1) := by decide +kernel
theorem dX3_weighState_0 : decode cX3_weighState 0 = .ok (.iload_n 1, 1) := by decide +kernel
theorem dX3_weighState_1 : decode cX3_weighState 1 = .ok (.iconst 1, 1) := by decide +kernel
theorem dX3_weighState_2 : decode cX3_weighState 2 = .ok (.iadd, 1) := by decide +kernel
theorem dX3_weighState_3 : decode cX3_weighState 3 = .ok (.istore_n 3, 1) := by decide +kernel
theorem dX3_weighState_4 : decode cX3_weighState 4 = .ok (.aload_n 0, 1) := by decide +kernel
theorem dX3_weighState_5 : decode cX3_weighState 5 = .ok (.getfield 40, 3) := by decide +kernel
theorem dX3_weighState_8 : decode cX3_weighState 8 = .ok (.iload_n 3, 1) := by decide +kernel
theorem dX3_weighState_9 : decode cX3_weighState 9 = .ok (.aaload, 1) := by decide +kernel
theorem dX3_weighState_10 : decode cX3_weighState 10 = .ok (.astore 4, 2) := by decide +kernel
theorem dX3_weighState_12 : decode cX3_weighState 12 = .ok (.aload_n 0, 1) := by decide +kernel
theorem dX3_weighState_13 : decode cX3_weighState 13 = .ok (.getfield 43, 3) := by decide +kernel
theorem dX3_weighState_16 : decode cX3_weighState 16 = .ok (.iload_n 3, 1) := by decide +kernel
theorem dX3_weighState_17 : decode cX3_weighState 17 = .ok (.iconst 1, 1) := by decide +kernel
theorem dX3_weighState_18 : decode cX3_weighState 18 = .ok (.iand, 1) := by decide +kernel
theorem dX3_weighState_19 : decode cX3_weighState 19 = .ok (.aaload, 1) := by decide +kernel
theorem dX3_weighState_20 : decode cX3_weighState 20 = .ok (.astore 5, 2) := by decide +kernel
theorem dX3_weighState_22 : decode cX3_weighState 22 = .ok (.ldc2_w 146, 3) := by decide +kernel
theorem dX3_weighState_25 : decode cX3_weighState 25 = .ok (.lstore 6, 2) := by decide +kernel
theorem dX3_weighState_27 : decode cX3_weighState 27 = .ok (.lconst 0, 1) := by decide +kernel
theorem dX3_weighState_28 : decode cX3_weighState 28 = .ok (.lstore 8, 2) := by decide +kernel
theorem dX3_weighState_30 : decode cX3_weighState 30 = .ok (.iload_n 3, 1) := by decide +kernel
theorem dX3_weighState_31 : decode cX3_weighState 31 = .ok (.aload_n 0, 1) := by decide +kernel
theorem dX3_weighState_32 : decode cX3_weighState 32 = .ok (.getfield 32, 3) := by decide +kernel
theorem dX3_weighState_35 : decode cX3_weighState 35 = .ok (.iload_n 2, 1) := by decide +kernel
theorem dX3_weighState_36 : decode cX3_weighState 36 = .ok (.iaload, 1) := by decide +kernel
theorem dX3_weighState_37 : decode cX3_weighState 37 = .ok (.if_icmp .gt 15, 3) := by decide +kernel
theorem dX3_weighState_40 : decode cX3_weighState 40 = .ok (.aload 4, 2) := by decide +kernel
theorem dX3_weighState_42 : decode cX3_weighState 42 = .ok (.iload_n 2, 1) := by decide +kernel
theorem dX3_weighState_43 : decode cX3_weighState 43 = .ok (.laload, 1) := by decide +kernel
theorem dX3_weighState_44 : decode cX3_weighState 44 = .ok (.lstore 6, 2) := by decide +kernel
theorem dX3_weighState_46 : decode cX3_weighState 46 = .ok (.aload 5, 2) := by decide +kernel
theorem dX3_weighState_48 : decode cX3_weighState 48 = .ok (.iload_n 2, 1) := by decide +kernel
theorem dX3_weighState_49 : decode cX3_weighState 49 = .ok (.laload, 1) := by decide +kernel
theorem dX3_weighState_50 : decode cX3_weighState 50 = .ok (.lstore 8, 2) := by decide +kernel
theorem dX3_weighState_52 : decode cX3_weighState 52 = .ok (.aload_n 0, 1) := by decide +kernel
theorem dX3_weighState_53 : decode cX3_weighState 53 = .ok (.getfield 9, 3) := by decide +kernel
theorem dX3_weighState_56 : decode cX3_weighState 56 = .ok (.iload_n 2, 1) := by decide +kernel
theorem dX3_weighState_57 : decode cX3_weighState 57 = .ok (.iconst (-1), 1) := by decide +kernel
theorem dX3_weighState_58 : decode cX3_weighState 58 = .ok (.ixor, 1) := by decide +kernel
theorem dX3_weighState_59 : decode cX3_weighState 59 = .ok (.iand, 1) := by decide +kernel
theorem dX3_weighState_60 : decode cX3_weighState 60 = .ok (.istore 10, 2) := by decide +kernel
theorem dX3_weighState_62 : decode cX3_weighState 62 = .ok (.iload 10, 2) := by decide +kernel
theorem dX3_weighState_64 : decode cX3_weighState 64 = .ok (.istore 11, 2) := by decide +kernel
theorem dX3_weighState_66 : decode cX3_weighState 66 = .ok (.iload 11, 2) := by decide +kernel
theorem dX3_weighState_68 : decode cX3_weighState 68 = .ok (.ifCond .le 90, 3) := by decide +kernel
theorem dX3_weighState_71 : decode cX3_weighState 71 = .ok (.iload_n 2, 1) := by decide +kernel
theorem dX3_weighState_72 : decode cX3_weighState 72 = .ok (.iload 11, 2) := by decide +kernel
theorem dX3_weighState_74 : decode cX3_weighState 74 = .ok (.ior, 1) := by decide +kernel
theorem dX3_weighState_75 : decode cX3_weighState 75 = .ok (.istore 12, 2) := by decide +kernel
theorem dX3_weighState_77 : decode cX3_weighState 77 = .ok (.aload_n 0, 1) := by decide +kernel
theorem dX3_weighState_78 : decode cX3_weighState 78 = .ok (.getfield 26, 3) := by decide +kernel
theorem dX3_weighState_81 : decode cX3_weighState 81 = .ok (.iload 11, 2) := by decide +kernel
theorem dX3_weighState_83 : decode cX3_weighState 83 = .ok (.iaload, 1) := by decide +kernel
theorem dX3_weighState_84 : decode cX3_weighState 84 = .ok (.istore 13, 2) := by decide +kernel
theorem dX3_weighState_86 : decode cX3_weighState 86 = .ok (.iload_n 3, 1) := by decide +kernel
theorem dX3_weighState_87 : decode cX3_weighState 87 = .ok (.aload_n 0, 1) := by decide +kernel
theorem dX3_weighState_88 : decode cX3_weighState 88 = .ok (.getfield 32, 3) := by decide +kernel
theorem dX3_weighState_91 : decode cX3_weighState 91 = .ok (.iload 12, 2) := by decide +kernel
theorem dX3_weighState_93 : decode cX3_weighState 93 = .ok (.iaload, 1) := by decide +kernel
theorem dX3_weighState_94 : decode cX3_weighState 94 = .ok (.if_icmp .gt 52, 3) := by decide +kernel
theorem dX3_weighState_97 : decode cX3_weighState 97 = .ok (.iload 13, 2) := by decide +kernel
theorem dX3_weighState_99 : decode cX3_weighState 99 = .ok (.ifCond .eq 9, 3) := by decide +kernel
theorem dX3_weighState_102 : decode cX3_weighState 102 = .ok (.iload 13, 2) := by decide +kernel
theorem dX3_weighState_104 : decode cX3_weighState 104 = .ok (.iload_n 3, 1) := by decide +kernel
theorem dX3_weighState_105 : decode cX3_weighState 105 = .ok (.if_icmp .ne 41, 3) := by decide +kernel
theorem dX3_weighState_108 : decode cX3_weighState 108 = .ok (.aload_n 0, 1) := by decide +kernel
theorem dX3_weighState_109 : decode cX3_weighState 109 = .ok (.getfield 15, 3) := by decide +kernel
theorem dX3_weighState_112 : decode cX3_weighState 112 = .ok (.iload 11, 2) := by decide +kernel
theorem dX3_weighState_114 : decode cX3_weighState 114 = .ok (.iaload, 1) := by decide +kernel
theorem dX3_weighState_115 : decode cX3_weighState 115 = .ok (.i2l, 1) := by decide +kernel
theorem dX3_weighState_116 : decode cX3_weighState 116 = .ok (.lstore 14, 2) := by decide +kernel
theorem dX3_weighState_118 : decode cX3_weighState 118 = .ok (.lload 6, 2) := by decide +kernel
theorem dX3_weighState_120 : decode cX3_weighState 120 = .ok (.lload 14, 2) := by decide +kernel
theorem dX3_weighState_122 : decode cX3_weighState 122 = .ok (.lload 14, 2) := by decide +kernel
theorem dX3_weighState_124 : decode cX3_weighState 124 = .ok (.lmul, 1) := by decide +kernel
theorem dX3_weighState_125 : decode cX3_weighState 125 = .ok (.aload 4, 2) := by decide +kernel
theorem dX3_weighState_127 : decode cX3_weighState 127 = .ok (.iload 12, 2) := by decide +kernel
theorem dX3_weighState_129 : decode cX3_weighState 129 = .ok (.laload, 1) := by decide +kernel
theorem dX3_weighState_130 : decode cX3_weighState 130 = .ok (.ladd, 1) := by decide +kernel
theorem dX3_weighState_131 : decode cX3_weighState 131 = .ok (.invokestatic 148, 3) := by decide +kernel
theorem dX3_weighState_134 : decode cX3_weighState 134 = .ok (.lstore 6, 2) := by decide +kernel
theorem dX3_weighState_136 : decode cX3_weighState 136 = .ok (.lload 8, 2) := by decide +kernel
theorem dX3_weighState_138 : decode cX3_weighState 138 = .ok (.aload 5, 2) := by decide +kernel
theorem dX3_weighState_140 : decode cX3_weighState 140 = .ok (.iload 12, 2) := by decide +kernel
theorem dX3_weighState_142 : decode cX3_weighState 142 = .ok (.laload, 1) := by decide +kernel
theorem dX3_weighState_143 : decode cX3_weighState 143 = .ok (.ladd, 1) := by decide +kernel
theorem dX3_weighState_144 : decode cX3_weighState 144 = .ok (.lstore 8, 2) := by decide +kernel
theorem dX3_weighState_146 : decode cX3_weighState 146 = .ok (.iload 11, 2) := by decide +kernel
theorem dX3_weighState_148 : decode cX3_weighState 148 = .ok (.iconst 1, 1) := by decide +kernel
theorem dX3_weighState_149 : decode cX3_weighState 149 = .ok (.isub, 1) := by decide +kernel
theorem dX3_weighState_150 : decode cX3_weighState 150 = .ok (.iload 10, 2) := by decide +kernel
theorem dX3_weighState_152 : decode cX3_weighState 152 = .ok (.iand, 1) := by decide +kernel
theorem dX3_weighState_153 : decode cX3_weighState 153 = .ok (.istore 11, 2) := by decide +kernel
theorem dX3_weighState_155 : decode cX3_weighState 155 = .ok (.goto (-89), 3) := by decide +kernel
theorem dX3_weighState_158 : decode cX3_weighState 158 = .ok (.aload_n 0, 1) := by decide +kernel
theorem dX3_weighState_159 : decode cX3_weighState 159 = .ok (.getfield 40, 3) := by decide +kernel
theorem dX3_weighState_162 : decode cX3_weighState 162 = .ok (.iload_n 1, 1) := by decide +kernel
theorem dX3_weighState_163 : decode cX3_weighState 163 = .ok (.aaload, 1) := by decide +kernel
theorem dX3_weighState_164 : decode cX3_weighState 164 = .ok (.iload_n 2, 1) := by decide +kernel
theorem dX3_weighState_165 : decode cX3_weighState 165 = .ok (.lload 6, 2) := by decide +kernel
theorem dX3_weighState_167 : decode cX3_weighState 167 = .ok (.lastore, 1) := by decide +kernel
theorem dX3_weighState_168 : decode cX3_weighState 168 = .ok (.aload_n 0, 1) := by decide +kernel
theorem dX3_weighState_169 : decode cX3_weighState 169 = .ok (.getfield 43, 3) := by decide +kernel
theorem dX3_weighState_172 : decode cX3_weighState 172 = .ok (.iload_n 1, 1) := by decide +kernel
theorem dX3_weighState_173 : decode cX3_weighState 173 = .ok (.iconst 1, 1) := by decide +kernel
theorem dX3_weighState_174 : decode cX3_weighState 174 = .ok (.iand, 1) := by decide +kernel
theorem dX3_weighState_175 : decode cX3_weighState 175 = .ok (.aaload, 1) := by decide +kernel
theorem dX3_weighState_176 : decode cX3_weighState 176 = .ok (.iload_n 2, 1) := by decide +kernel
theorem dX3_weighState_177 : decode cX3_weighState 177 = .ok (.lload 8, 2) := by decide +kernel
theorem dX3_weighState_179 : decode cX3_weighState 179 = .ok (.lastore, 1) := by decide +kernel
theorem dX3_weighState_180 : decode cX3_weighState 180 = .ok (.return_, 1) := by decide +kernel
