theorem dX2_init_0 : decode cX2_init 0 = .ok (.aload_n 0, 1) := by decide +kernel
theorem dX2_init_1 : decode cX2_init 1 = .ok (.invokespecial 3, 3) := by decide +kernel
theorem dX2_init_4 : decode cX2_init 4 = .ok (.aload_n 0, 1) := by decide +kernel
theorem dX2_init_5 : decode cX2_init 5 = .ok (.bipush 10, 2) := by decide +kernel
theorem dX2_init_7 : decode cX2_init 7 = .ok (.newarray .int, 2) := by decide +kernel
theorem dX2_init_9 : decode cX2_init 9 = .ok (.putfield 9, 3) := by decide +kernel
theorem dX2_init_12 : decode cX2_init 12 = .ok (.aload_n 0, 1) := by decide +kernel
theorem dX2_init_13 : decode cX2_init 13 = .ok (.iconst 0, 1) := by decide +kernel
theorem dX2_init_14 : decode cX2_init 14 = .ok (.putfield 15, 3) := by decide +kernel
theorem dX2_init_17 : decode cX2_init 17 = .ok (.aload_n 0, 1) := by decide +kernel
theorem dX2_init_18 : decode cX2_init 18 = .ok (.bipush 11, 2) := by decide +kernel
theorem dX2_init_20 : decode cX2_init 20 = .ok (.newarray .int, 2) := by decide +kernel
theorem dX2_init_22 : decode cX2_init 22 = .ok (.putfield 19, 3) := by decide +kernel
theorem dX2_init_25 : decode cX2_init 25 = .ok (.return_, 1) := by decide +kernel
set_option maxRecDepth 20000 in
set_option maxRecDepth 20000 in
theorem ggX2_trace_X2_layersUpTo : GoodIn wsX2_trace wsX2_layersUpTo := goodIn_r _ [8, 3, 9, 10, 14, 15, 16, 17, 18, 19, 20, 21, 22, 23, 24, 25, 26, 27] rfl (by decide +kernel)
set_option maxRecDepth 20000 in
theorem gX2_trace_X2_layersUpTo : GoodIn wsX2_trace (wsV RX2 22 RX2 yX2_layersUpTo wsX2_layersUpTo) := goodIn_app (goodIn_of _ (by decide +kernel)) ggX2_trace_X2_layersUpTo
set_option maxRecDepth 20000 in
set_option maxRecDepth 20000 in
theorem ggX2_trace_X2_leastStep : GoodIn wsX2_trace wsX2_leastStep := goodIn_r _ [13, 9, 10, 17, 18, 19, 20, 21, 22, 23, 24, 25, 26, 27] rfl (by decide +kernel)
set_option maxRecDepth 20000 in
theorem gX2_trace_X2_leastStep : GoodIn wsX2_trace (va_wsS RX2 26 yX2_leastStep wsX2_leastStep) := goodIn_app (goodIn_of _ (by decide +kernel)) ggX2_trace_X2_leastStep
theorem dX2_trace_0 : decode cX2_trace 0 = .ok (.aload_n 0, 1) := by decide +kernel
theorem dX2_trace_1 : decode cX2_trace 1 = .ok (.getfield 9, 3) := by decide +kernel
theorem dX2_trace_4 : decode cX2_trace 4 = .ok (.iconst 0, 1) := by decide +kernel
theorem dX2_trace_5 : decode cX2_trace 5 = .ok (.iload_n 2, 1) := by decide +kernel
theorem dX2_trace_6 : decode cX2_trace 6 = .ok (.iastore, 1) := by decide +kernel
theorem dX2_trace_7 : decode cX2_trace 7 = .ok (.aload_n 0, 1) := by decide +kernel
theorem dX2_trace_8 : decode cX2_trace 8 = .ok (.iconst 1, 1) := by decide +kernel
theorem dX2_trace_9 : decode cX2_trace 9 = .ok (.putfield 15, 3) := by decide +kernel
theorem dX2_trace_12 : decode cX2_trace 12 = .ok (.iload_n 2, 1) := by decide +kernel
theorem dX2_trace_13 : decode cX2_trace 13 = .ok (.iload_n 3, 1) := by decide +kernel
theorem dX2_trace_14 : decode cX2_trace 14 = .ok (.if_icmp .ne 4, 3) := by decide +kernel
theorem dX2_trace_17 : decode cX2_trace 17 = .ok (.return_, 1) := by decide +kernel
theorem dX2_trace_18 : decode cX2_trace 18 = .ok (.aload_n 0, 1) := by decide +kernel
theorem dX2_trace_19 : decode cX2_trace 19 = .ok (.aload_n 1, 1) := by decide +kernel
theorem dX2_trace_20 : decode cX2_trace 20 = .ok (.iload_n 2, 1) := by decide +kernel
theorem dX2_trace_21 : decode cX2_trace 21 = .ok (.iload_n 3, 1) := by decide +kernel
theorem dX2_trace_22 : decode cX2_trace 22 = .ok (.invokevirtual 22, 3) := by decide +kernel
theorem dX2_trace_25 : decode cX2_trace 25 = .ok (.istore 4, 2) := by decide +kernel
theorem dX2_trace_27 : decode cX2_trace 27 = .ok (.iload_n 3, 1) := by decide +kernel
theorem dX2_trace_28 : decode cX2_trace 28 = .ok (.istore 5, 2) := by decide +kernel
theorem dX2_trace_30 : decode cX2_trace 30 = .ok (.iload 4, 2) := by decide +kernel
theorem dX2_trace_32 : decode cX2_trace 32 = .ok (.iconst 1, 1) := by decide +kernel
theorem dX2_trace_33 : decode cX2_trace 33 = .ok (.isub, 1) := by decide +kernel
theorem dX2_trace_34 : decode cX2_trace 34 = .ok (.istore 6, 2) := by decide +kernel
theorem dX2_trace_36 : decode cX2_trace 36 = .ok (.iload 6, 2) := by decide +kernel
theorem dX2_trace_38 : decode cX2_trace 38 = .ok (.ifCond .lt 54, 3) := by decide +kernel
theorem dX2_trace_41 : decode cX2_trace 41 = .ok (.aload_n 0, 1) := by decide +kernel
theorem dX2_trace_42 : decode cX2_trace 42 = .ok (.getfield 15, 3) := by decide +kernel
theorem dX2_trace_45 : decode cX2_trace 45 = .ok (.bipush 10, 2) := by decide +kernel
theorem dX2_trace_47 : decode cX2_trace 47 = .ok (.if_icmp .ge 45, 3) := by decide +kernel
theorem dX2_trace_50 : decode cX2_trace 50 = .ok (.aload_n 0, 1) := by decide +kernel
theorem dX2_trace_51 : decode cX2_trace 51 = .ok (.getfield 9, 3) := by decide +kernel
theorem dX2_trace_54 : decode cX2_trace 54 = .ok (.aload_n 0, 1) := by decide +kernel
theorem dX2_trace_55 : decode cX2_trace 55 = .ok (.getfield 15, 3) := by decide +kernel
theorem dX2_trace_58 : decode cX2_trace 58 = .ok (.iload 5, 2) := by decide +kernel
theorem dX2_trace_60 : decode cX2_trace 60 = .ok (.iastore, 1) := by decide +kernel
theorem dX2_trace_61 : decode cX2_trace 61 = .ok (.aload_n 0, 1) := by decide +kernel
theorem dX2_trace_62 : decode cX2_trace 62 = .ok (.dup, 1) := by decide +kernel
theorem dX2_trace_63 : decode cX2_trace 63 = .ok (.getfield 15, 3) := by decide +kernel
theorem dX2_trace_66 : decode cX2_trace 66 = .ok (.iconst 1, 1) := by decide +kernel
theorem dX2_trace_67 : decode cX2_trace 67 = .ok (.iadd, 1) := by decide +kernel
theorem dX2_trace_68 : decode cX2_trace 68 = .ok (.putfield 15, 3) := by decide +kernel
theorem dX2_trace_71 : decode cX2_trace 71 = .ok (.aload_n 1, 1) := by decide +kernel
theorem dX2_trace_72 : decode cX2_trace 72 = .ok (.iload 5, 2) := by decide +kernel
theorem dX2_trace_74 : decode cX2_trace 74 = .ok (.aload_n 0, 1) := by decide +kernel
theorem dX2_trace_75 : decode cX2_trace 75 = .ok (.getfield 19, 3) := by decide +kernel
theorem dX2_trace_78 : decode cX2_trace 78 = .ok (.iload 6, 2) := by decide +kernel
theorem dX2_trace_80 : decode cX2_trace 80 = .ok (.iaload, 1) := by decide +kernel
theorem dX2_trace_81 : decode cX2_trace 81 = .ok (.invokestatic 26, 3) := by decide +kernel
theorem dX2_trace_84 : decode cX2_trace 84 = .ok (.istore 5, 2) := by decide +kernel
theorem dX2_trace_86 : decode cX2_trace 86 = .ok (.iinc 6 (-1), 3) := by decide +kernel
theorem dX2_trace_89 : decode cX2_trace 89 = .ok (.goto (-53), 3) := by decide +kernel
theorem dX2_trace_92 : decode cX2_trace 92 = .ok (.return_, 1) := by decide +kernel
theorem dX2_layersUpTo_0 : decode cX2_layersUpTo 0 = .ok (.iconst 1, 1) := by decide +kernel
theorem dX2_layersUpTo_1 : decode cX2_layersUpTo 1 = .ok (.iload_n 2, 1) := by decide +kernel
theorem dX2_layersUpTo_2 : decode cX2_layersUpTo 2 = .ok (.ishl, 1) := by decide +kernel
theorem dX2_layersUpTo_3 : decode cX2_layersUpTo 3 = .ok (.istore 4, 2) := by decide +kernel
theorem dX2_layersUpTo_5 : decode cX2_layersUpTo 5 = .ok (.aload_n 0, 1) := by decide +kernel
theorem dX2_layersUpTo_6 : decode cX2_layersUpTo 6 = .ok (.getfield 19, 3) := by decide +kernel
theorem dX2_layersUpTo_9 : decode cX2_layersUpTo 9 = .ok (.iconst 0, 1) := by decide +kernel
theorem dX2_layersUpTo_10 : decode cX2_layersUpTo 10 = .ok (.iload 4, 2) := by decide +kernel
theorem dX2_layersUpTo_12 : decode cX2_layersUpTo 12 = .ok (.iastore, 1) := by decide +kernel
theorem dX2_layersUpTo_13 : decode cX2_layersUpTo 13 = .ok (.iconst 0, 1) := by decide +kernel
theorem dX2_layersUpTo_14 : decode cX2_layersUpTo 14 = .ok (.istore 5, 2) := by decide +kernel
theorem dX2_layersUpTo_16 : decode cX2_layersUpTo 16 = .ok (.iload 5, 2) := by decide +kernel
theorem dX2_layersUpTo_18 : decode cX2_layersUpTo 18 = .ok (.bipush 10, 2) := by decide +kernel
theorem dX2_layersUpTo_20 : decode cX2_layersUpTo 20 = .ok (.if_icmp .ge 92, 3) := by decide +kernel
theorem dX2_layersUpTo_23 : decode cX2_layersUpTo 23 = .ok (.aload_n 0, 1) := by decide +kernel
theorem dX2_layersUpTo_24 : decode cX2_layersUpTo 24 = .ok (.getfield 19, 3) := by decide +kernel
theorem dX2_layersUpTo_27 : decode cX2_layersUpTo 27 = .ok (.iload 5, 2) := by decide +kernel
theorem dX2_layersUpTo_29 : decode cX2_layersUpTo 29 = .ok (.iaload, 1) := by decide +kernel
theorem dX2_layersUpTo_30 : decode cX2_layersUpTo 30 = .ok (.iconst 1, 1) := by decide +kernel
theorem dX2_layersUpTo_31 : decode cX2_layersUpTo 31 = .ok (.iload_n 3, 1) := by decide +kernel
theorem dX2_layersUpTo_32 : decode cX2_layersUpTo 32 = .ok (.ishl, 1) := by decide +kernel
theorem dX2_layersUpTo_33 : decode cX2_layersUpTo 33 = .ok (.iand, 1) := by decide +kernel
theorem dX2_layersUpTo_34 : decode cX2_layersUpTo 34 = .ok (.ifCond .ne 78, 3) := by decide +kernel
theorem dX2_layersUpTo_37 : decode cX2_layersUpTo 37 = .ok (.iconst 0, 1) := by decide +kernel
theorem dX2_layersUpTo_38 : decode cX2_layersUpTo 38 = .ok (.istore 6, 2) := by decide +kernel
theorem dX2_layersUpTo_40 : decode cX2_layersUpTo 40 = .ok (.iconst 0, 1) := by decide +kernel
theorem dX2_layersUpTo_41 : decode cX2_layersUpTo 41 = .ok (.istore 7, 2) := by decide +kernel
theorem dX2_layersUpTo_43 : decode cX2_layersUpTo 43 = .ok (.iload 7, 2) := by decide +kernel
theorem dX2_layersUpTo_45 : decode cX2_layersUpTo 45 = .ok (.aload_n 1, 1) := by decide +kernel
theorem dX2_layersUpTo_46 : decode cX2_layersUpTo 46 = .ok (.getfield 29, 3) := by decide +kernel
theorem dX2_layersUpTo_49 : decode cX2_layersUpTo 49 = .ok (.if_icmp .ge 36, 3) := by decide +kernel
theorem dX2_layersUpTo_52 : decode cX2_layersUpTo 52 = .ok (.aload_n 0, 1) := by decide +kernel
theorem dX2_layersUpTo_53 : decode cX2_layersUpTo 53 = .ok (.getfield 19, 3) := by decide +kernel
theorem dX2_layersUpTo_56 : decode cX2_layersUpTo 56 = .ok (.iload 5, 2) := by decide +kernel
theorem dX2_layersUpTo_58 : decode cX2_layersUpTo 58 = .ok (.iaload, 1) := by decide +kernel
theorem dX2_layersUpTo_59 : decode cX2_layersUpTo 59 = .ok (.iconst 1, 1) := by decide +kernel
theorem dX2_layersUpTo_60 : decode cX2_layersUpTo 60 = .ok (.iload 7, 2) := by decide +kernel
theorem dX2_layersUpTo_62 : decode cX2_layersUpTo 62 = .ok (.ishl, 1) := by decide +kernel
theorem dX2_layersUpTo_63 : decode cX2_layersUpTo 63 = .ok (.iand, 1) := by decide +kernel
theorem dX2_layersUpTo_64 : decode cX2_layersUpTo 64 = .ok (.ifCond .eq 15, 3) := by decide +kernel
theorem dX2_layersUpTo_67 : decode cX2_layersUpTo 67 = .ok (.iload 6, 2) := by decide +kernel
theorem dX2_layersUpTo_69 : decode cX2_layersUpTo 69 = .ok (.aload_n 1, 1) := by decide +kernel
theorem dX2_layersUpTo_70 : decode cX2_layersUpTo 70 = .ok (.getfield 32, 3) := by decide +kernel
theorem dX2_layersUpTo_73 : decode cX2_layersUpTo 73 = .ok (.iload 7, 2) := by decide +kernel
theorem dX2_layersUpTo_75 : decode cX2_layersUpTo 75 = .ok (.iaload, 1) := by decide +kernel
theorem dX2_layersUpTo_76 : decode cX2_layersUpTo 76 = .ok (.ior, 1) := by decide +kernel
theorem dX2_layersUpTo_77 : decode cX2_layersUpTo 77 = .ok (.istore 6, 2) := by decide +kernel
theorem dX2_layersUpTo_79 : decode cX2_layersUpTo 79 = .ok (.iinc 7 1, 3) := by decide +kernel
theorem dX2_layersUpTo_82 : decode cX2_layersUpTo 82 = .ok (.goto (-39), 3) := by decide +kernel
theorem dX2_layersUpTo_85 : decode cX2_layersUpTo 85 = .ok (.iinc 5 1, 3) := by decide +kernel
theorem dX2_layersUpTo_88 : decode cX2_layersUpTo 88 = .ok (.aload_n 0, 1) := by decide +kernel
theorem dX2_layersUpTo_89 : decode cX2_layersUpTo 89 = .ok (.getfield 19, 3) := by decide +kernel
theorem dX2_layersUpTo_92 : decode cX2_layersUpTo 92 = .ok (.iload 5, 2) := by decide +kernel
theorem dX2_layersUpTo_94 : decode cX2_layersUpTo 94 = .ok (.iload 6, 2) := by decide +kernel
theorem dX2_layersUpTo_96 : decode cX2_layersUpTo 96 = .ok (.iload 4, 2) := by decide +kernel
theorem dX2_layersUpTo_98 : decode cX2_layersUpTo 98 = .ok (.iconst (-1), 1) := by decide +kernel
theorem dX2_layersUpTo_99 : decode cX2_layersUpTo 99 = .ok (.ixor, 1) := by decide +kernel
theorem dX2_layersUpTo_100 : decode cX2_layersUpTo 100 = .ok (.iand, 1) := by decide +kernel
theorem dX2_layersUpTo_101 : decode cX2_layersUpTo 101 = .ok (.iastore, 1) := by decide +kernel
theorem dX2_layersUpTo_102 : decode cX2_layersUpTo 102 = .ok (.iload 4, 2) := by decide +kernel
theorem dX2_layersUpTo_104 : decode cX2_layersUpTo 104 = .ok (.iload 6, 2) := by decide +kernel
theorem dX2_layersUpTo_106 : decode cX2_layersUpTo 106 = .ok (.ior, 1) := by decide +kernel
theorem dX2_layersUpTo_107 : decode cX2_layersUpTo 107 = .ok (.istore 4, 2) := by decide +kernel
theorem dX2_layersUpTo_109 : decode cX2_layersUpTo 109 = .ok (.goto (-93), 3) := by decide +kernel
theorem dX2_layersUpTo_112 : decode cX2_layersUpTo 112 = .ok (.iload 5, 2) := by decide +kernel
theorem dX2_layersUpTo_114 : decode cX2_layersUpTo 114 = .ok (.ireturn, 1) := by decide +kernel
theorem dX2_leastStep_0 : decode cX2_leastStep 0 = .ok (.iconst 0, 1) := by decide +kernel
theorem dX2_leastStep_1 : decode cX2_leastStep 1 = .ok (.istore_n 3, 1) := by decide +kernel
theorem dX2_leastStep_2 : decode cX2_leastStep 2 = .ok (.iload_n 3, 1) := by decide +kernel
theorem dX2_leastStep_3 : decode cX2_leastStep 3 = .ok (.aload_n 0, 1) := by decide +kernel
theorem dX2_leastStep_4 : decode cX2_leastStep 4 = .ok (.getfield 29, 3) := by decide +kernel
theorem dX2_leastStep_7 : decode cX2_leastStep 7 = .ok (.if_icmp .ge 32, 3) := by decide +kernel
theorem dX2_leastStep_10 : decode cX2_leastStep 10 = .ok (.iload_n 2, 1) := by decide +kernel
theorem dX2_leastStep_11 : decode cX2_leastStep 11 = .ok (.iconst 1, 1) := by decide +kernel
theorem dX2_leastStep_12 : decode cX2_leastStep 12 = .ok (.iload_n 3, 1) := by decide +kernel
theorem dX2_leastStep_13 : decode cX2_leastStep 13 = .ok (.ishl, 1) := by decide +kernel
theorem dX2_leastStep_14 : decode cX2_leastStep 14 = .ok (.iand, 1) := by decide +kernel
theorem dX2_leastStep_15 : decode cX2_leastStep 15 = .ok (.ifCond .eq 18, 3) := by decide +kernel
theorem dX2_leastStep_18 : decode cX2_leastStep 18 = .ok (.aload_n 0, 1) := by decide +kernel
theorem dX2_leastStep_19 : decode cX2_leastStep 19 = .ok (.getfield 32, 3) := by decide +kernel
theorem dX2_leastStep_22 : decode cX2_leastStep 22 = .ok (.iload_n 3, 1) := by decide +kernel
theorem dX2_leastStep_23 : decode cX2_leastStep 23 = .ok (.iaload, 1) := by decide +kernel
theorem dX2_leastStep_24 : decode cX2_leastStep 24 = .ok (.iconst 1, 1) := by decide +kernel
theorem dX2_leastStep_25 : decode cX2_leastStep 25 = .ok (.iload_n 1, 1) := by decide +kernel
theorem dX2_leastStep_26 : decode cX2_leastStep 26 = .ok (.ishl, 1) := by decide +kernel
theorem dX2_leastStep_27 : decode cX2_leastStep 27 = .ok (.iand, 1) := by decide +kernel
theorem dX2_leastStep_28 : decode cX2_leastStep 28 = .ok (.ifCond .eq 5, 3) := by decide +kernel
theorem dX2_leastStep_31 : decode cX2_leastStep 31 = .ok (.iload_n 3, 1) := by decide +kernel
theorem dX2_leastStep_32 : decode cX2_leastStep 32 = .ok (.ireturn, 1) := by decide +kernel
theorem dX2_leastStep_33 : decode cX2_leastStep 33 = .ok (.iinc 3 1, 3) := by decide +kernel
theorem dX2_leastStep_36 : decode cX2_leastStep 36 = .ok (.goto (-34), 3) := by decide +kernel
theorem dX2_leastStep_39 : decode cX2_leastStep 39 = .ok (.iload_n 1, 1) := by decide +kernel
theorem dX2_leastStep_40 : decode cX2_leastStep 40 = .ok (.ireturn, 1) := by decide +kernel
