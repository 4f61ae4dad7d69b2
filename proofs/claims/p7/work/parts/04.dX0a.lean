theorem dX0_init_0 : decode cX0_init 0 = .ok (.aload_n 0, 1) := by decide +kernel
theorem dX0_init_1 : decode cX0_init 1 = .ok (.invokespecial 3, 3) := by decide +kernel
theorem dX0_init_4 : decode cX0_init 4 = .ok (.aload_n 0, 1) := by decide +kernel
theorem dX0_init_5 : decode cX0_init 5 = .ok (.iconst 0, 1) := by decide +kernel
theorem dX0_init_6 : decode cX0_init 6 = .ok (.putfield 9, 3) := by decide +kernel
theorem dX0_init_9 : decode cX0_init 9 = .ok (.aload_n 0, 1) := by decide +kernel
theorem dX0_init_10 : decode cX0_init 10 = .ok (.iconst 0, 1) := by decide +kernel
theorem dX0_init_11 : decode cX0_init 11 = .ok (.putfield 15, 3) := by decide +kernel
theorem dX0_init_14 : decode cX0_init 14 = .ok (.aload_n 0, 1) := by decide +kernel
theorem dX0_init_15 : decode cX0_init 15 = .ok (.bipush 10, 2) := by decide +kernel
theorem dX0_init_17 : decode cX0_init 17 = .ok (.putfield 18, 3) := by decide +kernel
theorem dX0_init_20 : decode cX0_init 20 = .ok (.aload_n 0, 1) := by decide +kernel
theorem dX0_init_21 : decode cX0_init 21 = .ok (.iconst 3, 1) := by decide +kernel
theorem dX0_init_22 : decode cX0_init 22 = .ok (.newarray .int, 2) := by decide +kernel
theorem dX0_init_24 : decode cX0_init 24 = .ok (.putfield 21, 3) := by decide +kernel
theorem dX0_init_27 : decode cX0_init 27 = .ok (.aload_n 0, 1) := by decide +kernel
theorem dX0_init_28 : decode cX0_init 28 = .ok (.iconst 3, 1) := by decide +kernel
theorem dX0_init_29 : decode cX0_init 29 = .ok (.bipush 10, 2) := by decide +kernel
theorem dX0_init_31 : decode cX0_init 31 = .ok (.multianewarray 25 2, 4) := by decide +kernel
theorem dX0_init_35 : decode cX0_init 35 = .ok (.putfield 27, 3) := by decide +kernel
theorem dX0_init_38 : decode cX0_init 38 = .ok (.aload_n 0, 1) := by decide +kernel
theorem dX0_init_39 : decode cX0_init 39 = .ok (.bipush 10, 2) := by decide +kernel
theorem dX0_init_41 : decode cX0_init 41 = .ok (.newarray .int, 2) := by decide +kernel
theorem dX0_init_43 : decode cX0_init 43 = .ok (.putfield 30, 3) := by decide +kernel
theorem dX0_init_46 : decode cX0_init 46 = .ok (.aload_n 0, 1) := by decide +kernel
theorem dX0_init_47 : decode cX0_init 47 = .ok (.bipush 10, 2) := by decide +kernel
theorem dX0_init_49 : decode cX0_init 49 = .ok (.newarray .int, 2) := by decide +kernel
theorem dX0_init_51 : decode cX0_init 51 = .ok (.putfield 33, 3) := by decide +kernel
theorem dX0_init_54 : decode cX0_init 54 = .ok (.aload_n 0, 1) := by decide +kernel
theorem dX0_init_55 : decode cX0_init 55 = .ok (.bipush 10, 2) := by decide +kernel
theorem dX0_init_57 : decode cX0_init 57 = .ok (.newarray .int, 2) := by decide +kernel
theorem dX0_init_59 : decode cX0_init 59 = .ok (.putfield 36, 3) := by decide +kernel
theorem dX0_init_62 : decode cX0_init 62 = .ok (.aload_n 0, 1) := by decide +kernel
theorem dX0_init_63 : decode cX0_init 63 = .ok (.bipush 10, 2) := by decide +kernel
theorem dX0_init_65 : decode cX0_init 65 = .ok (.newarray .int, 2) := by decide +kernel
theorem dX0_init_67 : decode cX0_init 67 = .ok (.putfield 39, 3) := by decide +kernel
theorem dX0_init_70 : decode cX0_init 70 = .ok (.aload_n 0, 1) := by decide +kernel
theorem dX0_init_71 : decode cX0_init 71 = .ok (.bipush 10, 2) := by decide +kernel
theorem dX0_init_73 : decode cX0_init 73 = .ok (.newarray .int, 2) := by decide +kernel
theorem dX0_init_75 : decode cX0_init 75 = .ok (.putfield 42, 3) := by decide +kernel
theorem dX0_init_78 : decode cX0_init 78 = .ok (.aload_n 0, 1) := by decide +kernel
theorem dX0_init_79 : decode cX0_init 79 = .ok (.bipush 10, 2) := by decide +kernel
theorem dX0_init_81 : decode cX0_init 81 = .ok (.newarray .int, 2) := by decide +kernel
theorem dX0_init_83 : decode cX0_init 83 = .ok (.putfield 45, 3) := by decide +kernel
theorem dX0_init_86 : decode cX0_init 86 = .ok (.aload_n 0, 1) := by decide +kernel
theorem dX0_init_87 : decode cX0_init 87 = .ok (.getfield 21, 3) := by decide +kernel
theorem dX0_init_90 : decode cX0_init 90 = .ok (.iconst 0, 1) := by decide +kernel
theorem dX0_init_91 : decode cX0_init 91 = .ok (.iconst 1, 1) := by decide +kernel
theorem dX0_init_92 : decode cX0_init 92 = .ok (.iastore, 1) := by decide +kernel
theorem dX0_init_93 : decode cX0_init 93 = .ok (.return_, 1) := by decide +kernel
theorem dX0_has_0 : decode cX0_has 0 = .ok (.iload_n 1, 1) := by decide +kernel
theorem dX0_has_1 : decode cX0_has 1 = .ok (.ifCond .lt 15, 3) := by decide +kernel
theorem dX0_has_4 : decode cX0_has 4 = .ok (.iload_n 1, 1) := by decide +kernel
theorem dX0_has_5 : decode cX0_has 5 = .ok (.aload_n 0, 1) := by decide +kernel
theorem dX0_has_6 : decode cX0_has 6 = .ok (.getfield 9, 3) := by decide +kernel
theorem dX0_has_9 : decode cX0_has 9 = .ok (.if_icmp .ge 7, 3) := by decide +kernel
theorem dX0_has_12 : decode cX0_has 12 = .ok (.iconst 1, 1) := by decide +kernel
theorem dX0_has_13 : decode cX0_has 13 = .ok (.goto 4, 3) := by decide +kernel
theorem dX0_has_16 : decode cX0_has 16 = .ok (.iconst 0, 1) := by decide +kernel
theorem dX0_has_17 : decode cX0_has 17 = .ok (.ireturn, 1) := by decide +kernel
theorem dX0_all_0 : decode cX0_all 0 = .ok (.iconst 1, 1) := by decide +kernel
theorem dX0_all_1 : decode cX0_all 1 = .ok (.aload_n 0, 1) := by decide +kernel
theorem dX0_all_2 : decode cX0_all 2 = .ok (.getfield 9, 3) := by decide +kernel
theorem dX0_all_5 : decode cX0_all 5 = .ok (.ishl, 1) := by decide +kernel
theorem dX0_all_6 : decode cX0_all 6 = .ok (.iconst 1, 1) := by decide +kernel
theorem dX0_all_7 : decode cX0_all 7 = .ok (.isub, 1) := by decide +kernel
theorem dX0_all_8 : decode cX0_all 8 = .ok (.ireturn, 1) := by decide +kernel
theorem dX0_add_0 : decode cX0_add 0 = .ok (.aload_n 0, 1) := by decide +kernel
theorem dX0_add_1 : decode cX0_add 1 = .ok (.getfield 9, 3) := by decide +kernel
theorem dX0_add_4 : decode cX0_add 4 = .ok (.istore_n 1, 1) := by decide +kernel
theorem dX0_add_5 : decode cX0_add 5 = .ok (.iconst 0, 1) := by decide +kernel
theorem dX0_add_6 : decode cX0_add 6 = .ok (.istore_n 2, 1) := by decide +kernel
theorem dX0_add_7 : decode cX0_add 7 = .ok (.iload_n 2, 1) := by decide +kernel
theorem dX0_add_8 : decode cX0_add 8 = .ok (.iconst 3, 1) := by decide +kernel
theorem dX0_add_9 : decode cX0_add 9 = .ok (.if_icmp .ge 18, 3) := by decide +kernel
theorem dX0_add_12 : decode cX0_add 12 = .ok (.aload_n 0, 1) := by decide +kernel
theorem dX0_add_13 : decode cX0_add 13 = .ok (.getfield 27, 3) := by decide +kernel
theorem dX0_add_16 : decode cX0_add 16 = .ok (.iload_n 2, 1) := by decide +kernel
theorem dX0_add_17 : decode cX0_add 17 = .ok (.aaload, 1) := by decide +kernel
theorem dX0_add_18 : decode cX0_add 18 = .ok (.iload_n 1, 1) := by decide +kernel
theorem dX0_add_19 : decode cX0_add 19 = .ok (.iconst 1, 1) := by decide +kernel
theorem dX0_add_20 : decode cX0_add 20 = .ok (.iastore, 1) := by decide +kernel
theorem dX0_add_21 : decode cX0_add 21 = .ok (.iinc 2 1, 3) := by decide +kernel
theorem dX0_add_24 : decode cX0_add 24 = .ok (.goto (-17), 3) := by decide +kernel
theorem dX0_add_27 : decode cX0_add 27 = .ok (.aload_n 0, 1) := by decide +kernel
theorem dX0_add_28 : decode cX0_add 28 = .ok (.getfield 30, 3) := by decide +kernel
theorem dX0_add_31 : decode cX0_add 31 = .ok (.iload_n 1, 1) := by decide +kernel
theorem dX0_add_32 : decode cX0_add 32 = .ok (.iconst 0, 1) := by decide +kernel
theorem dX0_add_33 : decode cX0_add 33 = .ok (.iastore, 1) := by decide +kernel
theorem dX0_add_34 : decode cX0_add 34 = .ok (.aload_n 0, 1) := by decide +kernel
theorem dX0_add_35 : decode cX0_add 35 = .ok (.getfield 33, 3) := by decide +kernel
theorem dX0_add_38 : decode cX0_add 38 = .ok (.iload_n 1, 1) := by decide +kernel
theorem dX0_add_39 : decode cX0_add 39 = .ok (.iconst 0, 1) := by decide +kernel
theorem dX0_add_40 : decode cX0_add 40 = .ok (.iastore, 1) := by decide +kernel
theorem dX0_add_41 : decode cX0_add 41 = .ok (.aload_n 0, 1) := by decide +kernel
theorem dX0_add_42 : decode cX0_add 42 = .ok (.getfield 36, 3) := by decide +kernel
theorem dX0_add_45 : decode cX0_add 45 = .ok (.iload_n 1, 1) := by decide +kernel
theorem dX0_add_46 : decode cX0_add 46 = .ok (.iconst 0, 1) := by decide +kernel
theorem dX0_add_47 : decode cX0_add 47 = .ok (.iastore, 1) := by decide +kernel
theorem dX0_add_48 : decode cX0_add 48 = .ok (.aload_n 0, 1) := by decide +kernel
theorem dX0_add_49 : decode cX0_add 49 = .ok (.getfield 39, 3) := by decide +kernel
theorem dX0_add_52 : decode cX0_add 52 = .ok (.iload_n 1, 1) := by decide +kernel
theorem dX0_add_53 : decode cX0_add 53 = .ok (.iconst 0, 1) := by decide +kernel
theorem dX0_add_54 : decode cX0_add 54 = .ok (.iastore, 1) := by decide +kernel
theorem dX0_add_55 : decode cX0_add 55 = .ok (.aload_n 0, 1) := by decide +kernel
theorem dX0_add_56 : decode cX0_add 56 = .ok (.getfield 42, 3) := by decide +kernel
theorem dX0_add_59 : decode cX0_add 59 = .ok (.iload_n 1, 1) := by decide +kernel
theorem dX0_add_60 : decode cX0_add 60 = .ok (.iconst 0, 1) := by decide +kernel
theorem dX0_add_61 : decode cX0_add 61 = .ok (.iastore, 1) := by decide +kernel
theorem dX0_add_62 : decode cX0_add 62 = .ok (.aload_n 0, 1) := by decide +kernel
theorem dX0_add_63 : decode cX0_add 63 = .ok (.getfield 45, 3) := by decide +kernel
theorem dX0_add_66 : decode cX0_add 66 = .ok (.iload_n 1, 1) := by decide +kernel
theorem dX0_add_67 : decode cX0_add 67 = .ok (.iconst 0, 1) := by decide +kernel
theorem dX0_add_68 : decode cX0_add 68 = .ok (.iastore, 1) := by decide +kernel
theorem dX0_add_69 : decode cX0_add 69 = .ok (.aload_n 0, 1) := by decide +kernel
theorem dX0_add_70 : decode cX0_add 70 = .ok (.dup, 1) := by decide +kernel
theorem dX0_add_71 : decode cX0_add 71 = .ok (.getfield 9, 3) := by decide +kernel
theorem dX0_add_74 : decode cX0_add 74 = .ok (.iconst 1, 1) := by decide +kernel
theorem dX0_add_75 : decode cX0_add 75 = .ok (.iadd, 1) := by decide +kernel
theorem dX0_add_76 : decode cX0_add 76 = .ok (.putfield 9, 3) := by decide +kernel
theorem dX0_add_79 : decode cX0_add 79 = .ok (.iload_n 1, 1) := by decide +kernel
theorem dX0_add_80 : decode cX0_add 80 = .ok (.ireturn, 1) := by decide +kernel
set_option maxRecDepth 20000 in
set_option maxRecDepth 20000 in
theorem ggX0_link_X0_closeOver : GoodIn wsX0_link wsX0_closeOver := goodIn_r _ [6, 1, 7, 8, 9, 10, 11, 12, 13, 14, 15, 16, 5, 17, 18, 19, 20, 21, 22, 23, 24, 25, 26, 27, 28] rfl (by decide +kernel)
set_option maxRecDepth 20000 in
theorem gX0_link_X0_closeOver : GoodIn wsX0_link (wsV RX0 48 RX0 yX0_closeOver wsX0_closeOver) := goodIn_app (goodIn_of _ (by decide +kernel)) ggX0_link_X0_closeOver
theorem dX0_link_0 : decode cX0_link 0 = .ok (.aload_n 0, 1) := by decide +kernel
theorem dX0_link_1 : decode cX0_link 1 = .ok (.getfield 30, 3) := by decide +kernel
theorem dX0_link_4 : decode cX0_link 4 = .ok (.iload_n 2, 1) := by decide +kernel
theorem dX0_link_5 : decode cX0_link 5 = .ok (.iaload, 1) := by decide +kernel
theorem dX0_link_6 : decode cX0_link 6 = .ok (.iconst 1, 1) := by decide +kernel
theorem dX0_link_7 : decode cX0_link 7 = .ok (.iload_n 1, 1) := by decide +kernel
theorem dX0_link_8 : decode cX0_link 8 = .ok (.ishl, 1) := by decide +kernel
theorem dX0_link_9 : decode cX0_link 9 = .ok (.iand, 1) := by decide +kernel
theorem dX0_link_10 : decode cX0_link 10 = .ok (.ifCond .eq 5, 3) := by decide +kernel
theorem dX0_link_13 : decode cX0_link 13 = .ok (.iconst 0, 1) := by decide +kernel
theorem dX0_link_14 : decode cX0_link 14 = .ok (.ireturn, 1) := by decide +kernel
theorem dX0_link_15 : decode cX0_link 15 = .ok (.aload_n 0, 1) := by decide +kernel
theorem dX0_link_16 : decode cX0_link 16 = .ok (.getfield 30, 3) := by decide +kernel
theorem dX0_link_19 : decode cX0_link 19 = .ok (.iload_n 2, 1) := by decide +kernel
theorem dX0_link_20 : decode cX0_link 20 = .ok (.dup2, 1) := by decide +kernel
theorem dX0_link_21 : decode cX0_link 21 = .ok (.iaload, 1) := by decide +kernel
theorem dX0_link_22 : decode cX0_link 22 = .ok (.iconst 1, 1) := by decide +kernel
theorem dX0_link_23 : decode cX0_link 23 = .ok (.iload_n 1, 1) := by decide +kernel
theorem dX0_link_24 : decode cX0_link 24 = .ok (.ishl, 1) := by decide +kernel
theorem dX0_link_25 : decode cX0_link 25 = .ok (.ior, 1) := by decide +kernel
theorem dX0_link_26 : decode cX0_link 26 = .ok (.iastore, 1) := by decide +kernel
theorem dX0_link_27 : decode cX0_link 27 = .ok (.aload_n 0, 1) := by decide +kernel
theorem dX0_link_28 : decode cX0_link 28 = .ok (.invokevirtual 48, 3) := by decide +kernel
theorem dX0_link_31 : decode cX0_link 31 = .ok (.iconst 1, 1) := by decide +kernel
theorem dX0_link_32 : decode cX0_link 32 = .ok (.ireturn, 1) := by decide +kernel
set_option maxRecDepth 20000 in
set_option maxRecDepth 20000 in
theorem ggX0_unlink_X0_closeOver : GoodIn wsX0_unlink wsX0_closeOver := goodIn_r _ [6, 1, 7, 8, 9, 10, 11, 12, 13, 14, 15, 16, 5, 17, 18, 19, 20, 21, 22, 23, 24, 25, 26, 27, 28] rfl (by decide +kernel)
set_option maxRecDepth 20000 in
theorem gX0_unlink_X0_closeOver : GoodIn wsX0_unlink (wsV RX0 48 RX0 yX0_closeOver wsX0_closeOver) := goodIn_app (goodIn_of _ (by decide +kernel)) ggX0_unlink_X0_closeOver
theorem dX0_unlink_0 : decode cX0_unlink 0 = .ok (.aload_n 0, 1) := by decide +kernel
theorem dX0_unlink_1 : decode cX0_unlink 1 = .ok (.getfield 30, 3) := by decide +kernel
theorem dX0_unlink_4 : decode cX0_unlink 4 = .ok (.iload_n 2, 1) := by decide +kernel
theorem dX0_unlink_5 : decode cX0_unlink 5 = .ok (.iaload, 1) := by decide +kernel
theorem dX0_unlink_6 : decode cX0_unlink 6 = .ok (.iconst 1, 1) := by decide +kernel
theorem dX0_unlink_7 : decode cX0_unlink 7 = .ok (.iload_n 1, 1) := by decide +kernel
theorem dX0_unlink_8 : decode cX0_unlink 8 = .ok (.ishl, 1) := by decide +kernel
theorem dX0_unlink_9 : decode cX0_unlink 9 = .ok (.iand, 1) := by decide +kernel
theorem dX0_unlink_10 : decode cX0_unlink 10 = .ok (.ifCond .ne 5, 3) := by decide +kernel
theorem dX0_unlink_13 : decode cX0_unlink 13 = .ok (.iconst 0, 1) := by decide +kernel
theorem dX0_unlink_14 : decode cX0_unlink 14 = .ok (.ireturn, 1) := by decide +kernel
theorem dX0_unlink_15 : decode cX0_unlink 15 = .ok (.aload_n 0, 1) := by decide +kernel
theorem dX0_unlink_16 : decode cX0_unlink 16 = .ok (.getfield 30, 3) := by decide +kernel
theorem dX0_unlink_19 : decode cX0_unlink 19 = .ok (.iload_n 2, 1) := by decide +kernel
theorem dX0_unlink_20 : decode cX0_unlink 20 = .ok (.dup2, 1) := by decide +kernel
theorem dX0_unlink_21 : decode cX0_unlink 21 = .ok (.iaload, 1) := by decide +kernel
theorem dX0_unlink_22 : decode cX0_unlink 22 = .ok (.iconst 1, 1) := by decide +kernel
theorem dX0_unlink_23 : decode cX0_unlink 23 = .ok (.iload_n 1, 1) := by decide +kernel
theorem dX0_unlink_24 : decode cX0_unlink 24 = .ok (.ishl, 1) := by decide +kernel
theorem dX0_unlink_25 : decode cX0_unlink 25 = .ok (.iconst (-1), 1) := by decide +kernel
theorem dX0_unlink_26 : decode cX0_unlink 26 = .ok (.ixor, 1) := by decide +kernel
theorem dX0_unlink_27 : decode cX0_unlink 27 = .ok (.iand, 1) := by decide +kernel
theorem dX0_unlink_28 : decode cX0_unlink 28 = .ok (.iastore, 1) := by decide +kernel
theorem dX0_unlink_29 : decode cX0_unlink 29 = .ok (.aload_n 0, 1) := by decide +kernel
theorem dX0_unlink_30 : decode cX0_unlink 30 = .ok (.invokevirtual 48, 3) := by decide +kernel
theorem dX0_unlink_33 : decode cX0_unlink 33 = .ok (.iconst 1, 1) := by decide +kernel
theorem dX0_unlink_34 : decode cX0_unlink 34 = .ok (.ireturn, 1) := by decide +kernel
set_option maxRecDepth 20000 in
set_option maxRecDepth 20000 in
theorem ggX0_closeOver_X0_holdersOf : GoodIn wsX0_closeOver wsX0_holdersOf := goodIn_r _ [13, 3, 14, 15, 16, 17, 18, 19, 20, 21, 22, 23, 24] rfl (by decide +kernel)
set_option maxRecDepth 20000 in
theorem gX0_closeOver_X0_holdersOf : GoodIn wsX0_closeOver (wsV RX0 57 RX0 yX0_holdersOf wsX0_holdersOf) := goodIn_app (goodIn_of _ (by decide +kernel)) ggX0_closeOver_X0_holdersOf
theorem dX0_closeOver_0 : decode cX0_closeOver 0 = .ok (.aload_n 0, 1) := by decide +kernel
theorem dX0_closeOver_1 : decode cX0_closeOver 1 = .ok (.getfield 30, 3) := by decide +kernel
theorem dX0_closeOver_4 : decode cX0_closeOver 4 = .ok (.iconst 0, 1) := by decide +kernel
theorem dX0_closeOver_5 : decode cX0_closeOver 5 = .ok (.aload_n 0, 1) := by decide +kernel
theorem dX0_closeOver_6 : decode cX0_closeOver 6 = .ok (.getfield 33, 3) := by decide +kernel
theorem dX0_closeOver_9 : decode cX0_closeOver 9 = .ok (.iconst 0, 1) := by decide +kernel
theorem dX0_closeOver_10 : decode cX0_closeOver 10 = .ok (.aload_n 0, 1) := by decide +kernel
theorem dX0_closeOver_11 : decode cX0_closeOver 11 = .ok (.getfield 9, 3) := by decide +kernel
theorem dX0_closeOver_14 : decode cX0_closeOver 14 = .ok (.invokestatic 51, 3) := by decide +kernel
theorem dX0_closeOver_17 : decode cX0_closeOver 17 = .ok (.iconst 0, 1) := by decide +kernel
theorem dX0_closeOver_18 : decode cX0_closeOver 18 = .ok (.istore_n 1, 1) := by decide +kernel
theorem dX0_closeOver_19 : decode cX0_closeOver 19 = .ok (.iload_n 1, 1) := by decide +kernel
theorem dX0_closeOver_20 : decode cX0_closeOver 20 = .ok (.aload_n 0, 1) := by decide +kernel
theorem dX0_closeOver_21 : decode cX0_closeOver 21 = .ok (.getfield 9, 3) := by decide +kernel
theorem dX0_closeOver_24 : decode cX0_closeOver 24 = .ok (.if_icmp .ge 53, 3) := by decide +kernel
theorem dX0_closeOver_27 : decode cX0_closeOver 27 = .ok (.iconst 0, 1) := by decide +kernel
theorem dX0_closeOver_28 : decode cX0_closeOver 28 = .ok (.istore_n 2, 1) := by decide +kernel
theorem dX0_closeOver_29 : decode cX0_closeOver 29 = .ok (.iload_n 2, 1) := by decide +kernel
theorem dX0_closeOver_30 : decode cX0_closeOver 30 = .ok (.aload_n 0, 1) := by decide +kernel
theorem dX0_closeOver_31 : decode cX0_closeOver 31 = .ok (.getfield 9, 3) := by decide +kernel
theorem dX0_closeOver_34 : decode cX0_closeOver 34 = .ok (.if_icmp .ge 37, 3) := by decide +kernel
theorem dX0_closeOver_37 : decode cX0_closeOver 37 = .ok (.aload_n 0, 1) := by decide +kernel
theorem dX0_closeOver_38 : decode cX0_closeOver 38 = .ok (.getfield 33, 3) := by decide +kernel
theorem dX0_closeOver_41 : decode cX0_closeOver 41 = .ok (.iload_n 2, 1) := by decide +kernel
theorem dX0_closeOver_42 : decode cX0_closeOver 42 = .ok (.iaload, 1) := by decide +kernel
theorem dX0_closeOver_43 : decode cX0_closeOver 43 = .ok (.iconst 1, 1) := by decide +kernel
theorem dX0_closeOver_44 : decode cX0_closeOver 44 = .ok (.iload_n 1, 1) := by decide +kernel
theorem dX0_closeOver_45 : decode cX0_closeOver 45 = .ok (.ishl, 1) := by decide +kernel
theorem dX0_closeOver_46 : decode cX0_closeOver 46 = .ok (.iand, 1) := by decide +kernel
theorem dX0_closeOver_47 : decode cX0_closeOver 47 = .ok (.ifCond .eq 18, 3) := by decide +kernel
theorem dX0_closeOver_50 : decode cX0_closeOver 50 = .ok (.aload_n 0, 1) := by decide +kernel
theorem dX0_closeOver_51 : decode cX0_closeOver 51 = .ok (.getfield 33, 3) := by decide +kernel
theorem dX0_closeOver_54 : decode cX0_closeOver 54 = .ok (.iload_n 2, 1) := by decide +kernel
theorem dX0_closeOver_55 : decode cX0_closeOver 55 = .ok (.dup2, 1) := by decide +kernel
theorem dX0_closeOver_56 : decode cX0_closeOver 56 = .ok (.iaload, 1) := by decide +kernel
theorem dX0_closeOver_57 : decode cX0_closeOver 57 = .ok (.aload_n 0, 1) := by decide +kernel
theorem dX0_closeOver_58 : decode cX0_closeOver 58 = .ok (.getfield 33, 3) := by decide +kernel
theorem dX0_closeOver_61 : decode cX0_closeOver 61 = .ok (.iload_n 1, 1) := by decide +kernel
theorem dX0_closeOver_62 : decode cX0_closeOver 62 = .ok (.iaload, 1) := by decide +kernel
theorem dX0_closeOver_63 : decode cX0_closeOver 63 = .ok (.ior, 1) := by decide +kernel
theorem dX0_closeOver_64 : decode cX0_closeOver 64 = .ok (.iastore, 1) := by decide +kernel
theorem dX0_closeOver_65 : decode cX0_closeOver 65 = .ok (.iinc 2 1, 3) := by decide +kernel
theorem dX0_closeOver_68 : decode cX0_closeOver 68 = .ok (.goto (-39), 3) := by decide +kernel
theorem dX0_closeOver_71 : decode cX0_closeOver 71 = .ok (.iinc 1 1, 3) := by decide +kernel
theorem dX0_closeOver_74 : decode cX0_closeOver 74 = .ok (.goto (-55), 3) := by decide +kernel
theorem dX0_closeOver_77 : decode cX0_closeOver 77 = .ok (.iconst 0, 1) := by decide +kernel
theorem dX0_closeOver_78 : decode cX0_closeOver 78 = .ok (.istore_n 1, 1) := by decide +kernel
theorem dX0_closeOver_79 : decode cX0_closeOver 79 = .ok (.iload_n 1, 1) := by decide +kernel
theorem dX0_closeOver_80 : decode cX0_closeOver 80 = .ok (.aload_n 0, 1) := by decide +kernel
theorem dX0_closeOver_81 : decode cX0_closeOver 81 = .ok (.getfield 9, 3) := by decide +kernel
theorem dX0_closeOver_84 : decode cX0_closeOver 84 = .ok (.if_icmp .ge 24, 3) := by decide +kernel
theorem dX0_closeOver_87 : decode cX0_closeOver 87 = .ok (.aload_n 0, 1) := by decide +kernel
theorem dX0_closeOver_88 : decode cX0_closeOver 88 = .ok (.getfield 36, 3) := by decide +kernel
theorem dX0_closeOver_91 : decode cX0_closeOver 91 = .ok (.iload_n 1, 1) := by decide +kernel
theorem dX0_closeOver_92 : decode cX0_closeOver 92 = .ok (.aload_n 0, 1) := by decide +kernel
theorem dX0_closeOver_93 : decode cX0_closeOver 93 = .ok (.aload_n 0, 1) := by decide +kernel
theorem dX0_closeOver_94 : decode cX0_closeOver 94 = .ok (.getfield 33, 3) := by decide +kernel
theorem dX0_closeOver_97 : decode cX0_closeOver 97 = .ok (.iload_n 1, 1) := by decide +kernel
theorem dX0_closeOver_98 : decode cX0_closeOver 98 = .ok (.invokevirtual 57, 3) := by decide +kernel
theorem dX0_closeOver_101 : decode cX0_closeOver 101 = .ok (.iastore, 1) := by decide +kernel
theorem dX0_closeOver_102 : decode cX0_closeOver 102 = .ok (.iinc 1 1, 3) := by decide +kernel
theorem dX0_closeOver_105 : decode cX0_closeOver 105 = .ok (.goto (-26), 3) := by decide +kernel
theorem dX0_closeOver_108 : decode cX0_closeOver 108 = .ok (.return_, 1) := by decide +kernel
theorem dX0_holdersOf_0 : decode cX0_holdersOf 0 = .ok (.iconst 0, 1) := by decide +kernel
theorem dX0_holdersOf_1 : decode cX0_holdersOf 1 = .ok (.istore_n 3, 1) := by decide +kernel
theorem dX0_holdersOf_2 : decode cX0_holdersOf 2 = .ok (.iconst 0, 1) := by decide +kernel
theorem dX0_holdersOf_3 : decode cX0_holdersOf 3 = .ok (.istore 4, 2) := by decide +kernel
theorem dX0_holdersOf_5 : decode cX0_holdersOf 5 = .ok (.iload 4, 2) := by decide +kernel
theorem dX0_holdersOf_7 : decode cX0_holdersOf 7 = .ok (.aload_n 0, 1) := by decide +kernel
theorem dX0_holdersOf_8 : decode cX0_holdersOf 8 = .ok (.getfield 9, 3) := by decide +kernel
theorem dX0_holdersOf_11 : decode cX0_holdersOf 11 = .ok (.if_icmp .ge 27, 3) := by decide +kernel
theorem dX0_holdersOf_14 : decode cX0_holdersOf 14 = .ok (.aload_n 1, 1) := by decide +kernel
theorem dX0_holdersOf_15 : decode cX0_holdersOf 15 = .ok (.iload 4, 2) := by decide +kernel
theorem dX0_holdersOf_17 : decode cX0_holdersOf 17 = .ok (.iaload, 1) := by decide +kernel
theorem dX0_holdersOf_18 : decode cX0_holdersOf 18 = .ok (.iconst 1, 1) := by decide +kernel
theorem dX0_holdersOf_19 : decode cX0_holdersOf 19 = .ok (.iload_n 2, 1) := by decide +kernel
theorem dX0_holdersOf_20 : decode cX0_holdersOf 20 = .ok (.ishl, 1) := by decide +kernel
theorem dX0_holdersOf_21 : decode cX0_holdersOf 21 = .ok (.iand, 1) := by decide +kernel
theorem dX0_holdersOf_22 : decode cX0_holdersOf 22 = .ok (.ifCond .eq 10, 3) := by decide +kernel
theorem dX0_holdersOf_25 : decode cX0_holdersOf 25 = .ok (.iload_n 3, 1) := by decide +kernel
theorem dX0_holdersOf_26 : decode cX0_holdersOf 26 = .ok (.iconst 1, 1) := by decide +kernel
theorem dX0_holdersOf_27 : decode cX0_holdersOf 27 = .ok (.iload 4, 2) := by decide +kernel
theorem dX0_holdersOf_29 : decode cX0_holdersOf 29 = .ok (.ishl, 1) := by decide +kernel
theorem dX0_holdersOf_30 : decode cX0_holdersOf 30 = .ok (.ior, 1) := by decide +kernel
theorem dX0_holdersOf_31 : decode cX0_holdersOf 31 = .ok (.istore_n 3, 1) := by decide +kernel
theorem dX0_holdersOf_32 : decode cX0_holdersOf 32 = .ok (.iinc 4 1, 3) := by decide +kernel
theorem dX0_holdersOf_35 : decode cX0_holdersOf 35 = .ok (.goto (-30), 3) := by decide +kernel
theorem dX0_holdersOf_38 : decode cX0_holdersOf 38 = .ok (.iload_n 3, 1) := by decide +kernel
theorem dX0_holdersOf_39 : decode cX0_holdersOf 39 = .ok (.ireturn, 1) := by decide +kernel
theorem dX0_pairing_0 : decode cX0_pairing 0 = .ok (.aload_n 0, 1) := by decide +kernel
theorem dX0_pairing_1 : decode cX0_pairing 1 = .ok (.getfield 39, 3) := by decide +kernel
theorem dX0_pairing_4 : decode cX0_pairing 4 = .ok (.iload_n 1, 1) := by decide +kernel
theorem dX0_pairing_5 : decode cX0_pairing 5 = .ok (.iaload, 1) := by decide +kernel
theorem dX0_pairing_6 : decode cX0_pairing 6 = .ok (.iconst 1, 1) := by decide +kernel
theorem dX0_pairing_7 : decode cX0_pairing 7 = .ok (.iload_n 2, 1) := by decide +kernel
theorem dX0_pairing_8 : decode cX0_pairing 8 = .ok (.ishl, 1) := by decide +kernel
theorem dX0_pairing_9 : decode cX0_pairing 9 = .ok (.iand, 1) := by decide +kernel
theorem dX0_pairing_10 : decode cX0_pairing 10 = .ok (.ifCond .eq 5, 3) := by decide +kernel
theorem dX0_pairing_13 : decode cX0_pairing 13 = .ok (.iconst 1, 1) := by decide +kernel
theorem dX0_pairing_14 : decode cX0_pairing 14 = .ok (.ireturn, 1) := by decide +kernel
theorem dX0_pairing_15 : decode cX0_pairing 15 = .ok (.aload_n 0, 1) := by decide +kernel
theorem dX0_pairing_16 : decode cX0_pairing 16 = .ok (.getfield 42, 3) := by decide +kernel
theorem dX0_pairing_19 : decode cX0_pairing 19 = .ok (.iload_n 1, 1) := by decide +kernel
theorem dX0_pairing_20 : decode cX0_pairing 20 = .ok (.iaload, 1) := by decide +kernel
theorem dX0_pairing_21 : decode cX0_pairing 21 = .ok (.iconst 1, 1) := by decide +kernel
theorem dX0_pairing_22 : decode cX0_pairing 22 = .ok (.iload_n 2, 1) := by decide +kernel
theorem dX0_pairing_23 : decode cX0_pairing 23 = .ok (.ishl, 1) := by decide +kernel
theorem dX0_pairing_24 : decode cX0_pairing 24 = .ok (.iand, 1) := by decide +kernel
theorem dX0_pairing_25 : decode cX0_pairing 25 = .ok (.ifCond .eq 7, 3) := by decide +kernel
theorem dX0_pairing_28 : decode cX0_pairing 28 = .ok (.iconst 2, 1) := by decide +kernel
theorem dX0_pairing_29 : decode cX0_pairing 29 = .ok (.goto 4, 3) := by decide +kernel
theorem dX0_pairing_32 : decode cX0_pairing 32 = .ok (.iconst 0, 1) := by decide +kernel
theorem dX0_pairing_33 : decode cX0_pairing 33 = .ok (.ireturn, 1) := by decide +kernel
set_option maxRecDepth 20000 in
set_option maxRecDepth 20000 in
theorem ggX0_pairUp_X0_mark : GoodIn wsX0_pairUp wsX0_mark := goodIn_r _ [6] rfl (by decide +kernel)
set_option maxRecDepth 20000 in
theorem gX0_pairUp_X0_mark : GoodIn wsX0_pairUp (va_wsS RX0 61 yX0_mark wsX0_mark) := goodIn_app (goodIn_of _ (by decide +kernel)) ggX0_pairUp_X0_mark
theorem dX0_pairUp_0 : decode cX0_pairUp 0 = .ok (.aload_n 0, 1) := by decide +kernel
theorem dX0_pairUp_1 : decode cX0_pairUp 1 = .ok (.getfield 39, 3) := by decide +kernel
theorem dX0_pairUp_4 : decode cX0_pairUp 4 = .ok (.iload_n 1, 1) := by decide +kernel
theorem dX0_pairUp_5 : decode cX0_pairUp 5 = .ok (.iload_n 2, 1) := by decide +kernel
theorem dX0_pairUp_6 : decode cX0_pairUp 6 = .ok (.iload_n 3, 1) := by decide +kernel
theorem dX0_pairUp_7 : decode cX0_pairUp 7 = .ok (.iconst 1, 1) := by decide +kernel
theorem dX0_pairUp_8 : decode cX0_pairUp 8 = .ok (.if_icmp .ne 7, 3) := by decide +kernel
theorem dX0_pairUp_11 : decode cX0_pairUp 11 = .ok (.iconst 1, 1) := by decide +kernel
theorem dX0_pairUp_12 : decode cX0_pairUp 12 = .ok (.goto 4, 3) := by decide +kernel
theorem dX0_pairUp_15 : decode cX0_pairUp 15 = .ok (.iconst 0, 1) := by decide +kernel
theorem dX0_pairUp_16 : decode cX0_pairUp 16 = .ok (.invokestatic 61, 3) := by decide +kernel
theorem dX0_pairUp_19 : decode cX0_pairUp 19 = .ok (.aload_n 0, 1) := by decide +kernel
theorem dX0_pairUp_20 : decode cX0_pairUp 20 = .ok (.getfield 42, 3) := by decide +kernel
theorem dX0_pairUp_23 : decode cX0_pairUp 23 = .ok (.iload_n 1, 1) := by decide +kernel
theorem dX0_pairUp_24 : decode cX0_pairUp 24 = .ok (.iload_n 2, 1) := by decide +kernel
theorem dX0_pairUp_25 : decode cX0_pairUp 25 = .ok (.iload_n 3, 1) := by decide +kernel
theorem dX0_pairUp_26 : decode cX0_pairUp 26 = .ok (.iconst 2, 1) := by decide +kernel
theorem dX0_pairUp_27 : decode cX0_pairUp 27 = .ok (.if_icmp .ne 7, 3) := by decide +kernel
theorem dX0_pairUp_30 : decode cX0_pairUp 30 = .ok (.iconst 1, 1) := by decide +kernel
theorem dX0_pairUp_31 : decode cX0_pairUp 31 = .ok (.goto 4, 3) := by decide +kernel
theorem dX0_pairUp_34 : decode cX0_pairUp 34 = .ok (.iconst 0, 1) := by decide +kernel
theorem dX0_pairUp_35 : decode cX0_pairUp 35 = .ok (.invokestatic 61, 3) := by decide +kernel
theorem dX0_pairUp_38 : decode cX0_pairUp 38 = .ok (.return_, 1) := by decide +kernel
theorem dX0_mark_0 : decode cX0_mark 0 = .ok (.aload_n 0, 1) := by decide +kernel
theorem dX0_mark_1 : decode cX0_mark 1 = .ok (.iload_n 1, 1) := by decide +kernel
theorem dX0_mark_2 : decode cX0_mark 2 = .ok (.iload_n 3, 1) := by decide +kernel
theorem dX0_mark_3 : decode cX0_mark 3 = .ok (.ifCond .eq 13, 3) := by decide +kernel
theorem dX0_mark_6 : decode cX0_mark 6 = .ok (.aload_n 0, 1) := by decide +kernel
theorem dX0_mark_7 : decode cX0_mark 7 = .ok (.iload_n 1, 1) := by decide +kernel
theorem dX0_mark_8 : decode cX0_mark 8 = .ok (.iaload, 1) := by decide +kernel
theorem dX0_mark_9 : decode cX0_mark 9 = .ok (.iconst 1, 1) := by decide +kernel
theorem dX0_mark_10 : decode cX0_mark 10 = .ok (.iload_n 2, 1) := by decide +kernel
theorem dX0_mark_11 : decode cX0_mark 11 = .ok (.ishl, 1) := by decide +kernel
theorem dX0_mark_12 : decode cX0_mark 12 = .ok (.ior, 1) := by decide +kernel
theorem dX0_mark_13 : decode cX0_mark 13 = .ok (.goto 12, 3) := by decide +kernel
theorem dX0_mark_16 : decode cX0_mark 16 = .ok (.aload_n 0, 1) := by decide +kernel
theorem dX0_mark_17 : decode cX0_mark 17 = .ok (.iload_n 1, 1) := by decide +kernel
theorem dX0_mark_18 : decode cX0_mark 18 = .ok (.iaload, 1) := by decide +kernel
theorem dX0_mark_19 : decode cX0_mark 19 = .ok (.iconst 1, 1) := by decide +kernel
theorem dX0_mark_20 : decode cX0_mark 20 = .ok (.iload_n 2, 1) := by decide +kernel
theorem dX0_mark_21 : decode cX0_mark 21 = .ok (.ishl, 1) := by decide +kernel
theorem dX0_mark_22 : decode cX0_mark 22 = .ok (.iconst (-1), 1) := by decide +kernel
theorem dX0_mark_23 : decode cX0_mark 23 = .ok (.ixor, 1) := by decide +kernel
theorem dX0_mark_24 : decode cX0_mark 24 = .ok (.iand, 1) := by decide +kernel
theorem dX0_mark_25 : decode cX0_mark 25 = .ok (.iastore, 1) := by decide +kernel
theorem dX0_mark_26 : decode cX0_mark 26 = .ok (.aload_n 0, 1) := by decide +kernel
theorem dX0_mark_27 : decode cX0_mark 27 = .ok (.iload_n 2, 1) := by decide +kernel
theorem dX0_mark_28 : decode cX0_mark 28 = .ok (.iload_n 3, 1) := by decide +kernel
theorem dX0_mark_29 : decode cX0_mark 29 = .ok (.ifCond .eq 13, 3) := by decide +kernel
theorem dX0_mark_32 : decode cX0_mark 32 = .ok (.aload_n 0, 1) := by decide +kernel
theorem dX0_mark_33 : decode cX0_mark 33 = .ok (.iload_n 2, 1) := by decide +kernel
theorem dX0_mark_34 : decode cX0_mark 34 = .ok (.iaload, 1) := by decide +kernel
theorem dX0_mark_35 : decode cX0_mark 35 = .ok (.iconst 1, 1) := by decide +kernel
theorem dX0_mark_36 : decode cX0_mark 36 = .ok (.iload_n 1, 1) := by decide +kernel
theorem dX0_mark_37 : decode cX0_mark 37 = .ok (.ishl, 1) := by decide +kernel
theorem dX0_mark_38 : decode cX0_mark 38 = .ok (.ior, 1) := by decide +kernel
theorem dX0_mark_39 : decode cX0_mark 39 = .ok (.goto 12, 3) := by decide +kernel
theorem dX0_mark_42 : decode cX0_mark 42 = .ok (.aload_n 0, 1) := by decide +kernel
theorem dX0_mark_43 : decode cX0_mark 43 = .ok (.iload_n 2, 1) := by decide +kernel
theorem dX0_mark_44 : decode cX0_mark 44 = .ok (.iaload, 1) := by decide +kernel
theorem dX0_mark_45 : decode cX0_mark 45 = .ok (.iconst 1, 1) := by decide +kernel
theorem dX0_mark_46 : decode cX0_mark 46 = .ok (.iload_n 1, 1) := by decide +kernel
theorem dX0_mark_47 : decode cX0_mark 47 = .ok (.ishl, 1) := by decide +kernel
theorem dX0_mark_48 : decode cX0_mark 48 = .ok (.iconst (-1), 1) := by decide +kernel
theorem dX0_mark_49 : decode cX0_mark 49 = .ok (.ixor, 1) := by decide +kernel
theorem dX0_mark_50 : decode cX0_mark 50 = .ok (.iand, 1) := by decide +kernel
theorem dX0_mark_51 : decode cX0_mark 51 = .ok (.iastore, 1) := by decide +kernel
theorem dX0_mark_52 : decode cX0_mark 52 = .ok (.return_, 1) := by decide +kernel
theorem dX0_shareSum_0 : decode cX0_shareSum 0 = .ok (.aload_n 0, 1) := by decide +kernel
theorem dX0_shareSum_1 : decode cX0_shareSum 1 = .ok (.getfield 21, 3) := by decide +kernel
theorem dX0_shareSum_4 : decode cX0_shareSum 4 = .ok (.iconst 0, 1) := by decide +kernel
theorem dX0_shareSum_5 : decode cX0_shareSum 5 = .ok (.iaload, 1) := by decide +kernel
theorem dX0_shareSum_6 : decode cX0_shareSum 6 = .ok (.aload_n 0, 1) := by decide +kernel
theorem dX0_shareSum_7 : decode cX0_shareSum 7 = .ok (.getfield 21, 3) := by decide +kernel
theorem dX0_shareSum_10 : decode cX0_shareSum 10 = .ok (.iconst 1, 1) := by decide +kernel
theorem dX0_shareSum_11 : decode cX0_shareSum 11 = .ok (.iaload, 1) := by decide +kernel
theorem dX0_shareSum_12 : decode cX0_shareSum 12 = .ok (.iadd, 1) := by decide +kernel
theorem dX0_shareSum_13 : decode cX0_shareSum 13 = .ok (.aload_n 0, 1) := by decide +kernel
theorem dX0_shareSum_14 : decode cX0_shareSum 14 = .ok (.getfield 21, 3) := by decide +kernel
theorem dX0_shareSum_17 : decode cX0_shareSum 17 = .ok (.iconst 2, 1) := by decide +kernel
theorem dX0_shareSum_18 : decode cX0_shareSum 18 = .ok (.iaload, 1) := by decide +kernel
theorem dX0_shareSum_19 : decode cX0_shareSum 19 = .ok (.iadd, 1) := by decide +kernel
theorem dX0_shareSum_20 : decode cX0_shareSum 20 = .ok (.ireturn, 1) := by decide +kernel
set_option maxRecDepth 20000 in
set_option maxRecDepth 20000 in
theorem ggX0_roomOfOneBeat_X0_shareSum : GoodIn wsX0_roomOfOneBeat wsX0_shareSum := goodIn_r _ [6, 7, 8, 9, 10, 11, 12, 13, 14, 15, 16, 17, 18] rfl (by decide +kernel)
set_option maxRecDepth 20000 in
theorem gX0_roomOfOneBeat_X0_shareSum : GoodIn wsX0_roomOfOneBeat (wsV RX0 65 RX0 yX0_shareSum wsX0_shareSum) := goodIn_app (goodIn_of _ (by decide +kernel)) ggX0_roomOfOneBeat_X0_shareSum
theorem dX0_roomOfOneBeat_0 : decode cX0_roomOfOneBeat 0 = .ok (.aload_n 0, 1) := by decide +kernel
theorem dX0_roomOfOneBeat_1 : decode cX0_roomOfOneBeat 1 = .ok (.getfield 15, 3) := by decide +kernel
theorem dX0_roomOfOneBeat_4 : decode cX0_roomOfOneBeat 4 = .ok (.iconst 2, 1) := by decide +kernel
theorem dX0_roomOfOneBeat_5 : decode cX0_roomOfOneBeat 5 = .ok (.if_icmp .ne 10, 3) := by decide +kernel
theorem dX0_roomOfOneBeat_8 : decode cX0_roomOfOneBeat 8 = .ok (.aload_n 0, 1) := by decide +kernel
theorem dX0_roomOfOneBeat_9 : decode cX0_roomOfOneBeat 9 = .ok (.invokevirtual 65, 3) := by decide +kernel
theorem dX0_roomOfOneBeat_12 : decode cX0_roomOfOneBeat 12 = .ok (.goto 4, 3) := by decide +kernel
theorem dX0_roomOfOneBeat_15 : decode cX0_roomOfOneBeat 15 = .ok (.iconst 1, 1) := by decide +kernel
theorem dX0_roomOfOneBeat_16 : decode cX0_roomOfOneBeat 16 = .ok (.ireturn, 1) := by decide +kernel
set_option maxRecDepth 20000 in
set_option maxRecDepth 20000 in
theorem ggX0_room_X0_shareSum : GoodIn wsX0_room wsX0_shareSum := goodIn_r _ [7, 8, 9, 10, 11, 12, 13, 14, 15, 16, 17, 18, 19] rfl (by decide +kernel)
set_option maxRecDepth 20000 in
theorem gX0_room_X0_shareSum : GoodIn wsX0_room (wsV RX0 65 RX0 yX0_shareSum wsX0_shareSum) := goodIn_app (goodIn_of _ (by decide +kernel)) ggX0_room_X0_shareSum
theorem dX0_room_0 : decode cX0_room 0 = .ok (.aload_n 0, 1) := by decide +kernel
theorem dX0_room_1 : decode cX0_room 1 = .ok (.getfield 15, 3) := by decide +kernel
theorem dX0_room_4 : decode cX0_room 4 = .ok (.iconst 2, 1) := by decide +kernel
theorem dX0_room_5 : decode cX0_room 5 = .ok (.if_icmp .ne 15, 3) := by decide +kernel
theorem dX0_room_8 : decode cX0_room 8 = .ok (.aload_n 0, 1) := by decide +kernel
theorem dX0_room_9 : decode cX0_room 9 = .ok (.getfield 18, 3) := by decide +kernel
theorem dX0_room_12 : decode cX0_room 12 = .ok (.aload_n 0, 1) := by decide +kernel
theorem dX0_room_13 : decode cX0_room 13 = .ok (.invokevirtual 65, 3) := by decide +kernel
theorem dX0_room_16 : decode cX0_room 16 = .ok (.imul, 1) := by decide +kernel
theorem dX0_room_17 : decode cX0_room 17 = .ok (.goto 7, 3) := by decide +kernel
theorem dX0_room_20 : decode cX0_room 20 = .ok (.aload_n 0, 1) := by decide +kernel
theorem dX0_room_21 : decode cX0_room 21 = .ok (.getfield 18, 3) := by decide +kernel
theorem dX0_room_24 : decode cX0_room 24 = .ok (.ireturn, 1) := by decide +kernel
theorem dX0_weight_0 : decode cX0_weight 0 = .ok (.aload_n 0, 1) := by decide +kernel
theorem dX0_weight_1 : decode cX0_weight 1 = .ok (.getfield 15, 3) := by decide +kernel
theorem dX0_weight_4 : decode cX0_weight 4 = .ok (.iconst 2, 1) := by decide +kernel
theorem dX0_weight_5 : decode cX0_weight 5 = .ok (.if_icmp .ne 10, 3) := by decide +kernel
theorem dX0_weight_8 : decode cX0_weight 8 = .ok (.aload_n 0, 1) := by decide +kernel
theorem dX0_weight_9 : decode cX0_weight 9 = .ok (.getfield 21, 3) := by decide +kernel
theorem dX0_weight_12 : decode cX0_weight 12 = .ok (.iload_n 1, 1) := by decide +kernel
theorem dX0_weight_13 : decode cX0_weight 13 = .ok (.iaload, 1) := by decide +kernel
theorem dX0_weight_14 : decode cX0_weight 14 = .ok (.ireturn, 1) := by decide +kernel
theorem dX0_weight_15 : decode cX0_weight 15 = .ok (.aload_n 0, 1) := by decide +kernel
theorem dX0_weight_16 : decode cX0_weight 16 = .ok (.getfield 15, 3) := by decide +kernel
theorem dX0_weight_19 : decode cX0_weight 19 = .ok (.iconst 3, 1) := by decide +kernel
theorem dX0_weight_20 : decode cX0_weight 20 = .ok (.if_icmp .ne 18, 3) := by decide +kernel
theorem dX0_weight_23 : decode cX0_weight 23 = .ok (.aload_n 0, 1) := by decide +kernel
theorem dX0_weight_24 : decode cX0_weight 24 = .ok (.getfield 21, 3) := by decide +kernel
theorem dX0_weight_27 : decode cX0_weight 27 = .ok (.iload_n 1, 1) := by decide +kernel
theorem dX0_weight_28 : decode cX0_weight 28 = .ok (.iaload, 1) := by decide +kernel
theorem dX0_weight_29 : decode cX0_weight 29 = .ok (.ifCond .le 7, 3) := by decide +kernel
theorem dX0_weight_32 : decode cX0_weight 32 = .ok (.iconst 1, 1) := by decide +kernel
theorem dX0_weight_33 : decode cX0_weight 33 = .ok (.goto 4, 3) := by decide +kernel
theorem dX0_weight_36 : decode cX0_weight 36 = .ok (.iconst 0, 1) := by decide +kernel
theorem dX0_weight_37 : decode cX0_weight 37 = .ok (.ireturn, 1) := by decide +kernel
theorem dX0_weight_38 : decode cX0_weight 38 = .ok (.iload_n 1, 1) := by decide +kernel
theorem dX0_weight_39 : decode cX0_weight 39 = .ok (.ifCond .ne 7, 3) := by decide +kernel
theorem dX0_weight_42 : decode cX0_weight 42 = .ok (.iconst 1, 1) := by decide +kernel
theorem dX0_weight_43 : decode cX0_weight 43 = .ok (.goto 4, 3) := by decide +kernel
theorem dX0_weight_46 : decode cX0_weight 46 = .ok (.iconst 0, 1) := by decide +kernel
theorem dX0_weight_47 : decode cX0_weight 47 = .ok (.ireturn, 1) := by decide +kernel
theorem dX0_joined_0 : decode cX0_joined 0 = .ok (.aload_n 0, 1) := by decide +kernel
theorem dX0_joined_1 : decode cX0_joined 1 = .ok (.getfield 15, 3) := by decide +kernel
theorem dX0_joined_4 : decode cX0_joined 4 = .ok (.iconst 3, 1) := by decide +kernel
theorem dX0_joined_5 : decode cX0_joined 5 = .ok (.if_icmp .ne 11, 3) := by decide +kernel
theorem dX0_joined_8 : decode cX0_joined 8 = .ok (.iload_n 1, 1) := by decide +kernel
theorem dX0_joined_9 : decode cX0_joined 9 = .ok (.iload_n 2, 1) := by decide +kernel
theorem dX0_joined_10 : decode cX0_joined 10 = .ok (.invokestatic 69, 3) := by decide +kernel
theorem dX0_joined_13 : decode cX0_joined 13 = .ok (.goto 6, 3) := by decide +kernel
theorem dX0_joined_16 : decode cX0_joined 16 = .ok (.iload_n 1, 1) := by decide +kernel
theorem dX0_joined_17 : decode cX0_joined 17 = .ok (.iload_n 2, 1) := by decide +kernel
theorem dX0_joined_18 : decode cX0_joined 18 = .ok (.iadd, 1) := by decide +kernel
theorem dX0_joined_19 : decode cX0_joined 19 = .ok (.ireturn, 1) := by decide +kernel
set_option maxRecDepth 20000 in
set_option maxRecDepth 20000 in
theorem ggX0_loadOf_X0_weight : GoodIn wsX0_loadOf wsX0_weight := goodIn_r _ [5, 6, 7, 22, 23, 24, 25, 26, 27, 28, 29, 30, 31, 32] rfl (by decide +kernel)
set_option maxRecDepth 20000 in
theorem gX0_loadOf_X0_weight : GoodIn wsX0_loadOf (wsV RX0 75 RX0 yX0_weight wsX0_weight) := goodIn_app (goodIn_of _ (by decide +kernel)) ggX0_loadOf_X0_weight
set_option maxRecDepth 20000 in
set_option maxRecDepth 20000 in
theorem ggX0_loadOf_X0_timeSum : GoodIn wsX0_loadOf wsX0_timeSum := goodIn_r _ [11, 12, 13, 22, 23, 24, 25, 26, 27, 28, 29, 30, 31, 32] rfl (by decide +kernel)
set_option maxRecDepth 20000 in
theorem gX0_loadOf_X0_timeSum : GoodIn wsX0_loadOf (wsV RX0 79 RX0 yX0_timeSum wsX0_timeSum) := goodIn_app (goodIn_of _ (by decide +kernel)) ggX0_loadOf_X0_timeSum
set_option maxRecDepth 20000 in
set_option maxRecDepth 20000 in
theorem ggX0_loadOf_X0_joined : GoodIn wsX0_loadOf wsX0_joined := goodIn_r _ [17, 6, 18, 19, 20, 21, 22, 23, 24, 25, 26, 27, 28, 29, 30, 31, 32] rfl (by decide +kernel)
set_option maxRecDepth 20000 in
theorem gX0_loadOf_X0_joined : GoodIn wsX0_loadOf (wsV RX0 82 RX0 yX0_joined wsX0_joined) := goodIn_app (goodIn_of _ (by decide +kernel)) ggX0_loadOf_X0_joined
theorem dX0_loadOf_0 : decode cX0_loadOf 0 = .ok (.iconst 0, 1) := by decide +kernel
theorem dX0_loadOf_1 : decode cX0_loadOf 1 = .ok (.istore_n 2, 1) := by decide +kernel
theorem dX0_loadOf_2 : decode cX0_loadOf 2 = .ok (.iconst 0, 1) := by decide +kernel
theorem dX0_loadOf_3 : decode cX0_loadOf 3 = .ok (.istore_n 3, 1) := by decide +kernel
theorem dX0_loadOf_4 : decode cX0_loadOf 4 = .ok (.iload_n 3, 1) := by decide +kernel
theorem dX0_loadOf_5 : decode cX0_loadOf 5 = .ok (.iconst 3, 1) := by decide +kernel
theorem dX0_loadOf_6 : decode cX0_loadOf 6 = .ok (.if_icmp .ge 36, 3) := by decide +kernel
theorem dX0_loadOf_9 : decode cX0_loadOf 9 = .ok (.aload_n 0, 1) := by decide +kernel
theorem dX0_loadOf_10 : decode cX0_loadOf 10 = .ok (.iload_n 3, 1) := by decide +kernel
theorem dX0_loadOf_11 : decode cX0_loadOf 11 = .ok (.invokevirtual 75, 3) := by decide +kernel
theorem dX0_loadOf_14 : decode cX0_loadOf 14 = .ok (.istore 4, 2) := by decide +kernel
theorem dX0_loadOf_16 : decode cX0_loadOf 16 = .ok (.iload 4, 2) := by decide +kernel
theorem dX0_loadOf_18 : decode cX0_loadOf 18 = .ok (.ifCond .le 18, 3) := by decide +kernel
theorem dX0_loadOf_21 : decode cX0_loadOf 21 = .ok (.aload_n 0, 1) := by decide +kernel
theorem dX0_loadOf_22 : decode cX0_loadOf 22 = .ok (.iload_n 2, 1) := by decide +kernel
theorem dX0_loadOf_23 : decode cX0_loadOf 23 = .ok (.iload 4, 2) := by decide +kernel
theorem dX0_loadOf_25 : decode cX0_loadOf 25 = .ok (.aload_n 0, 1) := by decide +kernel
theorem dX0_loadOf_26 : decode cX0_loadOf 26 = .ok (.iload_n 1, 1) := by decide +kernel
theorem dX0_loadOf_27 : decode cX0_loadOf 27 = .ok (.iload_n 3, 1) := by decide +kernel
theorem dX0_loadOf_28 : decode cX0_loadOf 28 = .ok (.invokevirtual 79, 3) := by decide +kernel
theorem dX0_loadOf_31 : decode cX0_loadOf 31 = .ok (.imul, 1) := by decide +kernel
theorem dX0_loadOf_32 : decode cX0_loadOf 32 = .ok (.invokevirtual 82, 3) := by decide +kernel
theorem dX0_loadOf_35 : decode cX0_loadOf 35 = .ok (.istore_n 2, 1) := by decide +kernel
theorem dX0_loadOf_36 : decode cX0_loadOf 36 = .ok (.iinc 3 1, 3) := by decide +kernel
theorem dX0_loadOf_39 : decode cX0_loadOf 39 = .ok (.goto (-35), 3) := by decide +kernel
theorem dX0_loadOf_42 : decode cX0_loadOf 42 = .ok (.iload_n 2, 1) := by decide +kernel
theorem dX0_loadOf_43 : decode cX0_loadOf 43 = .ok (.ireturn, 1) := by decide +kernel
theorem dX0_timeSum_0 : decode cX0_timeSum 0 = .ok (.iconst 0, 1) := by decide +kernel
theorem dX0_timeSum_1 : decode cX0_timeSum 1 = .ok (.istore_n 3, 1) := by decide +kernel
theorem dX0_timeSum_2 : decode cX0_timeSum 2 = .ok (.iconst 0, 1) := by decide +kernel
theorem dX0_timeSum_3 : decode cX0_timeSum 3 = .ok (.istore 4, 2) := by decide +kernel
theorem dX0_timeSum_5 : decode cX0_timeSum 5 = .ok (.iload 4, 2) := by decide +kernel
theorem dX0_timeSum_7 : decode cX0_timeSum 7 = .ok (.aload_n 0, 1) := by decide +kernel
theorem dX0_timeSum_8 : decode cX0_timeSum 8 = .ok (.getfield 9, 3) := by decide +kernel
theorem dX0_timeSum_11 : decode cX0_timeSum 11 = .ok (.if_icmp .ge 30, 3) := by decide +kernel
theorem dX0_timeSum_14 : decode cX0_timeSum 14 = .ok (.iload_n 1, 1) := by decide +kernel
theorem dX0_timeSum_15 : decode cX0_timeSum 15 = .ok (.iconst 1, 1) := by decide +kernel
theorem dX0_timeSum_16 : decode cX0_timeSum 16 = .ok (.iload 4, 2) := by decide +kernel
theorem dX0_timeSum_18 : decode cX0_timeSum 18 = .ok (.ishl, 1) := by decide +kernel
theorem dX0_timeSum_19 : decode cX0_timeSum 19 = .ok (.iand, 1) := by decide +kernel
theorem dX0_timeSum_20 : decode cX0_timeSum 20 = .ok (.ifCond .eq 15, 3) := by decide +kernel
theorem dX0_timeSum_23 : decode cX0_timeSum 23 = .ok (.iload_n 3, 1) := by decide +kernel
theorem dX0_timeSum_24 : decode cX0_timeSum 24 = .ok (.aload_n 0, 1) := by decide +kernel
theorem dX0_timeSum_25 : decode cX0_timeSum 25 = .ok (.getfield 27, 3) := by decide +kernel
theorem dX0_timeSum_28 : decode cX0_timeSum 28 = .ok (.iload_n 2, 1) := by decide +kernel
theorem dX0_timeSum_29 : decode cX0_timeSum 29 = .ok (.aaload, 1) := by decide +kernel
theorem dX0_timeSum_30 : decode cX0_timeSum 30 = .ok (.iload 4, 2) := by decide +kernel
theorem dX0_timeSum_32 : decode cX0_timeSum 32 = .ok (.iaload, 1) := by decide +kernel
theorem dX0_timeSum_33 : decode cX0_timeSum 33 = .ok (.iadd, 1) := by decide +kernel
theorem dX0_timeSum_34 : decode cX0_timeSum 34 = .ok (.istore_n 3, 1) := by decide +kernel
theorem dX0_timeSum_35 : decode cX0_timeSum 35 = .ok (.iinc 4 1, 3) := by decide +kernel
theorem dX0_timeSum_38 : decode cX0_timeSum 38 = .ok (.goto (-33), 3) := by decide +kernel
theorem dX0_timeSum_41 : decode cX0_timeSum 41 = .ok (.iload_n 3, 1) := by decide +kernel
theorem dX0_timeSum_42 : decode cX0_timeSum 42 = .ok (.ireturn, 1) := by decide +kernel
theorem dX0_isOpen_0 : decode cX0_isOpen 0 = .ok (.aload_n 0, 1) := by decide +kernel
theorem dX0_isOpen_1 : decode cX0_isOpen 1 = .ok (.getfield 33, 3) := by decide +kernel
theorem dX0_isOpen_4 : decode cX0_isOpen 4 = .ok (.iload_n 1, 1) := by decide +kernel
theorem dX0_isOpen_5 : decode cX0_isOpen 5 = .ok (.iaload, 1) := by decide +kernel
theorem dX0_isOpen_6 : decode cX0_isOpen 6 = .ok (.iload_n 2, 1) := by decide +kernel
theorem dX0_isOpen_7 : decode cX0_isOpen 7 = .ok (.iconst (-1), 1) := by decide +kernel
theorem dX0_isOpen_8 : decode cX0_isOpen 8 = .ok (.ixor, 1) := by decide +kernel
theorem dX0_isOpen_9 : decode cX0_isOpen 9 = .ok (.iand, 1) := by decide +kernel
theorem dX0_isOpen_10 : decode cX0_isOpen 10 = .ok (.ifCond .ne 5, 3) := by decide +kernel
theorem dX0_isOpen_13 : decode cX0_isOpen 13 = .ok (.iconst 1, 1) := by decide +kernel
theorem dX0_isOpen_14 : decode cX0_isOpen 14 = .ok (.ireturn, 1) := by decide +kernel
theorem dX0_isOpen_15 : decode cX0_isOpen 15 = .ok (.aload_n 0, 1) := by decide +kernel
theorem dX0_isOpen_16 : decode cX0_isOpen 16 = .ok (.getfield 15, 3) := by decide +kernel
theorem dX0_isOpen_19 : decode cX0_isOpen 19 = .ok (.iconst 1, 1) := by decide +kernel
theorem dX0_isOpen_20 : decode cX0_isOpen 20 = .ok (.if_icmp .ne 20, 3) := by decide +kernel
theorem dX0_isOpen_23 : decode cX0_isOpen 23 = .ok (.aload_n 0, 1) := by decide +kernel
theorem dX0_isOpen_24 : decode cX0_isOpen 24 = .ok (.getfield 36, 3) := by decide +kernel
theorem dX0_isOpen_27 : decode cX0_isOpen 27 = .ok (.iload_n 1, 1) := by decide +kernel
theorem dX0_isOpen_28 : decode cX0_isOpen 28 = .ok (.iaload, 1) := by decide +kernel
theorem dX0_isOpen_29 : decode cX0_isOpen 29 = .ok (.iload_n 2, 1) := by decide +kernel
theorem dX0_isOpen_30 : decode cX0_isOpen 30 = .ok (.iconst (-1), 1) := by decide +kernel
theorem dX0_isOpen_31 : decode cX0_isOpen 31 = .ok (.ixor, 1) := by decide +kernel
theorem dX0_isOpen_32 : decode cX0_isOpen 32 = .ok (.iand, 1) := by decide +kernel
theorem dX0_isOpen_33 : decode cX0_isOpen 33 = .ok (.ifCond .ne 7, 3) := by decide +kernel
theorem dX0_isOpen_36 : decode cX0_isOpen 36 = .ok (.iconst 1, 1) := by decide +kernel
theorem dX0_isOpen_37 : decode cX0_isOpen 37 = .ok (.goto 4, 3) := by decide +kernel
theorem dX0_isOpen_40 : decode cX0_isOpen 40 = .ok (.iconst 0, 1) := by decide +kernel
theorem dX0_isOpen_41 : decode cX0_isOpen 41 = .ok (.ireturn, 1) := by decide +kernel
set_option maxRecDepth 20000 in
set_option maxRecDepth 20000 in
theorem ggX0_halfRoomBound_X0_room : GoodIn wsX0_halfRoomBound wsX0_room := goodIn_r _ [6, 7, 8, 9, 10, 11, 5, 12, 13, 38, 39, 40, 41, 42, 43, 44, 45, 46, 47, 48] rfl (by decide +kernel)
set_option maxRecDepth 20000 in
theorem gX0_halfRoomBound_X0_room : GoodIn wsX0_halfRoomBound (wsV RX0 85 RX0 yX0_room wsX0_room) := goodIn_app (goodIn_of _ (by decide +kernel)) ggX0_halfRoomBound_X0_room
set_option maxRecDepth 20000 in
set_option maxRecDepth 20000 in
theorem ggX0_halfRoomBound_X0_loadOf : GoodIn wsX0_halfRoomBound wsX0_loadOf := goodIn_r _ [17, 18, 19, 20, 5, 21, 7, 13, 22, 23, 24, 25, 1, 26, 27, 28, 29, 30, 31, 32, 33, 34, 38, 39, 40, 41, 42, 43, 44, 45, 46, 47, 48] rfl (by decide +kernel)
set_option maxRecDepth 20000 in
theorem gX0_halfRoomBound_X0_loadOf : GoodIn wsX0_halfRoomBound (wsV RX0 88 RX0 yX0_loadOf wsX0_loadOf) := goodIn_app (goodIn_of _ (by decide +kernel)) ggX0_halfRoomBound_X0_loadOf
set_option maxRecDepth 20000 in
set_option maxRecDepth 20000 in
theorem ggX0_halfRoomBound_X5_takenUp : GoodIn wsX0_halfRoomBound wsX5_takenUp := goodIn_r _ [37] rfl (by decide +kernel)
set_option maxRecDepth 20000 in
theorem gX0_halfRoomBound_X5_takenUp_n91 : GoodIn wsX0_halfRoomBound (wsX5_takenUp) := ggX0_halfRoomBound_X5_takenUp
theorem dX0_halfRoomBound_0 : decode cX0_halfRoomBound 0 = .ok (.aload_n 0, 1) := by decide +kernel
theorem dX0_halfRoomBound_1 : decode cX0_halfRoomBound 1 = .ok (.invokevirtual 85, 3) := by decide +kernel
theorem dX0_halfRoomBound_4 : decode cX0_halfRoomBound 4 = .ok (.istore_n 1, 1) := by decide +kernel
theorem dX0_halfRoomBound_5 : decode cX0_halfRoomBound 5 = .ok (.iconst 0, 1) := by decide +kernel
theorem dX0_halfRoomBound_6 : decode cX0_halfRoomBound 6 = .ok (.istore_n 2, 1) := by decide +kernel
theorem dX0_halfRoomBound_7 : decode cX0_halfRoomBound 7 = .ok (.iconst 0, 1) := by decide +kernel
theorem dX0_halfRoomBound_8 : decode cX0_halfRoomBound 8 = .ok (.istore_n 3, 1) := by decide +kernel
theorem dX0_halfRoomBound_9 : decode cX0_halfRoomBound 9 = .ok (.iconst 0, 1) := by decide +kernel
theorem dX0_halfRoomBound_10 : decode cX0_halfRoomBound 10 = .ok (.istore 4, 2) := by decide +kernel
theorem dX0_halfRoomBound_12 : decode cX0_halfRoomBound 12 = .ok (.iload 4, 2) := by decide +kernel
theorem dX0_halfRoomBound_14 : decode cX0_halfRoomBound 14 = .ok (.aload_n 0, 1) := by decide +kernel
theorem dX0_halfRoomBound_15 : decode cX0_halfRoomBound 15 = .ok (.getfield 9, 3) := by decide +kernel
theorem dX0_halfRoomBound_18 : decode cX0_halfRoomBound 18 = .ok (.if_icmp .ge 42, 3) := by decide +kernel
theorem dX0_halfRoomBound_21 : decode cX0_halfRoomBound 21 = .ok (.iconst 2, 1) := by decide +kernel
theorem dX0_halfRoomBound_22 : decode cX0_halfRoomBound 22 = .ok (.aload_n 0, 1) := by decide +kernel
theorem dX0_halfRoomBound_23 : decode cX0_halfRoomBound 23 = .ok (.iconst 1, 1) := by decide +kernel
theorem dX0_halfRoomBound_24 : decode cX0_halfRoomBound 24 = .ok (.iload 4, 2) := by decide +kernel
theorem dX0_halfRoomBound_26 : decode cX0_halfRoomBound 26 = .ok (.ishl, 1) := by decide +kernel
theorem dX0_halfRoomBound_27 : decode cX0_halfRoomBound 27 = .ok (.invokevirtual 88, 3) := by decide +kernel
theorem dX0_halfRoomBound_30 : decode cX0_halfRoomBound 30 = .ok (.imul, 1) := by decide +kernel
theorem dX0_halfRoomBound_31 : decode cX0_halfRoomBound 31 = .ok (.istore 5, 2) := by decide +kernel
theorem dX0_halfRoomBound_33 : decode cX0_halfRoomBound 33 = .ok (.iload 5, 2) := by decide +kernel
theorem dX0_halfRoomBound_35 : decode cX0_halfRoomBound 35 = .ok (.iload_n 1, 1) := by decide +kernel
theorem dX0_halfRoomBound_36 : decode cX0_halfRoomBound 36 = .ok (.if_icmp .le 9, 3) := by decide +kernel
theorem dX0_halfRoomBound_39 : decode cX0_halfRoomBound 39 = .ok (.iinc 2 1, 3) := by decide +kernel
theorem dX0_halfRoomBound_42 : decode cX0_halfRoomBound 42 = .ok (.goto 12, 3) := by decide +kernel
theorem dX0_halfRoomBound_45 : decode cX0_halfRoomBound 45 = .ok (.iload 5, 2) := by decide +kernel
theorem dX0_halfRoomBound_47 : decode cX0_halfRoomBound 47 = .ok (.iload_n 1, 1) := by decide +kernel
theorem dX0_halfRoomBound_48 : decode cX0_halfRoomBound 48 = .ok (.if_icmp .ne 6, 3) := by decide +kernel
theorem dX0_halfRoomBound_51 : decode cX0_halfRoomBound 51 = .ok (.iinc 3 1, 3) := by decide +kernel
theorem dX0_halfRoomBound_54 : decode cX0_halfRoomBound 54 = .ok (.iinc 4 1, 3) := by decide +kernel
theorem dX0_halfRoomBound_57 : decode cX0_halfRoomBound 57 = .ok (.goto (-45), 3) := by decide +kernel
theorem dX0_halfRoomBound_60 : decode cX0_halfRoomBound 60 = .ok (.iload_n 2, 1) := by decide +kernel
theorem dX0_halfRoomBound_61 : decode cX0_halfRoomBound 61 = .ok (.iload_n 3, 1) := by decide +kernel
theorem dX0_halfRoomBound_62 : decode cX0_halfRoomBound 62 = .ok (.iconst 2, 1) := by decide +kernel
theorem dX0_halfRoomBound_63 : decode cX0_halfRoomBound 63 = .ok (.invokestatic 91, 3) := by decide +kernel
theorem dX0_halfRoomBound_66 : decode cX0_halfRoomBound 66 = .ok (.iadd, 1) := by decide +kernel
theorem dX0_halfRoomBound_67 : decode cX0_halfRoomBound 67 = .ok (.ireturn, 1) := by decide +kernel
theorem dX0_takeTimes_0 : decode cX0_takeTimes 0 = .ok (.iconst 0, 1) := by decide +kernel
theorem dX0_takeTimes_1 : decode cX0_takeTimes 1 = .ok (.istore 4, 2) := by decide +kernel
theorem dX0_takeTimes_3 : decode cX0_takeTimes 3 = .ok (.iconst 0, 1) := by decide +kernel
theorem dX0_takeTimes_4 : decode cX0_takeTimes 4 = .ok (.istore 5, 2) := by decide +kernel
theorem dX0_takeTimes_6 : decode cX0_takeTimes 6 = .ok (.iload 5, 2) := by decide +kernel
theorem dX0_takeTimes_8 : decode cX0_takeTimes 8 = .ok (.aload_n 0, 1) := by decide +kernel
theorem dX0_takeTimes_9 : decode cX0_takeTimes 9 = .ok (.getfield 9, 3) := by decide +kernel
theorem dX0_takeTimes_12 : decode cX0_takeTimes 12 = .ok (.if_icmp .ge 51, 3) := by decide +kernel
theorem dX0_takeTimes_15 : decode cX0_takeTimes 15 = .ok (.aload_n 2, 1) := by decide +kernel
theorem dX0_takeTimes_16 : decode cX0_takeTimes 16 = .ok (.iload_n 3, 1) := by decide +kernel
theorem dX0_takeTimes_17 : decode cX0_takeTimes 17 = .ok (.iload 5, 2) := by decide +kernel
theorem dX0_takeTimes_19 : decode cX0_takeTimes 19 = .ok (.iadd, 1) := by decide +kernel
theorem dX0_takeTimes_20 : decode cX0_takeTimes 20 = .ok (.iaload, 1) := by decide +kernel
theorem dX0_takeTimes_21 : decode cX0_takeTimes 21 = .ok (.istore 6, 2) := by decide +kernel
theorem dX0_takeTimes_23 : decode cX0_takeTimes 23 = .ok (.iconst 1, 1) := by decide +kernel
theorem dX0_takeTimes_24 : decode cX0_takeTimes 24 = .ok (.bipush 100, 2) := by decide +kernel
theorem dX0_takeTimes_26 : decode cX0_takeTimes 26 = .ok (.iload 6, 2) := by decide +kernel
theorem dX0_takeTimes_28 : decode cX0_takeTimes 28 = .ok (.invokestatic 94, 3) := by decide +kernel
theorem dX0_takeTimes_31 : decode cX0_takeTimes 31 = .ok (.invokestatic 69, 3) := by decide +kernel
theorem dX0_takeTimes_34 : decode cX0_takeTimes 34 = .ok (.istore 7, 2) := by decide +kernel
theorem dX0_takeTimes_36 : decode cX0_takeTimes 36 = .ok (.iload 7, 2) := by decide +kernel
theorem dX0_takeTimes_38 : decode cX0_takeTimes 38 = .ok (.iload 6, 2) := by decide +kernel
theorem dX0_takeTimes_40 : decode cX0_takeTimes 40 = .ok (.if_icmp .eq 6, 3) := by decide +kernel
theorem dX0_takeTimes_43 : decode cX0_takeTimes 43 = .ok (.iinc 4 1, 3) := by decide +kernel
theorem dX0_takeTimes_46 : decode cX0_takeTimes 46 = .ok (.aload_n 0, 1) := by decide +kernel
theorem dX0_takeTimes_47 : decode cX0_takeTimes 47 = .ok (.getfield 27, 3) := by decide +kernel
theorem dX0_takeTimes_50 : decode cX0_takeTimes 50 = .ok (.iload_n 1, 1) := by decide +kernel
theorem dX0_takeTimes_51 : decode cX0_takeTimes 51 = .ok (.aaload, 1) := by decide +kernel
theorem dX0_takeTimes_52 : decode cX0_takeTimes 52 = .ok (.iload 5, 2) := by decide +kernel
theorem dX0_takeTimes_54 : decode cX0_takeTimes 54 = .ok (.iload 7, 2) := by decide +kernel
theorem dX0_takeTimes_56 : decode cX0_takeTimes 56 = .ok (.iastore, 1) := by decide +kernel
theorem dX0_takeTimes_57 : decode cX0_takeTimes 57 = .ok (.iinc 5 1, 3) := by decide +kernel
theorem dX0_takeTimes_60 : decode cX0_takeTimes 60 = .ok (.goto (-54), 3) := by decide +kernel
theorem dX0_takeTimes_63 : decode cX0_takeTimes 63 = .ok (.iload 4, 2) := by decide +kernel
theorem dX0_takeTimes_65 : decode cX0_takeTimes 65 = .ok (.ireturn, 1) := by decide +kernel
theorem dX0_become_0 : decode cX0_become 0 = .ok (.aload_n 0, 1) := by decide +kernel
theorem dX0_become_1 : decode cX0_become 1 = .ok (.aload_n 1, 1) := by decide +kernel
theorem dX0_become_2 : decode cX0_become 2 = .ok (.getfield 9, 3) := by decide +kernel
theorem dX0_become_5 : decode cX0_become 5 = .ok (.putfield 9, 3) := by decide +kernel
theorem dX0_become_8 : decode cX0_become 8 = .ok (.aload_n 0, 1) := by decide +kernel
theorem dX0_become_9 : decode cX0_become 9 = .ok (.aload_n 1, 1) := by decide +kernel
theorem dX0_become_10 : decode cX0_become 10 = .ok (.getfield 15, 3) := by decide +kernel
theorem dX0_become_13 : decode cX0_become 13 = .ok (.putfield 15, 3) := by decide +kernel
theorem dX0_become_16 : decode cX0_become 16 = .ok (.aload_n 0, 1) := by decide +kernel
theorem dX0_become_17 : decode cX0_become 17 = .ok (.aload_n 1, 1) := by decide +kernel
theorem dX0_become_18 : decode cX0_become 18 = .ok (.getfield 18, 3) := by decide +kernel
theorem dX0_become_21 : decode cX0_become 21 = .ok (.putfield 18, 3) := by decide +kernel
theorem dX0_become_24 : decode cX0_become 24 = .ok (.iconst 0, 1) := by decide +kernel
theorem dX0_become_25 : decode cX0_become 25 = .ok (.istore_n 2, 1) := by decide +kernel
theorem dX0_become_26 : decode cX0_become 26 = .ok (.iload_n 2, 1) := by decide +kernel
theorem dX0_become_27 : decode cX0_become 27 = .ok (.iconst 3, 1) := by decide +kernel
theorem dX0_become_28 : decode cX0_become 28 = .ok (.if_icmp .ge 28, 3) := by decide +kernel
theorem dX0_become_31 : decode cX0_become 31 = .ok (.aload_n 1, 1) := by decide +kernel
theorem dX0_become_32 : decode cX0_become 32 = .ok (.getfield 27, 3) := by decide +kernel
theorem dX0_become_35 : decode cX0_become 35 = .ok (.iload_n 2, 1) := by decide +kernel
theorem dX0_become_36 : decode cX0_become 36 = .ok (.aaload, 1) := by decide +kernel
theorem dX0_become_37 : decode cX0_become 37 = .ok (.iconst 0, 1) := by decide +kernel
theorem dX0_become_38 : decode cX0_become 38 = .ok (.aload_n 0, 1) := by decide +kernel
theorem dX0_become_39 : decode cX0_become 39 = .ok (.getfield 27, 3) := by decide +kernel
theorem dX0_become_42 : decode cX0_become 42 = .ok (.iload_n 2, 1) := by decide +kernel
theorem dX0_become_43 : decode cX0_become 43 = .ok (.aaload, 1) := by decide +kernel
theorem dX0_become_44 : decode cX0_become 44 = .ok (.iconst 0, 1) := by decide +kernel
theorem dX0_become_45 : decode cX0_become 45 = .ok (.bipush 10, 2) := by decide +kernel
theorem dX0_become_47 : decode cX0_become 47 = .ok (.invokestatic 51, 3) := by decide +kernel
theorem dX0_become_50 : decode cX0_become 50 = .ok (.iinc 2 1, 3) := by decide +kernel
theorem dX0_become_53 : decode cX0_become 53 = .ok (.goto (-27), 3) := by decide +kernel
theorem dX0_become_56 : decode cX0_become 56 = .ok (.aload_n 1, 1) := by decide +kernel
theorem dX0_become_57 : decode cX0_become 57 = .ok (.getfield 30, 3) := by decide +kernel
theorem dX0_become_60 : decode cX0_become 60 = .ok (.iconst 0, 1) := by decide +kernel
theorem dX0_become_61 : decode cX0_become 61 = .ok (.aload_n 0, 1) := by decide +kernel
theorem dX0_become_62 : decode cX0_become 62 = .ok (.getfield 30, 3) := by decide +kernel
theorem dX0_become_65 : decode cX0_become 65 = .ok (.iconst 0, 1) := by decide +kernel
theorem dX0_become_66 : decode cX0_become 66 = .ok (.bipush 10, 2) := by decide +kernel
theorem dX0_become_68 : decode cX0_become 68 = .ok (.invokestatic 51, 3) := by decide +kernel
theorem dX0_become_71 : decode cX0_become 71 = .ok (.aload_n 1, 1) := by decide +kernel
theorem dX0_become_72 : decode cX0_become 72 = .ok (.getfield 33, 3) := by decide +kernel
theorem dX0_become_75 : decode cX0_become 75 = .ok (.iconst 0, 1) := by decide +kernel
theorem dX0_become_76 : decode cX0_become 76 = .ok (.aload_n 0, 1) := by decide +kernel
theorem dX0_become_77 : decode cX0_become 77 = .ok (.getfield 33, 3) := by decide +kernel
theorem dX0_become_80 : decode cX0_become 80 = .ok (.iconst 0, 1) := by decide +kernel
theorem dX0_become_81 : decode cX0_become 81 = .ok (.bipush 10, 2) := by decide +kernel
theorem dX0_become_83 : decode cX0_become 83 = .ok (.invokestatic 51, 3) := by decide +kernel
theorem dX0_become_86 : decode cX0_become 86 = .ok (.aload_n 1, 1) := by decide +kernel
theorem dX0_become_87 : decode cX0_become 87 = .ok (.getfield 36, 3) := by decide +kernel
theorem dX0_become_90 : decode cX0_become 90 = .ok (.iconst 0, 1) := by decide +kernel
theorem dX0_become_91 : decode cX0_become 91 = .ok (.aload_n 0, 1) := by decide +kernel
theorem dX0_become_92 : decode cX0_become 92 = .ok (.getfield 36, 3) := by decide +kernel
theorem dX0_become_95 : decode cX0_become 95 = .ok (.iconst 0, 1) := by decide +kernel
theorem dX0_become_96 : decode cX0_become 96 = .ok (.bipush 10, 2) := by decide +kernel
theorem dX0_become_98 : decode cX0_become 98 = .ok (.invokestatic 51, 3) := by decide +kernel
theorem dX0_become_101 : decode cX0_become 101 = .ok (.aload_n 1, 1) := by decide +kernel
theorem dX0_become_102 : decode cX0_become 102 = .ok (.getfield 39, 3) := by decide +kernel
theorem dX0_become_105 : decode cX0_become 105 = .ok (.iconst 0, 1) := by decide +kernel
theorem dX0_become_106 : decode cX0_become 106 = .ok (.aload_n 0, 1) := by decide +kernel
theorem dX0_become_107 : decode cX0_become 107 = .ok (.getfield 39, 3) := by decide +kernel
theorem dX0_become_110 : decode cX0_become 110 = .ok (.iconst 0, 1) := by decide +kernel
theorem dX0_become_111 : decode cX0_become 111 = .ok (.bipush 10, 2) := by decide +kernel
theorem dX0_become_113 : decode cX0_become 113 = .ok (.invokestatic 51, 3) := by decide +kernel
theorem dX0_become_116 : decode cX0_become 116 = .ok (.aload_n 1, 1) := by decide +kernel
theorem dX0_become_117 : decode cX0_become 117 = .ok (.getfield 42, 3) := by decide +kernel
theorem dX0_become_120 : decode cX0_become 120 = .ok (.iconst 0, 1) := by decide +kernel
theorem dX0_become_121 : decode cX0_become 121 = .ok (.aload_n 0, 1) := by decide +kernel
theorem dX0_become_122 : decode cX0_become 122 = .ok (.getfield 42, 3) := by decide +kernel
theorem dX0_become_125 : decode cX0_become 125 = .ok (.iconst 0, 1) := by decide +kernel
theorem dX0_become_126 : decode cX0_become 126 = .ok (.bipush 10, 2) := by decide +kernel
theorem dX0_become_128 : decode cX0_become 128 = .ok (.invokestatic 51, 3) := by decide +kernel
theorem dX0_become_131 : decode cX0_become 131 = .ok (.aload_n 1, 1) := by decide +kernel
theorem dX0_become_132 : decode cX0_become 132 = .ok (.getfield 45, 3) := by decide +kernel
theorem dX0_become_135 : decode cX0_become 135 = .ok (.iconst 0, 1) := by decide +kernel
theorem dX0_become_136 : decode cX0_become 136 = .ok (.aload_n 0, 1) := by decide +kernel
theorem dX0_become_137 : decode cX0_become 137 = .ok (.getfield 45, 3) := by decide +kernel
theorem dX0_become_140 : decode cX0_become 140 = .ok (.iconst 0, 1) := by decide +kernel
theorem dX0_become_141 : decode cX0_become 141 = .ok (.bipush 10, 2) := by decide +kernel
theorem dX0_become_143 : decode cX0_become 143 = .ok (.invokestatic 51, 3) := by decide +kernel
theorem dX0_become_146 : decode cX0_become 146 = .ok (.return_, 1) := by decide +kernel
