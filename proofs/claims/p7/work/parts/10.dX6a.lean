theorem dX6_init_0 : decode cX6_init 0 = .ok (.aload_n 0, 1) := by decide +kernel
theorem dX6_init_1 : decode cX6_init 1 = .ok (.invokespecial 1, 3) := by decide +kernel
theorem dX6_init_4 : decode cX6_init 4 = .ok (.aload_n 0, 1) := by decide +kernel
theorem dX6_init_5 : decode cX6_init 5 = .ok (.bipush 30, 2) := by decide +kernel
theorem dX6_init_7 : decode cX6_init 7 = .ok (.newarray .int, 2) := by decide +kernel
theorem dX6_init_9 : decode cX6_init 9 = .ok (.putfield 7, 3) := by decide +kernel
theorem dX6_init_12 : decode cX6_init 12 = .ok (.aload_n 0, 1) := by decide +kernel
theorem dX6_init_13 : decode cX6_init 13 = .ok (.iconst 3, 1) := by decide +kernel
theorem dX6_init_14 : decode cX6_init 14 = .ok (.newarray .int, 2) := by decide +kernel
theorem dX6_init_16 : decode cX6_init 16 = .ok (.dup, 1) := by decide +kernel
theorem dX6_init_17 : decode cX6_init 17 = .ok (.iconst 0, 1) := by decide +kernel
theorem dX6_init_18 : decode cX6_init 18 = .ok (.iconst 1, 1) := by decide +kernel
theorem dX6_init_19 : decode cX6_init 19 = .ok (.iastore, 1) := by decide +kernel
theorem dX6_init_20 : decode cX6_init 20 = .ok (.dup, 1) := by decide +kernel
theorem dX6_init_21 : decode cX6_init 21 = .ok (.iconst 1, 1) := by decide +kernel
theorem dX6_init_22 : decode cX6_init 22 = .ok (.iconst 0, 1) := by decide +kernel
theorem dX6_init_23 : decode cX6_init 23 = .ok (.iastore, 1) := by decide +kernel
theorem dX6_init_24 : decode cX6_init 24 = .ok (.dup, 1) := by decide +kernel
theorem dX6_init_25 : decode cX6_init 25 = .ok (.iconst 2, 1) := by decide +kernel
theorem dX6_init_26 : decode cX6_init 26 = .ok (.iconst 0, 1) := by decide +kernel
theorem dX6_init_27 : decode cX6_init 27 = .ok (.iastore, 1) := by decide +kernel
theorem dX6_init_28 : decode cX6_init 28 = .ok (.putfield 13, 3) := by decide +kernel
theorem dX6_init_31 : decode cX6_init 31 = .ok (.aload_n 0, 1) := by decide +kernel
theorem dX6_init_32 : decode cX6_init 32 = .ok (.bipush 10, 2) := by decide +kernel
theorem dX6_init_34 : decode cX6_init 34 = .ok (.newarray .int, 2) := by decide +kernel
theorem dX6_init_36 : decode cX6_init 36 = .ok (.putfield 16, 3) := by decide +kernel
theorem dX6_init_39 : decode cX6_init 39 = .ok (.aload_n 0, 1) := by decide +kernel
theorem dX6_init_40 : decode cX6_init 40 = .ok (.bipush 100, 2) := by decide +kernel
theorem dX6_init_42 : decode cX6_init 42 = .ok (.newarray .int, 2) := by decide +kernel
theorem dX6_init_44 : decode cX6_init 44 = .ok (.putfield 19, 3) := by decide +kernel
theorem dX6_init_47 : decode cX6_init 47 = .ok (.aload_n 0, 1) := by decide +kernel
theorem dX6_init_48 : decode cX6_init 48 = .ok (.bipush 10, 2) := by decide +kernel
theorem dX6_init_50 : decode cX6_init 50 = .ok (.newarray .int, 2) := by decide +kernel
theorem dX6_init_52 : decode cX6_init 52 = .ok (.putfield 22, 3) := by decide +kernel
theorem dX6_init_55 : decode cX6_init 55 = .ok (.aload_n 0, 1) := by decide +kernel
theorem dX6_init_56 : decode cX6_init 56 = .ok (.bipush 10, 2) := by decide +kernel
theorem dX6_init_58 : decode cX6_init 58 = .ok (.newarray .int, 2) := by decide +kernel
theorem dX6_init_60 : decode cX6_init 60 = .ok (.putfield 25, 3) := by decide +kernel
theorem dX6_init_63 : decode cX6_init 63 = .ok (.aload_n 0, 1) := by decide +kernel
theorem dX6_init_64 : decode cX6_init 64 = .ok (.bipush 10, 2) := by decide +kernel
theorem dX6_init_66 : decode cX6_init 66 = .ok (.putfield 28, 3) := by decide +kernel
theorem dX6_init_69 : decode cX6_init 69 = .ok (.aload_n 0, 1) := by decide +kernel
theorem dX6_init_70 : decode cX6_init 70 = .ok (.bipush 11, 2) := by decide +kernel
theorem dX6_init_72 : decode cX6_init 72 = .ok (.newarray .int, 2) := by decide +kernel
theorem dX6_init_74 : decode cX6_init 74 = .ok (.putfield 32, 3) := by decide +kernel
theorem dX6_init_77 : decode cX6_init 77 = .ok (.aload_n 0, 1) := by decide +kernel
theorem dX6_init_78 : decode cX6_init 78 = .ok (.sipush 180, 3) := by decide +kernel
theorem dX6_init_81 : decode cX6_init 81 = .ok (.newarray .int, 2) := by decide +kernel
theorem dX6_init_83 : decode cX6_init 83 = .ok (.putfield 35, 3) := by decide +kernel
theorem dX6_init_86 : decode cX6_init 86 = .ok (.aload_n 0, 1) := by decide +kernel
theorem dX6_init_87 : decode cX6_init 87 = .ok (.iconst 4, 1) := by decide +kernel
theorem dX6_init_88 : decode cX6_init 88 = .ok (.newarray .int, 2) := by decide +kernel
theorem dX6_init_90 : decode cX6_init 90 = .ok (.putfield 38, 3) := by decide +kernel
theorem dX6_init_93 : decode cX6_init 93 = .ok (.aload_n 0, 1) := by decide +kernel
theorem dX6_init_94 : decode cX6_init 94 = .ok (.iconst 4, 1) := by decide +kernel
theorem dX6_init_95 : decode cX6_init 95 = .ok (.newarray .int, 2) := by decide +kernel
theorem dX6_init_97 : decode cX6_init 97 = .ok (.putfield 41, 3) := by decide +kernel
theorem dX6_init_100 : decode cX6_init 100 = .ok (.aload_n 0, 1) := by decide +kernel
theorem dX6_init_101 : decode cX6_init 101 = .ok (.sipush 160, 3) := by decide +kernel
theorem dX6_init_104 : decode cX6_init 104 = .ok (.newarray .int, 2) := by decide +kernel
theorem dX6_init_106 : decode cX6_init 106 = .ok (.putfield 44, 3) := by decide +kernel
theorem dX6_init_109 : decode cX6_init 109 = .ok (.aload_n 0, 1) := by decide +kernel
theorem dX6_init_110 : decode cX6_init 110 = .ok (.bipush 20, 2) := by decide +kernel
theorem dX6_init_112 : decode cX6_init 112 = .ok (.newarray .int, 2) := by decide +kernel
theorem dX6_init_114 : decode cX6_init 114 = .ok (.putfield 47, 3) := by decide +kernel
theorem dX6_init_117 : decode cX6_init 117 = .ok (.aload_n 0, 1) := by decide +kernel
theorem dX6_init_118 : decode cX6_init 118 = .ok (.bipush 10, 2) := by decide +kernel
theorem dX6_init_120 : decode cX6_init 120 = .ok (.newarray .int, 2) := by decide +kernel
theorem dX6_init_122 : decode cX6_init 122 = .ok (.putfield 50, 3) := by decide +kernel
theorem dX6_init_125 : decode cX6_init 125 = .ok (.aload_n 0, 1) := by decide +kernel
theorem dX6_init_126 : decode cX6_init 126 = .ok (.sipush 1024, 3) := by decide +kernel
theorem dX6_init_129 : decode cX6_init 129 = .ok (.newarray .boolean, 2) := by decide +kernel
theorem dX6_init_131 : decode cX6_init 131 = .ok (.putfield 53, 3) := by decide +kernel
theorem dX6_init_134 : decode cX6_init 134 = .ok (.aload_n 0, 1) := by decide +kernel
theorem dX6_init_135 : decode cX6_init 135 = .ok (.sipush 1024, 3) := by decide +kernel
theorem dX6_init_138 : decode cX6_init 138 = .ok (.newarray .int, 2) := by decide +kernel
theorem dX6_init_140 : decode cX6_init 140 = .ok (.putfield 57, 3) := by decide +kernel
theorem dX6_init_143 : decode cX6_init 143 = .ok (.aload_n 0, 1) := by decide +kernel
theorem dX6_init_144 : decode cX6_init 144 = .ok (.sipush 1024, 3) := by decide +kernel
theorem dX6_init_147 : decode cX6_init 147 = .ok (.newarray .int, 2) := by decide +kernel
theorem dX6_init_149 : decode cX6_init 149 = .ok (.putfield 60, 3) := by decide +kernel
theorem dX6_init_152 : decode cX6_init 152 = .ok (.aload_n 0, 1) := by decide +kernel
theorem dX6_init_153 : decode cX6_init 153 = .ok (.bipush 10, 2) := by decide +kernel
theorem dX6_init_155 : decode cX6_init 155 = .ok (.newarray .int, 2) := by decide +kernel
theorem dX6_init_157 : decode cX6_init 157 = .ok (.putfield 63, 3) := by decide +kernel
theorem dX6_init_160 : decode cX6_init 160 = .ok (.aload_n 0, 1) := by decide +kernel
theorem dX6_init_161 : decode cX6_init 161 = .ok (.bipush 10, 2) := by decide +kernel
theorem dX6_init_163 : decode cX6_init 163 = .ok (.newarray .int, 2) := by decide +kernel
theorem dX6_init_165 : decode cX6_init 165 = .ok (.putfield 66, 3) := by decide +kernel
theorem dX6_init_168 : decode cX6_init 168 = .ok (.aload_n 0, 1) := by decide +kernel
theorem dX6_init_169 : decode cX6_init 169 = .ok (.sipush 11264, 3) := by decide +kernel
theorem dX6_init_172 : decode cX6_init 172 = .ok (.newarray .long, 2) := by decide +kernel
theorem dX6_init_174 : decode cX6_init 174 = .ok (.putfield 69, 3) := by decide +kernel
theorem dX6_init_177 : decode cX6_init 177 = .ok (.aload_n 0, 1) := by decide +kernel
theorem dX6_init_178 : decode cX6_init 178 = .ok (.sipush 11264, 3) := by decide +kernel
theorem dX6_init_181 : decode cX6_init 181 = .ok (.newarray .long, 2) := by decide +kernel
theorem dX6_init_183 : decode cX6_init 183 = .ok (.putfield 73, 3) := by decide +kernel
theorem dX6_init_186 : decode cX6_init 186 = .ok (.aload_n 0, 1) := by decide +kernel
theorem dX6_init_187 : decode cX6_init 187 = .ok (.bipush 10, 2) := by decide +kernel
theorem dX6_init_189 : decode cX6_init 189 = .ok (.newarray .int, 2) := by decide +kernel
theorem dX6_init_191 : decode cX6_init 191 = .ok (.putfield 76, 3) := by decide +kernel
theorem dX6_init_194 : decode cX6_init 194 = .ok (.aload_n 0, 1) := by decide +kernel
theorem dX6_init_195 : decode cX6_init 195 = .ok (.iconst 3, 1) := by decide +kernel
theorem dX6_init_196 : decode cX6_init 196 = .ok (.newarray .int, 2) := by decide +kernel
theorem dX6_init_198 : decode cX6_init 198 = .ok (.putfield 79, 3) := by decide +kernel
theorem dX6_init_201 : decode cX6_init 201 = .ok (.iconst 0, 1) := by decide +kernel
theorem dX6_init_202 : decode cX6_init 202 = .ok (.istore_n 1, 1) := by decide +kernel
theorem dX6_init_203 : decode cX6_init 203 = .ok (.iload_n 1, 1) := by decide +kernel
theorem dX6_init_204 : decode cX6_init 204 = .ok (.iconst 4, 1) := by decide +kernel
theorem dX6_init_205 : decode cX6_init 205 = .ok (.if_icmp .ge 16, 3) := by decide +kernel
theorem dX6_init_208 : decode cX6_init 208 = .ok (.aload_n 0, 1) := by decide +kernel
theorem dX6_init_209 : decode cX6_init 209 = .ok (.getfield 41, 3) := by decide +kernel
theorem dX6_init_212 : decode cX6_init 212 = .ok (.iload_n 1, 1) := by decide +kernel
theorem dX6_init_213 : decode cX6_init 213 = .ok (.iconst (-1), 1) := by decide +kernel
theorem dX6_init_214 : decode cX6_init 214 = .ok (.iastore, 1) := by decide +kernel
theorem dX6_init_215 : decode cX6_init 215 = .ok (.iinc 1 1, 3) := by decide +kernel
theorem dX6_init_218 : decode cX6_init 218 = .ok (.goto (-15), 3) := by decide +kernel
theorem dX6_init_221 : decode cX6_init 221 = .ok (.return_, 1) := by decide +kernel
theorem dX6_meet_0 : decode cX6_meet 0 = .ok (.aload_n 0, 1) := by decide +kernel
theorem dX6_meet_1 : decode cX6_meet 1 = .ok (.dup, 1) := by decide +kernel
theorem dX6_meet_2 : decode cX6_meet 2 = .ok (.getfield 82, 3) := by decide +kernel
theorem dX6_meet_5 : decode cX6_meet 5 = .ok (.iconst 1, 1) := by decide +kernel
theorem dX6_meet_6 : decode cX6_meet 6 = .ok (.iadd, 1) := by decide +kernel
theorem dX6_meet_7 : decode cX6_meet 7 = .ok (.putfield 82, 3) := by decide +kernel
theorem dX6_meet_10 : decode cX6_meet 10 = .ok (.iload_n 1, 1) := by decide +kernel
theorem dX6_meet_11 : decode cX6_meet 11 = .ok (.ireturn, 1) := by decide +kernel
theorem dX6_isTask_0 : decode cX6_isTask 0 = .ok (.iload_n 1, 1) := by decide +kernel
theorem dX6_isTask_1 : decode cX6_isTask 1 = .ok (.ifCond .lt 15, 3) := by decide +kernel
theorem dX6_isTask_4 : decode cX6_isTask 4 = .ok (.iload_n 1, 1) := by decide +kernel
theorem dX6_isTask_5 : decode cX6_isTask 5 = .ok (.aload_n 0, 1) := by decide +kernel
theorem dX6_isTask_6 : decode cX6_isTask 6 = .ok (.getfield 85, 3) := by decide +kernel
theorem dX6_isTask_9 : decode cX6_isTask 9 = .ok (.if_icmp .ge 7, 3) := by decide +kernel
theorem dX6_isTask_12 : decode cX6_isTask 12 = .ok (.iconst 1, 1) := by decide +kernel
theorem dX6_isTask_13 : decode cX6_isTask 13 = .ok (.goto 4, 3) := by decide +kernel
theorem dX6_isTask_16 : decode cX6_isTask 16 = .ok (.iconst 0, 1) := by decide +kernel
theorem dX6_isTask_17 : decode cX6_isTask 17 = .ok (.ireturn, 1) := by decide +kernel
theorem dX6_in_0 : decode cX6_in 0 = .ok (.iload_n 0, 1) := by decide +kernel
theorem dX6_in_1 : decode cX6_in 1 = .ok (.iload_n 1, 1) := by decide +kernel
theorem dX6_in_2 : decode cX6_in 2 = .ok (.ishr, 1) := by decide +kernel
theorem dX6_in_3 : decode cX6_in 3 = .ok (.iconst 1, 1) := by decide +kernel
theorem dX6_in_4 : decode cX6_in 4 = .ok (.iand, 1) := by decide +kernel
theorem dX6_in_5 : decode cX6_in 5 = .ok (.iconst 1, 1) := by decide +kernel
theorem dX6_in_6 : decode cX6_in 6 = .ok (.if_icmp .ne 7, 3) := by decide +kernel
theorem dX6_in_9 : decode cX6_in 9 = .ok (.iconst 1, 1) := by decide +kernel
theorem dX6_in_10 : decode cX6_in 10 = .ok (.goto 4, 3) := by decide +kernel
theorem dX6_in_13 : decode cX6_in 13 = .ok (.iconst 0, 1) := by decide +kernel
theorem dX6_in_14 : decode cX6_in 14 = .ok (.ireturn, 1) := by decide +kernel
theorem dX6_all_0 : decode cX6_all 0 = .ok (.iconst 1, 1) := by decide +kernel
theorem dX6_all_1 : decode cX6_all 1 = .ok (.aload_n 0, 1) := by decide +kernel
theorem dX6_all_2 : decode cX6_all 2 = .ok (.getfield 85, 3) := by decide +kernel
theorem dX6_all_5 : decode cX6_all 5 = .ok (.ishl, 1) := by decide +kernel
theorem dX6_all_6 : decode cX6_all 6 = .ok (.iconst 1, 1) := by decide +kernel
theorem dX6_all_7 : decode cX6_all 7 = .ok (.isub, 1) := by decide +kernel
theorem dX6_all_8 : decode cX6_all 8 = .ok (.ireturn, 1) := by decide +kernel
theorem dX6_task_0 : decode cX6_task 0 = .ok (.aload_n 0, 1) := by decide +kernel
theorem dX6_task_1 : decode cX6_task 1 = .ok (.getfield 85, 3) := by decide +kernel
theorem dX6_task_4 : decode cX6_task 4 = .ok (.bipush 10, 2) := by decide +kernel
theorem dX6_task_6 : decode cX6_task 6 = .ok (.if_icmp .ne 6, 3) := by decide +kernel
theorem dX6_task_9 : decode cX6_task 9 = .ok (.bipush (-2), 2) := by decide +kernel
theorem dX6_task_11 : decode cX6_task 11 = .ok (.ireturn, 1) := by decide +kernel
theorem dX6_task_12 : decode cX6_task 12 = .ok (.aload_n 0, 1) := by decide +kernel
theorem dX6_task_13 : decode cX6_task 13 = .ok (.getfield 85, 3) := by decide +kernel
theorem dX6_task_16 : decode cX6_task 16 = .ok (.istore_n 1, 1) := by decide +kernel
theorem dX6_task_17 : decode cX6_task 17 = .ok (.iconst 0, 1) := by decide +kernel
theorem dX6_task_18 : decode cX6_task 18 = .ok (.istore_n 2, 1) := by decide +kernel
theorem dX6_task_19 : decode cX6_task 19 = .ok (.iload_n 2, 1) := by decide +kernel
theorem dX6_task_20 : decode cX6_task 20 = .ok (.iconst 3, 1) := by decide +kernel
theorem dX6_task_21 : decode cX6_task 21 = .ok (.if_icmp .ge 20, 3) := by decide +kernel
theorem dX6_task_24 : decode cX6_task 24 = .ok (.aload_n 0, 1) := by decide +kernel
theorem dX6_task_25 : decode cX6_task 25 = .ok (.getfield 7, 3) := by decide +kernel
theorem dX6_task_28 : decode cX6_task 28 = .ok (.iconst 3, 1) := by decide +kernel
theorem dX6_task_29 : decode cX6_task 29 = .ok (.iload_n 1, 1) := by decide +kernel
theorem dX6_task_30 : decode cX6_task 30 = .ok (.imul, 1) := by decide +kernel
theorem dX6_task_31 : decode cX6_task 31 = .ok (.iload_n 2, 1) := by decide +kernel
theorem dX6_task_32 : decode cX6_task 32 = .ok (.iadd, 1) := by decide +kernel
theorem dX6_task_33 : decode cX6_task 33 = .ok (.iconst 1, 1) := by decide +kernel
theorem dX6_task_34 : decode cX6_task 34 = .ok (.iastore, 1) := by decide +kernel
theorem dX6_task_35 : decode cX6_task 35 = .ok (.iinc 2 1, 3) := by decide +kernel
theorem dX6_task_38 : decode cX6_task 38 = .ok (.goto (-19), 3) := by decide +kernel
theorem dX6_task_41 : decode cX6_task 41 = .ok (.aload_n 0, 1) := by decide +kernel
theorem dX6_task_42 : decode cX6_task 42 = .ok (.getfield 16, 3) := by decide +kernel
theorem dX6_task_45 : decode cX6_task 45 = .ok (.iload_n 1, 1) := by decide +kernel
theorem dX6_task_46 : decode cX6_task 46 = .ok (.iconst 0, 1) := by decide +kernel
theorem dX6_task_47 : decode cX6_task 47 = .ok (.iastore, 1) := by decide +kernel
theorem dX6_task_48 : decode cX6_task 48 = .ok (.aload_n 0, 1) := by decide +kernel
theorem dX6_task_49 : decode cX6_task 49 = .ok (.getfield 22, 3) := by decide +kernel
theorem dX6_task_52 : decode cX6_task 52 = .ok (.iload_n 1, 1) := by decide +kernel
theorem dX6_task_53 : decode cX6_task 53 = .ok (.iconst 0, 1) := by decide +kernel
theorem dX6_task_54 : decode cX6_task 54 = .ok (.iastore, 1) := by decide +kernel
theorem dX6_task_55 : decode cX6_task 55 = .ok (.aload_n 0, 1) := by decide +kernel
theorem dX6_task_56 : decode cX6_task 56 = .ok (.getfield 25, 3) := by decide +kernel
theorem dX6_task_59 : decode cX6_task 59 = .ok (.iload_n 1, 1) := by decide +kernel
theorem dX6_task_60 : decode cX6_task 60 = .ok (.iconst 0, 1) := by decide +kernel
theorem dX6_task_61 : decode cX6_task 61 = .ok (.iastore, 1) := by decide +kernel
theorem dX6_task_62 : decode cX6_task 62 = .ok (.iconst 0, 1) := by decide +kernel
theorem dX6_task_63 : decode cX6_task 63 = .ok (.istore_n 2, 1) := by decide +kernel
theorem dX6_task_64 : decode cX6_task 64 = .ok (.iload_n 2, 1) := by decide +kernel
theorem dX6_task_65 : decode cX6_task 65 = .ok (.bipush 10, 2) := by decide +kernel
theorem dX6_task_67 : decode cX6_task 67 = .ok (.if_icmp .ge 33, 3) := by decide +kernel
theorem dX6_task_70 : decode cX6_task 70 = .ok (.aload_n 0, 1) := by decide +kernel
theorem dX6_task_71 : decode cX6_task 71 = .ok (.getfield 19, 3) := by decide +kernel
theorem dX6_task_74 : decode cX6_task 74 = .ok (.bipush 10, 2) := by decide +kernel
theorem dX6_task_76 : decode cX6_task 76 = .ok (.iload_n 1, 1) := by decide +kernel
theorem dX6_task_77 : decode cX6_task 77 = .ok (.imul, 1) := by decide +kernel
theorem dX6_task_78 : decode cX6_task 78 = .ok (.iload_n 2, 1) := by decide +kernel
theorem dX6_task_79 : decode cX6_task 79 = .ok (.iadd, 1) := by decide +kernel
theorem dX6_task_80 : decode cX6_task 80 = .ok (.iconst 0, 1) := by decide +kernel
theorem dX6_task_81 : decode cX6_task 81 = .ok (.iastore, 1) := by decide +kernel
theorem dX6_task_82 : decode cX6_task 82 = .ok (.aload_n 0, 1) := by decide +kernel
theorem dX6_task_83 : decode cX6_task 83 = .ok (.getfield 19, 3) := by decide +kernel
theorem dX6_task_86 : decode cX6_task 86 = .ok (.bipush 10, 2) := by decide +kernel
theorem dX6_task_88 : decode cX6_task 88 = .ok (.iload_n 2, 1) := by decide +kernel
theorem dX6_task_89 : decode cX6_task 89 = .ok (.imul, 1) := by decide +kernel
theorem dX6_task_90 : decode cX6_task 90 = .ok (.iload_n 1, 1) := by decide +kernel
theorem dX6_task_91 : decode cX6_task 91 = .ok (.iadd, 1) := by decide +kernel
theorem dX6_task_92 : decode cX6_task 92 = .ok (.iconst 0, 1) := by decide +kernel
theorem dX6_task_93 : decode cX6_task 93 = .ok (.iastore, 1) := by decide +kernel
theorem dX6_task_94 : decode cX6_task 94 = .ok (.iinc 2 1, 3) := by decide +kernel
theorem dX6_task_97 : decode cX6_task 97 = .ok (.goto (-33), 3) := by decide +kernel
theorem dX6_task_100 : decode cX6_task 100 = .ok (.aload_n 0, 1) := by decide +kernel
theorem dX6_task_101 : decode cX6_task 101 = .ok (.dup, 1) := by decide +kernel
theorem dX6_task_102 : decode cX6_task 102 = .ok (.getfield 85, 3) := by decide +kernel
theorem dX6_task_105 : decode cX6_task 105 = .ok (.iconst 1, 1) := by decide +kernel
theorem dX6_task_106 : decode cX6_task 106 = .ok (.iadd, 1) := by decide +kernel
theorem dX6_task_107 : decode cX6_task 107 = .ok (.putfield 85, 3) := by decide +kernel
theorem dX6_task_110 : decode cX6_task 110 = .ok (.iload_n 1, 1) := by decide +kernel
theorem dX6_task_111 : decode cX6_task 111 = .ok (.ireturn, 1) := by decide +kernel
theorem dX6_isMake_0 : decode cX6_isMake 0 = .ok (.iload_n 0, 1) := by decide +kernel
theorem dX6_isMake_1 : decode cX6_isMake 1 = .ok (.ifCond .lt 12, 3) := by decide +kernel
theorem dX6_isMake_4 : decode cX6_isMake 4 = .ok (.iload_n 0, 1) := by decide +kernel
theorem dX6_isMake_5 : decode cX6_isMake 5 = .ok (.iconst 3, 1) := by decide +kernel
theorem dX6_isMake_6 : decode cX6_isMake 6 = .ok (.if_icmp .ge 7, 3) := by decide +kernel
theorem dX6_isMake_9 : decode cX6_isMake 9 = .ok (.iconst 1, 1) := by decide +kernel
theorem dX6_isMake_10 : decode cX6_isMake 10 = .ok (.goto 4, 3) := by decide +kernel
theorem dX6_isMake_13 : decode cX6_isMake 13 = .ok (.iconst 0, 1) := by decide +kernel
theorem dX6_isMake_14 : decode cX6_isMake 14 = .ok (.ireturn, 1) := by decide +kernel
set_option maxRecDepth 20000 in
set_option maxRecDepth 20000 in
theorem ggX6_time_X6_isTask : GoodIn wsX6_time wsX6_isTask := goodIn_r _ [6, 7, 11, 12, 13, 14, 15, 16, 17, 18, 19, 20, 21, 22, 23, 24, 25, 26, 27, 28, 29, 30, 31, 32, 33, 34, 35, 36, 37, 38, 39] rfl (by decide +kernel)
set_option maxRecDepth 20000 in
theorem gX6_time_X6_isTask : GoodIn wsX6_time (wsV RX6 88 RX6 yX6_isTask wsX6_isTask) := goodIn_app (goodIn_of _ (by decide +kernel)) ggX6_time_X6_isTask
set_option maxRecDepth 20000 in
set_option maxRecDepth 20000 in
theorem ggX6_time_X6_isMake : GoodIn wsX6_time wsX6_isMake := goodIn_r _ [10] rfl (by decide +kernel)
set_option maxRecDepth 20000 in
theorem gX6_time_X6_isMake : GoodIn wsX6_time (va_wsS RX6 92 yX6_isMake wsX6_isMake) := goodIn_app (goodIn_of _ (by decide +kernel)) ggX6_time_X6_isMake
theorem dX6_time_0 : decode cX6_time 0 = .ok (.aload_n 0, 1) := by decide +kernel
theorem dX6_time_1 : decode cX6_time 1 = .ok (.iload_n 1, 1) := by decide +kernel
theorem dX6_time_2 : decode cX6_time 2 = .ok (.invokevirtual 88, 3) := by decide +kernel
theorem dX6_time_5 : decode cX6_time 5 = .ok (.ifCond .eq 21, 3) := by decide +kernel
theorem dX6_time_8 : decode cX6_time 8 = .ok (.iload_n 2, 1) := by decide +kernel
theorem dX6_time_9 : decode cX6_time 9 = .ok (.invokestatic 92, 3) := by decide +kernel
theorem dX6_time_12 : decode cX6_time 12 = .ok (.ifCond .eq 14, 3) := by decide +kernel
theorem dX6_time_15 : decode cX6_time 15 = .ok (.iload_n 3, 1) := by decide +kernel
theorem dX6_time_16 : decode cX6_time 16 = .ok (.iconst 1, 1) := by decide +kernel
theorem dX6_time_17 : decode cX6_time 17 = .ok (.if_icmp .lt 9, 3) := by decide +kernel
theorem dX6_time_20 : decode cX6_time 20 = .ok (.iload_n 3, 1) := by decide +kernel
theorem dX6_time_21 : decode cX6_time 21 = .ok (.bipush 100, 2) := by decide +kernel
theorem dX6_time_23 : decode cX6_time 23 = .ok (.if_icmp .le 6, 3) := by decide +kernel
theorem dX6_time_26 : decode cX6_time 26 = .ok (.bipush (-2), 2) := by decide +kernel
theorem dX6_time_28 : decode cX6_time 28 = .ok (.ireturn, 1) := by decide +kernel
theorem dX6_time_29 : decode cX6_time 29 = .ok (.aload_n 0, 1) := by decide +kernel
theorem dX6_time_30 : decode cX6_time 30 = .ok (.getfield 7, 3) := by decide +kernel
theorem dX6_time_33 : decode cX6_time 33 = .ok (.iconst 3, 1) := by decide +kernel
theorem dX6_time_34 : decode cX6_time 34 = .ok (.iload_n 1, 1) := by decide +kernel
theorem dX6_time_35 : decode cX6_time 35 = .ok (.imul, 1) := by decide +kernel
theorem dX6_time_36 : decode cX6_time 36 = .ok (.iload_n 2, 1) := by decide +kernel
theorem dX6_time_37 : decode cX6_time 37 = .ok (.iadd, 1) := by decide +kernel
theorem dX6_time_38 : decode cX6_time 38 = .ok (.iaload, 1) := by decide +kernel
theorem dX6_time_39 : decode cX6_time 39 = .ok (.istore 4, 2) := by decide +kernel
theorem dX6_time_41 : decode cX6_time 41 = .ok (.aload_n 0, 1) := by decide +kernel
theorem dX6_time_42 : decode cX6_time 42 = .ok (.getfield 7, 3) := by decide +kernel
theorem dX6_time_45 : decode cX6_time 45 = .ok (.iconst 3, 1) := by decide +kernel
theorem dX6_time_46 : decode cX6_time 46 = .ok (.iload_n 1, 1) := by decide +kernel
theorem dX6_time_47 : decode cX6_time 47 = .ok (.imul, 1) := by decide +kernel
theorem dX6_time_48 : decode cX6_time 48 = .ok (.iload_n 2, 1) := by decide +kernel
theorem dX6_time_49 : decode cX6_time 49 = .ok (.iadd, 1) := by decide +kernel
theorem dX6_time_50 : decode cX6_time 50 = .ok (.iload_n 3, 1) := by decide +kernel
theorem dX6_time_51 : decode cX6_time 51 = .ok (.iastore, 1) := by decide +kernel
theorem dX6_time_52 : decode cX6_time 52 = .ok (.iload 4, 2) := by decide +kernel
theorem dX6_time_54 : decode cX6_time 54 = .ok (.ireturn, 1) := by decide +kernel
set_option maxRecDepth 20000 in
set_option maxRecDepth 20000 in
theorem ggX6_share_X6_isMake : GoodIn wsX6_share wsX6_isMake := goodIn_r _ [5] rfl (by decide +kernel)
set_option maxRecDepth 20000 in
theorem gX6_share_X6_isMake : GoodIn wsX6_share (va_wsS RX6 92 yX6_isMake wsX6_isMake) := goodIn_app (goodIn_of _ (by decide +kernel)) ggX6_share_X6_isMake
theorem dX6_share_0 : decode cX6_share 0 = .ok (.iload_n 1, 1) := by decide +kernel
theorem dX6_share_1 : decode cX6_share 1 = .ok (.invokestatic 92, 3) := by decide +kernel
theorem dX6_share_4 : decode cX6_share 4 = .ok (.ifCond .eq 13, 3) := by decide +kernel
theorem dX6_share_7 : decode cX6_share 7 = .ok (.iload_n 2, 1) := by decide +kernel
theorem dX6_share_8 : decode cX6_share 8 = .ok (.ifCond .lt 9, 3) := by decide +kernel
theorem dX6_share_11 : decode cX6_share 11 = .ok (.iload_n 2, 1) := by decide +kernel
theorem dX6_share_12 : decode cX6_share 12 = .ok (.bipush 9, 2) := by decide +kernel
theorem dX6_share_14 : decode cX6_share 14 = .ok (.if_icmp .le 6, 3) := by decide +kernel
theorem dX6_share_17 : decode cX6_share 17 = .ok (.bipush (-2), 2) := by decide +kernel
theorem dX6_share_19 : decode cX6_share 19 = .ok (.ireturn, 1) := by decide +kernel
theorem dX6_share_20 : decode cX6_share 20 = .ok (.aload_n 0, 1) := by decide +kernel
theorem dX6_share_21 : decode cX6_share 21 = .ok (.getfield 13, 3) := by decide +kernel
theorem dX6_share_24 : decode cX6_share 24 = .ok (.iconst 0, 1) := by decide +kernel
theorem dX6_share_25 : decode cX6_share 25 = .ok (.iaload, 1) := by decide +kernel
theorem dX6_share_26 : decode cX6_share 26 = .ok (.aload_n 0, 1) := by decide +kernel
theorem dX6_share_27 : decode cX6_share 27 = .ok (.getfield 13, 3) := by decide +kernel
theorem dX6_share_30 : decode cX6_share 30 = .ok (.iconst 1, 1) := by decide +kernel
theorem dX6_share_31 : decode cX6_share 31 = .ok (.iaload, 1) := by decide +kernel
theorem dX6_share_32 : decode cX6_share 32 = .ok (.iadd, 1) := by decide +kernel
theorem dX6_share_33 : decode cX6_share 33 = .ok (.aload_n 0, 1) := by decide +kernel
theorem dX6_share_34 : decode cX6_share 34 = .ok (.getfield 13, 3) := by decide +kernel
theorem dX6_share_37 : decode cX6_share 37 = .ok (.iconst 2, 1) := by decide +kernel
theorem dX6_share_38 : decode cX6_share 38 = .ok (.iaload, 1) := by decide +kernel
theorem dX6_share_39 : decode cX6_share 39 = .ok (.iadd, 1) := by decide +kernel
theorem dX6_share_40 : decode cX6_share 40 = .ok (.aload_n 0, 1) := by decide +kernel
theorem dX6_share_41 : decode cX6_share 41 = .ok (.getfield 13, 3) := by decide +kernel
theorem dX6_share_44 : decode cX6_share 44 = .ok (.iload_n 1, 1) := by decide +kernel
theorem dX6_share_45 : decode cX6_share 45 = .ok (.iaload, 1) := by decide +kernel
theorem dX6_share_46 : decode cX6_share 46 = .ok (.isub, 1) := by decide +kernel
theorem dX6_share_47 : decode cX6_share 47 = .ok (.iload_n 2, 1) := by decide +kernel
theorem dX6_share_48 : decode cX6_share 48 = .ok (.iadd, 1) := by decide +kernel
theorem dX6_share_49 : decode cX6_share 49 = .ok (.istore_n 3, 1) := by decide +kernel
theorem dX6_share_50 : decode cX6_share 50 = .ok (.iload_n 3, 1) := by decide +kernel
theorem dX6_share_51 : decode cX6_share 51 = .ok (.ifCond .ne 6, 3) := by decide +kernel
theorem dX6_share_54 : decode cX6_share 54 = .ok (.bipush (-2), 2) := by decide +kernel
theorem dX6_share_56 : decode cX6_share 56 = .ok (.ireturn, 1) := by decide +kernel
theorem dX6_share_57 : decode cX6_share 57 = .ok (.aload_n 0, 1) := by decide +kernel
theorem dX6_share_58 : decode cX6_share 58 = .ok (.getfield 13, 3) := by decide +kernel
theorem dX6_share_61 : decode cX6_share 61 = .ok (.iload_n 1, 1) := by decide +kernel
theorem dX6_share_62 : decode cX6_share 62 = .ok (.iaload, 1) := by decide +kernel
theorem dX6_share_63 : decode cX6_share 63 = .ok (.istore 4, 2) := by decide +kernel
theorem dX6_share_65 : decode cX6_share 65 = .ok (.aload_n 0, 1) := by decide +kernel
theorem dX6_share_66 : decode cX6_share 66 = .ok (.getfield 13, 3) := by decide +kernel
theorem dX6_share_69 : decode cX6_share 69 = .ok (.iload_n 1, 1) := by decide +kernel
theorem dX6_share_70 : decode cX6_share 70 = .ok (.iload_n 2, 1) := by decide +kernel
theorem dX6_share_71 : decode cX6_share 71 = .ok (.iastore, 1) := by decide +kernel
theorem dX6_share_72 : decode cX6_share 72 = .ok (.iload 4, 2) := by decide +kernel
theorem dX6_share_74 : decode cX6_share 74 = .ok (.ireturn, 1) := by decide +kernel
set_option maxRecDepth 20000 in
set_option maxRecDepth 20000 in
theorem ggX6_leading_X6_in : GoodIn wsX6_leading wsX6_in := goodIn_r _ [6] rfl (by decide +kernel)
set_option maxRecDepth 20000 in
theorem gX6_leading_X6_in : GoodIn wsX6_leading (va_wsS RX6 95 yX6_in wsX6_in) := goodIn_app (goodIn_of _ (by decide +kernel)) ggX6_leading_X6_in
theorem dX6_leading_0 : decode cX6_leading 0 = .ok (.aload_n 0, 1) := by decide +kernel
theorem dX6_leading_1 : decode cX6_leading 1 = .ok (.getfield 16, 3) := by decide +kernel
theorem dX6_leading_4 : decode cX6_leading 4 = .ok (.iload_n 1, 1) := by decide +kernel
theorem dX6_leading_5 : decode cX6_leading 5 = .ok (.iaload, 1) := by decide +kernel
theorem dX6_leading_6 : decode cX6_leading 6 = .ok (.istore_n 2, 1) := by decide +kernel
theorem dX6_leading_7 : decode cX6_leading 7 = .ok (.iconst 0, 1) := by decide +kernel
theorem dX6_leading_8 : decode cX6_leading 8 = .ok (.istore_n 3, 1) := by decide +kernel
theorem dX6_leading_9 : decode cX6_leading 9 = .ok (.iload_n 2, 1) := by decide +kernel
theorem dX6_leading_10 : decode cX6_leading 10 = .ok (.iload_n 3, 1) := by decide +kernel
theorem dX6_leading_11 : decode cX6_leading 11 = .ok (.if_icmp .eq 49, 3) := by decide +kernel
theorem dX6_leading_14 : decode cX6_leading 14 = .ok (.iload_n 2, 1) := by decide +kernel
theorem dX6_leading_15 : decode cX6_leading 15 = .ok (.istore_n 3, 1) := by decide +kernel
theorem dX6_leading_16 : decode cX6_leading 16 = .ok (.iconst 0, 1) := by decide +kernel
theorem dX6_leading_17 : decode cX6_leading 17 = .ok (.istore 4, 2) := by decide +kernel
theorem dX6_leading_19 : decode cX6_leading 19 = .ok (.iload 4, 2) := by decide +kernel
theorem dX6_leading_21 : decode cX6_leading 21 = .ok (.aload_n 0, 1) := by decide +kernel
theorem dX6_leading_22 : decode cX6_leading 22 = .ok (.getfield 85, 3) := by decide +kernel
theorem dX6_leading_25 : decode cX6_leading 25 = .ok (.if_icmp .ge 32, 3) := by decide +kernel
theorem dX6_leading_28 : decode cX6_leading 28 = .ok (.iload_n 2, 1) := by decide +kernel
theorem dX6_leading_29 : decode cX6_leading 29 = .ok (.iload_n 2, 1) := by decide +kernel
theorem dX6_leading_30 : decode cX6_leading 30 = .ok (.iload 4, 2) := by decide +kernel
theorem dX6_leading_32 : decode cX6_leading 32 = .ok (.invokestatic 95, 3) := by decide +kernel
theorem dX6_leading_35 : decode cX6_leading 35 = .ok (.ifCond .eq 13, 3) := by decide +kernel
theorem dX6_leading_38 : decode cX6_leading 38 = .ok (.aload_n 0, 1) := by decide +kernel
theorem dX6_leading_39 : decode cX6_leading 39 = .ok (.getfield 16, 3) := by decide +kernel
theorem dX6_leading_42 : decode cX6_leading 42 = .ok (.iload 4, 2) := by decide +kernel
theorem dX6_leading_44 : decode cX6_leading 44 = .ok (.iaload, 1) := by decide +kernel
theorem dX6_leading_45 : decode cX6_leading 45 = .ok (.goto 4, 3) := by decide +kernel
theorem dX6_leading_48 : decode cX6_leading 48 = .ok (.iconst 0, 1) := by decide +kernel
theorem dX6_leading_49 : decode cX6_leading 49 = .ok (.ior, 1) := by decide +kernel
theorem dX6_leading_50 : decode cX6_leading 50 = .ok (.istore_n 2, 1) := by decide +kernel
theorem dX6_leading_51 : decode cX6_leading 51 = .ok (.iinc 4 1, 3) := by decide +kernel
theorem dX6_leading_54 : decode cX6_leading 54 = .ok (.goto (-35), 3) := by decide +kernel
theorem dX6_leading_57 : decode cX6_leading 57 = .ok (.goto (-48), 3) := by decide +kernel
theorem dX6_leading_60 : decode cX6_leading 60 = .ok (.iload_n 2, 1) := by decide +kernel
theorem dX6_leading_61 : decode cX6_leading 61 = .ok (.ireturn, 1) := by decide +kernel
set_option maxRecDepth 20000 in
set_option maxRecDepth 20000 in
theorem ggX6_following_X6_leading : GoodIn wsX6_following wsX6_leading := goodIn_r _ [6, 7, 1, 8, 9, 5, 10, 11, 12, 13, 14, 15, 16, 17, 18, 19, 20, 21, 22, 23, 24, 25, 26, 27, 28, 29, 30, 31, 32, 33, 34, 35, 36, 37, 38, 39] rfl (by decide +kernel)
set_option maxRecDepth 20000 in
theorem gX6_following_X6_leading : GoodIn wsX6_following (wsV RX6 99 RX6 yX6_leading wsX6_leading) := goodIn_app (goodIn_of _ (by decide +kernel)) ggX6_following_X6_leading
set_option maxRecDepth 20000 in
set_option maxRecDepth 20000 in
theorem ggX6_following_X6_in : GoodIn wsX6_following wsX6_in := goodIn_r _ [10] rfl (by decide +kernel)
set_option maxRecDepth 20000 in
theorem gX6_following_X6_in : GoodIn wsX6_following (va_wsS RX6 95 yX6_in wsX6_in) := goodIn_app (goodIn_of _ (by decide +kernel)) ggX6_following_X6_in
theorem dX6_following_0 : decode cX6_following 0 = .ok (.iconst 0, 1) := by decide +kernel
theorem dX6_following_1 : decode cX6_following 1 = .ok (.istore_n 2, 1) := by decide +kernel
theorem dX6_following_2 : decode cX6_following 2 = .ok (.iconst 0, 1) := by decide +kernel
theorem dX6_following_3 : decode cX6_following 3 = .ok (.istore_n 3, 1) := by decide +kernel
theorem dX6_following_4 : decode cX6_following 4 = .ok (.iload_n 3, 1) := by decide +kernel
theorem dX6_following_5 : decode cX6_following 5 = .ok (.aload_n 0, 1) := by decide +kernel
theorem dX6_following_6 : decode cX6_following 6 = .ok (.getfield 85, 3) := by decide +kernel
theorem dX6_following_9 : decode cX6_following 9 = .ok (.if_icmp .ge 31, 3) := by decide +kernel
theorem dX6_following_12 : decode cX6_following 12 = .ok (.iload_n 2, 1) := by decide +kernel
theorem dX6_following_13 : decode cX6_following 13 = .ok (.aload_n 0, 1) := by decide +kernel
theorem dX6_following_14 : decode cX6_following 14 = .ok (.iload_n 3, 1) := by decide +kernel
theorem dX6_following_15 : decode cX6_following 15 = .ok (.invokevirtual 99, 3) := by decide +kernel
theorem dX6_following_18 : decode cX6_following 18 = .ok (.iload_n 1, 1) := by decide +kernel
theorem dX6_following_19 : decode cX6_following 19 = .ok (.invokestatic 95, 3) := by decide +kernel
theorem dX6_following_22 : decode cX6_following 22 = .ok (.ifCond .eq 9, 3) := by decide +kernel
theorem dX6_following_25 : decode cX6_following 25 = .ok (.iconst 1, 1) := by decide +kernel
theorem dX6_following_26 : decode cX6_following 26 = .ok (.iload_n 3, 1) := by decide +kernel
theorem dX6_following_27 : decode cX6_following 27 = .ok (.ishl, 1) := by decide +kernel
theorem dX6_following_28 : decode cX6_following 28 = .ok (.goto 4, 3) := by decide +kernel
theorem dX6_following_31 : decode cX6_following 31 = .ok (.iconst 0, 1) := by decide +kernel
theorem dX6_following_32 : decode cX6_following 32 = .ok (.ior, 1) := by decide +kernel
theorem dX6_following_33 : decode cX6_following 33 = .ok (.istore_n 2, 1) := by decide +kernel
theorem dX6_following_34 : decode cX6_following 34 = .ok (.iinc 3 1, 3) := by decide +kernel
theorem dX6_following_37 : decode cX6_following 37 = .ok (.goto (-33), 3) := by decide +kernel
theorem dX6_following_40 : decode cX6_following 40 = .ok (.iload_n 2, 1) := by decide +kernel
theorem dX6_following_41 : decode cX6_following 41 = .ok (.ireturn, 1) := by decide +kernel
set_option maxRecDepth 20000 in
set_option maxRecDepth 20000 in
theorem ggX6_findRing_X6_in : GoodIn wsX6_findRing wsX6_in := goodIn_r _ [9] rfl (by decide +kernel)
set_option maxRecDepth 20000 in
theorem gX6_findRing_X6_in : GoodIn wsX6_findRing (va_wsS RX6 95 yX6_in wsX6_in) := goodIn_app (goodIn_of _ (by decide +kernel)) ggX6_findRing_X6_in
theorem dX6_findRing_0 : decode cX6_findRing 0 = .ok (.iconst 0, 1) := by decide +kernel
theorem dX6_findRing_1 : decode cX6_findRing 1 = .ok (.istore_n 3, 1) := by decide +kernel
theorem dX6_findRing_2 : decode cX6_findRing 2 = .ok (.iload_n 3, 1) := by decide +kernel
theorem dX6_findRing_3 : decode cX6_findRing 3 = .ok (.aload_n 0, 1) := by decide +kernel
theorem dX6_findRing_4 : decode cX6_findRing 4 = .ok (.getfield 85, 3) := by decide +kernel
theorem dX6_findRing_7 : decode cX6_findRing 7 = .ok (.if_icmp .ge 25, 3) := by decide +kernel
theorem dX6_findRing_10 : decode cX6_findRing 10 = .ok (.aload_n 0, 1) := by decide +kernel
theorem dX6_findRing_11 : decode cX6_findRing 11 = .ok (.getfield 50, 3) := by decide +kernel
theorem dX6_findRing_14 : decode cX6_findRing 14 = .ok (.iload_n 3, 1) := by decide +kernel
theorem dX6_findRing_15 : decode cX6_findRing 15 = .ok (.iload_n 3, 1) := by decide +kernel
theorem dX6_findRing_16 : decode cX6_findRing 16 = .ok (.iload_n 1, 1) := by decide +kernel
theorem dX6_findRing_17 : decode cX6_findRing 17 = .ok (.if_icmp .ne 7, 3) := by decide +kernel
theorem dX6_findRing_20 : decode cX6_findRing 20 = .ok (.iconst 0, 1) := by decide +kernel
theorem dX6_findRing_21 : decode cX6_findRing 21 = .ok (.goto 4, 3) := by decide +kernel
theorem dX6_findRing_24 : decode cX6_findRing 24 = .ok (.iconst (-1), 1) := by decide +kernel
theorem dX6_findRing_25 : decode cX6_findRing 25 = .ok (.iastore, 1) := by decide +kernel
theorem dX6_findRing_26 : decode cX6_findRing 26 = .ok (.iinc 3 1, 3) := by decide +kernel
theorem dX6_findRing_29 : decode cX6_findRing 29 = .ok (.goto (-27), 3) := by decide +kernel
theorem dX6_findRing_32 : decode cX6_findRing 32 = .ok (.iconst 1, 1) := by decide +kernel
theorem dX6_findRing_33 : decode cX6_findRing 33 = .ok (.istore_n 3, 1) := by decide +kernel
theorem dX6_findRing_34 : decode cX6_findRing 34 = .ok (.iload_n 3, 1) := by decide +kernel
theorem dX6_findRing_35 : decode cX6_findRing 35 = .ok (.aload_n 0, 1) := by decide +kernel
theorem dX6_findRing_36 : decode cX6_findRing 36 = .ok (.getfield 85, 3) := by decide +kernel
theorem dX6_findRing_39 : decode cX6_findRing 39 = .ok (.if_icmp .gt 101, 3) := by decide +kernel
theorem dX6_findRing_42 : decode cX6_findRing 42 = .ok (.iconst 0, 1) := by decide +kernel
theorem dX6_findRing_43 : decode cX6_findRing 43 = .ok (.istore 4, 2) := by decide +kernel
theorem dX6_findRing_45 : decode cX6_findRing 45 = .ok (.iload 4, 2) := by decide +kernel
theorem dX6_findRing_47 : decode cX6_findRing 47 = .ok (.aload_n 0, 1) := by decide +kernel
theorem dX6_findRing_48 : decode cX6_findRing 48 = .ok (.getfield 85, 3) := by decide +kernel
theorem dX6_findRing_51 : decode cX6_findRing 51 = .ok (.if_icmp .ge 83, 3) := by decide +kernel
theorem dX6_findRing_54 : decode cX6_findRing 54 = .ok (.iconst 0, 1) := by decide +kernel
theorem dX6_findRing_55 : decode cX6_findRing 55 = .ok (.istore 5, 2) := by decide +kernel
theorem dX6_findRing_57 : decode cX6_findRing 57 = .ok (.iload 5, 2) := by decide +kernel
theorem dX6_findRing_59 : decode cX6_findRing 59 = .ok (.aload_n 0, 1) := by decide +kernel
theorem dX6_findRing_60 : decode cX6_findRing 60 = .ok (.getfield 85, 3) := by decide +kernel
theorem dX6_findRing_63 : decode cX6_findRing 63 = .ok (.if_icmp .ge 65, 3) := by decide +kernel
theorem dX6_findRing_66 : decode cX6_findRing 66 = .ok (.aload_n 0, 1) := by decide +kernel
theorem dX6_findRing_67 : decode cX6_findRing 67 = .ok (.getfield 50, 3) := by decide +kernel
theorem dX6_findRing_70 : decode cX6_findRing 70 = .ok (.iload 4, 2) := by decide +kernel
theorem dX6_findRing_72 : decode cX6_findRing 72 = .ok (.iaload, 1) := by decide +kernel
theorem dX6_findRing_73 : decode cX6_findRing 73 = .ok (.ifCond .ge 55, 3) := by decide +kernel
theorem dX6_findRing_76 : decode cX6_findRing 76 = .ok (.aload_n 0, 1) := by decide +kernel
theorem dX6_findRing_77 : decode cX6_findRing 77 = .ok (.getfield 50, 3) := by decide +kernel
theorem dX6_findRing_80 : decode cX6_findRing 80 = .ok (.iload 4, 2) := by decide +kernel
theorem dX6_findRing_82 : decode cX6_findRing 82 = .ok (.aload_n 0, 1) := by decide +kernel
theorem dX6_findRing_83 : decode cX6_findRing 83 = .ok (.getfield 16, 3) := by decide +kernel
theorem dX6_findRing_86 : decode cX6_findRing 86 = .ok (.iload 5, 2) := by decide +kernel
theorem dX6_findRing_88 : decode cX6_findRing 88 = .ok (.iaload, 1) := by decide +kernel
theorem dX6_findRing_89 : decode cX6_findRing 89 = .ok (.iload 4, 2) := by decide +kernel
theorem dX6_findRing_91 : decode cX6_findRing 91 = .ok (.invokestatic 95, 3) := by decide +kernel
theorem dX6_findRing_94 : decode cX6_findRing 94 = .ok (.ifCond .eq 20, 3) := by decide +kernel
theorem dX6_findRing_97 : decode cX6_findRing 97 = .ok (.aload_n 0, 1) := by decide +kernel
theorem dX6_findRing_98 : decode cX6_findRing 98 = .ok (.getfield 50, 3) := by decide +kernel
theorem dX6_findRing_101 : decode cX6_findRing 101 = .ok (.iload 5, 2) := by decide +kernel
theorem dX6_findRing_103 : decode cX6_findRing 103 = .ok (.iaload, 1) := by decide +kernel
theorem dX6_findRing_104 : decode cX6_findRing 104 = .ok (.iload_n 3, 1) := by decide +kernel
theorem dX6_findRing_105 : decode cX6_findRing 105 = .ok (.iconst 1, 1) := by decide +kernel
theorem dX6_findRing_106 : decode cX6_findRing 106 = .ok (.isub, 1) := by decide +kernel
theorem dX6_findRing_107 : decode cX6_findRing 107 = .ok (.if_icmp .ne 7, 3) := by decide +kernel
theorem dX6_findRing_110 : decode cX6_findRing 110 = .ok (.iload_n 3, 1) := by decide +kernel
theorem dX6_findRing_111 : decode cX6_findRing 111 = .ok (.goto 10, 3) := by decide +kernel
theorem dX6_findRing_114 : decode cX6_findRing 114 = .ok (.aload_n 0, 1) := by decide +kernel
theorem dX6_findRing_115 : decode cX6_findRing 115 = .ok (.getfield 50, 3) := by decide +kernel
theorem dX6_findRing_118 : decode cX6_findRing 118 = .ok (.iload 4, 2) := by decide +kernel
theorem dX6_findRing_120 : decode cX6_findRing 120 = .ok (.iaload, 1) := by decide +kernel
theorem dX6_findRing_121 : decode cX6_findRing 121 = .ok (.iastore, 1) := by decide +kernel
theorem dX6_findRing_122 : decode cX6_findRing 122 = .ok (.iinc 5 1, 3) := by decide +kernel
theorem dX6_findRing_125 : decode cX6_findRing 125 = .ok (.goto (-68), 3) := by decide +kernel
theorem dX6_findRing_128 : decode cX6_findRing 128 = .ok (.iinc 4 1, 3) := by decide +kernel
theorem dX6_findRing_131 : decode cX6_findRing 131 = .ok (.goto (-86), 3) := by decide +kernel
theorem dX6_findRing_134 : decode cX6_findRing 134 = .ok (.iinc 3 1, 3) := by decide +kernel
theorem dX6_findRing_137 : decode cX6_findRing 137 = .ok (.goto (-103), 3) := by decide +kernel
theorem dX6_findRing_140 : decode cX6_findRing 140 = .ok (.aload_n 0, 1) := by decide +kernel
theorem dX6_findRing_141 : decode cX6_findRing 141 = .ok (.iconst 1, 1) := by decide +kernel
theorem dX6_findRing_142 : decode cX6_findRing 142 = .ok (.putfield 103, 3) := by decide +kernel
theorem dX6_findRing_145 : decode cX6_findRing 145 = .ok (.aload_n 0, 1) := by decide +kernel
theorem dX6_findRing_146 : decode cX6_findRing 146 = .ok (.getfield 32, 3) := by decide +kernel
theorem dX6_findRing_149 : decode cX6_findRing 149 = .ok (.iconst 0, 1) := by decide +kernel
theorem dX6_findRing_150 : decode cX6_findRing 150 = .ok (.iload_n 1, 1) := by decide +kernel
theorem dX6_findRing_151 : decode cX6_findRing 151 = .ok (.iastore, 1) := by decide +kernel
theorem dX6_findRing_152 : decode cX6_findRing 152 = .ok (.iload_n 2, 1) := by decide +kernel
theorem dX6_findRing_153 : decode cX6_findRing 153 = .ok (.istore_n 3, 1) := by decide +kernel
theorem dX6_findRing_154 : decode cX6_findRing 154 = .ok (.iload_n 3, 1) := by decide +kernel
theorem dX6_findRing_155 : decode cX6_findRing 155 = .ok (.iload_n 1, 1) := by decide +kernel
theorem dX6_findRing_156 : decode cX6_findRing 156 = .ok (.if_icmp .eq 70, 3) := by decide +kernel
theorem dX6_findRing_159 : decode cX6_findRing 159 = .ok (.aload_n 0, 1) := by decide +kernel
theorem dX6_findRing_160 : decode cX6_findRing 160 = .ok (.getfield 32, 3) := by decide +kernel
theorem dX6_findRing_163 : decode cX6_findRing 163 = .ok (.aload_n 0, 1) := by decide +kernel
theorem dX6_findRing_164 : decode cX6_findRing 164 = .ok (.getfield 103, 3) := by decide +kernel
theorem dX6_findRing_167 : decode cX6_findRing 167 = .ok (.iload_n 3, 1) := by decide +kernel
theorem dX6_findRing_168 : decode cX6_findRing 168 = .ok (.iastore, 1) := by decide +kernel
theorem dX6_findRing_169 : decode cX6_findRing 169 = .ok (.aload_n 0, 1) := by decide +kernel
theorem dX6_findRing_170 : decode cX6_findRing 170 = .ok (.dup, 1) := by decide +kernel
theorem dX6_findRing_171 : decode cX6_findRing 171 = .ok (.getfield 103, 3) := by decide +kernel
theorem dX6_findRing_174 : decode cX6_findRing 174 = .ok (.iconst 1, 1) := by decide +kernel
theorem dX6_findRing_175 : decode cX6_findRing 175 = .ok (.iadd, 1) := by decide +kernel
theorem dX6_findRing_176 : decode cX6_findRing 176 = .ok (.putfield 103, 3) := by decide +kernel
theorem dX6_findRing_179 : decode cX6_findRing 179 = .ok (.iconst 0, 1) := by decide +kernel
theorem dX6_findRing_180 : decode cX6_findRing 180 = .ok (.istore 4, 2) := by decide +kernel
theorem dX6_findRing_182 : decode cX6_findRing 182 = .ok (.aload_n 0, 1) := by decide +kernel
theorem dX6_findRing_183 : decode cX6_findRing 183 = .ok (.getfield 16, 3) := by decide +kernel
theorem dX6_findRing_186 : decode cX6_findRing 186 = .ok (.iload 4, 2) := by decide +kernel
theorem dX6_findRing_188 : decode cX6_findRing 188 = .ok (.iaload, 1) := by decide +kernel
theorem dX6_findRing_189 : decode cX6_findRing 189 = .ok (.iload_n 3, 1) := by decide +kernel
theorem dX6_findRing_190 : decode cX6_findRing 190 = .ok (.invokestatic 95, 3) := by decide +kernel
theorem dX6_findRing_193 : decode cX6_findRing 193 = .ok (.ifCond .eq 21, 3) := by decide +kernel
theorem dX6_findRing_196 : decode cX6_findRing 196 = .ok (.aload_n 0, 1) := by decide +kernel
theorem dX6_findRing_197 : decode cX6_findRing 197 = .ok (.getfield 50, 3) := by decide +kernel
theorem dX6_findRing_200 : decode cX6_findRing 200 = .ok (.iload 4, 2) := by decide +kernel
theorem dX6_findRing_202 : decode cX6_findRing 202 = .ok (.iaload, 1) := by decide +kernel
theorem dX6_findRing_203 : decode cX6_findRing 203 = .ok (.aload_n 0, 1) := by decide +kernel
theorem dX6_findRing_204 : decode cX6_findRing 204 = .ok (.getfield 50, 3) := by decide +kernel
theorem dX6_findRing_207 : decode cX6_findRing 207 = .ok (.iload_n 3, 1) := by decide +kernel
theorem dX6_findRing_208 : decode cX6_findRing 208 = .ok (.iaload, 1) := by decide +kernel
theorem dX6_findRing_209 : decode cX6_findRing 209 = .ok (.iconst 1, 1) := by decide +kernel
theorem dX6_findRing_210 : decode cX6_findRing 210 = .ok (.isub, 1) := by decide +kernel
theorem dX6_findRing_211 : decode cX6_findRing 211 = .ok (.if_icmp .eq 9, 3) := by decide +kernel
theorem dX6_findRing_214 : decode cX6_findRing 214 = .ok (.iinc 4 1, 3) := by decide +kernel
theorem dX6_findRing_217 : decode cX6_findRing 217 = .ok (.goto (-35), 3) := by decide +kernel
theorem dX6_findRing_220 : decode cX6_findRing 220 = .ok (.iload 4, 2) := by decide +kernel
theorem dX6_findRing_222 : decode cX6_findRing 222 = .ok (.istore_n 3, 1) := by decide +kernel
theorem dX6_findRing_223 : decode cX6_findRing 223 = .ok (.goto (-69), 3) := by decide +kernel
theorem dX6_findRing_226 : decode cX6_findRing 226 = .ok (.return_, 1) := by decide +kernel
set_option maxRecDepth 20000 in
set_option maxRecDepth 20000 in
theorem ggX6_ahead_X6_isTask : GoodIn wsX6_ahead wsX6_isTask := goodIn_r _ [6, 7, 22, 23, 24, 25, 26, 27, 28, 29, 30, 31, 32, 33, 34, 35, 36, 37, 38, 39, 40, 41, 42, 43, 44, 45, 46, 47, 48, 49, 50] rfl (by decide +kernel)
set_option maxRecDepth 20000 in
theorem gX6_ahead_X6_isTask : GoodIn wsX6_ahead (wsV RX6 88 RX6 yX6_isTask wsX6_isTask) := goodIn_app (goodIn_of _ (by decide +kernel)) ggX6_ahead_X6_isTask
set_option maxRecDepth 20000 in
set_option maxRecDepth 20000 in
theorem ggX6_ahead_X6_leading : GoodIn wsX6_ahead wsX6_leading := goodIn_r _ [11, 1, 7, 12, 13, 5, 14, 22, 23, 24, 25, 26, 27, 28, 29, 30, 31, 32, 33, 34, 35, 36, 37, 38, 39, 40, 41, 42, 43, 44, 45, 46, 47, 48, 49, 50] rfl (by decide +kernel)
set_option maxRecDepth 20000 in
theorem gX6_ahead_X6_leading : GoodIn wsX6_ahead (wsV RX6 99 RX6 yX6_leading wsX6_leading) := goodIn_app (goodIn_of _ (by decide +kernel)) ggX6_ahead_X6_leading
set_option maxRecDepth 20000 in
set_option maxRecDepth 20000 in
theorem ggX6_ahead_X6_in : GoodIn wsX6_ahead wsX6_in := goodIn_r _ [14] rfl (by decide +kernel)
set_option maxRecDepth 20000 in
theorem gX6_ahead_X6_in : GoodIn wsX6_ahead (va_wsS RX6 95 yX6_in wsX6_in) := goodIn_app (goodIn_of _ (by decide +kernel)) ggX6_ahead_X6_in
set_option maxRecDepth 20000 in
set_option maxRecDepth 20000 in
theorem ggX6_ahead_X6_findRing : GoodIn wsX6_ahead wsX6_findRing := goodIn_r _ [18, 7, 19, 1, 20, 21, 12, 13, 5, 14, 22, 23, 24, 25, 26, 27, 28, 29, 30, 31, 32, 33, 34, 35, 36, 37, 38, 39, 40, 41, 42, 43, 44, 45, 46, 47, 48, 49, 50] rfl (by decide +kernel)
set_option maxRecDepth 20000 in
theorem gX6_ahead_X6_findRing : GoodIn wsX6_ahead (wsV RX6 106 RX6 yX6_findRing wsX6_findRing) := goodIn_app (goodIn_of _ (by decide +kernel)) ggX6_ahead_X6_findRing
theorem dX6_ahead_0 : decode cX6_ahead 0 = .ok (.aload_n 0, 1) := by decide +kernel
theorem dX6_ahead_1 : decode cX6_ahead 1 = .ok (.iload_n 1, 1) := by decide +kernel
theorem dX6_ahead_2 : decode cX6_ahead 2 = .ok (.invokevirtual 88, 3) := by decide +kernel
theorem dX6_ahead_5 : decode cX6_ahead 5 = .ok (.ifCond .eq 11, 3) := by decide +kernel
theorem dX6_ahead_8 : decode cX6_ahead 8 = .ok (.aload_n 0, 1) := by decide +kernel
theorem dX6_ahead_9 : decode cX6_ahead 9 = .ok (.iload_n 2, 1) := by decide +kernel
theorem dX6_ahead_10 : decode cX6_ahead 10 = .ok (.invokevirtual 88, 3) := by decide +kernel
theorem dX6_ahead_13 : decode cX6_ahead 13 = .ok (.ifCond .ne 6, 3) := by decide +kernel
theorem dX6_ahead_16 : decode cX6_ahead 16 = .ok (.bipush (-2), 2) := by decide +kernel
theorem dX6_ahead_18 : decode cX6_ahead 18 = .ok (.ireturn, 1) := by decide +kernel
theorem dX6_ahead_19 : decode cX6_ahead 19 = .ok (.iload_n 1, 1) := by decide +kernel
theorem dX6_ahead_20 : decode cX6_ahead 20 = .ok (.iload_n 2, 1) := by decide +kernel
theorem dX6_ahead_21 : decode cX6_ahead 21 = .ok (.if_icmp .eq 15, 3) := by decide +kernel
theorem dX6_ahead_24 : decode cX6_ahead 24 = .ok (.aload_n 0, 1) := by decide +kernel
theorem dX6_ahead_25 : decode cX6_ahead 25 = .ok (.iload_n 1, 1) := by decide +kernel
theorem dX6_ahead_26 : decode cX6_ahead 26 = .ok (.invokevirtual 99, 3) := by decide +kernel
theorem dX6_ahead_29 : decode cX6_ahead 29 = .ok (.iload_n 2, 1) := by decide +kernel
theorem dX6_ahead_30 : decode cX6_ahead 30 = .ok (.invokestatic 95, 3) := by decide +kernel
theorem dX6_ahead_33 : decode cX6_ahead 33 = .ok (.ifCond .eq 12, 3) := by decide +kernel
theorem dX6_ahead_36 : decode cX6_ahead 36 = .ok (.aload_n 0, 1) := by decide +kernel
theorem dX6_ahead_37 : decode cX6_ahead 37 = .ok (.iload_n 1, 1) := by decide +kernel
theorem dX6_ahead_38 : decode cX6_ahead 38 = .ok (.iload_n 2, 1) := by decide +kernel
theorem dX6_ahead_39 : decode cX6_ahead 39 = .ok (.invokevirtual 106, 3) := by decide +kernel
theorem dX6_ahead_42 : decode cX6_ahead 42 = .ok (.bipush (-3), 2) := by decide +kernel
theorem dX6_ahead_44 : decode cX6_ahead 44 = .ok (.ireturn, 1) := by decide +kernel
theorem dX6_ahead_45 : decode cX6_ahead 45 = .ok (.aload_n 0, 1) := by decide +kernel
theorem dX6_ahead_46 : decode cX6_ahead 46 = .ok (.getfield 16, 3) := by decide +kernel
theorem dX6_ahead_49 : decode cX6_ahead 49 = .ok (.iload_n 2, 1) := by decide +kernel
theorem dX6_ahead_50 : decode cX6_ahead 50 = .ok (.iaload, 1) := by decide +kernel
theorem dX6_ahead_51 : decode cX6_ahead 51 = .ok (.iload_n 1, 1) := by decide +kernel
theorem dX6_ahead_52 : decode cX6_ahead 52 = .ok (.invokestatic 95, 3) := by decide +kernel
theorem dX6_ahead_55 : decode cX6_ahead 55 = .ok (.ifCond .eq 7, 3) := by decide +kernel
theorem dX6_ahead_58 : decode cX6_ahead 58 = .ok (.iconst 0, 1) := by decide +kernel
theorem dX6_ahead_59 : decode cX6_ahead 59 = .ok (.goto 4, 3) := by decide +kernel
theorem dX6_ahead_62 : decode cX6_ahead 62 = .ok (.iconst 1, 1) := by decide +kernel
theorem dX6_ahead_63 : decode cX6_ahead 63 = .ok (.istore_n 3, 1) := by decide +kernel
theorem dX6_ahead_64 : decode cX6_ahead 64 = .ok (.aload_n 0, 1) := by decide +kernel
theorem dX6_ahead_65 : decode cX6_ahead 65 = .ok (.getfield 16, 3) := by decide +kernel
theorem dX6_ahead_68 : decode cX6_ahead 68 = .ok (.iload_n 2, 1) := by decide +kernel
theorem dX6_ahead_69 : decode cX6_ahead 69 = .ok (.dup2, 1) := by decide +kernel
theorem dX6_ahead_70 : decode cX6_ahead 70 = .ok (.iaload, 1) := by decide +kernel
theorem dX6_ahead_71 : decode cX6_ahead 71 = .ok (.iconst 1, 1) := by decide +kernel
theorem dX6_ahead_72 : decode cX6_ahead 72 = .ok (.iload_n 1, 1) := by decide +kernel
theorem dX6_ahead_73 : decode cX6_ahead 73 = .ok (.ishl, 1) := by decide +kernel
theorem dX6_ahead_74 : decode cX6_ahead 74 = .ok (.ior, 1) := by decide +kernel
theorem dX6_ahead_75 : decode cX6_ahead 75 = .ok (.iastore, 1) := by decide +kernel
theorem dX6_ahead_76 : decode cX6_ahead 76 = .ok (.iload_n 3, 1) := by decide +kernel
theorem dX6_ahead_77 : decode cX6_ahead 77 = .ok (.ireturn, 1) := by decide +kernel
set_option maxRecDepth 20000 in
set_option maxRecDepth 20000 in
theorem ggX6_free_X6_isTask : GoodIn wsX6_free wsX6_isTask := goodIn_r _ [6, 7, 11, 12, 13, 14, 15, 16, 17, 18, 19, 20, 21, 22, 23, 24, 25, 26, 27, 28, 29, 30, 31, 32, 33, 34, 35, 36, 37, 38, 39] rfl (by decide +kernel)
set_option maxRecDepth 20000 in
theorem gX6_free_X6_isTask : GoodIn wsX6_free (wsV RX6 88 RX6 yX6_isTask wsX6_isTask) := goodIn_app (goodIn_of _ (by decide +kernel)) ggX6_free_X6_isTask
set_option maxRecDepth 20000 in
set_option maxRecDepth 20000 in
theorem ggX6_free_X6_in : GoodIn wsX6_free wsX6_in := goodIn_r _ [10] rfl (by decide +kernel)
set_option maxRecDepth 20000 in
theorem gX6_free_X6_in : GoodIn wsX6_free (va_wsS RX6 95 yX6_in wsX6_in) := goodIn_app (goodIn_of _ (by decide +kernel)) ggX6_free_X6_in
theorem dX6_free_0 : decode cX6_free 0 = .ok (.aload_n 0, 1) := by decide +kernel
theorem dX6_free_1 : decode cX6_free 1 = .ok (.iload_n 1, 1) := by decide +kernel
theorem dX6_free_2 : decode cX6_free 2 = .ok (.invokevirtual 88, 3) := by decide +kernel
theorem dX6_free_5 : decode cX6_free 5 = .ok (.ifCond .eq 11, 3) := by decide +kernel
theorem dX6_free_8 : decode cX6_free 8 = .ok (.aload_n 0, 1) := by decide +kernel
theorem dX6_free_9 : decode cX6_free 9 = .ok (.iload_n 2, 1) := by decide +kernel
theorem dX6_free_10 : decode cX6_free 10 = .ok (.invokevirtual 88, 3) := by decide +kernel
theorem dX6_free_13 : decode cX6_free 13 = .ok (.ifCond .ne 6, 3) := by decide +kernel
theorem dX6_free_16 : decode cX6_free 16 = .ok (.bipush (-2), 2) := by decide +kernel
theorem dX6_free_18 : decode cX6_free 18 = .ok (.ireturn, 1) := by decide +kernel
theorem dX6_free_19 : decode cX6_free 19 = .ok (.aload_n 0, 1) := by decide +kernel
theorem dX6_free_20 : decode cX6_free 20 = .ok (.getfield 16, 3) := by decide +kernel
theorem dX6_free_23 : decode cX6_free 23 = .ok (.iload_n 2, 1) := by decide +kernel
theorem dX6_free_24 : decode cX6_free 24 = .ok (.iaload, 1) := by decide +kernel
theorem dX6_free_25 : decode cX6_free 25 = .ok (.iload_n 1, 1) := by decide +kernel
theorem dX6_free_26 : decode cX6_free 26 = .ok (.invokestatic 95, 3) := by decide +kernel
theorem dX6_free_29 : decode cX6_free 29 = .ok (.ifCond .eq 7, 3) := by decide +kernel
theorem dX6_free_32 : decode cX6_free 32 = .ok (.iconst 1, 1) := by decide +kernel
theorem dX6_free_33 : decode cX6_free 33 = .ok (.goto 4, 3) := by decide +kernel
theorem dX6_free_36 : decode cX6_free 36 = .ok (.iconst 0, 1) := by decide +kernel
theorem dX6_free_37 : decode cX6_free 37 = .ok (.istore_n 3, 1) := by decide +kernel
theorem dX6_free_38 : decode cX6_free 38 = .ok (.aload_n 0, 1) := by decide +kernel
theorem dX6_free_39 : decode cX6_free 39 = .ok (.getfield 16, 3) := by decide +kernel
theorem dX6_free_42 : decode cX6_free 42 = .ok (.iload_n 2, 1) := by decide +kernel
theorem dX6_free_43 : decode cX6_free 43 = .ok (.dup2, 1) := by decide +kernel
theorem dX6_free_44 : decode cX6_free 44 = .ok (.iaload, 1) := by decide +kernel
theorem dX6_free_45 : decode cX6_free 45 = .ok (.iconst 1, 1) := by decide +kernel
theorem dX6_free_46 : decode cX6_free 46 = .ok (.iload_n 1, 1) := by decide +kernel
theorem dX6_free_47 : decode cX6_free 47 = .ok (.ishl, 1) := by decide +kernel
theorem dX6_free_48 : decode cX6_free 48 = .ok (.iconst (-1), 1) := by decide +kernel
theorem dX6_free_49 : decode cX6_free 49 = .ok (.ixor, 1) := by decide +kernel
theorem dX6_free_50 : decode cX6_free 50 = .ok (.iand, 1) := by decide +kernel
theorem dX6_free_51 : decode cX6_free 51 = .ok (.iastore, 1) := by decide +kernel
theorem dX6_free_52 : decode cX6_free 52 = .ok (.iload_n 3, 1) := by decide +kernel
theorem dX6_free_53 : decode cX6_free 53 = .ok (.ireturn, 1) := by decide +kernel
theorem dX6_ring_0 : decode cX6_ring 0 = .ok (.iload_n 1, 1) := by decide +kernel
theorem dX6_ring_1 : decode cX6_ring 1 = .ok (.ifCond .lt 11, 3) := by decide +kernel
theorem dX6_ring_4 : decode cX6_ring 4 = .ok (.iload_n 1, 1) := by decide +kernel
theorem dX6_ring_5 : decode cX6_ring 5 = .ok (.aload_n 0, 1) := by decide +kernel
theorem dX6_ring_6 : decode cX6_ring 6 = .ok (.getfield 103, 3) := by decide +kernel
theorem dX6_ring_9 : decode cX6_ring 9 = .ok (.if_icmp .lt 8, 3) := by decide +kernel
theorem dX6_ring_12 : decode cX6_ring 12 = .ok (.bipush (-4), 2) := by decide +kernel
theorem dX6_ring_14 : decode cX6_ring 14 = .ok (.goto 9, 3) := by decide +kernel
theorem dX6_ring_17 : decode cX6_ring 17 = .ok (.aload_n 0, 1) := by decide +kernel
theorem dX6_ring_18 : decode cX6_ring 18 = .ok (.getfield 32, 3) := by decide +kernel
theorem dX6_ring_21 : decode cX6_ring 21 = .ok (.iload_n 1, 1) := by decide +kernel
theorem dX6_ring_22 : decode cX6_ring 22 = .ok (.iaload, 1) := by decide +kernel
theorem dX6_ring_23 : decode cX6_ring 23 = .ok (.ireturn, 1) := by decide +kernel
set_option maxRecDepth 20000 in
set_option maxRecDepth 20000 in
theorem ggX6_pair_X6_isTask : GoodIn wsX6_pair wsX6_isTask := goodIn_r _ [6, 7, 8, 9, 10, 11, 12, 13, 14, 15, 16, 17, 18, 19, 20, 21, 22, 23, 24, 25, 26, 27, 28, 29, 30, 31, 32, 33, 34, 35, 36] rfl (by decide +kernel)
set_option maxRecDepth 20000 in
theorem gX6_pair_X6_isTask : GoodIn wsX6_pair (wsV RX6 88 RX6 yX6_isTask wsX6_isTask) := goodIn_app (goodIn_of _ (by decide +kernel)) ggX6_pair_X6_isTask
theorem dX6_pair_0 : decode cX6_pair 0 = .ok (.aload_n 0, 1) := by decide +kernel
theorem dX6_pair_1 : decode cX6_pair 1 = .ok (.iload_n 1, 1) := by decide +kernel
theorem dX6_pair_2 : decode cX6_pair 2 = .ok (.invokevirtual 88, 3) := by decide +kernel
theorem dX6_pair_5 : decode cX6_pair 5 = .ok (.ifCond .eq 25, 3) := by decide +kernel
theorem dX6_pair_8 : decode cX6_pair 8 = .ok (.aload_n 0, 1) := by decide +kernel
theorem dX6_pair_9 : decode cX6_pair 9 = .ok (.iload_n 2, 1) := by decide +kernel
theorem dX6_pair_10 : decode cX6_pair 10 = .ok (.invokevirtual 88, 3) := by decide +kernel
theorem dX6_pair_13 : decode cX6_pair 13 = .ok (.ifCond .eq 17, 3) := by decide +kernel
theorem dX6_pair_16 : decode cX6_pair 16 = .ok (.iload_n 1, 1) := by decide +kernel
theorem dX6_pair_17 : decode cX6_pair 17 = .ok (.iload_n 2, 1) := by decide +kernel
theorem dX6_pair_18 : decode cX6_pair 18 = .ok (.if_icmp .eq 12, 3) := by decide +kernel
theorem dX6_pair_21 : decode cX6_pair 21 = .ok (.iload_n 3, 1) := by decide +kernel
theorem dX6_pair_22 : decode cX6_pair 22 = .ok (.ifCond .lt 8, 3) := by decide +kernel
theorem dX6_pair_25 : decode cX6_pair 25 = .ok (.iload_n 3, 1) := by decide +kernel
theorem dX6_pair_26 : decode cX6_pair 26 = .ok (.iconst 2, 1) := by decide +kernel
theorem dX6_pair_27 : decode cX6_pair 27 = .ok (.if_icmp .le 6, 3) := by decide +kernel
theorem dX6_pair_30 : decode cX6_pair 30 = .ok (.bipush (-2), 2) := by decide +kernel
theorem dX6_pair_32 : decode cX6_pair 32 = .ok (.ireturn, 1) := by decide +kernel
theorem dX6_pair_33 : decode cX6_pair 33 = .ok (.aload_n 0, 1) := by decide +kernel
theorem dX6_pair_34 : decode cX6_pair 34 = .ok (.getfield 19, 3) := by decide +kernel
theorem dX6_pair_37 : decode cX6_pair 37 = .ok (.bipush 10, 2) := by decide +kernel
theorem dX6_pair_39 : decode cX6_pair 39 = .ok (.iload_n 1, 1) := by decide +kernel
theorem dX6_pair_40 : decode cX6_pair 40 = .ok (.imul, 1) := by decide +kernel
theorem dX6_pair_41 : decode cX6_pair 41 = .ok (.iload_n 2, 1) := by decide +kernel
theorem dX6_pair_42 : decode cX6_pair 42 = .ok (.iadd, 1) := by decide +kernel
theorem dX6_pair_43 : decode cX6_pair 43 = .ok (.iaload, 1) := by decide +kernel
theorem dX6_pair_44 : decode cX6_pair 44 = .ok (.istore 4, 2) := by decide +kernel
theorem dX6_pair_46 : decode cX6_pair 46 = .ok (.aload_n 0, 1) := by decide +kernel
theorem dX6_pair_47 : decode cX6_pair 47 = .ok (.getfield 19, 3) := by decide +kernel
theorem dX6_pair_50 : decode cX6_pair 50 = .ok (.bipush 10, 2) := by decide +kernel
theorem dX6_pair_52 : decode cX6_pair 52 = .ok (.iload_n 1, 1) := by decide +kernel
theorem dX6_pair_53 : decode cX6_pair 53 = .ok (.imul, 1) := by decide +kernel
theorem dX6_pair_54 : decode cX6_pair 54 = .ok (.iload_n 2, 1) := by decide +kernel
theorem dX6_pair_55 : decode cX6_pair 55 = .ok (.iadd, 1) := by decide +kernel
theorem dX6_pair_56 : decode cX6_pair 56 = .ok (.iload_n 3, 1) := by decide +kernel
theorem dX6_pair_57 : decode cX6_pair 57 = .ok (.iastore, 1) := by decide +kernel
theorem dX6_pair_58 : decode cX6_pair 58 = .ok (.aload_n 0, 1) := by decide +kernel
theorem dX6_pair_59 : decode cX6_pair 59 = .ok (.getfield 19, 3) := by decide +kernel
theorem dX6_pair_62 : decode cX6_pair 62 = .ok (.bipush 10, 2) := by decide +kernel
theorem dX6_pair_64 : decode cX6_pair 64 = .ok (.iload_n 2, 1) := by decide +kernel
theorem dX6_pair_65 : decode cX6_pair 65 = .ok (.imul, 1) := by decide +kernel
theorem dX6_pair_66 : decode cX6_pair 66 = .ok (.iload_n 1, 1) := by decide +kernel
theorem dX6_pair_67 : decode cX6_pair 67 = .ok (.iadd, 1) := by decide +kernel
theorem dX6_pair_68 : decode cX6_pair 68 = .ok (.iload_n 3, 1) := by decide +kernel
theorem dX6_pair_69 : decode cX6_pair 69 = .ok (.iastore, 1) := by decide +kernel
theorem dX6_pair_70 : decode cX6_pair 70 = .ok (.iload 4, 2) := by decide +kernel
theorem dX6_pair_72 : decode cX6_pair 72 = .ok (.ireturn, 1) := by decide +kernel
