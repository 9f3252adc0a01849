theorem dX7_init_0 : decode cX7_init 0 = .ok (.aload_n 0, 1) := by decide +kernel
theorem dX7_init_1 : decode cX7_init 1 = .ok (.invokespecial 1, 3) := by decide +kernel
theorem dX7_init_4 : decode cX7_init 4 = .ok (.aload_n 0, 1) := by decide +kernel
theorem dX7_init_5 : decode cX7_init 5 = .ok (.sipush 232, 3) := by decide +kernel
theorem dX7_init_8 : decode cX7_init 8 = .ok (.newarray .int, 2) := by decide +kernel
theorem dX7_init_10 : decode cX7_init 10 = .ok (.putfield 7, 3) := by decide +kernel
theorem dX7_init_13 : decode cX7_init 13 = .ok (.aload_n 0, 1) := by decide +kernel
theorem dX7_init_14 : decode cX7_init 14 = .ok (.sipush 1392, 3) := by decide +kernel
theorem dX7_init_17 : decode cX7_init 17 = .ok (.newarray .int, 2) := by decide +kernel
theorem dX7_init_19 : decode cX7_init 19 = .ok (.putfield 13, 3) := by decide +kernel
theorem dX7_init_22 : decode cX7_init 22 = .ok (.aload_n 0, 1) := by decide +kernel
theorem dX7_init_23 : decode cX7_init 23 = .ok (.bipush 60, 2) := by decide +kernel
theorem dX7_init_25 : decode cX7_init 25 = .ok (.newarray .int, 2) := by decide +kernel
theorem dX7_init_27 : decode cX7_init 27 = .ok (.putfield 16, 3) := by decide +kernel
theorem dX7_init_30 : decode cX7_init 30 = .ok (.aload_n 0, 1) := by decide +kernel
theorem dX7_init_31 : decode cX7_init 31 = .ok (.bipush 8, 2) := by decide +kernel
theorem dX7_init_33 : decode cX7_init 33 = .ok (.newarray .int, 2) := by decide +kernel
theorem dX7_init_35 : decode cX7_init 35 = .ok (.putfield 19, 3) := by decide +kernel
theorem dX7_init_38 : decode cX7_init 38 = .ok (.aload_n 0, 1) := by decide +kernel
theorem dX7_init_39 : decode cX7_init 39 = .ok (.bipush 24, 2) := by decide +kernel
theorem dX7_init_41 : decode cX7_init 41 = .ok (.newarray .int, 2) := by decide +kernel
theorem dX7_init_43 : decode cX7_init 43 = .ok (.putfield 22, 3) := by decide +kernel
theorem dX7_init_46 : decode cX7_init 46 = .ok (.aload_n 0, 1) := by decide +kernel
theorem dX7_init_47 : decode cX7_init 47 = .ok (.bipush 24, 2) := by decide +kernel
theorem dX7_init_49 : decode cX7_init 49 = .ok (.newarray .int, 2) := by decide +kernel
theorem dX7_init_51 : decode cX7_init 51 = .ok (.putfield 25, 3) := by decide +kernel
theorem dX7_init_54 : decode cX7_init 54 = .ok (.aload_n 0, 1) := by decide +kernel
theorem dX7_init_55 : decode cX7_init 55 = .ok (.bipush 24, 2) := by decide +kernel
theorem dX7_init_57 : decode cX7_init 57 = .ok (.newarray .int, 2) := by decide +kernel
theorem dX7_init_59 : decode cX7_init 59 = .ok (.putfield 28, 3) := by decide +kernel
theorem dX7_init_62 : decode cX7_init 62 = .ok (.aload_n 0, 1) := by decide +kernel
theorem dX7_init_63 : decode cX7_init 63 = .ok (.bipush 24, 2) := by decide +kernel
theorem dX7_init_65 : decode cX7_init 65 = .ok (.newarray .int, 2) := by decide +kernel
theorem dX7_init_67 : decode cX7_init 67 = .ok (.putfield 31, 3) := by decide +kernel
theorem dX7_init_70 : decode cX7_init 70 = .ok (.aload_n 0, 1) := by decide +kernel
theorem dX7_init_71 : decode cX7_init 71 = .ok (.bipush 96, 2) := by decide +kernel
theorem dX7_init_73 : decode cX7_init 73 = .ok (.newarray .int, 2) := by decide +kernel
theorem dX7_init_75 : decode cX7_init 75 = .ok (.putfield 34, 3) := by decide +kernel
theorem dX7_init_78 : decode cX7_init 78 = .ok (.aload_n 0, 1) := by decide +kernel
theorem dX7_init_79 : decode cX7_init 79 = .ok (.getfield 7, 3) := by decide +kernel
theorem dX7_init_82 : decode cX7_init 82 = .ok (.iconst 0, 1) := by decide +kernel
theorem dX7_init_83 : decode cX7_init 83 = .ok (.sipush 480, 3) := by decide +kernel
theorem dX7_init_86 : decode cX7_init 86 = .ok (.iastore, 1) := by decide +kernel
theorem dX7_init_87 : decode cX7_init 87 = .ok (.aload_n 0, 1) := by decide +kernel
theorem dX7_init_88 : decode cX7_init 88 = .ok (.getfield 7, 3) := by decide +kernel
theorem dX7_init_91 : decode cX7_init 91 = .ok (.iconst 1, 1) := by decide +kernel
theorem dX7_init_92 : decode cX7_init 92 = .ok (.sipush 1380, 3) := by decide +kernel
theorem dX7_init_95 : decode cX7_init 95 = .ok (.iastore, 1) := by decide +kernel
theorem dX7_init_96 : decode cX7_init 96 = .ok (.aload_n 0, 1) := by decide +kernel
theorem dX7_init_97 : decode cX7_init 97 = .ok (.getfield 7, 3) := by decide +kernel
theorem dX7_init_100 : decode cX7_init 100 = .ok (.iconst 2, 1) := by decide +kernel
theorem dX7_init_101 : decode cX7_init 101 = .ok (.bipush 10, 2) := by decide +kernel
theorem dX7_init_103 : decode cX7_init 103 = .ok (.iastore, 1) := by decide +kernel
theorem dX7_init_104 : decode cX7_init 104 = .ok (.aload_n 0, 1) := by decide +kernel
theorem dX7_init_105 : decode cX7_init 105 = .ok (.getfield 7, 3) := by decide +kernel
theorem dX7_init_108 : decode cX7_init 108 = .ok (.iconst 3, 1) := by decide +kernel
theorem dX7_init_109 : decode cX7_init 109 = .ok (.bipush 60, 2) := by decide +kernel
theorem dX7_init_111 : decode cX7_init 111 = .ok (.iastore, 1) := by decide +kernel
theorem dX7_init_112 : decode cX7_init 112 = .ok (.aload_n 0, 1) := by decide +kernel
theorem dX7_init_113 : decode cX7_init 113 = .ok (.getfield 7, 3) := by decide +kernel
theorem dX7_init_116 : decode cX7_init 116 = .ok (.iconst 4, 1) := by decide +kernel
theorem dX7_init_117 : decode cX7_init 117 = .ok (.bipush 20, 2) := by decide +kernel
theorem dX7_init_119 : decode cX7_init 119 = .ok (.iastore, 1) := by decide +kernel
theorem dX7_init_120 : decode cX7_init 120 = .ok (.aload_n 0, 1) := by decide +kernel
theorem dX7_init_121 : decode cX7_init 121 = .ok (.getfield 7, 3) := by decide +kernel
theorem dX7_init_124 : decode cX7_init 124 = .ok (.iconst 5, 1) := by decide +kernel
theorem dX7_init_125 : decode cX7_init 125 = .ok (.bipush 50, 2) := by decide +kernel
theorem dX7_init_127 : decode cX7_init 127 = .ok (.iastore, 1) := by decide +kernel
theorem dX7_init_128 : decode cX7_init 128 = .ok (.aload_n 0, 1) := by decide +kernel
theorem dX7_init_129 : decode cX7_init 129 = .ok (.getfield 7, 3) := by decide +kernel
theorem dX7_init_132 : decode cX7_init 132 = .ok (.bipush 6, 2) := by decide +kernel
theorem dX7_init_134 : decode cX7_init 134 = .ok (.bipush 8, 2) := by decide +kernel
theorem dX7_init_136 : decode cX7_init 136 = .ok (.iastore, 1) := by decide +kernel
theorem dX7_init_137 : decode cX7_init 137 = .ok (.aload_n 0, 1) := by decide +kernel
theorem dX7_init_138 : decode cX7_init 138 = .ok (.getfield 7, 3) := by decide +kernel
theorem dX7_init_141 : decode cX7_init 141 = .ok (.bipush 7, 2) := by decide +kernel
theorem dX7_init_143 : decode cX7_init 143 = .ok (.bipush 120, 2) := by decide +kernel
theorem dX7_init_145 : decode cX7_init 145 = .ok (.iastore, 1) := by decide +kernel
theorem dX7_init_146 : decode cX7_init 146 = .ok (.iconst 0, 1) := by decide +kernel
theorem dX7_init_147 : decode cX7_init 147 = .ok (.istore_n 1, 1) := by decide +kernel
theorem dX7_init_148 : decode cX7_init 148 = .ok (.iload_n 1, 1) := by decide +kernel
theorem dX7_init_149 : decode cX7_init 149 = .ok (.bipush 6, 2) := by decide +kernel
theorem dX7_init_151 : decode cX7_init 151 = .ok (.if_icmp .ge 23, 3) := by decide +kernel
theorem dX7_init_154 : decode cX7_init 154 = .ok (.aload_n 0, 1) := by decide +kernel
theorem dX7_init_155 : decode cX7_init 155 = .ok (.getfield 7, 3) := by decide +kernel
theorem dX7_init_158 : decode cX7_init 158 = .ok (.bipush 8, 2) := by decide +kernel
theorem dX7_init_160 : decode cX7_init 160 = .ok (.iconst 5, 1) := by decide +kernel
theorem dX7_init_161 : decode cX7_init 161 = .ok (.iload_n 1, 1) := by decide +kernel
theorem dX7_init_162 : decode cX7_init 162 = .ok (.imul, 1) := by decide +kernel
theorem dX7_init_163 : decode cX7_init 163 = .ok (.iadd, 1) := by decide +kernel
theorem dX7_init_164 : decode cX7_init 164 = .ok (.sipush 300, 3) := by decide +kernel
theorem dX7_init_167 : decode cX7_init 167 = .ok (.iastore, 1) := by decide +kernel
theorem dX7_init_168 : decode cX7_init 168 = .ok (.iinc 1 1, 3) := by decide +kernel
theorem dX7_init_171 : decode cX7_init 171 = .ok (.goto (-23), 3) := by decide +kernel
theorem dX7_init_174 : decode cX7_init 174 = .ok (.return_, 1) := by decide +kernel
theorem dX7_thrown_0 : decode cX7_thrown 0 = .ok (.aload_n 0, 1) := by decide +kernel
theorem dX7_thrown_1 : decode cX7_thrown 1 = .ok (.getfield 37, 3) := by decide +kernel
theorem dX7_thrown_4 : decode cX7_thrown 4 = .ok (.ireturn, 1) := by decide +kernel
theorem dX7_within_0 : decode cX7_within 0 = .ok (.iload_n 0, 1) := by decide +kernel
theorem dX7_within_1 : decode cX7_within 1 = .ok (.iload_n 1, 1) := by decide +kernel
theorem dX7_within_2 : decode cX7_within 2 = .ok (.if_icmp .lt 12, 3) := by decide +kernel
theorem dX7_within_5 : decode cX7_within 5 = .ok (.iload_n 0, 1) := by decide +kernel
theorem dX7_within_6 : decode cX7_within 6 = .ok (.iload_n 2, 1) := by decide +kernel
theorem dX7_within_7 : decode cX7_within 7 = .ok (.if_icmp .gt 7, 3) := by decide +kernel
theorem dX7_within_10 : decode cX7_within 10 = .ok (.iconst 1, 1) := by decide +kernel
theorem dX7_within_11 : decode cX7_within 11 = .ok (.goto 4, 3) := by decide +kernel
theorem dX7_within_14 : decode cX7_within 14 = .ok (.iconst 0, 1) := by decide +kernel
theorem dX7_within_15 : decode cX7_within 15 = .ok (.ireturn, 1) := by decide +kernel
theorem dX7_of_0 : decode cX7_of 0 = .ok (.aload_n 0, 1) := by decide +kernel
theorem dX7_of_1 : decode cX7_of 1 = .ok (.getfield 7, 3) := by decide +kernel
theorem dX7_of_4 : decode cX7_of 4 = .ok (.bipush 40, 2) := by decide +kernel
theorem dX7_of_6 : decode cX7_of 6 = .ok (.bipush 8, 2) := by decide +kernel
theorem dX7_of_8 : decode cX7_of 8 = .ok (.iload_n 1, 1) := by decide +kernel
theorem dX7_of_9 : decode cX7_of 9 = .ok (.imul, 1) := by decide +kernel
theorem dX7_of_10 : decode cX7_of 10 = .ok (.iadd, 1) := by decide +kernel
theorem dX7_of_11 : decode cX7_of 11 = .ok (.iload_n 2, 1) := by decide +kernel
theorem dX7_of_12 : decode cX7_of 12 = .ok (.iadd, 1) := by decide +kernel
theorem dX7_of_13 : decode cX7_of 13 = .ok (.iaload, 1) := by decide +kernel
theorem dX7_of_14 : decode cX7_of 14 = .ok (.ireturn, 1) := by decide +kernel
theorem dX7_put_0 : decode cX7_put 0 = .ok (.aload_n 0, 1) := by decide +kernel
theorem dX7_put_1 : decode cX7_put 1 = .ok (.getfield 7, 3) := by decide +kernel
theorem dX7_put_4 : decode cX7_put 4 = .ok (.bipush 40, 2) := by decide +kernel
theorem dX7_put_6 : decode cX7_put 6 = .ok (.bipush 8, 2) := by decide +kernel
theorem dX7_put_8 : decode cX7_put 8 = .ok (.iload_n 1, 1) := by decide +kernel
theorem dX7_put_9 : decode cX7_put 9 = .ok (.imul, 1) := by decide +kernel
theorem dX7_put_10 : decode cX7_put 10 = .ok (.iadd, 1) := by decide +kernel
theorem dX7_put_11 : decode cX7_put 11 = .ok (.iload_n 2, 1) := by decide +kernel
theorem dX7_put_12 : decode cX7_put 12 = .ok (.iadd, 1) := by decide +kernel
theorem dX7_put_13 : decode cX7_put 13 = .ok (.iload_n 3, 1) := by decide +kernel
theorem dX7_put_14 : decode cX7_put 14 = .ok (.iastore, 1) := by decide +kernel
theorem dX7_put_15 : decode cX7_put 15 = .ok (.return_, 1) := by decide +kernel
theorem dX7_isShow_0 : decode cX7_isShow 0 = .ok (.iload_n 1, 1) := by decide +kernel
theorem dX7_isShow_1 : decode cX7_isShow 1 = .ok (.iconst 0, 1) := by decide +kernel
theorem dX7_isShow_2 : decode cX7_isShow 2 = .ok (.aload_n 0, 1) := by decide +kernel
theorem dX7_isShow_3 : decode cX7_isShow 3 = .ok (.getfield 7, 3) := by decide +kernel
theorem dX7_isShow_6 : decode cX7_isShow 6 = .ok (.bipush 39, 2) := by decide +kernel
theorem dX7_isShow_8 : decode cX7_isShow 8 = .ok (.iaload, 1) := by decide +kernel
theorem dX7_isShow_9 : decode cX7_isShow 9 = .ok (.iconst 1, 1) := by decide +kernel
theorem dX7_isShow_10 : decode cX7_isShow 10 = .ok (.isub, 1) := by decide +kernel
theorem dX7_isShow_11 : decode cX7_isShow 11 = .ok (.invokestatic 41, 3) := by decide +kernel
theorem dX7_isShow_14 : decode cX7_isShow 14 = .ok (.ireturn, 1) := by decide +kernel
theorem dX7_isGroup_0 : decode cX7_isGroup 0 = .ok (.iload_n 0, 1) := by decide +kernel
theorem dX7_isGroup_1 : decode cX7_isGroup 1 = .ok (.iconst 0, 1) := by decide +kernel
theorem dX7_isGroup_2 : decode cX7_isGroup 2 = .ok (.iconst 5, 1) := by decide +kernel
theorem dX7_isGroup_3 : decode cX7_isGroup 3 = .ok (.invokestatic 41, 3) := by decide +kernel
theorem dX7_isGroup_6 : decode cX7_isGroup 6 = .ok (.ireturn, 1) := by decide +kernel
theorem dX7_isDay_0 : decode cX7_isDay 0 = .ok (.iload_n 0, 1) := by decide +kernel
theorem dX7_isDay_1 : decode cX7_isDay 1 = .ok (.iconst 0, 1) := by decide +kernel
theorem dX7_isDay_2 : decode cX7_isDay 2 = .ok (.bipush 6, 2) := by decide +kernel
theorem dX7_isDay_4 : decode cX7_isDay 4 = .ok (.invokestatic 41, 3) := by decide +kernel
theorem dX7_isDay_7 : decode cX7_isDay 7 = .ok (.ireturn, 1) := by decide +kernel
theorem dX7_isStart_0 : decode cX7_isStart 0 = .ok (.iload_n 0, 1) := by decide +kernel
theorem dX7_isStart_1 : decode cX7_isStart 1 = .ok (.iconst 0, 1) := by decide +kernel
theorem dX7_isStart_2 : decode cX7_isStart 2 = .ok (.sipush 1439, 3) := by decide +kernel
theorem dX7_isStart_5 : decode cX7_isStart 5 = .ok (.invokestatic 41, 3) := by decide +kernel
theorem dX7_isStart_8 : decode cX7_isStart 8 = .ok (.ireturn, 1) := by decide +kernel
theorem dX7_isLength_0 : decode cX7_isLength 0 = .ok (.iload_n 0, 1) := by decide +kernel
theorem dX7_isLength_1 : decode cX7_isLength 1 = .ok (.iconst 5, 1) := by decide +kernel
theorem dX7_isLength_2 : decode cX7_isLength 2 = .ok (.sipush 240, 3) := by decide +kernel
theorem dX7_isLength_5 : decode cX7_isLength 5 = .ok (.invokestatic 41, 3) := by decide +kernel
theorem dX7_isLength_8 : decode cX7_isLength 8 = .ok (.ireturn, 1) := by decide +kernel
theorem dX7_worth_0 : decode cX7_worth 0 = .ok (.iload_n 1, 1) := by decide +kernel
theorem dX7_worth_1 : decode cX7_worth 1 = .ok (.iconst 2, 1) := by decide +kernel
theorem dX7_worth_2 : decode cX7_worth 2 = .ok (.if_icmp .ne 17, 3) := by decide +kernel
theorem dX7_worth_5 : decode cX7_worth 5 = .ok (.iload_n 2, 1) := by decide +kernel
theorem dX7_worth_6 : decode cX7_worth 6 = .ok (.aload_n 0, 1) := by decide +kernel
theorem dX7_worth_7 : decode cX7_worth 7 = .ok (.getfield 7, 3) := by decide +kernel
theorem dX7_worth_10 : decode cX7_worth 10 = .ok (.iconst 5, 1) := by decide +kernel
theorem dX7_worth_11 : decode cX7_worth 11 = .ok (.iaload, 1) := by decide +kernel
theorem dX7_worth_12 : decode cX7_worth 12 = .ok (.imul, 1) := by decide +kernel
theorem dX7_worth_13 : decode cX7_worth 13 = .ok (.bipush 100, 2) := by decide +kernel
theorem dX7_worth_15 : decode cX7_worth 15 = .ok (.idiv, 1) := by decide +kernel
theorem dX7_worth_16 : decode cX7_worth 16 = .ok (.goto 4, 3) := by decide +kernel
theorem dX7_worth_19 : decode cX7_worth 19 = .ok (.iload_n 2, 1) := by decide +kernel
theorem dX7_worth_20 : decode cX7_worth 20 = .ok (.ireturn, 1) := by decide +kernel
theorem dX7_allowance_0 : decode cX7_allowance 0 = .ok (.aload_n 0, 1) := by decide +kernel
theorem dX7_allowance_1 : decode cX7_allowance 1 = .ok (.getfield 7, 3) := by decide +kernel
theorem dX7_allowance_4 : decode cX7_allowance 4 = .ok (.bipush 8, 2) := by decide +kernel
theorem dX7_allowance_6 : decode cX7_allowance 6 = .ok (.iconst 5, 1) := by decide +kernel
theorem dX7_allowance_7 : decode cX7_allowance 7 = .ok (.iload_n 1, 1) := by decide +kernel
theorem dX7_allowance_8 : decode cX7_allowance 8 = .ok (.imul, 1) := by decide +kernel
theorem dX7_allowance_9 : decode cX7_allowance 9 = .ok (.iadd, 1) := by decide +kernel
theorem dX7_allowance_10 : decode cX7_allowance 10 = .ok (.iconst 0, 1) := by decide +kernel
theorem dX7_allowance_11 : decode cX7_allowance 11 = .ok (.iadd, 1) := by decide +kernel
theorem dX7_allowance_12 : decode cX7_allowance 12 = .ok (.iaload, 1) := by decide +kernel
theorem dX7_allowance_13 : decode cX7_allowance 13 = .ok (.aload_n 0, 1) := by decide +kernel
theorem dX7_allowance_14 : decode cX7_allowance 14 = .ok (.getfield 7, 3) := by decide +kernel
theorem dX7_allowance_17 : decode cX7_allowance 17 = .ok (.bipush 8, 2) := by decide +kernel
theorem dX7_allowance_19 : decode cX7_allowance 19 = .ok (.iconst 5, 1) := by decide +kernel
theorem dX7_allowance_20 : decode cX7_allowance 20 = .ok (.iload_n 1, 1) := by decide +kernel
theorem dX7_allowance_21 : decode cX7_allowance 21 = .ok (.imul, 1) := by decide +kernel
theorem dX7_allowance_22 : decode cX7_allowance 22 = .ok (.iadd, 1) := by decide +kernel
theorem dX7_allowance_23 : decode cX7_allowance 23 = .ok (.iconst 1, 1) := by decide +kernel
theorem dX7_allowance_24 : decode cX7_allowance 24 = .ok (.iadd, 1) := by decide +kernel
theorem dX7_allowance_25 : decode cX7_allowance 25 = .ok (.iaload, 1) := by decide +kernel
theorem dX7_allowance_26 : decode cX7_allowance 26 = .ok (.iadd, 1) := by decide +kernel
theorem dX7_allowance_27 : decode cX7_allowance 27 = .ok (.ireturn, 1) := by decide +kernel
theorem dX7_tape_0 : decode cX7_tape 0 = .ok (.aload_n 0, 1) := by decide +kernel
theorem dX7_tape_1 : decode cX7_tape 1 = .ok (.getfield 19, 3) := by decide +kernel
theorem dX7_tape_4 : decode cX7_tape 4 = .ok (.iconst 0, 1) := by decide +kernel
theorem dX7_tape_5 : decode cX7_tape 5 = .ok (.iload_n 1, 1) := by decide +kernel
theorem dX7_tape_6 : decode cX7_tape 6 = .ok (.iastore, 1) := by decide +kernel
theorem dX7_tape_7 : decode cX7_tape 7 = .ok (.aload_n 0, 1) := by decide +kernel
theorem dX7_tape_8 : decode cX7_tape 8 = .ok (.getfield 19, 3) := by decide +kernel
theorem dX7_tape_11 : decode cX7_tape 11 = .ok (.iconst 1, 1) := by decide +kernel
theorem dX7_tape_12 : decode cX7_tape 12 = .ok (.iload_n 2, 1) := by decide +kernel
theorem dX7_tape_13 : decode cX7_tape 13 = .ok (.iastore, 1) := by decide +kernel
theorem dX7_tape_14 : decode cX7_tape 14 = .ok (.aload_n 0, 1) := by decide +kernel
theorem dX7_tape_15 : decode cX7_tape 15 = .ok (.getfield 19, 3) := by decide +kernel
theorem dX7_tape_18 : decode cX7_tape 18 = .ok (.iconst 2, 1) := by decide +kernel
theorem dX7_tape_19 : decode cX7_tape 19 = .ok (.iload_n 3, 1) := by decide +kernel
theorem dX7_tape_20 : decode cX7_tape 20 = .ok (.iastore, 1) := by decide +kernel
theorem dX7_tape_21 : decode cX7_tape 21 = .ok (.aload_n 0, 1) := by decide +kernel
theorem dX7_tape_22 : decode cX7_tape 22 = .ok (.getfield 19, 3) := by decide +kernel
theorem dX7_tape_25 : decode cX7_tape 25 = .ok (.iconst 3, 1) := by decide +kernel
theorem dX7_tape_26 : decode cX7_tape 26 = .ok (.iload 4, 2) := by decide +kernel
theorem dX7_tape_28 : decode cX7_tape 28 = .ok (.iastore, 1) := by decide +kernel
theorem dX7_tape_29 : decode cX7_tape 29 = .ok (.aload_n 0, 1) := by decide +kernel
theorem dX7_tape_30 : decode cX7_tape 30 = .ok (.getfield 19, 3) := by decide +kernel
theorem dX7_tape_33 : decode cX7_tape 33 = .ok (.iconst 4, 1) := by decide +kernel
theorem dX7_tape_34 : decode cX7_tape 34 = .ok (.iload 5, 2) := by decide +kernel
theorem dX7_tape_36 : decode cX7_tape 36 = .ok (.iastore, 1) := by decide +kernel
theorem dX7_tape_37 : decode cX7_tape 37 = .ok (.aload_n 0, 1) := by decide +kernel
theorem dX7_tape_38 : decode cX7_tape 38 = .ok (.getfield 19, 3) := by decide +kernel
theorem dX7_tape_41 : decode cX7_tape 41 = .ok (.iconst 5, 1) := by decide +kernel
theorem dX7_tape_42 : decode cX7_tape 42 = .ok (.iload 6, 2) := by decide +kernel
theorem dX7_tape_44 : decode cX7_tape 44 = .ok (.iastore, 1) := by decide +kernel
theorem dX7_tape_45 : decode cX7_tape 45 = .ok (.aload_n 0, 1) := by decide +kernel
theorem dX7_tape_46 : decode cX7_tape 46 = .ok (.getfield 19, 3) := by decide +kernel
theorem dX7_tape_49 : decode cX7_tape 49 = .ok (.bipush 6, 2) := by decide +kernel
theorem dX7_tape_51 : decode cX7_tape 51 = .ok (.iconst 0, 1) := by decide +kernel
theorem dX7_tape_52 : decode cX7_tape 52 = .ok (.iastore, 1) := by decide +kernel
theorem dX7_tape_53 : decode cX7_tape 53 = .ok (.aload_n 0, 1) := by decide +kernel
theorem dX7_tape_54 : decode cX7_tape 54 = .ok (.getfield 19, 3) := by decide +kernel
theorem dX7_tape_57 : decode cX7_tape 57 = .ok (.bipush 7, 2) := by decide +kernel
theorem dX7_tape_59 : decode cX7_tape 59 = .ok (.iconst (-1), 1) := by decide +kernel
theorem dX7_tape_60 : decode cX7_tape 60 = .ok (.iastore, 1) := by decide +kernel
theorem dX7_tape_61 : decode cX7_tape 61 = .ok (.return_, 1) := by decide +kernel
theorem dX7_again_0 : decode cX7_again 0 = .ok (.aload_n 0, 1) := by decide +kernel
theorem dX7_again_1 : decode cX7_again 1 = .ok (.iconst 2, 1) := by decide +kernel
theorem dX7_again_2 : decode cX7_again 2 = .ok (.aload_n 0, 1) := by decide +kernel
theorem dX7_again_3 : decode cX7_again 3 = .ok (.iload_n 1, 1) := by decide +kernel
theorem dX7_again_4 : decode cX7_again 4 = .ok (.iconst 1, 1) := by decide +kernel
theorem dX7_again_5 : decode cX7_again 5 = .ok (.invokevirtual 45, 3) := by decide +kernel
theorem dX7_again_8 : decode cX7_again 8 = .ok (.iload_n 2, 1) := by decide +kernel
theorem dX7_again_9 : decode cX7_again 9 = .ok (.iload_n 3, 1) := by decide +kernel
theorem dX7_again_10 : decode cX7_again 10 = .ok (.aload_n 0, 1) := by decide +kernel
theorem dX7_again_11 : decode cX7_again 11 = .ok (.iload_n 1, 1) := by decide +kernel
theorem dX7_again_12 : decode cX7_again 12 = .ok (.iconst 4, 1) := by decide +kernel
theorem dX7_again_13 : decode cX7_again 13 = .ok (.invokevirtual 45, 3) := by decide +kernel
theorem dX7_again_16 : decode cX7_again 16 = .ok (.iconst 0, 1) := by decide +kernel
theorem dX7_again_17 : decode cX7_again 17 = .ok (.invokevirtual 49, 3) := by decide +kernel
theorem dX7_again_20 : decode cX7_again 20 = .ok (.aload_n 0, 1) := by decide +kernel
theorem dX7_again_21 : decode cX7_again 21 = .ok (.getfield 19, 3) := by decide +kernel
theorem dX7_again_24 : decode cX7_again 24 = .ok (.bipush 7, 2) := by decide +kernel
theorem dX7_again_26 : decode cX7_again 26 = .ok (.iload_n 1, 1) := by decide +kernel
theorem dX7_again_27 : decode cX7_again 27 = .ok (.iastore, 1) := by decide +kernel
theorem dX7_again_28 : decode cX7_again 28 = .ok (.return_, 1) := by decide +kernel
theorem dX7_meetsOther_0 : decode cX7_meetsOther 0 = .ok (.iconst 0, 1) := by decide +kernel
theorem dX7_meetsOther_1 : decode cX7_meetsOther 1 = .ok (.istore_n 1, 1) := by decide +kernel
theorem dX7_meetsOther_2 : decode cX7_meetsOther 2 = .ok (.iconst 0, 1) := by decide +kernel
theorem dX7_meetsOther_3 : decode cX7_meetsOther 3 = .ok (.istore_n 2, 1) := by decide +kernel
theorem dX7_meetsOther_4 : decode cX7_meetsOther 4 = .ok (.iload_n 2, 1) := by decide +kernel
theorem dX7_meetsOther_5 : decode cX7_meetsOther 5 = .ok (.aload_n 0, 1) := by decide +kernel
theorem dX7_meetsOther_6 : decode cX7_meetsOther 6 = .ok (.getfield 7, 3) := by decide +kernel
theorem dX7_meetsOther_9 : decode cX7_meetsOther 9 = .ok (.bipush 39, 2) := by decide +kernel
theorem dX7_meetsOther_11 : decode cX7_meetsOther 11 = .ok (.iaload, 1) := by decide +kernel
theorem dX7_meetsOther_12 : decode cX7_meetsOther 12 = .ok (.if_icmp .ge 78, 3) := by decide +kernel
theorem dX7_meetsOther_15 : decode cX7_meetsOther 15 = .ok (.iload_n 1, 1) := by decide +kernel
theorem dX7_meetsOther_16 : decode cX7_meetsOther 16 = .ok (.ifCond .ne 62, 3) := by decide +kernel
theorem dX7_meetsOther_19 : decode cX7_meetsOther 19 = .ok (.aload_n 0, 1) := by decide +kernel
theorem dX7_meetsOther_20 : decode cX7_meetsOther 20 = .ok (.iload_n 2, 1) := by decide +kernel
theorem dX7_meetsOther_21 : decode cX7_meetsOther 21 = .ok (.iconst 2, 1) := by decide +kernel
theorem dX7_meetsOther_22 : decode cX7_meetsOther 22 = .ok (.invokevirtual 45, 3) := by decide +kernel
theorem dX7_meetsOther_25 : decode cX7_meetsOther 25 = .ok (.aload_n 0, 1) := by decide +kernel
theorem dX7_meetsOther_26 : decode cX7_meetsOther 26 = .ok (.getfield 19, 3) := by decide +kernel
theorem dX7_meetsOther_29 : decode cX7_meetsOther 29 = .ok (.iconst 2, 1) := by decide +kernel
theorem dX7_meetsOther_30 : decode cX7_meetsOther 30 = .ok (.iaload, 1) := by decide +kernel
theorem dX7_meetsOther_31 : decode cX7_meetsOther 31 = .ok (.if_icmp .ne 51, 3) := by decide +kernel
theorem dX7_meetsOther_34 : decode cX7_meetsOther 34 = .ok (.aload_n 0, 1) := by decide +kernel
theorem dX7_meetsOther_35 : decode cX7_meetsOther 35 = .ok (.iload_n 2, 1) := by decide +kernel
theorem dX7_meetsOther_36 : decode cX7_meetsOther 36 = .ok (.iconst 3, 1) := by decide +kernel
theorem dX7_meetsOther_37 : decode cX7_meetsOther 37 = .ok (.invokevirtual 45, 3) := by decide +kernel
theorem dX7_meetsOther_40 : decode cX7_meetsOther 40 = .ok (.aload_n 0, 1) := by decide +kernel
theorem dX7_meetsOther_41 : decode cX7_meetsOther 41 = .ok (.getfield 19, 3) := by decide +kernel
theorem dX7_meetsOther_44 : decode cX7_meetsOther 44 = .ok (.iconst 3, 1) := by decide +kernel
theorem dX7_meetsOther_45 : decode cX7_meetsOther 45 = .ok (.iaload, 1) := by decide +kernel
theorem dX7_meetsOther_46 : decode cX7_meetsOther 46 = .ok (.aload_n 0, 1) := by decide +kernel
theorem dX7_meetsOther_47 : decode cX7_meetsOther 47 = .ok (.getfield 19, 3) := by decide +kernel
theorem dX7_meetsOther_50 : decode cX7_meetsOther 50 = .ok (.iconst 4, 1) := by decide +kernel
theorem dX7_meetsOther_51 : decode cX7_meetsOther 51 = .ok (.iaload, 1) := by decide +kernel
theorem dX7_meetsOther_52 : decode cX7_meetsOther 52 = .ok (.iadd, 1) := by decide +kernel
theorem dX7_meetsOther_53 : decode cX7_meetsOther 53 = .ok (.if_icmp .ge 29, 3) := by decide +kernel
theorem dX7_meetsOther_56 : decode cX7_meetsOther 56 = .ok (.aload_n 0, 1) := by decide +kernel
theorem dX7_meetsOther_57 : decode cX7_meetsOther 57 = .ok (.iload_n 2, 1) := by decide +kernel
theorem dX7_meetsOther_58 : decode cX7_meetsOther 58 = .ok (.iconst 3, 1) := by decide +kernel
theorem dX7_meetsOther_59 : decode cX7_meetsOther 59 = .ok (.invokevirtual 45, 3) := by decide +kernel
theorem dX7_meetsOther_62 : decode cX7_meetsOther 62 = .ok (.aload_n 0, 1) := by decide +kernel
theorem dX7_meetsOther_63 : decode cX7_meetsOther 63 = .ok (.iload_n 2, 1) := by decide +kernel
theorem dX7_meetsOther_64 : decode cX7_meetsOther 64 = .ok (.iconst 4, 1) := by decide +kernel
theorem dX7_meetsOther_65 : decode cX7_meetsOther 65 = .ok (.invokevirtual 45, 3) := by decide +kernel
theorem dX7_meetsOther_68 : decode cX7_meetsOther 68 = .ok (.iadd, 1) := by decide +kernel
theorem dX7_meetsOther_69 : decode cX7_meetsOther 69 = .ok (.aload_n 0, 1) := by decide +kernel
theorem dX7_meetsOther_70 : decode cX7_meetsOther 70 = .ok (.getfield 19, 3) := by decide +kernel
theorem dX7_meetsOther_73 : decode cX7_meetsOther 73 = .ok (.iconst 3, 1) := by decide +kernel
theorem dX7_meetsOther_74 : decode cX7_meetsOther 74 = .ok (.iaload, 1) := by decide +kernel
theorem dX7_meetsOther_75 : decode cX7_meetsOther 75 = .ok (.if_icmp .le 7, 3) := by decide +kernel
theorem dX7_meetsOther_78 : decode cX7_meetsOther 78 = .ok (.iconst 1, 1) := by decide +kernel
theorem dX7_meetsOther_79 : decode cX7_meetsOther 79 = .ok (.goto 4, 3) := by decide +kernel
theorem dX7_meetsOther_82 : decode cX7_meetsOther 82 = .ok (.iconst 0, 1) := by decide +kernel
theorem dX7_meetsOther_83 : decode cX7_meetsOther 83 = .ok (.istore_n 1, 1) := by decide +kernel
theorem dX7_meetsOther_84 : decode cX7_meetsOther 84 = .ok (.iinc 2 1, 3) := by decide +kernel
theorem dX7_meetsOther_87 : decode cX7_meetsOther 87 = .ok (.goto (-83), 3) := by decide +kernel
theorem dX7_meetsOther_90 : decode cX7_meetsOther 90 = .ok (.iload_n 1, 1) := by decide +kernel
theorem dX7_meetsOther_91 : decode cX7_meetsOther 91 = .ok (.ireturn, 1) := by decide +kernel
theorem dX7_isEarly_0 : decode cX7_isEarly 0 = .ok (.aload_n 0, 1) := by decide +kernel
theorem dX7_isEarly_1 : decode cX7_isEarly 1 = .ok (.getfield 19, 3) := by decide +kernel
theorem dX7_isEarly_4 : decode cX7_isEarly 4 = .ok (.iconst 0, 1) := by decide +kernel
theorem dX7_isEarly_5 : decode cX7_isEarly 5 = .ok (.iaload, 1) := by decide +kernel
theorem dX7_isEarly_6 : decode cX7_isEarly 6 = .ok (.iconst 2, 1) := by decide +kernel
theorem dX7_isEarly_7 : decode cX7_isEarly 7 = .ok (.if_icmp .eq 5, 3) := by decide +kernel
theorem dX7_isEarly_10 : decode cX7_isEarly 10 = .ok (.iconst 0, 1) := by decide +kernel
theorem dX7_isEarly_11 : decode cX7_isEarly 11 = .ok (.ireturn, 1) := by decide +kernel
theorem dX7_isEarly_12 : decode cX7_isEarly 12 = .ok (.aload_n 0, 1) := by decide +kernel
theorem dX7_isEarly_13 : decode cX7_isEarly 13 = .ok (.getfield 19, 3) := by decide +kernel
theorem dX7_isEarly_16 : decode cX7_isEarly 16 = .ok (.bipush 7, 2) := by decide +kernel
theorem dX7_isEarly_18 : decode cX7_isEarly 18 = .ok (.iaload, 1) := by decide +kernel
theorem dX7_isEarly_19 : decode cX7_isEarly 19 = .ok (.istore_n 1, 1) := by decide +kernel
theorem dX7_isEarly_20 : decode cX7_isEarly 20 = .ok (.sipush 1440, 3) := by decide +kernel
theorem dX7_isEarly_23 : decode cX7_isEarly 23 = .ok (.aload_n 0, 1) := by decide +kernel
theorem dX7_isEarly_24 : decode cX7_isEarly 24 = .ok (.iload_n 1, 1) := by decide +kernel
theorem dX7_isEarly_25 : decode cX7_isEarly 25 = .ok (.iconst 2, 1) := by decide +kernel
theorem dX7_isEarly_26 : decode cX7_isEarly 26 = .ok (.invokevirtual 45, 3) := by decide +kernel
theorem dX7_isEarly_29 : decode cX7_isEarly 29 = .ok (.imul, 1) := by decide +kernel
theorem dX7_isEarly_30 : decode cX7_isEarly 30 = .ok (.aload_n 0, 1) := by decide +kernel
theorem dX7_isEarly_31 : decode cX7_isEarly 31 = .ok (.iload_n 1, 1) := by decide +kernel
theorem dX7_isEarly_32 : decode cX7_isEarly 32 = .ok (.iconst 3, 1) := by decide +kernel
theorem dX7_isEarly_33 : decode cX7_isEarly 33 = .ok (.invokevirtual 45, 3) := by decide +kernel
theorem dX7_isEarly_36 : decode cX7_isEarly 36 = .ok (.iadd, 1) := by decide +kernel
theorem dX7_isEarly_37 : decode cX7_isEarly 37 = .ok (.aload_n 0, 1) := by decide +kernel
theorem dX7_isEarly_38 : decode cX7_isEarly 38 = .ok (.iload_n 1, 1) := by decide +kernel
theorem dX7_isEarly_39 : decode cX7_isEarly 39 = .ok (.iconst 4, 1) := by decide +kernel
theorem dX7_isEarly_40 : decode cX7_isEarly 40 = .ok (.invokevirtual 45, 3) := by decide +kernel
theorem dX7_isEarly_43 : decode cX7_isEarly 43 = .ok (.iadd, 1) := by decide +kernel
theorem dX7_isEarly_44 : decode cX7_isEarly 44 = .ok (.bipush 60, 2) := by decide +kernel
theorem dX7_isEarly_46 : decode cX7_isEarly 46 = .ok (.aload_n 0, 1) := by decide +kernel
theorem dX7_isEarly_47 : decode cX7_isEarly 47 = .ok (.getfield 7, 3) := by decide +kernel
theorem dX7_isEarly_50 : decode cX7_isEarly 50 = .ok (.iconst 4, 1) := by decide +kernel
theorem dX7_isEarly_51 : decode cX7_isEarly 51 = .ok (.iaload, 1) := by decide +kernel
theorem dX7_isEarly_52 : decode cX7_isEarly 52 = .ok (.imul, 1) := by decide +kernel
theorem dX7_isEarly_53 : decode cX7_isEarly 53 = .ok (.iadd, 1) := by decide +kernel
theorem dX7_isEarly_54 : decode cX7_isEarly 54 = .ok (.istore_n 2, 1) := by decide +kernel
theorem dX7_isEarly_55 : decode cX7_isEarly 55 = .ok (.sipush 1440, 3) := by decide +kernel
theorem dX7_isEarly_58 : decode cX7_isEarly 58 = .ok (.aload_n 0, 1) := by decide +kernel
theorem dX7_isEarly_59 : decode cX7_isEarly 59 = .ok (.getfield 19, 3) := by decide +kernel
theorem dX7_isEarly_62 : decode cX7_isEarly 62 = .ok (.iconst 2, 1) := by decide +kernel
theorem dX7_isEarly_63 : decode cX7_isEarly 63 = .ok (.iaload, 1) := by decide +kernel
theorem dX7_isEarly_64 : decode cX7_isEarly 64 = .ok (.imul, 1) := by decide +kernel
theorem dX7_isEarly_65 : decode cX7_isEarly 65 = .ok (.aload_n 0, 1) := by decide +kernel
theorem dX7_isEarly_66 : decode cX7_isEarly 66 = .ok (.getfield 19, 3) := by decide +kernel
theorem dX7_isEarly_69 : decode cX7_isEarly 69 = .ok (.iconst 3, 1) := by decide +kernel
theorem dX7_isEarly_70 : decode cX7_isEarly 70 = .ok (.iaload, 1) := by decide +kernel
theorem dX7_isEarly_71 : decode cX7_isEarly 71 = .ok (.iadd, 1) := by decide +kernel
theorem dX7_isEarly_72 : decode cX7_isEarly 72 = .ok (.iload_n 2, 1) := by decide +kernel
theorem dX7_isEarly_73 : decode cX7_isEarly 73 = .ok (.if_icmp .ge 7, 3) := by decide +kernel
theorem dX7_isEarly_76 : decode cX7_isEarly 76 = .ok (.iconst 1, 1) := by decide +kernel
theorem dX7_isEarly_77 : decode cX7_isEarly 77 = .ok (.goto 4, 3) := by decide +kernel
theorem dX7_isEarly_80 : decode cX7_isEarly 80 = .ok (.iconst 0, 1) := by decide +kernel
theorem dX7_isEarly_81 : decode cX7_isEarly 81 = .ok (.ireturn, 1) := by decide +kernel
theorem dX7_plannedWorth_0 : decode cX7_plannedWorth 0 = .ok (.iconst 0, 1) := by decide +kernel
theorem dX7_plannedWorth_1 : decode cX7_plannedWorth 1 = .ok (.istore_n 2, 1) := by decide +kernel
theorem dX7_plannedWorth_2 : decode cX7_plannedWorth 2 = .ok (.iconst 0, 1) := by decide +kernel
theorem dX7_plannedWorth_3 : decode cX7_plannedWorth 3 = .ok (.istore_n 3, 1) := by decide +kernel
theorem dX7_plannedWorth_4 : decode cX7_plannedWorth 4 = .ok (.iload_n 3, 1) := by decide +kernel
theorem dX7_plannedWorth_5 : decode cX7_plannedWorth 5 = .ok (.aload_n 0, 1) := by decide +kernel
theorem dX7_plannedWorth_6 : decode cX7_plannedWorth 6 = .ok (.getfield 7, 3) := by decide +kernel
theorem dX7_plannedWorth_9 : decode cX7_plannedWorth 9 = .ok (.bipush 39, 2) := by decide +kernel
theorem dX7_plannedWorth_11 : decode cX7_plannedWorth 11 = .ok (.iaload, 1) := by decide +kernel
theorem dX7_plannedWorth_12 : decode cX7_plannedWorth 12 = .ok (.if_icmp .ge 42, 3) := by decide +kernel
theorem dX7_plannedWorth_15 : decode cX7_plannedWorth 15 = .ok (.iload_n 2, 1) := by decide +kernel
theorem dX7_plannedWorth_16 : decode cX7_plannedWorth 16 = .ok (.aload_n 0, 1) := by decide +kernel
theorem dX7_plannedWorth_17 : decode cX7_plannedWorth 17 = .ok (.iload_n 3, 1) := by decide +kernel
theorem dX7_plannedWorth_18 : decode cX7_plannedWorth 18 = .ok (.iconst 1, 1) := by decide +kernel
theorem dX7_plannedWorth_19 : decode cX7_plannedWorth 19 = .ok (.invokevirtual 45, 3) := by decide +kernel
theorem dX7_plannedWorth_22 : decode cX7_plannedWorth 22 = .ok (.iload_n 1, 1) := by decide +kernel
theorem dX7_plannedWorth_23 : decode cX7_plannedWorth 23 = .ok (.if_icmp .ne 22, 3) := by decide +kernel
theorem dX7_plannedWorth_26 : decode cX7_plannedWorth 26 = .ok (.aload_n 0, 1) := by decide +kernel
theorem dX7_plannedWorth_27 : decode cX7_plannedWorth 27 = .ok (.aload_n 0, 1) := by decide +kernel
theorem dX7_plannedWorth_28 : decode cX7_plannedWorth 28 = .ok (.iload_n 3, 1) := by decide +kernel
theorem dX7_plannedWorth_29 : decode cX7_plannedWorth 29 = .ok (.iconst 0, 1) := by decide +kernel
theorem dX7_plannedWorth_30 : decode cX7_plannedWorth 30 = .ok (.invokevirtual 45, 3) := by decide +kernel
theorem dX7_plannedWorth_33 : decode cX7_plannedWorth 33 = .ok (.aload_n 0, 1) := by decide +kernel
theorem dX7_plannedWorth_34 : decode cX7_plannedWorth 34 = .ok (.iload_n 3, 1) := by decide +kernel
theorem dX7_plannedWorth_35 : decode cX7_plannedWorth 35 = .ok (.iconst 4, 1) := by decide +kernel
theorem dX7_plannedWorth_36 : decode cX7_plannedWorth 36 = .ok (.invokevirtual 45, 3) := by decide +kernel
theorem dX7_plannedWorth_39 : decode cX7_plannedWorth 39 = .ok (.invokevirtual 53, 3) := by decide +kernel
theorem dX7_plannedWorth_42 : decode cX7_plannedWorth 42 = .ok (.goto 4, 3) := by decide +kernel
theorem dX7_plannedWorth_45 : decode cX7_plannedWorth 45 = .ok (.iconst 0, 1) := by decide +kernel
theorem dX7_plannedWorth_46 : decode cX7_plannedWorth 46 = .ok (.iadd, 1) := by decide +kernel
theorem dX7_plannedWorth_47 : decode cX7_plannedWorth 47 = .ok (.istore_n 2, 1) := by decide +kernel
theorem dX7_plannedWorth_48 : decode cX7_plannedWorth 48 = .ok (.iinc 3 1, 3) := by decide +kernel
theorem dX7_plannedWorth_51 : decode cX7_plannedWorth 51 = .ok (.goto (-47), 3) := by decide +kernel
theorem dX7_plannedWorth_54 : decode cX7_plannedWorth 54 = .ok (.iload_n 2, 1) := by decide +kernel
theorem dX7_plannedWorth_55 : decode cX7_plannedWorth 55 = .ok (.ireturn, 1) := by decide +kernel
theorem dX7_inHour_0 : decode cX7_inHour 0 = .ok (.iload_n 0, 1) := by decide +kernel
theorem dX7_inHour_1 : decode cX7_inHour 1 = .ok (.bipush 60, 2) := by decide +kernel
theorem dX7_inHour_3 : decode cX7_inHour 3 = .ok (.iload_n 2, 1) := by decide +kernel
theorem dX7_inHour_4 : decode cX7_inHour 4 = .ok (.imul, 1) := by decide +kernel
theorem dX7_inHour_5 : decode cX7_inHour 5 = .ok (.if_icmp .le 7, 3) := by decide +kernel
theorem dX7_inHour_8 : decode cX7_inHour 8 = .ok (.iload_n 0, 1) := by decide +kernel
theorem dX7_inHour_9 : decode cX7_inHour 9 = .ok (.goto 7, 3) := by decide +kernel
theorem dX7_inHour_12 : decode cX7_inHour 12 = .ok (.bipush 60, 2) := by decide +kernel
theorem dX7_inHour_14 : decode cX7_inHour 14 = .ok (.iload_n 2, 1) := by decide +kernel
theorem dX7_inHour_15 : decode cX7_inHour 15 = .ok (.imul, 1) := by decide +kernel
theorem dX7_inHour_16 : decode cX7_inHour 16 = .ok (.istore_n 3, 1) := by decide +kernel
theorem dX7_inHour_17 : decode cX7_inHour 17 = .ok (.iload_n 0, 1) := by decide +kernel
theorem dX7_inHour_18 : decode cX7_inHour 18 = .ok (.iload_n 1, 1) := by decide +kernel
theorem dX7_inHour_19 : decode cX7_inHour 19 = .ok (.iadd, 1) := by decide +kernel
theorem dX7_inHour_20 : decode cX7_inHour 20 = .ok (.bipush 60, 2) := by decide +kernel
theorem dX7_inHour_22 : decode cX7_inHour 22 = .ok (.iload_n 2, 1) := by decide +kernel
theorem dX7_inHour_23 : decode cX7_inHour 23 = .ok (.imul, 1) := by decide +kernel
theorem dX7_inHour_24 : decode cX7_inHour 24 = .ok (.bipush 60, 2) := by decide +kernel
theorem dX7_inHour_26 : decode cX7_inHour 26 = .ok (.iadd, 1) := by decide +kernel
theorem dX7_inHour_27 : decode cX7_inHour 27 = .ok (.if_icmp .ge 9, 3) := by decide +kernel
theorem dX7_inHour_30 : decode cX7_inHour 30 = .ok (.iload_n 0, 1) := by decide +kernel
theorem dX7_inHour_31 : decode cX7_inHour 31 = .ok (.iload_n 1, 1) := by decide +kernel
theorem dX7_inHour_32 : decode cX7_inHour 32 = .ok (.iadd, 1) := by decide +kernel
theorem dX7_inHour_33 : decode cX7_inHour 33 = .ok (.goto 10, 3) := by decide +kernel
theorem dX7_inHour_36 : decode cX7_inHour 36 = .ok (.bipush 60, 2) := by decide +kernel
theorem dX7_inHour_38 : decode cX7_inHour 38 = .ok (.iload_n 2, 1) := by decide +kernel
theorem dX7_inHour_39 : decode cX7_inHour 39 = .ok (.imul, 1) := by decide +kernel
theorem dX7_inHour_40 : decode cX7_inHour 40 = .ok (.bipush 60, 2) := by decide +kernel
theorem dX7_inHour_42 : decode cX7_inHour 42 = .ok (.iadd, 1) := by decide +kernel
theorem dX7_inHour_43 : decode cX7_inHour 43 = .ok (.istore 4, 2) := by decide +kernel
theorem dX7_inHour_45 : decode cX7_inHour 45 = .ok (.iload 4, 2) := by decide +kernel
theorem dX7_inHour_47 : decode cX7_inHour 47 = .ok (.iload_n 3, 1) := by decide +kernel
theorem dX7_inHour_48 : decode cX7_inHour 48 = .ok (.if_icmp .le 10, 3) := by decide +kernel
theorem dX7_inHour_51 : decode cX7_inHour 51 = .ok (.iload 4, 2) := by decide +kernel
theorem dX7_inHour_53 : decode cX7_inHour 53 = .ok (.iload_n 3, 1) := by decide +kernel
theorem dX7_inHour_54 : decode cX7_inHour 54 = .ok (.isub, 1) := by decide +kernel
theorem dX7_inHour_55 : decode cX7_inHour 55 = .ok (.goto 4, 3) := by decide +kernel
theorem dX7_inHour_58 : decode cX7_inHour 58 = .ok (.iconst 0, 1) := by decide +kernel
theorem dX7_inHour_59 : decode cX7_inHour 59 = .ok (.ireturn, 1) := by decide +kernel
theorem dX7_planned_0 : decode cX7_planned 0 = .ok (.iconst 0, 1) := by decide +kernel
theorem dX7_planned_1 : decode cX7_planned 1 = .ok (.istore_n 3, 1) := by decide +kernel
theorem dX7_planned_2 : decode cX7_planned 2 = .ok (.iconst 0, 1) := by decide +kernel
theorem dX7_planned_3 : decode cX7_planned 3 = .ok (.istore 4, 2) := by decide +kernel
theorem dX7_planned_5 : decode cX7_planned 5 = .ok (.iload 4, 2) := by decide +kernel
theorem dX7_planned_7 : decode cX7_planned 7 = .ok (.aload_n 0, 1) := by decide +kernel
theorem dX7_planned_8 : decode cX7_planned 8 = .ok (.getfield 7, 3) := by decide +kernel
theorem dX7_planned_11 : decode cX7_planned 11 = .ok (.bipush 39, 2) := by decide +kernel
theorem dX7_planned_13 : decode cX7_planned 13 = .ok (.iaload, 1) := by decide +kernel
theorem dX7_planned_14 : decode cX7_planned 14 = .ok (.if_icmp .ge 45, 3) := by decide +kernel
theorem dX7_planned_17 : decode cX7_planned 17 = .ok (.iload_n 3, 1) := by decide +kernel
theorem dX7_planned_18 : decode cX7_planned 18 = .ok (.aload_n 0, 1) := by decide +kernel
theorem dX7_planned_19 : decode cX7_planned 19 = .ok (.iload 4, 2) := by decide +kernel
theorem dX7_planned_21 : decode cX7_planned 21 = .ok (.iconst 2, 1) := by decide +kernel
theorem dX7_planned_22 : decode cX7_planned 22 = .ok (.invokevirtual 45, 3) := by decide +kernel
theorem dX7_planned_25 : decode cX7_planned 25 = .ok (.iload_n 1, 1) := by decide +kernel
theorem dX7_planned_26 : decode cX7_planned 26 = .ok (.if_icmp .ne 24, 3) := by decide +kernel
theorem dX7_planned_29 : decode cX7_planned 29 = .ok (.aload_n 0, 1) := by decide +kernel
theorem dX7_planned_30 : decode cX7_planned 30 = .ok (.iload 4, 2) := by decide +kernel
theorem dX7_planned_32 : decode cX7_planned 32 = .ok (.iconst 3, 1) := by decide +kernel
theorem dX7_planned_33 : decode cX7_planned 33 = .ok (.invokevirtual 45, 3) := by decide +kernel
theorem dX7_planned_36 : decode cX7_planned 36 = .ok (.aload_n 0, 1) := by decide +kernel
theorem dX7_planned_37 : decode cX7_planned 37 = .ok (.iload 4, 2) := by decide +kernel
theorem dX7_planned_39 : decode cX7_planned 39 = .ok (.iconst 5, 1) := by decide +kernel
theorem dX7_planned_40 : decode cX7_planned 40 = .ok (.invokevirtual 45, 3) := by decide +kernel
theorem dX7_planned_43 : decode cX7_planned 43 = .ok (.iload_n 2, 1) := by decide +kernel
theorem dX7_planned_44 : decode cX7_planned 44 = .ok (.invokestatic 56, 3) := by decide +kernel
theorem dX7_planned_47 : decode cX7_planned 47 = .ok (.goto 4, 3) := by decide +kernel
theorem dX7_planned_50 : decode cX7_planned 50 = .ok (.iconst 0, 1) := by decide +kernel
theorem dX7_planned_51 : decode cX7_planned 51 = .ok (.iadd, 1) := by decide +kernel
theorem dX7_planned_52 : decode cX7_planned 52 = .ok (.istore_n 3, 1) := by decide +kernel
theorem dX7_planned_53 : decode cX7_planned 53 = .ok (.iinc 4 1, 3) := by decide +kernel
theorem dX7_planned_56 : decode cX7_planned 56 = .ok (.goto (-51), 3) := by decide +kernel
theorem dX7_planned_59 : decode cX7_planned 59 = .ok (.iload_n 3, 1) := by decide +kernel
theorem dX7_planned_60 : decode cX7_planned 60 = .ok (.ireturn, 1) := by decide +kernel
theorem dX7_sponsorsTooMuch_0 : decode cX7_sponsorsTooMuch 0 = .ok (.iconst 0, 1) := by decide +kernel
theorem dX7_sponsorsTooMuch_1 : decode cX7_sponsorsTooMuch 1 = .ok (.istore_n 1, 1) := by decide +kernel
theorem dX7_sponsorsTooMuch_2 : decode cX7_sponsorsTooMuch 2 = .ok (.iconst 0, 1) := by decide +kernel
theorem dX7_sponsorsTooMuch_3 : decode cX7_sponsorsTooMuch 3 = .ok (.istore_n 2, 1) := by decide +kernel
theorem dX7_sponsorsTooMuch_4 : decode cX7_sponsorsTooMuch 4 = .ok (.iload_n 2, 1) := by decide +kernel
theorem dX7_sponsorsTooMuch_5 : decode cX7_sponsorsTooMuch 5 = .ok (.bipush 24, 2) := by decide +kernel
theorem dX7_sponsorsTooMuch_7 : decode cX7_sponsorsTooMuch 7 = .ok (.if_icmp .ge 57, 3) := by decide +kernel
theorem dX7_sponsorsTooMuch_10 : decode cX7_sponsorsTooMuch 10 = .ok (.iload_n 1, 1) := by decide +kernel
theorem dX7_sponsorsTooMuch_11 : decode cX7_sponsorsTooMuch 11 = .ok (.ifCond .ne 41, 3) := by decide +kernel
theorem dX7_sponsorsTooMuch_14 : decode cX7_sponsorsTooMuch 14 = .ok (.aload_n 0, 1) := by decide +kernel
theorem dX7_sponsorsTooMuch_15 : decode cX7_sponsorsTooMuch 15 = .ok (.aload_n 0, 1) := by decide +kernel
theorem dX7_sponsorsTooMuch_16 : decode cX7_sponsorsTooMuch 16 = .ok (.getfield 19, 3) := by decide +kernel
theorem dX7_sponsorsTooMuch_19 : decode cX7_sponsorsTooMuch 19 = .ok (.iconst 2, 1) := by decide +kernel
theorem dX7_sponsorsTooMuch_20 : decode cX7_sponsorsTooMuch 20 = .ok (.iaload, 1) := by decide +kernel
theorem dX7_sponsorsTooMuch_21 : decode cX7_sponsorsTooMuch 21 = .ok (.iload_n 2, 1) := by decide +kernel
theorem dX7_sponsorsTooMuch_22 : decode cX7_sponsorsTooMuch 22 = .ok (.invokevirtual 60, 3) := by decide +kernel
theorem dX7_sponsorsTooMuch_25 : decode cX7_sponsorsTooMuch 25 = .ok (.aload_n 0, 1) := by decide +kernel
theorem dX7_sponsorsTooMuch_26 : decode cX7_sponsorsTooMuch 26 = .ok (.getfield 19, 3) := by decide +kernel
theorem dX7_sponsorsTooMuch_29 : decode cX7_sponsorsTooMuch 29 = .ok (.iconst 3, 1) := by decide +kernel
theorem dX7_sponsorsTooMuch_30 : decode cX7_sponsorsTooMuch 30 = .ok (.iaload, 1) := by decide +kernel
theorem dX7_sponsorsTooMuch_31 : decode cX7_sponsorsTooMuch 31 = .ok (.aload_n 0, 1) := by decide +kernel
theorem dX7_sponsorsTooMuch_32 : decode cX7_sponsorsTooMuch 32 = .ok (.getfield 19, 3) := by decide +kernel
theorem dX7_sponsorsTooMuch_35 : decode cX7_sponsorsTooMuch 35 = .ok (.iconst 5, 1) := by decide +kernel
theorem dX7_sponsorsTooMuch_36 : decode cX7_sponsorsTooMuch 36 = .ok (.iaload, 1) := by decide +kernel
theorem dX7_sponsorsTooMuch_37 : decode cX7_sponsorsTooMuch 37 = .ok (.iload_n 2, 1) := by decide +kernel
theorem dX7_sponsorsTooMuch_38 : decode cX7_sponsorsTooMuch 38 = .ok (.invokestatic 56, 3) := by decide +kernel
theorem dX7_sponsorsTooMuch_41 : decode cX7_sponsorsTooMuch 41 = .ok (.iadd, 1) := by decide +kernel
theorem dX7_sponsorsTooMuch_42 : decode cX7_sponsorsTooMuch 42 = .ok (.aload_n 0, 1) := by decide +kernel
theorem dX7_sponsorsTooMuch_43 : decode cX7_sponsorsTooMuch 43 = .ok (.getfield 7, 3) := by decide +kernel
theorem dX7_sponsorsTooMuch_46 : decode cX7_sponsorsTooMuch 46 = .ok (.bipush 6, 2) := by decide +kernel
theorem dX7_sponsorsTooMuch_48 : decode cX7_sponsorsTooMuch 48 = .ok (.iaload, 1) := by decide +kernel
theorem dX7_sponsorsTooMuch_49 : decode cX7_sponsorsTooMuch 49 = .ok (.if_icmp .le 7, 3) := by decide +kernel
theorem dX7_sponsorsTooMuch_52 : decode cX7_sponsorsTooMuch 52 = .ok (.iconst 1, 1) := by decide +kernel
theorem dX7_sponsorsTooMuch_53 : decode cX7_sponsorsTooMuch 53 = .ok (.goto 4, 3) := by decide +kernel
theorem dX7_sponsorsTooMuch_56 : decode cX7_sponsorsTooMuch 56 = .ok (.iconst 0, 1) := by decide +kernel
theorem dX7_sponsorsTooMuch_57 : decode cX7_sponsorsTooMuch 57 = .ok (.istore_n 1, 1) := by decide +kernel
theorem dX7_sponsorsTooMuch_58 : decode cX7_sponsorsTooMuch 58 = .ok (.iinc 2 1, 3) := by decide +kernel
theorem dX7_sponsorsTooMuch_61 : decode cX7_sponsorsTooMuch 61 = .ok (.goto (-57), 3) := by decide +kernel
theorem dX7_sponsorsTooMuch_64 : decode cX7_sponsorsTooMuch 64 = .ok (.iload_n 1, 1) := by decide +kernel
theorem dX7_sponsorsTooMuch_65 : decode cX7_sponsorsTooMuch 65 = .ok (.ireturn, 1) := by decide +kernel
theorem dX7_refusal_0 : decode cX7_refusal 0 = .ok (.aload_n 0, 1) := by decide +kernel
theorem dX7_refusal_1 : decode cX7_refusal 1 = .ok (.getfield 7, 3) := by decide +kernel
theorem dX7_refusal_4 : decode cX7_refusal 4 = .ok (.bipush 39, 2) := by decide +kernel
theorem dX7_refusal_6 : decode cX7_refusal 6 = .ok (.iaload, 1) := by decide +kernel
theorem dX7_refusal_7 : decode cX7_refusal 7 = .ok (.bipush 24, 2) := by decide +kernel
theorem dX7_refusal_9 : decode cX7_refusal 9 = .ok (.if_icmp .ne 5, 3) := by decide +kernel
theorem dX7_refusal_12 : decode cX7_refusal 12 = .ok (.iconst 1, 1) := by decide +kernel
theorem dX7_refusal_13 : decode cX7_refusal 13 = .ok (.ireturn, 1) := by decide +kernel
theorem dX7_refusal_14 : decode cX7_refusal 14 = .ok (.aload_n 0, 1) := by decide +kernel
theorem dX7_refusal_15 : decode cX7_refusal 15 = .ok (.getfield 19, 3) := by decide +kernel
theorem dX7_refusal_18 : decode cX7_refusal 18 = .ok (.iconst 0, 1) := by decide +kernel
theorem dX7_refusal_19 : decode cX7_refusal 19 = .ok (.iaload, 1) := by decide +kernel
theorem dX7_refusal_20 : decode cX7_refusal 20 = .ok (.iconst 2, 1) := by decide +kernel
theorem dX7_refusal_21 : decode cX7_refusal 21 = .ok (.if_icmp .ne 21, 3) := by decide +kernel
theorem dX7_refusal_24 : decode cX7_refusal 24 = .ok (.aload_n 0, 1) := by decide +kernel
theorem dX7_refusal_25 : decode cX7_refusal 25 = .ok (.aload_n 0, 1) := by decide +kernel
theorem dX7_refusal_26 : decode cX7_refusal 26 = .ok (.getfield 19, 3) := by decide +kernel
theorem dX7_refusal_29 : decode cX7_refusal 29 = .ok (.bipush 7, 2) := by decide +kernel
theorem dX7_refusal_31 : decode cX7_refusal 31 = .ok (.iaload, 1) := by decide +kernel
theorem dX7_refusal_32 : decode cX7_refusal 32 = .ok (.iconst 0, 1) := by decide +kernel
theorem dX7_refusal_33 : decode cX7_refusal 33 = .ok (.invokevirtual 45, 3) := by decide +kernel
theorem dX7_refusal_36 : decode cX7_refusal 36 = .ok (.iconst 2, 1) := by decide +kernel
theorem dX7_refusal_37 : decode cX7_refusal 37 = .ok (.if_icmp .ne 5, 3) := by decide +kernel
theorem dX7_refusal_40 : decode cX7_refusal 40 = .ok (.iconst 2, 1) := by decide +kernel
theorem dX7_refusal_41 : decode cX7_refusal 41 = .ok (.ireturn, 1) := by decide +kernel
theorem dX7_refusal_42 : decode cX7_refusal 42 = .ok (.aload_n 0, 1) := by decide +kernel
theorem dX7_refusal_43 : decode cX7_refusal 43 = .ok (.getfield 19, 3) := by decide +kernel
theorem dX7_refusal_46 : decode cX7_refusal 46 = .ok (.iconst 3, 1) := by decide +kernel
theorem dX7_refusal_47 : decode cX7_refusal 47 = .ok (.iaload, 1) := by decide +kernel
theorem dX7_refusal_48 : decode cX7_refusal 48 = .ok (.aload_n 0, 1) := by decide +kernel
theorem dX7_refusal_49 : decode cX7_refusal 49 = .ok (.getfield 7, 3) := by decide +kernel
theorem dX7_refusal_52 : decode cX7_refusal 52 = .ok (.iconst 0, 1) := by decide +kernel
theorem dX7_refusal_53 : decode cX7_refusal 53 = .ok (.iaload, 1) := by decide +kernel
theorem dX7_refusal_54 : decode cX7_refusal 54 = .ok (.if_icmp .lt 25, 3) := by decide +kernel
theorem dX7_refusal_57 : decode cX7_refusal 57 = .ok (.aload_n 0, 1) := by decide +kernel
theorem dX7_refusal_58 : decode cX7_refusal 58 = .ok (.getfield 19, 3) := by decide +kernel
theorem dX7_refusal_61 : decode cX7_refusal 61 = .ok (.iconst 3, 1) := by decide +kernel
theorem dX7_refusal_62 : decode cX7_refusal 62 = .ok (.iaload, 1) := by decide +kernel
theorem dX7_refusal_63 : decode cX7_refusal 63 = .ok (.aload_n 0, 1) := by decide +kernel
theorem dX7_refusal_64 : decode cX7_refusal 64 = .ok (.getfield 19, 3) := by decide +kernel
theorem dX7_refusal_67 : decode cX7_refusal 67 = .ok (.iconst 4, 1) := by decide +kernel
theorem dX7_refusal_68 : decode cX7_refusal 68 = .ok (.iaload, 1) := by decide +kernel
theorem dX7_refusal_69 : decode cX7_refusal 69 = .ok (.iadd, 1) := by decide +kernel
theorem dX7_refusal_70 : decode cX7_refusal 70 = .ok (.aload_n 0, 1) := by decide +kernel
theorem dX7_refusal_71 : decode cX7_refusal 71 = .ok (.getfield 7, 3) := by decide +kernel
theorem dX7_refusal_74 : decode cX7_refusal 74 = .ok (.iconst 1, 1) := by decide +kernel
theorem dX7_refusal_75 : decode cX7_refusal 75 = .ok (.iaload, 1) := by decide +kernel
theorem dX7_refusal_76 : decode cX7_refusal 76 = .ok (.if_icmp .le 5, 3) := by decide +kernel
theorem dX7_refusal_79 : decode cX7_refusal 79 = .ok (.iconst 3, 1) := by decide +kernel
theorem dX7_refusal_80 : decode cX7_refusal 80 = .ok (.ireturn, 1) := by decide +kernel
theorem dX7_refusal_81 : decode cX7_refusal 81 = .ok (.aload_n 0, 1) := by decide +kernel
theorem dX7_refusal_82 : decode cX7_refusal 82 = .ok (.invokevirtual 63, 3) := by decide +kernel
theorem dX7_refusal_85 : decode cX7_refusal 85 = .ok (.ifCond .eq 5, 3) := by decide +kernel
theorem dX7_refusal_88 : decode cX7_refusal 88 = .ok (.iconst 4, 1) := by decide +kernel
theorem dX7_refusal_89 : decode cX7_refusal 89 = .ok (.ireturn, 1) := by decide +kernel
theorem dX7_refusal_90 : decode cX7_refusal 90 = .ok (.aload_n 0, 1) := by decide +kernel
theorem dX7_refusal_91 : decode cX7_refusal 91 = .ok (.invokevirtual 67, 3) := by decide +kernel
theorem dX7_refusal_94 : decode cX7_refusal 94 = .ok (.ifCond .eq 5, 3) := by decide +kernel
theorem dX7_refusal_97 : decode cX7_refusal 97 = .ok (.iconst 5, 1) := by decide +kernel
theorem dX7_refusal_98 : decode cX7_refusal 98 = .ok (.ireturn, 1) := by decide +kernel
theorem dX7_refusal_99 : decode cX7_refusal 99 = .ok (.aload_n 0, 1) := by decide +kernel
theorem dX7_refusal_100 : decode cX7_refusal 100 = .ok (.getfield 19, 3) := by decide +kernel
theorem dX7_refusal_103 : decode cX7_refusal 103 = .ok (.iconst 1, 1) := by decide +kernel
theorem dX7_refusal_104 : decode cX7_refusal 104 = .ok (.iaload, 1) := by decide +kernel
theorem dX7_refusal_105 : decode cX7_refusal 105 = .ok (.istore_n 1, 1) := by decide +kernel
theorem dX7_refusal_106 : decode cX7_refusal 106 = .ok (.aload_n 0, 1) := by decide +kernel
theorem dX7_refusal_107 : decode cX7_refusal 107 = .ok (.iload_n 1, 1) := by decide +kernel
theorem dX7_refusal_108 : decode cX7_refusal 108 = .ok (.invokevirtual 70, 3) := by decide +kernel
theorem dX7_refusal_111 : decode cX7_refusal 111 = .ok (.aload_n 0, 1) := by decide +kernel
theorem dX7_refusal_112 : decode cX7_refusal 112 = .ok (.aload_n 0, 1) := by decide +kernel
theorem dX7_refusal_113 : decode cX7_refusal 113 = .ok (.getfield 19, 3) := by decide +kernel
theorem dX7_refusal_116 : decode cX7_refusal 116 = .ok (.iconst 0, 1) := by decide +kernel
theorem dX7_refusal_117 : decode cX7_refusal 117 = .ok (.iaload, 1) := by decide +kernel
theorem dX7_refusal_118 : decode cX7_refusal 118 = .ok (.aload_n 0, 1) := by decide +kernel
theorem dX7_refusal_119 : decode cX7_refusal 119 = .ok (.getfield 19, 3) := by decide +kernel
theorem dX7_refusal_122 : decode cX7_refusal 122 = .ok (.iconst 4, 1) := by decide +kernel
theorem dX7_refusal_123 : decode cX7_refusal 123 = .ok (.iaload, 1) := by decide +kernel
theorem dX7_refusal_124 : decode cX7_refusal 124 = .ok (.invokevirtual 53, 3) := by decide +kernel
theorem dX7_refusal_127 : decode cX7_refusal 127 = .ok (.iadd, 1) := by decide +kernel
theorem dX7_refusal_128 : decode cX7_refusal 128 = .ok (.aload_n 0, 1) := by decide +kernel
theorem dX7_refusal_129 : decode cX7_refusal 129 = .ok (.iload_n 1, 1) := by decide +kernel
theorem dX7_refusal_130 : decode cX7_refusal 130 = .ok (.invokevirtual 74, 3) := by decide +kernel
theorem dX7_refusal_133 : decode cX7_refusal 133 = .ok (.if_icmp .le 6, 3) := by decide +kernel
theorem dX7_refusal_136 : decode cX7_refusal 136 = .ok (.bipush 6, 2) := by decide +kernel
theorem dX7_refusal_138 : decode cX7_refusal 138 = .ok (.ireturn, 1) := by decide +kernel
theorem dX7_refusal_139 : decode cX7_refusal 139 = .ok (.aload_n 0, 1) := by decide +kernel
theorem dX7_refusal_140 : decode cX7_refusal 140 = .ok (.invokevirtual 77, 3) := by decide +kernel
theorem dX7_refusal_143 : decode cX7_refusal 143 = .ok (.ifCond .eq 8, 3) := by decide +kernel
theorem dX7_refusal_146 : decode cX7_refusal 146 = .ok (.bipush 7, 2) := by decide +kernel
theorem dX7_refusal_148 : decode cX7_refusal 148 = .ok (.goto 4, 3) := by decide +kernel
theorem dX7_refusal_151 : decode cX7_refusal 151 = .ok (.iconst 0, 1) := by decide +kernel
theorem dX7_refusal_152 : decode cX7_refusal 152 = .ok (.ireturn, 1) := by decide +kernel
theorem dX7_putIn_0 : decode cX7_putIn 0 = .ok (.aload_n 0, 1) := by decide +kernel
theorem dX7_putIn_1 : decode cX7_putIn 1 = .ok (.getfield 7, 3) := by decide +kernel
theorem dX7_putIn_4 : decode cX7_putIn 4 = .ok (.bipush 39, 2) := by decide +kernel
theorem dX7_putIn_6 : decode cX7_putIn 6 = .ok (.iaload, 1) := by decide +kernel
theorem dX7_putIn_7 : decode cX7_putIn 7 = .ok (.istore_n 1, 1) := by decide +kernel
theorem dX7_putIn_8 : decode cX7_putIn 8 = .ok (.iload_n 1, 1) := by decide +kernel
theorem dX7_putIn_9 : decode cX7_putIn 9 = .ok (.ifCond .le 78, 3) := by decide +kernel
theorem dX7_putIn_12 : decode cX7_putIn 12 = .ok (.sipush 1440, 3) := by decide +kernel
theorem dX7_putIn_15 : decode cX7_putIn 15 = .ok (.aload_n 0, 1) := by decide +kernel
theorem dX7_putIn_16 : decode cX7_putIn 16 = .ok (.iload_n 1, 1) := by decide +kernel
theorem dX7_putIn_17 : decode cX7_putIn 17 = .ok (.iconst 1, 1) := by decide +kernel
theorem dX7_putIn_18 : decode cX7_putIn 18 = .ok (.isub, 1) := by decide +kernel
theorem dX7_putIn_19 : decode cX7_putIn 19 = .ok (.iconst 2, 1) := by decide +kernel
theorem dX7_putIn_20 : decode cX7_putIn 20 = .ok (.invokevirtual 45, 3) := by decide +kernel
theorem dX7_putIn_23 : decode cX7_putIn 23 = .ok (.imul, 1) := by decide +kernel
theorem dX7_putIn_24 : decode cX7_putIn 24 = .ok (.aload_n 0, 1) := by decide +kernel
theorem dX7_putIn_25 : decode cX7_putIn 25 = .ok (.iload_n 1, 1) := by decide +kernel
theorem dX7_putIn_26 : decode cX7_putIn 26 = .ok (.iconst 1, 1) := by decide +kernel
theorem dX7_putIn_27 : decode cX7_putIn 27 = .ok (.isub, 1) := by decide +kernel
theorem dX7_putIn_28 : decode cX7_putIn 28 = .ok (.iconst 3, 1) := by decide +kernel
theorem dX7_putIn_29 : decode cX7_putIn 29 = .ok (.invokevirtual 45, 3) := by decide +kernel
theorem dX7_putIn_32 : decode cX7_putIn 32 = .ok (.iadd, 1) := by decide +kernel
theorem dX7_putIn_33 : decode cX7_putIn 33 = .ok (.sipush 1440, 3) := by decide +kernel
theorem dX7_putIn_36 : decode cX7_putIn 36 = .ok (.aload_n 0, 1) := by decide +kernel
theorem dX7_putIn_37 : decode cX7_putIn 37 = .ok (.getfield 19, 3) := by decide +kernel
theorem dX7_putIn_40 : decode cX7_putIn 40 = .ok (.iconst 2, 1) := by decide +kernel
theorem dX7_putIn_41 : decode cX7_putIn 41 = .ok (.iaload, 1) := by decide +kernel
theorem dX7_putIn_42 : decode cX7_putIn 42 = .ok (.imul, 1) := by decide +kernel
theorem dX7_putIn_43 : decode cX7_putIn 43 = .ok (.aload_n 0, 1) := by decide +kernel
theorem dX7_putIn_44 : decode cX7_putIn 44 = .ok (.getfield 19, 3) := by decide +kernel
theorem dX7_putIn_47 : decode cX7_putIn 47 = .ok (.iconst 3, 1) := by decide +kernel
theorem dX7_putIn_48 : decode cX7_putIn 48 = .ok (.iaload, 1) := by decide +kernel
theorem dX7_putIn_49 : decode cX7_putIn 49 = .ok (.iadd, 1) := by decide +kernel
theorem dX7_putIn_50 : decode cX7_putIn 50 = .ok (.if_icmp .le 37, 3) := by decide +kernel
theorem dX7_putIn_53 : decode cX7_putIn 53 = .ok (.iconst 0, 1) := by decide +kernel
theorem dX7_putIn_54 : decode cX7_putIn 54 = .ok (.istore_n 2, 1) := by decide +kernel
theorem dX7_putIn_55 : decode cX7_putIn 55 = .ok (.iload_n 2, 1) := by decide +kernel
theorem dX7_putIn_56 : decode cX7_putIn 56 = .ok (.bipush 8, 2) := by decide +kernel
theorem dX7_putIn_58 : decode cX7_putIn 58 = .ok (.if_icmp .ge 23, 3) := by decide +kernel
theorem dX7_putIn_61 : decode cX7_putIn 61 = .ok (.aload_n 0, 1) := by decide +kernel
theorem dX7_putIn_62 : decode cX7_putIn 62 = .ok (.iload_n 1, 1) := by decide +kernel
theorem dX7_putIn_63 : decode cX7_putIn 63 = .ok (.iload_n 2, 1) := by decide +kernel
theorem dX7_putIn_64 : decode cX7_putIn 64 = .ok (.aload_n 0, 1) := by decide +kernel
theorem dX7_putIn_65 : decode cX7_putIn 65 = .ok (.iload_n 1, 1) := by decide +kernel
theorem dX7_putIn_66 : decode cX7_putIn 66 = .ok (.iconst 1, 1) := by decide +kernel
theorem dX7_putIn_67 : decode cX7_putIn 67 = .ok (.isub, 1) := by decide +kernel
theorem dX7_putIn_68 : decode cX7_putIn 68 = .ok (.iload_n 2, 1) := by decide +kernel
theorem dX7_putIn_69 : decode cX7_putIn 69 = .ok (.invokevirtual 45, 3) := by decide +kernel
theorem dX7_putIn_72 : decode cX7_putIn 72 = .ok (.invokevirtual 80, 3) := by decide +kernel
theorem dX7_putIn_75 : decode cX7_putIn 75 = .ok (.iinc 2 1, 3) := by decide +kernel
theorem dX7_putIn_78 : decode cX7_putIn 78 = .ok (.goto (-23), 3) := by decide +kernel
theorem dX7_putIn_81 : decode cX7_putIn 81 = .ok (.iinc 1 (-1), 3) := by decide +kernel
theorem dX7_putIn_84 : decode cX7_putIn 84 = .ok (.goto (-76), 3) := by decide +kernel
theorem dX7_putIn_87 : decode cX7_putIn 87 = .ok (.iconst 0, 1) := by decide +kernel
theorem dX7_putIn_88 : decode cX7_putIn 88 = .ok (.istore_n 2, 1) := by decide +kernel
theorem dX7_putIn_89 : decode cX7_putIn 89 = .ok (.iload_n 2, 1) := by decide +kernel
theorem dX7_putIn_90 : decode cX7_putIn 90 = .ok (.bipush 8, 2) := by decide +kernel
theorem dX7_putIn_92 : decode cX7_putIn 92 = .ok (.if_icmp .ge 21, 3) := by decide +kernel
theorem dX7_putIn_95 : decode cX7_putIn 95 = .ok (.aload_n 0, 1) := by decide +kernel
theorem dX7_putIn_96 : decode cX7_putIn 96 = .ok (.iload_n 1, 1) := by decide +kernel
theorem dX7_putIn_97 : decode cX7_putIn 97 = .ok (.iload_n 2, 1) := by decide +kernel
theorem dX7_putIn_98 : decode cX7_putIn 98 = .ok (.aload_n 0, 1) := by decide +kernel
theorem dX7_putIn_99 : decode cX7_putIn 99 = .ok (.getfield 19, 3) := by decide +kernel
theorem dX7_putIn_102 : decode cX7_putIn 102 = .ok (.iload_n 2, 1) := by decide +kernel
theorem dX7_putIn_103 : decode cX7_putIn 103 = .ok (.iaload, 1) := by decide +kernel
theorem dX7_putIn_104 : decode cX7_putIn 104 = .ok (.invokevirtual 80, 3) := by decide +kernel
theorem dX7_putIn_107 : decode cX7_putIn 107 = .ok (.iinc 2 1, 3) := by decide +kernel
theorem dX7_putIn_110 : decode cX7_putIn 110 = .ok (.goto (-21), 3) := by decide +kernel
theorem dX7_putIn_113 : decode cX7_putIn 113 = .ok (.aload_n 0, 1) := by decide +kernel
theorem dX7_putIn_114 : decode cX7_putIn 114 = .ok (.getfield 7, 3) := by decide +kernel
theorem dX7_putIn_117 : decode cX7_putIn 117 = .ok (.bipush 39, 2) := by decide +kernel
theorem dX7_putIn_119 : decode cX7_putIn 119 = .ok (.dup2, 1) := by decide +kernel
theorem dX7_putIn_120 : decode cX7_putIn 120 = .ok (.iaload, 1) := by decide +kernel
theorem dX7_putIn_121 : decode cX7_putIn 121 = .ok (.iconst 1, 1) := by decide +kernel
theorem dX7_putIn_122 : decode cX7_putIn 122 = .ok (.iadd, 1) := by decide +kernel
theorem dX7_putIn_123 : decode cX7_putIn 123 = .ok (.iastore, 1) := by decide +kernel
theorem dX7_putIn_124 : decode cX7_putIn 124 = .ok (.iconst 0, 1) := by decide +kernel
theorem dX7_putIn_125 : decode cX7_putIn 125 = .ok (.istore_n 2, 1) := by decide +kernel
theorem dX7_putIn_126 : decode cX7_putIn 126 = .ok (.iload_n 2, 1) := by decide +kernel
theorem dX7_putIn_127 : decode cX7_putIn 127 = .ok (.aload_n 0, 1) := by decide +kernel
theorem dX7_putIn_128 : decode cX7_putIn 128 = .ok (.getfield 7, 3) := by decide +kernel
theorem dX7_putIn_131 : decode cX7_putIn 131 = .ok (.bipush 39, 2) := by decide +kernel
theorem dX7_putIn_133 : decode cX7_putIn 133 = .ok (.iaload, 1) := by decide +kernel
theorem dX7_putIn_134 : decode cX7_putIn 134 = .ok (.if_icmp .ge 36, 3) := by decide +kernel
theorem dX7_putIn_137 : decode cX7_putIn 137 = .ok (.aload_n 0, 1) := by decide +kernel
theorem dX7_putIn_138 : decode cX7_putIn 138 = .ok (.iload_n 2, 1) := by decide +kernel
theorem dX7_putIn_139 : decode cX7_putIn 139 = .ok (.bipush 7, 2) := by decide +kernel
theorem dX7_putIn_141 : decode cX7_putIn 141 = .ok (.invokevirtual 45, 3) := by decide +kernel
theorem dX7_putIn_144 : decode cX7_putIn 144 = .ok (.iload_n 1, 1) := by decide +kernel
theorem dX7_putIn_145 : decode cX7_putIn 145 = .ok (.if_icmp .lt 19, 3) := by decide +kernel
theorem dX7_putIn_148 : decode cX7_putIn 148 = .ok (.aload_n 0, 1) := by decide +kernel
theorem dX7_putIn_149 : decode cX7_putIn 149 = .ok (.iload_n 2, 1) := by decide +kernel
theorem dX7_putIn_150 : decode cX7_putIn 150 = .ok (.bipush 7, 2) := by decide +kernel
theorem dX7_putIn_152 : decode cX7_putIn 152 = .ok (.aload_n 0, 1) := by decide +kernel
theorem dX7_putIn_153 : decode cX7_putIn 153 = .ok (.iload_n 2, 1) := by decide +kernel
theorem dX7_putIn_154 : decode cX7_putIn 154 = .ok (.bipush 7, 2) := by decide +kernel
theorem dX7_putIn_156 : decode cX7_putIn 156 = .ok (.invokevirtual 45, 3) := by decide +kernel
theorem dX7_putIn_159 : decode cX7_putIn 159 = .ok (.iconst 1, 1) := by decide +kernel
theorem dX7_putIn_160 : decode cX7_putIn 160 = .ok (.iadd, 1) := by decide +kernel
theorem dX7_putIn_161 : decode cX7_putIn 161 = .ok (.invokevirtual 80, 3) := by decide +kernel
theorem dX7_putIn_164 : decode cX7_putIn 164 = .ok (.iinc 2 1, 3) := by decide +kernel
theorem dX7_putIn_167 : decode cX7_putIn 167 = .ok (.goto (-41), 3) := by decide +kernel
theorem dX7_putIn_170 : decode cX7_putIn 170 = .ok (.iload_n 1, 1) := by decide +kernel
theorem dX7_putIn_171 : decode cX7_putIn 171 = .ok (.ireturn, 1) := by decide +kernel
theorem dX7_takeOut_0 : decode cX7_takeOut 0 = .ok (.aload_n 0, 1) := by decide +kernel
theorem dX7_takeOut_1 : decode cX7_takeOut 1 = .ok (.getfield 7, 3) := by decide +kernel
theorem dX7_takeOut_4 : decode cX7_takeOut 4 = .ok (.bipush 39, 2) := by decide +kernel
theorem dX7_takeOut_6 : decode cX7_takeOut 6 = .ok (.dup2, 1) := by decide +kernel
theorem dX7_takeOut_7 : decode cX7_takeOut 7 = .ok (.iaload, 1) := by decide +kernel
theorem dX7_takeOut_8 : decode cX7_takeOut 8 = .ok (.iconst 1, 1) := by decide +kernel
theorem dX7_takeOut_9 : decode cX7_takeOut 9 = .ok (.isub, 1) := by decide +kernel
theorem dX7_takeOut_10 : decode cX7_takeOut 10 = .ok (.iastore, 1) := by decide +kernel
theorem dX7_takeOut_11 : decode cX7_takeOut 11 = .ok (.bipush 40, 2) := by decide +kernel
theorem dX7_takeOut_13 : decode cX7_takeOut 13 = .ok (.bipush 8, 2) := by decide +kernel
theorem dX7_takeOut_15 : decode cX7_takeOut 15 = .ok (.iload_n 1, 1) := by decide +kernel
theorem dX7_takeOut_16 : decode cX7_takeOut 16 = .ok (.imul, 1) := by decide +kernel
theorem dX7_takeOut_17 : decode cX7_takeOut 17 = .ok (.iadd, 1) := by decide +kernel
theorem dX7_takeOut_18 : decode cX7_takeOut 18 = .ok (.istore_n 2, 1) := by decide +kernel
theorem dX7_takeOut_19 : decode cX7_takeOut 19 = .ok (.iload_n 2, 1) := by decide +kernel
theorem dX7_takeOut_20 : decode cX7_takeOut 20 = .ok (.bipush 40, 2) := by decide +kernel
theorem dX7_takeOut_22 : decode cX7_takeOut 22 = .ok (.bipush 8, 2) := by decide +kernel
theorem dX7_takeOut_24 : decode cX7_takeOut 24 = .ok (.aload_n 0, 1) := by decide +kernel
theorem dX7_takeOut_25 : decode cX7_takeOut 25 = .ok (.getfield 7, 3) := by decide +kernel
theorem dX7_takeOut_28 : decode cX7_takeOut 28 = .ok (.bipush 39, 2) := by decide +kernel
theorem dX7_takeOut_30 : decode cX7_takeOut 30 = .ok (.iaload, 1) := by decide +kernel
theorem dX7_takeOut_31 : decode cX7_takeOut 31 = .ok (.imul, 1) := by decide +kernel
theorem dX7_takeOut_32 : decode cX7_takeOut 32 = .ok (.iadd, 1) := by decide +kernel
theorem dX7_takeOut_33 : decode cX7_takeOut 33 = .ok (.if_icmp .ge 24, 3) := by decide +kernel
theorem dX7_takeOut_36 : decode cX7_takeOut 36 = .ok (.aload_n 0, 1) := by decide +kernel
theorem dX7_takeOut_37 : decode cX7_takeOut 37 = .ok (.getfield 7, 3) := by decide +kernel
theorem dX7_takeOut_40 : decode cX7_takeOut 40 = .ok (.iload_n 2, 1) := by decide +kernel
theorem dX7_takeOut_41 : decode cX7_takeOut 41 = .ok (.aload_n 0, 1) := by decide +kernel
theorem dX7_takeOut_42 : decode cX7_takeOut 42 = .ok (.getfield 7, 3) := by decide +kernel
theorem dX7_takeOut_45 : decode cX7_takeOut 45 = .ok (.iload_n 2, 1) := by decide +kernel
theorem dX7_takeOut_46 : decode cX7_takeOut 46 = .ok (.bipush 8, 2) := by decide +kernel
theorem dX7_takeOut_48 : decode cX7_takeOut 48 = .ok (.iadd, 1) := by decide +kernel
theorem dX7_takeOut_49 : decode cX7_takeOut 49 = .ok (.iaload, 1) := by decide +kernel
theorem dX7_takeOut_50 : decode cX7_takeOut 50 = .ok (.iastore, 1) := by decide +kernel
theorem dX7_takeOut_51 : decode cX7_takeOut 51 = .ok (.iinc 2 1, 3) := by decide +kernel
theorem dX7_takeOut_54 : decode cX7_takeOut 54 = .ok (.goto (-35), 3) := by decide +kernel
theorem dX7_takeOut_57 : decode cX7_takeOut 57 = .ok (.iconst 0, 1) := by decide +kernel
theorem dX7_takeOut_58 : decode cX7_takeOut 58 = .ok (.istore_n 2, 1) := by decide +kernel
theorem dX7_takeOut_59 : decode cX7_takeOut 59 = .ok (.iload_n 2, 1) := by decide +kernel
theorem dX7_takeOut_60 : decode cX7_takeOut 60 = .ok (.aload_n 0, 1) := by decide +kernel
theorem dX7_takeOut_61 : decode cX7_takeOut 61 = .ok (.getfield 7, 3) := by decide +kernel
theorem dX7_takeOut_64 : decode cX7_takeOut 64 = .ok (.bipush 39, 2) := by decide +kernel
theorem dX7_takeOut_66 : decode cX7_takeOut 66 = .ok (.iaload, 1) := by decide +kernel
theorem dX7_takeOut_67 : decode cX7_takeOut 67 = .ok (.if_icmp .ge 36, 3) := by decide +kernel
theorem dX7_takeOut_70 : decode cX7_takeOut 70 = .ok (.aload_n 0, 1) := by decide +kernel
theorem dX7_takeOut_71 : decode cX7_takeOut 71 = .ok (.iload_n 2, 1) := by decide +kernel
theorem dX7_takeOut_72 : decode cX7_takeOut 72 = .ok (.bipush 7, 2) := by decide +kernel
theorem dX7_takeOut_74 : decode cX7_takeOut 74 = .ok (.invokevirtual 45, 3) := by decide +kernel
theorem dX7_takeOut_77 : decode cX7_takeOut 77 = .ok (.iload_n 1, 1) := by decide +kernel
theorem dX7_takeOut_78 : decode cX7_takeOut 78 = .ok (.if_icmp .le 19, 3) := by decide +kernel
theorem dX7_takeOut_81 : decode cX7_takeOut 81 = .ok (.aload_n 0, 1) := by decide +kernel
theorem dX7_takeOut_82 : decode cX7_takeOut 82 = .ok (.iload_n 2, 1) := by decide +kernel
theorem dX7_takeOut_83 : decode cX7_takeOut 83 = .ok (.bipush 7, 2) := by decide +kernel
theorem dX7_takeOut_85 : decode cX7_takeOut 85 = .ok (.aload_n 0, 1) := by decide +kernel
theorem dX7_takeOut_86 : decode cX7_takeOut 86 = .ok (.iload_n 2, 1) := by decide +kernel
theorem dX7_takeOut_87 : decode cX7_takeOut 87 = .ok (.bipush 7, 2) := by decide +kernel
theorem dX7_takeOut_89 : decode cX7_takeOut 89 = .ok (.invokevirtual 45, 3) := by decide +kernel
theorem dX7_takeOut_92 : decode cX7_takeOut 92 = .ok (.iconst 1, 1) := by decide +kernel
theorem dX7_takeOut_93 : decode cX7_takeOut 93 = .ok (.isub, 1) := by decide +kernel
theorem dX7_takeOut_94 : decode cX7_takeOut 94 = .ok (.invokevirtual 80, 3) := by decide +kernel
theorem dX7_takeOut_97 : decode cX7_takeOut 97 = .ok (.iinc 2 1, 3) := by decide +kernel
theorem dX7_takeOut_100 : decode cX7_takeOut 100 = .ok (.goto (-41), 3) := by decide +kernel
theorem dX7_takeOut_103 : decode cX7_takeOut 103 = .ok (.return_, 1) := by decide +kernel
theorem dX7_layDay_0 : decode cX7_layDay 0 = .ok (.aload_n 0, 1) := by decide +kernel
theorem dX7_layDay_1 : decode cX7_layDay 1 = .ok (.aload_n 0, 1) := by decide +kernel
theorem dX7_layDay_2 : decode cX7_layDay 2 = .ok (.getfield 7, 3) := by decide +kernel
theorem dX7_layDay_5 : decode cX7_layDay 5 = .ok (.iconst 0, 1) := by decide +kernel
theorem dX7_layDay_6 : decode cX7_layDay 6 = .ok (.iaload, 1) := by decide +kernel
theorem dX7_layDay_7 : decode cX7_layDay 7 = .ok (.putfield 84, 3) := by decide +kernel
theorem dX7_layDay_10 : decode cX7_layDay 10 = .ok (.iconst 0, 1) := by decide +kernel
theorem dX7_layDay_11 : decode cX7_layDay 11 = .ok (.istore_n 2, 1) := by decide +kernel
theorem dX7_layDay_12 : decode cX7_layDay 12 = .ok (.iload_n 2, 1) := by decide +kernel
theorem dX7_layDay_13 : decode cX7_layDay 13 = .ok (.aload_n 0, 1) := by decide +kernel
theorem dX7_layDay_14 : decode cX7_layDay 14 = .ok (.getfield 7, 3) := by decide +kernel
theorem dX7_layDay_17 : decode cX7_layDay 17 = .ok (.bipush 39, 2) := by decide +kernel
theorem dX7_layDay_19 : decode cX7_layDay 19 = .ok (.iaload, 1) := by decide +kernel
theorem dX7_layDay_20 : decode cX7_layDay 20 = .ok (.if_icmp .ge 24, 3) := by decide +kernel
theorem dX7_layDay_23 : decode cX7_layDay 23 = .ok (.aload_n 0, 1) := by decide +kernel
theorem dX7_layDay_24 : decode cX7_layDay 24 = .ok (.iload_n 2, 1) := by decide +kernel
theorem dX7_layDay_25 : decode cX7_layDay 25 = .ok (.iconst 2, 1) := by decide +kernel
theorem dX7_layDay_26 : decode cX7_layDay 26 = .ok (.invokevirtual 45, 3) := by decide +kernel
theorem dX7_layDay_29 : decode cX7_layDay 29 = .ok (.iload_n 1, 1) := by decide +kernel
theorem dX7_layDay_30 : decode cX7_layDay 30 = .ok (.if_icmp .ne 8, 3) := by decide +kernel
theorem dX7_layDay_33 : decode cX7_layDay 33 = .ok (.aload_n 0, 1) := by decide +kernel
theorem dX7_layDay_34 : decode cX7_layDay 34 = .ok (.iload_n 2, 1) := by decide +kernel
theorem dX7_layDay_35 : decode cX7_layDay 35 = .ok (.invokevirtual 87, 3) := by decide +kernel
theorem dX7_layDay_38 : decode cX7_layDay 38 = .ok (.iinc 2 1, 3) := by decide +kernel
theorem dX7_layDay_41 : decode cX7_layDay 41 = .ok (.goto (-29), 3) := by decide +kernel
theorem dX7_layDay_44 : decode cX7_layDay 44 = .ok (.return_, 1) := by decide +kernel
theorem dX7_layShow_0 : decode cX7_layShow 0 = .ok (.aload_n 0, 1) := by decide +kernel
theorem dX7_layShow_1 : decode cX7_layShow 1 = .ok (.iload_n 1, 1) := by decide +kernel
theorem dX7_layShow_2 : decode cX7_layShow 2 = .ok (.iconst 3, 1) := by decide +kernel
theorem dX7_layShow_3 : decode cX7_layShow 3 = .ok (.invokevirtual 45, 3) := by decide +kernel
theorem dX7_layShow_6 : decode cX7_layShow 6 = .ok (.aload_n 0, 1) := by decide +kernel
theorem dX7_layShow_7 : decode cX7_layShow 7 = .ok (.getfield 84, 3) := by decide +kernel
theorem dX7_layShow_10 : decode cX7_layShow 10 = .ok (.if_icmp .le 12, 3) := by decide +kernel
theorem dX7_layShow_13 : decode cX7_layShow 13 = .ok (.aload_n 0, 1) := by decide +kernel
theorem dX7_layShow_14 : decode cX7_layShow 14 = .ok (.iload_n 1, 1) := by decide +kernel
theorem dX7_layShow_15 : decode cX7_layShow 15 = .ok (.iconst 3, 1) := by decide +kernel
theorem dX7_layShow_16 : decode cX7_layShow 16 = .ok (.invokevirtual 45, 3) := by decide +kernel
theorem dX7_layShow_19 : decode cX7_layShow 19 = .ok (.goto 7, 3) := by decide +kernel
theorem dX7_layShow_22 : decode cX7_layShow 22 = .ok (.aload_n 0, 1) := by decide +kernel
theorem dX7_layShow_23 : decode cX7_layShow 23 = .ok (.getfield 84, 3) := by decide +kernel
theorem dX7_layShow_26 : decode cX7_layShow 26 = .ok (.istore_n 2, 1) := by decide +kernel
theorem dX7_layShow_27 : decode cX7_layShow 27 = .ok (.aload_n 0, 1) := by decide +kernel
theorem dX7_layShow_28 : decode cX7_layShow 28 = .ok (.getfield 7, 3) := by decide +kernel
theorem dX7_layShow_31 : decode cX7_layShow 31 = .ok (.aload_n 0, 1) := by decide +kernel
theorem dX7_layShow_32 : decode cX7_layShow 32 = .ok (.iload_n 1, 1) := by decide +kernel
theorem dX7_layShow_33 : decode cX7_layShow 33 = .ok (.iconst 0, 1) := by decide +kernel
theorem dX7_layShow_34 : decode cX7_layShow 34 = .ok (.invokevirtual 45, 3) := by decide +kernel
theorem dX7_layShow_37 : decode cX7_layShow 37 = .ok (.ifCond .ne 7, 3) := by decide +kernel
theorem dX7_layShow_40 : decode cX7_layShow 40 = .ok (.iconst 2, 1) := by decide +kernel
theorem dX7_layShow_41 : decode cX7_layShow 41 = .ok (.goto 4, 3) := by decide +kernel
theorem dX7_layShow_44 : decode cX7_layShow 44 = .ok (.iconst 3, 1) := by decide +kernel
theorem dX7_layShow_45 : decode cX7_layShow 45 = .ok (.iaload, 1) := by decide +kernel
theorem dX7_layShow_46 : decode cX7_layShow 46 = .ok (.istore_n 3, 1) := by decide +kernel
theorem dX7_layShow_47 : decode cX7_layShow 47 = .ok (.aload_n 0, 1) := by decide +kernel
theorem dX7_layShow_48 : decode cX7_layShow 48 = .ok (.getfield 28, 3) := by decide +kernel
theorem dX7_layShow_51 : decode cX7_layShow 51 = .ok (.iload_n 1, 1) := by decide +kernel
theorem dX7_layShow_52 : decode cX7_layShow 52 = .ok (.iload_n 2, 1) := by decide +kernel
theorem dX7_layShow_53 : decode cX7_layShow 53 = .ok (.aload_n 0, 1) := by decide +kernel
theorem dX7_layShow_54 : decode cX7_layShow 54 = .ok (.iload_n 1, 1) := by decide +kernel
theorem dX7_layShow_55 : decode cX7_layShow 55 = .ok (.iconst 3, 1) := by decide +kernel
theorem dX7_layShow_56 : decode cX7_layShow 56 = .ok (.invokevirtual 45, 3) := by decide +kernel
theorem dX7_layShow_59 : decode cX7_layShow 59 = .ok (.isub, 1) := by decide +kernel
theorem dX7_layShow_60 : decode cX7_layShow 60 = .ok (.iastore, 1) := by decide +kernel
theorem dX7_layShow_61 : decode cX7_layShow 61 = .ok (.aload_n 0, 1) := by decide +kernel
theorem dX7_layShow_62 : decode cX7_layShow 62 = .ok (.getfield 22, 3) := by decide +kernel
theorem dX7_layShow_65 : decode cX7_layShow 65 = .ok (.iload_n 1, 1) := by decide +kernel
theorem dX7_layShow_66 : decode cX7_layShow 66 = .ok (.iconst (-1), 1) := by decide +kernel
theorem dX7_layShow_67 : decode cX7_layShow 67 = .ok (.iastore, 1) := by decide +kernel
theorem dX7_layShow_68 : decode cX7_layShow 68 = .ok (.aload_n 0, 1) := by decide +kernel
theorem dX7_layShow_69 : decode cX7_layShow 69 = .ok (.getfield 25, 3) := by decide +kernel
theorem dX7_layShow_72 : decode cX7_layShow 72 = .ok (.iload_n 1, 1) := by decide +kernel
theorem dX7_layShow_73 : decode cX7_layShow 73 = .ok (.iconst 0, 1) := by decide +kernel
theorem dX7_layShow_74 : decode cX7_layShow 74 = .ok (.iastore, 1) := by decide +kernel
theorem dX7_layShow_75 : decode cX7_layShow 75 = .ok (.aload_n 0, 1) := by decide +kernel
theorem dX7_layShow_76 : decode cX7_layShow 76 = .ok (.getfield 31, 3) := by decide +kernel
theorem dX7_layShow_79 : decode cX7_layShow 79 = .ok (.iload_n 1, 1) := by decide +kernel
theorem dX7_layShow_80 : decode cX7_layShow 80 = .ok (.iconst 2, 1) := by decide +kernel
theorem dX7_layShow_81 : decode cX7_layShow 81 = .ok (.iastore, 1) := by decide +kernel
theorem dX7_layShow_82 : decode cX7_layShow 82 = .ok (.aload_n 0, 1) := by decide +kernel
theorem dX7_layShow_83 : decode cX7_layShow 83 = .ok (.getfield 28, 3) := by decide +kernel
theorem dX7_layShow_86 : decode cX7_layShow 86 = .ok (.iload_n 1, 1) := by decide +kernel
theorem dX7_layShow_87 : decode cX7_layShow 87 = .ok (.iaload, 1) := by decide +kernel
theorem dX7_layShow_88 : decode cX7_layShow 88 = .ok (.iload_n 3, 1) := by decide +kernel
theorem dX7_layShow_89 : decode cX7_layShow 89 = .ok (.if_icmp .gt 13, 3) := by decide +kernel
theorem dX7_layShow_92 : decode cX7_layShow 92 = .ok (.iload_n 2, 1) := by decide +kernel
theorem dX7_layShow_93 : decode cX7_layShow 93 = .ok (.aload_n 0, 1) := by decide +kernel
theorem dX7_layShow_94 : decode cX7_layShow 94 = .ok (.getfield 7, 3) := by decide +kernel
theorem dX7_layShow_97 : decode cX7_layShow 97 = .ok (.iconst 1, 1) := by decide +kernel
theorem dX7_layShow_98 : decode cX7_layShow 98 = .ok (.iaload, 1) := by decide +kernel
theorem dX7_layShow_99 : decode cX7_layShow 99 = .ok (.if_icmp .lt 4, 3) := by decide +kernel
theorem dX7_layShow_102 : decode cX7_layShow 102 = .ok (.return_, 1) := by decide +kernel
theorem dX7_layShow_103 : decode cX7_layShow 103 = .ok (.aload_n 0, 1) := by decide +kernel
theorem dX7_layShow_104 : decode cX7_layShow 104 = .ok (.iload_n 1, 1) := by decide +kernel
theorem dX7_layShow_105 : decode cX7_layShow 105 = .ok (.iconst 4, 1) := by decide +kernel
theorem dX7_layShow_106 : decode cX7_layShow 106 = .ok (.invokevirtual 45, 3) := by decide +kernel
theorem dX7_layShow_109 : decode cX7_layShow 109 = .ok (.aload_n 0, 1) := by decide +kernel
theorem dX7_layShow_110 : decode cX7_layShow 110 = .ok (.iload_n 1, 1) := by decide +kernel
theorem dX7_layShow_111 : decode cX7_layShow 111 = .ok (.bipush 6, 2) := by decide +kernel
theorem dX7_layShow_113 : decode cX7_layShow 113 = .ok (.invokevirtual 45, 3) := by decide +kernel
theorem dX7_layShow_116 : decode cX7_layShow 116 = .ok (.iadd, 1) := by decide +kernel
theorem dX7_layShow_117 : decode cX7_layShow 117 = .ok (.istore 4, 2) := by decide +kernel
theorem dX7_layShow_119 : decode cX7_layShow 119 = .ok (.iload 4, 2) := by decide +kernel
theorem dX7_layShow_121 : decode cX7_layShow 121 = .ok (.iconst 1, 1) := by decide +kernel
theorem dX7_layShow_122 : decode cX7_layShow 122 = .ok (.if_icmp .ge 7, 3) := by decide +kernel
theorem dX7_layShow_125 : decode cX7_layShow 125 = .ok (.iconst 1, 1) := by decide +kernel
theorem dX7_layShow_126 : decode cX7_layShow 126 = .ok (.goto 5, 3) := by decide +kernel
theorem dX7_layShow_129 : decode cX7_layShow 129 = .ok (.iload 4, 2) := by decide +kernel
theorem dX7_layShow_131 : decode cX7_layShow 131 = .ok (.istore 4, 2) := by decide +kernel
theorem dX7_layShow_133 : decode cX7_layShow 133 = .ok (.iload_n 2, 1) := by decide +kernel
theorem dX7_layShow_134 : decode cX7_layShow 134 = .ok (.iload 4, 2) := by decide +kernel
theorem dX7_layShow_136 : decode cX7_layShow 136 = .ok (.iadd, 1) := by decide +kernel
theorem dX7_layShow_137 : decode cX7_layShow 137 = .ok (.aload_n 0, 1) := by decide +kernel
theorem dX7_layShow_138 : decode cX7_layShow 138 = .ok (.getfield 7, 3) := by decide +kernel
theorem dX7_layShow_141 : decode cX7_layShow 141 = .ok (.iconst 1, 1) := by decide +kernel
theorem dX7_layShow_142 : decode cX7_layShow 142 = .ok (.iaload, 1) := by decide +kernel
theorem dX7_layShow_143 : decode cX7_layShow 143 = .ok (.if_icmp .le 7, 3) := by decide +kernel
theorem dX7_layShow_146 : decode cX7_layShow 146 = .ok (.iconst 1, 1) := by decide +kernel
theorem dX7_layShow_147 : decode cX7_layShow 147 = .ok (.goto 4, 3) := by decide +kernel
theorem dX7_layShow_150 : decode cX7_layShow 150 = .ok (.iconst 0, 1) := by decide +kernel
theorem dX7_layShow_151 : decode cX7_layShow 151 = .ok (.istore 5, 2) := by decide +kernel
theorem dX7_layShow_153 : decode cX7_layShow 153 = .ok (.aload_n 0, 1) := by decide +kernel
theorem dX7_layShow_154 : decode cX7_layShow 154 = .ok (.getfield 22, 3) := by decide +kernel
theorem dX7_layShow_157 : decode cX7_layShow 157 = .ok (.iload_n 1, 1) := by decide +kernel
theorem dX7_layShow_158 : decode cX7_layShow 158 = .ok (.iload_n 2, 1) := by decide +kernel
theorem dX7_layShow_159 : decode cX7_layShow 159 = .ok (.iastore, 1) := by decide +kernel
theorem dX7_layShow_160 : decode cX7_layShow 160 = .ok (.aload_n 0, 1) := by decide +kernel
theorem dX7_layShow_161 : decode cX7_layShow 161 = .ok (.getfield 25, 3) := by decide +kernel
theorem dX7_layShow_164 : decode cX7_layShow 164 = .ok (.iload_n 1, 1) := by decide +kernel
theorem dX7_layShow_165 : decode cX7_layShow 165 = .ok (.iload 5, 2) := by decide +kernel
theorem dX7_layShow_167 : decode cX7_layShow 167 = .ok (.ifCond .eq 14, 3) := by decide +kernel
theorem dX7_layShow_170 : decode cX7_layShow 170 = .ok (.aload_n 0, 1) := by decide +kernel
theorem dX7_layShow_171 : decode cX7_layShow 171 = .ok (.getfield 7, 3) := by decide +kernel
theorem dX7_layShow_174 : decode cX7_layShow 174 = .ok (.iconst 1, 1) := by decide +kernel
theorem dX7_layShow_175 : decode cX7_layShow 175 = .ok (.iaload, 1) := by decide +kernel
theorem dX7_layShow_176 : decode cX7_layShow 176 = .ok (.iload_n 2, 1) := by decide +kernel
theorem dX7_layShow_177 : decode cX7_layShow 177 = .ok (.isub, 1) := by decide +kernel
theorem dX7_layShow_178 : decode cX7_layShow 178 = .ok (.goto 5, 3) := by decide +kernel
theorem dX7_layShow_181 : decode cX7_layShow 181 = .ok (.iload 4, 2) := by decide +kernel
theorem dX7_layShow_183 : decode cX7_layShow 183 = .ok (.iastore, 1) := by decide +kernel
theorem dX7_layShow_184 : decode cX7_layShow 184 = .ok (.aload_n 0, 1) := by decide +kernel
theorem dX7_layShow_185 : decode cX7_layShow 185 = .ok (.getfield 31, 3) := by decide +kernel
theorem dX7_layShow_188 : decode cX7_layShow 188 = .ok (.iload_n 1, 1) := by decide +kernel
theorem dX7_layShow_189 : decode cX7_layShow 189 = .ok (.aload_n 0, 1) := by decide +kernel
theorem dX7_layShow_190 : decode cX7_layShow 190 = .ok (.getfield 28, 3) := by decide +kernel
theorem dX7_layShow_193 : decode cX7_layShow 193 = .ok (.iload_n 1, 1) := by decide +kernel
theorem dX7_layShow_194 : decode cX7_layShow 194 = .ok (.iaload, 1) := by decide +kernel
theorem dX7_layShow_195 : decode cX7_layShow 195 = .ok (.ifCond .le 7, 3) := by decide +kernel
theorem dX7_layShow_198 : decode cX7_layShow 198 = .ok (.iconst 1, 1) := by decide +kernel
theorem dX7_layShow_199 : decode cX7_layShow 199 = .ok (.goto 4, 3) := by decide +kernel
theorem dX7_layShow_202 : decode cX7_layShow 202 = .ok (.iconst 0, 1) := by decide +kernel
theorem dX7_layShow_203 : decode cX7_layShow 203 = .ok (.iload 5, 2) := by decide +kernel
theorem dX7_layShow_205 : decode cX7_layShow 205 = .ok (.ifCond .eq 7, 3) := by decide +kernel
theorem dX7_layShow_208 : decode cX7_layShow 208 = .ok (.iconst 4, 1) := by decide +kernel
theorem dX7_layShow_209 : decode cX7_layShow 209 = .ok (.goto 4, 3) := by decide +kernel
theorem dX7_layShow_212 : decode cX7_layShow 212 = .ok (.iconst 0, 1) := by decide +kernel
theorem dX7_layShow_213 : decode cX7_layShow 213 = .ok (.iadd, 1) := by decide +kernel
theorem dX7_layShow_214 : decode cX7_layShow 214 = .ok (.iastore, 1) := by decide +kernel
theorem dX7_layShow_215 : decode cX7_layShow 215 = .ok (.aload_n 0, 1) := by decide +kernel
theorem dX7_layShow_216 : decode cX7_layShow 216 = .ok (.iload_n 2, 1) := by decide +kernel
theorem dX7_layShow_217 : decode cX7_layShow 217 = .ok (.aload_n 0, 1) := by decide +kernel
theorem dX7_layShow_218 : decode cX7_layShow 218 = .ok (.getfield 25, 3) := by decide +kernel
theorem dX7_layShow_221 : decode cX7_layShow 221 = .ok (.iload_n 1, 1) := by decide +kernel
theorem dX7_layShow_222 : decode cX7_layShow 222 = .ok (.iaload, 1) := by decide +kernel
theorem dX7_layShow_223 : decode cX7_layShow 223 = .ok (.iadd, 1) := by decide +kernel
theorem dX7_layShow_224 : decode cX7_layShow 224 = .ok (.putfield 84, 3) := by decide +kernel
theorem dX7_layShow_227 : decode cX7_layShow 227 = .ok (.return_, 1) := by decide +kernel
theorem dX7_layAll_0 : decode cX7_layAll 0 = .ok (.iconst 0, 1) := by decide +kernel
theorem dX7_layAll_1 : decode cX7_layAll 1 = .ok (.istore_n 1, 1) := by decide +kernel
theorem dX7_layAll_2 : decode cX7_layAll 2 = .ok (.iload_n 1, 1) := by decide +kernel
theorem dX7_layAll_3 : decode cX7_layAll 3 = .ok (.bipush 7, 2) := by decide +kernel
theorem dX7_layAll_5 : decode cX7_layAll 5 = .ok (.if_icmp .ge 14, 3) := by decide +kernel
theorem dX7_layAll_8 : decode cX7_layAll 8 = .ok (.aload_n 0, 1) := by decide +kernel
theorem dX7_layAll_9 : decode cX7_layAll 9 = .ok (.iload_n 1, 1) := by decide +kernel
theorem dX7_layAll_10 : decode cX7_layAll 10 = .ok (.invokevirtual 91, 3) := by decide +kernel
theorem dX7_layAll_13 : decode cX7_layAll 13 = .ok (.iinc 1 1, 3) := by decide +kernel
theorem dX7_layAll_16 : decode cX7_layAll 16 = .ok (.goto (-14), 3) := by decide +kernel
theorem dX7_layAll_19 : decode cX7_layAll 19 = .ok (.return_, 1) := by decide +kernel
theorem dX7_aired_0 : decode cX7_aired 0 = .ok (.iconst 0, 1) := by decide +kernel
theorem dX7_aired_1 : decode cX7_aired 1 = .ok (.istore_n 3, 1) := by decide +kernel
theorem dX7_aired_2 : decode cX7_aired 2 = .ok (.iconst 0, 1) := by decide +kernel
theorem dX7_aired_3 : decode cX7_aired 3 = .ok (.istore 4, 2) := by decide +kernel
theorem dX7_aired_5 : decode cX7_aired 5 = .ok (.iload 4, 2) := by decide +kernel
theorem dX7_aired_7 : decode cX7_aired 7 = .ok (.aload_n 0, 1) := by decide +kernel
theorem dX7_aired_8 : decode cX7_aired 8 = .ok (.getfield 7, 3) := by decide +kernel
theorem dX7_aired_11 : decode cX7_aired 11 = .ok (.bipush 39, 2) := by decide +kernel
theorem dX7_aired_13 : decode cX7_aired 13 = .ok (.iaload, 1) := by decide +kernel
theorem dX7_aired_14 : decode cX7_aired 14 = .ok (.if_icmp .ge 87, 3) := by decide +kernel
theorem dX7_aired_17 : decode cX7_aired 17 = .ok (.aload_n 0, 1) := by decide +kernel
theorem dX7_aired_18 : decode cX7_aired 18 = .ok (.iload 4, 2) := by decide +kernel
theorem dX7_aired_20 : decode cX7_aired 20 = .ok (.iconst 5, 1) := by decide +kernel
theorem dX7_aired_21 : decode cX7_aired 21 = .ok (.invokevirtual 45, 3) := by decide +kernel
theorem dX7_aired_24 : decode cX7_aired 24 = .ok (.aload_n 0, 1) := by decide +kernel
theorem dX7_aired_25 : decode cX7_aired 25 = .ok (.getfield 25, 3) := by decide +kernel
theorem dX7_aired_28 : decode cX7_aired 28 = .ok (.iload 4, 2) := by decide +kernel
theorem dX7_aired_30 : decode cX7_aired 30 = .ok (.iaload, 1) := by decide +kernel
theorem dX7_aired_31 : decode cX7_aired 31 = .ok (.if_icmp .ge 13, 3) := by decide +kernel
theorem dX7_aired_34 : decode cX7_aired 34 = .ok (.aload_n 0, 1) := by decide +kernel
theorem dX7_aired_35 : decode cX7_aired 35 = .ok (.iload 4, 2) := by decide +kernel
theorem dX7_aired_37 : decode cX7_aired 37 = .ok (.iconst 5, 1) := by decide +kernel
theorem dX7_aired_38 : decode cX7_aired 38 = .ok (.invokevirtual 45, 3) := by decide +kernel
theorem dX7_aired_41 : decode cX7_aired 41 = .ok (.goto 10, 3) := by decide +kernel
theorem dX7_aired_44 : decode cX7_aired 44 = .ok (.aload_n 0, 1) := by decide +kernel
theorem dX7_aired_45 : decode cX7_aired 45 = .ok (.getfield 25, 3) := by decide +kernel
theorem dX7_aired_48 : decode cX7_aired 48 = .ok (.iload 4, 2) := by decide +kernel
theorem dX7_aired_50 : decode cX7_aired 50 = .ok (.iaload, 1) := by decide +kernel
theorem dX7_aired_51 : decode cX7_aired 51 = .ok (.istore 5, 2) := by decide +kernel
theorem dX7_aired_53 : decode cX7_aired 53 = .ok (.iload_n 3, 1) := by decide +kernel
theorem dX7_aired_54 : decode cX7_aired 54 = .ok (.aload_n 0, 1) := by decide +kernel
theorem dX7_aired_55 : decode cX7_aired 55 = .ok (.iload 4, 2) := by decide +kernel
theorem dX7_aired_57 : decode cX7_aired 57 = .ok (.iconst 2, 1) := by decide +kernel
theorem dX7_aired_58 : decode cX7_aired 58 = .ok (.invokevirtual 45, 3) := by decide +kernel
theorem dX7_aired_61 : decode cX7_aired 61 = .ok (.iload_n 1, 1) := by decide +kernel
theorem dX7_aired_62 : decode cX7_aired 62 = .ok (.if_icmp .ne 30, 3) := by decide +kernel
theorem dX7_aired_65 : decode cX7_aired 65 = .ok (.aload_n 0, 1) := by decide +kernel
theorem dX7_aired_66 : decode cX7_aired 66 = .ok (.getfield 31, 3) := by decide +kernel
theorem dX7_aired_69 : decode cX7_aired 69 = .ok (.iload 4, 2) := by decide +kernel
theorem dX7_aired_71 : decode cX7_aired 71 = .ok (.iaload, 1) := by decide +kernel
theorem dX7_aired_72 : decode cX7_aired 72 = .ok (.iconst 2, 1) := by decide +kernel
theorem dX7_aired_73 : decode cX7_aired 73 = .ok (.if_icmp .eq 19, 3) := by decide +kernel
theorem dX7_aired_76 : decode cX7_aired 76 = .ok (.aload_n 0, 1) := by decide +kernel
theorem dX7_aired_77 : decode cX7_aired 77 = .ok (.getfield 22, 3) := by decide +kernel
theorem dX7_aired_80 : decode cX7_aired 80 = .ok (.iload 4, 2) := by decide +kernel
theorem dX7_aired_82 : decode cX7_aired 82 = .ok (.iaload, 1) := by decide +kernel
theorem dX7_aired_83 : decode cX7_aired 83 = .ok (.iload 5, 2) := by decide +kernel
theorem dX7_aired_85 : decode cX7_aired 85 = .ok (.iload_n 2, 1) := by decide +kernel
theorem dX7_aired_86 : decode cX7_aired 86 = .ok (.invokestatic 56, 3) := by decide +kernel
theorem dX7_aired_89 : decode cX7_aired 89 = .ok (.goto 4, 3) := by decide +kernel
theorem dX7_aired_92 : decode cX7_aired 92 = .ok (.iconst 0, 1) := by decide +kernel
theorem dX7_aired_93 : decode cX7_aired 93 = .ok (.iadd, 1) := by decide +kernel
theorem dX7_aired_94 : decode cX7_aired 94 = .ok (.istore_n 3, 1) := by decide +kernel
theorem dX7_aired_95 : decode cX7_aired 95 = .ok (.iinc 4 1, 3) := by decide +kernel
theorem dX7_aired_98 : decode cX7_aired 98 = .ok (.goto (-93), 3) := by decide +kernel
theorem dX7_aired_101 : decode cX7_aired 101 = .ok (.iload_n 3, 1) := by decide +kernel
theorem dX7_aired_102 : decode cX7_aired 102 = .ok (.ireturn, 1) := by decide +kernel
theorem dX7_dayNow_0 : decode cX7_dayNow 0 = .ok (.aload_n 0, 1) := by decide +kernel
theorem dX7_dayNow_1 : decode cX7_dayNow 1 = .ok (.iload_n 1, 1) := by decide +kernel
theorem dX7_dayNow_2 : decode cX7_dayNow 2 = .ok (.invokevirtual 91, 3) := by decide +kernel
theorem dX7_dayNow_5 : decode cX7_dayNow 5 = .ok (.iload_n 2, 1) := by decide +kernel
theorem dX7_dayNow_6 : decode cX7_dayNow 6 = .ok (.bipush 6, 2) := by decide +kernel
theorem dX7_dayNow_8 : decode cX7_dayNow 8 = .ok (.if_icmp .ne 8, 3) := by decide +kernel
theorem dX7_dayNow_11 : decode cX7_dayNow 11 = .ok (.aload_n 0, 1) := by decide +kernel
theorem dX7_dayNow_12 : decode cX7_dayNow 12 = .ok (.getfield 84, 3) := by decide +kernel
theorem dX7_dayNow_15 : decode cX7_dayNow 15 = .ok (.ireturn, 1) := by decide +kernel
theorem dX7_dayNow_16 : decode cX7_dayNow 16 = .ok (.iconst 0, 1) := by decide +kernel
theorem dX7_dayNow_17 : decode cX7_dayNow 17 = .ok (.istore_n 3, 1) := by decide +kernel
theorem dX7_dayNow_18 : decode cX7_dayNow 18 = .ok (.iconst 0, 1) := by decide +kernel
theorem dX7_dayNow_19 : decode cX7_dayNow 19 = .ok (.istore 4, 2) := by decide +kernel
theorem dX7_dayNow_21 : decode cX7_dayNow 21 = .ok (.iload 4, 2) := by decide +kernel
theorem dX7_dayNow_23 : decode cX7_dayNow 23 = .ok (.bipush 24, 2) := by decide +kernel
theorem dX7_dayNow_25 : decode cX7_dayNow 25 = .ok (.if_icmp .ge 40, 3) := by decide +kernel
theorem dX7_dayNow_28 : decode cX7_dayNow 28 = .ok (.iload_n 2, 1) := by decide +kernel
theorem dX7_dayNow_29 : decode cX7_dayNow 29 = .ok (.bipush 7, 2) := by decide +kernel
theorem dX7_dayNow_31 : decode cX7_dayNow 31 = .ok (.if_icmp .ne 34, 3) := by decide +kernel
theorem dX7_dayNow_34 : decode cX7_dayNow 34 = .ok (.iload_n 3, 1) := by decide +kernel
theorem dX7_dayNow_35 : decode cX7_dayNow 35 = .ok (.aload_n 0, 1) := by decide +kernel
theorem dX7_dayNow_36 : decode cX7_dayNow 36 = .ok (.iload_n 1, 1) := by decide +kernel
theorem dX7_dayNow_37 : decode cX7_dayNow 37 = .ok (.iload 4, 2) := by decide +kernel
theorem dX7_dayNow_39 : decode cX7_dayNow 39 = .ok (.invokevirtual 94, 3) := by decide +kernel
theorem dX7_dayNow_42 : decode cX7_dayNow 42 = .ok (.aload_n 0, 1) := by decide +kernel
theorem dX7_dayNow_43 : decode cX7_dayNow 43 = .ok (.getfield 7, 3) := by decide +kernel
theorem dX7_dayNow_46 : decode cX7_dayNow 46 = .ok (.bipush 6, 2) := by decide +kernel
theorem dX7_dayNow_48 : decode cX7_dayNow 48 = .ok (.iaload, 1) := by decide +kernel
theorem dX7_dayNow_49 : decode cX7_dayNow 49 = .ok (.if_icmp .le 7, 3) := by decide +kernel
theorem dX7_dayNow_52 : decode cX7_dayNow 52 = .ok (.iconst 1, 1) := by decide +kernel
theorem dX7_dayNow_53 : decode cX7_dayNow 53 = .ok (.goto 4, 3) := by decide +kernel
theorem dX7_dayNow_56 : decode cX7_dayNow 56 = .ok (.iconst 0, 1) := by decide +kernel
theorem dX7_dayNow_57 : decode cX7_dayNow 57 = .ok (.iadd, 1) := by decide +kernel
theorem dX7_dayNow_58 : decode cX7_dayNow 58 = .ok (.istore_n 3, 1) := by decide +kernel
theorem dX7_dayNow_59 : decode cX7_dayNow 59 = .ok (.iinc 4 1, 3) := by decide +kernel
theorem dX7_dayNow_62 : decode cX7_dayNow 62 = .ok (.goto (-41), 3) := by decide +kernel
theorem dX7_dayNow_65 : decode cX7_dayNow 65 = .ok (.iconst 0, 1) := by decide +kernel
theorem dX7_dayNow_66 : decode cX7_dayNow 66 = .ok (.istore 4, 2) := by decide +kernel
theorem dX7_dayNow_68 : decode cX7_dayNow 68 = .ok (.iload 4, 2) := by decide +kernel
theorem dX7_dayNow_70 : decode cX7_dayNow 70 = .ok (.aload_n 0, 1) := by decide +kernel
theorem dX7_dayNow_71 : decode cX7_dayNow 71 = .ok (.getfield 7, 3) := by decide +kernel
theorem dX7_dayNow_74 : decode cX7_dayNow 74 = .ok (.bipush 39, 2) := by decide +kernel
theorem dX7_dayNow_76 : decode cX7_dayNow 76 = .ok (.iaload, 1) := by decide +kernel
theorem dX7_dayNow_77 : decode cX7_dayNow 77 = .ok (.if_icmp .ge 34, 3) := by decide +kernel
theorem dX7_dayNow_80 : decode cX7_dayNow 80 = .ok (.iload_n 3, 1) := by decide +kernel
theorem dX7_dayNow_81 : decode cX7_dayNow 81 = .ok (.aload_n 0, 1) := by decide +kernel
theorem dX7_dayNow_82 : decode cX7_dayNow 82 = .ok (.iload 4, 2) := by decide +kernel
theorem dX7_dayNow_84 : decode cX7_dayNow 84 = .ok (.iconst 2, 1) := by decide +kernel
theorem dX7_dayNow_85 : decode cX7_dayNow 85 = .ok (.invokevirtual 45, 3) := by decide +kernel
theorem dX7_dayNow_88 : decode cX7_dayNow 88 = .ok (.iload_n 1, 1) := by decide +kernel
theorem dX7_dayNow_89 : decode cX7_dayNow 89 = .ok (.if_icmp .ne 13, 3) := by decide +kernel
theorem dX7_dayNow_92 : decode cX7_dayNow 92 = .ok (.aload_n 0, 1) := by decide +kernel
theorem dX7_dayNow_93 : decode cX7_dayNow 93 = .ok (.iload 4, 2) := by decide +kernel
theorem dX7_dayNow_95 : decode cX7_dayNow 95 = .ok (.iload_n 2, 1) := by decide +kernel
theorem dX7_dayNow_96 : decode cX7_dayNow 96 = .ok (.invokevirtual 97, 3) := by decide +kernel
theorem dX7_dayNow_99 : decode cX7_dayNow 99 = .ok (.goto 4, 3) := by decide +kernel
theorem dX7_dayNow_102 : decode cX7_dayNow 102 = .ok (.iconst 0, 1) := by decide +kernel
theorem dX7_dayNow_103 : decode cX7_dayNow 103 = .ok (.iadd, 1) := by decide +kernel
theorem dX7_dayNow_104 : decode cX7_dayNow 104 = .ok (.istore_n 3, 1) := by decide +kernel
theorem dX7_dayNow_105 : decode cX7_dayNow 105 = .ok (.iinc 4 1, 3) := by decide +kernel
theorem dX7_dayNow_108 : decode cX7_dayNow 108 = .ok (.goto (-40), 3) := by decide +kernel
theorem dX7_dayNow_111 : decode cX7_dayNow 111 = .ok (.iload_n 3, 1) := by decide +kernel
theorem dX7_dayNow_112 : decode cX7_dayNow 112 = .ok (.ireturn, 1) := by decide +kernel
theorem dX7_showPart_0 : decode cX7_showPart 0 = .ok (.aload_n 0, 1) := by decide +kernel
theorem dX7_showPart_1 : decode cX7_showPart 1 = .ok (.getfield 31, 3) := by decide +kernel
theorem dX7_showPart_4 : decode cX7_showPart 4 = .ok (.iload_n 1, 1) := by decide +kernel
theorem dX7_showPart_5 : decode cX7_showPart 5 = .ok (.iaload, 1) := by decide +kernel
theorem dX7_showPart_6 : decode cX7_showPart 6 = .ok (.iconst 2, 1) := by decide +kernel
theorem dX7_showPart_7 : decode cX7_showPart 7 = .ok (.if_icmp .eq 7, 3) := by decide +kernel
theorem dX7_showPart_10 : decode cX7_showPart 10 = .ok (.iconst 1, 1) := by decide +kernel
theorem dX7_showPart_11 : decode cX7_showPart 11 = .ok (.goto 4, 3) := by decide +kernel
theorem dX7_showPart_14 : decode cX7_showPart 14 = .ok (.iconst 0, 1) := by decide +kernel
theorem dX7_showPart_15 : decode cX7_showPart 15 = .ok (.istore_n 3, 1) := by decide +kernel
theorem dX7_showPart_16 : decode cX7_showPart 16 = .ok (.iload_n 2, 1) := by decide +kernel
theorem dX7_showPart_17 : decode cX7_showPart 17 = .ok (.tableswitch 99 0 5 #[39, 41, 48, 55, 74, 84], 39) := by decide +kernel
theorem dX7_showPart_56 : decode cX7_showPart 56 = .ok (.iconst 1, 1) := by decide +kernel
theorem dX7_showPart_57 : decode cX7_showPart 57 = .ok (.ireturn, 1) := by decide +kernel
theorem dX7_showPart_58 : decode cX7_showPart 58 = .ok (.aload_n 0, 1) := by decide +kernel
theorem dX7_showPart_59 : decode cX7_showPart 59 = .ok (.iload_n 1, 1) := by decide +kernel
theorem dX7_showPart_60 : decode cX7_showPart 60 = .ok (.iconst 4, 1) := by decide +kernel
theorem dX7_showPart_61 : decode cX7_showPart 61 = .ok (.invokevirtual 45, 3) := by decide +kernel
theorem dX7_showPart_64 : decode cX7_showPart 64 = .ok (.ireturn, 1) := by decide +kernel
theorem dX7_showPart_65 : decode cX7_showPart 65 = .ok (.aload_n 0, 1) := by decide +kernel
theorem dX7_showPart_66 : decode cX7_showPart 66 = .ok (.getfield 25, 3) := by decide +kernel
theorem dX7_showPart_69 : decode cX7_showPart 69 = .ok (.iload_n 1, 1) := by decide +kernel
theorem dX7_showPart_70 : decode cX7_showPart 70 = .ok (.iaload, 1) := by decide +kernel
theorem dX7_showPart_71 : decode cX7_showPart 71 = .ok (.ireturn, 1) := by decide +kernel
theorem dX7_showPart_72 : decode cX7_showPart 72 = .ok (.iload_n 3, 1) := by decide +kernel
theorem dX7_showPart_73 : decode cX7_showPart 73 = .ok (.ifCond .eq 16, 3) := by decide +kernel
theorem dX7_showPart_76 : decode cX7_showPart 76 = .ok (.aload_n 0, 1) := by decide +kernel
theorem dX7_showPart_77 : decode cX7_showPart 77 = .ok (.getfield 28, 3) := by decide +kernel
theorem dX7_showPart_80 : decode cX7_showPart 80 = .ok (.iload_n 1, 1) := by decide +kernel
theorem dX7_showPart_81 : decode cX7_showPart 81 = .ok (.iaload, 1) := by decide +kernel
theorem dX7_showPart_82 : decode cX7_showPart 82 = .ok (.ifCond .le 7, 3) := by decide +kernel
theorem dX7_showPart_85 : decode cX7_showPart 85 = .ok (.iconst 1, 1) := by decide +kernel
theorem dX7_showPart_86 : decode cX7_showPart 86 = .ok (.goto 4, 3) := by decide +kernel
theorem dX7_showPart_89 : decode cX7_showPart 89 = .ok (.iconst 0, 1) := by decide +kernel
theorem dX7_showPart_90 : decode cX7_showPart 90 = .ok (.ireturn, 1) := by decide +kernel
theorem dX7_showPart_91 : decode cX7_showPart 91 = .ok (.iload_n 3, 1) := by decide +kernel
theorem dX7_showPart_92 : decode cX7_showPart 92 = .ok (.ifCond .eq 7, 3) := by decide +kernel
theorem dX7_showPart_95 : decode cX7_showPart 95 = .ok (.iconst 0, 1) := by decide +kernel
theorem dX7_showPart_96 : decode cX7_showPart 96 = .ok (.goto 4, 3) := by decide +kernel
theorem dX7_showPart_99 : decode cX7_showPart 99 = .ok (.iconst 1, 1) := by decide +kernel
theorem dX7_showPart_100 : decode cX7_showPart 100 = .ok (.ireturn, 1) := by decide +kernel
theorem dX7_showPart_101 : decode cX7_showPart 101 = .ok (.iload_n 3, 1) := by decide +kernel
theorem dX7_showPart_102 : decode cX7_showPart 102 = .ok (.ifCond .eq 12, 3) := by decide +kernel
theorem dX7_showPart_105 : decode cX7_showPart 105 = .ok (.aload_n 0, 1) := by decide +kernel
theorem dX7_showPart_106 : decode cX7_showPart 106 = .ok (.getfield 28, 3) := by decide +kernel
theorem dX7_showPart_109 : decode cX7_showPart 109 = .ok (.iload_n 1, 1) := by decide +kernel
theorem dX7_showPart_110 : decode cX7_showPart 110 = .ok (.iaload, 1) := by decide +kernel
theorem dX7_showPart_111 : decode cX7_showPart 111 = .ok (.goto 4, 3) := by decide +kernel
theorem dX7_showPart_114 : decode cX7_showPart 114 = .ok (.iconst 0, 1) := by decide +kernel
theorem dX7_showPart_115 : decode cX7_showPart 115 = .ok (.ireturn, 1) := by decide +kernel
theorem dX7_showPart_116 : decode cX7_showPart 116 = .ok (.iconst 0, 1) := by decide +kernel
theorem dX7_showPart_117 : decode cX7_showPart 117 = .ok (.ireturn, 1) := by decide +kernel
theorem dX7_inWeek_0 : decode cX7_inWeek 0 = .ok (.iconst 0, 1) := by decide +kernel
theorem dX7_inWeek_1 : decode cX7_inWeek 1 = .ok (.istore_n 2, 1) := by decide +kernel
theorem dX7_inWeek_2 : decode cX7_inWeek 2 = .ok (.iconst 0, 1) := by decide +kernel
theorem dX7_inWeek_3 : decode cX7_inWeek 3 = .ok (.istore_n 3, 1) := by decide +kernel
theorem dX7_inWeek_4 : decode cX7_inWeek 4 = .ok (.iload_n 3, 1) := by decide +kernel
theorem dX7_inWeek_5 : decode cX7_inWeek 5 = .ok (.bipush 7, 2) := by decide +kernel
theorem dX7_inWeek_7 : decode cX7_inWeek 7 = .ok (.if_icmp .ge 18, 3) := by decide +kernel
theorem dX7_inWeek_10 : decode cX7_inWeek 10 = .ok (.iload_n 2, 1) := by decide +kernel
theorem dX7_inWeek_11 : decode cX7_inWeek 11 = .ok (.aload_n 0, 1) := by decide +kernel
theorem dX7_inWeek_12 : decode cX7_inWeek 12 = .ok (.iload_n 3, 1) := by decide +kernel
theorem dX7_inWeek_13 : decode cX7_inWeek 13 = .ok (.iload_n 1, 1) := by decide +kernel
theorem dX7_inWeek_14 : decode cX7_inWeek 14 = .ok (.invokevirtual 100, 3) := by decide +kernel
theorem dX7_inWeek_17 : decode cX7_inWeek 17 = .ok (.iadd, 1) := by decide +kernel
theorem dX7_inWeek_18 : decode cX7_inWeek 18 = .ok (.istore_n 2, 1) := by decide +kernel
theorem dX7_inWeek_19 : decode cX7_inWeek 19 = .ok (.iinc 3 1, 3) := by decide +kernel
theorem dX7_inWeek_22 : decode cX7_inWeek 22 = .ok (.goto (-18), 3) := by decide +kernel
theorem dX7_inWeek_25 : decode cX7_inWeek 25 = .ok (.iload_n 2, 1) := by decide +kernel
theorem dX7_inWeek_26 : decode cX7_inWeek 26 = .ok (.ireturn, 1) := by decide +kernel
theorem dX7_airWorth_0 : decode cX7_airWorth 0 = .ok (.aload_n 0, 1) := by decide +kernel
theorem dX7_airWorth_1 : decode cX7_airWorth 1 = .ok (.invokevirtual 103, 3) := by decide +kernel
theorem dX7_airWorth_4 : decode cX7_airWorth 4 = .ok (.iconst 0, 1) := by decide +kernel
theorem dX7_airWorth_5 : decode cX7_airWorth 5 = .ok (.istore_n 2, 1) := by decide +kernel
theorem dX7_airWorth_6 : decode cX7_airWorth 6 = .ok (.iconst 0, 1) := by decide +kernel
theorem dX7_airWorth_7 : decode cX7_airWorth 7 = .ok (.istore_n 3, 1) := by decide +kernel
theorem dX7_airWorth_8 : decode cX7_airWorth 8 = .ok (.iload_n 3, 1) := by decide +kernel
theorem dX7_airWorth_9 : decode cX7_airWorth 9 = .ok (.aload_n 0, 1) := by decide +kernel
theorem dX7_airWorth_10 : decode cX7_airWorth 10 = .ok (.getfield 7, 3) := by decide +kernel
theorem dX7_airWorth_13 : decode cX7_airWorth 13 = .ok (.bipush 39, 2) := by decide +kernel
theorem dX7_airWorth_15 : decode cX7_airWorth 15 = .ok (.iaload, 1) := by decide +kernel
theorem dX7_airWorth_16 : decode cX7_airWorth 16 = .ok (.if_icmp .ge 42, 3) := by decide +kernel
theorem dX7_airWorth_19 : decode cX7_airWorth 19 = .ok (.iload_n 2, 1) := by decide +kernel
theorem dX7_airWorth_20 : decode cX7_airWorth 20 = .ok (.aload_n 0, 1) := by decide +kernel
theorem dX7_airWorth_21 : decode cX7_airWorth 21 = .ok (.iload_n 3, 1) := by decide +kernel
theorem dX7_airWorth_22 : decode cX7_airWorth 22 = .ok (.iconst 1, 1) := by decide +kernel
theorem dX7_airWorth_23 : decode cX7_airWorth 23 = .ok (.invokevirtual 45, 3) := by decide +kernel
theorem dX7_airWorth_26 : decode cX7_airWorth 26 = .ok (.iload_n 1, 1) := by decide +kernel
theorem dX7_airWorth_27 : decode cX7_airWorth 27 = .ok (.if_icmp .ne 22, 3) := by decide +kernel
theorem dX7_airWorth_30 : decode cX7_airWorth 30 = .ok (.aload_n 0, 1) := by decide +kernel
theorem dX7_airWorth_31 : decode cX7_airWorth 31 = .ok (.aload_n 0, 1) := by decide +kernel
theorem dX7_airWorth_32 : decode cX7_airWorth 32 = .ok (.iload_n 3, 1) := by decide +kernel
theorem dX7_airWorth_33 : decode cX7_airWorth 33 = .ok (.iconst 0, 1) := by decide +kernel
theorem dX7_airWorth_34 : decode cX7_airWorth 34 = .ok (.invokevirtual 45, 3) := by decide +kernel
theorem dX7_airWorth_37 : decode cX7_airWorth 37 = .ok (.aload_n 0, 1) := by decide +kernel
theorem dX7_airWorth_38 : decode cX7_airWorth 38 = .ok (.getfield 25, 3) := by decide +kernel
theorem dX7_airWorth_41 : decode cX7_airWorth 41 = .ok (.iload_n 3, 1) := by decide +kernel
theorem dX7_airWorth_42 : decode cX7_airWorth 42 = .ok (.iaload, 1) := by decide +kernel
theorem dX7_airWorth_43 : decode cX7_airWorth 43 = .ok (.invokevirtual 53, 3) := by decide +kernel
theorem dX7_airWorth_46 : decode cX7_airWorth 46 = .ok (.goto 4, 3) := by decide +kernel
theorem dX7_airWorth_49 : decode cX7_airWorth 49 = .ok (.iconst 0, 1) := by decide +kernel
theorem dX7_airWorth_50 : decode cX7_airWorth 50 = .ok (.iadd, 1) := by decide +kernel
theorem dX7_airWorth_51 : decode cX7_airWorth 51 = .ok (.istore_n 2, 1) := by decide +kernel
theorem dX7_airWorth_52 : decode cX7_airWorth 52 = .ok (.iinc 3 1, 3) := by decide +kernel
theorem dX7_airWorth_55 : decode cX7_airWorth 55 = .ok (.goto (-47), 3) := by decide +kernel
theorem dX7_airWorth_58 : decode cX7_airWorth 58 = .ok (.iload_n 2, 1) := by decide +kernel
theorem dX7_airWorth_59 : decode cX7_airWorth 59 = .ok (.ireturn, 1) := by decide +kernel
theorem dX7_save_0 : decode cX7_save 0 = .ok (.aload_n 0, 1) := by decide +kernel
theorem dX7_save_1 : decode cX7_save 1 = .ok (.getfield 106, 3) := by decide +kernel
theorem dX7_save_4 : decode cX7_save 4 = .ok (.bipush 6, 2) := by decide +kernel
theorem dX7_save_6 : decode cX7_save 6 = .ok (.if_icmp .ne 46, 3) := by decide +kernel
theorem dX7_save_9 : decode cX7_save 9 = .ok (.sipush 232, 3) := by decide +kernel
theorem dX7_save_12 : decode cX7_save 12 = .ok (.istore_n 1, 1) := by decide +kernel
theorem dX7_save_13 : decode cX7_save 13 = .ok (.iload_n 1, 1) := by decide +kernel
theorem dX7_save_14 : decode cX7_save 14 = .ok (.sipush 1392, 3) := by decide +kernel
theorem dX7_save_17 : decode cX7_save 17 = .ok (.if_icmp .ge 25, 3) := by decide +kernel
theorem dX7_save_20 : decode cX7_save 20 = .ok (.aload_n 0, 1) := by decide +kernel
theorem dX7_save_21 : decode cX7_save 21 = .ok (.getfield 13, 3) := by decide +kernel
theorem dX7_save_24 : decode cX7_save 24 = .ok (.iload_n 1, 1) := by decide +kernel
theorem dX7_save_25 : decode cX7_save 25 = .ok (.sipush 232, 3) := by decide +kernel
theorem dX7_save_28 : decode cX7_save 28 = .ok (.isub, 1) := by decide +kernel
theorem dX7_save_29 : decode cX7_save 29 = .ok (.aload_n 0, 1) := by decide +kernel
theorem dX7_save_30 : decode cX7_save 30 = .ok (.getfield 13, 3) := by decide +kernel
theorem dX7_save_33 : decode cX7_save 33 = .ok (.iload_n 1, 1) := by decide +kernel
theorem dX7_save_34 : decode cX7_save 34 = .ok (.iaload, 1) := by decide +kernel
theorem dX7_save_35 : decode cX7_save 35 = .ok (.iastore, 1) := by decide +kernel
theorem dX7_save_36 : decode cX7_save 36 = .ok (.iinc 1 1, 3) := by decide +kernel
theorem dX7_save_39 : decode cX7_save 39 = .ok (.goto (-26), 3) := by decide +kernel
theorem dX7_save_42 : decode cX7_save 42 = .ok (.aload_n 0, 1) := by decide +kernel
theorem dX7_save_43 : decode cX7_save 43 = .ok (.dup, 1) := by decide +kernel
theorem dX7_save_44 : decode cX7_save 44 = .ok (.getfield 106, 3) := by decide +kernel
theorem dX7_save_47 : decode cX7_save 47 = .ok (.iconst 1, 1) := by decide +kernel
theorem dX7_save_48 : decode cX7_save 48 = .ok (.isub, 1) := by decide +kernel
theorem dX7_save_49 : decode cX7_save 49 = .ok (.putfield 106, 3) := by decide +kernel
theorem dX7_save_52 : decode cX7_save 52 = .ok (.iconst 0, 1) := by decide +kernel
theorem dX7_save_53 : decode cX7_save 53 = .ok (.istore_n 1, 1) := by decide +kernel
theorem dX7_save_54 : decode cX7_save 54 = .ok (.iload_n 1, 1) := by decide +kernel
theorem dX7_save_55 : decode cX7_save 55 = .ok (.sipush 232, 3) := by decide +kernel
theorem dX7_save_58 : decode cX7_save 58 = .ok (.if_icmp .ge 30, 3) := by decide +kernel
theorem dX7_save_61 : decode cX7_save 61 = .ok (.aload_n 0, 1) := by decide +kernel
theorem dX7_save_62 : decode cX7_save 62 = .ok (.getfield 13, 3) := by decide +kernel
theorem dX7_save_65 : decode cX7_save 65 = .ok (.sipush 232, 3) := by decide +kernel
theorem dX7_save_68 : decode cX7_save 68 = .ok (.aload_n 0, 1) := by decide +kernel
theorem dX7_save_69 : decode cX7_save 69 = .ok (.getfield 106, 3) := by decide +kernel
theorem dX7_save_72 : decode cX7_save 72 = .ok (.imul, 1) := by decide +kernel
theorem dX7_save_73 : decode cX7_save 73 = .ok (.iload_n 1, 1) := by decide +kernel
theorem dX7_save_74 : decode cX7_save 74 = .ok (.iadd, 1) := by decide +kernel
theorem dX7_save_75 : decode cX7_save 75 = .ok (.aload_n 0, 1) := by decide +kernel
theorem dX7_save_76 : decode cX7_save 76 = .ok (.getfield 7, 3) := by decide +kernel
theorem dX7_save_79 : decode cX7_save 79 = .ok (.iload_n 1, 1) := by decide +kernel
theorem dX7_save_80 : decode cX7_save 80 = .ok (.iaload, 1) := by decide +kernel
theorem dX7_save_81 : decode cX7_save 81 = .ok (.iastore, 1) := by decide +kernel
theorem dX7_save_82 : decode cX7_save 82 = .ok (.iinc 1 1, 3) := by decide +kernel
theorem dX7_save_85 : decode cX7_save 85 = .ok (.goto (-31), 3) := by decide +kernel
theorem dX7_save_88 : decode cX7_save 88 = .ok (.aload_n 0, 1) := by decide +kernel
theorem dX7_save_89 : decode cX7_save 89 = .ok (.dup, 1) := by decide +kernel
theorem dX7_save_90 : decode cX7_save 90 = .ok (.getfield 106, 3) := by decide +kernel
theorem dX7_save_93 : decode cX7_save 93 = .ok (.iconst 1, 1) := by decide +kernel
theorem dX7_save_94 : decode cX7_save 94 = .ok (.iadd, 1) := by decide +kernel
theorem dX7_save_95 : decode cX7_save 95 = .ok (.putfield 106, 3) := by decide +kernel
theorem dX7_save_98 : decode cX7_save 98 = .ok (.return_, 1) := by decide +kernel
theorem dX7_undo_0 : decode cX7_undo 0 = .ok (.aload_n 0, 1) := by decide +kernel
theorem dX7_undo_1 : decode cX7_undo 1 = .ok (.aload_n 0, 1) := by decide +kernel
theorem dX7_undo_2 : decode cX7_undo 2 = .ok (.getfield 106, 3) := by decide +kernel
theorem dX7_undo_5 : decode cX7_undo 5 = .ok (.ifCond .le 7, 3) := by decide +kernel
theorem dX7_undo_8 : decode cX7_undo 8 = .ok (.iconst 0, 1) := by decide +kernel
theorem dX7_undo_9 : decode cX7_undo 9 = .ok (.goto 4, 3) := by decide +kernel
theorem dX7_undo_12 : decode cX7_undo 12 = .ok (.iconst 1, 1) := by decide +kernel
theorem dX7_undo_13 : decode cX7_undo 13 = .ok (.putfield 37, 3) := by decide +kernel
theorem dX7_undo_16 : decode cX7_undo 16 = .ok (.aload_n 0, 1) := by decide +kernel
theorem dX7_undo_17 : decode cX7_undo 17 = .ok (.getfield 37, 3) := by decide +kernel
theorem dX7_undo_20 : decode cX7_undo 20 = .ok (.ifCond .le 5, 3) := by decide +kernel
theorem dX7_undo_23 : decode cX7_undo 23 = .ok (.iconst 0, 1) := by decide +kernel
theorem dX7_undo_24 : decode cX7_undo 24 = .ok (.ireturn, 1) := by decide +kernel
theorem dX7_undo_25 : decode cX7_undo 25 = .ok (.aload_n 0, 1) := by decide +kernel
theorem dX7_undo_26 : decode cX7_undo 26 = .ok (.dup, 1) := by decide +kernel
theorem dX7_undo_27 : decode cX7_undo 27 = .ok (.getfield 106, 3) := by decide +kernel
theorem dX7_undo_30 : decode cX7_undo 30 = .ok (.iconst 1, 1) := by decide +kernel
theorem dX7_undo_31 : decode cX7_undo 31 = .ok (.isub, 1) := by decide +kernel
theorem dX7_undo_32 : decode cX7_undo 32 = .ok (.putfield 106, 3) := by decide +kernel
theorem dX7_undo_35 : decode cX7_undo 35 = .ok (.iconst 0, 1) := by decide +kernel
theorem dX7_undo_36 : decode cX7_undo 36 = .ok (.istore_n 1, 1) := by decide +kernel
theorem dX7_undo_37 : decode cX7_undo 37 = .ok (.iload_n 1, 1) := by decide +kernel
theorem dX7_undo_38 : decode cX7_undo 38 = .ok (.sipush 232, 3) := by decide +kernel
theorem dX7_undo_41 : decode cX7_undo 41 = .ok (.if_icmp .ge 30, 3) := by decide +kernel
theorem dX7_undo_44 : decode cX7_undo 44 = .ok (.aload_n 0, 1) := by decide +kernel
theorem dX7_undo_45 : decode cX7_undo 45 = .ok (.getfield 7, 3) := by decide +kernel
theorem dX7_undo_48 : decode cX7_undo 48 = .ok (.iload_n 1, 1) := by decide +kernel
theorem dX7_undo_49 : decode cX7_undo 49 = .ok (.aload_n 0, 1) := by decide +kernel
theorem dX7_undo_50 : decode cX7_undo 50 = .ok (.getfield 13, 3) := by decide +kernel
theorem dX7_undo_53 : decode cX7_undo 53 = .ok (.sipush 232, 3) := by decide +kernel
theorem dX7_undo_56 : decode cX7_undo 56 = .ok (.aload_n 0, 1) := by decide +kernel
theorem dX7_undo_57 : decode cX7_undo 57 = .ok (.getfield 106, 3) := by decide +kernel
theorem dX7_undo_60 : decode cX7_undo 60 = .ok (.imul, 1) := by decide +kernel
theorem dX7_undo_61 : decode cX7_undo 61 = .ok (.iload_n 1, 1) := by decide +kernel
theorem dX7_undo_62 : decode cX7_undo 62 = .ok (.iadd, 1) := by decide +kernel
theorem dX7_undo_63 : decode cX7_undo 63 = .ok (.iaload, 1) := by decide +kernel
theorem dX7_undo_64 : decode cX7_undo 64 = .ok (.iastore, 1) := by decide +kernel
theorem dX7_undo_65 : decode cX7_undo 65 = .ok (.iinc 1 1, 3) := by decide +kernel
theorem dX7_undo_68 : decode cX7_undo 68 = .ok (.goto (-31), 3) := by decide +kernel
theorem dX7_undo_71 : decode cX7_undo 71 = .ok (.aload_n 0, 1) := by decide +kernel
theorem dX7_undo_72 : decode cX7_undo 72 = .ok (.getfield 106, 3) := by decide +kernel
theorem dX7_undo_75 : decode cX7_undo 75 = .ok (.ireturn, 1) := by decide +kernel
theorem dX7_isValue_0 : decode cX7_isValue 0 = .ok (.iload_n 0, 1) := by decide +kernel
theorem dX7_isValue_1 : decode cX7_isValue 1 = .ok (.tableswitch 104 0 6 #[43, 52, 63, 71, 80, 88, 96], 43) := by decide +kernel
theorem dX7_isValue_44 : decode cX7_isValue 44 = .ok (.iload_n 1, 1) := by decide +kernel
theorem dX7_isValue_45 : decode cX7_isValue 45 = .ok (.iconst 0, 1) := by decide +kernel
theorem dX7_isValue_46 : decode cX7_isValue 46 = .ok (.sipush 720, 3) := by decide +kernel
theorem dX7_isValue_49 : decode cX7_isValue 49 = .ok (.invokestatic 41, 3) := by decide +kernel
theorem dX7_isValue_52 : decode cX7_isValue 52 = .ok (.ireturn, 1) := by decide +kernel
theorem dX7_isValue_53 : decode cX7_isValue 53 = .ok (.iload_n 1, 1) := by decide +kernel
theorem dX7_isValue_54 : decode cX7_isValue 54 = .ok (.sipush 721, 3) := by decide +kernel
theorem dX7_isValue_57 : decode cX7_isValue 57 = .ok (.sipush 1440, 3) := by decide +kernel
theorem dX7_isValue_60 : decode cX7_isValue 60 = .ok (.invokestatic 41, 3) := by decide +kernel
theorem dX7_isValue_63 : decode cX7_isValue 63 = .ok (.ireturn, 1) := by decide +kernel
theorem dX7_isValue_64 : decode cX7_isValue 64 = .ok (.iload_n 1, 1) := by decide +kernel
theorem dX7_isValue_65 : decode cX7_isValue 65 = .ok (.iconst 0, 1) := by decide +kernel
theorem dX7_isValue_66 : decode cX7_isValue 66 = .ok (.bipush 120, 2) := by decide +kernel
theorem dX7_isValue_68 : decode cX7_isValue 68 = .ok (.invokestatic 41, 3) := by decide +kernel
theorem dX7_isValue_71 : decode cX7_isValue 71 = .ok (.ireturn, 1) := by decide +kernel
theorem dX7_isValue_72 : decode cX7_isValue 72 = .ok (.iload_n 1, 1) := by decide +kernel
theorem dX7_isValue_73 : decode cX7_isValue 73 = .ok (.iconst 0, 1) := by decide +kernel
theorem dX7_isValue_74 : decode cX7_isValue 74 = .ok (.sipush 240, 3) := by decide +kernel
theorem dX7_isValue_77 : decode cX7_isValue 77 = .ok (.invokestatic 41, 3) := by decide +kernel
theorem dX7_isValue_80 : decode cX7_isValue 80 = .ok (.ireturn, 1) := by decide +kernel
theorem dX7_isValue_81 : decode cX7_isValue 81 = .ok (.iload_n 1, 1) := by decide +kernel
theorem dX7_isValue_82 : decode cX7_isValue 82 = .ok (.iconst 1, 1) := by decide +kernel
theorem dX7_isValue_83 : decode cX7_isValue 83 = .ok (.bipush 100, 2) := by decide +kernel
theorem dX7_isValue_85 : decode cX7_isValue 85 = .ok (.invokestatic 41, 3) := by decide +kernel
theorem dX7_isValue_88 : decode cX7_isValue 88 = .ok (.ireturn, 1) := by decide +kernel
theorem dX7_isValue_89 : decode cX7_isValue 89 = .ok (.iload_n 1, 1) := by decide +kernel
theorem dX7_isValue_90 : decode cX7_isValue 90 = .ok (.iconst 0, 1) := by decide +kernel
theorem dX7_isValue_91 : decode cX7_isValue 91 = .ok (.bipush 100, 2) := by decide +kernel
theorem dX7_isValue_93 : decode cX7_isValue 93 = .ok (.invokestatic 41, 3) := by decide +kernel
theorem dX7_isValue_96 : decode cX7_isValue 96 = .ok (.ireturn, 1) := by decide +kernel
theorem dX7_isValue_97 : decode cX7_isValue 97 = .ok (.iload_n 1, 1) := by decide +kernel
theorem dX7_isValue_98 : decode cX7_isValue 98 = .ok (.iconst 0, 1) := by decide +kernel
theorem dX7_isValue_99 : decode cX7_isValue 99 = .ok (.bipush 30, 2) := by decide +kernel
theorem dX7_isValue_101 : decode cX7_isValue 101 = .ok (.invokestatic 41, 3) := by decide +kernel
theorem dX7_isValue_104 : decode cX7_isValue 104 = .ok (.ireturn, 1) := by decide +kernel
theorem dX7_isValue_105 : decode cX7_isValue 105 = .ok (.iload_n 1, 1) := by decide +kernel
theorem dX7_isValue_106 : decode cX7_isValue 106 = .ok (.iconst 0, 1) := by decide +kernel
theorem dX7_isValue_107 : decode cX7_isValue 107 = .ok (.sipush 600, 3) := by decide +kernel
theorem dX7_isValue_110 : decode cX7_isValue 110 = .ok (.invokestatic 41, 3) := by decide +kernel
theorem dX7_isValue_113 : decode cX7_isValue 113 = .ok (.ireturn, 1) := by decide +kernel
theorem dX7_isSetting_0 : decode cX7_isSetting 0 = .ok (.iload_n 0, 1) := by decide +kernel
theorem dX7_isSetting_1 : decode cX7_isSetting 1 = .ok (.iconst 0, 1) := by decide +kernel
theorem dX7_isSetting_2 : decode cX7_isSetting 2 = .ok (.bipush 7, 2) := by decide +kernel
theorem dX7_isSetting_4 : decode cX7_isSetting 4 = .ok (.invokestatic 41, 3) := by decide +kernel
theorem dX7_isSetting_7 : decode cX7_isSetting 7 = .ok (.ireturn, 1) := by decide +kernel
theorem dX7_replaced_0 : decode cX7_replaced 0 = .ok (.aload_n 0, 1) := by decide +kernel
theorem dX7_replaced_1 : decode cX7_replaced 1 = .ok (.invokevirtual 109, 3) := by decide +kernel
theorem dX7_replaced_4 : decode cX7_replaced 4 = .ok (.aload_n 0, 1) := by decide +kernel
theorem dX7_replaced_5 : decode cX7_replaced 5 = .ok (.getfield 7, 3) := by decide +kernel
theorem dX7_replaced_8 : decode cX7_replaced 8 = .ok (.iload_n 1, 1) := by decide +kernel
theorem dX7_replaced_9 : decode cX7_replaced 9 = .ok (.iaload, 1) := by decide +kernel
theorem dX7_replaced_10 : decode cX7_replaced 10 = .ok (.istore_n 3, 1) := by decide +kernel
theorem dX7_replaced_11 : decode cX7_replaced 11 = .ok (.aload_n 0, 1) := by decide +kernel
theorem dX7_replaced_12 : decode cX7_replaced 12 = .ok (.getfield 7, 3) := by decide +kernel
theorem dX7_replaced_15 : decode cX7_replaced 15 = .ok (.iload_n 1, 1) := by decide +kernel
theorem dX7_replaced_16 : decode cX7_replaced 16 = .ok (.iload_n 2, 1) := by decide +kernel
theorem dX7_replaced_17 : decode cX7_replaced 17 = .ok (.iastore, 1) := by decide +kernel
theorem dX7_replaced_18 : decode cX7_replaced 18 = .ok (.iload_n 3, 1) := by decide +kernel
theorem dX7_replaced_19 : decode cX7_replaced 19 = .ok (.ireturn, 1) := by decide +kernel
theorem dX7_set_0 : decode cX7_set 0 = .ok (.aload_n 0, 1) := by decide +kernel
theorem dX7_set_1 : decode cX7_set 1 = .ok (.iload_n 1, 1) := by decide +kernel
theorem dX7_set_2 : decode cX7_set 2 = .ok (.invokestatic 112, 3) := by decide +kernel
theorem dX7_set_5 : decode cX7_set 5 = .ok (.ifCond .ne 7, 3) := by decide +kernel
theorem dX7_set_8 : decode cX7_set 8 = .ok (.iconst 1, 1) := by decide +kernel
theorem dX7_set_9 : decode cX7_set 9 = .ok (.goto 16, 3) := by decide +kernel
theorem dX7_set_12 : decode cX7_set 12 = .ok (.iload_n 1, 1) := by decide +kernel
theorem dX7_set_13 : decode cX7_set 13 = .ok (.iload_n 2, 1) := by decide +kernel
theorem dX7_set_14 : decode cX7_set 14 = .ok (.invokestatic 116, 3) := by decide +kernel
theorem dX7_set_17 : decode cX7_set 17 = .ok (.ifCond .eq 7, 3) := by decide +kernel
theorem dX7_set_20 : decode cX7_set 20 = .ok (.iconst 0, 1) := by decide +kernel
theorem dX7_set_21 : decode cX7_set 21 = .ok (.goto 4, 3) := by decide +kernel
theorem dX7_set_24 : decode cX7_set 24 = .ok (.iconst 2, 1) := by decide +kernel
theorem dX7_set_25 : decode cX7_set 25 = .ok (.putfield 37, 3) := by decide +kernel
theorem dX7_set_28 : decode cX7_set 28 = .ok (.aload_n 0, 1) := by decide +kernel
theorem dX7_set_29 : decode cX7_set 29 = .ok (.getfield 37, 3) := by decide +kernel
theorem dX7_set_32 : decode cX7_set 32 = .ok (.ifCond .le 7, 3) := by decide +kernel
theorem dX7_set_35 : decode cX7_set 35 = .ok (.iconst 0, 1) := by decide +kernel
theorem dX7_set_36 : decode cX7_set 36 = .ok (.goto 9, 3) := by decide +kernel
theorem dX7_set_39 : decode cX7_set 39 = .ok (.aload_n 0, 1) := by decide +kernel
theorem dX7_set_40 : decode cX7_set 40 = .ok (.iload_n 1, 1) := by decide +kernel
theorem dX7_set_41 : decode cX7_set 41 = .ok (.iload_n 2, 1) := by decide +kernel
theorem dX7_set_42 : decode cX7_set 42 = .ok (.invokevirtual 120, 3) := by decide +kernel
theorem dX7_set_45 : decode cX7_set 45 = .ok (.ireturn, 1) := by decide +kernel
theorem dX7_setQuota_0 : decode cX7_setQuota 0 = .ok (.aload_n 0, 1) := by decide +kernel
theorem dX7_setQuota_1 : decode cX7_setQuota 1 = .ok (.iload_n 1, 1) := by decide +kernel
theorem dX7_setQuota_2 : decode cX7_setQuota 2 = .ok (.invokestatic 123, 3) := by decide +kernel
theorem dX7_setQuota_5 : decode cX7_setQuota 5 = .ok (.ifCond .ne 7, 3) := by decide +kernel
theorem dX7_setQuota_8 : decode cX7_setQuota 8 = .ok (.iconst 1, 1) := by decide +kernel
theorem dX7_setQuota_9 : decode cX7_setQuota 9 = .ok (.goto 19, 3) := by decide +kernel
theorem dX7_setQuota_12 : decode cX7_setQuota 12 = .ok (.iload_n 2, 1) := by decide +kernel
theorem dX7_setQuota_13 : decode cX7_setQuota 13 = .ok (.iconst 0, 1) := by decide +kernel
theorem dX7_setQuota_14 : decode cX7_setQuota 14 = .ok (.sipush 2000, 3) := by decide +kernel
theorem dX7_setQuota_17 : decode cX7_setQuota 17 = .ok (.invokestatic 41, 3) := by decide +kernel
theorem dX7_setQuota_20 : decode cX7_setQuota 20 = .ok (.ifCond .eq 7, 3) := by decide +kernel
theorem dX7_setQuota_23 : decode cX7_setQuota 23 = .ok (.iconst 0, 1) := by decide +kernel
theorem dX7_setQuota_24 : decode cX7_setQuota 24 = .ok (.goto 4, 3) := by decide +kernel
theorem dX7_setQuota_27 : decode cX7_setQuota 27 = .ok (.iconst 2, 1) := by decide +kernel
theorem dX7_setQuota_28 : decode cX7_setQuota 28 = .ok (.putfield 37, 3) := by decide +kernel
theorem dX7_setQuota_31 : decode cX7_setQuota 31 = .ok (.aload_n 0, 1) := by decide +kernel
theorem dX7_setQuota_32 : decode cX7_setQuota 32 = .ok (.getfield 37, 3) := by decide +kernel
theorem dX7_setQuota_35 : decode cX7_setQuota 35 = .ok (.ifCond .le 7, 3) := by decide +kernel
theorem dX7_setQuota_38 : decode cX7_setQuota 38 = .ok (.iconst 0, 1) := by decide +kernel
theorem dX7_setQuota_39 : decode cX7_setQuota 39 = .ok (.goto 14, 3) := by decide +kernel
theorem dX7_setQuota_42 : decode cX7_setQuota 42 = .ok (.aload_n 0, 1) := by decide +kernel
theorem dX7_setQuota_43 : decode cX7_setQuota 43 = .ok (.bipush 8, 2) := by decide +kernel
theorem dX7_setQuota_45 : decode cX7_setQuota 45 = .ok (.iconst 5, 1) := by decide +kernel
theorem dX7_setQuota_46 : decode cX7_setQuota 46 = .ok (.iload_n 1, 1) := by decide +kernel
theorem dX7_setQuota_47 : decode cX7_setQuota 47 = .ok (.imul, 1) := by decide +kernel
theorem dX7_setQuota_48 : decode cX7_setQuota 48 = .ok (.iadd, 1) := by decide +kernel
theorem dX7_setQuota_49 : decode cX7_setQuota 49 = .ok (.iload_n 2, 1) := by decide +kernel
theorem dX7_setQuota_50 : decode cX7_setQuota 50 = .ok (.invokevirtual 120, 3) := by decide +kernel
theorem dX7_setQuota_53 : decode cX7_setQuota 53 = .ok (.ireturn, 1) := by decide +kernel
theorem dX7_areRight_0 : decode cX7_areRight 0 = .ok (.iload_n 0, 1) := by decide +kernel
theorem dX7_areRight_1 : decode cX7_areRight 1 = .ok (.invokestatic 123, 3) := by decide +kernel
theorem dX7_areRight_4 : decode cX7_areRight 4 = .ok (.ifCond .eq 45, 3) := by decide +kernel
theorem dX7_areRight_7 : decode cX7_areRight 7 = .ok (.iload_n 1, 1) := by decide +kernel
theorem dX7_areRight_8 : decode cX7_areRight 8 = .ok (.invokestatic 126, 3) := by decide +kernel
theorem dX7_areRight_11 : decode cX7_areRight 11 = .ok (.ifCond .eq 38, 3) := by decide +kernel
theorem dX7_areRight_14 : decode cX7_areRight 14 = .ok (.iload_n 2, 1) := by decide +kernel
theorem dX7_areRight_15 : decode cX7_areRight 15 = .ok (.invokestatic 129, 3) := by decide +kernel
theorem dX7_areRight_18 : decode cX7_areRight 18 = .ok (.ifCond .eq 31, 3) := by decide +kernel
theorem dX7_areRight_21 : decode cX7_areRight 21 = .ok (.iload_n 3, 1) := by decide +kernel
theorem dX7_areRight_22 : decode cX7_areRight 22 = .ok (.invokestatic 132, 3) := by decide +kernel
theorem dX7_areRight_25 : decode cX7_areRight 25 = .ok (.ifCond .eq 24, 3) := by decide +kernel
theorem dX7_areRight_28 : decode cX7_areRight 28 = .ok (.iload 4, 2) := by decide +kernel
theorem dX7_areRight_30 : decode cX7_areRight 30 = .ok (.iconst 0, 1) := by decide +kernel
theorem dX7_areRight_31 : decode cX7_areRight 31 = .ok (.bipush 30, 2) := by decide +kernel
theorem dX7_areRight_33 : decode cX7_areRight 33 = .ok (.invokestatic 41, 3) := by decide +kernel
theorem dX7_areRight_36 : decode cX7_areRight 36 = .ok (.ifCond .eq 13, 3) := by decide +kernel
theorem dX7_areRight_39 : decode cX7_areRight 39 = .ok (.iload 4, 2) := by decide +kernel
theorem dX7_areRight_41 : decode cX7_areRight 41 = .ok (.iload_n 3, 1) := by decide +kernel
theorem dX7_areRight_42 : decode cX7_areRight 42 = .ok (.if_icmp .gt 7, 3) := by decide +kernel
theorem dX7_areRight_45 : decode cX7_areRight 45 = .ok (.iconst 1, 1) := by decide +kernel
theorem dX7_areRight_46 : decode cX7_areRight 46 = .ok (.goto 4, 3) := by decide +kernel
theorem dX7_areRight_49 : decode cX7_areRight 49 = .ok (.iconst 0, 1) := by decide +kernel
theorem dX7_areRight_50 : decode cX7_areRight 50 = .ok (.ireturn, 1) := by decide +kernel
theorem dX7_added_0 : decode cX7_added 0 = .ok (.aload_n 0, 1) := by decide +kernel
theorem dX7_added_1 : decode cX7_added 1 = .ok (.aload_n 0, 1) := by decide +kernel
theorem dX7_added_2 : decode cX7_added 2 = .ok (.invokevirtual 135, 3) := by decide +kernel
theorem dX7_added_5 : decode cX7_added 5 = .ok (.putfield 139, 3) := by decide +kernel
theorem dX7_added_8 : decode cX7_added 8 = .ok (.aload_n 0, 1) := by decide +kernel
theorem dX7_added_9 : decode cX7_added 9 = .ok (.aload_n 0, 1) := by decide +kernel
theorem dX7_added_10 : decode cX7_added 10 = .ok (.getfield 139, 3) := by decide +kernel
theorem dX7_added_13 : decode cX7_added 13 = .ok (.ifCond .ne 7, 3) := by decide +kernel
theorem dX7_added_16 : decode cX7_added 16 = .ok (.iconst 0, 1) := by decide +kernel
theorem dX7_added_17 : decode cX7_added 17 = .ok (.goto 4, 3) := by decide +kernel
theorem dX7_added_20 : decode cX7_added 20 = .ok (.iload_n 1, 1) := by decide +kernel
theorem dX7_added_21 : decode cX7_added 21 = .ok (.putfield 37, 3) := by decide +kernel
theorem dX7_added_24 : decode cX7_added 24 = .ok (.aload_n 0, 1) := by decide +kernel
theorem dX7_added_25 : decode cX7_added 25 = .ok (.getfield 37, 3) := by decide +kernel
theorem dX7_added_28 : decode cX7_added 28 = .ok (.ifCond .le 5, 3) := by decide +kernel
theorem dX7_added_31 : decode cX7_added 31 = .ok (.iconst 0, 1) := by decide +kernel
theorem dX7_added_32 : decode cX7_added 32 = .ok (.ireturn, 1) := by decide +kernel
theorem dX7_added_33 : decode cX7_added 33 = .ok (.aload_n 0, 1) := by decide +kernel
theorem dX7_added_34 : decode cX7_added 34 = .ok (.invokevirtual 109, 3) := by decide +kernel
theorem dX7_added_37 : decode cX7_added 37 = .ok (.aload_n 0, 1) := by decide +kernel
theorem dX7_added_38 : decode cX7_added 38 = .ok (.invokevirtual 142, 3) := by decide +kernel
theorem dX7_added_41 : decode cX7_added 41 = .ok (.ireturn, 1) := by decide +kernel
theorem dX7_add_0 : decode cX7_add 0 = .ok (.aload_n 0, 1) := by decide +kernel
theorem dX7_add_1 : decode cX7_add 1 = .ok (.iload_n 2, 1) := by decide +kernel
theorem dX7_add_2 : decode cX7_add 2 = .ok (.iload_n 3, 1) := by decide +kernel
theorem dX7_add_3 : decode cX7_add 3 = .ok (.iload 4, 2) := by decide +kernel
theorem dX7_add_5 : decode cX7_add 5 = .ok (.iload 5, 2) := by decide +kernel
theorem dX7_add_7 : decode cX7_add 7 = .ok (.iload 6, 2) := by decide +kernel
theorem dX7_add_9 : decode cX7_add 9 = .ok (.invokestatic 145, 3) := by decide +kernel
theorem dX7_add_12 : decode cX7_add 12 = .ok (.ifCond .eq 7, 3) := by decide +kernel
theorem dX7_add_15 : decode cX7_add 15 = .ok (.iconst 0, 1) := by decide +kernel
theorem dX7_add_16 : decode cX7_add 16 = .ok (.goto 4, 3) := by decide +kernel
theorem dX7_add_19 : decode cX7_add 19 = .ok (.iconst 1, 1) := by decide +kernel
theorem dX7_add_20 : decode cX7_add 20 = .ok (.putfield 37, 3) := by decide +kernel
theorem dX7_add_23 : decode cX7_add 23 = .ok (.aload_n 0, 1) := by decide +kernel
theorem dX7_add_24 : decode cX7_add 24 = .ok (.getfield 37, 3) := by decide +kernel
theorem dX7_add_27 : decode cX7_add 27 = .ok (.ifCond .le 5, 3) := by decide +kernel
theorem dX7_add_30 : decode cX7_add 30 = .ok (.iconst 0, 1) := by decide +kernel
theorem dX7_add_31 : decode cX7_add 31 = .ok (.ireturn, 1) := by decide +kernel
theorem dX7_add_32 : decode cX7_add 32 = .ok (.aload_n 0, 1) := by decide +kernel
theorem dX7_add_33 : decode cX7_add 33 = .ok (.iload_n 1, 1) := by decide +kernel
theorem dX7_add_34 : decode cX7_add 34 = .ok (.ifCond .eq 7, 3) := by decide +kernel
theorem dX7_add_37 : decode cX7_add 37 = .ok (.iconst 0, 1) := by decide +kernel
theorem dX7_add_38 : decode cX7_add 38 = .ok (.goto 4, 3) := by decide +kernel
theorem dX7_add_41 : decode cX7_add 41 = .ok (.iconst 1, 1) := by decide +kernel
theorem dX7_add_42 : decode cX7_add 42 = .ok (.iload_n 2, 1) := by decide +kernel
theorem dX7_add_43 : decode cX7_add 43 = .ok (.iload_n 3, 1) := by decide +kernel
theorem dX7_add_44 : decode cX7_add 44 = .ok (.iload 4, 2) := by decide +kernel
theorem dX7_add_46 : decode cX7_add 46 = .ok (.iload 5, 2) := by decide +kernel
theorem dX7_add_48 : decode cX7_add 48 = .ok (.iload 6, 2) := by decide +kernel
theorem dX7_add_50 : decode cX7_add 50 = .ok (.invokevirtual 49, 3) := by decide +kernel
theorem dX7_add_53 : decode cX7_add 53 = .ok (.aload_n 0, 1) := by decide +kernel
theorem dX7_add_54 : decode cX7_add 54 = .ok (.iconst 2, 1) := by decide +kernel
theorem dX7_add_55 : decode cX7_add 55 = .ok (.invokevirtual 149, 3) := by decide +kernel
theorem dX7_add_58 : decode cX7_add 58 = .ok (.ireturn, 1) := by decide +kernel
theorem dX7_repeat_0 : decode cX7_repeat 0 = .ok (.aload_n 0, 1) := by decide +kernel
theorem dX7_repeat_1 : decode cX7_repeat 1 = .ok (.aload_n 0, 1) := by decide +kernel
theorem dX7_repeat_2 : decode cX7_repeat 2 = .ok (.iload_n 1, 1) := by decide +kernel
theorem dX7_repeat_3 : decode cX7_repeat 3 = .ok (.invokevirtual 152, 3) := by decide +kernel
theorem dX7_repeat_6 : decode cX7_repeat 6 = .ok (.ifCond .ne 7, 3) := by decide +kernel
theorem dX7_repeat_9 : decode cX7_repeat 9 = .ok (.iconst 1, 1) := by decide +kernel
theorem dX7_repeat_10 : decode cX7_repeat 10 = .ok (.goto 22, 3) := by decide +kernel
theorem dX7_repeat_13 : decode cX7_repeat 13 = .ok (.iload_n 2, 1) := by decide +kernel
theorem dX7_repeat_14 : decode cX7_repeat 14 = .ok (.invokestatic 126, 3) := by decide +kernel
theorem dX7_repeat_17 : decode cX7_repeat 17 = .ok (.ifCond .eq 14, 3) := by decide +kernel
theorem dX7_repeat_20 : decode cX7_repeat 20 = .ok (.iload_n 3, 1) := by decide +kernel
theorem dX7_repeat_21 : decode cX7_repeat 21 = .ok (.invokestatic 129, 3) := by decide +kernel
theorem dX7_repeat_24 : decode cX7_repeat 24 = .ok (.ifCond .eq 7, 3) := by decide +kernel
theorem dX7_repeat_27 : decode cX7_repeat 27 = .ok (.iconst 0, 1) := by decide +kernel
theorem dX7_repeat_28 : decode cX7_repeat 28 = .ok (.goto 4, 3) := by decide +kernel
theorem dX7_repeat_31 : decode cX7_repeat 31 = .ok (.iconst 2, 1) := by decide +kernel
theorem dX7_repeat_32 : decode cX7_repeat 32 = .ok (.putfield 37, 3) := by decide +kernel
theorem dX7_repeat_35 : decode cX7_repeat 35 = .ok (.aload_n 0, 1) := by decide +kernel
theorem dX7_repeat_36 : decode cX7_repeat 36 = .ok (.getfield 37, 3) := by decide +kernel
theorem dX7_repeat_39 : decode cX7_repeat 39 = .ok (.ifCond .le 5, 3) := by decide +kernel
theorem dX7_repeat_42 : decode cX7_repeat 42 = .ok (.iconst 0, 1) := by decide +kernel
theorem dX7_repeat_43 : decode cX7_repeat 43 = .ok (.ireturn, 1) := by decide +kernel
theorem dX7_repeat_44 : decode cX7_repeat 44 = .ok (.aload_n 0, 1) := by decide +kernel
theorem dX7_repeat_45 : decode cX7_repeat 45 = .ok (.iload_n 1, 1) := by decide +kernel
theorem dX7_repeat_46 : decode cX7_repeat 46 = .ok (.iload_n 2, 1) := by decide +kernel
theorem dX7_repeat_47 : decode cX7_repeat 47 = .ok (.iload_n 3, 1) := by decide +kernel
theorem dX7_repeat_48 : decode cX7_repeat 48 = .ok (.invokevirtual 155, 3) := by decide +kernel
theorem dX7_repeat_51 : decode cX7_repeat 51 = .ok (.aload_n 0, 1) := by decide +kernel
theorem dX7_repeat_52 : decode cX7_repeat 52 = .ok (.iconst 3, 1) := by decide +kernel
theorem dX7_repeat_53 : decode cX7_repeat 53 = .ok (.invokevirtual 149, 3) := by decide +kernel
theorem dX7_repeat_56 : decode cX7_repeat 56 = .ok (.ireturn, 1) := by decide +kernel
theorem dX7_remove_0 : decode cX7_remove 0 = .ok (.aload_n 0, 1) := by decide +kernel
theorem dX7_remove_1 : decode cX7_remove 1 = .ok (.aload_n 0, 1) := by decide +kernel
theorem dX7_remove_2 : decode cX7_remove 2 = .ok (.iload_n 1, 1) := by decide +kernel
theorem dX7_remove_3 : decode cX7_remove 3 = .ok (.invokevirtual 152, 3) := by decide +kernel
theorem dX7_remove_6 : decode cX7_remove 6 = .ok (.ifCond .eq 7, 3) := by decide +kernel
theorem dX7_remove_9 : decode cX7_remove 9 = .ok (.iconst 0, 1) := by decide +kernel
theorem dX7_remove_10 : decode cX7_remove 10 = .ok (.goto 4, 3) := by decide +kernel
theorem dX7_remove_13 : decode cX7_remove 13 = .ok (.iconst 1, 1) := by decide +kernel
theorem dX7_remove_14 : decode cX7_remove 14 = .ok (.putfield 37, 3) := by decide +kernel
theorem dX7_remove_17 : decode cX7_remove 17 = .ok (.aload_n 0, 1) := by decide +kernel
theorem dX7_remove_18 : decode cX7_remove 18 = .ok (.getfield 37, 3) := by decide +kernel
theorem dX7_remove_21 : decode cX7_remove 21 = .ok (.ifCond .le 5, 3) := by decide +kernel
theorem dX7_remove_24 : decode cX7_remove 24 = .ok (.iconst 0, 1) := by decide +kernel
theorem dX7_remove_25 : decode cX7_remove 25 = .ok (.ireturn, 1) := by decide +kernel
theorem dX7_remove_26 : decode cX7_remove 26 = .ok (.aload_n 0, 1) := by decide +kernel
theorem dX7_remove_27 : decode cX7_remove 27 = .ok (.invokevirtual 109, 3) := by decide +kernel
theorem dX7_remove_30 : decode cX7_remove 30 = .ok (.iconst 1, 1) := by decide +kernel
theorem dX7_remove_31 : decode cX7_remove 31 = .ok (.istore_n 2, 1) := by decide +kernel
theorem dX7_remove_32 : decode cX7_remove 32 = .ok (.iload_n 1, 1) := by decide +kernel
theorem dX7_remove_33 : decode cX7_remove 33 = .ok (.istore_n 3, 1) := by decide +kernel
theorem dX7_remove_34 : decode cX7_remove 34 = .ok (.aload_n 0, 1) := by decide +kernel
theorem dX7_remove_35 : decode cX7_remove 35 = .ok (.getfield 7, 3) := by decide +kernel
theorem dX7_remove_38 : decode cX7_remove 38 = .ok (.bipush 39, 2) := by decide +kernel
theorem dX7_remove_40 : decode cX7_remove 40 = .ok (.iaload, 1) := by decide +kernel
theorem dX7_remove_41 : decode cX7_remove 41 = .ok (.iconst 1, 1) := by decide +kernel
theorem dX7_remove_42 : decode cX7_remove 42 = .ok (.isub, 1) := by decide +kernel
theorem dX7_remove_43 : decode cX7_remove 43 = .ok (.istore 4, 2) := by decide +kernel
theorem dX7_remove_45 : decode cX7_remove 45 = .ok (.iload 4, 2) := by decide +kernel
theorem dX7_remove_47 : decode cX7_remove 47 = .ok (.ifCond .lt 44, 3) := by decide +kernel
theorem dX7_remove_50 : decode cX7_remove 50 = .ok (.aload_n 0, 1) := by decide +kernel
theorem dX7_remove_51 : decode cX7_remove 51 = .ok (.iload 4, 2) := by decide +kernel
theorem dX7_remove_53 : decode cX7_remove 53 = .ok (.bipush 7, 2) := by decide +kernel
theorem dX7_remove_55 : decode cX7_remove 55 = .ok (.invokevirtual 45, 3) := by decide +kernel
theorem dX7_remove_58 : decode cX7_remove 58 = .ok (.iload_n 3, 1) := by decide +kernel
theorem dX7_remove_59 : decode cX7_remove 59 = .ok (.if_icmp .ne 26, 3) := by decide +kernel
theorem dX7_remove_62 : decode cX7_remove 62 = .ok (.aload_n 0, 1) := by decide +kernel
theorem dX7_remove_63 : decode cX7_remove 63 = .ok (.iload 4, 2) := by decide +kernel
theorem dX7_remove_65 : decode cX7_remove 65 = .ok (.invokevirtual 158, 3) := by decide +kernel
theorem dX7_remove_68 : decode cX7_remove 68 = .ok (.iload_n 3, 1) := by decide +kernel
theorem dX7_remove_69 : decode cX7_remove 69 = .ok (.iload 4, 2) := by decide +kernel
theorem dX7_remove_71 : decode cX7_remove 71 = .ok (.iload_n 3, 1) := by decide +kernel
theorem dX7_remove_72 : decode cX7_remove 72 = .ok (.if_icmp .ge 7, 3) := by decide +kernel
theorem dX7_remove_75 : decode cX7_remove 75 = .ok (.iconst 1, 1) := by decide +kernel
theorem dX7_remove_76 : decode cX7_remove 76 = .ok (.goto 4, 3) := by decide +kernel
theorem dX7_remove_79 : decode cX7_remove 79 = .ok (.iconst 0, 1) := by decide +kernel
theorem dX7_remove_80 : decode cX7_remove 80 = .ok (.isub, 1) := by decide +kernel
theorem dX7_remove_81 : decode cX7_remove 81 = .ok (.istore_n 3, 1) := by decide +kernel
theorem dX7_remove_82 : decode cX7_remove 82 = .ok (.iinc 2 1, 3) := by decide +kernel
theorem dX7_remove_85 : decode cX7_remove 85 = .ok (.iinc 4 (-1), 3) := by decide +kernel
theorem dX7_remove_88 : decode cX7_remove 88 = .ok (.goto (-43), 3) := by decide +kernel
theorem dX7_remove_91 : decode cX7_remove 91 = .ok (.aload_n 0, 1) := by decide +kernel
theorem dX7_remove_92 : decode cX7_remove 92 = .ok (.iload_n 3, 1) := by decide +kernel
theorem dX7_remove_93 : decode cX7_remove 93 = .ok (.invokevirtual 158, 3) := by decide +kernel
theorem dX7_remove_96 : decode cX7_remove 96 = .ok (.iload_n 2, 1) := by decide +kernel
theorem dX7_remove_97 : decode cX7_remove 97 = .ok (.ireturn, 1) := by decide +kernel
theorem dX7_isLive_0 : decode cX7_isLive 0 = .ok (.aload_n 0, 1) := by decide +kernel
theorem dX7_isLive_1 : decode cX7_isLive 1 = .ok (.iload_n 1, 1) := by decide +kernel
theorem dX7_isLive_2 : decode cX7_isLive 2 = .ok (.iconst 0, 1) := by decide +kernel
theorem dX7_isLive_3 : decode cX7_isLive 3 = .ok (.invokevirtual 45, 3) := by decide +kernel
theorem dX7_isLive_6 : decode cX7_isLive 6 = .ok (.ifCond .ne 7, 3) := by decide +kernel
theorem dX7_isLive_9 : decode cX7_isLive 9 = .ok (.iconst 1, 1) := by decide +kernel
theorem dX7_isLive_10 : decode cX7_isLive 10 = .ok (.goto 4, 3) := by decide +kernel
theorem dX7_isLive_13 : decode cX7_isLive 13 = .ok (.iconst 0, 1) := by decide +kernel
theorem dX7_isLive_14 : decode cX7_isLive 14 = .ok (.ireturn, 1) := by decide +kernel
theorem dX7_isOverrun_0 : decode cX7_isOverrun 0 = .ok (.iload_n 0, 1) := by decide +kernel
theorem dX7_isOverrun_1 : decode cX7_isOverrun 1 = .ok (.bipush (-60), 2) := by decide +kernel
theorem dX7_isOverrun_3 : decode cX7_isOverrun 3 = .ok (.bipush 120, 2) := by decide +kernel
theorem dX7_isOverrun_5 : decode cX7_isOverrun 5 = .ok (.invokestatic 41, 3) := by decide +kernel
theorem dX7_isOverrun_8 : decode cX7_isOverrun 8 = .ok (.ireturn, 1) := by decide +kernel
theorem dX7_overrun_0 : decode cX7_overrun 0 = .ok (.aload_n 0, 1) := by decide +kernel
theorem dX7_overrun_1 : decode cX7_overrun 1 = .ok (.aload_n 0, 1) := by decide +kernel
theorem dX7_overrun_2 : decode cX7_overrun 2 = .ok (.iload_n 1, 1) := by decide +kernel
theorem dX7_overrun_3 : decode cX7_overrun 3 = .ok (.invokevirtual 152, 3) := by decide +kernel
theorem dX7_overrun_6 : decode cX7_overrun 6 = .ok (.ifCond .ne 7, 3) := by decide +kernel
theorem dX7_overrun_9 : decode cX7_overrun 9 = .ok (.iconst 1, 1) := by decide +kernel
theorem dX7_overrun_10 : decode cX7_overrun 10 = .ok (.goto 27, 3) := by decide +kernel
theorem dX7_overrun_13 : decode cX7_overrun 13 = .ok (.iload_n 2, 1) := by decide +kernel
theorem dX7_overrun_14 : decode cX7_overrun 14 = .ok (.invokestatic 161, 3) := by decide +kernel
theorem dX7_overrun_17 : decode cX7_overrun 17 = .ok (.ifCond .ne 7, 3) := by decide +kernel
theorem dX7_overrun_20 : decode cX7_overrun 20 = .ok (.iconst 2, 1) := by decide +kernel
theorem dX7_overrun_21 : decode cX7_overrun 21 = .ok (.goto 16, 3) := by decide +kernel
theorem dX7_overrun_24 : decode cX7_overrun 24 = .ok (.aload_n 0, 1) := by decide +kernel
theorem dX7_overrun_25 : decode cX7_overrun 25 = .ok (.iload_n 1, 1) := by decide +kernel
theorem dX7_overrun_26 : decode cX7_overrun 26 = .ok (.invokevirtual 164, 3) := by decide +kernel
theorem dX7_overrun_29 : decode cX7_overrun 29 = .ok (.ifCond .eq 7, 3) := by decide +kernel
theorem dX7_overrun_32 : decode cX7_overrun 32 = .ok (.iconst 0, 1) := by decide +kernel
theorem dX7_overrun_33 : decode cX7_overrun 33 = .ok (.goto 4, 3) := by decide +kernel
theorem dX7_overrun_36 : decode cX7_overrun 36 = .ok (.iconst 3, 1) := by decide +kernel
theorem dX7_overrun_37 : decode cX7_overrun 37 = .ok (.putfield 37, 3) := by decide +kernel
theorem dX7_overrun_40 : decode cX7_overrun 40 = .ok (.aload_n 0, 1) := by decide +kernel
theorem dX7_overrun_41 : decode cX7_overrun 41 = .ok (.getfield 37, 3) := by decide +kernel
theorem dX7_overrun_44 : decode cX7_overrun 44 = .ok (.ifCond .le 7, 3) := by decide +kernel
theorem dX7_overrun_47 : decode cX7_overrun 47 = .ok (.iconst 0, 1) := by decide +kernel
theorem dX7_overrun_48 : decode cX7_overrun 48 = .ok (.goto 18, 3) := by decide +kernel
theorem dX7_overrun_51 : decode cX7_overrun 51 = .ok (.aload_n 0, 1) := by decide +kernel
theorem dX7_overrun_52 : decode cX7_overrun 52 = .ok (.bipush 40, 2) := by decide +kernel
theorem dX7_overrun_54 : decode cX7_overrun 54 = .ok (.bipush 8, 2) := by decide +kernel
theorem dX7_overrun_56 : decode cX7_overrun 56 = .ok (.iload_n 1, 1) := by decide +kernel
theorem dX7_overrun_57 : decode cX7_overrun 57 = .ok (.imul, 1) := by decide +kernel
theorem dX7_overrun_58 : decode cX7_overrun 58 = .ok (.iadd, 1) := by decide +kernel
theorem dX7_overrun_59 : decode cX7_overrun 59 = .ok (.bipush 6, 2) := by decide +kernel
theorem dX7_overrun_61 : decode cX7_overrun 61 = .ok (.iadd, 1) := by decide +kernel
theorem dX7_overrun_62 : decode cX7_overrun 62 = .ok (.iload_n 2, 1) := by decide +kernel
theorem dX7_overrun_63 : decode cX7_overrun 63 = .ok (.invokevirtual 120, 3) := by decide +kernel
theorem dX7_overrun_66 : decode cX7_overrun 66 = .ok (.ireturn, 1) := by decide +kernel
theorem dX7_closeGroup_0 : decode cX7_closeGroup 0 = .ok (.bipush 8, 2) := by decide +kernel
theorem dX7_closeGroup_2 : decode cX7_closeGroup 2 = .ok (.iconst 5, 1) := by decide +kernel
theorem dX7_closeGroup_3 : decode cX7_closeGroup 3 = .ok (.iload_n 1, 1) := by decide +kernel
theorem dX7_closeGroup_4 : decode cX7_closeGroup 4 = .ok (.imul, 1) := by decide +kernel
theorem dX7_closeGroup_5 : decode cX7_closeGroup 5 = .ok (.iadd, 1) := by decide +kernel
theorem dX7_closeGroup_6 : decode cX7_closeGroup 6 = .ok (.istore_n 2, 1) := by decide +kernel
theorem dX7_closeGroup_7 : decode cX7_closeGroup 7 = .ok (.aload_n 0, 1) := by decide +kernel
theorem dX7_closeGroup_8 : decode cX7_closeGroup 8 = .ok (.iload_n 1, 1) := by decide +kernel
theorem dX7_closeGroup_9 : decode cX7_closeGroup 9 = .ok (.invokevirtual 167, 3) := by decide +kernel
theorem dX7_closeGroup_12 : decode cX7_closeGroup 12 = .ok (.istore_n 3, 1) := by decide +kernel
theorem dX7_closeGroup_13 : decode cX7_closeGroup 13 = .ok (.aload_n 0, 1) := by decide +kernel
theorem dX7_closeGroup_14 : decode cX7_closeGroup 14 = .ok (.iload_n 1, 1) := by decide +kernel
theorem dX7_closeGroup_15 : decode cX7_closeGroup 15 = .ok (.invokevirtual 74, 3) := by decide +kernel
theorem dX7_closeGroup_18 : decode cX7_closeGroup 18 = .ok (.iload_n 3, 1) := by decide +kernel
theorem dX7_closeGroup_19 : decode cX7_closeGroup 19 = .ok (.isub, 1) := by decide +kernel
theorem dX7_closeGroup_20 : decode cX7_closeGroup 20 = .ok (.istore 4, 2) := by decide +kernel
theorem dX7_closeGroup_22 : decode cX7_closeGroup 22 = .ok (.iload 4, 2) := by decide +kernel
theorem dX7_closeGroup_24 : decode cX7_closeGroup 24 = .ok (.aload_n 0, 1) := by decide +kernel
theorem dX7_closeGroup_25 : decode cX7_closeGroup 25 = .ok (.getfield 7, 3) := by decide +kernel
theorem dX7_closeGroup_28 : decode cX7_closeGroup 28 = .ok (.bipush 7, 2) := by decide +kernel
theorem dX7_closeGroup_30 : decode cX7_closeGroup 30 = .ok (.iaload, 1) := by decide +kernel
theorem dX7_closeGroup_31 : decode cX7_closeGroup 31 = .ok (.ineg, 1) := by decide +kernel
theorem dX7_closeGroup_32 : decode cX7_closeGroup 32 = .ok (.if_icmp .ge 14, 3) := by decide +kernel
theorem dX7_closeGroup_35 : decode cX7_closeGroup 35 = .ok (.aload_n 0, 1) := by decide +kernel
theorem dX7_closeGroup_36 : decode cX7_closeGroup 36 = .ok (.getfield 7, 3) := by decide +kernel
theorem dX7_closeGroup_39 : decode cX7_closeGroup 39 = .ok (.bipush 7, 2) := by decide +kernel
theorem dX7_closeGroup_41 : decode cX7_closeGroup 41 = .ok (.iaload, 1) := by decide +kernel
theorem dX7_closeGroup_42 : decode cX7_closeGroup 42 = .ok (.ineg, 1) := by decide +kernel
theorem dX7_closeGroup_43 : decode cX7_closeGroup 43 = .ok (.goto 27, 3) := by decide +kernel
theorem dX7_closeGroup_46 : decode cX7_closeGroup 46 = .ok (.iload 4, 2) := by decide +kernel
theorem dX7_closeGroup_48 : decode cX7_closeGroup 48 = .ok (.aload_n 0, 1) := by decide +kernel
theorem dX7_closeGroup_49 : decode cX7_closeGroup 49 = .ok (.getfield 7, 3) := by decide +kernel
theorem dX7_closeGroup_52 : decode cX7_closeGroup 52 = .ok (.bipush 7, 2) := by decide +kernel
theorem dX7_closeGroup_54 : decode cX7_closeGroup 54 = .ok (.iaload, 1) := by decide +kernel
theorem dX7_closeGroup_55 : decode cX7_closeGroup 55 = .ok (.if_icmp .le 13, 3) := by decide +kernel
theorem dX7_closeGroup_58 : decode cX7_closeGroup 58 = .ok (.aload_n 0, 1) := by decide +kernel
theorem dX7_closeGroup_59 : decode cX7_closeGroup 59 = .ok (.getfield 7, 3) := by decide +kernel
theorem dX7_closeGroup_62 : decode cX7_closeGroup 62 = .ok (.bipush 7, 2) := by decide +kernel
theorem dX7_closeGroup_64 : decode cX7_closeGroup 64 = .ok (.iaload, 1) := by decide +kernel
theorem dX7_closeGroup_65 : decode cX7_closeGroup 65 = .ok (.goto 5, 3) := by decide +kernel
theorem dX7_closeGroup_68 : decode cX7_closeGroup 68 = .ok (.iload 4, 2) := by decide +kernel
theorem dX7_closeGroup_70 : decode cX7_closeGroup 70 = .ok (.istore 5, 2) := by decide +kernel
theorem dX7_closeGroup_72 : decode cX7_closeGroup 72 = .ok (.aload_n 0, 1) := by decide +kernel
theorem dX7_closeGroup_73 : decode cX7_closeGroup 73 = .ok (.getfield 7, 3) := by decide +kernel
theorem dX7_closeGroup_76 : decode cX7_closeGroup 76 = .ok (.iload_n 2, 1) := by decide +kernel
theorem dX7_closeGroup_77 : decode cX7_closeGroup 77 = .ok (.iconst 2, 1) := by decide +kernel
theorem dX7_closeGroup_78 : decode cX7_closeGroup 78 = .ok (.iadd, 1) := by decide +kernel
theorem dX7_closeGroup_79 : decode cX7_closeGroup 79 = .ok (.dup2, 1) := by decide +kernel
theorem dX7_closeGroup_80 : decode cX7_closeGroup 80 = .ok (.iaload, 1) := by decide +kernel
theorem dX7_closeGroup_81 : decode cX7_closeGroup 81 = .ok (.aload_n 0, 1) := by decide +kernel
theorem dX7_closeGroup_82 : decode cX7_closeGroup 82 = .ok (.getfield 7, 3) := by decide +kernel
theorem dX7_closeGroup_85 : decode cX7_closeGroup 85 = .ok (.iload_n 2, 1) := by decide +kernel
theorem dX7_closeGroup_86 : decode cX7_closeGroup 86 = .ok (.iconst 0, 1) := by decide +kernel
theorem dX7_closeGroup_87 : decode cX7_closeGroup 87 = .ok (.iadd, 1) := by decide +kernel
theorem dX7_closeGroup_88 : decode cX7_closeGroup 88 = .ok (.iaload, 1) := by decide +kernel
theorem dX7_closeGroup_89 : decode cX7_closeGroup 89 = .ok (.iadd, 1) := by decide +kernel
theorem dX7_closeGroup_90 : decode cX7_closeGroup 90 = .ok (.iastore, 1) := by decide +kernel
theorem dX7_closeGroup_91 : decode cX7_closeGroup 91 = .ok (.aload_n 0, 1) := by decide +kernel
theorem dX7_closeGroup_92 : decode cX7_closeGroup 92 = .ok (.getfield 7, 3) := by decide +kernel
theorem dX7_closeGroup_95 : decode cX7_closeGroup 95 = .ok (.iload_n 2, 1) := by decide +kernel
theorem dX7_closeGroup_96 : decode cX7_closeGroup 96 = .ok (.iconst 3, 1) := by decide +kernel
theorem dX7_closeGroup_97 : decode cX7_closeGroup 97 = .ok (.iadd, 1) := by decide +kernel
theorem dX7_closeGroup_98 : decode cX7_closeGroup 98 = .ok (.dup2, 1) := by decide +kernel
theorem dX7_closeGroup_99 : decode cX7_closeGroup 99 = .ok (.iaload, 1) := by decide +kernel
theorem dX7_closeGroup_100 : decode cX7_closeGroup 100 = .ok (.iload_n 3, 1) := by decide +kernel
theorem dX7_closeGroup_101 : decode cX7_closeGroup 101 = .ok (.iadd, 1) := by decide +kernel
theorem dX7_closeGroup_102 : decode cX7_closeGroup 102 = .ok (.iastore, 1) := by decide +kernel
theorem dX7_closeGroup_103 : decode cX7_closeGroup 103 = .ok (.aload_n 0, 1) := by decide +kernel
theorem dX7_closeGroup_104 : decode cX7_closeGroup 104 = .ok (.getfield 7, 3) := by decide +kernel
theorem dX7_closeGroup_107 : decode cX7_closeGroup 107 = .ok (.iload_n 2, 1) := by decide +kernel
theorem dX7_closeGroup_108 : decode cX7_closeGroup 108 = .ok (.iconst 4, 1) := by decide +kernel
theorem dX7_closeGroup_109 : decode cX7_closeGroup 109 = .ok (.iadd, 1) := by decide +kernel
theorem dX7_closeGroup_110 : decode cX7_closeGroup 110 = .ok (.dup2, 1) := by decide +kernel
theorem dX7_closeGroup_111 : decode cX7_closeGroup 111 = .ok (.iaload, 1) := by decide +kernel
theorem dX7_closeGroup_112 : decode cX7_closeGroup 112 = .ok (.iload 4, 2) := by decide +kernel
theorem dX7_closeGroup_114 : decode cX7_closeGroup 114 = .ok (.iload 5, 2) := by decide +kernel
theorem dX7_closeGroup_116 : decode cX7_closeGroup 116 = .ok (.isub, 1) := by decide +kernel
theorem dX7_closeGroup_117 : decode cX7_closeGroup 117 = .ok (.iadd, 1) := by decide +kernel
theorem dX7_closeGroup_118 : decode cX7_closeGroup 118 = .ok (.iastore, 1) := by decide +kernel
theorem dX7_closeGroup_119 : decode cX7_closeGroup 119 = .ok (.aload_n 0, 1) := by decide +kernel
theorem dX7_closeGroup_120 : decode cX7_closeGroup 120 = .ok (.getfield 7, 3) := by decide +kernel
theorem dX7_closeGroup_123 : decode cX7_closeGroup 123 = .ok (.iload_n 2, 1) := by decide +kernel
theorem dX7_closeGroup_124 : decode cX7_closeGroup 124 = .ok (.iconst 1, 1) := by decide +kernel
theorem dX7_closeGroup_125 : decode cX7_closeGroup 125 = .ok (.iadd, 1) := by decide +kernel
theorem dX7_closeGroup_126 : decode cX7_closeGroup 126 = .ok (.iload 5, 2) := by decide +kernel
theorem dX7_closeGroup_128 : decode cX7_closeGroup 128 = .ok (.iastore, 1) := by decide +kernel
theorem dX7_closeGroup_129 : decode cX7_closeGroup 129 = .ok (.return_, 1) := by decide +kernel
theorem dX7_closeWeek_0 : decode cX7_closeWeek 0 = .ok (.aload_n 0, 1) := by decide +kernel
theorem dX7_closeWeek_1 : decode cX7_closeWeek 1 = .ok (.aload_n 0, 1) := by decide +kernel
theorem dX7_closeWeek_2 : decode cX7_closeWeek 2 = .ok (.getfield 7, 3) := by decide +kernel
theorem dX7_closeWeek_5 : decode cX7_closeWeek 5 = .ok (.bipush 38, 2) := by decide +kernel
theorem dX7_closeWeek_7 : decode cX7_closeWeek 7 = .ok (.iaload, 1) := by decide +kernel
theorem dX7_closeWeek_8 : decode cX7_closeWeek 8 = .ok (.sipush 1000, 3) := by decide +kernel
theorem dX7_closeWeek_11 : decode cX7_closeWeek 11 = .ok (.if_icmp .ge 7, 3) := by decide +kernel
theorem dX7_closeWeek_14 : decode cX7_closeWeek 14 = .ok (.iconst 0, 1) := by decide +kernel
theorem dX7_closeWeek_15 : decode cX7_closeWeek 15 = .ok (.goto 4, 3) := by decide +kernel
theorem dX7_closeWeek_18 : decode cX7_closeWeek 18 = .ok (.iconst 1, 1) := by decide +kernel
theorem dX7_closeWeek_19 : decode cX7_closeWeek 19 = .ok (.putfield 37, 3) := by decide +kernel
theorem dX7_closeWeek_22 : decode cX7_closeWeek 22 = .ok (.aload_n 0, 1) := by decide +kernel
theorem dX7_closeWeek_23 : decode cX7_closeWeek 23 = .ok (.getfield 37, 3) := by decide +kernel
theorem dX7_closeWeek_26 : decode cX7_closeWeek 26 = .ok (.ifCond .le 5, 3) := by decide +kernel
theorem dX7_closeWeek_29 : decode cX7_closeWeek 29 = .ok (.iconst 0, 1) := by decide +kernel
theorem dX7_closeWeek_30 : decode cX7_closeWeek 30 = .ok (.ireturn, 1) := by decide +kernel
theorem dX7_closeWeek_31 : decode cX7_closeWeek 31 = .ok (.aload_n 0, 1) := by decide +kernel
theorem dX7_closeWeek_32 : decode cX7_closeWeek 32 = .ok (.invokevirtual 109, 3) := by decide +kernel
theorem dX7_closeWeek_35 : decode cX7_closeWeek 35 = .ok (.iconst 0, 1) := by decide +kernel
theorem dX7_closeWeek_36 : decode cX7_closeWeek 36 = .ok (.istore_n 1, 1) := by decide +kernel
theorem dX7_closeWeek_37 : decode cX7_closeWeek 37 = .ok (.iload_n 1, 1) := by decide +kernel
theorem dX7_closeWeek_38 : decode cX7_closeWeek 38 = .ok (.bipush 6, 2) := by decide +kernel
theorem dX7_closeWeek_40 : decode cX7_closeWeek 40 = .ok (.if_icmp .ge 14, 3) := by decide +kernel
theorem dX7_closeWeek_43 : decode cX7_closeWeek 43 = .ok (.aload_n 0, 1) := by decide +kernel
theorem dX7_closeWeek_44 : decode cX7_closeWeek 44 = .ok (.iload_n 1, 1) := by decide +kernel
theorem dX7_closeWeek_45 : decode cX7_closeWeek 45 = .ok (.invokevirtual 170, 3) := by decide +kernel
theorem dX7_closeWeek_48 : decode cX7_closeWeek 48 = .ok (.iinc 1 1, 3) := by decide +kernel
theorem dX7_closeWeek_51 : decode cX7_closeWeek 51 = .ok (.goto (-14), 3) := by decide +kernel
theorem dX7_closeWeek_54 : decode cX7_closeWeek 54 = .ok (.iconst 0, 1) := by decide +kernel
theorem dX7_closeWeek_55 : decode cX7_closeWeek 55 = .ok (.istore_n 1, 1) := by decide +kernel
theorem dX7_closeWeek_56 : decode cX7_closeWeek 56 = .ok (.iload_n 1, 1) := by decide +kernel
theorem dX7_closeWeek_57 : decode cX7_closeWeek 57 = .ok (.aload_n 0, 1) := by decide +kernel
theorem dX7_closeWeek_58 : decode cX7_closeWeek 58 = .ok (.getfield 7, 3) := by decide +kernel
theorem dX7_closeWeek_61 : decode cX7_closeWeek 61 = .ok (.bipush 39, 2) := by decide +kernel
theorem dX7_closeWeek_63 : decode cX7_closeWeek 63 = .ok (.iaload, 1) := by decide +kernel
theorem dX7_closeWeek_64 : decode cX7_closeWeek 64 = .ok (.if_icmp .ge 17, 3) := by decide +kernel
theorem dX7_closeWeek_67 : decode cX7_closeWeek 67 = .ok (.aload_n 0, 1) := by decide +kernel
theorem dX7_closeWeek_68 : decode cX7_closeWeek 68 = .ok (.iload_n 1, 1) := by decide +kernel
theorem dX7_closeWeek_69 : decode cX7_closeWeek 69 = .ok (.bipush 6, 2) := by decide +kernel
theorem dX7_closeWeek_71 : decode cX7_closeWeek 71 = .ok (.iconst 0, 1) := by decide +kernel
theorem dX7_closeWeek_72 : decode cX7_closeWeek 72 = .ok (.invokevirtual 80, 3) := by decide +kernel
theorem dX7_closeWeek_75 : decode cX7_closeWeek 75 = .ok (.iinc 1 1, 3) := by decide +kernel
theorem dX7_closeWeek_78 : decode cX7_closeWeek 78 = .ok (.goto (-22), 3) := by decide +kernel
theorem dX7_closeWeek_81 : decode cX7_closeWeek 81 = .ok (.aload_n 0, 1) := by decide +kernel
theorem dX7_closeWeek_82 : decode cX7_closeWeek 82 = .ok (.getfield 7, 3) := by decide +kernel
theorem dX7_closeWeek_85 : decode cX7_closeWeek 85 = .ok (.bipush 38, 2) := by decide +kernel
theorem dX7_closeWeek_87 : decode cX7_closeWeek 87 = .ok (.dup2, 1) := by decide +kernel
theorem dX7_closeWeek_88 : decode cX7_closeWeek 88 = .ok (.iaload, 1) := by decide +kernel
theorem dX7_closeWeek_89 : decode cX7_closeWeek 89 = .ok (.iconst 1, 1) := by decide +kernel
theorem dX7_closeWeek_90 : decode cX7_closeWeek 90 = .ok (.iadd, 1) := by decide +kernel
theorem dX7_closeWeek_91 : decode cX7_closeWeek 91 = .ok (.iastore, 1) := by decide +kernel
theorem dX7_closeWeek_92 : decode cX7_closeWeek 92 = .ok (.aload_n 0, 1) := by decide +kernel
theorem dX7_closeWeek_93 : decode cX7_closeWeek 93 = .ok (.getfield 7, 3) := by decide +kernel
theorem dX7_closeWeek_96 : decode cX7_closeWeek 96 = .ok (.bipush 38, 2) := by decide +kernel
theorem dX7_closeWeek_98 : decode cX7_closeWeek 98 = .ok (.iaload, 1) := by decide +kernel
theorem dX7_closeWeek_99 : decode cX7_closeWeek 99 = .ok (.ireturn, 1) := by decide +kernel
theorem dX7_append_0 : decode cX7_append 0 = .ok (.aload_n 0, 1) := by decide +kernel
theorem dX7_append_1 : decode cX7_append 1 = .ok (.iload_n 1, 1) := by decide +kernel
theorem dX7_append_2 : decode cX7_append 2 = .ok (.bipush 33, 2) := by decide +kernel
theorem dX7_append_4 : decode cX7_append 4 = .ok (.bipush 126, 2) := by decide +kernel
theorem dX7_append_6 : decode cX7_append 6 = .ok (.invokestatic 41, 3) := by decide +kernel
theorem dX7_append_9 : decode cX7_append 9 = .ok (.ifCond .ne 7, 3) := by decide +kernel
theorem dX7_append_12 : decode cX7_append 12 = .ok (.iconst 1, 1) := by decide +kernel
theorem dX7_append_13 : decode cX7_append 13 = .ok (.goto 17, 3) := by decide +kernel
theorem dX7_append_16 : decode cX7_append 16 = .ok (.aload_n 0, 1) := by decide +kernel
theorem dX7_append_17 : decode cX7_append 17 = .ok (.getfield 173, 3) := by decide +kernel
theorem dX7_append_20 : decode cX7_append 20 = .ok (.bipush 60, 2) := by decide +kernel
theorem dX7_append_22 : decode cX7_append 22 = .ok (.if_icmp .ne 7, 3) := by decide +kernel
theorem dX7_append_25 : decode cX7_append 25 = .ok (.iconst 2, 1) := by decide +kernel
theorem dX7_append_26 : decode cX7_append 26 = .ok (.goto 4, 3) := by decide +kernel
theorem dX7_append_29 : decode cX7_append 29 = .ok (.iconst 0, 1) := by decide +kernel
theorem dX7_append_30 : decode cX7_append 30 = .ok (.putfield 37, 3) := by decide +kernel
theorem dX7_append_33 : decode cX7_append 33 = .ok (.aload_n 0, 1) := by decide +kernel
theorem dX7_append_34 : decode cX7_append 34 = .ok (.getfield 37, 3) := by decide +kernel
theorem dX7_append_37 : decode cX7_append 37 = .ok (.ifCond .le 5, 3) := by decide +kernel
theorem dX7_append_40 : decode cX7_append 40 = .ok (.iconst 0, 1) := by decide +kernel
theorem dX7_append_41 : decode cX7_append 41 = .ok (.ireturn, 1) := by decide +kernel
theorem dX7_append_42 : decode cX7_append 42 = .ok (.aload_n 0, 1) := by decide +kernel
theorem dX7_append_43 : decode cX7_append 43 = .ok (.getfield 16, 3) := by decide +kernel
theorem dX7_append_46 : decode cX7_append 46 = .ok (.aload_n 0, 1) := by decide +kernel
theorem dX7_append_47 : decode cX7_append 47 = .ok (.getfield 173, 3) := by decide +kernel
theorem dX7_append_50 : decode cX7_append 50 = .ok (.iload_n 1, 1) := by decide +kernel
theorem dX7_append_51 : decode cX7_append 51 = .ok (.iastore, 1) := by decide +kernel
theorem dX7_append_52 : decode cX7_append 52 = .ok (.aload_n 0, 1) := by decide +kernel
theorem dX7_append_53 : decode cX7_append 53 = .ok (.dup, 1) := by decide +kernel
theorem dX7_append_54 : decode cX7_append 54 = .ok (.getfield 173, 3) := by decide +kernel
theorem dX7_append_57 : decode cX7_append 57 = .ok (.iconst 1, 1) := by decide +kernel
theorem dX7_append_58 : decode cX7_append 58 = .ok (.iadd, 1) := by decide +kernel
theorem dX7_append_59 : decode cX7_append 59 = .ok (.putfield 173, 3) := by decide +kernel
theorem dX7_append_62 : decode cX7_append 62 = .ok (.aload_n 0, 1) := by decide +kernel
theorem dX7_append_63 : decode cX7_append 63 = .ok (.getfield 173, 3) := by decide +kernel
theorem dX7_append_66 : decode cX7_append 66 = .ok (.ireturn, 1) := by decide +kernel
theorem dX7_clearBuffer_0 : decode cX7_clearBuffer 0 = .ok (.aload_n 0, 1) := by decide +kernel
theorem dX7_clearBuffer_1 : decode cX7_clearBuffer 1 = .ok (.iconst 0, 1) := by decide +kernel
theorem dX7_clearBuffer_2 : decode cX7_clearBuffer 2 = .ok (.putfield 37, 3) := by decide +kernel
theorem dX7_clearBuffer_5 : decode cX7_clearBuffer 5 = .ok (.aload_n 0, 1) := by decide +kernel
theorem dX7_clearBuffer_6 : decode cX7_clearBuffer 6 = .ok (.getfield 173, 3) := by decide +kernel
theorem dX7_clearBuffer_9 : decode cX7_clearBuffer 9 = .ok (.istore_n 1, 1) := by decide +kernel
theorem dX7_clearBuffer_10 : decode cX7_clearBuffer 10 = .ok (.aload_n 0, 1) := by decide +kernel
theorem dX7_clearBuffer_11 : decode cX7_clearBuffer 11 = .ok (.iconst 0, 1) := by decide +kernel
theorem dX7_clearBuffer_12 : decode cX7_clearBuffer 12 = .ok (.putfield 173, 3) := by decide +kernel
theorem dX7_clearBuffer_15 : decode cX7_clearBuffer 15 = .ok (.iload_n 1, 1) := by decide +kernel
theorem dX7_clearBuffer_16 : decode cX7_clearBuffer 16 = .ok (.ireturn, 1) := by decide +kernel
theorem dX7_goes_0 : decode cX7_goes 0 = .ok (.aload_n 0, 1) := by decide +kernel
theorem dX7_goes_1 : decode cX7_goes 1 = .ok (.iload_n 1, 1) := by decide +kernel
theorem dX7_goes_2 : decode cX7_goes 2 = .ok (.ifCond .eq 7, 3) := by decide +kernel
theorem dX7_goes_5 : decode cX7_goes 5 = .ok (.iload_n 2, 1) := by decide +kernel
theorem dX7_goes_6 : decode cX7_goes 6 = .ok (.goto 7, 3) := by decide +kernel
theorem dX7_goes_9 : decode cX7_goes 9 = .ok (.aload_n 0, 1) := by decide +kernel
theorem dX7_goes_10 : decode cX7_goes 10 = .ok (.getfield 176, 3) := by decide +kernel
theorem dX7_goes_13 : decode cX7_goes 13 = .ok (.putfield 176, 3) := by decide +kernel
theorem dX7_goes_16 : decode cX7_goes 16 = .ok (.iload_n 1, 1) := by decide +kernel
theorem dX7_goes_17 : decode cX7_goes 17 = .ok (.ireturn, 1) := by decide +kernel
theorem dX7_putRead_0 : decode cX7_putRead 0 = .ok (.aload_n 0, 1) := by decide +kernel
theorem dX7_putRead_1 : decode cX7_putRead 1 = .ok (.getfield 34, 3) := by decide +kernel
theorem dX7_putRead_4 : decode cX7_putRead 4 = .ok (.bipush 6, 2) := by decide +kernel
theorem dX7_putRead_6 : decode cX7_putRead 6 = .ok (.aload_n 0, 1) := by decide +kernel
theorem dX7_putRead_7 : decode cX7_putRead 7 = .ok (.getfield 179, 3) := by decide +kernel
theorem dX7_putRead_10 : decode cX7_putRead 10 = .ok (.imul, 1) := by decide +kernel
theorem dX7_putRead_11 : decode cX7_putRead 11 = .ok (.iload_n 1, 1) := by decide +kernel
theorem dX7_putRead_12 : decode cX7_putRead 12 = .ok (.iadd, 1) := by decide +kernel
theorem dX7_putRead_13 : decode cX7_putRead 13 = .ok (.iload_n 2, 1) := by decide +kernel
theorem dX7_putRead_14 : decode cX7_putRead 14 = .ok (.iastore, 1) := by decide +kernel
theorem dX7_putRead_15 : decode cX7_putRead 15 = .ok (.return_, 1) := by decide +kernel
theorem dX7_placeOf_0 : decode cX7_placeOf 0 = .ok (.iload_n 0, 1) := by decide +kernel
theorem dX7_placeOf_1 : decode cX7_placeOf 1 = .ok (.ifCond .ne 7, 3) := by decide +kernel
theorem dX7_placeOf_4 : decode cX7_placeOf 4 = .ok (.iconst 1, 1) := by decide +kernel
theorem dX7_placeOf_5 : decode cX7_placeOf 5 = .ok (.goto 6, 3) := by decide +kernel
theorem dX7_placeOf_8 : decode cX7_placeOf 8 = .ok (.iload_n 0, 1) := by decide +kernel
theorem dX7_placeOf_9 : decode cX7_placeOf 9 = .ok (.iconst 2, 1) := by decide +kernel
theorem dX7_placeOf_10 : decode cX7_placeOf 10 = .ok (.iadd, 1) := by decide +kernel
theorem dX7_placeOf_11 : decode cX7_placeOf 11 = .ok (.ireturn, 1) := by decide +kernel
theorem dX7_begins_0 : decode cX7_begins 0 = .ok (.aload_n 0, 1) := by decide +kernel
theorem dX7_begins_1 : decode cX7_begins 1 = .ok (.iconst 0, 1) := by decide +kernel
theorem dX7_begins_2 : decode cX7_begins 2 = .ok (.iload_n 1, 1) := by decide +kernel
theorem dX7_begins_3 : decode cX7_begins 3 = .ok (.bipush 76, 2) := by decide +kernel
theorem dX7_begins_5 : decode cX7_begins 5 = .ok (.if_icmp .ne 7, 3) := by decide +kernel
theorem dX7_begins_8 : decode cX7_begins 8 = .ok (.iconst 0, 1) := by decide +kernel
theorem dX7_begins_9 : decode cX7_begins 9 = .ok (.goto 14, 3) := by decide +kernel
theorem dX7_begins_12 : decode cX7_begins 12 = .ok (.iload_n 1, 1) := by decide +kernel
theorem dX7_begins_13 : decode cX7_begins 13 = .ok (.bipush 84, 2) := by decide +kernel
theorem dX7_begins_15 : decode cX7_begins 15 = .ok (.if_icmp .ne 7, 3) := by decide +kernel
theorem dX7_begins_18 : decode cX7_begins 18 = .ok (.iconst 1, 1) := by decide +kernel
theorem dX7_begins_19 : decode cX7_begins 19 = .ok (.goto 4, 3) := by decide +kernel
theorem dX7_begins_22 : decode cX7_begins 22 = .ok (.iconst 2, 1) := by decide +kernel
theorem dX7_begins_23 : decode cX7_begins 23 = .ok (.invokevirtual 182, 3) := by decide +kernel
theorem dX7_begins_26 : decode cX7_begins 26 = .ok (.aload_n 0, 1) := by decide +kernel
theorem dX7_begins_27 : decode cX7_begins 27 = .ok (.iconst 5, 1) := by decide +kernel
theorem dX7_begins_28 : decode cX7_begins 28 = .ok (.iconst 0, 1) := by decide +kernel
theorem dX7_begins_29 : decode cX7_begins 29 = .ok (.invokevirtual 182, 3) := by decide +kernel
theorem dX7_begins_32 : decode cX7_begins 32 = .ok (.iload_n 1, 1) := by decide +kernel
theorem dX7_begins_33 : decode cX7_begins 33 = .ok (.bipush 82, 2) := by decide +kernel
theorem dX7_begins_35 : decode cX7_begins 35 = .ok (.if_icmp .ne 13, 3) := by decide +kernel
theorem dX7_begins_38 : decode cX7_begins 38 = .ok (.aload_n 0, 1) := by decide +kernel
theorem dX7_begins_39 : decode cX7_begins 39 = .ok (.iconst 1, 1) := by decide +kernel
theorem dX7_begins_40 : decode cX7_begins 40 = .ok (.bipush 10, 2) := by decide +kernel
theorem dX7_begins_42 : decode cX7_begins 42 = .ok (.invokevirtual 186, 3) := by decide +kernel
theorem dX7_begins_45 : decode cX7_begins 45 = .ok (.goto 25, 3) := by decide +kernel
theorem dX7_begins_48 : decode cX7_begins 48 = .ok (.aload_n 0, 1) := by decide +kernel
theorem dX7_begins_49 : decode cX7_begins 49 = .ok (.iload_n 1, 1) := by decide +kernel
theorem dX7_begins_50 : decode cX7_begins 50 = .ok (.bipush 76, 2) := by decide +kernel
theorem dX7_begins_52 : decode cX7_begins 52 = .ok (.if_icmp .eq 9, 3) := by decide +kernel
theorem dX7_begins_55 : decode cX7_begins 55 = .ok (.iload_n 1, 1) := by decide +kernel
theorem dX7_begins_56 : decode cX7_begins 56 = .ok (.bipush 84, 2) := by decide +kernel
theorem dX7_begins_58 : decode cX7_begins 58 = .ok (.if_icmp .ne 7, 3) := by decide +kernel
theorem dX7_begins_61 : decode cX7_begins 61 = .ok (.iconst 1, 1) := by decide +kernel
theorem dX7_begins_62 : decode cX7_begins 62 = .ok (.goto 4, 3) := by decide +kernel
theorem dX7_begins_65 : decode cX7_begins 65 = .ok (.iconst 0, 1) := by decide +kernel
theorem dX7_begins_66 : decode cX7_begins 66 = .ok (.iconst 1, 1) := by decide +kernel
theorem dX7_begins_67 : decode cX7_begins 67 = .ok (.invokevirtual 186, 3) := by decide +kernel
theorem dX7_begins_70 : decode cX7_begins 70 = .ok (.ireturn, 1) := by decide +kernel
theorem dX7_beginsNumber_0 : decode cX7_beginsNumber 0 = .ok (.aload_n 0, 1) := by decide +kernel
theorem dX7_beginsNumber_1 : decode cX7_beginsNumber 1 = .ok (.iload_n 2, 1) := by decide +kernel
theorem dX7_beginsNumber_2 : decode cX7_beginsNumber 2 = .ok (.invokestatic 190, 3) := by decide +kernel
theorem dX7_beginsNumber_5 : decode cX7_beginsNumber 5 = .ok (.iload_n 1, 1) := by decide +kernel
theorem dX7_beginsNumber_6 : decode cX7_beginsNumber 6 = .ok (.bipush 48, 2) := by decide +kernel
theorem dX7_beginsNumber_8 : decode cX7_beginsNumber 8 = .ok (.isub, 1) := by decide +kernel
theorem dX7_beginsNumber_9 : decode cX7_beginsNumber 9 = .ok (.invokevirtual 182, 3) := by decide +kernel
theorem dX7_beginsNumber_12 : decode cX7_beginsNumber 12 = .ok (.aload_n 0, 1) := by decide +kernel
theorem dX7_beginsNumber_13 : decode cX7_beginsNumber 13 = .ok (.iconst 1, 1) := by decide +kernel
theorem dX7_beginsNumber_14 : decode cX7_beginsNumber 14 = .ok (.putfield 193, 3) := by decide +kernel
theorem dX7_beginsNumber_17 : decode cX7_beginsNumber 17 = .ok (.aload_n 0, 1) := by decide +kernel
theorem dX7_beginsNumber_18 : decode cX7_beginsNumber 18 = .ok (.iload_n 1, 1) := by decide +kernel
theorem dX7_beginsNumber_19 : decode cX7_beginsNumber 19 = .ok (.bipush 48, 2) := by decide +kernel
theorem dX7_beginsNumber_21 : decode cX7_beginsNumber 21 = .ok (.bipush 57, 2) := by decide +kernel
theorem dX7_beginsNumber_23 : decode cX7_beginsNumber 23 = .ok (.invokestatic 41, 3) := by decide +kernel
theorem dX7_beginsNumber_26 : decode cX7_beginsNumber 26 = .ok (.bipush 20, 2) := by decide +kernel
theorem dX7_beginsNumber_28 : decode cX7_beginsNumber 28 = .ok (.iload_n 2, 1) := by decide +kernel
theorem dX7_beginsNumber_29 : decode cX7_beginsNumber 29 = .ok (.iadd, 1) := by decide +kernel
theorem dX7_beginsNumber_30 : decode cX7_beginsNumber 30 = .ok (.invokevirtual 186, 3) := by decide +kernel
theorem dX7_beginsNumber_33 : decode cX7_beginsNumber 33 = .ok (.ireturn, 1) := by decide +kernel
theorem dX7_endsShow_0 : decode cX7_endsShow 0 = .ok (.iload_n 1, 1) := by decide +kernel
theorem dX7_endsShow_1 : decode cX7_endsShow 1 = .ok (.bipush 59, 2) := by decide +kernel
theorem dX7_endsShow_3 : decode cX7_endsShow 3 = .ok (.if_icmp .ne 18, 3) := by decide +kernel
theorem dX7_endsShow_6 : decode cX7_endsShow 6 = .ok (.aload_n 0, 1) := by decide +kernel
theorem dX7_endsShow_7 : decode cX7_endsShow 7 = .ok (.dup, 1) := by decide +kernel
theorem dX7_endsShow_8 : decode cX7_endsShow 8 = .ok (.getfield 179, 3) := by decide +kernel
theorem dX7_endsShow_11 : decode cX7_endsShow 11 = .ok (.iconst 1, 1) := by decide +kernel
theorem dX7_endsShow_12 : decode cX7_endsShow 12 = .ok (.iadd, 1) := by decide +kernel
theorem dX7_endsShow_13 : decode cX7_endsShow 13 = .ok (.putfield 179, 3) := by decide +kernel
theorem dX7_endsShow_16 : decode cX7_endsShow 16 = .ok (.aload_n 0, 1) := by decide +kernel
theorem dX7_endsShow_17 : decode cX7_endsShow 17 = .ok (.iconst 0, 1) := by decide +kernel
theorem dX7_endsShow_18 : decode cX7_endsShow 18 = .ok (.putfield 176, 3) := by decide +kernel
theorem dX7_endsShow_21 : decode cX7_endsShow 21 = .ok (.iload_n 1, 1) := by decide +kernel
theorem dX7_endsShow_22 : decode cX7_endsShow 22 = .ok (.bipush 59, 2) := by decide +kernel
theorem dX7_endsShow_24 : decode cX7_endsShow 24 = .ok (.if_icmp .ne 7, 3) := by decide +kernel
theorem dX7_endsShow_27 : decode cX7_endsShow 27 = .ok (.iconst 1, 1) := by decide +kernel
theorem dX7_endsShow_28 : decode cX7_endsShow 28 = .ok (.goto 4, 3) := by decide +kernel
theorem dX7_endsShow_31 : decode cX7_endsShow 31 = .ok (.iconst 0, 1) := by decide +kernel
theorem dX7_endsShow_32 : decode cX7_endsShow 32 = .ok (.ireturn, 1) := by decide +kernel
theorem dX7_goesOn_0 : decode cX7_goesOn 0 = .ok (.bipush 6, 2) := by decide +kernel
theorem dX7_goesOn_2 : decode cX7_goesOn 2 = .ok (.aload_n 0, 1) := by decide +kernel
theorem dX7_goesOn_3 : decode cX7_goesOn 3 = .ok (.getfield 179, 3) := by decide +kernel
theorem dX7_goesOn_6 : decode cX7_goesOn 6 = .ok (.imul, 1) := by decide +kernel
theorem dX7_goesOn_7 : decode cX7_goesOn 7 = .ok (.iload_n 2, 1) := by decide +kernel
theorem dX7_goesOn_8 : decode cX7_goesOn 8 = .ok (.invokestatic 190, 3) := by decide +kernel
theorem dX7_goesOn_11 : decode cX7_goesOn 11 = .ok (.iadd, 1) := by decide +kernel
theorem dX7_goesOn_12 : decode cX7_goesOn 12 = .ok (.istore_n 3, 1) := by decide +kernel
theorem dX7_goesOn_13 : decode cX7_goesOn 13 = .ok (.iload_n 1, 1) := by decide +kernel
theorem dX7_goesOn_14 : decode cX7_goesOn 14 = .ok (.bipush 48, 2) := by decide +kernel
theorem dX7_goesOn_16 : decode cX7_goesOn 16 = .ok (.bipush 57, 2) := by decide +kernel
theorem dX7_goesOn_18 : decode cX7_goesOn 18 = .ok (.invokestatic 41, 3) := by decide +kernel
theorem dX7_goesOn_21 : decode cX7_goesOn 21 = .ok (.ifCond .eq 83, 3) := by decide +kernel
theorem dX7_goesOn_24 : decode cX7_goesOn 24 = .ok (.aload_n 0, 1) := by decide +kernel
theorem dX7_goesOn_25 : decode cX7_goesOn 25 = .ok (.getfield 34, 3) := by decide +kernel
theorem dX7_goesOn_28 : decode cX7_goesOn 28 = .ok (.iload_n 3, 1) := by decide +kernel
theorem dX7_goesOn_29 : decode cX7_goesOn 29 = .ok (.iaload, 1) := by decide +kernel
theorem dX7_goesOn_30 : decode cX7_goesOn 30 = .ok (.ifCond .le 15, 3) := by decide +kernel
theorem dX7_goesOn_33 : decode cX7_goesOn 33 = .ok (.aload_n 0, 1) := by decide +kernel
theorem dX7_goesOn_34 : decode cX7_goesOn 34 = .ok (.getfield 193, 3) := by decide +kernel
theorem dX7_goesOn_37 : decode cX7_goesOn 37 = .ok (.iconst 4, 1) := by decide +kernel
theorem dX7_goesOn_38 : decode cX7_goesOn 38 = .ok (.if_icmp .ge 7, 3) := by decide +kernel
theorem dX7_goesOn_41 : decode cX7_goesOn 41 = .ok (.iconst 1, 1) := by decide +kernel
theorem dX7_goesOn_42 : decode cX7_goesOn 42 = .ok (.goto 4, 3) := by decide +kernel
theorem dX7_goesOn_45 : decode cX7_goesOn 45 = .ok (.iconst 0, 1) := by decide +kernel
theorem dX7_goesOn_46 : decode cX7_goesOn 46 = .ok (.istore 4, 2) := by decide +kernel
theorem dX7_goesOn_48 : decode cX7_goesOn 48 = .ok (.aload_n 0, 1) := by decide +kernel
theorem dX7_goesOn_49 : decode cX7_goesOn 49 = .ok (.getfield 34, 3) := by decide +kernel
theorem dX7_goesOn_52 : decode cX7_goesOn 52 = .ok (.iload_n 3, 1) := by decide +kernel
theorem dX7_goesOn_53 : decode cX7_goesOn 53 = .ok (.iload 4, 2) := by decide +kernel
theorem dX7_goesOn_55 : decode cX7_goesOn 55 = .ok (.ifCond .eq 20, 3) := by decide +kernel
theorem dX7_goesOn_58 : decode cX7_goesOn 58 = .ok (.bipush 10, 2) := by decide +kernel
theorem dX7_goesOn_60 : decode cX7_goesOn 60 = .ok (.aload_n 0, 1) := by decide +kernel
theorem dX7_goesOn_61 : decode cX7_goesOn 61 = .ok (.getfield 34, 3) := by decide +kernel
theorem dX7_goesOn_64 : decode cX7_goesOn 64 = .ok (.iload_n 3, 1) := by decide +kernel
theorem dX7_goesOn_65 : decode cX7_goesOn 65 = .ok (.iaload, 1) := by decide +kernel
theorem dX7_goesOn_66 : decode cX7_goesOn 66 = .ok (.imul, 1) := by decide +kernel
theorem dX7_goesOn_67 : decode cX7_goesOn 67 = .ok (.iload_n 1, 1) := by decide +kernel
theorem dX7_goesOn_68 : decode cX7_goesOn 68 = .ok (.iadd, 1) := by decide +kernel
theorem dX7_goesOn_69 : decode cX7_goesOn 69 = .ok (.bipush 48, 2) := by decide +kernel
theorem dX7_goesOn_71 : decode cX7_goesOn 71 = .ok (.isub, 1) := by decide +kernel
theorem dX7_goesOn_72 : decode cX7_goesOn 72 = .ok (.goto 9, 3) := by decide +kernel
theorem dX7_goesOn_75 : decode cX7_goesOn 75 = .ok (.aload_n 0, 1) := by decide +kernel
theorem dX7_goesOn_76 : decode cX7_goesOn 76 = .ok (.getfield 34, 3) := by decide +kernel
theorem dX7_goesOn_79 : decode cX7_goesOn 79 = .ok (.iload_n 3, 1) := by decide +kernel
theorem dX7_goesOn_80 : decode cX7_goesOn 80 = .ok (.iaload, 1) := by decide +kernel
theorem dX7_goesOn_81 : decode cX7_goesOn 81 = .ok (.iastore, 1) := by decide +kernel
theorem dX7_goesOn_82 : decode cX7_goesOn 82 = .ok (.aload_n 0, 1) := by decide +kernel
theorem dX7_goesOn_83 : decode cX7_goesOn 83 = .ok (.dup, 1) := by decide +kernel
theorem dX7_goesOn_84 : decode cX7_goesOn 84 = .ok (.getfield 193, 3) := by decide +kernel
theorem dX7_goesOn_87 : decode cX7_goesOn 87 = .ok (.iload 4, 2) := by decide +kernel
theorem dX7_goesOn_89 : decode cX7_goesOn 89 = .ok (.ifCond .eq 7, 3) := by decide +kernel
theorem dX7_goesOn_92 : decode cX7_goesOn 92 = .ok (.iconst 1, 1) := by decide +kernel
theorem dX7_goesOn_93 : decode cX7_goesOn 93 = .ok (.goto 4, 3) := by decide +kernel
theorem dX7_goesOn_96 : decode cX7_goesOn 96 = .ok (.iconst 0, 1) := by decide +kernel
theorem dX7_goesOn_97 : decode cX7_goesOn 97 = .ok (.iadd, 1) := by decide +kernel
theorem dX7_goesOn_98 : decode cX7_goesOn 98 = .ok (.putfield 193, 3) := by decide +kernel
theorem dX7_goesOn_101 : decode cX7_goesOn 101 = .ok (.iload 4, 2) := by decide +kernel
theorem dX7_goesOn_103 : decode cX7_goesOn 103 = .ok (.ireturn, 1) := by decide +kernel
theorem dX7_goesOn_104 : decode cX7_goesOn 104 = .ok (.aload_n 0, 1) := by decide +kernel
theorem dX7_goesOn_105 : decode cX7_goesOn 105 = .ok (.getfield 34, 3) := by decide +kernel
theorem dX7_goesOn_108 : decode cX7_goesOn 108 = .ok (.bipush 6, 2) := by decide +kernel
theorem dX7_goesOn_110 : decode cX7_goesOn 110 = .ok (.aload_n 0, 1) := by decide +kernel
theorem dX7_goesOn_111 : decode cX7_goesOn 111 = .ok (.getfield 179, 3) := by decide +kernel
theorem dX7_goesOn_114 : decode cX7_goesOn 114 = .ok (.imul, 1) := by decide +kernel
theorem dX7_goesOn_115 : decode cX7_goesOn 115 = .ok (.iaload, 1) := by decide +kernel
theorem dX7_goesOn_116 : decode cX7_goesOn 116 = .ok (.iconst 2, 1) := by decide +kernel
theorem dX7_goesOn_117 : decode cX7_goesOn 117 = .ok (.if_icmp .ne 7, 3) := by decide +kernel
theorem dX7_goesOn_120 : decode cX7_goesOn 120 = .ok (.iconst 1, 1) := by decide +kernel
theorem dX7_goesOn_121 : decode cX7_goesOn 121 = .ok (.goto 4, 3) := by decide +kernel
theorem dX7_goesOn_124 : decode cX7_goesOn 124 = .ok (.iconst 0, 1) := by decide +kernel
theorem dX7_goesOn_125 : decode cX7_goesOn 125 = .ok (.istore 4, 2) := by decide +kernel
theorem dX7_goesOn_127 : decode cX7_goesOn 127 = .ok (.iload_n 2, 1) := by decide +kernel
theorem dX7_goesOn_128 : decode cX7_goesOn 128 = .ok (.tableswitch 110 0 2 #[28, 45, 76], 28) := by decide +kernel
theorem dX7_goesOn_156 : decode cX7_goesOn 156 = .ok (.aload_n 0, 1) := by decide +kernel
theorem dX7_goesOn_157 : decode cX7_goesOn 157 = .ok (.iload_n 1, 1) := by decide +kernel
theorem dX7_goesOn_158 : decode cX7_goesOn 158 = .ok (.bipush 46, 2) := by decide +kernel
theorem dX7_goesOn_160 : decode cX7_goesOn 160 = .ok (.if_icmp .ne 7, 3) := by decide +kernel
theorem dX7_goesOn_163 : decode cX7_goesOn 163 = .ok (.iconst 1, 1) := by decide +kernel
theorem dX7_goesOn_164 : decode cX7_goesOn 164 = .ok (.goto 4, 3) := by decide +kernel
theorem dX7_goesOn_167 : decode cX7_goesOn 167 = .ok (.iconst 0, 1) := by decide +kernel
theorem dX7_goesOn_168 : decode cX7_goesOn 168 = .ok (.iconst 3, 1) := by decide +kernel
theorem dX7_goesOn_169 : decode cX7_goesOn 169 = .ok (.invokevirtual 186, 3) := by decide +kernel
theorem dX7_goesOn_172 : decode cX7_goesOn 172 = .ok (.ireturn, 1) := by decide +kernel
theorem dX7_goesOn_173 : decode cX7_goesOn 173 = .ok (.iload 4, 2) := by decide +kernel
theorem dX7_goesOn_175 : decode cX7_goesOn 175 = .ok (.ifCond .eq 11, 3) := by decide +kernel
theorem dX7_goesOn_178 : decode cX7_goesOn 178 = .ok (.aload_n 0, 1) := by decide +kernel
theorem dX7_goesOn_179 : decode cX7_goesOn 179 = .ok (.iload_n 1, 1) := by decide +kernel
theorem dX7_goesOn_180 : decode cX7_goesOn 180 = .ok (.invokevirtual 196, 3) := by decide +kernel
theorem dX7_goesOn_183 : decode cX7_goesOn 183 = .ok (.goto 20, 3) := by decide +kernel
theorem dX7_goesOn_186 : decode cX7_goesOn 186 = .ok (.aload_n 0, 1) := by decide +kernel
theorem dX7_goesOn_187 : decode cX7_goesOn 187 = .ok (.iload_n 1, 1) := by decide +kernel
theorem dX7_goesOn_188 : decode cX7_goesOn 188 = .ok (.bipush 43, 2) := by decide +kernel
theorem dX7_goesOn_190 : decode cX7_goesOn 190 = .ok (.if_icmp .ne 7, 3) := by decide +kernel
theorem dX7_goesOn_193 : decode cX7_goesOn 193 = .ok (.iconst 1, 1) := by decide +kernel
theorem dX7_goesOn_194 : decode cX7_goesOn 194 = .ok (.goto 4, 3) := by decide +kernel
theorem dX7_goesOn_197 : decode cX7_goesOn 197 = .ok (.iconst 0, 1) := by decide +kernel
theorem dX7_goesOn_198 : decode cX7_goesOn 198 = .ok (.bipush 12, 2) := by decide +kernel
theorem dX7_goesOn_200 : decode cX7_goesOn 200 = .ok (.invokevirtual 186, 3) := by decide +kernel
theorem dX7_goesOn_203 : decode cX7_goesOn 203 = .ok (.ireturn, 1) := by decide +kernel
theorem dX7_goesOn_204 : decode cX7_goesOn 204 = .ok (.aload_n 0, 1) := by decide +kernel
theorem dX7_goesOn_205 : decode cX7_goesOn 205 = .ok (.iload_n 1, 1) := by decide +kernel
theorem dX7_goesOn_206 : decode cX7_goesOn 206 = .ok (.bipush 58, 2) := by decide +kernel
theorem dX7_goesOn_208 : decode cX7_goesOn 208 = .ok (.if_icmp .ne 7, 3) := by decide +kernel
theorem dX7_goesOn_211 : decode cX7_goesOn 211 = .ok (.iconst 1, 1) := by decide +kernel
theorem dX7_goesOn_212 : decode cX7_goesOn 212 = .ok (.goto 4, 3) := by decide +kernel
theorem dX7_goesOn_215 : decode cX7_goesOn 215 = .ok (.iconst 0, 1) := by decide +kernel
theorem dX7_goesOn_216 : decode cX7_goesOn 216 = .ok (.bipush 13, 2) := by decide +kernel
theorem dX7_goesOn_218 : decode cX7_goesOn 218 = .ok (.invokevirtual 186, 3) := by decide +kernel
theorem dX7_goesOn_221 : decode cX7_goesOn 221 = .ok (.ifCond .ne 11, 3) := by decide +kernel
theorem dX7_goesOn_224 : decode cX7_goesOn 224 = .ok (.aload_n 0, 1) := by decide +kernel
theorem dX7_goesOn_225 : decode cX7_goesOn 225 = .ok (.iload_n 1, 1) := by decide +kernel
theorem dX7_goesOn_226 : decode cX7_goesOn 226 = .ok (.invokevirtual 196, 3) := by decide +kernel
theorem dX7_goesOn_229 : decode cX7_goesOn 229 = .ok (.ifCond .eq 7, 3) := by decide +kernel
theorem dX7_goesOn_232 : decode cX7_goesOn 232 = .ok (.iconst 1, 1) := by decide +kernel
theorem dX7_goesOn_233 : decode cX7_goesOn 233 = .ok (.goto 4, 3) := by decide +kernel
theorem dX7_goesOn_236 : decode cX7_goesOn 236 = .ok (.iconst 0, 1) := by decide +kernel
theorem dX7_goesOn_237 : decode cX7_goesOn 237 = .ok (.ireturn, 1) := by decide +kernel
theorem dX7_goesOn_238 : decode cX7_goesOn 238 = .ok (.aload_n 0, 1) := by decide +kernel
theorem dX7_goesOn_239 : decode cX7_goesOn 239 = .ok (.iload_n 1, 1) := by decide +kernel
theorem dX7_goesOn_240 : decode cX7_goesOn 240 = .ok (.invokevirtual 196, 3) := by decide +kernel
theorem dX7_goesOn_243 : decode cX7_goesOn 243 = .ok (.ireturn, 1) := by decide +kernel
theorem dX7_takesDigit_0 : decode cX7_takesDigit 0 = .ok (.aload_n 0, 1) := by decide +kernel
theorem dX7_takesDigit_1 : decode cX7_takesDigit 1 = .ok (.iload_n 2, 1) := by decide +kernel
theorem dX7_takesDigit_2 : decode cX7_takesDigit 2 = .ok (.iload_n 1, 1) := by decide +kernel
theorem dX7_takesDigit_3 : decode cX7_takesDigit 3 = .ok (.bipush 48, 2) := by decide +kernel
theorem dX7_takesDigit_5 : decode cX7_takesDigit 5 = .ok (.isub, 1) := by decide +kernel
theorem dX7_takesDigit_6 : decode cX7_takesDigit 6 = .ok (.invokevirtual 182, 3) := by decide +kernel
theorem dX7_takesDigit_9 : decode cX7_takesDigit 9 = .ok (.aload_n 0, 1) := by decide +kernel
theorem dX7_takesDigit_10 : decode cX7_takesDigit 10 = .ok (.iload_n 1, 1) := by decide +kernel
theorem dX7_takesDigit_11 : decode cX7_takesDigit 11 = .ok (.bipush 48, 2) := by decide +kernel
theorem dX7_takesDigit_13 : decode cX7_takesDigit 13 = .ok (.bipush 48, 2) := by decide +kernel
theorem dX7_takesDigit_15 : decode cX7_takesDigit 15 = .ok (.iload_n 3, 1) := by decide +kernel
theorem dX7_takesDigit_16 : decode cX7_takesDigit 16 = .ok (.iadd, 1) := by decide +kernel
theorem dX7_takesDigit_17 : decode cX7_takesDigit 17 = .ok (.invokestatic 41, 3) := by decide +kernel
theorem dX7_takesDigit_20 : decode cX7_takesDigit 20 = .ok (.iload 4, 2) := by decide +kernel
theorem dX7_takesDigit_22 : decode cX7_takesDigit 22 = .ok (.invokevirtual 186, 3) := by decide +kernel
theorem dX7_takesDigit_25 : decode cX7_takesDigit 25 = .ok (.ireturn, 1) := by decide +kernel
theorem dX7_takes_0 : decode cX7_takes 0 = .ok (.aload_n 0, 1) := by decide +kernel
theorem dX7_takes_1 : decode cX7_takes 1 = .ok (.getfield 176, 3) := by decide +kernel
theorem dX7_takes_4 : decode cX7_takes 4 = .ok (.tableswitch 96 0 4 #[36, 42, 51, 68, 78], 36) := by decide +kernel
theorem dX7_takes_40 : decode cX7_takes 40 = .ok (.aload_n 0, 1) := by decide +kernel
theorem dX7_takes_41 : decode cX7_takes 41 = .ok (.iload_n 1, 1) := by decide +kernel
theorem dX7_takes_42 : decode cX7_takes 42 = .ok (.invokevirtual 199, 3) := by decide +kernel
theorem dX7_takes_45 : decode cX7_takes 45 = .ok (.ireturn, 1) := by decide +kernel
theorem dX7_takes_46 : decode cX7_takes 46 = .ok (.aload_n 0, 1) := by decide +kernel
theorem dX7_takes_47 : decode cX7_takes 47 = .ok (.iload_n 1, 1) := by decide +kernel
theorem dX7_takes_48 : decode cX7_takes 48 = .ok (.iconst 1, 1) := by decide +kernel
theorem dX7_takes_49 : decode cX7_takes 49 = .ok (.iconst 5, 1) := by decide +kernel
theorem dX7_takes_50 : decode cX7_takes 50 = .ok (.iconst 2, 1) := by decide +kernel
theorem dX7_takes_51 : decode cX7_takes 51 = .ok (.invokevirtual 202, 3) := by decide +kernel
theorem dX7_takes_54 : decode cX7_takes 54 = .ok (.ireturn, 1) := by decide +kernel
theorem dX7_takes_55 : decode cX7_takes 55 = .ok (.aload_n 0, 1) := by decide +kernel
theorem dX7_takes_56 : decode cX7_takes 56 = .ok (.iload_n 1, 1) := by decide +kernel
theorem dX7_takes_57 : decode cX7_takes 57 = .ok (.bipush 46, 2) := by decide +kernel
theorem dX7_takes_59 : decode cX7_takes 59 = .ok (.if_icmp .ne 7, 3) := by decide +kernel
theorem dX7_takes_62 : decode cX7_takes 62 = .ok (.iconst 1, 1) := by decide +kernel
theorem dX7_takes_63 : decode cX7_takes 63 = .ok (.goto 4, 3) := by decide +kernel
theorem dX7_takes_66 : decode cX7_takes 66 = .ok (.iconst 0, 1) := by decide +kernel
theorem dX7_takes_67 : decode cX7_takes 67 = .ok (.iconst 3, 1) := by decide +kernel
theorem dX7_takes_68 : decode cX7_takes 68 = .ok (.invokevirtual 186, 3) := by decide +kernel
theorem dX7_takes_71 : decode cX7_takes 71 = .ok (.ireturn, 1) := by decide +kernel
theorem dX7_takes_72 : decode cX7_takes 72 = .ok (.aload_n 0, 1) := by decide +kernel
theorem dX7_takes_73 : decode cX7_takes 73 = .ok (.iload_n 1, 1) := by decide +kernel
theorem dX7_takes_74 : decode cX7_takes 74 = .ok (.iconst 2, 1) := by decide +kernel
theorem dX7_takes_75 : decode cX7_takes 75 = .ok (.bipush 6, 2) := by decide +kernel
theorem dX7_takes_77 : decode cX7_takes 77 = .ok (.iconst 4, 1) := by decide +kernel
theorem dX7_takes_78 : decode cX7_takes 78 = .ok (.invokevirtual 202, 3) := by decide +kernel
theorem dX7_takes_81 : decode cX7_takes 81 = .ok (.ireturn, 1) := by decide +kernel
theorem dX7_takes_82 : decode cX7_takes 82 = .ok (.aload_n 0, 1) := by decide +kernel
theorem dX7_takes_83 : decode cX7_takes 83 = .ok (.iload_n 1, 1) := by decide +kernel
theorem dX7_takes_84 : decode cX7_takes 84 = .ok (.bipush 64, 2) := by decide +kernel
theorem dX7_takes_86 : decode cX7_takes 86 = .ok (.if_icmp .ne 7, 3) := by decide +kernel
theorem dX7_takes_89 : decode cX7_takes 89 = .ok (.iconst 1, 1) := by decide +kernel
theorem dX7_takes_90 : decode cX7_takes 90 = .ok (.goto 4, 3) := by decide +kernel
theorem dX7_takes_93 : decode cX7_takes 93 = .ok (.iconst 0, 1) := by decide +kernel
theorem dX7_takes_94 : decode cX7_takes 94 = .ok (.bipush 11, 2) := by decide +kernel
theorem dX7_takes_96 : decode cX7_takes 96 = .ok (.invokevirtual 186, 3) := by decide +kernel
theorem dX7_takes_99 : decode cX7_takes 99 = .ok (.ireturn, 1) := by decide +kernel
theorem dX7_takes_100 : decode cX7_takes 100 = .ok (.aload_n 0, 1) := by decide +kernel
theorem dX7_takes_101 : decode cX7_takes 101 = .ok (.getfield 176, 3) := by decide +kernel
theorem dX7_takes_104 : decode cX7_takes 104 = .ok (.bipush 20, 2) := by decide +kernel
theorem dX7_takes_106 : decode cX7_takes 106 = .ok (.if_icmp .ge 18, 3) := by decide +kernel
theorem dX7_takes_109 : decode cX7_takes 109 = .ok (.aload_n 0, 1) := by decide +kernel
theorem dX7_takes_110 : decode cX7_takes 110 = .ok (.iload_n 1, 1) := by decide +kernel
theorem dX7_takes_111 : decode cX7_takes 111 = .ok (.aload_n 0, 1) := by decide +kernel
theorem dX7_takes_112 : decode cX7_takes 112 = .ok (.getfield 176, 3) := by decide +kernel
theorem dX7_takes_115 : decode cX7_takes 115 = .ok (.bipush 10, 2) := by decide +kernel
theorem dX7_takes_117 : decode cX7_takes 117 = .ok (.isub, 1) := by decide +kernel
theorem dX7_takes_118 : decode cX7_takes 118 = .ok (.invokevirtual 206, 3) := by decide +kernel
theorem dX7_takes_121 : decode cX7_takes 121 = .ok (.goto 15, 3) := by decide +kernel
theorem dX7_takes_124 : decode cX7_takes 124 = .ok (.aload_n 0, 1) := by decide +kernel
theorem dX7_takes_125 : decode cX7_takes 125 = .ok (.iload_n 1, 1) := by decide +kernel
theorem dX7_takes_126 : decode cX7_takes 126 = .ok (.aload_n 0, 1) := by decide +kernel
theorem dX7_takes_127 : decode cX7_takes 127 = .ok (.getfield 176, 3) := by decide +kernel
theorem dX7_takes_130 : decode cX7_takes 130 = .ok (.bipush 20, 2) := by decide +kernel
theorem dX7_takes_132 : decode cX7_takes 132 = .ok (.isub, 1) := by decide +kernel
theorem dX7_takes_133 : decode cX7_takes 133 = .ok (.invokevirtual 209, 3) := by decide +kernel
theorem dX7_takes_136 : decode cX7_takes 136 = .ok (.ireturn, 1) := by decide +kernel
theorem dX7_readText_0 : decode cX7_readText 0 = .ok (.aload_n 0, 1) := by decide +kernel
theorem dX7_readText_1 : decode cX7_readText 1 = .ok (.iconst 0, 1) := by decide +kernel
theorem dX7_readText_2 : decode cX7_readText 2 = .ok (.putfield 176, 3) := by decide +kernel
theorem dX7_readText_5 : decode cX7_readText 5 = .ok (.aload_n 0, 1) := by decide +kernel
theorem dX7_readText_6 : decode cX7_readText 6 = .ok (.iconst 0, 1) := by decide +kernel
theorem dX7_readText_7 : decode cX7_readText 7 = .ok (.putfield 179, 3) := by decide +kernel
theorem dX7_readText_10 : decode cX7_readText 10 = .ok (.iconst 0, 1) := by decide +kernel
theorem dX7_readText_11 : decode cX7_readText 11 = .ok (.istore_n 1, 1) := by decide +kernel
theorem dX7_readText_12 : decode cX7_readText 12 = .ok (.iload_n 1, 1) := by decide +kernel
theorem dX7_readText_13 : decode cX7_readText 13 = .ok (.aload_n 0, 1) := by decide +kernel
theorem dX7_readText_14 : decode cX7_readText 14 = .ok (.getfield 173, 3) := by decide +kernel
theorem dX7_readText_17 : decode cX7_readText 17 = .ok (.if_icmp .ge 22, 3) := by decide +kernel
theorem dX7_readText_20 : decode cX7_readText 20 = .ok (.aload_n 0, 1) := by decide +kernel
theorem dX7_readText_21 : decode cX7_readText 21 = .ok (.aload_n 0, 1) := by decide +kernel
theorem dX7_readText_22 : decode cX7_readText 22 = .ok (.getfield 16, 3) := by decide +kernel
theorem dX7_readText_25 : decode cX7_readText 25 = .ok (.iload_n 1, 1) := by decide +kernel
theorem dX7_readText_26 : decode cX7_readText 26 = .ok (.iaload, 1) := by decide +kernel
theorem dX7_readText_27 : decode cX7_readText 27 = .ok (.invokevirtual 212, 3) := by decide +kernel
theorem dX7_readText_30 : decode cX7_readText 30 = .ok (.ifCond .eq 9, 3) := by decide +kernel
theorem dX7_readText_33 : decode cX7_readText 33 = .ok (.iinc 1 1, 3) := by decide +kernel
theorem dX7_readText_36 : decode cX7_readText 36 = .ok (.goto (-24), 3) := by decide +kernel
theorem dX7_readText_39 : decode cX7_readText 39 = .ok (.iload_n 1, 1) := by decide +kernel
theorem dX7_readText_40 : decode cX7_readText 40 = .ok (.ireturn, 1) := by decide +kernel
theorem dX7_firstError_0 : decode cX7_firstError 0 = .ok (.aload_n 0, 1) := by decide +kernel
theorem dX7_firstError_1 : decode cX7_firstError 1 = .ok (.iconst 0, 1) := by decide +kernel
theorem dX7_firstError_2 : decode cX7_firstError 2 = .ok (.putfield 37, 3) := by decide +kernel
theorem dX7_firstError_5 : decode cX7_firstError 5 = .ok (.aload_n 0, 1) := by decide +kernel
theorem dX7_firstError_6 : decode cX7_firstError 6 = .ok (.invokevirtual 215, 3) := by decide +kernel
theorem dX7_firstError_9 : decode cX7_firstError 9 = .ok (.ireturn, 1) := by decide +kernel
theorem dX7_isComplete_0 : decode cX7_isComplete 0 = .ok (.aload_n 0, 1) := by decide +kernel
theorem dX7_isComplete_1 : decode cX7_isComplete 1 = .ok (.getfield 34, 3) := by decide +kernel
theorem dX7_isComplete_4 : decode cX7_isComplete 4 = .ok (.bipush 6, 2) := by decide +kernel
theorem dX7_isComplete_6 : decode cX7_isComplete 6 = .ok (.aload_n 0, 1) := by decide +kernel
theorem dX7_isComplete_7 : decode cX7_isComplete 7 = .ok (.getfield 179, 3) := by decide +kernel
theorem dX7_isComplete_10 : decode cX7_isComplete 10 = .ok (.imul, 1) := by decide +kernel
theorem dX7_isComplete_11 : decode cX7_isComplete 11 = .ok (.iaload, 1) := by decide +kernel
theorem dX7_isComplete_12 : decode cX7_isComplete 12 = .ok (.iconst 2, 1) := by decide +kernel
theorem dX7_isComplete_13 : decode cX7_isComplete 13 = .ok (.if_icmp .ne 7, 3) := by decide +kernel
theorem dX7_isComplete_16 : decode cX7_isComplete 16 = .ok (.iconst 1, 1) := by decide +kernel
theorem dX7_isComplete_17 : decode cX7_isComplete 17 = .ok (.goto 4, 3) := by decide +kernel
theorem dX7_isComplete_20 : decode cX7_isComplete 20 = .ok (.iconst 0, 1) := by decide +kernel
theorem dX7_isComplete_21 : decode cX7_isComplete 21 = .ok (.istore_n 1, 1) := by decide +kernel
theorem dX7_isComplete_22 : decode cX7_isComplete 22 = .ok (.aload_n 0, 1) := by decide +kernel
theorem dX7_isComplete_23 : decode cX7_isComplete 23 = .ok (.getfield 176, 3) := by decide +kernel
theorem dX7_isComplete_26 : decode cX7_isComplete 26 = .ok (.bipush 21, 2) := by decide +kernel
theorem dX7_isComplete_28 : decode cX7_isComplete 28 = .ok (.if_icmp .ne 7, 3) := by decide +kernel
theorem dX7_isComplete_31 : decode cX7_isComplete 31 = .ok (.iload_n 1, 1) := by decide +kernel
theorem dX7_isComplete_32 : decode cX7_isComplete 32 = .ok (.ifCond .ne 21, 3) := by decide +kernel
theorem dX7_isComplete_35 : decode cX7_isComplete 35 = .ok (.aload_n 0, 1) := by decide +kernel
theorem dX7_isComplete_36 : decode cX7_isComplete 36 = .ok (.getfield 176, 3) := by decide +kernel
theorem dX7_isComplete_39 : decode cX7_isComplete 39 = .ok (.bipush 22, 2) := by decide +kernel
theorem dX7_isComplete_41 : decode cX7_isComplete 41 = .ok (.if_icmp .eq 12, 3) := by decide +kernel
theorem dX7_isComplete_44 : decode cX7_isComplete 44 = .ok (.aload_n 0, 1) := by decide +kernel
theorem dX7_isComplete_45 : decode cX7_isComplete 45 = .ok (.getfield 176, 3) := by decide +kernel
theorem dX7_isComplete_48 : decode cX7_isComplete 48 = .ok (.bipush 23, 2) := by decide +kernel
theorem dX7_isComplete_50 : decode cX7_isComplete 50 = .ok (.if_icmp .ne 7, 3) := by decide +kernel
theorem dX7_isComplete_53 : decode cX7_isComplete 53 = .ok (.iconst 1, 1) := by decide +kernel
theorem dX7_isComplete_54 : decode cX7_isComplete 54 = .ok (.goto 4, 3) := by decide +kernel
theorem dX7_isComplete_57 : decode cX7_isComplete 57 = .ok (.iconst 0, 1) := by decide +kernel
theorem dX7_isComplete_58 : decode cX7_isComplete 58 = .ok (.ireturn, 1) := by decide +kernel
theorem dX7_addRead_0 : decode cX7_addRead 0 = .ok (.bipush 6, 2) := by decide +kernel
theorem dX7_addRead_2 : decode cX7_addRead 2 = .ok (.iload_n 1, 1) := by decide +kernel
theorem dX7_addRead_3 : decode cX7_addRead 3 = .ok (.imul, 1) := by decide +kernel
theorem dX7_addRead_4 : decode cX7_addRead 4 = .ok (.istore_n 2, 1) := by decide +kernel
theorem dX7_addRead_5 : decode cX7_addRead 5 = .ok (.aload_n 0, 1) := by decide +kernel
theorem dX7_addRead_6 : decode cX7_addRead 6 = .ok (.getfield 34, 3) := by decide +kernel
theorem dX7_addRead_9 : decode cX7_addRead 9 = .ok (.iload_n 2, 1) := by decide +kernel
theorem dX7_addRead_10 : decode cX7_addRead 10 = .ok (.iaload, 1) := by decide +kernel
theorem dX7_addRead_11 : decode cX7_addRead 11 = .ok (.iconst 2, 1) := by decide +kernel
theorem dX7_addRead_12 : decode cX7_addRead 12 = .ok (.if_icmp .ne 66, 3) := by decide +kernel
theorem dX7_addRead_15 : decode cX7_addRead 15 = .ok (.aload_n 0, 1) := by decide +kernel
theorem dX7_addRead_16 : decode cX7_addRead 16 = .ok (.aload_n 0, 1) := by decide +kernel
theorem dX7_addRead_17 : decode cX7_addRead 17 = .ok (.getfield 34, 3) := by decide +kernel
theorem dX7_addRead_20 : decode cX7_addRead 20 = .ok (.iload_n 2, 1) := by decide +kernel
theorem dX7_addRead_21 : decode cX7_addRead 21 = .ok (.iconst 1, 1) := by decide +kernel
theorem dX7_addRead_22 : decode cX7_addRead 22 = .ok (.iadd, 1) := by decide +kernel
theorem dX7_addRead_23 : decode cX7_addRead 23 = .ok (.iaload, 1) := by decide +kernel
theorem dX7_addRead_24 : decode cX7_addRead 24 = .ok (.invokevirtual 152, 3) := by decide +kernel
theorem dX7_addRead_27 : decode cX7_addRead 27 = .ok (.ifCond .eq 17, 3) := by decide +kernel
theorem dX7_addRead_30 : decode cX7_addRead 30 = .ok (.aload_n 0, 1) := by decide +kernel
theorem dX7_addRead_31 : decode cX7_addRead 31 = .ok (.getfield 34, 3) := by decide +kernel
theorem dX7_addRead_34 : decode cX7_addRead 34 = .ok (.iload_n 2, 1) := by decide +kernel
theorem dX7_addRead_35 : decode cX7_addRead 35 = .ok (.iconst 3, 1) := by decide +kernel
theorem dX7_addRead_36 : decode cX7_addRead 36 = .ok (.iadd, 1) := by decide +kernel
theorem dX7_addRead_37 : decode cX7_addRead 37 = .ok (.iaload, 1) := by decide +kernel
theorem dX7_addRead_38 : decode cX7_addRead 38 = .ok (.invokestatic 129, 3) := by decide +kernel
theorem dX7_addRead_41 : decode cX7_addRead 41 = .ok (.ifCond .ne 6, 3) := by decide +kernel
theorem dX7_addRead_44 : decode cX7_addRead 44 = .ok (.bipush 20, 2) := by decide +kernel
theorem dX7_addRead_46 : decode cX7_addRead 46 = .ok (.ireturn, 1) := by decide +kernel
theorem dX7_addRead_47 : decode cX7_addRead 47 = .ok (.aload_n 0, 1) := by decide +kernel
theorem dX7_addRead_48 : decode cX7_addRead 48 = .ok (.aload_n 0, 1) := by decide +kernel
theorem dX7_addRead_49 : decode cX7_addRead 49 = .ok (.getfield 34, 3) := by decide +kernel
theorem dX7_addRead_52 : decode cX7_addRead 52 = .ok (.iload_n 2, 1) := by decide +kernel
theorem dX7_addRead_53 : decode cX7_addRead 53 = .ok (.iconst 1, 1) := by decide +kernel
theorem dX7_addRead_54 : decode cX7_addRead 54 = .ok (.iadd, 1) := by decide +kernel
theorem dX7_addRead_55 : decode cX7_addRead 55 = .ok (.iaload, 1) := by decide +kernel
theorem dX7_addRead_56 : decode cX7_addRead 56 = .ok (.aload_n 0, 1) := by decide +kernel
theorem dX7_addRead_57 : decode cX7_addRead 57 = .ok (.getfield 34, 3) := by decide +kernel
theorem dX7_addRead_60 : decode cX7_addRead 60 = .ok (.iload_n 2, 1) := by decide +kernel
theorem dX7_addRead_61 : decode cX7_addRead 61 = .ok (.iconst 2, 1) := by decide +kernel
theorem dX7_addRead_62 : decode cX7_addRead 62 = .ok (.iadd, 1) := by decide +kernel
theorem dX7_addRead_63 : decode cX7_addRead 63 = .ok (.iaload, 1) := by decide +kernel
theorem dX7_addRead_64 : decode cX7_addRead 64 = .ok (.aload_n 0, 1) := by decide +kernel
theorem dX7_addRead_65 : decode cX7_addRead 65 = .ok (.getfield 34, 3) := by decide +kernel
theorem dX7_addRead_68 : decode cX7_addRead 68 = .ok (.iload_n 2, 1) := by decide +kernel
theorem dX7_addRead_69 : decode cX7_addRead 69 = .ok (.iconst 3, 1) := by decide +kernel
theorem dX7_addRead_70 : decode cX7_addRead 70 = .ok (.iadd, 1) := by decide +kernel
theorem dX7_addRead_71 : decode cX7_addRead 71 = .ok (.iaload, 1) := by decide +kernel
theorem dX7_addRead_72 : decode cX7_addRead 72 = .ok (.invokevirtual 155, 3) := by decide +kernel
theorem dX7_addRead_75 : decode cX7_addRead 75 = .ok (.goto 102, 3) := by decide +kernel
theorem dX7_addRead_78 : decode cX7_addRead 78 = .ok (.aload_n 0, 1) := by decide +kernel
theorem dX7_addRead_79 : decode cX7_addRead 79 = .ok (.getfield 34, 3) := by decide +kernel
theorem dX7_addRead_82 : decode cX7_addRead 82 = .ok (.iload_n 2, 1) := by decide +kernel
theorem dX7_addRead_83 : decode cX7_addRead 83 = .ok (.iconst 1, 1) := by decide +kernel
theorem dX7_addRead_84 : decode cX7_addRead 84 = .ok (.iadd, 1) := by decide +kernel
theorem dX7_addRead_85 : decode cX7_addRead 85 = .ok (.iaload, 1) := by decide +kernel
theorem dX7_addRead_86 : decode cX7_addRead 86 = .ok (.aload_n 0, 1) := by decide +kernel
theorem dX7_addRead_87 : decode cX7_addRead 87 = .ok (.getfield 34, 3) := by decide +kernel
theorem dX7_addRead_90 : decode cX7_addRead 90 = .ok (.iload_n 2, 1) := by decide +kernel
theorem dX7_addRead_91 : decode cX7_addRead 91 = .ok (.iconst 2, 1) := by decide +kernel
theorem dX7_addRead_92 : decode cX7_addRead 92 = .ok (.iadd, 1) := by decide +kernel
theorem dX7_addRead_93 : decode cX7_addRead 93 = .ok (.iaload, 1) := by decide +kernel
theorem dX7_addRead_94 : decode cX7_addRead 94 = .ok (.aload_n 0, 1) := by decide +kernel
theorem dX7_addRead_95 : decode cX7_addRead 95 = .ok (.getfield 34, 3) := by decide +kernel
theorem dX7_addRead_98 : decode cX7_addRead 98 = .ok (.iload_n 2, 1) := by decide +kernel
theorem dX7_addRead_99 : decode cX7_addRead 99 = .ok (.iconst 3, 1) := by decide +kernel
theorem dX7_addRead_100 : decode cX7_addRead 100 = .ok (.iadd, 1) := by decide +kernel
theorem dX7_addRead_101 : decode cX7_addRead 101 = .ok (.iaload, 1) := by decide +kernel
theorem dX7_addRead_102 : decode cX7_addRead 102 = .ok (.aload_n 0, 1) := by decide +kernel
theorem dX7_addRead_103 : decode cX7_addRead 103 = .ok (.getfield 34, 3) := by decide +kernel
theorem dX7_addRead_106 : decode cX7_addRead 106 = .ok (.iload_n 2, 1) := by decide +kernel
theorem dX7_addRead_107 : decode cX7_addRead 107 = .ok (.iconst 4, 1) := by decide +kernel
theorem dX7_addRead_108 : decode cX7_addRead 108 = .ok (.iadd, 1) := by decide +kernel
theorem dX7_addRead_109 : decode cX7_addRead 109 = .ok (.iaload, 1) := by decide +kernel
theorem dX7_addRead_110 : decode cX7_addRead 110 = .ok (.aload_n 0, 1) := by decide +kernel
theorem dX7_addRead_111 : decode cX7_addRead 111 = .ok (.getfield 34, 3) := by decide +kernel
theorem dX7_addRead_114 : decode cX7_addRead 114 = .ok (.iload_n 2, 1) := by decide +kernel
theorem dX7_addRead_115 : decode cX7_addRead 115 = .ok (.iconst 5, 1) := by decide +kernel
theorem dX7_addRead_116 : decode cX7_addRead 116 = .ok (.iadd, 1) := by decide +kernel
theorem dX7_addRead_117 : decode cX7_addRead 117 = .ok (.iaload, 1) := by decide +kernel
theorem dX7_addRead_118 : decode cX7_addRead 118 = .ok (.invokestatic 145, 3) := by decide +kernel
theorem dX7_addRead_121 : decode cX7_addRead 121 = .ok (.ifCond .ne 6, 3) := by decide +kernel
theorem dX7_addRead_124 : decode cX7_addRead 124 = .ok (.bipush 20, 2) := by decide +kernel
theorem dX7_addRead_126 : decode cX7_addRead 126 = .ok (.ireturn, 1) := by decide +kernel
theorem dX7_addRead_127 : decode cX7_addRead 127 = .ok (.aload_n 0, 1) := by decide +kernel
theorem dX7_addRead_128 : decode cX7_addRead 128 = .ok (.aload_n 0, 1) := by decide +kernel
theorem dX7_addRead_129 : decode cX7_addRead 129 = .ok (.getfield 34, 3) := by decide +kernel
theorem dX7_addRead_132 : decode cX7_addRead 132 = .ok (.iload_n 2, 1) := by decide +kernel
theorem dX7_addRead_133 : decode cX7_addRead 133 = .ok (.iaload, 1) := by decide +kernel
theorem dX7_addRead_134 : decode cX7_addRead 134 = .ok (.aload_n 0, 1) := by decide +kernel
theorem dX7_addRead_135 : decode cX7_addRead 135 = .ok (.getfield 34, 3) := by decide +kernel
theorem dX7_addRead_138 : decode cX7_addRead 138 = .ok (.iload_n 2, 1) := by decide +kernel
theorem dX7_addRead_139 : decode cX7_addRead 139 = .ok (.iconst 1, 1) := by decide +kernel
theorem dX7_addRead_140 : decode cX7_addRead 140 = .ok (.iadd, 1) := by decide +kernel
theorem dX7_addRead_141 : decode cX7_addRead 141 = .ok (.iaload, 1) := by decide +kernel
theorem dX7_addRead_142 : decode cX7_addRead 142 = .ok (.aload_n 0, 1) := by decide +kernel
theorem dX7_addRead_143 : decode cX7_addRead 143 = .ok (.getfield 34, 3) := by decide +kernel
theorem dX7_addRead_146 : decode cX7_addRead 146 = .ok (.iload_n 2, 1) := by decide +kernel
theorem dX7_addRead_147 : decode cX7_addRead 147 = .ok (.iconst 2, 1) := by decide +kernel
theorem dX7_addRead_148 : decode cX7_addRead 148 = .ok (.iadd, 1) := by decide +kernel
theorem dX7_addRead_149 : decode cX7_addRead 149 = .ok (.iaload, 1) := by decide +kernel
theorem dX7_addRead_150 : decode cX7_addRead 150 = .ok (.aload_n 0, 1) := by decide +kernel
theorem dX7_addRead_151 : decode cX7_addRead 151 = .ok (.getfield 34, 3) := by decide +kernel
theorem dX7_addRead_154 : decode cX7_addRead 154 = .ok (.iload_n 2, 1) := by decide +kernel
theorem dX7_addRead_155 : decode cX7_addRead 155 = .ok (.iconst 3, 1) := by decide +kernel
theorem dX7_addRead_156 : decode cX7_addRead 156 = .ok (.iadd, 1) := by decide +kernel
theorem dX7_addRead_157 : decode cX7_addRead 157 = .ok (.iaload, 1) := by decide +kernel
theorem dX7_addRead_158 : decode cX7_addRead 158 = .ok (.aload_n 0, 1) := by decide +kernel
theorem dX7_addRead_159 : decode cX7_addRead 159 = .ok (.getfield 34, 3) := by decide +kernel
theorem dX7_addRead_162 : decode cX7_addRead 162 = .ok (.iload_n 2, 1) := by decide +kernel
theorem dX7_addRead_163 : decode cX7_addRead 163 = .ok (.iconst 4, 1) := by decide +kernel
theorem dX7_addRead_164 : decode cX7_addRead 164 = .ok (.iadd, 1) := by decide +kernel
theorem dX7_addRead_165 : decode cX7_addRead 165 = .ok (.iaload, 1) := by decide +kernel
theorem dX7_addRead_166 : decode cX7_addRead 166 = .ok (.aload_n 0, 1) := by decide +kernel
theorem dX7_addRead_167 : decode cX7_addRead 167 = .ok (.getfield 34, 3) := by decide +kernel
theorem dX7_addRead_170 : decode cX7_addRead 170 = .ok (.iload_n 2, 1) := by decide +kernel
theorem dX7_addRead_171 : decode cX7_addRead 171 = .ok (.iconst 5, 1) := by decide +kernel
theorem dX7_addRead_172 : decode cX7_addRead 172 = .ok (.iadd, 1) := by decide +kernel
theorem dX7_addRead_173 : decode cX7_addRead 173 = .ok (.iaload, 1) := by decide +kernel
theorem dX7_addRead_174 : decode cX7_addRead 174 = .ok (.invokevirtual 49, 3) := by decide +kernel
theorem dX7_addRead_177 : decode cX7_addRead 177 = .ok (.aload_n 0, 1) := by decide +kernel
theorem dX7_addRead_178 : decode cX7_addRead 178 = .ok (.invokevirtual 135, 3) := by decide +kernel
theorem dX7_addRead_181 : decode cX7_addRead 181 = .ok (.istore_n 3, 1) := by decide +kernel
theorem dX7_addRead_182 : decode cX7_addRead 182 = .ok (.iload_n 3, 1) := by decide +kernel
theorem dX7_addRead_183 : decode cX7_addRead 183 = .ok (.ifCond .ne 8, 3) := by decide +kernel
theorem dX7_addRead_186 : decode cX7_addRead 186 = .ok (.aload_n 0, 1) := by decide +kernel
theorem dX7_addRead_187 : decode cX7_addRead 187 = .ok (.invokevirtual 142, 3) := by decide +kernel
theorem dX7_addRead_190 : decode cX7_addRead 190 = .ok (.pop, 1) := by decide +kernel
theorem dX7_addRead_191 : decode cX7_addRead 191 = .ok (.iload_n 3, 1) := by decide +kernel
theorem dX7_addRead_192 : decode cX7_addRead 192 = .ok (.ireturn, 1) := by decide +kernel
theorem dX7_load_0 : decode cX7_load 0 = .ok (.aload_n 0, 1) := by decide +kernel
theorem dX7_load_1 : decode cX7_load 1 = .ok (.invokevirtual 215, 3) := by decide +kernel
theorem dX7_load_4 : decode cX7_load 4 = .ok (.aload_n 0, 1) := by decide +kernel
theorem dX7_load_5 : decode cX7_load 5 = .ok (.getfield 173, 3) := by decide +kernel
theorem dX7_load_8 : decode cX7_load 8 = .ok (.if_icmp .ne 14, 3) := by decide +kernel
theorem dX7_load_11 : decode cX7_load 11 = .ok (.aload_n 0, 1) := by decide +kernel
theorem dX7_load_12 : decode cX7_load 12 = .ok (.invokevirtual 218, 3) := by decide +kernel
theorem dX7_load_15 : decode cX7_load 15 = .ok (.ifCond .eq 7, 3) := by decide +kernel
theorem dX7_load_18 : decode cX7_load 18 = .ok (.iconst 1, 1) := by decide +kernel
theorem dX7_load_19 : decode cX7_load 19 = .ok (.goto 4, 3) := by decide +kernel
theorem dX7_load_22 : decode cX7_load 22 = .ok (.iconst 0, 1) := by decide +kernel
theorem dX7_load_23 : decode cX7_load 23 = .ok (.istore_n 1, 1) := by decide +kernel
theorem dX7_load_24 : decode cX7_load 24 = .ok (.aload_n 0, 1) := by decide +kernel
theorem dX7_load_25 : decode cX7_load 25 = .ok (.iload_n 1, 1) := by decide +kernel
theorem dX7_load_26 : decode cX7_load 26 = .ok (.ifCond .eq 7, 3) := by decide +kernel
theorem dX7_load_29 : decode cX7_load 29 = .ok (.iconst 0, 1) := by decide +kernel
theorem dX7_load_30 : decode cX7_load 30 = .ok (.goto 4, 3) := by decide +kernel
theorem dX7_load_33 : decode cX7_load 33 = .ok (.iconst 1, 1) := by decide +kernel
theorem dX7_load_34 : decode cX7_load 34 = .ok (.putfield 37, 3) := by decide +kernel
theorem dX7_load_37 : decode cX7_load 37 = .ok (.aload_n 0, 1) := by decide +kernel
theorem dX7_load_38 : decode cX7_load 38 = .ok (.getfield 37, 3) := by decide +kernel
theorem dX7_load_41 : decode cX7_load 41 = .ok (.ifCond .le 5, 3) := by decide +kernel
theorem dX7_load_44 : decode cX7_load 44 = .ok (.iconst 0, 1) := by decide +kernel
theorem dX7_load_45 : decode cX7_load 45 = .ok (.ireturn, 1) := by decide +kernel
theorem dX7_load_46 : decode cX7_load 46 = .ok (.aload_n 0, 1) := by decide +kernel
theorem dX7_load_47 : decode cX7_load 47 = .ok (.invokevirtual 109, 3) := by decide +kernel
theorem dX7_load_50 : decode cX7_load 50 = .ok (.aload_n 0, 1) := by decide +kernel
theorem dX7_load_51 : decode cX7_load 51 = .ok (.dup, 1) := by decide +kernel
theorem dX7_load_52 : decode cX7_load 52 = .ok (.getfield 179, 3) := by decide +kernel
theorem dX7_load_55 : decode cX7_load 55 = .ok (.iconst 1, 1) := by decide +kernel
theorem dX7_load_56 : decode cX7_load 56 = .ok (.iadd, 1) := by decide +kernel
theorem dX7_load_57 : decode cX7_load 57 = .ok (.putfield 179, 3) := by decide +kernel
theorem dX7_load_60 : decode cX7_load 60 = .ok (.aload_n 0, 1) := by decide +kernel
theorem dX7_load_61 : decode cX7_load 61 = .ok (.iconst 0, 1) := by decide +kernel
theorem dX7_load_62 : decode cX7_load 62 = .ok (.putfield 139, 3) := by decide +kernel
theorem dX7_load_65 : decode cX7_load 65 = .ok (.iconst 0, 1) := by decide +kernel
theorem dX7_load_66 : decode cX7_load 66 = .ok (.istore_n 2, 1) := by decide +kernel
theorem dX7_load_67 : decode cX7_load 67 = .ok (.iload_n 2, 1) := by decide +kernel
theorem dX7_load_68 : decode cX7_load 68 = .ok (.aload_n 0, 1) := by decide +kernel
theorem dX7_load_69 : decode cX7_load 69 = .ok (.getfield 179, 3) := by decide +kernel
theorem dX7_load_72 : decode cX7_load 72 = .ok (.if_icmp .ge 37, 3) := by decide +kernel
theorem dX7_load_75 : decode cX7_load 75 = .ok (.aload_n 0, 1) := by decide +kernel
theorem dX7_load_76 : decode cX7_load 76 = .ok (.getfield 139, 3) := by decide +kernel
theorem dX7_load_79 : decode cX7_load 79 = .ok (.ifCond .ne 30, 3) := by decide +kernel
theorem dX7_load_82 : decode cX7_load 82 = .ok (.aload_n 0, 1) := by decide +kernel
theorem dX7_load_83 : decode cX7_load 83 = .ok (.aload_n 0, 1) := by decide +kernel
theorem dX7_load_84 : decode cX7_load 84 = .ok (.iload_n 2, 1) := by decide +kernel
theorem dX7_load_85 : decode cX7_load 85 = .ok (.invokevirtual 221, 3) := by decide +kernel
theorem dX7_load_88 : decode cX7_load 88 = .ok (.putfield 139, 3) := by decide +kernel
theorem dX7_load_91 : decode cX7_load 91 = .ok (.iload_n 2, 1) := by decide +kernel
theorem dX7_load_92 : decode cX7_load 92 = .ok (.aload_n 0, 1) := by decide +kernel
theorem dX7_load_93 : decode cX7_load 93 = .ok (.getfield 139, 3) := by decide +kernel
theorem dX7_load_96 : decode cX7_load 96 = .ok (.ifCond .ne 7, 3) := by decide +kernel
theorem dX7_load_99 : decode cX7_load 99 = .ok (.iconst 1, 1) := by decide +kernel
theorem dX7_load_100 : decode cX7_load 100 = .ok (.goto 4, 3) := by decide +kernel
theorem dX7_load_103 : decode cX7_load 103 = .ok (.iconst 0, 1) := by decide +kernel
theorem dX7_load_104 : decode cX7_load 104 = .ok (.iadd, 1) := by decide +kernel
theorem dX7_load_105 : decode cX7_load 105 = .ok (.istore_n 2, 1) := by decide +kernel
theorem dX7_load_106 : decode cX7_load 106 = .ok (.goto (-39), 3) := by decide +kernel
theorem dX7_load_109 : decode cX7_load 109 = .ok (.aload_n 0, 1) := by decide +kernel
theorem dX7_load_110 : decode cX7_load 110 = .ok (.iconst 0, 1) := by decide +kernel
theorem dX7_load_111 : decode cX7_load 111 = .ok (.putfield 173, 3) := by decide +kernel
theorem dX7_load_114 : decode cX7_load 114 = .ok (.iload_n 2, 1) := by decide +kernel
theorem dX7_load_115 : decode cX7_load 115 = .ok (.ireturn, 1) := by decide +kernel
theorem dX7_reason_0 : decode cX7_reason 0 = .ok (.aload_n 0, 1) := by decide +kernel
theorem dX7_reason_1 : decode cX7_reason 1 = .ok (.iconst 0, 1) := by decide +kernel
theorem dX7_reason_2 : decode cX7_reason 2 = .ok (.putfield 37, 3) := by decide +kernel
theorem dX7_reason_5 : decode cX7_reason 5 = .ok (.aload_n 0, 1) := by decide +kernel
theorem dX7_reason_6 : decode cX7_reason 6 = .ok (.getfield 139, 3) := by decide +kernel
theorem dX7_reason_9 : decode cX7_reason 9 = .ok (.ireturn, 1) := by decide +kernel
theorem dX7_showNow_0 : decode cX7_showNow 0 = .ok (.iload_n 2, 1) := by decide +kernel
theorem dX7_showNow_1 : decode cX7_showNow 1 = .ok (.bipush 8, 2) := by decide +kernel
theorem dX7_showNow_3 : decode cX7_showNow 3 = .ok (.if_icmp .ge 10, 3) := by decide +kernel
theorem dX7_showNow_6 : decode cX7_showNow 6 = .ok (.aload_n 0, 1) := by decide +kernel
theorem dX7_showNow_7 : decode cX7_showNow 7 = .ok (.iload_n 1, 1) := by decide +kernel
theorem dX7_showNow_8 : decode cX7_showNow 8 = .ok (.iload_n 2, 1) := by decide +kernel
theorem dX7_showNow_9 : decode cX7_showNow 9 = .ok (.invokevirtual 45, 3) := by decide +kernel
theorem dX7_showNow_12 : decode cX7_showNow 12 = .ok (.ireturn, 1) := by decide +kernel
theorem dX7_showNow_13 : decode cX7_showNow 13 = .ok (.aload_n 0, 1) := by decide +kernel
theorem dX7_showNow_14 : decode cX7_showNow 14 = .ok (.aload_n 0, 1) := by decide +kernel
theorem dX7_showNow_15 : decode cX7_showNow 15 = .ok (.iload_n 1, 1) := by decide +kernel
theorem dX7_showNow_16 : decode cX7_showNow 16 = .ok (.iconst 2, 1) := by decide +kernel
theorem dX7_showNow_17 : decode cX7_showNow 17 = .ok (.invokevirtual 45, 3) := by decide +kernel
theorem dX7_showNow_20 : decode cX7_showNow 20 = .ok (.invokevirtual 91, 3) := by decide +kernel
theorem dX7_showNow_23 : decode cX7_showNow 23 = .ok (.iload_n 2, 1) := by decide +kernel
theorem dX7_showNow_24 : decode cX7_showNow 24 = .ok (.bipush 8, 2) := by decide +kernel
theorem dX7_showNow_26 : decode cX7_showNow 26 = .ok (.if_icmp .ne 12, 3) := by decide +kernel
theorem dX7_showNow_29 : decode cX7_showNow 29 = .ok (.aload_n 0, 1) := by decide +kernel
theorem dX7_showNow_30 : decode cX7_showNow 30 = .ok (.getfield 22, 3) := by decide +kernel
theorem dX7_showNow_33 : decode cX7_showNow 33 = .ok (.iload_n 1, 1) := by decide +kernel
theorem dX7_showNow_34 : decode cX7_showNow 34 = .ok (.iaload, 1) := by decide +kernel
theorem dX7_showNow_35 : decode cX7_showNow 35 = .ok (.goto 39, 3) := by decide +kernel
theorem dX7_showNow_38 : decode cX7_showNow 38 = .ok (.iload_n 2, 1) := by decide +kernel
theorem dX7_showNow_39 : decode cX7_showNow 39 = .ok (.bipush 9, 2) := by decide +kernel
theorem dX7_showNow_41 : decode cX7_showNow 41 = .ok (.if_icmp .ne 12, 3) := by decide +kernel
theorem dX7_showNow_44 : decode cX7_showNow 44 = .ok (.aload_n 0, 1) := by decide +kernel
theorem dX7_showNow_45 : decode cX7_showNow 45 = .ok (.getfield 25, 3) := by decide +kernel
theorem dX7_showNow_48 : decode cX7_showNow 48 = .ok (.iload_n 1, 1) := by decide +kernel
theorem dX7_showNow_49 : decode cX7_showNow 49 = .ok (.iaload, 1) := by decide +kernel
theorem dX7_showNow_50 : decode cX7_showNow 50 = .ok (.goto 24, 3) := by decide +kernel
theorem dX7_showNow_53 : decode cX7_showNow 53 = .ok (.iload_n 2, 1) := by decide +kernel
theorem dX7_showNow_54 : decode cX7_showNow 54 = .ok (.bipush 10, 2) := by decide +kernel
theorem dX7_showNow_56 : decode cX7_showNow 56 = .ok (.if_icmp .ne 12, 3) := by decide +kernel
theorem dX7_showNow_59 : decode cX7_showNow 59 = .ok (.aload_n 0, 1) := by decide +kernel
theorem dX7_showNow_60 : decode cX7_showNow 60 = .ok (.getfield 28, 3) := by decide +kernel
theorem dX7_showNow_63 : decode cX7_showNow 63 = .ok (.iload_n 1, 1) := by decide +kernel
theorem dX7_showNow_64 : decode cX7_showNow 64 = .ok (.iaload, 1) := by decide +kernel
theorem dX7_showNow_65 : decode cX7_showNow 65 = .ok (.goto 9, 3) := by decide +kernel
theorem dX7_showNow_68 : decode cX7_showNow 68 = .ok (.aload_n 0, 1) := by decide +kernel
theorem dX7_showNow_69 : decode cX7_showNow 69 = .ok (.getfield 31, 3) := by decide +kernel
theorem dX7_showNow_72 : decode cX7_showNow 72 = .ok (.iload_n 1, 1) := by decide +kernel
theorem dX7_showNow_73 : decode cX7_showNow 73 = .ok (.iaload, 1) := by decide +kernel
theorem dX7_showNow_74 : decode cX7_showNow 74 = .ok (.ireturn, 1) := by decide +kernel
theorem dX7_show_0 : decode cX7_show 0 = .ok (.aload_n 0, 1) := by decide +kernel
theorem dX7_show_1 : decode cX7_show 1 = .ok (.aload_n 0, 1) := by decide +kernel
theorem dX7_show_2 : decode cX7_show 2 = .ok (.iload_n 1, 1) := by decide +kernel
theorem dX7_show_3 : decode cX7_show 3 = .ok (.invokevirtual 152, 3) := by decide +kernel
theorem dX7_show_6 : decode cX7_show 6 = .ok (.ifCond .ne 7, 3) := by decide +kernel
theorem dX7_show_9 : decode cX7_show 9 = .ok (.iconst 1, 1) := by decide +kernel
theorem dX7_show_10 : decode cX7_show 10 = .ok (.goto 18, 3) := by decide +kernel
theorem dX7_show_13 : decode cX7_show 13 = .ok (.iload_n 2, 1) := by decide +kernel
theorem dX7_show_14 : decode cX7_show 14 = .ok (.iconst 0, 1) := by decide +kernel
theorem dX7_show_15 : decode cX7_show 15 = .ok (.bipush 11, 2) := by decide +kernel
theorem dX7_show_17 : decode cX7_show 17 = .ok (.invokestatic 41, 3) := by decide +kernel
theorem dX7_show_20 : decode cX7_show 20 = .ok (.ifCond .eq 7, 3) := by decide +kernel
theorem dX7_show_23 : decode cX7_show 23 = .ok (.iconst 0, 1) := by decide +kernel
theorem dX7_show_24 : decode cX7_show 24 = .ok (.goto 4, 3) := by decide +kernel
theorem dX7_show_27 : decode cX7_show 27 = .ok (.iconst 2, 1) := by decide +kernel
theorem dX7_show_28 : decode cX7_show 28 = .ok (.putfield 37, 3) := by decide +kernel
theorem dX7_show_31 : decode cX7_show 31 = .ok (.aload_n 0, 1) := by decide +kernel
theorem dX7_show_32 : decode cX7_show 32 = .ok (.getfield 37, 3) := by decide +kernel
theorem dX7_show_35 : decode cX7_show 35 = .ok (.ifCond .le 7, 3) := by decide +kernel
theorem dX7_show_38 : decode cX7_show 38 = .ok (.iconst 0, 1) := by decide +kernel
theorem dX7_show_39 : decode cX7_show 39 = .ok (.goto 9, 3) := by decide +kernel
theorem dX7_show_42 : decode cX7_show 42 = .ok (.aload_n 0, 1) := by decide +kernel
theorem dX7_show_43 : decode cX7_show 43 = .ok (.iload_n 1, 1) := by decide +kernel
theorem dX7_show_44 : decode cX7_show 44 = .ok (.iload_n 2, 1) := by decide +kernel
theorem dX7_show_45 : decode cX7_show 45 = .ok (.invokevirtual 224, 3) := by decide +kernel
theorem dX7_show_48 : decode cX7_show 48 = .ok (.ireturn, 1) := by decide +kernel
theorem dX7_showsOf_0 : decode cX7_showsOf 0 = .ok (.iconst 0, 1) := by decide +kernel
theorem dX7_showsOf_1 : decode cX7_showsOf 1 = .ok (.istore_n 2, 1) := by decide +kernel
theorem dX7_showsOf_2 : decode cX7_showsOf 2 = .ok (.iconst 0, 1) := by decide +kernel
theorem dX7_showsOf_3 : decode cX7_showsOf 3 = .ok (.istore_n 3, 1) := by decide +kernel
theorem dX7_showsOf_4 : decode cX7_showsOf 4 = .ok (.iload_n 3, 1) := by decide +kernel
theorem dX7_showsOf_5 : decode cX7_showsOf 5 = .ok (.aload_n 0, 1) := by decide +kernel
theorem dX7_showsOf_6 : decode cX7_showsOf 6 = .ok (.getfield 7, 3) := by decide +kernel
theorem dX7_showsOf_9 : decode cX7_showsOf 9 = .ok (.bipush 39, 2) := by decide +kernel
theorem dX7_showsOf_11 : decode cX7_showsOf 11 = .ok (.iaload, 1) := by decide +kernel
theorem dX7_showsOf_12 : decode cX7_showsOf 12 = .ok (.if_icmp .ge 27, 3) := by decide +kernel
theorem dX7_showsOf_15 : decode cX7_showsOf 15 = .ok (.iload_n 2, 1) := by decide +kernel
theorem dX7_showsOf_16 : decode cX7_showsOf 16 = .ok (.aload_n 0, 1) := by decide +kernel
theorem dX7_showsOf_17 : decode cX7_showsOf 17 = .ok (.iload_n 3, 1) := by decide +kernel
theorem dX7_showsOf_18 : decode cX7_showsOf 18 = .ok (.iconst 1, 1) := by decide +kernel
theorem dX7_showsOf_19 : decode cX7_showsOf 19 = .ok (.invokevirtual 45, 3) := by decide +kernel
theorem dX7_showsOf_22 : decode cX7_showsOf 22 = .ok (.iload_n 1, 1) := by decide +kernel
theorem dX7_showsOf_23 : decode cX7_showsOf 23 = .ok (.if_icmp .ne 7, 3) := by decide +kernel
theorem dX7_showsOf_26 : decode cX7_showsOf 26 = .ok (.iconst 1, 1) := by decide +kernel
theorem dX7_showsOf_27 : decode cX7_showsOf 27 = .ok (.goto 4, 3) := by decide +kernel
theorem dX7_showsOf_30 : decode cX7_showsOf 30 = .ok (.iconst 0, 1) := by decide +kernel
theorem dX7_showsOf_31 : decode cX7_showsOf 31 = .ok (.iadd, 1) := by decide +kernel
theorem dX7_showsOf_32 : decode cX7_showsOf 32 = .ok (.istore_n 2, 1) := by decide +kernel
theorem dX7_showsOf_33 : decode cX7_showsOf 33 = .ok (.iinc 3 1, 3) := by decide +kernel
theorem dX7_showsOf_36 : decode cX7_showsOf 36 = .ok (.goto (-32), 3) := by decide +kernel
theorem dX7_showsOf_39 : decode cX7_showsOf 39 = .ok (.iload_n 2, 1) := by decide +kernel
theorem dX7_showsOf_40 : decode cX7_showsOf 40 = .ok (.ireturn, 1) := by decide +kernel
theorem dX7_groupNow_0 : decode cX7_groupNow 0 = .ok (.bipush 8, 2) := by decide +kernel
theorem dX7_groupNow_2 : decode cX7_groupNow 2 = .ok (.iconst 5, 1) := by decide +kernel
theorem dX7_groupNow_3 : decode cX7_groupNow 3 = .ok (.iload_n 1, 1) := by decide +kernel
theorem dX7_groupNow_4 : decode cX7_groupNow 4 = .ok (.imul, 1) := by decide +kernel
theorem dX7_groupNow_5 : decode cX7_groupNow 5 = .ok (.iadd, 1) := by decide +kernel
theorem dX7_groupNow_6 : decode cX7_groupNow 6 = .ok (.istore_n 3, 1) := by decide +kernel
theorem dX7_groupNow_7 : decode cX7_groupNow 7 = .ok (.iload_n 2, 1) := by decide +kernel
theorem dX7_groupNow_8 : decode cX7_groupNow 8 = .ok (.tableswitch 73 0 5 #[40, 40, 49, 55, 61, 67], 40) := by decide +kernel
theorem dX7_groupNow_48 : decode cX7_groupNow 48 = .ok (.aload_n 0, 1) := by decide +kernel
theorem dX7_groupNow_49 : decode cX7_groupNow 49 = .ok (.getfield 7, 3) := by decide +kernel
theorem dX7_groupNow_52 : decode cX7_groupNow 52 = .ok (.iload_n 3, 1) := by decide +kernel
theorem dX7_groupNow_53 : decode cX7_groupNow 53 = .ok (.iload_n 2, 1) := by decide +kernel
theorem dX7_groupNow_54 : decode cX7_groupNow 54 = .ok (.iadd, 1) := by decide +kernel
theorem dX7_groupNow_55 : decode cX7_groupNow 55 = .ok (.iaload, 1) := by decide +kernel
theorem dX7_groupNow_56 : decode cX7_groupNow 56 = .ok (.ireturn, 1) := by decide +kernel
theorem dX7_groupNow_57 : decode cX7_groupNow 57 = .ok (.aload_n 0, 1) := by decide +kernel
theorem dX7_groupNow_58 : decode cX7_groupNow 58 = .ok (.iload_n 1, 1) := by decide +kernel
theorem dX7_groupNow_59 : decode cX7_groupNow 59 = .ok (.invokevirtual 74, 3) := by decide +kernel
theorem dX7_groupNow_62 : decode cX7_groupNow 62 = .ok (.ireturn, 1) := by decide +kernel
theorem dX7_groupNow_63 : decode cX7_groupNow 63 = .ok (.aload_n 0, 1) := by decide +kernel
theorem dX7_groupNow_64 : decode cX7_groupNow 64 = .ok (.iload_n 1, 1) := by decide +kernel
theorem dX7_groupNow_65 : decode cX7_groupNow 65 = .ok (.invokevirtual 70, 3) := by decide +kernel
theorem dX7_groupNow_68 : decode cX7_groupNow 68 = .ok (.ireturn, 1) := by decide +kernel
theorem dX7_groupNow_69 : decode cX7_groupNow 69 = .ok (.aload_n 0, 1) := by decide +kernel
theorem dX7_groupNow_70 : decode cX7_groupNow 70 = .ok (.iload_n 1, 1) := by decide +kernel
theorem dX7_groupNow_71 : decode cX7_groupNow 71 = .ok (.invokevirtual 167, 3) := by decide +kernel
theorem dX7_groupNow_74 : decode cX7_groupNow 74 = .ok (.ireturn, 1) := by decide +kernel
theorem dX7_groupNow_75 : decode cX7_groupNow 75 = .ok (.aload_n 0, 1) := by decide +kernel
theorem dX7_groupNow_76 : decode cX7_groupNow 76 = .ok (.iload_n 1, 1) := by decide +kernel
theorem dX7_groupNow_77 : decode cX7_groupNow 77 = .ok (.invokevirtual 227, 3) := by decide +kernel
theorem dX7_groupNow_80 : decode cX7_groupNow 80 = .ok (.ireturn, 1) := by decide +kernel
theorem dX7_groupNow_81 : decode cX7_groupNow 81 = .ok (.aload_n 0, 1) := by decide +kernel
theorem dX7_groupNow_82 : decode cX7_groupNow 82 = .ok (.getfield 7, 3) := by decide +kernel
theorem dX7_groupNow_85 : decode cX7_groupNow 85 = .ok (.iload_n 3, 1) := by decide +kernel
theorem dX7_groupNow_86 : decode cX7_groupNow 86 = .ok (.iload_n 2, 1) := by decide +kernel
theorem dX7_groupNow_87 : decode cX7_groupNow 87 = .ok (.iadd, 1) := by decide +kernel
theorem dX7_groupNow_88 : decode cX7_groupNow 88 = .ok (.iconst 4, 1) := by decide +kernel
theorem dX7_groupNow_89 : decode cX7_groupNow 89 = .ok (.isub, 1) := by decide +kernel
theorem dX7_groupNow_90 : decode cX7_groupNow 90 = .ok (.iaload, 1) := by decide +kernel
theorem dX7_groupNow_91 : decode cX7_groupNow 91 = .ok (.ireturn, 1) := by decide +kernel
theorem dX7_group_0 : decode cX7_group 0 = .ok (.aload_n 0, 1) := by decide +kernel
theorem dX7_group_1 : decode cX7_group 1 = .ok (.iload_n 1, 1) := by decide +kernel
theorem dX7_group_2 : decode cX7_group 2 = .ok (.invokestatic 123, 3) := by decide +kernel
theorem dX7_group_5 : decode cX7_group 5 = .ok (.ifCond .ne 7, 3) := by decide +kernel
theorem dX7_group_8 : decode cX7_group 8 = .ok (.iconst 1, 1) := by decide +kernel
theorem dX7_group_9 : decode cX7_group 9 = .ok (.goto 18, 3) := by decide +kernel
theorem dX7_group_12 : decode cX7_group 12 = .ok (.iload_n 2, 1) := by decide +kernel
theorem dX7_group_13 : decode cX7_group 13 = .ok (.iconst 0, 1) := by decide +kernel
theorem dX7_group_14 : decode cX7_group 14 = .ok (.bipush 8, 2) := by decide +kernel
theorem dX7_group_16 : decode cX7_group 16 = .ok (.invokestatic 41, 3) := by decide +kernel
theorem dX7_group_19 : decode cX7_group 19 = .ok (.ifCond .eq 7, 3) := by decide +kernel
theorem dX7_group_22 : decode cX7_group 22 = .ok (.iconst 0, 1) := by decide +kernel
theorem dX7_group_23 : decode cX7_group 23 = .ok (.goto 4, 3) := by decide +kernel
theorem dX7_group_26 : decode cX7_group 26 = .ok (.iconst 2, 1) := by decide +kernel
theorem dX7_group_27 : decode cX7_group 27 = .ok (.putfield 37, 3) := by decide +kernel
theorem dX7_group_30 : decode cX7_group 30 = .ok (.aload_n 0, 1) := by decide +kernel
theorem dX7_group_31 : decode cX7_group 31 = .ok (.getfield 37, 3) := by decide +kernel
theorem dX7_group_34 : decode cX7_group 34 = .ok (.ifCond .le 7, 3) := by decide +kernel
theorem dX7_group_37 : decode cX7_group 37 = .ok (.iconst 0, 1) := by decide +kernel
theorem dX7_group_38 : decode cX7_group 38 = .ok (.goto 9, 3) := by decide +kernel
theorem dX7_group_41 : decode cX7_group 41 = .ok (.aload_n 0, 1) := by decide +kernel
theorem dX7_group_42 : decode cX7_group 42 = .ok (.iload_n 1, 1) := by decide +kernel
theorem dX7_group_43 : decode cX7_group 43 = .ok (.iload_n 2, 1) := by decide +kernel
theorem dX7_group_44 : decode cX7_group 44 = .ok (.invokevirtual 230, 3) := by decide +kernel
theorem dX7_group_47 : decode cX7_group 47 = .ok (.ireturn, 1) := by decide +kernel
theorem dX7_sponsorsNow_0 : decode cX7_sponsorsNow 0 = .ok (.aload_n 0, 1) := by decide +kernel
theorem dX7_sponsorsNow_1 : decode cX7_sponsorsNow 1 = .ok (.iload_n 1, 1) := by decide +kernel
theorem dX7_sponsorsNow_2 : decode cX7_sponsorsNow 2 = .ok (.invokevirtual 91, 3) := by decide +kernel
theorem dX7_sponsorsNow_5 : decode cX7_sponsorsNow 5 = .ok (.iload_n 3, 1) := by decide +kernel
theorem dX7_sponsorsNow_6 : decode cX7_sponsorsNow 6 = .ok (.ifCond .eq 12, 3) := by decide +kernel
theorem dX7_sponsorsNow_9 : decode cX7_sponsorsNow 9 = .ok (.aload_n 0, 1) := by decide +kernel
theorem dX7_sponsorsNow_10 : decode cX7_sponsorsNow 10 = .ok (.iload_n 1, 1) := by decide +kernel
theorem dX7_sponsorsNow_11 : decode cX7_sponsorsNow 11 = .ok (.iload_n 2, 1) := by decide +kernel
theorem dX7_sponsorsNow_12 : decode cX7_sponsorsNow 12 = .ok (.invokevirtual 94, 3) := by decide +kernel
theorem dX7_sponsorsNow_15 : decode cX7_sponsorsNow 15 = .ok (.goto 9, 3) := by decide +kernel
theorem dX7_sponsorsNow_18 : decode cX7_sponsorsNow 18 = .ok (.aload_n 0, 1) := by decide +kernel
theorem dX7_sponsorsNow_19 : decode cX7_sponsorsNow 19 = .ok (.iload_n 1, 1) := by decide +kernel
theorem dX7_sponsorsNow_20 : decode cX7_sponsorsNow 20 = .ok (.iload_n 2, 1) := by decide +kernel
theorem dX7_sponsorsNow_21 : decode cX7_sponsorsNow 21 = .ok (.invokevirtual 60, 3) := by decide +kernel
theorem dX7_sponsorsNow_24 : decode cX7_sponsorsNow 24 = .ok (.ireturn, 1) := by decide +kernel
theorem dX7_sponsors_0 : decode cX7_sponsors 0 = .ok (.aload_n 0, 1) := by decide +kernel
theorem dX7_sponsors_1 : decode cX7_sponsors 1 = .ok (.iload_n 1, 1) := by decide +kernel
theorem dX7_sponsors_2 : decode cX7_sponsors 2 = .ok (.invokestatic 126, 3) := by decide +kernel
theorem dX7_sponsors_5 : decode cX7_sponsors 5 = .ok (.ifCond .eq 17, 3) := by decide +kernel
theorem dX7_sponsors_8 : decode cX7_sponsors 8 = .ok (.iload_n 2, 1) := by decide +kernel
theorem dX7_sponsors_9 : decode cX7_sponsors 9 = .ok (.iconst 0, 1) := by decide +kernel
theorem dX7_sponsors_10 : decode cX7_sponsors 10 = .ok (.bipush 23, 2) := by decide +kernel
theorem dX7_sponsors_12 : decode cX7_sponsors 12 = .ok (.invokestatic 41, 3) := by decide +kernel
theorem dX7_sponsors_15 : decode cX7_sponsors 15 = .ok (.ifCond .eq 7, 3) := by decide +kernel
theorem dX7_sponsors_18 : decode cX7_sponsors 18 = .ok (.iconst 0, 1) := by decide +kernel
theorem dX7_sponsors_19 : decode cX7_sponsors 19 = .ok (.goto 4, 3) := by decide +kernel
theorem dX7_sponsors_22 : decode cX7_sponsors 22 = .ok (.iconst 1, 1) := by decide +kernel
theorem dX7_sponsors_23 : decode cX7_sponsors 23 = .ok (.putfield 37, 3) := by decide +kernel
theorem dX7_sponsors_26 : decode cX7_sponsors 26 = .ok (.aload_n 0, 1) := by decide +kernel
theorem dX7_sponsors_27 : decode cX7_sponsors 27 = .ok (.getfield 37, 3) := by decide +kernel
theorem dX7_sponsors_30 : decode cX7_sponsors 30 = .ok (.ifCond .le 7, 3) := by decide +kernel
theorem dX7_sponsors_33 : decode cX7_sponsors 33 = .ok (.iconst 0, 1) := by decide +kernel
theorem dX7_sponsors_34 : decode cX7_sponsors 34 = .ok (.goto 10, 3) := by decide +kernel
theorem dX7_sponsors_37 : decode cX7_sponsors 37 = .ok (.aload_n 0, 1) := by decide +kernel
theorem dX7_sponsors_38 : decode cX7_sponsors 38 = .ok (.iload_n 1, 1) := by decide +kernel
theorem dX7_sponsors_39 : decode cX7_sponsors 39 = .ok (.iload_n 2, 1) := by decide +kernel
theorem dX7_sponsors_40 : decode cX7_sponsors 40 = .ok (.iload_n 3, 1) := by decide +kernel
theorem dX7_sponsors_41 : decode cX7_sponsors 41 = .ok (.invokevirtual 233, 3) := by decide +kernel
theorem dX7_sponsors_44 : decode cX7_sponsors 44 = .ok (.ireturn, 1) := by decide +kernel
theorem dX7_day_0 : decode cX7_day 0 = .ok (.aload_n 0, 1) := by decide +kernel
theorem dX7_day_1 : decode cX7_day 1 = .ok (.iload_n 1, 1) := by decide +kernel
theorem dX7_day_2 : decode cX7_day 2 = .ok (.invokestatic 126, 3) := by decide +kernel
theorem dX7_day_5 : decode cX7_day 5 = .ok (.ifCond .ne 7, 3) := by decide +kernel
theorem dX7_day_8 : decode cX7_day 8 = .ok (.iconst 1, 1) := by decide +kernel
theorem dX7_day_9 : decode cX7_day 9 = .ok (.goto 18, 3) := by decide +kernel
theorem dX7_day_12 : decode cX7_day 12 = .ok (.iload_n 2, 1) := by decide +kernel
theorem dX7_day_13 : decode cX7_day 13 = .ok (.iconst 0, 1) := by decide +kernel
theorem dX7_day_14 : decode cX7_day 14 = .ok (.bipush 7, 2) := by decide +kernel
theorem dX7_day_16 : decode cX7_day 16 = .ok (.invokestatic 41, 3) := by decide +kernel
theorem dX7_day_19 : decode cX7_day 19 = .ok (.ifCond .eq 7, 3) := by decide +kernel
theorem dX7_day_22 : decode cX7_day 22 = .ok (.iconst 0, 1) := by decide +kernel
theorem dX7_day_23 : decode cX7_day 23 = .ok (.goto 4, 3) := by decide +kernel
theorem dX7_day_26 : decode cX7_day 26 = .ok (.iconst 2, 1) := by decide +kernel
theorem dX7_day_27 : decode cX7_day 27 = .ok (.putfield 37, 3) := by decide +kernel
theorem dX7_day_30 : decode cX7_day 30 = .ok (.aload_n 0, 1) := by decide +kernel
theorem dX7_day_31 : decode cX7_day 31 = .ok (.getfield 37, 3) := by decide +kernel
theorem dX7_day_34 : decode cX7_day 34 = .ok (.ifCond .le 7, 3) := by decide +kernel
theorem dX7_day_37 : decode cX7_day 37 = .ok (.iconst 0, 1) := by decide +kernel
theorem dX7_day_38 : decode cX7_day 38 = .ok (.goto 9, 3) := by decide +kernel
theorem dX7_day_41 : decode cX7_day 41 = .ok (.aload_n 0, 1) := by decide +kernel
theorem dX7_day_42 : decode cX7_day 42 = .ok (.iload_n 1, 1) := by decide +kernel
theorem dX7_day_43 : decode cX7_day 43 = .ok (.iload_n 2, 1) := by decide +kernel
theorem dX7_day_44 : decode cX7_day 44 = .ok (.invokevirtual 100, 3) := by decide +kernel
theorem dX7_day_47 : decode cX7_day 47 = .ok (.ireturn, 1) := by decide +kernel
theorem dX7_ofKind_0 : decode cX7_ofKind 0 = .ok (.iconst 0, 1) := by decide +kernel
theorem dX7_ofKind_1 : decode cX7_ofKind 1 = .ok (.istore_n 2, 1) := by decide +kernel
theorem dX7_ofKind_2 : decode cX7_ofKind 2 = .ok (.iconst 0, 1) := by decide +kernel
theorem dX7_ofKind_3 : decode cX7_ofKind 3 = .ok (.istore_n 3, 1) := by decide +kernel
theorem dX7_ofKind_4 : decode cX7_ofKind 4 = .ok (.iload_n 3, 1) := by decide +kernel
theorem dX7_ofKind_5 : decode cX7_ofKind 5 = .ok (.aload_n 0, 1) := by decide +kernel
theorem dX7_ofKind_6 : decode cX7_ofKind 6 = .ok (.getfield 7, 3) := by decide +kernel
theorem dX7_ofKind_9 : decode cX7_ofKind 9 = .ok (.bipush 39, 2) := by decide +kernel
theorem dX7_ofKind_11 : decode cX7_ofKind 11 = .ok (.iaload, 1) := by decide +kernel
theorem dX7_ofKind_12 : decode cX7_ofKind 12 = .ok (.if_icmp .ge 27, 3) := by decide +kernel
theorem dX7_ofKind_15 : decode cX7_ofKind 15 = .ok (.iload_n 2, 1) := by decide +kernel
theorem dX7_ofKind_16 : decode cX7_ofKind 16 = .ok (.aload_n 0, 1) := by decide +kernel
theorem dX7_ofKind_17 : decode cX7_ofKind 17 = .ok (.iload_n 3, 1) := by decide +kernel
theorem dX7_ofKind_18 : decode cX7_ofKind 18 = .ok (.iconst 0, 1) := by decide +kernel
theorem dX7_ofKind_19 : decode cX7_ofKind 19 = .ok (.invokevirtual 45, 3) := by decide +kernel
theorem dX7_ofKind_22 : decode cX7_ofKind 22 = .ok (.iload_n 1, 1) := by decide +kernel
theorem dX7_ofKind_23 : decode cX7_ofKind 23 = .ok (.if_icmp .ne 7, 3) := by decide +kernel
theorem dX7_ofKind_26 : decode cX7_ofKind 26 = .ok (.iconst 1, 1) := by decide +kernel
theorem dX7_ofKind_27 : decode cX7_ofKind 27 = .ok (.goto 4, 3) := by decide +kernel
theorem dX7_ofKind_30 : decode cX7_ofKind 30 = .ok (.iconst 0, 1) := by decide +kernel
theorem dX7_ofKind_31 : decode cX7_ofKind 31 = .ok (.iadd, 1) := by decide +kernel
theorem dX7_ofKind_32 : decode cX7_ofKind 32 = .ok (.istore_n 2, 1) := by decide +kernel
theorem dX7_ofKind_33 : decode cX7_ofKind 33 = .ok (.iinc 3 1, 3) := by decide +kernel
theorem dX7_ofKind_36 : decode cX7_ofKind 36 = .ok (.goto (-32), 3) := by decide +kernel
theorem dX7_ofKind_39 : decode cX7_ofKind 39 = .ok (.iload_n 2, 1) := by decide +kernel
theorem dX7_ofKind_40 : decode cX7_ofKind 40 = .ok (.ireturn, 1) := by decide +kernel
theorem dX7_counted_0 : decode cX7_counted 0 = .ok (.iload_n 1, 1) := by decide +kernel
theorem dX7_counted_1 : decode cX7_counted 1 = .ok (.tableswitch 88 0 6 #[43, 51, 59, 65, 71, 77, 83], 43) := by decide +kernel
theorem dX7_counted_44 : decode cX7_counted 44 = .ok (.aload_n 0, 1) := by decide +kernel
theorem dX7_counted_45 : decode cX7_counted 45 = .ok (.getfield 7, 3) := by decide +kernel
theorem dX7_counted_48 : decode cX7_counted 48 = .ok (.bipush 38, 2) := by decide +kernel
theorem dX7_counted_50 : decode cX7_counted 50 = .ok (.iaload, 1) := by decide +kernel
theorem dX7_counted_51 : decode cX7_counted 51 = .ok (.ireturn, 1) := by decide +kernel
theorem dX7_counted_52 : decode cX7_counted 52 = .ok (.aload_n 0, 1) := by decide +kernel
theorem dX7_counted_53 : decode cX7_counted 53 = .ok (.getfield 7, 3) := by decide +kernel
theorem dX7_counted_56 : decode cX7_counted 56 = .ok (.bipush 39, 2) := by decide +kernel
theorem dX7_counted_58 : decode cX7_counted 58 = .ok (.iaload, 1) := by decide +kernel
theorem dX7_counted_59 : decode cX7_counted 59 = .ok (.ireturn, 1) := by decide +kernel
theorem dX7_counted_60 : decode cX7_counted 60 = .ok (.aload_n 0, 1) := by decide +kernel
theorem dX7_counted_61 : decode cX7_counted 61 = .ok (.iconst 0, 1) := by decide +kernel
theorem dX7_counted_62 : decode cX7_counted 62 = .ok (.invokevirtual 237, 3) := by decide +kernel
theorem dX7_counted_65 : decode cX7_counted 65 = .ok (.ireturn, 1) := by decide +kernel
theorem dX7_counted_66 : decode cX7_counted 66 = .ok (.aload_n 0, 1) := by decide +kernel
theorem dX7_counted_67 : decode cX7_counted 67 = .ok (.iconst 2, 1) := by decide +kernel
theorem dX7_counted_68 : decode cX7_counted 68 = .ok (.invokevirtual 237, 3) := by decide +kernel
theorem dX7_counted_71 : decode cX7_counted 71 = .ok (.ireturn, 1) := by decide +kernel
theorem dX7_counted_72 : decode cX7_counted 72 = .ok (.aload_n 0, 1) := by decide +kernel
theorem dX7_counted_73 : decode cX7_counted 73 = .ok (.iconst 3, 1) := by decide +kernel
theorem dX7_counted_74 : decode cX7_counted 74 = .ok (.invokevirtual 240, 3) := by decide +kernel
theorem dX7_counted_77 : decode cX7_counted 77 = .ok (.ireturn, 1) := by decide +kernel
theorem dX7_counted_78 : decode cX7_counted 78 = .ok (.aload_n 0, 1) := by decide +kernel
theorem dX7_counted_79 : decode cX7_counted 79 = .ok (.iconst 4, 1) := by decide +kernel
theorem dX7_counted_80 : decode cX7_counted 80 = .ok (.invokevirtual 240, 3) := by decide +kernel
theorem dX7_counted_83 : decode cX7_counted 83 = .ok (.ireturn, 1) := by decide +kernel
theorem dX7_counted_84 : decode cX7_counted 84 = .ok (.aload_n 0, 1) := by decide +kernel
theorem dX7_counted_85 : decode cX7_counted 85 = .ok (.getfield 106, 3) := by decide +kernel
theorem dX7_counted_88 : decode cX7_counted 88 = .ok (.ireturn, 1) := by decide +kernel
theorem dX7_counted_89 : decode cX7_counted 89 = .ok (.aload_n 0, 1) := by decide +kernel
theorem dX7_counted_90 : decode cX7_counted 90 = .ok (.iconst 2, 1) := by decide +kernel
theorem dX7_counted_91 : decode cX7_counted 91 = .ok (.invokevirtual 240, 3) := by decide +kernel
theorem dX7_counted_94 : decode cX7_counted 94 = .ok (.ireturn, 1) := by decide +kernel
theorem dX7_count_0 : decode cX7_count 0 = .ok (.aload_n 0, 1) := by decide +kernel
theorem dX7_count_1 : decode cX7_count 1 = .ok (.iload_n 1, 1) := by decide +kernel
theorem dX7_count_2 : decode cX7_count 2 = .ok (.iconst 0, 1) := by decide +kernel
theorem dX7_count_3 : decode cX7_count 3 = .ok (.bipush 7, 2) := by decide +kernel
theorem dX7_count_5 : decode cX7_count 5 = .ok (.invokestatic 41, 3) := by decide +kernel
theorem dX7_count_8 : decode cX7_count 8 = .ok (.ifCond .eq 7, 3) := by decide +kernel
theorem dX7_count_11 : decode cX7_count 11 = .ok (.iconst 0, 1) := by decide +kernel
theorem dX7_count_12 : decode cX7_count 12 = .ok (.goto 4, 3) := by decide +kernel
theorem dX7_count_15 : decode cX7_count 15 = .ok (.iconst 1, 1) := by decide +kernel
theorem dX7_count_16 : decode cX7_count 16 = .ok (.putfield 37, 3) := by decide +kernel
theorem dX7_count_19 : decode cX7_count 19 = .ok (.aload_n 0, 1) := by decide +kernel
theorem dX7_count_20 : decode cX7_count 20 = .ok (.getfield 37, 3) := by decide +kernel
theorem dX7_count_23 : decode cX7_count 23 = .ok (.ifCond .le 7, 3) := by decide +kernel
theorem dX7_count_26 : decode cX7_count 26 = .ok (.iconst 0, 1) := by decide +kernel
theorem dX7_count_27 : decode cX7_count 27 = .ok (.goto 8, 3) := by decide +kernel
theorem dX7_count_30 : decode cX7_count 30 = .ok (.aload_n 0, 1) := by decide +kernel
theorem dX7_count_31 : decode cX7_count 31 = .ok (.iload_n 1, 1) := by decide +kernel
theorem dX7_count_32 : decode cX7_count 32 = .ok (.invokevirtual 243, 3) := by decide +kernel
theorem dX7_count_35 : decode cX7_count 35 = .ok (.ireturn, 1) := by decide +kernel
theorem dX7_setting_0 : decode cX7_setting 0 = .ok (.aload_n 0, 1) := by decide +kernel
theorem dX7_setting_1 : decode cX7_setting 1 = .ok (.iload_n 1, 1) := by decide +kernel
theorem dX7_setting_2 : decode cX7_setting 2 = .ok (.invokestatic 112, 3) := by decide +kernel
theorem dX7_setting_5 : decode cX7_setting 5 = .ok (.ifCond .eq 7, 3) := by decide +kernel
theorem dX7_setting_8 : decode cX7_setting 8 = .ok (.iconst 0, 1) := by decide +kernel
theorem dX7_setting_9 : decode cX7_setting 9 = .ok (.goto 4, 3) := by decide +kernel
theorem dX7_setting_12 : decode cX7_setting 12 = .ok (.iconst 1, 1) := by decide +kernel
theorem dX7_setting_13 : decode cX7_setting 13 = .ok (.putfield 37, 3) := by decide +kernel
theorem dX7_setting_16 : decode cX7_setting 16 = .ok (.aload_n 0, 1) := by decide +kernel
theorem dX7_setting_17 : decode cX7_setting 17 = .ok (.getfield 37, 3) := by decide +kernel
theorem dX7_setting_20 : decode cX7_setting 20 = .ok (.ifCond .le 7, 3) := by decide +kernel
theorem dX7_setting_23 : decode cX7_setting 23 = .ok (.iconst 0, 1) := by decide +kernel
theorem dX7_setting_24 : decode cX7_setting 24 = .ok (.goto 9, 3) := by decide +kernel
theorem dX7_setting_27 : decode cX7_setting 27 = .ok (.aload_n 0, 1) := by decide +kernel
theorem dX7_setting_28 : decode cX7_setting 28 = .ok (.getfield 7, 3) := by decide +kernel
theorem dX7_setting_31 : decode cX7_setting 31 = .ok (.iload_n 1, 1) := by decide +kernel
theorem dX7_setting_32 : decode cX7_setting 32 = .ok (.iaload, 1) := by decide +kernel
theorem dX7_setting_33 : decode cX7_setting 33 = .ok (.ireturn, 1) := by decide +kernel
theorem dX7_whyTape_0 : decode cX7_whyTape 0 = .ok (.aload_n 0, 1) := by decide +kernel
theorem dX7_whyTape_1 : decode cX7_whyTape 1 = .ok (.iconst 1, 1) := by decide +kernel
theorem dX7_whyTape_2 : decode cX7_whyTape 2 = .ok (.iload_n 1, 1) := by decide +kernel
theorem dX7_whyTape_3 : decode cX7_whyTape 3 = .ok (.iload_n 2, 1) := by decide +kernel
theorem dX7_whyTape_4 : decode cX7_whyTape 4 = .ok (.iload_n 3, 1) := by decide +kernel
theorem dX7_whyTape_5 : decode cX7_whyTape 5 = .ok (.iload 4, 2) := by decide +kernel
theorem dX7_whyTape_7 : decode cX7_whyTape 7 = .ok (.iconst 0, 1) := by decide +kernel
theorem dX7_whyTape_8 : decode cX7_whyTape 8 = .ok (.invokevirtual 49, 3) := by decide +kernel
theorem dX7_whyTape_11 : decode cX7_whyTape 11 = .ok (.aload_n 0, 1) := by decide +kernel
theorem dX7_whyTape_12 : decode cX7_whyTape 12 = .ok (.invokevirtual 135, 3) := by decide +kernel
theorem dX7_whyTape_15 : decode cX7_whyTape 15 = .ok (.ireturn, 1) := by decide +kernel
theorem dX7_why_0 : decode cX7_why 0 = .ok (.aload_n 0, 1) := by decide +kernel
theorem dX7_why_1 : decode cX7_why 1 = .ok (.iload_n 1, 1) := by decide +kernel
theorem dX7_why_2 : decode cX7_why 2 = .ok (.iload_n 2, 1) := by decide +kernel
theorem dX7_why_3 : decode cX7_why 3 = .ok (.iload_n 3, 1) := by decide +kernel
theorem dX7_why_4 : decode cX7_why 4 = .ok (.iload 4, 2) := by decide +kernel
theorem dX7_why_6 : decode cX7_why 6 = .ok (.iconst 0, 1) := by decide +kernel
theorem dX7_why_7 : decode cX7_why 7 = .ok (.invokestatic 145, 3) := by decide +kernel
theorem dX7_why_10 : decode cX7_why 10 = .ok (.ifCond .eq 7, 3) := by decide +kernel
theorem dX7_why_13 : decode cX7_why 13 = .ok (.iconst 0, 1) := by decide +kernel
theorem dX7_why_14 : decode cX7_why 14 = .ok (.goto 4, 3) := by decide +kernel
theorem dX7_why_17 : decode cX7_why 17 = .ok (.iconst 1, 1) := by decide +kernel
theorem dX7_why_18 : decode cX7_why 18 = .ok (.putfield 37, 3) := by decide +kernel
theorem dX7_why_21 : decode cX7_why 21 = .ok (.aload_n 0, 1) := by decide +kernel
theorem dX7_why_22 : decode cX7_why 22 = .ok (.getfield 37, 3) := by decide +kernel
theorem dX7_why_25 : decode cX7_why 25 = .ok (.ifCond .le 7, 3) := by decide +kernel
theorem dX7_why_28 : decode cX7_why 28 = .ok (.iconst 0, 1) := by decide +kernel
theorem dX7_why_29 : decode cX7_why 29 = .ok (.goto 12, 3) := by decide +kernel
theorem dX7_why_32 : decode cX7_why 32 = .ok (.aload_n 0, 1) := by decide +kernel
theorem dX7_why_33 : decode cX7_why 33 = .ok (.iload_n 1, 1) := by decide +kernel
theorem dX7_why_34 : decode cX7_why 34 = .ok (.iload_n 2, 1) := by decide +kernel
theorem dX7_why_35 : decode cX7_why 35 = .ok (.iload_n 3, 1) := by decide +kernel
theorem dX7_why_36 : decode cX7_why 36 = .ok (.iload 4, 2) := by decide +kernel
theorem dX7_why_38 : decode cX7_why 38 = .ok (.invokevirtual 246, 3) := by decide +kernel
theorem dX7_why_41 : decode cX7_why 41 = .ok (.ireturn, 1) := by decide +kernel
theorem dX7_firstOf_0 : decode cX7_firstOf 0 = .ok (.iconst 0, 1) := by decide +kernel
theorem dX7_firstOf_1 : decode cX7_firstOf 1 = .ok (.istore 4, 2) := by decide +kernel
theorem dX7_firstOf_3 : decode cX7_firstOf 3 = .ok (.iload 4, 2) := by decide +kernel
theorem dX7_firstOf_5 : decode cX7_firstOf 5 = .ok (.sipush 1440, 3) := by decide +kernel
theorem dX7_firstOf_8 : decode cX7_firstOf 8 = .ok (.if_icmp .ge 21, 3) := by decide +kernel
theorem dX7_firstOf_11 : decode cX7_firstOf 11 = .ok (.aload_n 0, 1) := by decide +kernel
theorem dX7_firstOf_12 : decode cX7_firstOf 12 = .ok (.iload_n 1, 1) := by decide +kernel
theorem dX7_firstOf_13 : decode cX7_firstOf 13 = .ok (.iload_n 2, 1) := by decide +kernel
theorem dX7_firstOf_14 : decode cX7_firstOf 14 = .ok (.iload 4, 2) := by decide +kernel
theorem dX7_firstOf_16 : decode cX7_firstOf 16 = .ok (.iload_n 3, 1) := by decide +kernel
theorem dX7_firstOf_17 : decode cX7_firstOf 17 = .ok (.invokevirtual 246, 3) := by decide +kernel
theorem dX7_firstOf_20 : decode cX7_firstOf 20 = .ok (.ifCond .le 9, 3) := by decide +kernel
theorem dX7_firstOf_23 : decode cX7_firstOf 23 = .ok (.iinc 4 5, 3) := by decide +kernel
theorem dX7_firstOf_26 : decode cX7_firstOf 26 = .ok (.goto (-23), 3) := by decide +kernel
theorem dX7_firstOf_29 : decode cX7_firstOf 29 = .ok (.iload 4, 2) := by decide +kernel
theorem dX7_firstOf_31 : decode cX7_firstOf 31 = .ok (.sipush 1440, 3) := by decide +kernel
theorem dX7_firstOf_34 : decode cX7_firstOf 34 = .ok (.if_icmp .ge 8, 3) := by decide +kernel
theorem dX7_firstOf_37 : decode cX7_firstOf 37 = .ok (.iload 4, 2) := by decide +kernel
theorem dX7_firstOf_39 : decode cX7_firstOf 39 = .ok (.goto 4, 3) := by decide +kernel
theorem dX7_firstOf_42 : decode cX7_firstOf 42 = .ok (.iconst (-1), 1) := by decide +kernel
theorem dX7_firstOf_43 : decode cX7_firstOf 43 = .ok (.ireturn, 1) := by decide +kernel
theorem dX7_firstTime_0 : decode cX7_firstTime 0 = .ok (.aload_n 0, 1) := by decide +kernel
theorem dX7_firstTime_1 : decode cX7_firstTime 1 = .ok (.iload_n 1, 1) := by decide +kernel
theorem dX7_firstTime_2 : decode cX7_firstTime 2 = .ok (.iload_n 2, 1) := by decide +kernel
theorem dX7_firstTime_3 : decode cX7_firstTime 3 = .ok (.iconst 0, 1) := by decide +kernel
theorem dX7_firstTime_4 : decode cX7_firstTime 4 = .ok (.iload_n 3, 1) := by decide +kernel
theorem dX7_firstTime_5 : decode cX7_firstTime 5 = .ok (.iconst 0, 1) := by decide +kernel
theorem dX7_firstTime_6 : decode cX7_firstTime 6 = .ok (.invokestatic 145, 3) := by decide +kernel
theorem dX7_firstTime_9 : decode cX7_firstTime 9 = .ok (.ifCond .eq 7, 3) := by decide +kernel
theorem dX7_firstTime_12 : decode cX7_firstTime 12 = .ok (.iconst 0, 1) := by decide +kernel
theorem dX7_firstTime_13 : decode cX7_firstTime 13 = .ok (.goto 4, 3) := by decide +kernel
theorem dX7_firstTime_16 : decode cX7_firstTime 16 = .ok (.iconst 1, 1) := by decide +kernel
theorem dX7_firstTime_17 : decode cX7_firstTime 17 = .ok (.putfield 37, 3) := by decide +kernel
theorem dX7_firstTime_20 : decode cX7_firstTime 20 = .ok (.aload_n 0, 1) := by decide +kernel
theorem dX7_firstTime_21 : decode cX7_firstTime 21 = .ok (.getfield 37, 3) := by decide +kernel
theorem dX7_firstTime_24 : decode cX7_firstTime 24 = .ok (.ifCond .le 7, 3) := by decide +kernel
theorem dX7_firstTime_27 : decode cX7_firstTime 27 = .ok (.iconst 0, 1) := by decide +kernel
theorem dX7_firstTime_28 : decode cX7_firstTime 28 = .ok (.goto 10, 3) := by decide +kernel
theorem dX7_firstTime_31 : decode cX7_firstTime 31 = .ok (.aload_n 0, 1) := by decide +kernel
theorem dX7_firstTime_32 : decode cX7_firstTime 32 = .ok (.iload_n 1, 1) := by decide +kernel
theorem dX7_firstTime_33 : decode cX7_firstTime 33 = .ok (.iload_n 2, 1) := by decide +kernel
theorem dX7_firstTime_34 : decode cX7_firstTime 34 = .ok (.iload_n 3, 1) := by decide +kernel
theorem dX7_firstTime_35 : decode cX7_firstTime 35 = .ok (.invokevirtual 250, 3) := by decide +kernel
theorem dX7_firstTime_38 : decode cX7_firstTime 38 = .ok (.ireturn, 1) := by decide +kernel
theorem dX7_repeatOf_0 : decode cX7_repeatOf 0 = .ok (.iconst 0, 1) := by decide +kernel
theorem dX7_repeatOf_1 : decode cX7_repeatOf 1 = .ok (.istore_n 2, 1) := by decide +kernel
theorem dX7_repeatOf_2 : decode cX7_repeatOf 2 = .ok (.iload_n 2, 1) := by decide +kernel
theorem dX7_repeatOf_3 : decode cX7_repeatOf 3 = .ok (.sipush 10080, 3) := by decide +kernel
theorem dX7_repeatOf_6 : decode cX7_repeatOf 6 = .ok (.if_icmp .ge 33, 3) := by decide +kernel
theorem dX7_repeatOf_9 : decode cX7_repeatOf 9 = .ok (.aload_n 0, 1) := by decide +kernel
theorem dX7_repeatOf_10 : decode cX7_repeatOf 10 = .ok (.iload_n 1, 1) := by decide +kernel
theorem dX7_repeatOf_11 : decode cX7_repeatOf 11 = .ok (.iload_n 2, 1) := by decide +kernel
theorem dX7_repeatOf_12 : decode cX7_repeatOf 12 = .ok (.sipush 1440, 3) := by decide +kernel
theorem dX7_repeatOf_15 : decode cX7_repeatOf 15 = .ok (.idiv, 1) := by decide +kernel
theorem dX7_repeatOf_16 : decode cX7_repeatOf 16 = .ok (.iload_n 2, 1) := by decide +kernel
theorem dX7_repeatOf_17 : decode cX7_repeatOf 17 = .ok (.sipush 1440, 3) := by decide +kernel
theorem dX7_repeatOf_20 : decode cX7_repeatOf 20 = .ok (.irem, 1) := by decide +kernel
theorem dX7_repeatOf_21 : decode cX7_repeatOf 21 = .ok (.invokevirtual 155, 3) := by decide +kernel
theorem dX7_repeatOf_24 : decode cX7_repeatOf 24 = .ok (.aload_n 0, 1) := by decide +kernel
theorem dX7_repeatOf_25 : decode cX7_repeatOf 25 = .ok (.invokevirtual 135, 3) := by decide +kernel
theorem dX7_repeatOf_28 : decode cX7_repeatOf 28 = .ok (.ifCond .ne 5, 3) := by decide +kernel
theorem dX7_repeatOf_31 : decode cX7_repeatOf 31 = .ok (.iload_n 2, 1) := by decide +kernel
theorem dX7_repeatOf_32 : decode cX7_repeatOf 32 = .ok (.ireturn, 1) := by decide +kernel
theorem dX7_repeatOf_33 : decode cX7_repeatOf 33 = .ok (.iinc 2 5, 3) := by decide +kernel
theorem dX7_repeatOf_36 : decode cX7_repeatOf 36 = .ok (.goto (-34), 3) := by decide +kernel
theorem dX7_repeatOf_39 : decode cX7_repeatOf 39 = .ok (.iconst (-1), 1) := by decide +kernel
theorem dX7_repeatOf_40 : decode cX7_repeatOf 40 = .ok (.ireturn, 1) := by decide +kernel
theorem dX7_firstRepeat_0 : decode cX7_firstRepeat 0 = .ok (.aload_n 0, 1) := by decide +kernel
theorem dX7_firstRepeat_1 : decode cX7_firstRepeat 1 = .ok (.aload_n 0, 1) := by decide +kernel
theorem dX7_firstRepeat_2 : decode cX7_firstRepeat 2 = .ok (.iload_n 1, 1) := by decide +kernel
theorem dX7_firstRepeat_3 : decode cX7_firstRepeat 3 = .ok (.invokevirtual 152, 3) := by decide +kernel
theorem dX7_firstRepeat_6 : decode cX7_firstRepeat 6 = .ok (.ifCond .eq 7, 3) := by decide +kernel
theorem dX7_firstRepeat_9 : decode cX7_firstRepeat 9 = .ok (.iconst 0, 1) := by decide +kernel
theorem dX7_firstRepeat_10 : decode cX7_firstRepeat 10 = .ok (.goto 4, 3) := by decide +kernel
theorem dX7_firstRepeat_13 : decode cX7_firstRepeat 13 = .ok (.iconst 1, 1) := by decide +kernel
theorem dX7_firstRepeat_14 : decode cX7_firstRepeat 14 = .ok (.putfield 37, 3) := by decide +kernel
theorem dX7_firstRepeat_17 : decode cX7_firstRepeat 17 = .ok (.aload_n 0, 1) := by decide +kernel
theorem dX7_firstRepeat_18 : decode cX7_firstRepeat 18 = .ok (.getfield 37, 3) := by decide +kernel
theorem dX7_firstRepeat_21 : decode cX7_firstRepeat 21 = .ok (.ifCond .le 7, 3) := by decide +kernel
theorem dX7_firstRepeat_24 : decode cX7_firstRepeat 24 = .ok (.iconst 0, 1) := by decide +kernel
theorem dX7_firstRepeat_25 : decode cX7_firstRepeat 25 = .ok (.goto 8, 3) := by decide +kernel
theorem dX7_firstRepeat_28 : decode cX7_firstRepeat 28 = .ok (.aload_n 0, 1) := by decide +kernel
theorem dX7_firstRepeat_29 : decode cX7_firstRepeat 29 = .ok (.iload_n 1, 1) := by decide +kernel
theorem dX7_firstRepeat_30 : decode cX7_firstRepeat 30 = .ok (.invokevirtual 253, 3) := by decide +kernel
theorem dX7_firstRepeat_33 : decode cX7_firstRepeat 33 = .ok (.ireturn, 1) := by decide +kernel
theorem dX7_dayWith_0 : decode cX7_dayWith 0 = .ok (.aload_n 0, 1) := by decide +kernel
theorem dX7_dayWith_1 : decode cX7_dayWith 1 = .ok (.iload_n 1, 1) := by decide +kernel
theorem dX7_dayWith_2 : decode cX7_dayWith 2 = .ok (.bipush 6, 2) := by decide +kernel
theorem dX7_dayWith_4 : decode cX7_dayWith 4 = .ok (.invokevirtual 45, 3) := by decide +kernel
theorem dX7_dayWith_7 : decode cX7_dayWith 7 = .ok (.istore 4, 2) := by decide +kernel
theorem dX7_dayWith_9 : decode cX7_dayWith 9 = .ok (.aload_n 0, 1) := by decide +kernel
theorem dX7_dayWith_10 : decode cX7_dayWith 10 = .ok (.iload_n 1, 1) := by decide +kernel
theorem dX7_dayWith_11 : decode cX7_dayWith 11 = .ok (.bipush 6, 2) := by decide +kernel
theorem dX7_dayWith_13 : decode cX7_dayWith 13 = .ok (.iload_n 2, 1) := by decide +kernel
theorem dX7_dayWith_14 : decode cX7_dayWith 14 = .ok (.invokevirtual 80, 3) := by decide +kernel
theorem dX7_dayWith_17 : decode cX7_dayWith 17 = .ok (.aload_n 0, 1) := by decide +kernel
theorem dX7_dayWith_18 : decode cX7_dayWith 18 = .ok (.aload_n 0, 1) := by decide +kernel
theorem dX7_dayWith_19 : decode cX7_dayWith 19 = .ok (.iload_n 1, 1) := by decide +kernel
theorem dX7_dayWith_20 : decode cX7_dayWith 20 = .ok (.iconst 2, 1) := by decide +kernel
theorem dX7_dayWith_21 : decode cX7_dayWith 21 = .ok (.invokevirtual 45, 3) := by decide +kernel
theorem dX7_dayWith_24 : decode cX7_dayWith 24 = .ok (.iload_n 3, 1) := by decide +kernel
theorem dX7_dayWith_25 : decode cX7_dayWith 25 = .ok (.invokevirtual 100, 3) := by decide +kernel
theorem dX7_dayWith_28 : decode cX7_dayWith 28 = .ok (.istore 5, 2) := by decide +kernel
theorem dX7_dayWith_30 : decode cX7_dayWith 30 = .ok (.aload_n 0, 1) := by decide +kernel
theorem dX7_dayWith_31 : decode cX7_dayWith 31 = .ok (.iload_n 1, 1) := by decide +kernel
theorem dX7_dayWith_32 : decode cX7_dayWith 32 = .ok (.bipush 6, 2) := by decide +kernel
theorem dX7_dayWith_34 : decode cX7_dayWith 34 = .ok (.iload 4, 2) := by decide +kernel
theorem dX7_dayWith_36 : decode cX7_dayWith 36 = .ok (.invokevirtual 80, 3) := by decide +kernel
theorem dX7_dayWith_39 : decode cX7_dayWith 39 = .ok (.iload 5, 2) := by decide +kernel
theorem dX7_dayWith_41 : decode cX7_dayWith 41 = .ok (.ireturn, 1) := by decide +kernel
theorem dX7_ifOverrun_0 : decode cX7_ifOverrun 0 = .ok (.aload_n 0, 1) := by decide +kernel
theorem dX7_ifOverrun_1 : decode cX7_ifOverrun 1 = .ok (.aload_n 0, 1) := by decide +kernel
theorem dX7_ifOverrun_2 : decode cX7_ifOverrun 2 = .ok (.iload_n 1, 1) := by decide +kernel
theorem dX7_ifOverrun_3 : decode cX7_ifOverrun 3 = .ok (.invokevirtual 152, 3) := by decide +kernel
theorem dX7_ifOverrun_6 : decode cX7_ifOverrun 6 = .ok (.ifCond .ne 7, 3) := by decide +kernel
theorem dX7_ifOverrun_9 : decode cX7_ifOverrun 9 = .ok (.iconst 1, 1) := by decide +kernel
theorem dX7_ifOverrun_10 : decode cX7_ifOverrun 10 = .ok (.goto 37, 3) := by decide +kernel
theorem dX7_ifOverrun_13 : decode cX7_ifOverrun 13 = .ok (.iload_n 2, 1) := by decide +kernel
theorem dX7_ifOverrun_14 : decode cX7_ifOverrun 14 = .ok (.invokestatic 161, 3) := by decide +kernel
theorem dX7_ifOverrun_17 : decode cX7_ifOverrun 17 = .ok (.ifCond .eq 13, 3) := by decide +kernel
theorem dX7_ifOverrun_20 : decode cX7_ifOverrun 20 = .ok (.iload_n 3, 1) := by decide +kernel
theorem dX7_ifOverrun_21 : decode cX7_ifOverrun 21 = .ok (.iconst 0, 1) := by decide +kernel
theorem dX7_ifOverrun_22 : decode cX7_ifOverrun 22 = .ok (.bipush 7, 2) := by decide +kernel
theorem dX7_ifOverrun_24 : decode cX7_ifOverrun 24 = .ok (.invokestatic 41, 3) := by decide +kernel
theorem dX7_ifOverrun_27 : decode cX7_ifOverrun 27 = .ok (.ifCond .ne 7, 3) := by decide +kernel
theorem dX7_ifOverrun_30 : decode cX7_ifOverrun 30 = .ok (.iconst 2, 1) := by decide +kernel
theorem dX7_ifOverrun_31 : decode cX7_ifOverrun 31 = .ok (.goto 16, 3) := by decide +kernel
theorem dX7_ifOverrun_34 : decode cX7_ifOverrun 34 = .ok (.aload_n 0, 1) := by decide +kernel
theorem dX7_ifOverrun_35 : decode cX7_ifOverrun 35 = .ok (.iload_n 1, 1) := by decide +kernel
theorem dX7_ifOverrun_36 : decode cX7_ifOverrun 36 = .ok (.invokevirtual 164, 3) := by decide +kernel
theorem dX7_ifOverrun_39 : decode cX7_ifOverrun 39 = .ok (.ifCond .eq 7, 3) := by decide +kernel
theorem dX7_ifOverrun_42 : decode cX7_ifOverrun 42 = .ok (.iconst 0, 1) := by decide +kernel
theorem dX7_ifOverrun_43 : decode cX7_ifOverrun 43 = .ok (.goto 4, 3) := by decide +kernel
theorem dX7_ifOverrun_46 : decode cX7_ifOverrun 46 = .ok (.iconst 3, 1) := by decide +kernel
theorem dX7_ifOverrun_47 : decode cX7_ifOverrun 47 = .ok (.putfield 37, 3) := by decide +kernel
theorem dX7_ifOverrun_50 : decode cX7_ifOverrun 50 = .ok (.aload_n 0, 1) := by decide +kernel
theorem dX7_ifOverrun_51 : decode cX7_ifOverrun 51 = .ok (.getfield 37, 3) := by decide +kernel
theorem dX7_ifOverrun_54 : decode cX7_ifOverrun 54 = .ok (.ifCond .le 7, 3) := by decide +kernel
theorem dX7_ifOverrun_57 : decode cX7_ifOverrun 57 = .ok (.iconst 0, 1) := by decide +kernel
theorem dX7_ifOverrun_58 : decode cX7_ifOverrun 58 = .ok (.goto 10, 3) := by decide +kernel
theorem dX7_ifOverrun_61 : decode cX7_ifOverrun 61 = .ok (.aload_n 0, 1) := by decide +kernel
theorem dX7_ifOverrun_62 : decode cX7_ifOverrun 62 = .ok (.iload_n 1, 1) := by decide +kernel
theorem dX7_ifOverrun_63 : decode cX7_ifOverrun 63 = .ok (.iload_n 2, 1) := by decide +kernel
theorem dX7_ifOverrun_64 : decode cX7_ifOverrun 64 = .ok (.iload_n 3, 1) := by decide +kernel
theorem dX7_ifOverrun_65 : decode cX7_ifOverrun 65 = .ok (.invokevirtual 256, 3) := by decide +kernel
theorem dX7_ifOverrun_68 : decode cX7_ifOverrun 68 = .ok (.ireturn, 1) := by decide +kernel
theorem dX7_mostOverrun_0 : decode cX7_mostOverrun 0 = .ok (.bipush 120, 2) := by decide +kernel
theorem dX7_mostOverrun_2 : decode cX7_mostOverrun 2 = .ok (.istore_n 2, 1) := by decide +kernel
theorem dX7_mostOverrun_3 : decode cX7_mostOverrun 3 = .ok (.iload_n 2, 1) := by decide +kernel
theorem dX7_mostOverrun_4 : decode cX7_mostOverrun 4 = .ok (.bipush (-60), 2) := by decide +kernel
theorem dX7_mostOverrun_6 : decode cX7_mostOverrun 6 = .ok (.if_icmp .lt 39, 3) := by decide +kernel
theorem dX7_mostOverrun_9 : decode cX7_mostOverrun 9 = .ok (.aload_n 0, 1) := by decide +kernel
theorem dX7_mostOverrun_10 : decode cX7_mostOverrun 10 = .ok (.iload_n 1, 1) := by decide +kernel
theorem dX7_mostOverrun_11 : decode cX7_mostOverrun 11 = .ok (.iload_n 2, 1) := by decide +kernel
theorem dX7_mostOverrun_12 : decode cX7_mostOverrun 12 = .ok (.iconst 4, 1) := by decide +kernel
theorem dX7_mostOverrun_13 : decode cX7_mostOverrun 13 = .ok (.invokevirtual 256, 3) := by decide +kernel
theorem dX7_mostOverrun_16 : decode cX7_mostOverrun 16 = .ok (.istore_n 3, 1) := by decide +kernel
theorem dX7_mostOverrun_17 : decode cX7_mostOverrun 17 = .ok (.iload_n 3, 1) := by decide +kernel
theorem dX7_mostOverrun_18 : decode cX7_mostOverrun 18 = .ok (.aload_n 0, 1) := by decide +kernel
theorem dX7_mostOverrun_19 : decode cX7_mostOverrun 19 = .ok (.getfield 31, 3) := by decide +kernel
theorem dX7_mostOverrun_22 : decode cX7_mostOverrun 22 = .ok (.iload_n 1, 1) := by decide +kernel
theorem dX7_mostOverrun_23 : decode cX7_mostOverrun 23 = .ok (.iaload, 1) := by decide +kernel
theorem dX7_mostOverrun_24 : decode cX7_mostOverrun 24 = .ok (.iconst 2, 1) := by decide +kernel
theorem dX7_mostOverrun_25 : decode cX7_mostOverrun 25 = .ok (.if_icmp .ne 7, 3) := by decide +kernel
theorem dX7_mostOverrun_28 : decode cX7_mostOverrun 28 = .ok (.iconst 1, 1) := by decide +kernel
theorem dX7_mostOverrun_29 : decode cX7_mostOverrun 29 = .ok (.goto 4, 3) := by decide +kernel
theorem dX7_mostOverrun_32 : decode cX7_mostOverrun 32 = .ok (.iconst 0, 1) := by decide +kernel
theorem dX7_mostOverrun_33 : decode cX7_mostOverrun 33 = .ok (.isub, 1) := by decide +kernel
theorem dX7_mostOverrun_34 : decode cX7_mostOverrun 34 = .ok (.ifCond .ne 5, 3) := by decide +kernel
theorem dX7_mostOverrun_37 : decode cX7_mostOverrun 37 = .ok (.iload_n 2, 1) := by decide +kernel
theorem dX7_mostOverrun_38 : decode cX7_mostOverrun 38 = .ok (.ireturn, 1) := by decide +kernel
theorem dX7_mostOverrun_39 : decode cX7_mostOverrun 39 = .ok (.iinc 2 (-1), 3) := by decide +kernel
theorem dX7_mostOverrun_42 : decode cX7_mostOverrun 42 = .ok (.goto (-39), 3) := by decide +kernel
theorem dX7_mostOverrun_45 : decode cX7_mostOverrun 45 = .ok (.bipush (-101), 2) := by decide +kernel
theorem dX7_mostOverrun_47 : decode cX7_mostOverrun 47 = .ok (.ireturn, 1) := by decide +kernel
theorem dX7_greatestOverrun_0 : decode cX7_greatestOverrun 0 = .ok (.aload_n 0, 1) := by decide +kernel
theorem dX7_greatestOverrun_1 : decode cX7_greatestOverrun 1 = .ok (.aload_n 0, 1) := by decide +kernel
theorem dX7_greatestOverrun_2 : decode cX7_greatestOverrun 2 = .ok (.iload_n 1, 1) := by decide +kernel
theorem dX7_greatestOverrun_3 : decode cX7_greatestOverrun 3 = .ok (.invokevirtual 152, 3) := by decide +kernel
theorem dX7_greatestOverrun_6 : decode cX7_greatestOverrun 6 = .ok (.ifCond .ne 7, 3) := by decide +kernel
theorem dX7_greatestOverrun_9 : decode cX7_greatestOverrun 9 = .ok (.iconst 1, 1) := by decide +kernel
theorem dX7_greatestOverrun_10 : decode cX7_greatestOverrun 10 = .ok (.goto 16, 3) := by decide +kernel
theorem dX7_greatestOverrun_13 : decode cX7_greatestOverrun 13 = .ok (.aload_n 0, 1) := by decide +kernel
theorem dX7_greatestOverrun_14 : decode cX7_greatestOverrun 14 = .ok (.iload_n 1, 1) := by decide +kernel
theorem dX7_greatestOverrun_15 : decode cX7_greatestOverrun 15 = .ok (.invokevirtual 164, 3) := by decide +kernel
theorem dX7_greatestOverrun_18 : decode cX7_greatestOverrun 18 = .ok (.ifCond .eq 7, 3) := by decide +kernel
theorem dX7_greatestOverrun_21 : decode cX7_greatestOverrun 21 = .ok (.iconst 0, 1) := by decide +kernel
theorem dX7_greatestOverrun_22 : decode cX7_greatestOverrun 22 = .ok (.goto 4, 3) := by decide +kernel
theorem dX7_greatestOverrun_25 : decode cX7_greatestOverrun 25 = .ok (.iconst 2, 1) := by decide +kernel
theorem dX7_greatestOverrun_26 : decode cX7_greatestOverrun 26 = .ok (.putfield 37, 3) := by decide +kernel
theorem dX7_greatestOverrun_29 : decode cX7_greatestOverrun 29 = .ok (.aload_n 0, 1) := by decide +kernel
theorem dX7_greatestOverrun_30 : decode cX7_greatestOverrun 30 = .ok (.getfield 37, 3) := by decide +kernel
theorem dX7_greatestOverrun_33 : decode cX7_greatestOverrun 33 = .ok (.ifCond .le 7, 3) := by decide +kernel
theorem dX7_greatestOverrun_36 : decode cX7_greatestOverrun 36 = .ok (.iconst 0, 1) := by decide +kernel
theorem dX7_greatestOverrun_37 : decode cX7_greatestOverrun 37 = .ok (.goto 8, 3) := by decide +kernel
theorem dX7_greatestOverrun_40 : decode cX7_greatestOverrun 40 = .ok (.aload_n 0, 1) := by decide +kernel
theorem dX7_greatestOverrun_41 : decode cX7_greatestOverrun 41 = .ok (.iload_n 1, 1) := by decide +kernel
theorem dX7_greatestOverrun_42 : decode cX7_greatestOverrun 42 = .ok (.invokevirtual 259, 3) := by decide +kernel
theorem dX7_greatestOverrun_45 : decode cX7_greatestOverrun 45 = .ok (.ireturn, 1) := by decide +kernel
theorem dX7_shareNow_0 : decode cX7_shareNow 0 = .ok (.dconst 1, 1) := by decide +kernel
theorem dX7_shareNow_1 : decode cX7_shareNow 1 = .ok (.aload_n 0, 1) := by decide +kernel
theorem dX7_shareNow_2 : decode cX7_shareNow 2 = .ok (.iconst 2, 1) := by decide +kernel
theorem dX7_shareNow_3 : decode cX7_shareNow 3 = .ok (.invokevirtual 240, 3) := by decide +kernel
theorem dX7_shareNow_6 : decode cX7_shareNow 6 = .ok (.i2d, 1) := by decide +kernel
theorem dX7_shareNow_7 : decode cX7_shareNow 7 = .ok (.dmul, 1) := by decide +kernel
theorem dX7_shareNow_8 : decode cX7_shareNow 8 = .ok (.bipush 7, 2) := by decide +kernel
theorem dX7_shareNow_10 : decode cX7_shareNow 10 = .ok (.aload_n 0, 1) := by decide +kernel
theorem dX7_shareNow_11 : decode cX7_shareNow 11 = .ok (.getfield 7, 3) := by decide +kernel
theorem dX7_shareNow_14 : decode cX7_shareNow 14 = .ok (.iconst 1, 1) := by decide +kernel
theorem dX7_shareNow_15 : decode cX7_shareNow 15 = .ok (.iaload, 1) := by decide +kernel
theorem dX7_shareNow_16 : decode cX7_shareNow 16 = .ok (.aload_n 0, 1) := by decide +kernel
theorem dX7_shareNow_17 : decode cX7_shareNow 17 = .ok (.getfield 7, 3) := by decide +kernel
theorem dX7_shareNow_20 : decode cX7_shareNow 20 = .ok (.iconst 0, 1) := by decide +kernel
theorem dX7_shareNow_21 : decode cX7_shareNow 21 = .ok (.iaload, 1) := by decide +kernel
theorem dX7_shareNow_22 : decode cX7_shareNow 22 = .ok (.isub, 1) := by decide +kernel
theorem dX7_shareNow_23 : decode cX7_shareNow 23 = .ok (.imul, 1) := by decide +kernel
theorem dX7_shareNow_24 : decode cX7_shareNow 24 = .ok (.i2d, 1) := by decide +kernel
theorem dX7_shareNow_25 : decode cX7_shareNow 25 = .ok (.ddiv, 1) := by decide +kernel
theorem dX7_shareNow_26 : decode cX7_shareNow 26 = .ok (.dreturn, 1) := by decide +kernel
theorem dX7_share_0 : decode cX7_share 0 = .ok (.aload_n 0, 1) := by decide +kernel
theorem dX7_share_1 : decode cX7_share 1 = .ok (.iconst 0, 1) := by decide +kernel
theorem dX7_share_2 : decode cX7_share 2 = .ok (.putfield 37, 3) := by decide +kernel
theorem dX7_share_5 : decode cX7_share 5 = .ok (.aload_n 0, 1) := by decide +kernel
theorem dX7_share_6 : decode cX7_share 6 = .ok (.invokevirtual 262, 3) := by decide +kernel
theorem dX7_share_9 : decode cX7_share 9 = .ok (.dreturn, 1) := by decide +kernel
theorem dX7_mix_0 : decode cX7_mix 0 = .ok (.aload_n 0, 1) := by decide +kernel
theorem dX7_mix_1 : decode cX7_mix 1 = .ok (.ldc2_w 266, 3) := by decide +kernel
theorem dX7_mix_4 : decode cX7_mix 4 = .ok (.aload_n 0, 1) := by decide +kernel
theorem dX7_mix_5 : decode cX7_mix 5 = .ok (.getfield 268, 3) := by decide +kernel
theorem dX7_mix_8 : decode cX7_mix 8 = .ok (.lmul, 1) := by decide +kernel
theorem dX7_mix_9 : decode cX7_mix 9 = .ok (.lload_n 1, 1) := by decide +kernel
theorem dX7_mix_10 : decode cX7_mix 10 = .ok (.ladd, 1) := by decide +kernel
theorem dX7_mix_11 : decode cX7_mix 11 = .ok (.putfield 268, 3) := by decide +kernel
theorem dX7_mix_14 : decode cX7_mix 14 = .ok (.return_, 1) := by decide +kernel
theorem dX7_mixDays_0 : decode cX7_mixDays 0 = .ok (.iconst 0, 1) := by decide +kernel
theorem dX7_mixDays_1 : decode cX7_mixDays 1 = .ok (.istore_n 1, 1) := by decide +kernel
theorem dX7_mixDays_2 : decode cX7_mixDays 2 = .ok (.iload_n 1, 1) := by decide +kernel
theorem dX7_mixDays_3 : decode cX7_mixDays 3 = .ok (.bipush 7, 2) := by decide +kernel
theorem dX7_mixDays_5 : decode cX7_mixDays 5 = .ok (.if_icmp .ge 72, 3) := by decide +kernel
theorem dX7_mixDays_8 : decode cX7_mixDays 8 = .ok (.iconst 0, 1) := by decide +kernel
theorem dX7_mixDays_9 : decode cX7_mixDays 9 = .ok (.istore_n 2, 1) := by decide +kernel
theorem dX7_mixDays_10 : decode cX7_mixDays 10 = .ok (.iload_n 2, 1) := by decide +kernel
theorem dX7_mixDays_11 : decode cX7_mixDays 11 = .ok (.bipush 8, 2) := by decide +kernel
theorem dX7_mixDays_13 : decode cX7_mixDays 13 = .ok (.if_icmp .ge 20, 3) := by decide +kernel
theorem dX7_mixDays_16 : decode cX7_mixDays 16 = .ok (.aload_n 0, 1) := by decide +kernel
theorem dX7_mixDays_17 : decode cX7_mixDays 17 = .ok (.aload_n 0, 1) := by decide +kernel
theorem dX7_mixDays_18 : decode cX7_mixDays 18 = .ok (.iload_n 1, 1) := by decide +kernel
theorem dX7_mixDays_19 : decode cX7_mixDays 19 = .ok (.iload_n 2, 1) := by decide +kernel
theorem dX7_mixDays_20 : decode cX7_mixDays 20 = .ok (.invokevirtual 100, 3) := by decide +kernel
theorem dX7_mixDays_23 : decode cX7_mixDays 23 = .ok (.i2l, 1) := by decide +kernel
theorem dX7_mixDays_24 : decode cX7_mixDays 24 = .ok (.invokevirtual 272, 3) := by decide +kernel
theorem dX7_mixDays_27 : decode cX7_mixDays 27 = .ok (.iinc 2 1, 3) := by decide +kernel
theorem dX7_mixDays_30 : decode cX7_mixDays 30 = .ok (.goto (-20), 3) := by decide +kernel
theorem dX7_mixDays_33 : decode cX7_mixDays 33 = .ok (.iconst 0, 1) := by decide +kernel
theorem dX7_mixDays_34 : decode cX7_mixDays 34 = .ok (.istore_n 2, 1) := by decide +kernel
theorem dX7_mixDays_35 : decode cX7_mixDays 35 = .ok (.iload_n 2, 1) := by decide +kernel
theorem dX7_mixDays_36 : decode cX7_mixDays 36 = .ok (.bipush 24, 2) := by decide +kernel
theorem dX7_mixDays_38 : decode cX7_mixDays 38 = .ok (.if_icmp .ge 33, 3) := by decide +kernel
theorem dX7_mixDays_41 : decode cX7_mixDays 41 = .ok (.aload_n 0, 1) := by decide +kernel
theorem dX7_mixDays_42 : decode cX7_mixDays 42 = .ok (.aload_n 0, 1) := by decide +kernel
theorem dX7_mixDays_43 : decode cX7_mixDays 43 = .ok (.iload_n 1, 1) := by decide +kernel
theorem dX7_mixDays_44 : decode cX7_mixDays 44 = .ok (.iload_n 2, 1) := by decide +kernel
theorem dX7_mixDays_45 : decode cX7_mixDays 45 = .ok (.iconst 0, 1) := by decide +kernel
theorem dX7_mixDays_46 : decode cX7_mixDays 46 = .ok (.invokevirtual 233, 3) := by decide +kernel
theorem dX7_mixDays_49 : decode cX7_mixDays 49 = .ok (.i2l, 1) := by decide +kernel
theorem dX7_mixDays_50 : decode cX7_mixDays 50 = .ok (.invokevirtual 272, 3) := by decide +kernel
theorem dX7_mixDays_53 : decode cX7_mixDays 53 = .ok (.aload_n 0, 1) := by decide +kernel
theorem dX7_mixDays_54 : decode cX7_mixDays 54 = .ok (.aload_n 0, 1) := by decide +kernel
theorem dX7_mixDays_55 : decode cX7_mixDays 55 = .ok (.iload_n 1, 1) := by decide +kernel
theorem dX7_mixDays_56 : decode cX7_mixDays 56 = .ok (.iload_n 2, 1) := by decide +kernel
theorem dX7_mixDays_57 : decode cX7_mixDays 57 = .ok (.iconst 1, 1) := by decide +kernel
theorem dX7_mixDays_58 : decode cX7_mixDays 58 = .ok (.invokevirtual 233, 3) := by decide +kernel
theorem dX7_mixDays_61 : decode cX7_mixDays 61 = .ok (.i2l, 1) := by decide +kernel
theorem dX7_mixDays_62 : decode cX7_mixDays 62 = .ok (.invokevirtual 272, 3) := by decide +kernel
theorem dX7_mixDays_65 : decode cX7_mixDays 65 = .ok (.iinc 2 1, 3) := by decide +kernel
theorem dX7_mixDays_68 : decode cX7_mixDays 68 = .ok (.goto (-33), 3) := by decide +kernel
theorem dX7_mixDays_71 : decode cX7_mixDays 71 = .ok (.iinc 1 1, 3) := by decide +kernel
theorem dX7_mixDays_74 : decode cX7_mixDays 74 = .ok (.goto (-72), 3) := by decide +kernel
theorem dX7_mixDays_77 : decode cX7_mixDays 77 = .ok (.return_, 1) := by decide +kernel
theorem dX7_digest_0 : decode cX7_digest 0 = .ok (.aload_n 0, 1) := by decide +kernel
theorem dX7_digest_1 : decode cX7_digest 1 = .ok (.iconst 0, 1) := by decide +kernel
theorem dX7_digest_2 : decode cX7_digest 2 = .ok (.putfield 37, 3) := by decide +kernel
theorem dX7_digest_5 : decode cX7_digest 5 = .ok (.aload_n 0, 1) := by decide +kernel
theorem dX7_digest_6 : decode cX7_digest 6 = .ok (.ldc2_w 276, 3) := by decide +kernel
theorem dX7_digest_9 : decode cX7_digest 9 = .ok (.putfield 268, 3) := by decide +kernel
theorem dX7_digest_12 : decode cX7_digest 12 = .ok (.iconst 0, 1) := by decide +kernel
theorem dX7_digest_13 : decode cX7_digest 13 = .ok (.istore_n 1, 1) := by decide +kernel
theorem dX7_digest_14 : decode cX7_digest 14 = .ok (.iload_n 1, 1) := by decide +kernel
theorem dX7_digest_15 : decode cX7_digest 15 = .ok (.bipush 8, 2) := by decide +kernel
theorem dX7_digest_17 : decode cX7_digest 17 = .ok (.if_icmp .ge 19, 3) := by decide +kernel
theorem dX7_digest_20 : decode cX7_digest 20 = .ok (.aload_n 0, 1) := by decide +kernel
theorem dX7_digest_21 : decode cX7_digest 21 = .ok (.aload_n 0, 1) := by decide +kernel
theorem dX7_digest_22 : decode cX7_digest 22 = .ok (.iload_n 1, 1) := by decide +kernel
theorem dX7_digest_23 : decode cX7_digest 23 = .ok (.invokevirtual 243, 3) := by decide +kernel
theorem dX7_digest_26 : decode cX7_digest 26 = .ok (.i2l, 1) := by decide +kernel
theorem dX7_digest_27 : decode cX7_digest 27 = .ok (.invokevirtual 272, 3) := by decide +kernel
theorem dX7_digest_30 : decode cX7_digest 30 = .ok (.iinc 1 1, 3) := by decide +kernel
theorem dX7_digest_33 : decode cX7_digest 33 = .ok (.goto (-19), 3) := by decide +kernel
theorem dX7_digest_36 : decode cX7_digest 36 = .ok (.iconst 0, 1) := by decide +kernel
theorem dX7_digest_37 : decode cX7_digest 37 = .ok (.istore_n 1, 1) := by decide +kernel
theorem dX7_digest_38 : decode cX7_digest 38 = .ok (.iload_n 1, 1) := by decide +kernel
theorem dX7_digest_39 : decode cX7_digest 39 = .ok (.bipush 8, 2) := by decide +kernel
theorem dX7_digest_41 : decode cX7_digest 41 = .ok (.if_icmp .ge 20, 3) := by decide +kernel
theorem dX7_digest_44 : decode cX7_digest 44 = .ok (.aload_n 0, 1) := by decide +kernel
theorem dX7_digest_45 : decode cX7_digest 45 = .ok (.aload_n 0, 1) := by decide +kernel
theorem dX7_digest_46 : decode cX7_digest 46 = .ok (.getfield 7, 3) := by decide +kernel
theorem dX7_digest_49 : decode cX7_digest 49 = .ok (.iload_n 1, 1) := by decide +kernel
theorem dX7_digest_50 : decode cX7_digest 50 = .ok (.iaload, 1) := by decide +kernel
theorem dX7_digest_51 : decode cX7_digest 51 = .ok (.i2l, 1) := by decide +kernel
theorem dX7_digest_52 : decode cX7_digest 52 = .ok (.invokevirtual 272, 3) := by decide +kernel
theorem dX7_digest_55 : decode cX7_digest 55 = .ok (.iinc 1 1, 3) := by decide +kernel
theorem dX7_digest_58 : decode cX7_digest 58 = .ok (.goto (-20), 3) := by decide +kernel
theorem dX7_digest_61 : decode cX7_digest 61 = .ok (.iconst 0, 1) := by decide +kernel
theorem dX7_digest_62 : decode cX7_digest 62 = .ok (.istore_n 1, 1) := by decide +kernel
theorem dX7_digest_63 : decode cX7_digest 63 = .ok (.iload_n 1, 1) := by decide +kernel
theorem dX7_digest_64 : decode cX7_digest 64 = .ok (.bipush 54, 2) := by decide +kernel
theorem dX7_digest_66 : decode cX7_digest 66 = .ok (.if_icmp .ge 26, 3) := by decide +kernel
theorem dX7_digest_69 : decode cX7_digest 69 = .ok (.aload_n 0, 1) := by decide +kernel
theorem dX7_digest_70 : decode cX7_digest 70 = .ok (.aload_n 0, 1) := by decide +kernel
theorem dX7_digest_71 : decode cX7_digest 71 = .ok (.iload_n 1, 1) := by decide +kernel
theorem dX7_digest_72 : decode cX7_digest 72 = .ok (.bipush 9, 2) := by decide +kernel
theorem dX7_digest_74 : decode cX7_digest 74 = .ok (.idiv, 1) := by decide +kernel
theorem dX7_digest_75 : decode cX7_digest 75 = .ok (.iload_n 1, 1) := by decide +kernel
theorem dX7_digest_76 : decode cX7_digest 76 = .ok (.bipush 9, 2) := by decide +kernel
theorem dX7_digest_78 : decode cX7_digest 78 = .ok (.irem, 1) := by decide +kernel
theorem dX7_digest_79 : decode cX7_digest 79 = .ok (.invokevirtual 230, 3) := by decide +kernel
theorem dX7_digest_82 : decode cX7_digest 82 = .ok (.i2l, 1) := by decide +kernel
theorem dX7_digest_83 : decode cX7_digest 83 = .ok (.invokevirtual 272, 3) := by decide +kernel
theorem dX7_digest_86 : decode cX7_digest 86 = .ok (.iinc 1 1, 3) := by decide +kernel
theorem dX7_digest_89 : decode cX7_digest 89 = .ok (.goto (-26), 3) := by decide +kernel
theorem dX7_digest_92 : decode cX7_digest 92 = .ok (.iconst 0, 1) := by decide +kernel
theorem dX7_digest_93 : decode cX7_digest 93 = .ok (.istore_n 1, 1) := by decide +kernel
theorem dX7_digest_94 : decode cX7_digest 94 = .ok (.iload_n 1, 1) := by decide +kernel
theorem dX7_digest_95 : decode cX7_digest 95 = .ok (.aload_n 0, 1) := by decide +kernel
theorem dX7_digest_96 : decode cX7_digest 96 = .ok (.getfield 7, 3) := by decide +kernel
theorem dX7_digest_99 : decode cX7_digest 99 = .ok (.bipush 39, 2) := by decide +kernel
theorem dX7_digest_101 : decode cX7_digest 101 = .ok (.iaload, 1) := by decide +kernel
theorem dX7_digest_102 : decode cX7_digest 102 = .ok (.if_icmp .ge 62, 3) := by decide +kernel
theorem dX7_digest_105 : decode cX7_digest 105 = .ok (.iconst 0, 1) := by decide +kernel
theorem dX7_digest_106 : decode cX7_digest 106 = .ok (.istore_n 2, 1) := by decide +kernel
theorem dX7_digest_107 : decode cX7_digest 107 = .ok (.iload_n 2, 1) := by decide +kernel
theorem dX7_digest_108 : decode cX7_digest 108 = .ok (.bipush 12, 2) := by decide +kernel
theorem dX7_digest_110 : decode cX7_digest 110 = .ok (.if_icmp .ge 20, 3) := by decide +kernel
theorem dX7_digest_113 : decode cX7_digest 113 = .ok (.aload_n 0, 1) := by decide +kernel
theorem dX7_digest_114 : decode cX7_digest 114 = .ok (.aload_n 0, 1) := by decide +kernel
theorem dX7_digest_115 : decode cX7_digest 115 = .ok (.iload_n 1, 1) := by decide +kernel
theorem dX7_digest_116 : decode cX7_digest 116 = .ok (.iload_n 2, 1) := by decide +kernel
theorem dX7_digest_117 : decode cX7_digest 117 = .ok (.invokevirtual 224, 3) := by decide +kernel
theorem dX7_digest_120 : decode cX7_digest 120 = .ok (.i2l, 1) := by decide +kernel
theorem dX7_digest_121 : decode cX7_digest 121 = .ok (.invokevirtual 272, 3) := by decide +kernel
theorem dX7_digest_124 : decode cX7_digest 124 = .ok (.iinc 2 1, 3) := by decide +kernel
theorem dX7_digest_127 : decode cX7_digest 127 = .ok (.goto (-20), 3) := by decide +kernel
theorem dX7_digest_130 : decode cX7_digest 130 = .ok (.aload_n 0, 1) := by decide +kernel
theorem dX7_digest_131 : decode cX7_digest 131 = .ok (.aload_n 0, 1) := by decide +kernel
theorem dX7_digest_132 : decode cX7_digest 132 = .ok (.iload_n 1, 1) := by decide +kernel
theorem dX7_digest_133 : decode cX7_digest 133 = .ok (.invokevirtual 253, 3) := by decide +kernel
theorem dX7_digest_136 : decode cX7_digest 136 = .ok (.i2l, 1) := by decide +kernel
theorem dX7_digest_137 : decode cX7_digest 137 = .ok (.invokevirtual 272, 3) := by decide +kernel
theorem dX7_digest_140 : decode cX7_digest 140 = .ok (.aload_n 0, 1) := by decide +kernel
theorem dX7_digest_141 : decode cX7_digest 141 = .ok (.iload_n 1, 1) := by decide +kernel
theorem dX7_digest_142 : decode cX7_digest 142 = .ok (.invokevirtual 164, 3) := by decide +kernel
theorem dX7_digest_145 : decode cX7_digest 145 = .ok (.ifCond .eq 13, 3) := by decide +kernel
theorem dX7_digest_148 : decode cX7_digest 148 = .ok (.aload_n 0, 1) := by decide +kernel
theorem dX7_digest_149 : decode cX7_digest 149 = .ok (.aload_n 0, 1) := by decide +kernel
theorem dX7_digest_150 : decode cX7_digest 150 = .ok (.iload_n 1, 1) := by decide +kernel
theorem dX7_digest_151 : decode cX7_digest 151 = .ok (.invokevirtual 259, 3) := by decide +kernel
theorem dX7_digest_154 : decode cX7_digest 154 = .ok (.i2l, 1) := by decide +kernel
theorem dX7_digest_155 : decode cX7_digest 155 = .ok (.invokevirtual 272, 3) := by decide +kernel
theorem dX7_digest_158 : decode cX7_digest 158 = .ok (.iinc 1 1, 3) := by decide +kernel
theorem dX7_digest_161 : decode cX7_digest 161 = .ok (.goto (-67), 3) := by decide +kernel
theorem dX7_digest_164 : decode cX7_digest 164 = .ok (.aload_n 0, 1) := by decide +kernel
theorem dX7_digest_165 : decode cX7_digest 165 = .ok (.invokevirtual 278, 3) := by decide +kernel
theorem dX7_digest_168 : decode cX7_digest 168 = .ok (.iconst 0, 1) := by decide +kernel
theorem dX7_digest_169 : decode cX7_digest 169 = .ok (.istore_n 1, 1) := by decide +kernel
theorem dX7_digest_170 : decode cX7_digest 170 = .ok (.iload_n 1, 1) := by decide +kernel
theorem dX7_digest_171 : decode cX7_digest 171 = .ok (.bipush 6, 2) := by decide +kernel
theorem dX7_digest_173 : decode cX7_digest 173 = .ok (.if_icmp .ge 22, 3) := by decide +kernel
theorem dX7_digest_176 : decode cX7_digest 176 = .ok (.aload_n 0, 1) := by decide +kernel
theorem dX7_digest_177 : decode cX7_digest 177 = .ok (.aload_n 0, 1) := by decide +kernel
theorem dX7_digest_178 : decode cX7_digest 178 = .ok (.iload_n 1, 1) := by decide +kernel
theorem dX7_digest_179 : decode cX7_digest 179 = .ok (.iconst 3, 1) := by decide +kernel
theorem dX7_digest_180 : decode cX7_digest 180 = .ok (.bipush 30, 2) := by decide +kernel
theorem dX7_digest_182 : decode cX7_digest 182 = .ok (.invokevirtual 250, 3) := by decide +kernel
theorem dX7_digest_185 : decode cX7_digest 185 = .ok (.i2l, 1) := by decide +kernel
theorem dX7_digest_186 : decode cX7_digest 186 = .ok (.invokevirtual 272, 3) := by decide +kernel
theorem dX7_digest_189 : decode cX7_digest 189 = .ok (.iinc 1 1, 3) := by decide +kernel
theorem dX7_digest_192 : decode cX7_digest 192 = .ok (.goto (-22), 3) := by decide +kernel
theorem dX7_digest_195 : decode cX7_digest 195 = .ok (.aload_n 0, 1) := by decide +kernel
theorem dX7_digest_196 : decode cX7_digest 196 = .ok (.aload_n 0, 1) := by decide +kernel
theorem dX7_digest_197 : decode cX7_digest 197 = .ok (.invokevirtual 262, 3) := by decide +kernel
theorem dX7_digest_200 : decode cX7_digest 200 = .ok (.invokestatic 281, 3) := by decide +kernel
theorem dX7_digest_203 : decode cX7_digest 203 = .ok (.invokevirtual 272, 3) := by decide +kernel
theorem dX7_digest_206 : decode cX7_digest 206 = .ok (.aload_n 0, 1) := by decide +kernel
theorem dX7_digest_207 : decode cX7_digest 207 = .ok (.aload_n 0, 1) := by decide +kernel
theorem dX7_digest_208 : decode cX7_digest 208 = .ok (.getfield 139, 3) := by decide +kernel
theorem dX7_digest_211 : decode cX7_digest 211 = .ok (.i2l, 1) := by decide +kernel
theorem dX7_digest_212 : decode cX7_digest 212 = .ok (.invokevirtual 272, 3) := by decide +kernel
theorem dX7_digest_215 : decode cX7_digest 215 = .ok (.aload_n 0, 1) := by decide +kernel
theorem dX7_digest_216 : decode cX7_digest 216 = .ok (.aload_n 0, 1) := by decide +kernel
theorem dX7_digest_217 : decode cX7_digest 217 = .ok (.getfield 173, 3) := by decide +kernel
theorem dX7_digest_220 : decode cX7_digest 220 = .ok (.i2l, 1) := by decide +kernel
theorem dX7_digest_221 : decode cX7_digest 221 = .ok (.invokevirtual 272, 3) := by decide +kernel
theorem dX7_digest_224 : decode cX7_digest 224 = .ok (.iconst 0, 1) := by decide +kernel
theorem dX7_digest_225 : decode cX7_digest 225 = .ok (.istore_n 1, 1) := by decide +kernel
theorem dX7_digest_226 : decode cX7_digest 226 = .ok (.iload_n 1, 1) := by decide +kernel
theorem dX7_digest_227 : decode cX7_digest 227 = .ok (.aload_n 0, 1) := by decide +kernel
theorem dX7_digest_228 : decode cX7_digest 228 = .ok (.getfield 173, 3) := by decide +kernel
theorem dX7_digest_231 : decode cX7_digest 231 = .ok (.if_icmp .ge 20, 3) := by decide +kernel
theorem dX7_digest_234 : decode cX7_digest 234 = .ok (.aload_n 0, 1) := by decide +kernel
theorem dX7_digest_235 : decode cX7_digest 235 = .ok (.aload_n 0, 1) := by decide +kernel
theorem dX7_digest_236 : decode cX7_digest 236 = .ok (.getfield 16, 3) := by decide +kernel
theorem dX7_digest_239 : decode cX7_digest 239 = .ok (.iload_n 1, 1) := by decide +kernel
theorem dX7_digest_240 : decode cX7_digest 240 = .ok (.iaload, 1) := by decide +kernel
theorem dX7_digest_241 : decode cX7_digest 241 = .ok (.i2l, 1) := by decide +kernel
theorem dX7_digest_242 : decode cX7_digest 242 = .ok (.invokevirtual 272, 3) := by decide +kernel
theorem dX7_digest_245 : decode cX7_digest 245 = .ok (.iinc 1 1, 3) := by decide +kernel
theorem dX7_digest_248 : decode cX7_digest 248 = .ok (.goto (-22), 3) := by decide +kernel
theorem dX7_digest_251 : decode cX7_digest 251 = .ok (.aload_n 0, 1) := by decide +kernel
theorem dX7_digest_252 : decode cX7_digest 252 = .ok (.getfield 268, 3) := by decide +kernel
theorem dX7_digest_255 : decode cX7_digest 255 = .ok (.lreturn, 1) := by decide +kernel
