theorem dX0_init_0 : decode cX0_init 0 = .ok (.aload_n 0, 1) := by decide +kernel
theorem dX0_init_1 : decode cX0_init 1 = .ok (.invokespecial 3, 3) := by decide +kernel
theorem dX0_init_4 : decode cX0_init 4 = .ok (.aload_n 0, 1) := by decide +kernel
theorem dX0_init_5 : decode cX0_init 5 = .ok (.bipush 24, 2) := by decide +kernel
theorem dX0_init_7 : decode cX0_init 7 = .ok (.newarray .int, 2) := by decide +kernel
theorem dX0_init_9 : decode cX0_init 9 = .ok (.putfield 9, 3) := by decide +kernel
theorem dX0_init_12 : decode cX0_init 12 = .ok (.aload_n 0, 1) := by decide +kernel
theorem dX0_init_13 : decode cX0_init 13 = .ok (.bipush 24, 2) := by decide +kernel
theorem dX0_init_15 : decode cX0_init 15 = .ok (.newarray .int, 2) := by decide +kernel
theorem dX0_init_17 : decode cX0_init 17 = .ok (.putfield 15, 3) := by decide +kernel
theorem dX0_init_20 : decode cX0_init 20 = .ok (.aload_n 0, 1) := by decide +kernel
theorem dX0_init_21 : decode cX0_init 21 = .ok (.bipush 24, 2) := by decide +kernel
theorem dX0_init_23 : decode cX0_init 23 = .ok (.newarray .int, 2) := by decide +kernel
theorem dX0_init_25 : decode cX0_init 25 = .ok (.putfield 18, 3) := by decide +kernel
theorem dX0_init_28 : decode cX0_init 28 = .ok (.aload_n 0, 1) := by decide +kernel
theorem dX0_init_29 : decode cX0_init 29 = .ok (.bipush 24, 2) := by decide +kernel
theorem dX0_init_31 : decode cX0_init 31 = .ok (.newarray .boolean, 2) := by decide +kernel
theorem dX0_init_33 : decode cX0_init 33 = .ok (.putfield 21, 3) := by decide +kernel
theorem dX0_init_36 : decode cX0_init 36 = .ok (.aload_n 0, 1) := by decide +kernel
theorem dX0_init_37 : decode cX0_init 37 = .ok (.bipush 7, 2) := by decide +kernel
theorem dX0_init_39 : decode cX0_init 39 = .ok (.newarray .int, 2) := by decide +kernel
theorem dX0_init_41 : decode cX0_init 41 = .ok (.putfield 25, 3) := by decide +kernel
theorem dX0_init_44 : decode cX0_init 44 = .ok (.return_, 1) := by decide +kernel
theorem dX0_play_0 : decode cX0_play 0 = .ok (.aload_n 0, 1) := by decide +kernel
theorem dX0_play_1 : decode cX0_play 1 = .ok (.aload_n 1, 1) := by decide +kernel
theorem dX0_play_2 : decode cX0_play 2 = .ok (.iconst (-1), 1) := by decide +kernel
theorem dX0_play_3 : decode cX0_play 3 = .ok (.iconst 0, 1) := by decide +kernel
theorem dX0_play_4 : decode cX0_play 4 = .ok (.invokevirtual 28, 3) := by decide +kernel
theorem dX0_play_7 : decode cX0_play 7 = .ok (.return_, 1) := by decide +kernel
theorem dX0_playWith_0 : decode cX0_playWith 0 = .ok (.iconst 0, 1) := by decide +kernel
theorem dX0_playWith_1 : decode cX0_playWith 1 = .ok (.istore 4, 2) := by decide +kernel
theorem dX0_playWith_3 : decode cX0_playWith 3 = .ok (.iload 4, 2) := by decide +kernel
theorem dX0_playWith_5 : decode cX0_playWith 5 = .ok (.bipush 7, 2) := by decide +kernel
theorem dX0_playWith_7 : decode cX0_playWith 7 = .ok (.if_icmp .ge 22, 3) := by decide +kernel
theorem dX0_playWith_10 : decode cX0_playWith 10 = .ok (.aload_n 0, 1) := by decide +kernel
theorem dX0_playWith_11 : decode cX0_playWith 11 = .ok (.getfield 25, 3) := by decide +kernel
theorem dX0_playWith_14 : decode cX0_playWith 14 = .ok (.iload 4, 2) := by decide +kernel
theorem dX0_playWith_16 : decode cX0_playWith 16 = .ok (.aload_n 1, 1) := by decide +kernel
theorem dX0_playWith_17 : decode cX0_playWith 17 = .ok (.getfield 32, 3) := by decide +kernel
theorem dX0_playWith_20 : decode cX0_playWith 20 = .ok (.iconst 0, 1) := by decide +kernel
theorem dX0_playWith_21 : decode cX0_playWith 21 = .ok (.iaload, 1) := by decide +kernel
theorem dX0_playWith_22 : decode cX0_playWith 22 = .ok (.iastore, 1) := by decide +kernel
theorem dX0_playWith_23 : decode cX0_playWith 23 = .ok (.iinc 4 1, 3) := by decide +kernel
theorem dX0_playWith_26 : decode cX0_playWith 26 = .ok (.goto (-23), 3) := by decide +kernel
theorem dX0_playWith_29 : decode cX0_playWith 29 = .ok (.iconst 0, 1) := by decide +kernel
theorem dX0_playWith_30 : decode cX0_playWith 30 = .ok (.istore 4, 2) := by decide +kernel
theorem dX0_playWith_32 : decode cX0_playWith 32 = .ok (.iload 4, 2) := by decide +kernel
theorem dX0_playWith_34 : decode cX0_playWith 34 = .ok (.aload_n 1, 1) := by decide +kernel
theorem dX0_playWith_35 : decode cX0_playWith 35 = .ok (.getfield 37, 3) := by decide +kernel
theorem dX0_playWith_38 : decode cX0_playWith 38 = .ok (.if_icmp .ge 33, 3) := by decide +kernel
theorem dX0_playWith_41 : decode cX0_playWith 41 = .ok (.aload_n 0, 1) := by decide +kernel
theorem dX0_playWith_42 : decode cX0_playWith 42 = .ok (.aload_n 1, 1) := by decide +kernel
theorem dX0_playWith_43 : decode cX0_playWith 43 = .ok (.iload 4, 2) := by decide +kernel
theorem dX0_playWith_45 : decode cX0_playWith 45 = .ok (.iload 4, 2) := by decide +kernel
theorem dX0_playWith_47 : decode cX0_playWith 47 = .ok (.iload_n 2, 1) := by decide +kernel
theorem dX0_playWith_48 : decode cX0_playWith 48 = .ok (.if_icmp .ne 7, 3) := by decide +kernel
theorem dX0_playWith_51 : decode cX0_playWith 51 = .ok (.iload_n 3, 1) := by decide +kernel
theorem dX0_playWith_52 : decode cX0_playWith 52 = .ok (.goto 10, 3) := by decide +kernel
theorem dX0_playWith_55 : decode cX0_playWith 55 = .ok (.aload_n 1, 1) := by decide +kernel
theorem dX0_playWith_56 : decode cX0_playWith 56 = .ok (.getfield 41, 3) := by decide +kernel
theorem dX0_playWith_59 : decode cX0_playWith 59 = .ok (.iload 4, 2) := by decide +kernel
theorem dX0_playWith_61 : decode cX0_playWith 61 = .ok (.iaload, 1) := by decide +kernel
theorem dX0_playWith_62 : decode cX0_playWith 62 = .ok (.invokevirtual 44, 3) := by decide +kernel
theorem dX0_playWith_65 : decode cX0_playWith 65 = .ok (.iinc 4 1, 3) := by decide +kernel
theorem dX0_playWith_68 : decode cX0_playWith 68 = .ok (.goto (-36), 3) := by decide +kernel
theorem dX0_playWith_71 : decode cX0_playWith 71 = .ok (.return_, 1) := by decide +kernel
theorem dX0_playShow_0 : decode cX0_playShow 0 = .ok (.aload_n 1, 1) := by decide +kernel
theorem dX0_playShow_1 : decode cX0_playShow 1 = .ok (.getfield 47, 3) := by decide +kernel
theorem dX0_playShow_4 : decode cX0_playShow 4 = .ok (.iload_n 2, 1) := by decide +kernel
theorem dX0_playShow_5 : decode cX0_playShow 5 = .ok (.iaload, 1) := by decide +kernel
theorem dX0_playShow_6 : decode cX0_playShow 6 = .ok (.istore 4, 2) := by decide +kernel
theorem dX0_playShow_8 : decode cX0_playShow 8 = .ok (.aload_n 1, 1) := by decide +kernel
theorem dX0_playShow_9 : decode cX0_playShow 9 = .ok (.getfield 50, 3) := by decide +kernel
theorem dX0_playShow_12 : decode cX0_playShow 12 = .ok (.iload_n 2, 1) := by decide +kernel
theorem dX0_playShow_13 : decode cX0_playShow 13 = .ok (.iaload, 1) := by decide +kernel
theorem dX0_playShow_14 : decode cX0_playShow 14 = .ok (.aload_n 0, 1) := by decide +kernel
theorem dX0_playShow_15 : decode cX0_playShow 15 = .ok (.getfield 25, 3) := by decide +kernel
theorem dX0_playShow_18 : decode cX0_playShow 18 = .ok (.iload 4, 2) := by decide +kernel
theorem dX0_playShow_20 : decode cX0_playShow 20 = .ok (.iaload, 1) := by decide +kernel
theorem dX0_playShow_21 : decode cX0_playShow 21 = .ok (.invokestatic 51, 3) := by decide +kernel
theorem dX0_playShow_24 : decode cX0_playShow 24 = .ok (.istore 5, 2) := by decide +kernel
theorem dX0_playShow_26 : decode cX0_playShow 26 = .ok (.aload_n 1, 1) := by decide +kernel
theorem dX0_playShow_27 : decode cX0_playShow 27 = .ok (.getfield 32, 3) := by decide +kernel
theorem dX0_playShow_30 : decode cX0_playShow 30 = .ok (.iconst 1, 1) := by decide +kernel
theorem dX0_playShow_31 : decode cX0_playShow 31 = .ok (.iaload, 1) := by decide +kernel
theorem dX0_playShow_32 : decode cX0_playShow 32 = .ok (.iload 5, 2) := by decide +kernel
theorem dX0_playShow_34 : decode cX0_playShow 34 = .ok (.isub, 1) := by decide +kernel
theorem dX0_playShow_35 : decode cX0_playShow 35 = .ok (.istore 6, 2) := by decide +kernel
theorem dX0_playShow_37 : decode cX0_playShow 37 = .ok (.aload_n 0, 1) := by decide +kernel
theorem dX0_playShow_38 : decode cX0_playShow 38 = .ok (.getfield 18, 3) := by decide +kernel
theorem dX0_playShow_41 : decode cX0_playShow 41 = .ok (.iload_n 2, 1) := by decide +kernel
theorem dX0_playShow_42 : decode cX0_playShow 42 = .ok (.iload 5, 2) := by decide +kernel
theorem dX0_playShow_44 : decode cX0_playShow 44 = .ok (.aload_n 1, 1) := by decide +kernel
theorem dX0_playShow_45 : decode cX0_playShow 45 = .ok (.getfield 50, 3) := by decide +kernel
theorem dX0_playShow_48 : decode cX0_playShow 48 = .ok (.iload_n 2, 1) := by decide +kernel
theorem dX0_playShow_49 : decode cX0_playShow 49 = .ok (.iaload, 1) := by decide +kernel
theorem dX0_playShow_50 : decode cX0_playShow 50 = .ok (.isub, 1) := by decide +kernel
theorem dX0_playShow_51 : decode cX0_playShow 51 = .ok (.iastore, 1) := by decide +kernel
theorem dX0_playShow_52 : decode cX0_playShow 52 = .ok (.aload_n 0, 1) := by decide +kernel
theorem dX0_playShow_53 : decode cX0_playShow 53 = .ok (.getfield 18, 3) := by decide +kernel
theorem dX0_playShow_56 : decode cX0_playShow 56 = .ok (.iload_n 2, 1) := by decide +kernel
theorem dX0_playShow_57 : decode cX0_playShow 57 = .ok (.iaload, 1) := by decide +kernel
theorem dX0_playShow_58 : decode cX0_playShow 58 = .ok (.aload_n 1, 1) := by decide +kernel
theorem dX0_playShow_59 : decode cX0_playShow 59 = .ok (.iload_n 2, 1) := by decide +kernel
theorem dX0_playShow_60 : decode cX0_playShow 60 = .ok (.invokevirtual 57, 3) := by decide +kernel
theorem dX0_playShow_63 : decode cX0_playShow 63 = .ok (.if_icmp .gt 8, 3) := by decide +kernel
theorem dX0_playShow_66 : decode cX0_playShow 66 = .ok (.iload 6, 2) := by decide +kernel
theorem dX0_playShow_68 : decode cX0_playShow 68 = .ok (.ifCond .gt 25, 3) := by decide +kernel
theorem dX0_playShow_71 : decode cX0_playShow 71 = .ok (.aload_n 0, 1) := by decide +kernel
theorem dX0_playShow_72 : decode cX0_playShow 72 = .ok (.getfield 9, 3) := by decide +kernel
theorem dX0_playShow_75 : decode cX0_playShow 75 = .ok (.iload_n 2, 1) := by decide +kernel
theorem dX0_playShow_76 : decode cX0_playShow 76 = .ok (.iconst (-1), 1) := by decide +kernel
theorem dX0_playShow_77 : decode cX0_playShow 77 = .ok (.iastore, 1) := by decide +kernel
theorem dX0_playShow_78 : decode cX0_playShow 78 = .ok (.aload_n 0, 1) := by decide +kernel
theorem dX0_playShow_79 : decode cX0_playShow 79 = .ok (.getfield 15, 3) := by decide +kernel
theorem dX0_playShow_82 : decode cX0_playShow 82 = .ok (.iload_n 2, 1) := by decide +kernel
theorem dX0_playShow_83 : decode cX0_playShow 83 = .ok (.iconst 0, 1) := by decide +kernel
theorem dX0_playShow_84 : decode cX0_playShow 84 = .ok (.iastore, 1) := by decide +kernel
theorem dX0_playShow_85 : decode cX0_playShow 85 = .ok (.aload_n 0, 1) := by decide +kernel
theorem dX0_playShow_86 : decode cX0_playShow 86 = .ok (.getfield 21, 3) := by decide +kernel
theorem dX0_playShow_89 : decode cX0_playShow 89 = .ok (.iload_n 2, 1) := by decide +kernel
theorem dX0_playShow_90 : decode cX0_playShow 90 = .ok (.iconst 0, 1) := by decide +kernel
theorem dX0_playShow_91 : decode cX0_playShow 91 = .ok (.bastore, 1) := by decide +kernel
theorem dX0_playShow_92 : decode cX0_playShow 92 = .ok (.return_, 1) := by decide +kernel
theorem dX0_playShow_93 : decode cX0_playShow 93 = .ok (.iconst 1, 1) := by decide +kernel
theorem dX0_playShow_94 : decode cX0_playShow 94 = .ok (.aload_n 1, 1) := by decide +kernel
theorem dX0_playShow_95 : decode cX0_playShow 95 = .ok (.getfield 61, 3) := by decide +kernel
theorem dX0_playShow_98 : decode cX0_playShow 98 = .ok (.iload_n 2, 1) := by decide +kernel
theorem dX0_playShow_99 : decode cX0_playShow 99 = .ok (.iaload, 1) := by decide +kernel
theorem dX0_playShow_100 : decode cX0_playShow 100 = .ok (.iload_n 3, 1) := by decide +kernel
theorem dX0_playShow_101 : decode cX0_playShow 101 = .ok (.iadd, 1) := by decide +kernel
theorem dX0_playShow_102 : decode cX0_playShow 102 = .ok (.invokestatic 51, 3) := by decide +kernel
theorem dX0_playShow_105 : decode cX0_playShow 105 = .ok (.istore 7, 2) := by decide +kernel
theorem dX0_playShow_107 : decode cX0_playShow 107 = .ok (.aload_n 0, 1) := by decide +kernel
theorem dX0_playShow_108 : decode cX0_playShow 108 = .ok (.getfield 9, 3) := by decide +kernel
theorem dX0_playShow_111 : decode cX0_playShow 111 = .ok (.iload_n 2, 1) := by decide +kernel
theorem dX0_playShow_112 : decode cX0_playShow 112 = .ok (.iload 5, 2) := by decide +kernel
theorem dX0_playShow_114 : decode cX0_playShow 114 = .ok (.iastore, 1) := by decide +kernel
theorem dX0_playShow_115 : decode cX0_playShow 115 = .ok (.aload_n 0, 1) := by decide +kernel
theorem dX0_playShow_116 : decode cX0_playShow 116 = .ok (.getfield 15, 3) := by decide +kernel
theorem dX0_playShow_119 : decode cX0_playShow 119 = .ok (.iload_n 2, 1) := by decide +kernel
theorem dX0_playShow_120 : decode cX0_playShow 120 = .ok (.iload 7, 2) := by decide +kernel
theorem dX0_playShow_122 : decode cX0_playShow 122 = .ok (.iload 6, 2) := by decide +kernel
theorem dX0_playShow_124 : decode cX0_playShow 124 = .ok (.invokestatic 64, 3) := by decide +kernel
theorem dX0_playShow_127 : decode cX0_playShow 127 = .ok (.iastore, 1) := by decide +kernel
theorem dX0_playShow_128 : decode cX0_playShow 128 = .ok (.aload_n 0, 1) := by decide +kernel
theorem dX0_playShow_129 : decode cX0_playShow 129 = .ok (.getfield 21, 3) := by decide +kernel
theorem dX0_playShow_132 : decode cX0_playShow 132 = .ok (.iload_n 2, 1) := by decide +kernel
theorem dX0_playShow_133 : decode cX0_playShow 133 = .ok (.iload 7, 2) := by decide +kernel
theorem dX0_playShow_135 : decode cX0_playShow 135 = .ok (.iload 6, 2) := by decide +kernel
theorem dX0_playShow_137 : decode cX0_playShow 137 = .ok (.if_icmp .le 7, 3) := by decide +kernel
theorem dX0_playShow_140 : decode cX0_playShow 140 = .ok (.iconst 1, 1) := by decide +kernel
theorem dX0_playShow_141 : decode cX0_playShow 141 = .ok (.goto 4, 3) := by decide +kernel
theorem dX0_playShow_144 : decode cX0_playShow 144 = .ok (.iconst 0, 1) := by decide +kernel
theorem dX0_playShow_145 : decode cX0_playShow 145 = .ok (.bastore, 1) := by decide +kernel
theorem dX0_playShow_146 : decode cX0_playShow 146 = .ok (.aload_n 0, 1) := by decide +kernel
theorem dX0_playShow_147 : decode cX0_playShow 147 = .ok (.getfield 25, 3) := by decide +kernel
theorem dX0_playShow_150 : decode cX0_playShow 150 = .ok (.iload 4, 2) := by decide +kernel
theorem dX0_playShow_152 : decode cX0_playShow 152 = .ok (.iload 5, 2) := by decide +kernel
theorem dX0_playShow_154 : decode cX0_playShow 154 = .ok (.aload_n 0, 1) := by decide +kernel
theorem dX0_playShow_155 : decode cX0_playShow 155 = .ok (.getfield 15, 3) := by decide +kernel
theorem dX0_playShow_158 : decode cX0_playShow 158 = .ok (.iload_n 2, 1) := by decide +kernel
theorem dX0_playShow_159 : decode cX0_playShow 159 = .ok (.iaload, 1) := by decide +kernel
theorem dX0_playShow_160 : decode cX0_playShow 160 = .ok (.iadd, 1) := by decide +kernel
theorem dX0_playShow_161 : decode cX0_playShow 161 = .ok (.iastore, 1) := by decide +kernel
theorem dX0_playShow_162 : decode cX0_playShow 162 = .ok (.return_, 1) := by decide +kernel
theorem dX0_isDropped_0 : decode cX0_isDropped 0 = .ok (.aload_n 0, 1) := by decide +kernel
theorem dX0_isDropped_1 : decode cX0_isDropped 1 = .ok (.getfield 9, 3) := by decide +kernel
theorem dX0_isDropped_4 : decode cX0_isDropped 4 = .ok (.iload_n 1, 1) := by decide +kernel
theorem dX0_isDropped_5 : decode cX0_isDropped 5 = .ok (.iaload, 1) := by decide +kernel
theorem dX0_isDropped_6 : decode cX0_isDropped 6 = .ok (.iconst (-1), 1) := by decide +kernel
theorem dX0_isDropped_7 : decode cX0_isDropped 7 = .ok (.if_icmp .ne 7, 3) := by decide +kernel
theorem dX0_isDropped_10 : decode cX0_isDropped 10 = .ok (.iconst 1, 1) := by decide +kernel
theorem dX0_isDropped_11 : decode cX0_isDropped 11 = .ok (.goto 4, 3) := by decide +kernel
theorem dX0_isDropped_14 : decode cX0_isDropped 14 = .ok (.iconst 0, 1) := by decide +kernel
theorem dX0_isDropped_15 : decode cX0_isDropped 15 = .ok (.ireturn, 1) := by decide +kernel
theorem dX0_isDelayed_0 : decode cX0_isDelayed 0 = .ok (.aload_n 0, 1) := by decide +kernel
theorem dX0_isDelayed_1 : decode cX0_isDelayed 1 = .ok (.iload_n 1, 1) := by decide +kernel
theorem dX0_isDelayed_2 : decode cX0_isDelayed 2 = .ok (.invokevirtual 67, 3) := by decide +kernel
theorem dX0_isDelayed_5 : decode cX0_isDelayed 5 = .ok (.ifCond .ne 16, 3) := by decide +kernel
theorem dX0_isDelayed_8 : decode cX0_isDelayed 8 = .ok (.aload_n 0, 1) := by decide +kernel
theorem dX0_isDelayed_9 : decode cX0_isDelayed 9 = .ok (.getfield 18, 3) := by decide +kernel
theorem dX0_isDelayed_12 : decode cX0_isDelayed 12 = .ok (.iload_n 1, 1) := by decide +kernel
theorem dX0_isDelayed_13 : decode cX0_isDelayed 13 = .ok (.iaload, 1) := by decide +kernel
theorem dX0_isDelayed_14 : decode cX0_isDelayed 14 = .ok (.ifCond .le 7, 3) := by decide +kernel
theorem dX0_isDelayed_17 : decode cX0_isDelayed 17 = .ok (.iconst 1, 1) := by decide +kernel
theorem dX0_isDelayed_18 : decode cX0_isDelayed 18 = .ok (.goto 4, 3) := by decide +kernel
theorem dX0_isDelayed_21 : decode cX0_isDelayed 21 = .ok (.iconst 0, 1) := by decide +kernel
theorem dX0_isDelayed_22 : decode cX0_isDelayed 22 = .ok (.ireturn, 1) := by decide +kernel
theorem dX0_fate_0 : decode cX0_fate 0 = .ok (.aload_n 0, 1) := by decide +kernel
theorem dX0_fate_1 : decode cX0_fate 1 = .ok (.iload_n 1, 1) := by decide +kernel
theorem dX0_fate_2 : decode cX0_fate 2 = .ok (.invokevirtual 67, 3) := by decide +kernel
theorem dX0_fate_5 : decode cX0_fate 5 = .ok (.ifCond .eq 7, 3) := by decide +kernel
theorem dX0_fate_8 : decode cX0_fate 8 = .ok (.iconst 2, 1) := by decide +kernel
theorem dX0_fate_9 : decode cX0_fate 9 = .ok (.goto 16, 3) := by decide +kernel
theorem dX0_fate_12 : decode cX0_fate 12 = .ok (.aload_n 0, 1) := by decide +kernel
theorem dX0_fate_13 : decode cX0_fate 13 = .ok (.iload_n 1, 1) := by decide +kernel
theorem dX0_fate_14 : decode cX0_fate 14 = .ok (.invokevirtual 71, 3) := by decide +kernel
theorem dX0_fate_17 : decode cX0_fate 17 = .ok (.ifCond .eq 7, 3) := by decide +kernel
theorem dX0_fate_20 : decode cX0_fate 20 = .ok (.iconst 1, 1) := by decide +kernel
theorem dX0_fate_21 : decode cX0_fate 21 = .ok (.goto 4, 3) := by decide +kernel
theorem dX0_fate_24 : decode cX0_fate 24 = .ok (.iconst 0, 1) := by decide +kernel
theorem dX0_fate_25 : decode cX0_fate 25 = .ok (.istore_n 2, 1) := by decide +kernel
theorem dX0_fate_26 : decode cX0_fate 26 = .ok (.aload_n 0, 1) := by decide +kernel
theorem dX0_fate_27 : decode cX0_fate 27 = .ok (.getfield 21, 3) := by decide +kernel
theorem dX0_fate_30 : decode cX0_fate 30 = .ok (.iload_n 1, 1) := by decide +kernel
theorem dX0_fate_31 : decode cX0_fate 31 = .ok (.baload, 1) := by decide +kernel
theorem dX0_fate_32 : decode cX0_fate 32 = .ok (.ifCond .eq 9, 3) := by decide +kernel
theorem dX0_fate_35 : decode cX0_fate 35 = .ok (.iload_n 2, 1) := by decide +kernel
theorem dX0_fate_36 : decode cX0_fate 36 = .ok (.iconst 4, 1) := by decide +kernel
theorem dX0_fate_37 : decode cX0_fate 37 = .ok (.iadd, 1) := by decide +kernel
theorem dX0_fate_38 : decode cX0_fate 38 = .ok (.goto 4, 3) := by decide +kernel
theorem dX0_fate_41 : decode cX0_fate 41 = .ok (.iload_n 2, 1) := by decide +kernel
theorem dX0_fate_42 : decode cX0_fate 42 = .ok (.ireturn, 1) := by decide +kernel
theorem dX0_worthOfGroup_0 : decode cX0_worthOfGroup 0 = .ok (.iconst 0, 1) := by decide +kernel
theorem dX0_worthOfGroup_1 : decode cX0_worthOfGroup 1 = .ok (.istore_n 3, 1) := by decide +kernel
theorem dX0_worthOfGroup_2 : decode cX0_worthOfGroup 2 = .ok (.iconst 0, 1) := by decide +kernel
theorem dX0_worthOfGroup_3 : decode cX0_worthOfGroup 3 = .ok (.istore 4, 2) := by decide +kernel
theorem dX0_worthOfGroup_5 : decode cX0_worthOfGroup 5 = .ok (.iload 4, 2) := by decide +kernel
theorem dX0_worthOfGroup_7 : decode cX0_worthOfGroup 7 = .ok (.aload_n 1, 1) := by decide +kernel
theorem dX0_worthOfGroup_8 : decode cX0_worthOfGroup 8 = .ok (.getfield 37, 3) := by decide +kernel
theorem dX0_worthOfGroup_11 : decode cX0_worthOfGroup 11 = .ok (.if_icmp .ge 41, 3) := by decide +kernel
theorem dX0_worthOfGroup_14 : decode cX0_worthOfGroup 14 = .ok (.aload_n 1, 1) := by decide +kernel
theorem dX0_worthOfGroup_15 : decode cX0_worthOfGroup 15 = .ok (.getfield 74, 3) := by decide +kernel
theorem dX0_worthOfGroup_18 : decode cX0_worthOfGroup 18 = .ok (.iload 4, 2) := by decide +kernel
theorem dX0_worthOfGroup_20 : decode cX0_worthOfGroup 20 = .ok (.iaload, 1) := by decide +kernel
theorem dX0_worthOfGroup_21 : decode cX0_worthOfGroup 21 = .ok (.iload_n 2, 1) := by decide +kernel
theorem dX0_worthOfGroup_22 : decode cX0_worthOfGroup 22 = .ok (.if_icmp .ne 24, 3) := by decide +kernel
theorem dX0_worthOfGroup_25 : decode cX0_worthOfGroup 25 = .ok (.iload_n 3, 1) := by decide +kernel
theorem dX0_worthOfGroup_26 : decode cX0_worthOfGroup 26 = .ok (.aload_n 1, 1) := by decide +kernel
theorem dX0_worthOfGroup_27 : decode cX0_worthOfGroup 27 = .ok (.aload_n 1, 1) := by decide +kernel
theorem dX0_worthOfGroup_28 : decode cX0_worthOfGroup 28 = .ok (.getfield 77, 3) := by decide +kernel
theorem dX0_worthOfGroup_31 : decode cX0_worthOfGroup 31 = .ok (.iload 4, 2) := by decide +kernel
theorem dX0_worthOfGroup_33 : decode cX0_worthOfGroup 33 = .ok (.iaload, 1) := by decide +kernel
theorem dX0_worthOfGroup_34 : decode cX0_worthOfGroup 34 = .ok (.aload_n 0, 1) := by decide +kernel
theorem dX0_worthOfGroup_35 : decode cX0_worthOfGroup 35 = .ok (.getfield 15, 3) := by decide +kernel
theorem dX0_worthOfGroup_38 : decode cX0_worthOfGroup 38 = .ok (.iload 4, 2) := by decide +kernel
theorem dX0_worthOfGroup_40 : decode cX0_worthOfGroup 40 = .ok (.iaload, 1) := by decide +kernel
theorem dX0_worthOfGroup_41 : decode cX0_worthOfGroup 41 = .ok (.invokevirtual 80, 3) := by decide +kernel
theorem dX0_worthOfGroup_44 : decode cX0_worthOfGroup 44 = .ok (.iadd, 1) := by decide +kernel
theorem dX0_worthOfGroup_45 : decode cX0_worthOfGroup 45 = .ok (.istore_n 3, 1) := by decide +kernel
theorem dX0_worthOfGroup_46 : decode cX0_worthOfGroup 46 = .ok (.iinc 4 1, 3) := by decide +kernel
theorem dX0_worthOfGroup_49 : decode cX0_worthOfGroup 49 = .ok (.goto (-44), 3) := by decide +kernel
theorem dX0_worthOfGroup_52 : decode cX0_worthOfGroup 52 = .ok (.iload_n 3, 1) := by decide +kernel
theorem dX0_worthOfGroup_53 : decode cX0_worthOfGroup 53 = .ok (.ireturn, 1) := by decide +kernel
theorem dX0_sponsorsInHour_0 : decode cX0_sponsorsInHour 0 = .ok (.iconst 0, 1) := by decide +kernel
theorem dX0_sponsorsInHour_1 : decode cX0_sponsorsInHour 1 = .ok (.istore 4, 2) := by decide +kernel
theorem dX0_sponsorsInHour_3 : decode cX0_sponsorsInHour 3 = .ok (.iconst 0, 1) := by decide +kernel
theorem dX0_sponsorsInHour_4 : decode cX0_sponsorsInHour 4 = .ok (.istore 5, 2) := by decide +kernel
theorem dX0_sponsorsInHour_6 : decode cX0_sponsorsInHour 6 = .ok (.iload 5, 2) := by decide +kernel
theorem dX0_sponsorsInHour_8 : decode cX0_sponsorsInHour 8 = .ok (.aload_n 1, 1) := by decide +kernel
theorem dX0_sponsorsInHour_9 : decode cX0_sponsorsInHour 9 = .ok (.getfield 37, 3) := by decide +kernel
theorem dX0_sponsorsInHour_12 : decode cX0_sponsorsInHour 12 = .ok (.if_icmp .ge 62, 3) := by decide +kernel
theorem dX0_sponsorsInHour_15 : decode cX0_sponsorsInHour 15 = .ok (.aload_n 1, 1) := by decide +kernel
theorem dX0_sponsorsInHour_16 : decode cX0_sponsorsInHour 16 = .ok (.getfield 47, 3) := by decide +kernel
theorem dX0_sponsorsInHour_19 : decode cX0_sponsorsInHour 19 = .ok (.iload 5, 2) := by decide +kernel
theorem dX0_sponsorsInHour_21 : decode cX0_sponsorsInHour 21 = .ok (.iaload, 1) := by decide +kernel
theorem dX0_sponsorsInHour_22 : decode cX0_sponsorsInHour 22 = .ok (.iload_n 2, 1) := by decide +kernel
theorem dX0_sponsorsInHour_23 : decode cX0_sponsorsInHour 23 = .ok (.if_icmp .ne 45, 3) := by decide +kernel
theorem dX0_sponsorsInHour_26 : decode cX0_sponsorsInHour 26 = .ok (.aload_n 0, 1) := by decide +kernel
theorem dX0_sponsorsInHour_27 : decode cX0_sponsorsInHour 27 = .ok (.iload 5, 2) := by decide +kernel
theorem dX0_sponsorsInHour_29 : decode cX0_sponsorsInHour 29 = .ok (.invokevirtual 67, 3) := by decide +kernel
theorem dX0_sponsorsInHour_32 : decode cX0_sponsorsInHour 32 = .ok (.ifCond .ne 36, 3) := by decide +kernel
theorem dX0_sponsorsInHour_35 : decode cX0_sponsorsInHour 35 = .ok (.iload 4, 2) := by decide +kernel
theorem dX0_sponsorsInHour_37 : decode cX0_sponsorsInHour 37 = .ok (.aload_n 0, 1) := by decide +kernel
theorem dX0_sponsorsInHour_38 : decode cX0_sponsorsInHour 38 = .ok (.getfield 9, 3) := by decide +kernel
theorem dX0_sponsorsInHour_41 : decode cX0_sponsorsInHour 41 = .ok (.iload 5, 2) := by decide +kernel
theorem dX0_sponsorsInHour_43 : decode cX0_sponsorsInHour 43 = .ok (.iaload, 1) := by decide +kernel
theorem dX0_sponsorsInHour_44 : decode cX0_sponsorsInHour 44 = .ok (.aload_n 1, 1) := by decide +kernel
theorem dX0_sponsorsInHour_45 : decode cX0_sponsorsInHour 45 = .ok (.getfield 83, 3) := by decide +kernel
theorem dX0_sponsorsInHour_48 : decode cX0_sponsorsInHour 48 = .ok (.iload 5, 2) := by decide +kernel
theorem dX0_sponsorsInHour_50 : decode cX0_sponsorsInHour 50 = .ok (.iaload, 1) := by decide +kernel
theorem dX0_sponsorsInHour_51 : decode cX0_sponsorsInHour 51 = .ok (.aload_n 0, 1) := by decide +kernel
theorem dX0_sponsorsInHour_52 : decode cX0_sponsorsInHour 52 = .ok (.getfield 15, 3) := by decide +kernel
theorem dX0_sponsorsInHour_55 : decode cX0_sponsorsInHour 55 = .ok (.iload 5, 2) := by decide +kernel
theorem dX0_sponsorsInHour_57 : decode cX0_sponsorsInHour 57 = .ok (.iaload, 1) := by decide +kernel
theorem dX0_sponsorsInHour_58 : decode cX0_sponsorsInHour 58 = .ok (.invokestatic 64, 3) := by decide +kernel
theorem dX0_sponsorsInHour_61 : decode cX0_sponsorsInHour 61 = .ok (.iload_n 3, 1) := by decide +kernel
theorem dX0_sponsorsInHour_62 : decode cX0_sponsorsInHour 62 = .ok (.invokestatic 86, 3) := by decide +kernel
theorem dX0_sponsorsInHour_65 : decode cX0_sponsorsInHour 65 = .ok (.iadd, 1) := by decide +kernel
theorem dX0_sponsorsInHour_66 : decode cX0_sponsorsInHour 66 = .ok (.istore 4, 2) := by decide +kernel
theorem dX0_sponsorsInHour_68 : decode cX0_sponsorsInHour 68 = .ok (.iinc 5 1, 3) := by decide +kernel
theorem dX0_sponsorsInHour_71 : decode cX0_sponsorsInHour 71 = .ok (.goto (-65), 3) := by decide +kernel
theorem dX0_sponsorsInHour_74 : decode cX0_sponsorsInHour 74 = .ok (.iload 4, 2) := by decide +kernel
theorem dX0_sponsorsInHour_76 : decode cX0_sponsorsInHour 76 = .ok (.ireturn, 1) := by decide +kernel
theorem dX0_dayProperty_0 : decode cX0_dayProperty 0 = .ok (.iload_n 3, 1) := by decide +kernel
theorem dX0_dayProperty_1 : decode cX0_dayProperty 1 = .ok (.bipush 6, 2) := by decide +kernel
theorem dX0_dayProperty_3 : decode cX0_dayProperty 3 = .ok (.if_icmp .ne 10, 3) := by decide +kernel
theorem dX0_dayProperty_6 : decode cX0_dayProperty 6 = .ok (.aload_n 0, 1) := by decide +kernel
theorem dX0_dayProperty_7 : decode cX0_dayProperty 7 = .ok (.getfield 25, 3) := by decide +kernel
theorem dX0_dayProperty_10 : decode cX0_dayProperty 10 = .ok (.iload_n 2, 1) := by decide +kernel
theorem dX0_dayProperty_11 : decode cX0_dayProperty 11 = .ok (.iaload, 1) := by decide +kernel
theorem dX0_dayProperty_12 : decode cX0_dayProperty 12 = .ok (.ireturn, 1) := by decide +kernel
theorem dX0_dayProperty_13 : decode cX0_dayProperty 13 = .ok (.iload_n 3, 1) := by decide +kernel
theorem dX0_dayProperty_14 : decode cX0_dayProperty 14 = .ok (.bipush 7, 2) := by decide +kernel
theorem dX0_dayProperty_16 : decode cX0_dayProperty 16 = .ok (.if_icmp .ne 10, 3) := by decide +kernel
theorem dX0_dayProperty_19 : decode cX0_dayProperty 19 = .ok (.aload_n 0, 1) := by decide +kernel
theorem dX0_dayProperty_20 : decode cX0_dayProperty 20 = .ok (.aload_n 1, 1) := by decide +kernel
theorem dX0_dayProperty_21 : decode cX0_dayProperty 21 = .ok (.iload_n 2, 1) := by decide +kernel
theorem dX0_dayProperty_22 : decode cX0_dayProperty 22 = .ok (.invokevirtual 90, 3) := by decide +kernel
theorem dX0_dayProperty_25 : decode cX0_dayProperty 25 = .ok (.ireturn, 1) := by decide +kernel
theorem dX0_dayProperty_26 : decode cX0_dayProperty 26 = .ok (.iconst 0, 1) := by decide +kernel
theorem dX0_dayProperty_27 : decode cX0_dayProperty 27 = .ok (.istore 4, 2) := by decide +kernel
theorem dX0_dayProperty_29 : decode cX0_dayProperty 29 = .ok (.iconst 0, 1) := by decide +kernel
theorem dX0_dayProperty_30 : decode cX0_dayProperty 30 = .ok (.istore 5, 2) := by decide +kernel
theorem dX0_dayProperty_32 : decode cX0_dayProperty 32 = .ok (.iload 5, 2) := by decide +kernel
theorem dX0_dayProperty_34 : decode cX0_dayProperty 34 = .ok (.aload_n 1, 1) := by decide +kernel
theorem dX0_dayProperty_35 : decode cX0_dayProperty 35 = .ok (.getfield 37, 3) := by decide +kernel
theorem dX0_dayProperty_38 : decode cX0_dayProperty 38 = .ok (.if_icmp .ge 33, 3) := by decide +kernel
theorem dX0_dayProperty_41 : decode cX0_dayProperty 41 = .ok (.aload_n 1, 1) := by decide +kernel
theorem dX0_dayProperty_42 : decode cX0_dayProperty 42 = .ok (.getfield 47, 3) := by decide +kernel
theorem dX0_dayProperty_45 : decode cX0_dayProperty 45 = .ok (.iload 5, 2) := by decide +kernel
theorem dX0_dayProperty_47 : decode cX0_dayProperty 47 = .ok (.iaload, 1) := by decide +kernel
theorem dX0_dayProperty_48 : decode cX0_dayProperty 48 = .ok (.iload_n 2, 1) := by decide +kernel
theorem dX0_dayProperty_49 : decode cX0_dayProperty 49 = .ok (.if_icmp .ne 16, 3) := by decide +kernel
theorem dX0_dayProperty_52 : decode cX0_dayProperty 52 = .ok (.iload 4, 2) := by decide +kernel
theorem dX0_dayProperty_54 : decode cX0_dayProperty 54 = .ok (.aload_n 0, 1) := by decide +kernel
theorem dX0_dayProperty_55 : decode cX0_dayProperty 55 = .ok (.aload_n 1, 1) := by decide +kernel
theorem dX0_dayProperty_56 : decode cX0_dayProperty 56 = .ok (.iload 5, 2) := by decide +kernel
theorem dX0_dayProperty_58 : decode cX0_dayProperty 58 = .ok (.iload_n 3, 1) := by decide +kernel
theorem dX0_dayProperty_59 : decode cX0_dayProperty 59 = .ok (.invokevirtual 94, 3) := by decide +kernel
theorem dX0_dayProperty_62 : decode cX0_dayProperty 62 = .ok (.iadd, 1) := by decide +kernel
theorem dX0_dayProperty_63 : decode cX0_dayProperty 63 = .ok (.istore 4, 2) := by decide +kernel
theorem dX0_dayProperty_65 : decode cX0_dayProperty 65 = .ok (.iinc 5 1, 3) := by decide +kernel
theorem dX0_dayProperty_68 : decode cX0_dayProperty 68 = .ok (.goto (-36), 3) := by decide +kernel
theorem dX0_dayProperty_71 : decode cX0_dayProperty 71 = .ok (.iload 4, 2) := by decide +kernel
theorem dX0_dayProperty_73 : decode cX0_dayProperty 73 = .ok (.ireturn, 1) := by decide +kernel
theorem dX0_minutesOfWeek_0 : decode cX0_minutesOfWeek 0 = .ok (.aload_n 0, 1) := by decide +kernel
theorem dX0_minutesOfWeek_1 : decode cX0_minutesOfWeek 1 = .ok (.aload_n 1, 1) := by decide +kernel
theorem dX0_minutesOfWeek_2 : decode cX0_minutesOfWeek 2 = .ok (.iconst 2, 1) := by decide +kernel
theorem dX0_minutesOfWeek_3 : decode cX0_minutesOfWeek 3 = .ok (.invokevirtual 98, 3) := by decide +kernel
theorem dX0_minutesOfWeek_6 : decode cX0_minutesOfWeek 6 = .ok (.ireturn, 1) := by decide +kernel
theorem dX0_delayedShows_0 : decode cX0_delayedShows 0 = .ok (.aload_n 0, 1) := by decide +kernel
theorem dX0_delayedShows_1 : decode cX0_delayedShows 1 = .ok (.aload_n 1, 1) := by decide +kernel
theorem dX0_delayedShows_2 : decode cX0_delayedShows 2 = .ok (.iconst 3, 1) := by decide +kernel
theorem dX0_delayedShows_3 : decode cX0_delayedShows 3 = .ok (.invokevirtual 98, 3) := by decide +kernel
theorem dX0_delayedShows_6 : decode cX0_delayedShows 6 = .ok (.ireturn, 1) := by decide +kernel
theorem dX0_droppedShows_0 : decode cX0_droppedShows 0 = .ok (.aload_n 0, 1) := by decide +kernel
theorem dX0_droppedShows_1 : decode cX0_droppedShows 1 = .ok (.aload_n 1, 1) := by decide +kernel
theorem dX0_droppedShows_2 : decode cX0_droppedShows 2 = .ok (.iconst 4, 1) := by decide +kernel
theorem dX0_droppedShows_3 : decode cX0_droppedShows 3 = .ok (.invokevirtual 98, 3) := by decide +kernel
theorem dX0_droppedShows_6 : decode cX0_droppedShows 6 = .ok (.ireturn, 1) := by decide +kernel
theorem dX0_sumOverWeek_0 : decode cX0_sumOverWeek 0 = .ok (.iconst 0, 1) := by decide +kernel
theorem dX0_sumOverWeek_1 : decode cX0_sumOverWeek 1 = .ok (.istore_n 3, 1) := by decide +kernel
theorem dX0_sumOverWeek_2 : decode cX0_sumOverWeek 2 = .ok (.iconst 0, 1) := by decide +kernel
theorem dX0_sumOverWeek_3 : decode cX0_sumOverWeek 3 = .ok (.istore 4, 2) := by decide +kernel
theorem dX0_sumOverWeek_5 : decode cX0_sumOverWeek 5 = .ok (.iload 4, 2) := by decide +kernel
theorem dX0_sumOverWeek_7 : decode cX0_sumOverWeek 7 = .ok (.aload_n 1, 1) := by decide +kernel
theorem dX0_sumOverWeek_8 : decode cX0_sumOverWeek 8 = .ok (.getfield 37, 3) := by decide +kernel
theorem dX0_sumOverWeek_11 : decode cX0_sumOverWeek 11 = .ok (.if_icmp .ge 20, 3) := by decide +kernel
theorem dX0_sumOverWeek_14 : decode cX0_sumOverWeek 14 = .ok (.iload_n 3, 1) := by decide +kernel
theorem dX0_sumOverWeek_15 : decode cX0_sumOverWeek 15 = .ok (.aload_n 0, 1) := by decide +kernel
theorem dX0_sumOverWeek_16 : decode cX0_sumOverWeek 16 = .ok (.aload_n 1, 1) := by decide +kernel
theorem dX0_sumOverWeek_17 : decode cX0_sumOverWeek 17 = .ok (.iload 4, 2) := by decide +kernel
theorem dX0_sumOverWeek_19 : decode cX0_sumOverWeek 19 = .ok (.iload_n 2, 1) := by decide +kernel
theorem dX0_sumOverWeek_20 : decode cX0_sumOverWeek 20 = .ok (.invokevirtual 94, 3) := by decide +kernel
theorem dX0_sumOverWeek_23 : decode cX0_sumOverWeek 23 = .ok (.iadd, 1) := by decide +kernel
theorem dX0_sumOverWeek_24 : decode cX0_sumOverWeek 24 = .ok (.istore_n 3, 1) := by decide +kernel
theorem dX0_sumOverWeek_25 : decode cX0_sumOverWeek 25 = .ok (.iinc 4 1, 3) := by decide +kernel
theorem dX0_sumOverWeek_28 : decode cX0_sumOverWeek 28 = .ok (.goto (-23), 3) := by decide +kernel
theorem dX0_sumOverWeek_31 : decode cX0_sumOverWeek 31 = .ok (.iload_n 3, 1) := by decide +kernel
theorem dX0_sumOverWeek_32 : decode cX0_sumOverWeek 32 = .ok (.ireturn, 1) := by decide +kernel
theorem dX0_partOfDay_0 : decode cX0_partOfDay 0 = .ok (.iload_n 3, 1) := by decide +kernel
theorem dX0_partOfDay_1 : decode cX0_partOfDay 1 = .ok (.tableswitch 79 0 4 #[35, 37, 44, 51, 65], 35) := by decide +kernel
theorem dX0_partOfDay_36 : decode cX0_partOfDay 36 = .ok (.iconst 1, 1) := by decide +kernel
theorem dX0_partOfDay_37 : decode cX0_partOfDay 37 = .ok (.ireturn, 1) := by decide +kernel
theorem dX0_partOfDay_38 : decode cX0_partOfDay 38 = .ok (.aload_n 1, 1) := by decide +kernel
theorem dX0_partOfDay_39 : decode cX0_partOfDay 39 = .ok (.getfield 61, 3) := by decide +kernel
theorem dX0_partOfDay_42 : decode cX0_partOfDay 42 = .ok (.iload_n 2, 1) := by decide +kernel
theorem dX0_partOfDay_43 : decode cX0_partOfDay 43 = .ok (.iaload, 1) := by decide +kernel
theorem dX0_partOfDay_44 : decode cX0_partOfDay 44 = .ok (.ireturn, 1) := by decide +kernel
theorem dX0_partOfDay_45 : decode cX0_partOfDay 45 = .ok (.aload_n 0, 1) := by decide +kernel
theorem dX0_partOfDay_46 : decode cX0_partOfDay 46 = .ok (.getfield 15, 3) := by decide +kernel
theorem dX0_partOfDay_49 : decode cX0_partOfDay 49 = .ok (.iload_n 2, 1) := by decide +kernel
theorem dX0_partOfDay_50 : decode cX0_partOfDay 50 = .ok (.iaload, 1) := by decide +kernel
theorem dX0_partOfDay_51 : decode cX0_partOfDay 51 = .ok (.ireturn, 1) := by decide +kernel
theorem dX0_partOfDay_52 : decode cX0_partOfDay 52 = .ok (.aload_n 0, 1) := by decide +kernel
theorem dX0_partOfDay_53 : decode cX0_partOfDay 53 = .ok (.iload_n 2, 1) := by decide +kernel
theorem dX0_partOfDay_54 : decode cX0_partOfDay 54 = .ok (.invokevirtual 71, 3) := by decide +kernel
theorem dX0_partOfDay_57 : decode cX0_partOfDay 57 = .ok (.ifCond .eq 7, 3) := by decide +kernel
theorem dX0_partOfDay_60 : decode cX0_partOfDay 60 = .ok (.iconst 1, 1) := by decide +kernel
theorem dX0_partOfDay_61 : decode cX0_partOfDay 61 = .ok (.goto 4, 3) := by decide +kernel
theorem dX0_partOfDay_64 : decode cX0_partOfDay 64 = .ok (.iconst 0, 1) := by decide +kernel
theorem dX0_partOfDay_65 : decode cX0_partOfDay 65 = .ok (.ireturn, 1) := by decide +kernel
theorem dX0_partOfDay_66 : decode cX0_partOfDay 66 = .ok (.aload_n 0, 1) := by decide +kernel
theorem dX0_partOfDay_67 : decode cX0_partOfDay 67 = .ok (.iload_n 2, 1) := by decide +kernel
theorem dX0_partOfDay_68 : decode cX0_partOfDay 68 = .ok (.invokevirtual 67, 3) := by decide +kernel
theorem dX0_partOfDay_71 : decode cX0_partOfDay 71 = .ok (.ifCond .eq 7, 3) := by decide +kernel
theorem dX0_partOfDay_74 : decode cX0_partOfDay 74 = .ok (.iconst 1, 1) := by decide +kernel
theorem dX0_partOfDay_75 : decode cX0_partOfDay 75 = .ok (.goto 4, 3) := by decide +kernel
theorem dX0_partOfDay_78 : decode cX0_partOfDay 78 = .ok (.iconst 0, 1) := by decide +kernel
theorem dX0_partOfDay_79 : decode cX0_partOfDay 79 = .ok (.ireturn, 1) := by decide +kernel
theorem dX0_partOfDay_80 : decode cX0_partOfDay 80 = .ok (.aload_n 0, 1) := by decide +kernel
theorem dX0_partOfDay_81 : decode cX0_partOfDay 81 = .ok (.iload_n 2, 1) := by decide +kernel
theorem dX0_partOfDay_82 : decode cX0_partOfDay 82 = .ok (.invokevirtual 67, 3) := by decide +kernel
theorem dX0_partOfDay_85 : decode cX0_partOfDay 85 = .ok (.ifCond .eq 7, 3) := by decide +kernel
theorem dX0_partOfDay_88 : decode cX0_partOfDay 88 = .ok (.iconst 0, 1) := by decide +kernel
theorem dX0_partOfDay_89 : decode cX0_partOfDay 89 = .ok (.goto 9, 3) := by decide +kernel
theorem dX0_partOfDay_92 : decode cX0_partOfDay 92 = .ok (.aload_n 0, 1) := by decide +kernel
theorem dX0_partOfDay_93 : decode cX0_partOfDay 93 = .ok (.getfield 18, 3) := by decide +kernel
theorem dX0_partOfDay_96 : decode cX0_partOfDay 96 = .ok (.iload_n 2, 1) := by decide +kernel
theorem dX0_partOfDay_97 : decode cX0_partOfDay 97 = .ok (.iaload, 1) := by decide +kernel
theorem dX0_partOfDay_98 : decode cX0_partOfDay 98 = .ok (.ireturn, 1) := by decide +kernel
theorem dX0_hoursAboveLimit_0 : decode cX0_hoursAboveLimit 0 = .ok (.iconst 0, 1) := by decide +kernel
theorem dX0_hoursAboveLimit_1 : decode cX0_hoursAboveLimit 1 = .ok (.istore_n 3, 1) := by decide +kernel
theorem dX0_hoursAboveLimit_2 : decode cX0_hoursAboveLimit 2 = .ok (.iconst 0, 1) := by decide +kernel
theorem dX0_hoursAboveLimit_3 : decode cX0_hoursAboveLimit 3 = .ok (.istore 4, 2) := by decide +kernel
theorem dX0_hoursAboveLimit_5 : decode cX0_hoursAboveLimit 5 = .ok (.iload 4, 2) := by decide +kernel
theorem dX0_hoursAboveLimit_7 : decode cX0_hoursAboveLimit 7 = .ok (.bipush 24, 2) := by decide +kernel
theorem dX0_hoursAboveLimit_9 : decode cX0_hoursAboveLimit 9 = .ok (.if_icmp .ge 30, 3) := by decide +kernel
theorem dX0_hoursAboveLimit_12 : decode cX0_hoursAboveLimit 12 = .ok (.aload_n 0, 1) := by decide +kernel
theorem dX0_hoursAboveLimit_13 : decode cX0_hoursAboveLimit 13 = .ok (.aload_n 1, 1) := by decide +kernel
theorem dX0_hoursAboveLimit_14 : decode cX0_hoursAboveLimit 14 = .ok (.iload_n 2, 1) := by decide +kernel
theorem dX0_hoursAboveLimit_15 : decode cX0_hoursAboveLimit 15 = .ok (.iload 4, 2) := by decide +kernel
theorem dX0_hoursAboveLimit_17 : decode cX0_hoursAboveLimit 17 = .ok (.invokevirtual 101, 3) := by decide +kernel
theorem dX0_hoursAboveLimit_20 : decode cX0_hoursAboveLimit 20 = .ok (.aload_n 1, 1) := by decide +kernel
theorem dX0_hoursAboveLimit_21 : decode cX0_hoursAboveLimit 21 = .ok (.getfield 32, 3) := by decide +kernel
theorem dX0_hoursAboveLimit_24 : decode cX0_hoursAboveLimit 24 = .ok (.bipush 6, 2) := by decide +kernel
theorem dX0_hoursAboveLimit_26 : decode cX0_hoursAboveLimit 26 = .ok (.iaload, 1) := by decide +kernel
theorem dX0_hoursAboveLimit_27 : decode cX0_hoursAboveLimit 27 = .ok (.if_icmp .le 6, 3) := by decide +kernel
theorem dX0_hoursAboveLimit_30 : decode cX0_hoursAboveLimit 30 = .ok (.iinc 3 1, 3) := by decide +kernel
theorem dX0_hoursAboveLimit_33 : decode cX0_hoursAboveLimit 33 = .ok (.iinc 4 1, 3) := by decide +kernel
theorem dX0_hoursAboveLimit_36 : decode cX0_hoursAboveLimit 36 = .ok (.goto (-31), 3) := by decide +kernel
theorem dX0_hoursAboveLimit_39 : decode cX0_hoursAboveLimit 39 = .ok (.iload_n 3, 1) := by decide +kernel
theorem dX0_hoursAboveLimit_40 : decode cX0_hoursAboveLimit 40 = .ok (.ireturn, 1) := by decide +kernel
theorem dX2_init_0 : decode cX2_init 0 = .ok (.aload_n 0, 1) := by decide +kernel
theorem dX2_init_1 : decode cX2_init 1 = .ok (.invokespecial 3, 3) := by decide +kernel
theorem dX2_init_4 : decode cX2_init 4 = .ok (.aload_n 0, 1) := by decide +kernel
theorem dX2_init_5 : decode cX2_init 5 = .ok (.bipush 6, 2) := by decide +kernel
theorem dX2_init_7 : decode cX2_init 7 = .ok (.anewarray 9, 3) := by decide +kernel
theorem dX2_init_10 : decode cX2_init 10 = .ok (.putfield 11, 3) := by decide +kernel
theorem dX2_init_13 : decode cX2_init 13 = .ok (.return_, 1) := by decide +kernel
theorem dX2_save_0 : decode cX2_save 0 = .ok (.aload_n 0, 1) := by decide +kernel
theorem dX2_save_1 : decode cX2_save 1 = .ok (.getfield 17, 3) := by decide +kernel
theorem dX2_save_4 : decode cX2_save 4 = .ok (.bipush 6, 2) := by decide +kernel
theorem dX2_save_6 : decode cX2_save 6 = .ok (.if_icmp .ne 26, 3) := by decide +kernel
theorem dX2_save_9 : decode cX2_save 9 = .ok (.aload_n 0, 1) := by decide +kernel
theorem dX2_save_10 : decode cX2_save 10 = .ok (.aload_n 0, 1) := by decide +kernel
theorem dX2_save_11 : decode cX2_save 11 = .ok (.getfield 21, 3) := by decide +kernel
theorem dX2_save_14 : decode cX2_save 14 = .ok (.iconst 1, 1) := by decide +kernel
theorem dX2_save_15 : decode cX2_save 15 = .ok (.iadd, 1) := by decide +kernel
theorem dX2_save_16 : decode cX2_save 16 = .ok (.bipush 6, 2) := by decide +kernel
theorem dX2_save_18 : decode cX2_save 18 = .ok (.irem, 1) := by decide +kernel
theorem dX2_save_19 : decode cX2_save 19 = .ok (.putfield 21, 3) := by decide +kernel
theorem dX2_save_22 : decode cX2_save 22 = .ok (.aload_n 0, 1) := by decide +kernel
theorem dX2_save_23 : decode cX2_save 23 = .ok (.dup, 1) := by decide +kernel
theorem dX2_save_24 : decode cX2_save 24 = .ok (.getfield 17, 3) := by decide +kernel
theorem dX2_save_27 : decode cX2_save 27 = .ok (.iconst 1, 1) := by decide +kernel
theorem dX2_save_28 : decode cX2_save 28 = .ok (.isub, 1) := by decide +kernel
theorem dX2_save_29 : decode cX2_save 29 = .ok (.putfield 17, 3) := by decide +kernel
theorem dX2_save_32 : decode cX2_save 32 = .ok (.aload_n 0, 1) := by decide +kernel
theorem dX2_save_33 : decode cX2_save 33 = .ok (.getfield 21, 3) := by decide +kernel
theorem dX2_save_36 : decode cX2_save 36 = .ok (.aload_n 0, 1) := by decide +kernel
theorem dX2_save_37 : decode cX2_save 37 = .ok (.getfield 17, 3) := by decide +kernel
theorem dX2_save_40 : decode cX2_save 40 = .ok (.iadd, 1) := by decide +kernel
theorem dX2_save_41 : decode cX2_save 41 = .ok (.bipush 6, 2) := by decide +kernel
theorem dX2_save_43 : decode cX2_save 43 = .ok (.irem, 1) := by decide +kernel
theorem dX2_save_44 : decode cX2_save 44 = .ok (.istore_n 2, 1) := by decide +kernel
theorem dX2_save_45 : decode cX2_save 45 = .ok (.aload_n 0, 1) := by decide +kernel
theorem dX2_save_46 : decode cX2_save 46 = .ok (.getfield 11, 3) := by decide +kernel
theorem dX2_save_49 : decode cX2_save 49 = .ok (.iload_n 2, 1) := by decide +kernel
theorem dX2_save_50 : decode cX2_save 50 = .ok (.aaload, 1) := by decide +kernel
theorem dX2_save_51 : decode cX2_save 51 = .ok (.ifnonnull 16, 3) := by decide +kernel
theorem dX2_save_54 : decode cX2_save 54 = .ok (.aload_n 0, 1) := by decide +kernel
theorem dX2_save_55 : decode cX2_save 55 = .ok (.getfield 11, 3) := by decide +kernel
theorem dX2_save_58 : decode cX2_save 58 = .ok (.iload_n 2, 1) := by decide +kernel
theorem dX2_save_59 : decode cX2_save 59 = .ok (.new 9, 3) := by decide +kernel
theorem dX2_save_62 : decode cX2_save 62 = .ok (.dup, 1) := by decide +kernel
theorem dX2_save_63 : decode cX2_save 63 = .ok (.invokespecial 24, 3) := by decide +kernel
theorem dX2_save_66 : decode cX2_save 66 = .ok (.aastore, 1) := by decide +kernel
theorem dX2_save_67 : decode cX2_save 67 = .ok (.aload_n 0, 1) := by decide +kernel
theorem dX2_save_68 : decode cX2_save 68 = .ok (.getfield 11, 3) := by decide +kernel
theorem dX2_save_71 : decode cX2_save 71 = .ok (.iload_n 2, 1) := by decide +kernel
theorem dX2_save_72 : decode cX2_save 72 = .ok (.aaload, 1) := by decide +kernel
theorem dX2_save_73 : decode cX2_save 73 = .ok (.aload_n 1, 1) := by decide +kernel
theorem dX2_save_74 : decode cX2_save 74 = .ok (.invokevirtual 25, 3) := by decide +kernel
theorem dX2_save_77 : decode cX2_save 77 = .ok (.aload_n 0, 1) := by decide +kernel
theorem dX2_save_78 : decode cX2_save 78 = .ok (.dup, 1) := by decide +kernel
theorem dX2_save_79 : decode cX2_save 79 = .ok (.getfield 17, 3) := by decide +kernel
theorem dX2_save_82 : decode cX2_save 82 = .ok (.iconst 1, 1) := by decide +kernel
theorem dX2_save_83 : decode cX2_save 83 = .ok (.iadd, 1) := by decide +kernel
theorem dX2_save_84 : decode cX2_save 84 = .ok (.putfield 17, 3) := by decide +kernel
theorem dX2_save_87 : decode cX2_save 87 = .ok (.return_, 1) := by decide +kernel
theorem dX2_restore_0 : decode cX2_restore 0 = .ok (.aload_n 0, 1) := by decide +kernel
theorem dX2_restore_1 : decode cX2_restore 1 = .ok (.getfield 17, 3) := by decide +kernel
theorem dX2_restore_4 : decode cX2_restore 4 = .ok (.ifCond .ne 4, 3) := by decide +kernel
theorem dX2_restore_7 : decode cX2_restore 7 = .ok (.return_, 1) := by decide +kernel
theorem dX2_restore_8 : decode cX2_restore 8 = .ok (.aload_n 0, 1) := by decide +kernel
theorem dX2_restore_9 : decode cX2_restore 9 = .ok (.dup, 1) := by decide +kernel
theorem dX2_restore_10 : decode cX2_restore 10 = .ok (.getfield 17, 3) := by decide +kernel
theorem dX2_restore_13 : decode cX2_restore 13 = .ok (.iconst 1, 1) := by decide +kernel
theorem dX2_restore_14 : decode cX2_restore 14 = .ok (.isub, 1) := by decide +kernel
theorem dX2_restore_15 : decode cX2_restore 15 = .ok (.putfield 17, 3) := by decide +kernel
theorem dX2_restore_18 : decode cX2_restore 18 = .ok (.aload_n 0, 1) := by decide +kernel
theorem dX2_restore_19 : decode cX2_restore 19 = .ok (.getfield 11, 3) := by decide +kernel
theorem dX2_restore_22 : decode cX2_restore 22 = .ok (.aload_n 0, 1) := by decide +kernel
theorem dX2_restore_23 : decode cX2_restore 23 = .ok (.getfield 21, 3) := by decide +kernel
theorem dX2_restore_26 : decode cX2_restore 26 = .ok (.aload_n 0, 1) := by decide +kernel
theorem dX2_restore_27 : decode cX2_restore 27 = .ok (.getfield 17, 3) := by decide +kernel
theorem dX2_restore_30 : decode cX2_restore 30 = .ok (.iadd, 1) := by decide +kernel
theorem dX2_restore_31 : decode cX2_restore 31 = .ok (.bipush 6, 2) := by decide +kernel
theorem dX2_restore_33 : decode cX2_restore 33 = .ok (.irem, 1) := by decide +kernel
theorem dX2_restore_34 : decode cX2_restore 34 = .ok (.aaload, 1) := by decide +kernel
theorem dX2_restore_35 : decode cX2_restore 35 = .ok (.astore_n 2, 1) := by decide +kernel
theorem dX2_restore_36 : decode cX2_restore 36 = .ok (.aload_n 2, 1) := by decide +kernel
theorem dX2_restore_37 : decode cX2_restore 37 = .ok (.ifnull 8, 3) := by decide +kernel
theorem dX2_restore_40 : decode cX2_restore 40 = .ok (.aload_n 1, 1) := by decide +kernel
theorem dX2_restore_41 : decode cX2_restore 41 = .ok (.aload_n 2, 1) := by decide +kernel
theorem dX2_restore_42 : decode cX2_restore 42 = .ok (.invokevirtual 25, 3) := by decide +kernel
theorem dX2_restore_45 : decode cX2_restore 45 = .ok (.return_, 1) := by decide +kernel
theorem dX3_init_0 : decode cX3_init 0 = .ok (.aload_n 0, 1) := by decide +kernel
theorem dX3_init_1 : decode cX3_init 1 = .ok (.invokespecial 3, 3) := by decide +kernel
theorem dX3_init_4 : decode cX3_init 4 = .ok (.aload_n 0, 1) := by decide +kernel
theorem dX3_init_5 : decode cX3_init 5 = .ok (.bipush 8, 2) := by decide +kernel
theorem dX3_init_7 : decode cX3_init 7 = .ok (.newarray .int, 2) := by decide +kernel
theorem dX3_init_9 : decode cX3_init 9 = .ok (.putfield 9, 3) := by decide +kernel
theorem dX3_init_12 : decode cX3_init 12 = .ok (.aload_n 0, 1) := by decide +kernel
theorem dX3_init_13 : decode cX3_init 13 = .ok (.bipush 6, 2) := by decide +kernel
theorem dX3_init_15 : decode cX3_init 15 = .ok (.newarray .int, 2) := by decide +kernel
theorem dX3_init_17 : decode cX3_init 17 = .ok (.putfield 15, 3) := by decide +kernel
theorem dX3_init_20 : decode cX3_init 20 = .ok (.aload_n 0, 1) := by decide +kernel
theorem dX3_init_21 : decode cX3_init 21 = .ok (.bipush 6, 2) := by decide +kernel
theorem dX3_init_23 : decode cX3_init 23 = .ok (.newarray .int, 2) := by decide +kernel
theorem dX3_init_25 : decode cX3_init 25 = .ok (.putfield 18, 3) := by decide +kernel
theorem dX3_init_28 : decode cX3_init 28 = .ok (.aload_n 0, 1) := by decide +kernel
theorem dX3_init_29 : decode cX3_init 29 = .ok (.bipush 6, 2) := by decide +kernel
theorem dX3_init_31 : decode cX3_init 31 = .ok (.newarray .int, 2) := by decide +kernel
theorem dX3_init_33 : decode cX3_init 33 = .ok (.putfield 21, 3) := by decide +kernel
theorem dX3_init_36 : decode cX3_init 36 = .ok (.aload_n 0, 1) := by decide +kernel
theorem dX3_init_37 : decode cX3_init 37 = .ok (.bipush 6, 2) := by decide +kernel
theorem dX3_init_39 : decode cX3_init 39 = .ok (.newarray .int, 2) := by decide +kernel
theorem dX3_init_41 : decode cX3_init 41 = .ok (.putfield 24, 3) := by decide +kernel
theorem dX3_init_44 : decode cX3_init 44 = .ok (.aload_n 0, 1) := by decide +kernel
theorem dX3_init_45 : decode cX3_init 45 = .ok (.bipush 6, 2) := by decide +kernel
theorem dX3_init_47 : decode cX3_init 47 = .ok (.newarray .int, 2) := by decide +kernel
theorem dX3_init_49 : decode cX3_init 49 = .ok (.putfield 27, 3) := by decide +kernel
theorem dX3_init_52 : decode cX3_init 52 = .ok (.aload_n 0, 1) := by decide +kernel
theorem dX3_init_53 : decode cX3_init 53 = .ok (.bipush 24, 2) := by decide +kernel
theorem dX3_init_55 : decode cX3_init 55 = .ok (.newarray .int, 2) := by decide +kernel
theorem dX3_init_57 : decode cX3_init 57 = .ok (.putfield 30, 3) := by decide +kernel
theorem dX3_init_60 : decode cX3_init 60 = .ok (.aload_n 0, 1) := by decide +kernel
theorem dX3_init_61 : decode cX3_init 61 = .ok (.bipush 24, 2) := by decide +kernel
theorem dX3_init_63 : decode cX3_init 63 = .ok (.newarray .int, 2) := by decide +kernel
theorem dX3_init_65 : decode cX3_init 65 = .ok (.putfield 33, 3) := by decide +kernel
theorem dX3_init_68 : decode cX3_init 68 = .ok (.aload_n 0, 1) := by decide +kernel
theorem dX3_init_69 : decode cX3_init 69 = .ok (.bipush 24, 2) := by decide +kernel
theorem dX3_init_71 : decode cX3_init 71 = .ok (.newarray .int, 2) := by decide +kernel
theorem dX3_init_73 : decode cX3_init 73 = .ok (.putfield 36, 3) := by decide +kernel
theorem dX3_init_76 : decode cX3_init 76 = .ok (.aload_n 0, 1) := by decide +kernel
theorem dX3_init_77 : decode cX3_init 77 = .ok (.bipush 24, 2) := by decide +kernel
theorem dX3_init_79 : decode cX3_init 79 = .ok (.newarray .int, 2) := by decide +kernel
theorem dX3_init_81 : decode cX3_init 81 = .ok (.putfield 39, 3) := by decide +kernel
theorem dX3_init_84 : decode cX3_init 84 = .ok (.aload_n 0, 1) := by decide +kernel
theorem dX3_init_85 : decode cX3_init 85 = .ok (.bipush 24, 2) := by decide +kernel
theorem dX3_init_87 : decode cX3_init 87 = .ok (.newarray .int, 2) := by decide +kernel
theorem dX3_init_89 : decode cX3_init 89 = .ok (.putfield 42, 3) := by decide +kernel
theorem dX3_init_92 : decode cX3_init 92 = .ok (.aload_n 0, 1) := by decide +kernel
theorem dX3_init_93 : decode cX3_init 93 = .ok (.bipush 24, 2) := by decide +kernel
theorem dX3_init_95 : decode cX3_init 95 = .ok (.newarray .int, 2) := by decide +kernel
theorem dX3_init_97 : decode cX3_init 97 = .ok (.putfield 45, 3) := by decide +kernel
theorem dX3_init_100 : decode cX3_init 100 = .ok (.aload_n 0, 1) := by decide +kernel
theorem dX3_init_101 : decode cX3_init 101 = .ok (.bipush 24, 2) := by decide +kernel
theorem dX3_init_103 : decode cX3_init 103 = .ok (.newarray .int, 2) := by decide +kernel
theorem dX3_init_105 : decode cX3_init 105 = .ok (.putfield 48, 3) := by decide +kernel
theorem dX3_init_108 : decode cX3_init 108 = .ok (.aload_n 0, 1) := by decide +kernel
theorem dX3_init_109 : decode cX3_init 109 = .ok (.bipush 24, 2) := by decide +kernel
theorem dX3_init_111 : decode cX3_init 111 = .ok (.newarray .int, 2) := by decide +kernel
theorem dX3_init_113 : decode cX3_init 113 = .ok (.putfield 51, 3) := by decide +kernel
theorem dX3_init_116 : decode cX3_init 116 = .ok (.iconst 0, 1) := by decide +kernel
theorem dX3_init_117 : decode cX3_init 117 = .ok (.istore_n 1, 1) := by decide +kernel
theorem dX3_init_118 : decode cX3_init 118 = .ok (.iload_n 1, 1) := by decide +kernel
theorem dX3_init_119 : decode cX3_init 119 = .ok (.bipush 8, 2) := by decide +kernel
theorem dX3_init_121 : decode cX3_init 121 = .ok (.if_icmp .ge 20, 3) := by decide +kernel
theorem dX3_init_124 : decode cX3_init 124 = .ok (.aload_n 0, 1) := by decide +kernel
theorem dX3_init_125 : decode cX3_init 125 = .ok (.getfield 9, 3) := by decide +kernel
theorem dX3_init_128 : decode cX3_init 128 = .ok (.iload_n 1, 1) := by decide +kernel
theorem dX3_init_129 : decode cX3_init 129 = .ok (.getstatic 54, 3) := by decide +kernel
theorem dX3_init_132 : decode cX3_init 132 = .ok (.iload_n 1, 1) := by decide +kernel
theorem dX3_init_133 : decode cX3_init 133 = .ok (.iaload, 1) := by decide +kernel
theorem dX3_init_134 : decode cX3_init 134 = .ok (.iastore, 1) := by decide +kernel
theorem dX3_init_135 : decode cX3_init 135 = .ok (.iinc 1 1, 3) := by decide +kernel
theorem dX3_init_138 : decode cX3_init 138 = .ok (.goto (-20), 3) := by decide +kernel
theorem dX3_init_141 : decode cX3_init 141 = .ok (.iconst 0, 1) := by decide +kernel
theorem dX3_init_142 : decode cX3_init 142 = .ok (.istore_n 1, 1) := by decide +kernel
theorem dX3_init_143 : decode cX3_init 143 = .ok (.iload_n 1, 1) := by decide +kernel
theorem dX3_init_144 : decode cX3_init 144 = .ok (.bipush 6, 2) := by decide +kernel
theorem dX3_init_146 : decode cX3_init 146 = .ok (.if_icmp .ge 18, 3) := by decide +kernel
theorem dX3_init_149 : decode cX3_init 149 = .ok (.aload_n 0, 1) := by decide +kernel
theorem dX3_init_150 : decode cX3_init 150 = .ok (.getfield 15, 3) := by decide +kernel
theorem dX3_init_153 : decode cX3_init 153 = .ok (.iload_n 1, 1) := by decide +kernel
theorem dX3_init_154 : decode cX3_init 154 = .ok (.sipush 300, 3) := by decide +kernel
theorem dX3_init_157 : decode cX3_init 157 = .ok (.iastore, 1) := by decide +kernel
theorem dX3_init_158 : decode cX3_init 158 = .ok (.iinc 1 1, 3) := by decide +kernel
theorem dX3_init_161 : decode cX3_init 161 = .ok (.goto (-18), 3) := by decide +kernel
theorem dX3_init_164 : decode cX3_init 164 = .ok (.return_, 1) := by decide +kernel
theorem dX3_copyFrom_0 : decode cX3_copyFrom 0 = .ok (.aload_n 1, 1) := by decide +kernel
theorem dX3_copyFrom_1 : decode cX3_copyFrom 1 = .ok (.getfield 9, 3) := by decide +kernel
theorem dX3_copyFrom_4 : decode cX3_copyFrom 4 = .ok (.iconst 0, 1) := by decide +kernel
theorem dX3_copyFrom_5 : decode cX3_copyFrom 5 = .ok (.aload_n 0, 1) := by decide +kernel
theorem dX3_copyFrom_6 : decode cX3_copyFrom 6 = .ok (.getfield 9, 3) := by decide +kernel
theorem dX3_copyFrom_9 : decode cX3_copyFrom 9 = .ok (.iconst 0, 1) := by decide +kernel
theorem dX3_copyFrom_10 : decode cX3_copyFrom 10 = .ok (.bipush 8, 2) := by decide +kernel
theorem dX3_copyFrom_12 : decode cX3_copyFrom 12 = .ok (.invokestatic 57, 3) := by decide +kernel
theorem dX3_copyFrom_15 : decode cX3_copyFrom 15 = .ok (.aload_n 1, 1) := by decide +kernel
theorem dX3_copyFrom_16 : decode cX3_copyFrom 16 = .ok (.getfield 15, 3) := by decide +kernel
theorem dX3_copyFrom_19 : decode cX3_copyFrom 19 = .ok (.iconst 0, 1) := by decide +kernel
theorem dX3_copyFrom_20 : decode cX3_copyFrom 20 = .ok (.aload_n 0, 1) := by decide +kernel
theorem dX3_copyFrom_21 : decode cX3_copyFrom 21 = .ok (.getfield 15, 3) := by decide +kernel
theorem dX3_copyFrom_24 : decode cX3_copyFrom 24 = .ok (.iconst 0, 1) := by decide +kernel
theorem dX3_copyFrom_25 : decode cX3_copyFrom 25 = .ok (.bipush 6, 2) := by decide +kernel
theorem dX3_copyFrom_27 : decode cX3_copyFrom 27 = .ok (.invokestatic 57, 3) := by decide +kernel
theorem dX3_copyFrom_30 : decode cX3_copyFrom 30 = .ok (.aload_n 1, 1) := by decide +kernel
theorem dX3_copyFrom_31 : decode cX3_copyFrom 31 = .ok (.getfield 18, 3) := by decide +kernel
theorem dX3_copyFrom_34 : decode cX3_copyFrom 34 = .ok (.iconst 0, 1) := by decide +kernel
theorem dX3_copyFrom_35 : decode cX3_copyFrom 35 = .ok (.aload_n 0, 1) := by decide +kernel
theorem dX3_copyFrom_36 : decode cX3_copyFrom 36 = .ok (.getfield 18, 3) := by decide +kernel
theorem dX3_copyFrom_39 : decode cX3_copyFrom 39 = .ok (.iconst 0, 1) := by decide +kernel
theorem dX3_copyFrom_40 : decode cX3_copyFrom 40 = .ok (.bipush 6, 2) := by decide +kernel
theorem dX3_copyFrom_42 : decode cX3_copyFrom 42 = .ok (.invokestatic 57, 3) := by decide +kernel
theorem dX3_copyFrom_45 : decode cX3_copyFrom 45 = .ok (.aload_n 1, 1) := by decide +kernel
theorem dX3_copyFrom_46 : decode cX3_copyFrom 46 = .ok (.getfield 21, 3) := by decide +kernel
theorem dX3_copyFrom_49 : decode cX3_copyFrom 49 = .ok (.iconst 0, 1) := by decide +kernel
theorem dX3_copyFrom_50 : decode cX3_copyFrom 50 = .ok (.aload_n 0, 1) := by decide +kernel
theorem dX3_copyFrom_51 : decode cX3_copyFrom 51 = .ok (.getfield 21, 3) := by decide +kernel
theorem dX3_copyFrom_54 : decode cX3_copyFrom 54 = .ok (.iconst 0, 1) := by decide +kernel
theorem dX3_copyFrom_55 : decode cX3_copyFrom 55 = .ok (.bipush 6, 2) := by decide +kernel
theorem dX3_copyFrom_57 : decode cX3_copyFrom 57 = .ok (.invokestatic 57, 3) := by decide +kernel
theorem dX3_copyFrom_60 : decode cX3_copyFrom 60 = .ok (.aload_n 1, 1) := by decide +kernel
theorem dX3_copyFrom_61 : decode cX3_copyFrom 61 = .ok (.getfield 24, 3) := by decide +kernel
theorem dX3_copyFrom_64 : decode cX3_copyFrom 64 = .ok (.iconst 0, 1) := by decide +kernel
theorem dX3_copyFrom_65 : decode cX3_copyFrom 65 = .ok (.aload_n 0, 1) := by decide +kernel
theorem dX3_copyFrom_66 : decode cX3_copyFrom 66 = .ok (.getfield 24, 3) := by decide +kernel
theorem dX3_copyFrom_69 : decode cX3_copyFrom 69 = .ok (.iconst 0, 1) := by decide +kernel
theorem dX3_copyFrom_70 : decode cX3_copyFrom 70 = .ok (.bipush 6, 2) := by decide +kernel
theorem dX3_copyFrom_72 : decode cX3_copyFrom 72 = .ok (.invokestatic 57, 3) := by decide +kernel
theorem dX3_copyFrom_75 : decode cX3_copyFrom 75 = .ok (.aload_n 1, 1) := by decide +kernel
theorem dX3_copyFrom_76 : decode cX3_copyFrom 76 = .ok (.getfield 27, 3) := by decide +kernel
theorem dX3_copyFrom_79 : decode cX3_copyFrom 79 = .ok (.iconst 0, 1) := by decide +kernel
theorem dX3_copyFrom_80 : decode cX3_copyFrom 80 = .ok (.aload_n 0, 1) := by decide +kernel
theorem dX3_copyFrom_81 : decode cX3_copyFrom 81 = .ok (.getfield 27, 3) := by decide +kernel
theorem dX3_copyFrom_84 : decode cX3_copyFrom 84 = .ok (.iconst 0, 1) := by decide +kernel
theorem dX3_copyFrom_85 : decode cX3_copyFrom 85 = .ok (.bipush 6, 2) := by decide +kernel
theorem dX3_copyFrom_87 : decode cX3_copyFrom 87 = .ok (.invokestatic 57, 3) := by decide +kernel
theorem dX3_copyFrom_90 : decode cX3_copyFrom 90 = .ok (.aload_n 0, 1) := by decide +kernel
theorem dX3_copyFrom_91 : decode cX3_copyFrom 91 = .ok (.aload_n 1, 1) := by decide +kernel
theorem dX3_copyFrom_92 : decode cX3_copyFrom 92 = .ok (.getfield 63, 3) := by decide +kernel
theorem dX3_copyFrom_95 : decode cX3_copyFrom 95 = .ok (.putfield 63, 3) := by decide +kernel
theorem dX3_copyFrom_98 : decode cX3_copyFrom 98 = .ok (.aload_n 0, 1) := by decide +kernel
theorem dX3_copyFrom_99 : decode cX3_copyFrom 99 = .ok (.aload_n 1, 1) := by decide +kernel
theorem dX3_copyFrom_100 : decode cX3_copyFrom 100 = .ok (.getfield 67, 3) := by decide +kernel
theorem dX3_copyFrom_103 : decode cX3_copyFrom 103 = .ok (.putfield 67, 3) := by decide +kernel
theorem dX3_copyFrom_106 : decode cX3_copyFrom 106 = .ok (.aload_n 1, 1) := by decide +kernel
theorem dX3_copyFrom_107 : decode cX3_copyFrom 107 = .ok (.getfield 30, 3) := by decide +kernel
theorem dX3_copyFrom_110 : decode cX3_copyFrom 110 = .ok (.iconst 0, 1) := by decide +kernel
theorem dX3_copyFrom_111 : decode cX3_copyFrom 111 = .ok (.aload_n 0, 1) := by decide +kernel
theorem dX3_copyFrom_112 : decode cX3_copyFrom 112 = .ok (.getfield 30, 3) := by decide +kernel
theorem dX3_copyFrom_115 : decode cX3_copyFrom 115 = .ok (.iconst 0, 1) := by decide +kernel
theorem dX3_copyFrom_116 : decode cX3_copyFrom 116 = .ok (.bipush 24, 2) := by decide +kernel
theorem dX3_copyFrom_118 : decode cX3_copyFrom 118 = .ok (.invokestatic 57, 3) := by decide +kernel
theorem dX3_copyFrom_121 : decode cX3_copyFrom 121 = .ok (.aload_n 1, 1) := by decide +kernel
theorem dX3_copyFrom_122 : decode cX3_copyFrom 122 = .ok (.getfield 33, 3) := by decide +kernel
theorem dX3_copyFrom_125 : decode cX3_copyFrom 125 = .ok (.iconst 0, 1) := by decide +kernel
theorem dX3_copyFrom_126 : decode cX3_copyFrom 126 = .ok (.aload_n 0, 1) := by decide +kernel
theorem dX3_copyFrom_127 : decode cX3_copyFrom 127 = .ok (.getfield 33, 3) := by decide +kernel
theorem dX3_copyFrom_130 : decode cX3_copyFrom 130 = .ok (.iconst 0, 1) := by decide +kernel
theorem dX3_copyFrom_131 : decode cX3_copyFrom 131 = .ok (.bipush 24, 2) := by decide +kernel
theorem dX3_copyFrom_133 : decode cX3_copyFrom 133 = .ok (.invokestatic 57, 3) := by decide +kernel
theorem dX3_copyFrom_136 : decode cX3_copyFrom 136 = .ok (.aload_n 1, 1) := by decide +kernel
theorem dX3_copyFrom_137 : decode cX3_copyFrom 137 = .ok (.getfield 36, 3) := by decide +kernel
theorem dX3_copyFrom_140 : decode cX3_copyFrom 140 = .ok (.iconst 0, 1) := by decide +kernel
theorem dX3_copyFrom_141 : decode cX3_copyFrom 141 = .ok (.aload_n 0, 1) := by decide +kernel
theorem dX3_copyFrom_142 : decode cX3_copyFrom 142 = .ok (.getfield 36, 3) := by decide +kernel
theorem dX3_copyFrom_145 : decode cX3_copyFrom 145 = .ok (.iconst 0, 1) := by decide +kernel
theorem dX3_copyFrom_146 : decode cX3_copyFrom 146 = .ok (.bipush 24, 2) := by decide +kernel
theorem dX3_copyFrom_148 : decode cX3_copyFrom 148 = .ok (.invokestatic 57, 3) := by decide +kernel
theorem dX3_copyFrom_151 : decode cX3_copyFrom 151 = .ok (.aload_n 1, 1) := by decide +kernel
theorem dX3_copyFrom_152 : decode cX3_copyFrom 152 = .ok (.getfield 39, 3) := by decide +kernel
theorem dX3_copyFrom_155 : decode cX3_copyFrom 155 = .ok (.iconst 0, 1) := by decide +kernel
theorem dX3_copyFrom_156 : decode cX3_copyFrom 156 = .ok (.aload_n 0, 1) := by decide +kernel
theorem dX3_copyFrom_157 : decode cX3_copyFrom 157 = .ok (.getfield 39, 3) := by decide +kernel
theorem dX3_copyFrom_160 : decode cX3_copyFrom 160 = .ok (.iconst 0, 1) := by decide +kernel
theorem dX3_copyFrom_161 : decode cX3_copyFrom 161 = .ok (.bipush 24, 2) := by decide +kernel
theorem dX3_copyFrom_163 : decode cX3_copyFrom 163 = .ok (.invokestatic 57, 3) := by decide +kernel
theorem dX3_copyFrom_166 : decode cX3_copyFrom 166 = .ok (.aload_n 1, 1) := by decide +kernel
theorem dX3_copyFrom_167 : decode cX3_copyFrom 167 = .ok (.getfield 42, 3) := by decide +kernel
theorem dX3_copyFrom_170 : decode cX3_copyFrom 170 = .ok (.iconst 0, 1) := by decide +kernel
theorem dX3_copyFrom_171 : decode cX3_copyFrom 171 = .ok (.aload_n 0, 1) := by decide +kernel
theorem dX3_copyFrom_172 : decode cX3_copyFrom 172 = .ok (.getfield 42, 3) := by decide +kernel
theorem dX3_copyFrom_175 : decode cX3_copyFrom 175 = .ok (.iconst 0, 1) := by decide +kernel
theorem dX3_copyFrom_176 : decode cX3_copyFrom 176 = .ok (.bipush 24, 2) := by decide +kernel
theorem dX3_copyFrom_178 : decode cX3_copyFrom 178 = .ok (.invokestatic 57, 3) := by decide +kernel
theorem dX3_copyFrom_181 : decode cX3_copyFrom 181 = .ok (.aload_n 1, 1) := by decide +kernel
theorem dX3_copyFrom_182 : decode cX3_copyFrom 182 = .ok (.getfield 45, 3) := by decide +kernel
theorem dX3_copyFrom_185 : decode cX3_copyFrom 185 = .ok (.iconst 0, 1) := by decide +kernel
theorem dX3_copyFrom_186 : decode cX3_copyFrom 186 = .ok (.aload_n 0, 1) := by decide +kernel
theorem dX3_copyFrom_187 : decode cX3_copyFrom 187 = .ok (.getfield 45, 3) := by decide +kernel
theorem dX3_copyFrom_190 : decode cX3_copyFrom 190 = .ok (.iconst 0, 1) := by decide +kernel
theorem dX3_copyFrom_191 : decode cX3_copyFrom 191 = .ok (.bipush 24, 2) := by decide +kernel
theorem dX3_copyFrom_193 : decode cX3_copyFrom 193 = .ok (.invokestatic 57, 3) := by decide +kernel
theorem dX3_copyFrom_196 : decode cX3_copyFrom 196 = .ok (.aload_n 1, 1) := by decide +kernel
theorem dX3_copyFrom_197 : decode cX3_copyFrom 197 = .ok (.getfield 48, 3) := by decide +kernel
theorem dX3_copyFrom_200 : decode cX3_copyFrom 200 = .ok (.iconst 0, 1) := by decide +kernel
theorem dX3_copyFrom_201 : decode cX3_copyFrom 201 = .ok (.aload_n 0, 1) := by decide +kernel
theorem dX3_copyFrom_202 : decode cX3_copyFrom 202 = .ok (.getfield 48, 3) := by decide +kernel
theorem dX3_copyFrom_205 : decode cX3_copyFrom 205 = .ok (.iconst 0, 1) := by decide +kernel
theorem dX3_copyFrom_206 : decode cX3_copyFrom 206 = .ok (.bipush 24, 2) := by decide +kernel
theorem dX3_copyFrom_208 : decode cX3_copyFrom 208 = .ok (.invokestatic 57, 3) := by decide +kernel
theorem dX3_copyFrom_211 : decode cX3_copyFrom 211 = .ok (.aload_n 1, 1) := by decide +kernel
theorem dX3_copyFrom_212 : decode cX3_copyFrom 212 = .ok (.getfield 51, 3) := by decide +kernel
theorem dX3_copyFrom_215 : decode cX3_copyFrom 215 = .ok (.iconst 0, 1) := by decide +kernel
theorem dX3_copyFrom_216 : decode cX3_copyFrom 216 = .ok (.aload_n 0, 1) := by decide +kernel
theorem dX3_copyFrom_217 : decode cX3_copyFrom 217 = .ok (.getfield 51, 3) := by decide +kernel
theorem dX3_copyFrom_220 : decode cX3_copyFrom 220 = .ok (.iconst 0, 1) := by decide +kernel
theorem dX3_copyFrom_221 : decode cX3_copyFrom 221 = .ok (.bipush 24, 2) := by decide +kernel
theorem dX3_copyFrom_223 : decode cX3_copyFrom 223 = .ok (.invokestatic 57, 3) := by decide +kernel
theorem dX3_copyFrom_226 : decode cX3_copyFrom 226 = .ok (.return_, 1) := by decide +kernel
theorem dX3_hasShow_0 : decode cX3_hasShow 0 = .ok (.iload_n 1, 1) := by decide +kernel
theorem dX3_hasShow_1 : decode cX3_hasShow 1 = .ok (.ifCond .lt 15, 3) := by decide +kernel
theorem dX3_hasShow_4 : decode cX3_hasShow 4 = .ok (.iload_n 1, 1) := by decide +kernel
theorem dX3_hasShow_5 : decode cX3_hasShow 5 = .ok (.aload_n 0, 1) := by decide +kernel
theorem dX3_hasShow_6 : decode cX3_hasShow 6 = .ok (.getfield 67, 3) := by decide +kernel
theorem dX3_hasShow_9 : decode cX3_hasShow 9 = .ok (.if_icmp .ge 7, 3) := by decide +kernel
theorem dX3_hasShow_12 : decode cX3_hasShow 12 = .ok (.iconst 1, 1) := by decide +kernel
theorem dX3_hasShow_13 : decode cX3_hasShow 13 = .ok (.goto 4, 3) := by decide +kernel
theorem dX3_hasShow_16 : decode cX3_hasShow 16 = .ok (.iconst 0, 1) := by decide +kernel
theorem dX3_hasShow_17 : decode cX3_hasShow 17 = .ok (.ireturn, 1) := by decide +kernel
theorem dX3_allowance_0 : decode cX3_allowance 0 = .ok (.aload_n 0, 1) := by decide +kernel
theorem dX3_allowance_1 : decode cX3_allowance 1 = .ok (.getfield 15, 3) := by decide +kernel
theorem dX3_allowance_4 : decode cX3_allowance 4 = .ok (.iload_n 1, 1) := by decide +kernel
theorem dX3_allowance_5 : decode cX3_allowance 5 = .ok (.iaload, 1) := by decide +kernel
theorem dX3_allowance_6 : decode cX3_allowance 6 = .ok (.aload_n 0, 1) := by decide +kernel
theorem dX3_allowance_7 : decode cX3_allowance 7 = .ok (.getfield 18, 3) := by decide +kernel
theorem dX3_allowance_10 : decode cX3_allowance 10 = .ok (.iload_n 1, 1) := by decide +kernel
theorem dX3_allowance_11 : decode cX3_allowance 11 = .ok (.iaload, 1) := by decide +kernel
theorem dX3_allowance_12 : decode cX3_allowance 12 = .ok (.iadd, 1) := by decide +kernel
theorem dX3_allowance_13 : decode cX3_allowance 13 = .ok (.ireturn, 1) := by decide +kernel
theorem dX3_worth_0 : decode cX3_worth 0 = .ok (.iload_n 1, 1) := by decide +kernel
theorem dX3_worth_1 : decode cX3_worth 1 = .ok (.iconst 2, 1) := by decide +kernel
theorem dX3_worth_2 : decode cX3_worth 2 = .ok (.if_icmp .ne 17, 3) := by decide +kernel
theorem dX3_worth_5 : decode cX3_worth 5 = .ok (.iload_n 2, 1) := by decide +kernel
theorem dX3_worth_6 : decode cX3_worth 6 = .ok (.aload_n 0, 1) := by decide +kernel
theorem dX3_worth_7 : decode cX3_worth 7 = .ok (.getfield 9, 3) := by decide +kernel
theorem dX3_worth_10 : decode cX3_worth 10 = .ok (.iconst 5, 1) := by decide +kernel
theorem dX3_worth_11 : decode cX3_worth 11 = .ok (.iaload, 1) := by decide +kernel
theorem dX3_worth_12 : decode cX3_worth 12 = .ok (.imul, 1) := by decide +kernel
theorem dX3_worth_13 : decode cX3_worth 13 = .ok (.bipush 100, 2) := by decide +kernel
theorem dX3_worth_15 : decode cX3_worth 15 = .ok (.idiv, 1) := by decide +kernel
theorem dX3_worth_16 : decode cX3_worth 16 = .ok (.goto 4, 3) := by decide +kernel
theorem dX3_worth_19 : decode cX3_worth 19 = .ok (.iload_n 2, 1) := by decide +kernel
theorem dX3_worth_20 : decode cX3_worth 20 = .ok (.ireturn, 1) := by decide +kernel
theorem dX3_worthOfLengths_0 : decode cX3_worthOfLengths 0 = .ok (.iconst 0, 1) := by decide +kernel
theorem dX3_worthOfLengths_1 : decode cX3_worthOfLengths 1 = .ok (.istore_n 2, 1) := by decide +kernel
theorem dX3_worthOfLengths_2 : decode cX3_worthOfLengths 2 = .ok (.iconst 0, 1) := by decide +kernel
theorem dX3_worthOfLengths_3 : decode cX3_worthOfLengths 3 = .ok (.istore_n 3, 1) := by decide +kernel
theorem dX3_worthOfLengths_4 : decode cX3_worthOfLengths 4 = .ok (.iload_n 3, 1) := by decide +kernel
theorem dX3_worthOfLengths_5 : decode cX3_worthOfLengths 5 = .ok (.aload_n 0, 1) := by decide +kernel
theorem dX3_worthOfLengths_6 : decode cX3_worthOfLengths 6 = .ok (.getfield 67, 3) := by decide +kernel
theorem dX3_worthOfLengths_9 : decode cX3_worthOfLengths 9 = .ok (.if_icmp .ge 38, 3) := by decide +kernel
theorem dX3_worthOfLengths_12 : decode cX3_worthOfLengths 12 = .ok (.aload_n 0, 1) := by decide +kernel
theorem dX3_worthOfLengths_13 : decode cX3_worthOfLengths 13 = .ok (.getfield 33, 3) := by decide +kernel
theorem dX3_worthOfLengths_16 : decode cX3_worthOfLengths 16 = .ok (.iload_n 3, 1) := by decide +kernel
theorem dX3_worthOfLengths_17 : decode cX3_worthOfLengths 17 = .ok (.iaload, 1) := by decide +kernel
theorem dX3_worthOfLengths_18 : decode cX3_worthOfLengths 18 = .ok (.iload_n 1, 1) := by decide +kernel
theorem dX3_worthOfLengths_19 : decode cX3_worthOfLengths 19 = .ok (.if_icmp .ne 22, 3) := by decide +kernel
theorem dX3_worthOfLengths_22 : decode cX3_worthOfLengths 22 = .ok (.iload_n 2, 1) := by decide +kernel
theorem dX3_worthOfLengths_23 : decode cX3_worthOfLengths 23 = .ok (.aload_n 0, 1) := by decide +kernel
theorem dX3_worthOfLengths_24 : decode cX3_worthOfLengths 24 = .ok (.aload_n 0, 1) := by decide +kernel
theorem dX3_worthOfLengths_25 : decode cX3_worthOfLengths 25 = .ok (.getfield 30, 3) := by decide +kernel
theorem dX3_worthOfLengths_28 : decode cX3_worthOfLengths 28 = .ok (.iload_n 3, 1) := by decide +kernel
theorem dX3_worthOfLengths_29 : decode cX3_worthOfLengths 29 = .ok (.iaload, 1) := by decide +kernel
theorem dX3_worthOfLengths_30 : decode cX3_worthOfLengths 30 = .ok (.aload_n 0, 1) := by decide +kernel
theorem dX3_worthOfLengths_31 : decode cX3_worthOfLengths 31 = .ok (.getfield 42, 3) := by decide +kernel
theorem dX3_worthOfLengths_34 : decode cX3_worthOfLengths 34 = .ok (.iload_n 3, 1) := by decide +kernel
theorem dX3_worthOfLengths_35 : decode cX3_worthOfLengths 35 = .ok (.iaload, 1) := by decide +kernel
theorem dX3_worthOfLengths_36 : decode cX3_worthOfLengths 36 = .ok (.invokevirtual 70, 3) := by decide +kernel
theorem dX3_worthOfLengths_39 : decode cX3_worthOfLengths 39 = .ok (.iadd, 1) := by decide +kernel
theorem dX3_worthOfLengths_40 : decode cX3_worthOfLengths 40 = .ok (.istore_n 2, 1) := by decide +kernel
theorem dX3_worthOfLengths_41 : decode cX3_worthOfLengths 41 = .ok (.iinc 3 1, 3) := by decide +kernel
theorem dX3_worthOfLengths_44 : decode cX3_worthOfLengths 44 = .ok (.goto (-40), 3) := by decide +kernel
theorem dX3_worthOfLengths_47 : decode cX3_worthOfLengths 47 = .ok (.iload_n 2, 1) := by decide +kernel
theorem dX3_worthOfLengths_48 : decode cX3_worthOfLengths 48 = .ok (.ireturn, 1) := by decide +kernel
theorem dX3_showsOfGroup_0 : decode cX3_showsOfGroup 0 = .ok (.iconst 0, 1) := by decide +kernel
theorem dX3_showsOfGroup_1 : decode cX3_showsOfGroup 1 = .ok (.istore_n 2, 1) := by decide +kernel
theorem dX3_showsOfGroup_2 : decode cX3_showsOfGroup 2 = .ok (.iconst 0, 1) := by decide +kernel
theorem dX3_showsOfGroup_3 : decode cX3_showsOfGroup 3 = .ok (.istore_n 3, 1) := by decide +kernel
theorem dX3_showsOfGroup_4 : decode cX3_showsOfGroup 4 = .ok (.iload_n 3, 1) := by decide +kernel
theorem dX3_showsOfGroup_5 : decode cX3_showsOfGroup 5 = .ok (.aload_n 0, 1) := by decide +kernel
theorem dX3_showsOfGroup_6 : decode cX3_showsOfGroup 6 = .ok (.getfield 67, 3) := by decide +kernel
theorem dX3_showsOfGroup_9 : decode cX3_showsOfGroup 9 = .ok (.if_icmp .ge 22, 3) := by decide +kernel
theorem dX3_showsOfGroup_12 : decode cX3_showsOfGroup 12 = .ok (.aload_n 0, 1) := by decide +kernel
theorem dX3_showsOfGroup_13 : decode cX3_showsOfGroup 13 = .ok (.getfield 33, 3) := by decide +kernel
theorem dX3_showsOfGroup_16 : decode cX3_showsOfGroup 16 = .ok (.iload_n 3, 1) := by decide +kernel
theorem dX3_showsOfGroup_17 : decode cX3_showsOfGroup 17 = .ok (.iaload, 1) := by decide +kernel
theorem dX3_showsOfGroup_18 : decode cX3_showsOfGroup 18 = .ok (.iload_n 1, 1) := by decide +kernel
theorem dX3_showsOfGroup_19 : decode cX3_showsOfGroup 19 = .ok (.if_icmp .ne 6, 3) := by decide +kernel
theorem dX3_showsOfGroup_22 : decode cX3_showsOfGroup 22 = .ok (.iinc 2 1, 3) := by decide +kernel
theorem dX3_showsOfGroup_25 : decode cX3_showsOfGroup 25 = .ok (.iinc 3 1, 3) := by decide +kernel
theorem dX3_showsOfGroup_28 : decode cX3_showsOfGroup 28 = .ok (.goto (-24), 3) := by decide +kernel
theorem dX3_showsOfGroup_31 : decode cX3_showsOfGroup 31 = .ok (.iload_n 2, 1) := by decide +kernel
theorem dX3_showsOfGroup_32 : decode cX3_showsOfGroup 32 = .ok (.ireturn, 1) := by decide +kernel
theorem dX3_showsOfKind_0 : decode cX3_showsOfKind 0 = .ok (.iconst 0, 1) := by decide +kernel
theorem dX3_showsOfKind_1 : decode cX3_showsOfKind 1 = .ok (.istore_n 2, 1) := by decide +kernel
theorem dX3_showsOfKind_2 : decode cX3_showsOfKind 2 = .ok (.iconst 0, 1) := by decide +kernel
theorem dX3_showsOfKind_3 : decode cX3_showsOfKind 3 = .ok (.istore_n 3, 1) := by decide +kernel
theorem dX3_showsOfKind_4 : decode cX3_showsOfKind 4 = .ok (.iload_n 3, 1) := by decide +kernel
theorem dX3_showsOfKind_5 : decode cX3_showsOfKind 5 = .ok (.aload_n 0, 1) := by decide +kernel
theorem dX3_showsOfKind_6 : decode cX3_showsOfKind 6 = .ok (.getfield 67, 3) := by decide +kernel
theorem dX3_showsOfKind_9 : decode cX3_showsOfKind 9 = .ok (.if_icmp .ge 22, 3) := by decide +kernel
theorem dX3_showsOfKind_12 : decode cX3_showsOfKind 12 = .ok (.aload_n 0, 1) := by decide +kernel
theorem dX3_showsOfKind_13 : decode cX3_showsOfKind 13 = .ok (.getfield 30, 3) := by decide +kernel
theorem dX3_showsOfKind_16 : decode cX3_showsOfKind 16 = .ok (.iload_n 3, 1) := by decide +kernel
theorem dX3_showsOfKind_17 : decode cX3_showsOfKind 17 = .ok (.iaload, 1) := by decide +kernel
theorem dX3_showsOfKind_18 : decode cX3_showsOfKind 18 = .ok (.iload_n 1, 1) := by decide +kernel
theorem dX3_showsOfKind_19 : decode cX3_showsOfKind 19 = .ok (.if_icmp .ne 6, 3) := by decide +kernel
theorem dX3_showsOfKind_22 : decode cX3_showsOfKind 22 = .ok (.iinc 2 1, 3) := by decide +kernel
theorem dX3_showsOfKind_25 : decode cX3_showsOfKind 25 = .ok (.iinc 3 1, 3) := by decide +kernel
theorem dX3_showsOfKind_28 : decode cX3_showsOfKind 28 = .ok (.goto (-24), 3) := by decide +kernel
theorem dX3_showsOfKind_31 : decode cX3_showsOfKind 31 = .ok (.iload_n 2, 1) := by decide +kernel
theorem dX3_showsOfKind_32 : decode cX3_showsOfKind 32 = .ok (.ireturn, 1) := by decide +kernel
theorem dX3_plannedSponsors_0 : decode cX3_plannedSponsors 0 = .ok (.iconst 0, 1) := by decide +kernel
theorem dX3_plannedSponsors_1 : decode cX3_plannedSponsors 1 = .ok (.istore_n 3, 1) := by decide +kernel
theorem dX3_plannedSponsors_2 : decode cX3_plannedSponsors 2 = .ok (.iconst 0, 1) := by decide +kernel
theorem dX3_plannedSponsors_3 : decode cX3_plannedSponsors 3 = .ok (.istore 4, 2) := by decide +kernel
theorem dX3_plannedSponsors_5 : decode cX3_plannedSponsors 5 = .ok (.iload 4, 2) := by decide +kernel
theorem dX3_plannedSponsors_7 : decode cX3_plannedSponsors 7 = .ok (.aload_n 0, 1) := by decide +kernel
theorem dX3_plannedSponsors_8 : decode cX3_plannedSponsors 8 = .ok (.getfield 67, 3) := by decide +kernel
theorem dX3_plannedSponsors_11 : decode cX3_plannedSponsors 11 = .ok (.if_icmp .ge 41, 3) := by decide +kernel
theorem dX3_plannedSponsors_14 : decode cX3_plannedSponsors 14 = .ok (.aload_n 0, 1) := by decide +kernel
theorem dX3_plannedSponsors_15 : decode cX3_plannedSponsors 15 = .ok (.getfield 36, 3) := by decide +kernel
theorem dX3_plannedSponsors_18 : decode cX3_plannedSponsors 18 = .ok (.iload 4, 2) := by decide +kernel
theorem dX3_plannedSponsors_20 : decode cX3_plannedSponsors 20 = .ok (.iaload, 1) := by decide +kernel
theorem dX3_plannedSponsors_21 : decode cX3_plannedSponsors 21 = .ok (.iload_n 1, 1) := by decide +kernel
theorem dX3_plannedSponsors_22 : decode cX3_plannedSponsors 22 = .ok (.if_icmp .ne 24, 3) := by decide +kernel
theorem dX3_plannedSponsors_25 : decode cX3_plannedSponsors 25 = .ok (.iload_n 3, 1) := by decide +kernel
theorem dX3_plannedSponsors_26 : decode cX3_plannedSponsors 26 = .ok (.aload_n 0, 1) := by decide +kernel
theorem dX3_plannedSponsors_27 : decode cX3_plannedSponsors 27 = .ok (.getfield 39, 3) := by decide +kernel
theorem dX3_plannedSponsors_30 : decode cX3_plannedSponsors 30 = .ok (.iload 4, 2) := by decide +kernel
theorem dX3_plannedSponsors_32 : decode cX3_plannedSponsors 32 = .ok (.iaload, 1) := by decide +kernel
theorem dX3_plannedSponsors_33 : decode cX3_plannedSponsors 33 = .ok (.aload_n 0, 1) := by decide +kernel
theorem dX3_plannedSponsors_34 : decode cX3_plannedSponsors 34 = .ok (.getfield 45, 3) := by decide +kernel
theorem dX3_plannedSponsors_37 : decode cX3_plannedSponsors 37 = .ok (.iload 4, 2) := by decide +kernel
theorem dX3_plannedSponsors_39 : decode cX3_plannedSponsors 39 = .ok (.iaload, 1) := by decide +kernel
theorem dX3_plannedSponsors_40 : decode cX3_plannedSponsors 40 = .ok (.iload_n 2, 1) := by decide +kernel
theorem dX3_plannedSponsors_41 : decode cX3_plannedSponsors 41 = .ok (.invokestatic 74, 3) := by decide +kernel
theorem dX3_plannedSponsors_44 : decode cX3_plannedSponsors 44 = .ok (.iadd, 1) := by decide +kernel
theorem dX3_plannedSponsors_45 : decode cX3_plannedSponsors 45 = .ok (.istore_n 3, 1) := by decide +kernel
theorem dX3_plannedSponsors_46 : decode cX3_plannedSponsors 46 = .ok (.iinc 4 1, 3) := by decide +kernel
theorem dX3_plannedSponsors_49 : decode cX3_plannedSponsors 49 = .ok (.goto (-44), 3) := by decide +kernel
theorem dX3_plannedSponsors_52 : decode cX3_plannedSponsors 52 = .ok (.iload_n 3, 1) := by decide +kernel
theorem dX3_plannedSponsors_53 : decode cX3_plannedSponsors 53 = .ok (.ireturn, 1) := by decide +kernel
theorem dX3_patience_0 : decode cX3_patience 0 = .ok (.aload_n 0, 1) := by decide +kernel
theorem dX3_patience_1 : decode cX3_patience 1 = .ok (.getfield 9, 3) := by decide +kernel
theorem dX3_patience_4 : decode cX3_patience 4 = .ok (.aload_n 0, 1) := by decide +kernel
theorem dX3_patience_5 : decode cX3_patience 5 = .ok (.getfield 30, 3) := by decide +kernel
theorem dX3_patience_8 : decode cX3_patience 8 = .ok (.iload_n 1, 1) := by decide +kernel
theorem dX3_patience_9 : decode cX3_patience 9 = .ok (.iaload, 1) := by decide +kernel
theorem dX3_patience_10 : decode cX3_patience 10 = .ok (.ifCond .ne 7, 3) := by decide +kernel
theorem dX3_patience_13 : decode cX3_patience 13 = .ok (.iconst 2, 1) := by decide +kernel
theorem dX3_patience_14 : decode cX3_patience 14 = .ok (.goto 4, 3) := by decide +kernel
theorem dX3_patience_17 : decode cX3_patience 17 = .ok (.iconst 3, 1) := by decide +kernel
theorem dX3_patience_18 : decode cX3_patience 18 = .ok (.iaload, 1) := by decide +kernel
theorem dX3_patience_19 : decode cX3_patience 19 = .ok (.ireturn, 1) := by decide +kernel
theorem dX3_inheritFromOriginal_0 : decode cX3_inheritFromOriginal 0 = .ok (.aload_n 0, 1) := by decide +kernel
theorem dX3_inheritFromOriginal_1 : decode cX3_inheritFromOriginal 1 = .ok (.aload_n 1, 1) := by decide +kernel
theorem dX3_inheritFromOriginal_2 : decode cX3_inheritFromOriginal 2 = .ok (.getfield 78, 3) := by decide +kernel
theorem dX3_inheritFromOriginal_5 : decode cX3_inheritFromOriginal 5 = .ok (.invokevirtual 83, 3) := by decide +kernel
theorem dX3_inheritFromOriginal_8 : decode cX3_inheritFromOriginal 8 = .ok (.ifCond .ne 5, 3) := by decide +kernel
theorem dX3_inheritFromOriginal_11 : decode cX3_inheritFromOriginal 11 = .ok (.iconst 0, 1) := by decide +kernel
theorem dX3_inheritFromOriginal_12 : decode cX3_inheritFromOriginal 12 = .ok (.ireturn, 1) := by decide +kernel
theorem dX3_inheritFromOriginal_13 : decode cX3_inheritFromOriginal 13 = .ok (.aload_n 1, 1) := by decide +kernel
theorem dX3_inheritFromOriginal_14 : decode cX3_inheritFromOriginal 14 = .ok (.aload_n 0, 1) := by decide +kernel
theorem dX3_inheritFromOriginal_15 : decode cX3_inheritFromOriginal 15 = .ok (.getfield 33, 3) := by decide +kernel
theorem dX3_inheritFromOriginal_18 : decode cX3_inheritFromOriginal 18 = .ok (.aload_n 1, 1) := by decide +kernel
theorem dX3_inheritFromOriginal_19 : decode cX3_inheritFromOriginal 19 = .ok (.getfield 78, 3) := by decide +kernel
theorem dX3_inheritFromOriginal_22 : decode cX3_inheritFromOriginal 22 = .ok (.iaload, 1) := by decide +kernel
theorem dX3_inheritFromOriginal_23 : decode cX3_inheritFromOriginal 23 = .ok (.putfield 87, 3) := by decide +kernel
theorem dX3_inheritFromOriginal_26 : decode cX3_inheritFromOriginal 26 = .ok (.aload_n 1, 1) := by decide +kernel
theorem dX3_inheritFromOriginal_27 : decode cX3_inheritFromOriginal 27 = .ok (.aload_n 0, 1) := by decide +kernel
theorem dX3_inheritFromOriginal_28 : decode cX3_inheritFromOriginal 28 = .ok (.getfield 42, 3) := by decide +kernel
theorem dX3_inheritFromOriginal_31 : decode cX3_inheritFromOriginal 31 = .ok (.aload_n 1, 1) := by decide +kernel
theorem dX3_inheritFromOriginal_32 : decode cX3_inheritFromOriginal 32 = .ok (.getfield 78, 3) := by decide +kernel
theorem dX3_inheritFromOriginal_35 : decode cX3_inheritFromOriginal 35 = .ok (.iaload, 1) := by decide +kernel
theorem dX3_inheritFromOriginal_36 : decode cX3_inheritFromOriginal 36 = .ok (.putfield 90, 3) := by decide +kernel
theorem dX3_inheritFromOriginal_39 : decode cX3_inheritFromOriginal 39 = .ok (.iconst 1, 1) := by decide +kernel
theorem dX3_inheritFromOriginal_40 : decode cX3_inheritFromOriginal 40 = .ok (.ireturn, 1) := by decide +kernel
theorem dX3_refusal_0 : decode cX3_refusal 0 = .ok (.aload_n 1, 1) := by decide +kernel
theorem dX3_refusal_1 : decode cX3_refusal 1 = .ok (.getfield 93, 3) := by decide +kernel
theorem dX3_refusal_4 : decode cX3_refusal 4 = .ok (.iconst 2, 1) := by decide +kernel
theorem dX3_refusal_5 : decode cX3_refusal 5 = .ok (.if_icmp .ne 18, 3) := by decide +kernel
theorem dX3_refusal_8 : decode cX3_refusal 8 = .ok (.aload_n 0, 1) := by decide +kernel
theorem dX3_refusal_9 : decode cX3_refusal 9 = .ok (.aload_n 1, 1) := by decide +kernel
theorem dX3_refusal_10 : decode cX3_refusal 10 = .ok (.getfield 78, 3) := by decide +kernel
theorem dX3_refusal_13 : decode cX3_refusal 13 = .ok (.invokevirtual 83, 3) := by decide +kernel
theorem dX3_refusal_16 : decode cX3_refusal 16 = .ok (.ifCond .eq 7, 3) := by decide +kernel
theorem dX3_refusal_19 : decode cX3_refusal 19 = .ok (.iconst 1, 1) := by decide +kernel
theorem dX3_refusal_20 : decode cX3_refusal 20 = .ok (.goto 4, 3) := by decide +kernel
theorem dX3_refusal_23 : decode cX3_refusal 23 = .ok (.iconst 0, 1) := by decide +kernel
theorem dX3_refusal_24 : decode cX3_refusal 24 = .ok (.istore_n 2, 1) := by decide +kernel
theorem dX3_refusal_25 : decode cX3_refusal 25 = .ok (.aload_n 0, 1) := by decide +kernel
theorem dX3_refusal_26 : decode cX3_refusal 26 = .ok (.getfield 67, 3) := by decide +kernel
theorem dX3_refusal_29 : decode cX3_refusal 29 = .ok (.bipush 24, 2) := by decide +kernel
theorem dX3_refusal_31 : decode cX3_refusal 31 = .ok (.if_icmp .lt 5, 3) := by decide +kernel
theorem dX3_refusal_34 : decode cX3_refusal 34 = .ok (.iconst 1, 1) := by decide +kernel
theorem dX3_refusal_35 : decode cX3_refusal 35 = .ok (.ireturn, 1) := by decide +kernel
theorem dX3_refusal_36 : decode cX3_refusal 36 = .ok (.iload_n 2, 1) := by decide +kernel
theorem dX3_refusal_37 : decode cX3_refusal 37 = .ok (.ifCond .eq 18, 3) := by decide +kernel
theorem dX3_refusal_40 : decode cX3_refusal 40 = .ok (.aload_n 0, 1) := by decide +kernel
theorem dX3_refusal_41 : decode cX3_refusal 41 = .ok (.getfield 30, 3) := by decide +kernel
theorem dX3_refusal_44 : decode cX3_refusal 44 = .ok (.aload_n 1, 1) := by decide +kernel
theorem dX3_refusal_45 : decode cX3_refusal 45 = .ok (.getfield 78, 3) := by decide +kernel
theorem dX3_refusal_48 : decode cX3_refusal 48 = .ok (.iaload, 1) := by decide +kernel
theorem dX3_refusal_49 : decode cX3_refusal 49 = .ok (.iconst 2, 1) := by decide +kernel
theorem dX3_refusal_50 : decode cX3_refusal 50 = .ok (.if_icmp .ne 5, 3) := by decide +kernel
theorem dX3_refusal_53 : decode cX3_refusal 53 = .ok (.iconst 2, 1) := by decide +kernel
theorem dX3_refusal_54 : decode cX3_refusal 54 = .ok (.ireturn, 1) := by decide +kernel
theorem dX3_refusal_55 : decode cX3_refusal 55 = .ok (.aload_n 1, 1) := by decide +kernel
theorem dX3_refusal_56 : decode cX3_refusal 56 = .ok (.getfield 96, 3) := by decide +kernel
theorem dX3_refusal_59 : decode cX3_refusal 59 = .ok (.aload_n 0, 1) := by decide +kernel
theorem dX3_refusal_60 : decode cX3_refusal 60 = .ok (.getfield 9, 3) := by decide +kernel
theorem dX3_refusal_63 : decode cX3_refusal 63 = .ok (.iconst 0, 1) := by decide +kernel
theorem dX3_refusal_64 : decode cX3_refusal 64 = .ok (.iaload, 1) := by decide +kernel
theorem dX3_refusal_65 : decode cX3_refusal 65 = .ok (.if_icmp .lt 21, 3) := by decide +kernel
theorem dX3_refusal_68 : decode cX3_refusal 68 = .ok (.aload_n 1, 1) := by decide +kernel
theorem dX3_refusal_69 : decode cX3_refusal 69 = .ok (.getfield 96, 3) := by decide +kernel
theorem dX3_refusal_72 : decode cX3_refusal 72 = .ok (.aload_n 1, 1) := by decide +kernel
theorem dX3_refusal_73 : decode cX3_refusal 73 = .ok (.getfield 90, 3) := by decide +kernel
theorem dX3_refusal_76 : decode cX3_refusal 76 = .ok (.iadd, 1) := by decide +kernel
theorem dX3_refusal_77 : decode cX3_refusal 77 = .ok (.aload_n 0, 1) := by decide +kernel
theorem dX3_refusal_78 : decode cX3_refusal 78 = .ok (.getfield 9, 3) := by decide +kernel
theorem dX3_refusal_81 : decode cX3_refusal 81 = .ok (.iconst 1, 1) := by decide +kernel
theorem dX3_refusal_82 : decode cX3_refusal 82 = .ok (.iaload, 1) := by decide +kernel
theorem dX3_refusal_83 : decode cX3_refusal 83 = .ok (.if_icmp .le 5, 3) := by decide +kernel
theorem dX3_refusal_86 : decode cX3_refusal 86 = .ok (.iconst 3, 1) := by decide +kernel
theorem dX3_refusal_87 : decode cX3_refusal 87 = .ok (.ireturn, 1) := by decide +kernel
theorem dX3_refusal_88 : decode cX3_refusal 88 = .ok (.aload_n 0, 1) := by decide +kernel
theorem dX3_refusal_89 : decode cX3_refusal 89 = .ok (.aload_n 1, 1) := by decide +kernel
theorem dX3_refusal_90 : decode cX3_refusal 90 = .ok (.getfield 99, 3) := by decide +kernel
theorem dX3_refusal_93 : decode cX3_refusal 93 = .ok (.aload_n 1, 1) := by decide +kernel
theorem dX3_refusal_94 : decode cX3_refusal 94 = .ok (.getfield 96, 3) := by decide +kernel
theorem dX3_refusal_97 : decode cX3_refusal 97 = .ok (.aload_n 1, 1) := by decide +kernel
theorem dX3_refusal_98 : decode cX3_refusal 98 = .ok (.getfield 90, 3) := by decide +kernel
theorem dX3_refusal_101 : decode cX3_refusal 101 = .ok (.invokevirtual 102, 3) := by decide +kernel
theorem dX3_refusal_104 : decode cX3_refusal 104 = .ok (.iconst (-1), 1) := by decide +kernel
theorem dX3_refusal_105 : decode cX3_refusal 105 = .ok (.if_icmp .eq 5, 3) := by decide +kernel
theorem dX3_refusal_108 : decode cX3_refusal 108 = .ok (.iconst 4, 1) := by decide +kernel
theorem dX3_refusal_109 : decode cX3_refusal 109 = .ok (.ireturn, 1) := by decide +kernel
theorem dX3_refusal_110 : decode cX3_refusal 110 = .ok (.iload_n 2, 1) := by decide +kernel
theorem dX3_refusal_111 : decode cX3_refusal 111 = .ok (.ifCond .eq 29, 3) := by decide +kernel
theorem dX3_refusal_114 : decode cX3_refusal 114 = .ok (.sipush 1440, 3) := by decide +kernel
theorem dX3_refusal_117 : decode cX3_refusal 117 = .ok (.aload_n 1, 1) := by decide +kernel
theorem dX3_refusal_118 : decode cX3_refusal 118 = .ok (.getfield 99, 3) := by decide +kernel
theorem dX3_refusal_121 : decode cX3_refusal 121 = .ok (.imul, 1) := by decide +kernel
theorem dX3_refusal_122 : decode cX3_refusal 122 = .ok (.aload_n 1, 1) := by decide +kernel
theorem dX3_refusal_123 : decode cX3_refusal 123 = .ok (.getfield 96, 3) := by decide +kernel
theorem dX3_refusal_126 : decode cX3_refusal 126 = .ok (.iadd, 1) := by decide +kernel
theorem dX3_refusal_127 : decode cX3_refusal 127 = .ok (.aload_n 0, 1) := by decide +kernel
theorem dX3_refusal_128 : decode cX3_refusal 128 = .ok (.aload_n 1, 1) := by decide +kernel
theorem dX3_refusal_129 : decode cX3_refusal 129 = .ok (.getfield 78, 3) := by decide +kernel
theorem dX3_refusal_132 : decode cX3_refusal 132 = .ok (.invokevirtual 105, 3) := by decide +kernel
theorem dX3_refusal_135 : decode cX3_refusal 135 = .ok (.if_icmp .ge 5, 3) := by decide +kernel
theorem dX3_refusal_138 : decode cX3_refusal 138 = .ok (.iconst 5, 1) := by decide +kernel
theorem dX3_refusal_139 : decode cX3_refusal 139 = .ok (.ireturn, 1) := by decide +kernel
theorem dX3_refusal_140 : decode cX3_refusal 140 = .ok (.aload_n 0, 1) := by decide +kernel
theorem dX3_refusal_141 : decode cX3_refusal 141 = .ok (.aload_n 1, 1) := by decide +kernel
theorem dX3_refusal_142 : decode cX3_refusal 142 = .ok (.getfield 87, 3) := by decide +kernel
theorem dX3_refusal_145 : decode cX3_refusal 145 = .ok (.aload_n 0, 1) := by decide +kernel
theorem dX3_refusal_146 : decode cX3_refusal 146 = .ok (.aload_n 1, 1) := by decide +kernel
theorem dX3_refusal_147 : decode cX3_refusal 147 = .ok (.getfield 93, 3) := by decide +kernel
theorem dX3_refusal_150 : decode cX3_refusal 150 = .ok (.aload_n 1, 1) := by decide +kernel
theorem dX3_refusal_151 : decode cX3_refusal 151 = .ok (.getfield 90, 3) := by decide +kernel
theorem dX3_refusal_154 : decode cX3_refusal 154 = .ok (.invokevirtual 70, 3) := by decide +kernel
theorem dX3_refusal_157 : decode cX3_refusal 157 = .ok (.invokevirtual 109, 3) := by decide +kernel
theorem dX3_refusal_160 : decode cX3_refusal 160 = .ok (.ifCond .eq 6, 3) := by decide +kernel
theorem dX3_refusal_163 : decode cX3_refusal 163 = .ok (.bipush 6, 2) := by decide +kernel
theorem dX3_refusal_165 : decode cX3_refusal 165 = .ok (.ireturn, 1) := by decide +kernel
theorem dX3_refusal_166 : decode cX3_refusal 166 = .ok (.aload_n 0, 1) := by decide +kernel
theorem dX3_refusal_167 : decode cX3_refusal 167 = .ok (.aload_n 1, 1) := by decide +kernel
theorem dX3_refusal_168 : decode cX3_refusal 168 = .ok (.getfield 99, 3) := by decide +kernel
theorem dX3_refusal_171 : decode cX3_refusal 171 = .ok (.aload_n 1, 1) := by decide +kernel
theorem dX3_refusal_172 : decode cX3_refusal 172 = .ok (.getfield 96, 3) := by decide +kernel
theorem dX3_refusal_175 : decode cX3_refusal 175 = .ok (.aload_n 1, 1) := by decide +kernel
theorem dX3_refusal_176 : decode cX3_refusal 176 = .ok (.getfield 113, 3) := by decide +kernel
theorem dX3_refusal_179 : decode cX3_refusal 179 = .ok (.invokevirtual 115, 3) := by decide +kernel
theorem dX3_refusal_182 : decode cX3_refusal 182 = .ok (.ifCond .eq 8, 3) := by decide +kernel
theorem dX3_refusal_185 : decode cX3_refusal 185 = .ok (.bipush 7, 2) := by decide +kernel
theorem dX3_refusal_187 : decode cX3_refusal 187 = .ok (.goto 4, 3) := by decide +kernel
theorem dX3_refusal_190 : decode cX3_refusal 190 = .ok (.iconst 0, 1) := by decide +kernel
theorem dX3_refusal_191 : decode cX3_refusal 191 = .ok (.ireturn, 1) := by decide +kernel
theorem dX3_showInTheWay_0 : decode cX3_showInTheWay 0 = .ok (.iconst 0, 1) := by decide +kernel
theorem dX3_showInTheWay_1 : decode cX3_showInTheWay 1 = .ok (.istore 4, 2) := by decide +kernel
theorem dX3_showInTheWay_3 : decode cX3_showInTheWay 3 = .ok (.iload 4, 2) := by decide +kernel
theorem dX3_showInTheWay_5 : decode cX3_showInTheWay 5 = .ok (.aload_n 0, 1) := by decide +kernel
theorem dX3_showInTheWay_6 : decode cX3_showInTheWay 6 = .ok (.getfield 67, 3) := by decide +kernel
theorem dX3_showInTheWay_9 : decode cX3_showInTheWay 9 = .ok (.if_icmp .ge 55, 3) := by decide +kernel
theorem dX3_showInTheWay_12 : decode cX3_showInTheWay 12 = .ok (.aload_n 0, 1) := by decide +kernel
theorem dX3_showInTheWay_13 : decode cX3_showInTheWay 13 = .ok (.getfield 36, 3) := by decide +kernel
theorem dX3_showInTheWay_16 : decode cX3_showInTheWay 16 = .ok (.iload 4, 2) := by decide +kernel
theorem dX3_showInTheWay_18 : decode cX3_showInTheWay 18 = .ok (.iaload, 1) := by decide +kernel
theorem dX3_showInTheWay_19 : decode cX3_showInTheWay 19 = .ok (.iload_n 1, 1) := by decide +kernel
theorem dX3_showInTheWay_20 : decode cX3_showInTheWay 20 = .ok (.if_icmp .ne 38, 3) := by decide +kernel
theorem dX3_showInTheWay_23 : decode cX3_showInTheWay 23 = .ok (.aload_n 0, 1) := by decide +kernel
theorem dX3_showInTheWay_24 : decode cX3_showInTheWay 24 = .ok (.getfield 39, 3) := by decide +kernel
theorem dX3_showInTheWay_27 : decode cX3_showInTheWay 27 = .ok (.iload 4, 2) := by decide +kernel
theorem dX3_showInTheWay_29 : decode cX3_showInTheWay 29 = .ok (.iaload, 1) := by decide +kernel
theorem dX3_showInTheWay_30 : decode cX3_showInTheWay 30 = .ok (.iload_n 2, 1) := by decide +kernel
theorem dX3_showInTheWay_31 : decode cX3_showInTheWay 31 = .ok (.iload_n 3, 1) := by decide +kernel
theorem dX3_showInTheWay_32 : decode cX3_showInTheWay 32 = .ok (.iadd, 1) := by decide +kernel
theorem dX3_showInTheWay_33 : decode cX3_showInTheWay 33 = .ok (.if_icmp .ge 25, 3) := by decide +kernel
theorem dX3_showInTheWay_36 : decode cX3_showInTheWay 36 = .ok (.aload_n 0, 1) := by decide +kernel
theorem dX3_showInTheWay_37 : decode cX3_showInTheWay 37 = .ok (.getfield 39, 3) := by decide +kernel
theorem dX3_showInTheWay_40 : decode cX3_showInTheWay 40 = .ok (.iload 4, 2) := by decide +kernel
theorem dX3_showInTheWay_42 : decode cX3_showInTheWay 42 = .ok (.iaload, 1) := by decide +kernel
theorem dX3_showInTheWay_43 : decode cX3_showInTheWay 43 = .ok (.aload_n 0, 1) := by decide +kernel
theorem dX3_showInTheWay_44 : decode cX3_showInTheWay 44 = .ok (.getfield 42, 3) := by decide +kernel
theorem dX3_showInTheWay_47 : decode cX3_showInTheWay 47 = .ok (.iload 4, 2) := by decide +kernel
theorem dX3_showInTheWay_49 : decode cX3_showInTheWay 49 = .ok (.iaload, 1) := by decide +kernel
theorem dX3_showInTheWay_50 : decode cX3_showInTheWay 50 = .ok (.iadd, 1) := by decide +kernel
theorem dX3_showInTheWay_51 : decode cX3_showInTheWay 51 = .ok (.iload_n 2, 1) := by decide +kernel
theorem dX3_showInTheWay_52 : decode cX3_showInTheWay 52 = .ok (.if_icmp .le 6, 3) := by decide +kernel
theorem dX3_showInTheWay_55 : decode cX3_showInTheWay 55 = .ok (.iload 4, 2) := by decide +kernel
theorem dX3_showInTheWay_57 : decode cX3_showInTheWay 57 = .ok (.ireturn, 1) := by decide +kernel
theorem dX3_showInTheWay_58 : decode cX3_showInTheWay 58 = .ok (.iinc 4 1, 3) := by decide +kernel
theorem dX3_showInTheWay_61 : decode cX3_showInTheWay 61 = .ok (.goto (-58), 3) := by decide +kernel
theorem dX3_showInTheWay_64 : decode cX3_showInTheWay 64 = .ok (.iconst (-1), 1) := by decide +kernel
theorem dX3_showInTheWay_65 : decode cX3_showInTheWay 65 = .ok (.ireturn, 1) := by decide +kernel
theorem dX3_earliestRepeat_0 : decode cX3_earliestRepeat 0 = .ok (.sipush 1440, 3) := by decide +kernel
theorem dX3_earliestRepeat_3 : decode cX3_earliestRepeat 3 = .ok (.aload_n 0, 1) := by decide +kernel
theorem dX3_earliestRepeat_4 : decode cX3_earliestRepeat 4 = .ok (.getfield 36, 3) := by decide +kernel
theorem dX3_earliestRepeat_7 : decode cX3_earliestRepeat 7 = .ok (.iload_n 1, 1) := by decide +kernel
theorem dX3_earliestRepeat_8 : decode cX3_earliestRepeat 8 = .ok (.iaload, 1) := by decide +kernel
theorem dX3_earliestRepeat_9 : decode cX3_earliestRepeat 9 = .ok (.imul, 1) := by decide +kernel
theorem dX3_earliestRepeat_10 : decode cX3_earliestRepeat 10 = .ok (.aload_n 0, 1) := by decide +kernel
theorem dX3_earliestRepeat_11 : decode cX3_earliestRepeat 11 = .ok (.getfield 39, 3) := by decide +kernel
theorem dX3_earliestRepeat_14 : decode cX3_earliestRepeat 14 = .ok (.iload_n 1, 1) := by decide +kernel
theorem dX3_earliestRepeat_15 : decode cX3_earliestRepeat 15 = .ok (.iaload, 1) := by decide +kernel
theorem dX3_earliestRepeat_16 : decode cX3_earliestRepeat 16 = .ok (.iadd, 1) := by decide +kernel
theorem dX3_earliestRepeat_17 : decode cX3_earliestRepeat 17 = .ok (.aload_n 0, 1) := by decide +kernel
theorem dX3_earliestRepeat_18 : decode cX3_earliestRepeat 18 = .ok (.getfield 42, 3) := by decide +kernel
theorem dX3_earliestRepeat_21 : decode cX3_earliestRepeat 21 = .ok (.iload_n 1, 1) := by decide +kernel
theorem dX3_earliestRepeat_22 : decode cX3_earliestRepeat 22 = .ok (.iaload, 1) := by decide +kernel
theorem dX3_earliestRepeat_23 : decode cX3_earliestRepeat 23 = .ok (.iadd, 1) := by decide +kernel
theorem dX3_earliestRepeat_24 : decode cX3_earliestRepeat 24 = .ok (.bipush 60, 2) := by decide +kernel
theorem dX3_earliestRepeat_26 : decode cX3_earliestRepeat 26 = .ok (.aload_n 0, 1) := by decide +kernel
theorem dX3_earliestRepeat_27 : decode cX3_earliestRepeat 27 = .ok (.getfield 9, 3) := by decide +kernel
theorem dX3_earliestRepeat_30 : decode cX3_earliestRepeat 30 = .ok (.iconst 4, 1) := by decide +kernel
theorem dX3_earliestRepeat_31 : decode cX3_earliestRepeat 31 = .ok (.iaload, 1) := by decide +kernel
theorem dX3_earliestRepeat_32 : decode cX3_earliestRepeat 32 = .ok (.imul, 1) := by decide +kernel
theorem dX3_earliestRepeat_33 : decode cX3_earliestRepeat 33 = .ok (.iadd, 1) := by decide +kernel
theorem dX3_earliestRepeat_34 : decode cX3_earliestRepeat 34 = .ok (.ireturn, 1) := by decide +kernel
theorem dX3_exceedsAllowance_0 : decode cX3_exceedsAllowance 0 = .ok (.aload_n 0, 1) := by decide +kernel
theorem dX3_exceedsAllowance_1 : decode cX3_exceedsAllowance 1 = .ok (.iload_n 1, 1) := by decide +kernel
theorem dX3_exceedsAllowance_2 : decode cX3_exceedsAllowance 2 = .ok (.invokevirtual 119, 3) := by decide +kernel
theorem dX3_exceedsAllowance_5 : decode cX3_exceedsAllowance 5 = .ok (.iload_n 2, 1) := by decide +kernel
theorem dX3_exceedsAllowance_6 : decode cX3_exceedsAllowance 6 = .ok (.iadd, 1) := by decide +kernel
theorem dX3_exceedsAllowance_7 : decode cX3_exceedsAllowance 7 = .ok (.aload_n 0, 1) := by decide +kernel
theorem dX3_exceedsAllowance_8 : decode cX3_exceedsAllowance 8 = .ok (.iload_n 1, 1) := by decide +kernel
theorem dX3_exceedsAllowance_9 : decode cX3_exceedsAllowance 9 = .ok (.invokevirtual 122, 3) := by decide +kernel
theorem dX3_exceedsAllowance_12 : decode cX3_exceedsAllowance 12 = .ok (.if_icmp .le 7, 3) := by decide +kernel
theorem dX3_exceedsAllowance_15 : decode cX3_exceedsAllowance 15 = .ok (.iconst 1, 1) := by decide +kernel
theorem dX3_exceedsAllowance_16 : decode cX3_exceedsAllowance 16 = .ok (.goto 4, 3) := by decide +kernel
theorem dX3_exceedsAllowance_19 : decode cX3_exceedsAllowance 19 = .ok (.iconst 0, 1) := by decide +kernel
theorem dX3_exceedsAllowance_20 : decode cX3_exceedsAllowance 20 = .ok (.ireturn, 1) := by decide +kernel
theorem dX3_exceedsSponsorLimit_0 : decode cX3_exceedsSponsorLimit 0 = .ok (.iconst 0, 1) := by decide +kernel
theorem dX3_exceedsSponsorLimit_1 : decode cX3_exceedsSponsorLimit 1 = .ok (.istore 4, 2) := by decide +kernel
theorem dX3_exceedsSponsorLimit_3 : decode cX3_exceedsSponsorLimit 3 = .ok (.iload 4, 2) := by decide +kernel
theorem dX3_exceedsSponsorLimit_5 : decode cX3_exceedsSponsorLimit 5 = .ok (.bipush 24, 2) := by decide +kernel
theorem dX3_exceedsSponsorLimit_7 : decode cX3_exceedsSponsorLimit 7 = .ok (.if_icmp .ge 40, 3) := by decide +kernel
theorem dX3_exceedsSponsorLimit_10 : decode cX3_exceedsSponsorLimit 10 = .ok (.aload_n 0, 1) := by decide +kernel
theorem dX3_exceedsSponsorLimit_11 : decode cX3_exceedsSponsorLimit 11 = .ok (.iload_n 1, 1) := by decide +kernel
theorem dX3_exceedsSponsorLimit_12 : decode cX3_exceedsSponsorLimit 12 = .ok (.iload 4, 2) := by decide +kernel
theorem dX3_exceedsSponsorLimit_14 : decode cX3_exceedsSponsorLimit 14 = .ok (.invokevirtual 125, 3) := by decide +kernel
theorem dX3_exceedsSponsorLimit_17 : decode cX3_exceedsSponsorLimit 17 = .ok (.iload_n 2, 1) := by decide +kernel
theorem dX3_exceedsSponsorLimit_18 : decode cX3_exceedsSponsorLimit 18 = .ok (.iload_n 3, 1) := by decide +kernel
theorem dX3_exceedsSponsorLimit_19 : decode cX3_exceedsSponsorLimit 19 = .ok (.iload 4, 2) := by decide +kernel
theorem dX3_exceedsSponsorLimit_21 : decode cX3_exceedsSponsorLimit 21 = .ok (.invokestatic 74, 3) := by decide +kernel
theorem dX3_exceedsSponsorLimit_24 : decode cX3_exceedsSponsorLimit 24 = .ok (.iadd, 1) := by decide +kernel
theorem dX3_exceedsSponsorLimit_25 : decode cX3_exceedsSponsorLimit 25 = .ok (.istore 5, 2) := by decide +kernel
theorem dX3_exceedsSponsorLimit_27 : decode cX3_exceedsSponsorLimit 27 = .ok (.iload 5, 2) := by decide +kernel
theorem dX3_exceedsSponsorLimit_29 : decode cX3_exceedsSponsorLimit 29 = .ok (.aload_n 0, 1) := by decide +kernel
theorem dX3_exceedsSponsorLimit_30 : decode cX3_exceedsSponsorLimit 30 = .ok (.getfield 9, 3) := by decide +kernel
theorem dX3_exceedsSponsorLimit_33 : decode cX3_exceedsSponsorLimit 33 = .ok (.bipush 6, 2) := by decide +kernel
theorem dX3_exceedsSponsorLimit_35 : decode cX3_exceedsSponsorLimit 35 = .ok (.iaload, 1) := by decide +kernel
theorem dX3_exceedsSponsorLimit_36 : decode cX3_exceedsSponsorLimit 36 = .ok (.if_icmp .le 5, 3) := by decide +kernel
theorem dX3_exceedsSponsorLimit_39 : decode cX3_exceedsSponsorLimit 39 = .ok (.iconst 1, 1) := by decide +kernel
theorem dX3_exceedsSponsorLimit_40 : decode cX3_exceedsSponsorLimit 40 = .ok (.ireturn, 1) := by decide +kernel
theorem dX3_exceedsSponsorLimit_41 : decode cX3_exceedsSponsorLimit 41 = .ok (.iinc 4 1, 3) := by decide +kernel
theorem dX3_exceedsSponsorLimit_44 : decode cX3_exceedsSponsorLimit 44 = .ok (.goto (-41), 3) := by decide +kernel
theorem dX3_exceedsSponsorLimit_47 : decode cX3_exceedsSponsorLimit 47 = .ok (.iconst 0, 1) := by decide +kernel
theorem dX3_exceedsSponsorLimit_48 : decode cX3_exceedsSponsorLimit 48 = .ok (.ireturn, 1) := by decide +kernel
theorem dX3_firstTapeTime_0 : decode cX3_firstTapeTime 0 = .ok (.aload_n 0, 1) := by decide +kernel
theorem dX3_firstTapeTime_1 : decode cX3_firstTapeTime 1 = .ok (.getfield 67, 3) := by decide +kernel
theorem dX3_firstTapeTime_4 : decode cX3_firstTapeTime 4 = .ok (.bipush 24, 2) := by decide +kernel
theorem dX3_firstTapeTime_6 : decode cX3_firstTapeTime 6 = .ok (.if_icmp .ge 22, 3) := by decide +kernel
theorem dX3_firstTapeTime_9 : decode cX3_firstTapeTime 9 = .ok (.aload_n 0, 1) := by decide +kernel
theorem dX3_firstTapeTime_10 : decode cX3_firstTapeTime 10 = .ok (.iload_n 1, 1) := by decide +kernel
theorem dX3_firstTapeTime_11 : decode cX3_firstTapeTime 11 = .ok (.iload_n 3, 1) := by decide +kernel
theorem dX3_firstTapeTime_12 : decode cX3_firstTapeTime 12 = .ok (.invokevirtual 109, 3) := by decide +kernel
theorem dX3_firstTapeTime_15 : decode cX3_firstTapeTime 15 = .ok (.ifCond .ne 13, 3) := by decide +kernel
theorem dX3_firstTapeTime_18 : decode cX3_firstTapeTime 18 = .ok (.aload_n 0, 1) := by decide +kernel
theorem dX3_firstTapeTime_19 : decode cX3_firstTapeTime 19 = .ok (.iload_n 2, 1) := by decide +kernel
theorem dX3_firstTapeTime_20 : decode cX3_firstTapeTime 20 = .ok (.iconst 0, 1) := by decide +kernel
theorem dX3_firstTapeTime_21 : decode cX3_firstTapeTime 21 = .ok (.iconst 0, 1) := by decide +kernel
theorem dX3_firstTapeTime_22 : decode cX3_firstTapeTime 22 = .ok (.invokevirtual 115, 3) := by decide +kernel
theorem dX3_firstTapeTime_25 : decode cX3_firstTapeTime 25 = .ok (.ifCond .eq 5, 3) := by decide +kernel
theorem dX3_firstTapeTime_28 : decode cX3_firstTapeTime 28 = .ok (.iconst (-1), 1) := by decide +kernel
theorem dX3_firstTapeTime_29 : decode cX3_firstTapeTime 29 = .ok (.ireturn, 1) := by decide +kernel
theorem dX3_firstTapeTime_30 : decode cX3_firstTapeTime 30 = .ok (.aload_n 0, 1) := by decide +kernel
theorem dX3_firstTapeTime_31 : decode cX3_firstTapeTime 31 = .ok (.iload_n 2, 1) := by decide +kernel
theorem dX3_firstTapeTime_32 : decode cX3_firstTapeTime 32 = .ok (.iload_n 3, 1) := by decide +kernel
theorem dX3_firstTapeTime_33 : decode cX3_firstTapeTime 33 = .ok (.iconst 0, 1) := by decide +kernel
theorem dX3_firstTapeTime_34 : decode cX3_firstTapeTime 34 = .ok (.invokevirtual 128, 3) := by decide +kernel
theorem dX3_firstTapeTime_37 : decode cX3_firstTapeTime 37 = .ok (.ireturn, 1) := by decide +kernel
theorem dX3_firstRepeatTime_0 : decode cX3_firstRepeatTime 0 = .ok (.aload_n 0, 1) := by decide +kernel
theorem dX3_firstRepeatTime_1 : decode cX3_firstRepeatTime 1 = .ok (.getfield 42, 3) := by decide +kernel
theorem dX3_firstRepeatTime_4 : decode cX3_firstRepeatTime 4 = .ok (.iload_n 1, 1) := by decide +kernel
theorem dX3_firstRepeatTime_5 : decode cX3_firstRepeatTime 5 = .ok (.iaload, 1) := by decide +kernel
theorem dX3_firstRepeatTime_6 : decode cX3_firstRepeatTime 6 = .ok (.istore_n 2, 1) := by decide +kernel
theorem dX3_firstRepeatTime_7 : decode cX3_firstRepeatTime 7 = .ok (.aload_n 0, 1) := by decide +kernel
theorem dX3_firstRepeatTime_8 : decode cX3_firstRepeatTime 8 = .ok (.getfield 67, 3) := by decide +kernel
theorem dX3_firstRepeatTime_11 : decode cX3_firstRepeatTime 11 = .ok (.bipush 24, 2) := by decide +kernel
theorem dX3_firstRepeatTime_13 : decode cX3_firstRepeatTime 13 = .ok (.if_icmp .ge 32, 3) := by decide +kernel
theorem dX3_firstRepeatTime_16 : decode cX3_firstRepeatTime 16 = .ok (.aload_n 0, 1) := by decide +kernel
theorem dX3_firstRepeatTime_17 : decode cX3_firstRepeatTime 17 = .ok (.getfield 30, 3) := by decide +kernel
theorem dX3_firstRepeatTime_20 : decode cX3_firstRepeatTime 20 = .ok (.iload_n 1, 1) := by decide +kernel
theorem dX3_firstRepeatTime_21 : decode cX3_firstRepeatTime 21 = .ok (.iaload, 1) := by decide +kernel
theorem dX3_firstRepeatTime_22 : decode cX3_firstRepeatTime 22 = .ok (.iconst 2, 1) := by decide +kernel
theorem dX3_firstRepeatTime_23 : decode cX3_firstRepeatTime 23 = .ok (.if_icmp .eq 22, 3) := by decide +kernel
theorem dX3_firstRepeatTime_26 : decode cX3_firstRepeatTime 26 = .ok (.aload_n 0, 1) := by decide +kernel
theorem dX3_firstRepeatTime_27 : decode cX3_firstRepeatTime 27 = .ok (.aload_n 0, 1) := by decide +kernel
theorem dX3_firstRepeatTime_28 : decode cX3_firstRepeatTime 28 = .ok (.getfield 33, 3) := by decide +kernel
theorem dX3_firstRepeatTime_31 : decode cX3_firstRepeatTime 31 = .ok (.iload_n 1, 1) := by decide +kernel
theorem dX3_firstRepeatTime_32 : decode cX3_firstRepeatTime 32 = .ok (.iaload, 1) := by decide +kernel
theorem dX3_firstRepeatTime_33 : decode cX3_firstRepeatTime 33 = .ok (.aload_n 0, 1) := by decide +kernel
theorem dX3_firstRepeatTime_34 : decode cX3_firstRepeatTime 34 = .ok (.iconst 2, 1) := by decide +kernel
theorem dX3_firstRepeatTime_35 : decode cX3_firstRepeatTime 35 = .ok (.iload_n 2, 1) := by decide +kernel
theorem dX3_firstRepeatTime_36 : decode cX3_firstRepeatTime 36 = .ok (.invokevirtual 70, 3) := by decide +kernel
theorem dX3_firstRepeatTime_39 : decode cX3_firstRepeatTime 39 = .ok (.invokevirtual 109, 3) := by decide +kernel
theorem dX3_firstRepeatTime_42 : decode cX3_firstRepeatTime 42 = .ok (.ifCond .eq 5, 3) := by decide +kernel
theorem dX3_firstRepeatTime_45 : decode cX3_firstRepeatTime 45 = .ok (.iconst (-1), 1) := by decide +kernel
theorem dX3_firstRepeatTime_46 : decode cX3_firstRepeatTime 46 = .ok (.ireturn, 1) := by decide +kernel
theorem dX3_firstRepeatTime_47 : decode cX3_firstRepeatTime 47 = .ok (.iconst 0, 1) := by decide +kernel
theorem dX3_firstRepeatTime_48 : decode cX3_firstRepeatTime 48 = .ok (.istore_n 3, 1) := by decide +kernel
theorem dX3_firstRepeatTime_49 : decode cX3_firstRepeatTime 49 = .ok (.iload_n 3, 1) := by decide +kernel
theorem dX3_firstRepeatTime_50 : decode cX3_firstRepeatTime 50 = .ok (.bipush 7, 2) := by decide +kernel
theorem dX3_firstRepeatTime_52 : decode cX3_firstRepeatTime 52 = .ok (.if_icmp .ge 53, 3) := by decide +kernel
theorem dX3_firstRepeatTime_55 : decode cX3_firstRepeatTime 55 = .ok (.aload_n 0, 1) := by decide +kernel
theorem dX3_firstRepeatTime_56 : decode cX3_firstRepeatTime 56 = .ok (.iload_n 3, 1) := by decide +kernel
theorem dX3_firstRepeatTime_57 : decode cX3_firstRepeatTime 57 = .ok (.iload_n 2, 1) := by decide +kernel
theorem dX3_firstRepeatTime_58 : decode cX3_firstRepeatTime 58 = .ok (.aload_n 0, 1) := by decide +kernel
theorem dX3_firstRepeatTime_59 : decode cX3_firstRepeatTime 59 = .ok (.iload_n 1, 1) := by decide +kernel
theorem dX3_firstRepeatTime_60 : decode cX3_firstRepeatTime 60 = .ok (.invokevirtual 105, 3) := by decide +kernel
theorem dX3_firstRepeatTime_63 : decode cX3_firstRepeatTime 63 = .ok (.sipush 1440, 3) := by decide +kernel
theorem dX3_firstRepeatTime_66 : decode cX3_firstRepeatTime 66 = .ok (.iload_n 3, 1) := by decide +kernel
theorem dX3_firstRepeatTime_67 : decode cX3_firstRepeatTime 67 = .ok (.imul, 1) := by decide +kernel
theorem dX3_firstRepeatTime_68 : decode cX3_firstRepeatTime 68 = .ok (.isub, 1) := by decide +kernel
theorem dX3_firstRepeatTime_69 : decode cX3_firstRepeatTime 69 = .ok (.invokevirtual 128, 3) := by decide +kernel
theorem dX3_firstRepeatTime_72 : decode cX3_firstRepeatTime 72 = .ok (.istore 4, 2) := by decide +kernel
theorem dX3_firstRepeatTime_74 : decode cX3_firstRepeatTime 74 = .ok (.iload 4, 2) := by decide +kernel
theorem dX3_firstRepeatTime_76 : decode cX3_firstRepeatTime 76 = .ok (.iconst (-1), 1) := by decide +kernel
theorem dX3_firstRepeatTime_77 : decode cX3_firstRepeatTime 77 = .ok (.if_icmp .eq 22, 3) := by decide +kernel
theorem dX3_firstRepeatTime_80 : decode cX3_firstRepeatTime 80 = .ok (.aload_n 0, 1) := by decide +kernel
theorem dX3_firstRepeatTime_81 : decode cX3_firstRepeatTime 81 = .ok (.iload_n 3, 1) := by decide +kernel
theorem dX3_firstRepeatTime_82 : decode cX3_firstRepeatTime 82 = .ok (.iconst 0, 1) := by decide +kernel
theorem dX3_firstRepeatTime_83 : decode cX3_firstRepeatTime 83 = .ok (.iconst 0, 1) := by decide +kernel
theorem dX3_firstRepeatTime_84 : decode cX3_firstRepeatTime 84 = .ok (.invokevirtual 115, 3) := by decide +kernel
theorem dX3_firstRepeatTime_87 : decode cX3_firstRepeatTime 87 = .ok (.ifCond .ne 12, 3) := by decide +kernel
theorem dX3_firstRepeatTime_90 : decode cX3_firstRepeatTime 90 = .ok (.sipush 1440, 3) := by decide +kernel
theorem dX3_firstRepeatTime_93 : decode cX3_firstRepeatTime 93 = .ok (.iload_n 3, 1) := by decide +kernel
theorem dX3_firstRepeatTime_94 : decode cX3_firstRepeatTime 94 = .ok (.imul, 1) := by decide +kernel
theorem dX3_firstRepeatTime_95 : decode cX3_firstRepeatTime 95 = .ok (.iload 4, 2) := by decide +kernel
theorem dX3_firstRepeatTime_97 : decode cX3_firstRepeatTime 97 = .ok (.iadd, 1) := by decide +kernel
theorem dX3_firstRepeatTime_98 : decode cX3_firstRepeatTime 98 = .ok (.ireturn, 1) := by decide +kernel
theorem dX3_firstRepeatTime_99 : decode cX3_firstRepeatTime 99 = .ok (.iinc 3 1, 3) := by decide +kernel
theorem dX3_firstRepeatTime_102 : decode cX3_firstRepeatTime 102 = .ok (.goto (-53), 3) := by decide +kernel
theorem dX3_firstRepeatTime_105 : decode cX3_firstRepeatTime 105 = .ok (.iconst (-1), 1) := by decide +kernel
theorem dX3_firstRepeatTime_106 : decode cX3_firstRepeatTime 106 = .ok (.ireturn, 1) := by decide +kernel
theorem dX3_firstFreeStart_0 : decode cX3_firstFreeStart 0 = .ok (.iload_n 3, 1) := by decide +kernel
theorem dX3_firstFreeStart_1 : decode cX3_firstFreeStart 1 = .ok (.aload_n 0, 1) := by decide +kernel
theorem dX3_firstFreeStart_2 : decode cX3_firstFreeStart 2 = .ok (.getfield 9, 3) := by decide +kernel
theorem dX3_firstFreeStart_5 : decode cX3_firstFreeStart 5 = .ok (.iconst 0, 1) := by decide +kernel
theorem dX3_firstFreeStart_6 : decode cX3_firstFreeStart 6 = .ok (.iaload, 1) := by decide +kernel
theorem dX3_firstFreeStart_7 : decode cX3_firstFreeStart 7 = .ok (.invokestatic 131, 3) := by decide +kernel
theorem dX3_firstFreeStart_10 : decode cX3_firstFreeStart 10 = .ok (.invokestatic 136, 3) := by decide +kernel
theorem dX3_firstFreeStart_13 : decode cX3_firstFreeStart 13 = .ok (.istore 4, 2) := by decide +kernel
theorem dX3_firstFreeStart_15 : decode cX3_firstFreeStart 15 = .ok (.iconst 0, 1) := by decide +kernel
theorem dX3_firstFreeStart_16 : decode cX3_firstFreeStart 16 = .ok (.istore 5, 2) := by decide +kernel
theorem dX3_firstFreeStart_18 : decode cX3_firstFreeStart 18 = .ok (.iload 5, 2) := by decide +kernel
theorem dX3_firstFreeStart_20 : decode cX3_firstFreeStart 20 = .ok (.aload_n 0, 1) := by decide +kernel
theorem dX3_firstFreeStart_21 : decode cX3_firstFreeStart 21 = .ok (.getfield 67, 3) := by decide +kernel
theorem dX3_firstFreeStart_24 : decode cX3_firstFreeStart 24 = .ok (.if_icmp .gt 61, 3) := by decide +kernel
theorem dX3_firstFreeStart_27 : decode cX3_firstFreeStart 27 = .ok (.iload 4, 2) := by decide +kernel
theorem dX3_firstFreeStart_29 : decode cX3_firstFreeStart 29 = .ok (.iload_n 2, 1) := by decide +kernel
theorem dX3_firstFreeStart_30 : decode cX3_firstFreeStart 30 = .ok (.iadd, 1) := by decide +kernel
theorem dX3_firstFreeStart_31 : decode cX3_firstFreeStart 31 = .ok (.aload_n 0, 1) := by decide +kernel
theorem dX3_firstFreeStart_32 : decode cX3_firstFreeStart 32 = .ok (.getfield 9, 3) := by decide +kernel
theorem dX3_firstFreeStart_35 : decode cX3_firstFreeStart 35 = .ok (.iconst 1, 1) := by decide +kernel
theorem dX3_firstFreeStart_36 : decode cX3_firstFreeStart 36 = .ok (.iaload, 1) := by decide +kernel
theorem dX3_firstFreeStart_37 : decode cX3_firstFreeStart 37 = .ok (.if_icmp .gt 48, 3) := by decide +kernel
theorem dX3_firstFreeStart_40 : decode cX3_firstFreeStart 40 = .ok (.aload_n 0, 1) := by decide +kernel
theorem dX3_firstFreeStart_41 : decode cX3_firstFreeStart 41 = .ok (.iload_n 1, 1) := by decide +kernel
theorem dX3_firstFreeStart_42 : decode cX3_firstFreeStart 42 = .ok (.iload 4, 2) := by decide +kernel
theorem dX3_firstFreeStart_44 : decode cX3_firstFreeStart 44 = .ok (.iload_n 2, 1) := by decide +kernel
theorem dX3_firstFreeStart_45 : decode cX3_firstFreeStart 45 = .ok (.invokevirtual 102, 3) := by decide +kernel
theorem dX3_firstFreeStart_48 : decode cX3_firstFreeStart 48 = .ok (.istore 6, 2) := by decide +kernel
theorem dX3_firstFreeStart_50 : decode cX3_firstFreeStart 50 = .ok (.iload 6, 2) := by decide +kernel
theorem dX3_firstFreeStart_52 : decode cX3_firstFreeStart 52 = .ok (.iconst (-1), 1) := by decide +kernel
theorem dX3_firstFreeStart_53 : decode cX3_firstFreeStart 53 = .ok (.if_icmp .ne 6, 3) := by decide +kernel
theorem dX3_firstFreeStart_56 : decode cX3_firstFreeStart 56 = .ok (.iload 4, 2) := by decide +kernel
theorem dX3_firstFreeStart_58 : decode cX3_firstFreeStart 58 = .ok (.ireturn, 1) := by decide +kernel
theorem dX3_firstFreeStart_59 : decode cX3_firstFreeStart 59 = .ok (.aload_n 0, 1) := by decide +kernel
theorem dX3_firstFreeStart_60 : decode cX3_firstFreeStart 60 = .ok (.getfield 39, 3) := by decide +kernel
theorem dX3_firstFreeStart_63 : decode cX3_firstFreeStart 63 = .ok (.iload 6, 2) := by decide +kernel
theorem dX3_firstFreeStart_65 : decode cX3_firstFreeStart 65 = .ok (.iaload, 1) := by decide +kernel
theorem dX3_firstFreeStart_66 : decode cX3_firstFreeStart 66 = .ok (.aload_n 0, 1) := by decide +kernel
theorem dX3_firstFreeStart_67 : decode cX3_firstFreeStart 67 = .ok (.getfield 42, 3) := by decide +kernel
theorem dX3_firstFreeStart_70 : decode cX3_firstFreeStart 70 = .ok (.iload 6, 2) := by decide +kernel
theorem dX3_firstFreeStart_72 : decode cX3_firstFreeStart 72 = .ok (.iaload, 1) := by decide +kernel
theorem dX3_firstFreeStart_73 : decode cX3_firstFreeStart 73 = .ok (.iadd, 1) := by decide +kernel
theorem dX3_firstFreeStart_74 : decode cX3_firstFreeStart 74 = .ok (.invokestatic 136, 3) := by decide +kernel
theorem dX3_firstFreeStart_77 : decode cX3_firstFreeStart 77 = .ok (.istore 4, 2) := by decide +kernel
theorem dX3_firstFreeStart_79 : decode cX3_firstFreeStart 79 = .ok (.iinc 5 1, 3) := by decide +kernel
theorem dX3_firstFreeStart_82 : decode cX3_firstFreeStart 82 = .ok (.goto (-64), 3) := by decide +kernel
theorem dX3_firstFreeStart_85 : decode cX3_firstFreeStart 85 = .ok (.iconst (-1), 1) := by decide +kernel
theorem dX3_firstFreeStart_86 : decode cX3_firstFreeStart 86 = .ok (.ireturn, 1) := by decide +kernel
theorem dX3_nextTimeStep_0 : decode cX3_nextTimeStep 0 = .ok (.iload_n 0, 1) := by decide +kernel
theorem dX3_nextTimeStep_1 : decode cX3_nextTimeStep 1 = .ok (.iconst 5, 1) := by decide +kernel
theorem dX3_nextTimeStep_2 : decode cX3_nextTimeStep 2 = .ok (.iadd, 1) := by decide +kernel
theorem dX3_nextTimeStep_3 : decode cX3_nextTimeStep 3 = .ok (.iconst 1, 1) := by decide +kernel
theorem dX3_nextTimeStep_4 : decode cX3_nextTimeStep 4 = .ok (.isub, 1) := by decide +kernel
theorem dX3_nextTimeStep_5 : decode cX3_nextTimeStep 5 = .ok (.iconst 5, 1) := by decide +kernel
theorem dX3_nextTimeStep_6 : decode cX3_nextTimeStep 6 = .ok (.idiv, 1) := by decide +kernel
theorem dX3_nextTimeStep_7 : decode cX3_nextTimeStep 7 = .ok (.iconst 5, 1) := by decide +kernel
theorem dX3_nextTimeStep_8 : decode cX3_nextTimeStep 8 = .ok (.imul, 1) := by decide +kernel
theorem dX3_nextTimeStep_9 : decode cX3_nextTimeStep 9 = .ok (.ireturn, 1) := by decide +kernel
theorem dX3_insert_0 : decode cX3_insert 0 = .ok (.aload_n 0, 1) := by decide +kernel
theorem dX3_insert_1 : decode cX3_insert 1 = .ok (.getfield 67, 3) := by decide +kernel
theorem dX3_insert_4 : decode cX3_insert 4 = .ok (.bipush 24, 2) := by decide +kernel
theorem dX3_insert_6 : decode cX3_insert 6 = .ok (.if_icmp .lt 5, 3) := by decide +kernel
theorem dX3_insert_9 : decode cX3_insert 9 = .ok (.iconst (-1), 1) := by decide +kernel
theorem dX3_insert_10 : decode cX3_insert 10 = .ok (.ireturn, 1) := by decide +kernel
theorem dX3_insert_11 : decode cX3_insert 11 = .ok (.aload_n 0, 1) := by decide +kernel
theorem dX3_insert_12 : decode cX3_insert 12 = .ok (.aload_n 1, 1) := by decide +kernel
theorem dX3_insert_13 : decode cX3_insert 13 = .ok (.getfield 99, 3) := by decide +kernel
theorem dX3_insert_16 : decode cX3_insert 16 = .ok (.aload_n 1, 1) := by decide +kernel
theorem dX3_insert_17 : decode cX3_insert 17 = .ok (.getfield 96, 3) := by decide +kernel
theorem dX3_insert_20 : decode cX3_insert 20 = .ok (.invokevirtual 139, 3) := by decide +kernel
theorem dX3_insert_23 : decode cX3_insert 23 = .ok (.istore_n 2, 1) := by decide +kernel
theorem dX3_insert_24 : decode cX3_insert 24 = .ok (.aload_n 0, 1) := by decide +kernel
theorem dX3_insert_25 : decode cX3_insert 25 = .ok (.getfield 67, 3) := by decide +kernel
theorem dX3_insert_28 : decode cX3_insert 28 = .ok (.istore_n 3, 1) := by decide +kernel
theorem dX3_insert_29 : decode cX3_insert 29 = .ok (.iload_n 3, 1) := by decide +kernel
theorem dX3_insert_30 : decode cX3_insert 30 = .ok (.iload_n 2, 1) := by decide +kernel
theorem dX3_insert_31 : decode cX3_insert 31 = .ok (.if_icmp .le 17, 3) := by decide +kernel
theorem dX3_insert_34 : decode cX3_insert 34 = .ok (.aload_n 0, 1) := by decide +kernel
theorem dX3_insert_35 : decode cX3_insert 35 = .ok (.iload_n 3, 1) := by decide +kernel
theorem dX3_insert_36 : decode cX3_insert 36 = .ok (.iconst 1, 1) := by decide +kernel
theorem dX3_insert_37 : decode cX3_insert 37 = .ok (.isub, 1) := by decide +kernel
theorem dX3_insert_38 : decode cX3_insert 38 = .ok (.iload_n 3, 1) := by decide +kernel
theorem dX3_insert_39 : decode cX3_insert 39 = .ok (.invokevirtual 142, 3) := by decide +kernel
theorem dX3_insert_42 : decode cX3_insert 42 = .ok (.iinc 3 (-1), 3) := by decide +kernel
theorem dX3_insert_45 : decode cX3_insert 45 = .ok (.goto (-16), 3) := by decide +kernel
theorem dX3_insert_48 : decode cX3_insert 48 = .ok (.aload_n 0, 1) := by decide +kernel
theorem dX3_insert_49 : decode cX3_insert 49 = .ok (.dup, 1) := by decide +kernel
theorem dX3_insert_50 : decode cX3_insert 50 = .ok (.getfield 67, 3) := by decide +kernel
theorem dX3_insert_53 : decode cX3_insert 53 = .ok (.iconst 1, 1) := by decide +kernel
theorem dX3_insert_54 : decode cX3_insert 54 = .ok (.iadd, 1) := by decide +kernel
theorem dX3_insert_55 : decode cX3_insert 55 = .ok (.putfield 67, 3) := by decide +kernel
theorem dX3_insert_58 : decode cX3_insert 58 = .ok (.aload_n 0, 1) := by decide +kernel
theorem dX3_insert_59 : decode cX3_insert 59 = .ok (.getfield 51, 3) := by decide +kernel
theorem dX3_insert_62 : decode cX3_insert 62 = .ok (.iload_n 2, 1) := by decide +kernel
theorem dX3_insert_63 : decode cX3_insert 63 = .ok (.aload_n 1, 1) := by decide +kernel
theorem dX3_insert_64 : decode cX3_insert 64 = .ok (.getfield 78, 3) := by decide +kernel
theorem dX3_insert_67 : decode cX3_insert 67 = .ok (.iastore, 1) := by decide +kernel
theorem dX3_insert_68 : decode cX3_insert 68 = .ok (.iconst 0, 1) := by decide +kernel
theorem dX3_insert_69 : decode cX3_insert 69 = .ok (.istore_n 3, 1) := by decide +kernel
theorem dX3_insert_70 : decode cX3_insert 70 = .ok (.iload_n 3, 1) := by decide +kernel
theorem dX3_insert_71 : decode cX3_insert 71 = .ok (.aload_n 0, 1) := by decide +kernel
theorem dX3_insert_72 : decode cX3_insert 72 = .ok (.getfield 67, 3) := by decide +kernel
theorem dX3_insert_75 : decode cX3_insert 75 = .ok (.if_icmp .ge 29, 3) := by decide +kernel
theorem dX3_insert_78 : decode cX3_insert 78 = .ok (.aload_n 0, 1) := by decide +kernel
theorem dX3_insert_79 : decode cX3_insert 79 = .ok (.getfield 51, 3) := by decide +kernel
theorem dX3_insert_82 : decode cX3_insert 82 = .ok (.iload_n 3, 1) := by decide +kernel
theorem dX3_insert_83 : decode cX3_insert 83 = .ok (.iaload, 1) := by decide +kernel
theorem dX3_insert_84 : decode cX3_insert 84 = .ok (.iload_n 2, 1) := by decide +kernel
theorem dX3_insert_85 : decode cX3_insert 85 = .ok (.if_icmp .lt 13, 3) := by decide +kernel
theorem dX3_insert_88 : decode cX3_insert 88 = .ok (.aload_n 0, 1) := by decide +kernel
theorem dX3_insert_89 : decode cX3_insert 89 = .ok (.getfield 51, 3) := by decide +kernel
theorem dX3_insert_92 : decode cX3_insert 92 = .ok (.iload_n 3, 1) := by decide +kernel
theorem dX3_insert_93 : decode cX3_insert 93 = .ok (.dup2, 1) := by decide +kernel
theorem dX3_insert_94 : decode cX3_insert 94 = .ok (.iaload, 1) := by decide +kernel
theorem dX3_insert_95 : decode cX3_insert 95 = .ok (.iconst 1, 1) := by decide +kernel
theorem dX3_insert_96 : decode cX3_insert 96 = .ok (.iadd, 1) := by decide +kernel
theorem dX3_insert_97 : decode cX3_insert 97 = .ok (.iastore, 1) := by decide +kernel
theorem dX3_insert_98 : decode cX3_insert 98 = .ok (.iinc 3 1, 3) := by decide +kernel
theorem dX3_insert_101 : decode cX3_insert 101 = .ok (.goto (-31), 3) := by decide +kernel
theorem dX3_insert_104 : decode cX3_insert 104 = .ok (.aload_n 0, 1) := by decide +kernel
theorem dX3_insert_105 : decode cX3_insert 105 = .ok (.getfield 30, 3) := by decide +kernel
theorem dX3_insert_108 : decode cX3_insert 108 = .ok (.iload_n 2, 1) := by decide +kernel
theorem dX3_insert_109 : decode cX3_insert 109 = .ok (.aload_n 1, 1) := by decide +kernel
theorem dX3_insert_110 : decode cX3_insert 110 = .ok (.getfield 93, 3) := by decide +kernel
theorem dX3_insert_113 : decode cX3_insert 113 = .ok (.iastore, 1) := by decide +kernel
theorem dX3_insert_114 : decode cX3_insert 114 = .ok (.aload_n 0, 1) := by decide +kernel
theorem dX3_insert_115 : decode cX3_insert 115 = .ok (.getfield 33, 3) := by decide +kernel
theorem dX3_insert_118 : decode cX3_insert 118 = .ok (.iload_n 2, 1) := by decide +kernel
theorem dX3_insert_119 : decode cX3_insert 119 = .ok (.aload_n 1, 1) := by decide +kernel
theorem dX3_insert_120 : decode cX3_insert 120 = .ok (.getfield 87, 3) := by decide +kernel
theorem dX3_insert_123 : decode cX3_insert 123 = .ok (.iastore, 1) := by decide +kernel
theorem dX3_insert_124 : decode cX3_insert 124 = .ok (.aload_n 0, 1) := by decide +kernel
theorem dX3_insert_125 : decode cX3_insert 125 = .ok (.getfield 36, 3) := by decide +kernel
theorem dX3_insert_128 : decode cX3_insert 128 = .ok (.iload_n 2, 1) := by decide +kernel
theorem dX3_insert_129 : decode cX3_insert 129 = .ok (.aload_n 1, 1) := by decide +kernel
theorem dX3_insert_130 : decode cX3_insert 130 = .ok (.getfield 99, 3) := by decide +kernel
theorem dX3_insert_133 : decode cX3_insert 133 = .ok (.iastore, 1) := by decide +kernel
theorem dX3_insert_134 : decode cX3_insert 134 = .ok (.aload_n 0, 1) := by decide +kernel
theorem dX3_insert_135 : decode cX3_insert 135 = .ok (.getfield 39, 3) := by decide +kernel
theorem dX3_insert_138 : decode cX3_insert 138 = .ok (.iload_n 2, 1) := by decide +kernel
theorem dX3_insert_139 : decode cX3_insert 139 = .ok (.aload_n 1, 1) := by decide +kernel
theorem dX3_insert_140 : decode cX3_insert 140 = .ok (.getfield 96, 3) := by decide +kernel
theorem dX3_insert_143 : decode cX3_insert 143 = .ok (.iastore, 1) := by decide +kernel
theorem dX3_insert_144 : decode cX3_insert 144 = .ok (.aload_n 0, 1) := by decide +kernel
theorem dX3_insert_145 : decode cX3_insert 145 = .ok (.getfield 42, 3) := by decide +kernel
theorem dX3_insert_148 : decode cX3_insert 148 = .ok (.iload_n 2, 1) := by decide +kernel
theorem dX3_insert_149 : decode cX3_insert 149 = .ok (.aload_n 1, 1) := by decide +kernel
theorem dX3_insert_150 : decode cX3_insert 150 = .ok (.getfield 90, 3) := by decide +kernel
theorem dX3_insert_153 : decode cX3_insert 153 = .ok (.iastore, 1) := by decide +kernel
theorem dX3_insert_154 : decode cX3_insert 154 = .ok (.aload_n 0, 1) := by decide +kernel
theorem dX3_insert_155 : decode cX3_insert 155 = .ok (.getfield 45, 3) := by decide +kernel
theorem dX3_insert_158 : decode cX3_insert 158 = .ok (.iload_n 2, 1) := by decide +kernel
theorem dX3_insert_159 : decode cX3_insert 159 = .ok (.aload_n 1, 1) := by decide +kernel
theorem dX3_insert_160 : decode cX3_insert 160 = .ok (.getfield 113, 3) := by decide +kernel
theorem dX3_insert_163 : decode cX3_insert 163 = .ok (.iastore, 1) := by decide +kernel
theorem dX3_insert_164 : decode cX3_insert 164 = .ok (.aload_n 0, 1) := by decide +kernel
theorem dX3_insert_165 : decode cX3_insert 165 = .ok (.getfield 48, 3) := by decide +kernel
theorem dX3_insert_168 : decode cX3_insert 168 = .ok (.iload_n 2, 1) := by decide +kernel
theorem dX3_insert_169 : decode cX3_insert 169 = .ok (.iconst 0, 1) := by decide +kernel
theorem dX3_insert_170 : decode cX3_insert 170 = .ok (.iastore, 1) := by decide +kernel
theorem dX3_insert_171 : decode cX3_insert 171 = .ok (.iload_n 2, 1) := by decide +kernel
theorem dX3_insert_172 : decode cX3_insert 172 = .ok (.ireturn, 1) := by decide +kernel
theorem dX3_numberFor_0 : decode cX3_numberFor 0 = .ok (.iconst 0, 1) := by decide +kernel
theorem dX3_numberFor_1 : decode cX3_numberFor 1 = .ok (.istore_n 3, 1) := by decide +kernel
theorem dX3_numberFor_2 : decode cX3_numberFor 2 = .ok (.iconst 0, 1) := by decide +kernel
theorem dX3_numberFor_3 : decode cX3_numberFor 3 = .ok (.istore 4, 2) := by decide +kernel
theorem dX3_numberFor_5 : decode cX3_numberFor 5 = .ok (.iload 4, 2) := by decide +kernel
theorem dX3_numberFor_7 : decode cX3_numberFor 7 = .ok (.aload_n 0, 1) := by decide +kernel
theorem dX3_numberFor_8 : decode cX3_numberFor 8 = .ok (.getfield 67, 3) := by decide +kernel
theorem dX3_numberFor_11 : decode cX3_numberFor 11 = .ok (.if_icmp .ge 45, 3) := by decide +kernel
theorem dX3_numberFor_14 : decode cX3_numberFor 14 = .ok (.aload_n 0, 1) := by decide +kernel
theorem dX3_numberFor_15 : decode cX3_numberFor 15 = .ok (.getfield 36, 3) := by decide +kernel
theorem dX3_numberFor_18 : decode cX3_numberFor 18 = .ok (.iload 4, 2) := by decide +kernel
theorem dX3_numberFor_20 : decode cX3_numberFor 20 = .ok (.iaload, 1) := by decide +kernel
theorem dX3_numberFor_21 : decode cX3_numberFor 21 = .ok (.iload_n 1, 1) := by decide +kernel
theorem dX3_numberFor_22 : decode cX3_numberFor 22 = .ok (.if_icmp .lt 25, 3) := by decide +kernel
theorem dX3_numberFor_25 : decode cX3_numberFor 25 = .ok (.aload_n 0, 1) := by decide +kernel
theorem dX3_numberFor_26 : decode cX3_numberFor 26 = .ok (.getfield 36, 3) := by decide +kernel
theorem dX3_numberFor_29 : decode cX3_numberFor 29 = .ok (.iload 4, 2) := by decide +kernel
theorem dX3_numberFor_31 : decode cX3_numberFor 31 = .ok (.iaload, 1) := by decide +kernel
theorem dX3_numberFor_32 : decode cX3_numberFor 32 = .ok (.iload_n 1, 1) := by decide +kernel
theorem dX3_numberFor_33 : decode cX3_numberFor 33 = .ok (.if_icmp .ne 17, 3) := by decide +kernel
theorem dX3_numberFor_36 : decode cX3_numberFor 36 = .ok (.aload_n 0, 1) := by decide +kernel
theorem dX3_numberFor_37 : decode cX3_numberFor 37 = .ok (.getfield 39, 3) := by decide +kernel
theorem dX3_numberFor_40 : decode cX3_numberFor 40 = .ok (.iload 4, 2) := by decide +kernel
theorem dX3_numberFor_42 : decode cX3_numberFor 42 = .ok (.iaload, 1) := by decide +kernel
theorem dX3_numberFor_43 : decode cX3_numberFor 43 = .ok (.iload_n 2, 1) := by decide +kernel
theorem dX3_numberFor_44 : decode cX3_numberFor 44 = .ok (.if_icmp .ge 6, 3) := by decide +kernel
theorem dX3_numberFor_47 : decode cX3_numberFor 47 = .ok (.iinc 3 1, 3) := by decide +kernel
theorem dX3_numberFor_50 : decode cX3_numberFor 50 = .ok (.iinc 4 1, 3) := by decide +kernel
theorem dX3_numberFor_53 : decode cX3_numberFor 53 = .ok (.goto (-48), 3) := by decide +kernel
theorem dX3_numberFor_56 : decode cX3_numberFor 56 = .ok (.iload_n 3, 1) := by decide +kernel
theorem dX3_numberFor_57 : decode cX3_numberFor 57 = .ok (.ireturn, 1) := by decide +kernel
theorem dX3_takeOutWithRepeats_0 : decode cX3_takeOutWithRepeats 0 = .ok (.aload_n 0, 1) := by decide +kernel
theorem dX3_takeOutWithRepeats_1 : decode cX3_takeOutWithRepeats 1 = .ok (.getfield 67, 3) := by decide +kernel
theorem dX3_takeOutWithRepeats_4 : decode cX3_takeOutWithRepeats 4 = .ok (.istore_n 2, 1) := by decide +kernel
theorem dX3_takeOutWithRepeats_5 : decode cX3_takeOutWithRepeats 5 = .ok (.aload_n 0, 1) := by decide +kernel
theorem dX3_takeOutWithRepeats_6 : decode cX3_takeOutWithRepeats 6 = .ok (.getfield 67, 3) := by decide +kernel
theorem dX3_takeOutWithRepeats_9 : decode cX3_takeOutWithRepeats 9 = .ok (.iconst 1, 1) := by decide +kernel
theorem dX3_takeOutWithRepeats_10 : decode cX3_takeOutWithRepeats 10 = .ok (.isub, 1) := by decide +kernel
theorem dX3_takeOutWithRepeats_11 : decode cX3_takeOutWithRepeats 11 = .ok (.istore_n 3, 1) := by decide +kernel
theorem dX3_takeOutWithRepeats_12 : decode cX3_takeOutWithRepeats 12 = .ok (.iload_n 3, 1) := by decide +kernel
theorem dX3_takeOutWithRepeats_13 : decode cX3_takeOutWithRepeats 13 = .ok (.iload_n 1, 1) := by decide +kernel
theorem dX3_takeOutWithRepeats_14 : decode cX3_takeOutWithRepeats 14 = .ok (.if_icmp .le 24, 3) := by decide +kernel
theorem dX3_takeOutWithRepeats_17 : decode cX3_takeOutWithRepeats 17 = .ok (.aload_n 0, 1) := by decide +kernel
theorem dX3_takeOutWithRepeats_18 : decode cX3_takeOutWithRepeats 18 = .ok (.getfield 51, 3) := by decide +kernel
theorem dX3_takeOutWithRepeats_21 : decode cX3_takeOutWithRepeats 21 = .ok (.iload_n 3, 1) := by decide +kernel
theorem dX3_takeOutWithRepeats_22 : decode cX3_takeOutWithRepeats 22 = .ok (.iaload, 1) := by decide +kernel
theorem dX3_takeOutWithRepeats_23 : decode cX3_takeOutWithRepeats 23 = .ok (.iload_n 1, 1) := by decide +kernel
theorem dX3_takeOutWithRepeats_24 : decode cX3_takeOutWithRepeats 24 = .ok (.if_icmp .ne 8, 3) := by decide +kernel
theorem dX3_takeOutWithRepeats_27 : decode cX3_takeOutWithRepeats 27 = .ok (.aload_n 0, 1) := by decide +kernel
theorem dX3_takeOutWithRepeats_28 : decode cX3_takeOutWithRepeats 28 = .ok (.iload_n 3, 1) := by decide +kernel
theorem dX3_takeOutWithRepeats_29 : decode cX3_takeOutWithRepeats 29 = .ok (.invokevirtual 146, 3) := by decide +kernel
theorem dX3_takeOutWithRepeats_32 : decode cX3_takeOutWithRepeats 32 = .ok (.iinc 3 (-1), 3) := by decide +kernel
theorem dX3_takeOutWithRepeats_35 : decode cX3_takeOutWithRepeats 35 = .ok (.goto (-23), 3) := by decide +kernel
theorem dX3_takeOutWithRepeats_38 : decode cX3_takeOutWithRepeats 38 = .ok (.aload_n 0, 1) := by decide +kernel
theorem dX3_takeOutWithRepeats_39 : decode cX3_takeOutWithRepeats 39 = .ok (.iload_n 1, 1) := by decide +kernel
theorem dX3_takeOutWithRepeats_40 : decode cX3_takeOutWithRepeats 40 = .ok (.invokevirtual 146, 3) := by decide +kernel
theorem dX3_takeOutWithRepeats_43 : decode cX3_takeOutWithRepeats 43 = .ok (.iload_n 2, 1) := by decide +kernel
theorem dX3_takeOutWithRepeats_44 : decode cX3_takeOutWithRepeats 44 = .ok (.aload_n 0, 1) := by decide +kernel
theorem dX3_takeOutWithRepeats_45 : decode cX3_takeOutWithRepeats 45 = .ok (.getfield 67, 3) := by decide +kernel
theorem dX3_takeOutWithRepeats_48 : decode cX3_takeOutWithRepeats 48 = .ok (.isub, 1) := by decide +kernel
theorem dX3_takeOutWithRepeats_49 : decode cX3_takeOutWithRepeats 49 = .ok (.ireturn, 1) := by decide +kernel
theorem dX3_takeOut_0 : decode cX3_takeOut 0 = .ok (.iload_n 1, 1) := by decide +kernel
theorem dX3_takeOut_1 : decode cX3_takeOut 1 = .ok (.istore_n 2, 1) := by decide +kernel
theorem dX3_takeOut_2 : decode cX3_takeOut 2 = .ok (.iload_n 2, 1) := by decide +kernel
theorem dX3_takeOut_3 : decode cX3_takeOut 3 = .ok (.aload_n 0, 1) := by decide +kernel
theorem dX3_takeOut_4 : decode cX3_takeOut 4 = .ok (.getfield 67, 3) := by decide +kernel
theorem dX3_takeOut_7 : decode cX3_takeOut 7 = .ok (.iconst 1, 1) := by decide +kernel
theorem dX3_takeOut_8 : decode cX3_takeOut 8 = .ok (.isub, 1) := by decide +kernel
theorem dX3_takeOut_9 : decode cX3_takeOut 9 = .ok (.if_icmp .ge 17, 3) := by decide +kernel
theorem dX3_takeOut_12 : decode cX3_takeOut 12 = .ok (.aload_n 0, 1) := by decide +kernel
theorem dX3_takeOut_13 : decode cX3_takeOut 13 = .ok (.iload_n 2, 1) := by decide +kernel
theorem dX3_takeOut_14 : decode cX3_takeOut 14 = .ok (.iconst 1, 1) := by decide +kernel
theorem dX3_takeOut_15 : decode cX3_takeOut 15 = .ok (.iadd, 1) := by decide +kernel
theorem dX3_takeOut_16 : decode cX3_takeOut 16 = .ok (.iload_n 2, 1) := by decide +kernel
theorem dX3_takeOut_17 : decode cX3_takeOut 17 = .ok (.invokevirtual 142, 3) := by decide +kernel
theorem dX3_takeOut_20 : decode cX3_takeOut 20 = .ok (.iinc 2 1, 3) := by decide +kernel
theorem dX3_takeOut_23 : decode cX3_takeOut 23 = .ok (.goto (-21), 3) := by decide +kernel
theorem dX3_takeOut_26 : decode cX3_takeOut 26 = .ok (.aload_n 0, 1) := by decide +kernel
theorem dX3_takeOut_27 : decode cX3_takeOut 27 = .ok (.dup, 1) := by decide +kernel
theorem dX3_takeOut_28 : decode cX3_takeOut 28 = .ok (.getfield 67, 3) := by decide +kernel
theorem dX3_takeOut_31 : decode cX3_takeOut 31 = .ok (.iconst 1, 1) := by decide +kernel
theorem dX3_takeOut_32 : decode cX3_takeOut 32 = .ok (.isub, 1) := by decide +kernel
theorem dX3_takeOut_33 : decode cX3_takeOut 33 = .ok (.putfield 67, 3) := by decide +kernel
theorem dX3_takeOut_36 : decode cX3_takeOut 36 = .ok (.iconst 0, 1) := by decide +kernel
theorem dX3_takeOut_37 : decode cX3_takeOut 37 = .ok (.istore_n 2, 1) := by decide +kernel
theorem dX3_takeOut_38 : decode cX3_takeOut 38 = .ok (.iload_n 2, 1) := by decide +kernel
theorem dX3_takeOut_39 : decode cX3_takeOut 39 = .ok (.aload_n 0, 1) := by decide +kernel
theorem dX3_takeOut_40 : decode cX3_takeOut 40 = .ok (.getfield 67, 3) := by decide +kernel
theorem dX3_takeOut_43 : decode cX3_takeOut 43 = .ok (.if_icmp .ge 29, 3) := by decide +kernel
theorem dX3_takeOut_46 : decode cX3_takeOut 46 = .ok (.aload_n 0, 1) := by decide +kernel
theorem dX3_takeOut_47 : decode cX3_takeOut 47 = .ok (.getfield 51, 3) := by decide +kernel
theorem dX3_takeOut_50 : decode cX3_takeOut 50 = .ok (.iload_n 2, 1) := by decide +kernel
theorem dX3_takeOut_51 : decode cX3_takeOut 51 = .ok (.iaload, 1) := by decide +kernel
theorem dX3_takeOut_52 : decode cX3_takeOut 52 = .ok (.iload_n 1, 1) := by decide +kernel
theorem dX3_takeOut_53 : decode cX3_takeOut 53 = .ok (.if_icmp .le 13, 3) := by decide +kernel
theorem dX3_takeOut_56 : decode cX3_takeOut 56 = .ok (.aload_n 0, 1) := by decide +kernel
theorem dX3_takeOut_57 : decode cX3_takeOut 57 = .ok (.getfield 51, 3) := by decide +kernel
theorem dX3_takeOut_60 : decode cX3_takeOut 60 = .ok (.iload_n 2, 1) := by decide +kernel
theorem dX3_takeOut_61 : decode cX3_takeOut 61 = .ok (.dup2, 1) := by decide +kernel
theorem dX3_takeOut_62 : decode cX3_takeOut 62 = .ok (.iaload, 1) := by decide +kernel
theorem dX3_takeOut_63 : decode cX3_takeOut 63 = .ok (.iconst 1, 1) := by decide +kernel
theorem dX3_takeOut_64 : decode cX3_takeOut 64 = .ok (.isub, 1) := by decide +kernel
theorem dX3_takeOut_65 : decode cX3_takeOut 65 = .ok (.iastore, 1) := by decide +kernel
theorem dX3_takeOut_66 : decode cX3_takeOut 66 = .ok (.iinc 2 1, 3) := by decide +kernel
theorem dX3_takeOut_69 : decode cX3_takeOut 69 = .ok (.goto (-31), 3) := by decide +kernel
theorem dX3_takeOut_72 : decode cX3_takeOut 72 = .ok (.return_, 1) := by decide +kernel
theorem dX3_moveShow_0 : decode cX3_moveShow 0 = .ok (.aload_n 0, 1) := by decide +kernel
theorem dX3_moveShow_1 : decode cX3_moveShow 1 = .ok (.getfield 30, 3) := by decide +kernel
theorem dX3_moveShow_4 : decode cX3_moveShow 4 = .ok (.iload_n 2, 1) := by decide +kernel
theorem dX3_moveShow_5 : decode cX3_moveShow 5 = .ok (.aload_n 0, 1) := by decide +kernel
theorem dX3_moveShow_6 : decode cX3_moveShow 6 = .ok (.getfield 30, 3) := by decide +kernel
theorem dX3_moveShow_9 : decode cX3_moveShow 9 = .ok (.iload_n 1, 1) := by decide +kernel
theorem dX3_moveShow_10 : decode cX3_moveShow 10 = .ok (.iaload, 1) := by decide +kernel
theorem dX3_moveShow_11 : decode cX3_moveShow 11 = .ok (.iastore, 1) := by decide +kernel
theorem dX3_moveShow_12 : decode cX3_moveShow 12 = .ok (.aload_n 0, 1) := by decide +kernel
theorem dX3_moveShow_13 : decode cX3_moveShow 13 = .ok (.getfield 33, 3) := by decide +kernel
theorem dX3_moveShow_16 : decode cX3_moveShow 16 = .ok (.iload_n 2, 1) := by decide +kernel
theorem dX3_moveShow_17 : decode cX3_moveShow 17 = .ok (.aload_n 0, 1) := by decide +kernel
theorem dX3_moveShow_18 : decode cX3_moveShow 18 = .ok (.getfield 33, 3) := by decide +kernel
theorem dX3_moveShow_21 : decode cX3_moveShow 21 = .ok (.iload_n 1, 1) := by decide +kernel
theorem dX3_moveShow_22 : decode cX3_moveShow 22 = .ok (.iaload, 1) := by decide +kernel
theorem dX3_moveShow_23 : decode cX3_moveShow 23 = .ok (.iastore, 1) := by decide +kernel
theorem dX3_moveShow_24 : decode cX3_moveShow 24 = .ok (.aload_n 0, 1) := by decide +kernel
theorem dX3_moveShow_25 : decode cX3_moveShow 25 = .ok (.getfield 36, 3) := by decide +kernel
theorem dX3_moveShow_28 : decode cX3_moveShow 28 = .ok (.iload_n 2, 1) := by decide +kernel
theorem dX3_moveShow_29 : decode cX3_moveShow 29 = .ok (.aload_n 0, 1) := by decide +kernel
theorem dX3_moveShow_30 : decode cX3_moveShow 30 = .ok (.getfield 36, 3) := by decide +kernel
theorem dX3_moveShow_33 : decode cX3_moveShow 33 = .ok (.iload_n 1, 1) := by decide +kernel
theorem dX3_moveShow_34 : decode cX3_moveShow 34 = .ok (.iaload, 1) := by decide +kernel
theorem dX3_moveShow_35 : decode cX3_moveShow 35 = .ok (.iastore, 1) := by decide +kernel
theorem dX3_moveShow_36 : decode cX3_moveShow 36 = .ok (.aload_n 0, 1) := by decide +kernel
theorem dX3_moveShow_37 : decode cX3_moveShow 37 = .ok (.getfield 39, 3) := by decide +kernel
theorem dX3_moveShow_40 : decode cX3_moveShow 40 = .ok (.iload_n 2, 1) := by decide +kernel
theorem dX3_moveShow_41 : decode cX3_moveShow 41 = .ok (.aload_n 0, 1) := by decide +kernel
theorem dX3_moveShow_42 : decode cX3_moveShow 42 = .ok (.getfield 39, 3) := by decide +kernel
theorem dX3_moveShow_45 : decode cX3_moveShow 45 = .ok (.iload_n 1, 1) := by decide +kernel
theorem dX3_moveShow_46 : decode cX3_moveShow 46 = .ok (.iaload, 1) := by decide +kernel
theorem dX3_moveShow_47 : decode cX3_moveShow 47 = .ok (.iastore, 1) := by decide +kernel
theorem dX3_moveShow_48 : decode cX3_moveShow 48 = .ok (.aload_n 0, 1) := by decide +kernel
theorem dX3_moveShow_49 : decode cX3_moveShow 49 = .ok (.getfield 42, 3) := by decide +kernel
theorem dX3_moveShow_52 : decode cX3_moveShow 52 = .ok (.iload_n 2, 1) := by decide +kernel
theorem dX3_moveShow_53 : decode cX3_moveShow 53 = .ok (.aload_n 0, 1) := by decide +kernel
theorem dX3_moveShow_54 : decode cX3_moveShow 54 = .ok (.getfield 42, 3) := by decide +kernel
theorem dX3_moveShow_57 : decode cX3_moveShow 57 = .ok (.iload_n 1, 1) := by decide +kernel
theorem dX3_moveShow_58 : decode cX3_moveShow 58 = .ok (.iaload, 1) := by decide +kernel
theorem dX3_moveShow_59 : decode cX3_moveShow 59 = .ok (.iastore, 1) := by decide +kernel
theorem dX3_moveShow_60 : decode cX3_moveShow 60 = .ok (.aload_n 0, 1) := by decide +kernel
theorem dX3_moveShow_61 : decode cX3_moveShow 61 = .ok (.getfield 45, 3) := by decide +kernel
theorem dX3_moveShow_64 : decode cX3_moveShow 64 = .ok (.iload_n 2, 1) := by decide +kernel
theorem dX3_moveShow_65 : decode cX3_moveShow 65 = .ok (.aload_n 0, 1) := by decide +kernel
theorem dX3_moveShow_66 : decode cX3_moveShow 66 = .ok (.getfield 45, 3) := by decide +kernel
theorem dX3_moveShow_69 : decode cX3_moveShow 69 = .ok (.iload_n 1, 1) := by decide +kernel
theorem dX3_moveShow_70 : decode cX3_moveShow 70 = .ok (.iaload, 1) := by decide +kernel
theorem dX3_moveShow_71 : decode cX3_moveShow 71 = .ok (.iastore, 1) := by decide +kernel
theorem dX3_moveShow_72 : decode cX3_moveShow 72 = .ok (.aload_n 0, 1) := by decide +kernel
theorem dX3_moveShow_73 : decode cX3_moveShow 73 = .ok (.getfield 48, 3) := by decide +kernel
theorem dX3_moveShow_76 : decode cX3_moveShow 76 = .ok (.iload_n 2, 1) := by decide +kernel
theorem dX3_moveShow_77 : decode cX3_moveShow 77 = .ok (.aload_n 0, 1) := by decide +kernel
theorem dX3_moveShow_78 : decode cX3_moveShow 78 = .ok (.getfield 48, 3) := by decide +kernel
theorem dX3_moveShow_81 : decode cX3_moveShow 81 = .ok (.iload_n 1, 1) := by decide +kernel
theorem dX3_moveShow_82 : decode cX3_moveShow 82 = .ok (.iaload, 1) := by decide +kernel
theorem dX3_moveShow_83 : decode cX3_moveShow 83 = .ok (.iastore, 1) := by decide +kernel
theorem dX3_moveShow_84 : decode cX3_moveShow 84 = .ok (.aload_n 0, 1) := by decide +kernel
theorem dX3_moveShow_85 : decode cX3_moveShow 85 = .ok (.getfield 51, 3) := by decide +kernel
theorem dX3_moveShow_88 : decode cX3_moveShow 88 = .ok (.iload_n 2, 1) := by decide +kernel
theorem dX3_moveShow_89 : decode cX3_moveShow 89 = .ok (.aload_n 0, 1) := by decide +kernel
theorem dX3_moveShow_90 : decode cX3_moveShow 90 = .ok (.getfield 51, 3) := by decide +kernel
theorem dX3_moveShow_93 : decode cX3_moveShow 93 = .ok (.iload_n 1, 1) := by decide +kernel
theorem dX3_moveShow_94 : decode cX3_moveShow 94 = .ok (.iaload, 1) := by decide +kernel
theorem dX3_moveShow_95 : decode cX3_moveShow 95 = .ok (.iastore, 1) := by decide +kernel
theorem dX3_moveShow_96 : decode cX3_moveShow 96 = .ok (.return_, 1) := by decide +kernel
theorem dX3_closeGroup_0 : decode cX3_closeGroup 0 = .ok (.aload_n 0, 1) := by decide +kernel
theorem dX3_closeGroup_1 : decode cX3_closeGroup 1 = .ok (.iload_n 1, 1) := by decide +kernel
theorem dX3_closeGroup_2 : decode cX3_closeGroup 2 = .ok (.invokevirtual 122, 3) := by decide +kernel
theorem dX3_closeGroup_5 : decode cX3_closeGroup 5 = .ok (.iload_n 2, 1) := by decide +kernel
theorem dX3_closeGroup_6 : decode cX3_closeGroup 6 = .ok (.isub, 1) := by decide +kernel
theorem dX3_closeGroup_7 : decode cX3_closeGroup 7 = .ok (.istore_n 3, 1) := by decide +kernel
theorem dX3_closeGroup_8 : decode cX3_closeGroup 8 = .ok (.aload_n 0, 1) := by decide +kernel
theorem dX3_closeGroup_9 : decode cX3_closeGroup 9 = .ok (.getfield 9, 3) := by decide +kernel
theorem dX3_closeGroup_12 : decode cX3_closeGroup 12 = .ok (.bipush 7, 2) := by decide +kernel
theorem dX3_closeGroup_14 : decode cX3_closeGroup 14 = .ok (.iaload, 1) := by decide +kernel
theorem dX3_closeGroup_15 : decode cX3_closeGroup 15 = .ok (.istore 4, 2) := by decide +kernel
theorem dX3_closeGroup_17 : decode cX3_closeGroup 17 = .ok (.aload_n 0, 1) := by decide +kernel
theorem dX3_closeGroup_18 : decode cX3_closeGroup 18 = .ok (.getfield 18, 3) := by decide +kernel
theorem dX3_closeGroup_21 : decode cX3_closeGroup 21 = .ok (.iload_n 1, 1) := by decide +kernel
theorem dX3_closeGroup_22 : decode cX3_closeGroup 22 = .ok (.iload 4, 2) := by decide +kernel
theorem dX3_closeGroup_24 : decode cX3_closeGroup 24 = .ok (.ineg, 1) := by decide +kernel
theorem dX3_closeGroup_25 : decode cX3_closeGroup 25 = .ok (.iload 4, 2) := by decide +kernel
theorem dX3_closeGroup_27 : decode cX3_closeGroup 27 = .ok (.iload_n 3, 1) := by decide +kernel
theorem dX3_closeGroup_28 : decode cX3_closeGroup 28 = .ok (.invokestatic 150, 3) := by decide +kernel
theorem dX3_closeGroup_31 : decode cX3_closeGroup 31 = .ok (.invokestatic 131, 3) := by decide +kernel
theorem dX3_closeGroup_34 : decode cX3_closeGroup 34 = .ok (.iastore, 1) := by decide +kernel
theorem dX3_closeGroup_35 : decode cX3_closeGroup 35 = .ok (.aload_n 0, 1) := by decide +kernel
theorem dX3_closeGroup_36 : decode cX3_closeGroup 36 = .ok (.getfield 27, 3) := by decide +kernel
theorem dX3_closeGroup_39 : decode cX3_closeGroup 39 = .ok (.iload_n 1, 1) := by decide +kernel
theorem dX3_closeGroup_40 : decode cX3_closeGroup 40 = .ok (.dup2, 1) := by decide +kernel
theorem dX3_closeGroup_41 : decode cX3_closeGroup 41 = .ok (.iaload, 1) := by decide +kernel
theorem dX3_closeGroup_42 : decode cX3_closeGroup 42 = .ok (.iload_n 3, 1) := by decide +kernel
theorem dX3_closeGroup_43 : decode cX3_closeGroup 43 = .ok (.aload_n 0, 1) := by decide +kernel
theorem dX3_closeGroup_44 : decode cX3_closeGroup 44 = .ok (.getfield 18, 3) := by decide +kernel
theorem dX3_closeGroup_47 : decode cX3_closeGroup 47 = .ok (.iload_n 1, 1) := by decide +kernel
theorem dX3_closeGroup_48 : decode cX3_closeGroup 48 = .ok (.iaload, 1) := by decide +kernel
theorem dX3_closeGroup_49 : decode cX3_closeGroup 49 = .ok (.isub, 1) := by decide +kernel
theorem dX3_closeGroup_50 : decode cX3_closeGroup 50 = .ok (.iadd, 1) := by decide +kernel
theorem dX3_closeGroup_51 : decode cX3_closeGroup 51 = .ok (.iastore, 1) := by decide +kernel
theorem dX3_closeGroup_52 : decode cX3_closeGroup 52 = .ok (.aload_n 0, 1) := by decide +kernel
theorem dX3_closeGroup_53 : decode cX3_closeGroup 53 = .ok (.getfield 24, 3) := by decide +kernel
theorem dX3_closeGroup_56 : decode cX3_closeGroup 56 = .ok (.iload_n 1, 1) := by decide +kernel
theorem dX3_closeGroup_57 : decode cX3_closeGroup 57 = .ok (.dup2, 1) := by decide +kernel
theorem dX3_closeGroup_58 : decode cX3_closeGroup 58 = .ok (.iaload, 1) := by decide +kernel
theorem dX3_closeGroup_59 : decode cX3_closeGroup 59 = .ok (.iload_n 2, 1) := by decide +kernel
theorem dX3_closeGroup_60 : decode cX3_closeGroup 60 = .ok (.iadd, 1) := by decide +kernel
theorem dX3_closeGroup_61 : decode cX3_closeGroup 61 = .ok (.iastore, 1) := by decide +kernel
theorem dX3_closeGroup_62 : decode cX3_closeGroup 62 = .ok (.aload_n 0, 1) := by decide +kernel
theorem dX3_closeGroup_63 : decode cX3_closeGroup 63 = .ok (.getfield 21, 3) := by decide +kernel
theorem dX3_closeGroup_66 : decode cX3_closeGroup 66 = .ok (.iload_n 1, 1) := by decide +kernel
theorem dX3_closeGroup_67 : decode cX3_closeGroup 67 = .ok (.dup2, 1) := by decide +kernel
theorem dX3_closeGroup_68 : decode cX3_closeGroup 68 = .ok (.iaload, 1) := by decide +kernel
theorem dX3_closeGroup_69 : decode cX3_closeGroup 69 = .ok (.aload_n 0, 1) := by decide +kernel
theorem dX3_closeGroup_70 : decode cX3_closeGroup 70 = .ok (.getfield 15, 3) := by decide +kernel
theorem dX3_closeGroup_73 : decode cX3_closeGroup 73 = .ok (.iload_n 1, 1) := by decide +kernel
theorem dX3_closeGroup_74 : decode cX3_closeGroup 74 = .ok (.iaload, 1) := by decide +kernel
theorem dX3_closeGroup_75 : decode cX3_closeGroup 75 = .ok (.iadd, 1) := by decide +kernel
theorem dX3_closeGroup_76 : decode cX3_closeGroup 76 = .ok (.iastore, 1) := by decide +kernel
theorem dX3_closeGroup_77 : decode cX3_closeGroup 77 = .ok (.return_, 1) := by decide +kernel
theorem dX3_beginNextWeek_0 : decode cX3_beginNextWeek 0 = .ok (.iconst 0, 1) := by decide +kernel
theorem dX3_beginNextWeek_1 : decode cX3_beginNextWeek 1 = .ok (.istore_n 1, 1) := by decide +kernel
theorem dX3_beginNextWeek_2 : decode cX3_beginNextWeek 2 = .ok (.iload_n 1, 1) := by decide +kernel
theorem dX3_beginNextWeek_3 : decode cX3_beginNextWeek 3 = .ok (.aload_n 0, 1) := by decide +kernel
theorem dX3_beginNextWeek_4 : decode cX3_beginNextWeek 4 = .ok (.getfield 67, 3) := by decide +kernel
theorem dX3_beginNextWeek_7 : decode cX3_beginNextWeek 7 = .ok (.if_icmp .ge 16, 3) := by decide +kernel
theorem dX3_beginNextWeek_10 : decode cX3_beginNextWeek 10 = .ok (.aload_n 0, 1) := by decide +kernel
theorem dX3_beginNextWeek_11 : decode cX3_beginNextWeek 11 = .ok (.getfield 48, 3) := by decide +kernel
theorem dX3_beginNextWeek_14 : decode cX3_beginNextWeek 14 = .ok (.iload_n 1, 1) := by decide +kernel
theorem dX3_beginNextWeek_15 : decode cX3_beginNextWeek 15 = .ok (.iconst 0, 1) := by decide +kernel
theorem dX3_beginNextWeek_16 : decode cX3_beginNextWeek 16 = .ok (.iastore, 1) := by decide +kernel
theorem dX3_beginNextWeek_17 : decode cX3_beginNextWeek 17 = .ok (.iinc 1 1, 3) := by decide +kernel
theorem dX3_beginNextWeek_20 : decode cX3_beginNextWeek 20 = .ok (.goto (-18), 3) := by decide +kernel
theorem dX3_beginNextWeek_23 : decode cX3_beginNextWeek 23 = .ok (.aload_n 0, 1) := by decide +kernel
theorem dX3_beginNextWeek_24 : decode cX3_beginNextWeek 24 = .ok (.dup, 1) := by decide +kernel
theorem dX3_beginNextWeek_25 : decode cX3_beginNextWeek 25 = .ok (.getfield 63, 3) := by decide +kernel
theorem dX3_beginNextWeek_28 : decode cX3_beginNextWeek 28 = .ok (.iconst 1, 1) := by decide +kernel
theorem dX3_beginNextWeek_29 : decode cX3_beginNextWeek 29 = .ok (.iadd, 1) := by decide +kernel
theorem dX3_beginNextWeek_30 : decode cX3_beginNextWeek 30 = .ok (.putfield 63, 3) := by decide +kernel
theorem dX3_beginNextWeek_33 : decode cX3_beginNextWeek 33 = .ok (.return_, 1) := by decide +kernel
theorem dX4_init_0 : decode cX4_init 0 = .ok (.aload_n 0, 1) := by decide +kernel
theorem dX4_init_1 : decode cX4_init 1 = .ok (.invokespecial 3, 3) := by decide +kernel
theorem dX4_init_4 : decode cX4_init 4 = .ok (.return_, 1) := by decide +kernel
theorem dX4_become_0 : decode cX4_become 0 = .ok (.aload_n 0, 1) := by decide +kernel
theorem dX4_become_1 : decode cX4_become 1 = .ok (.iload_n 1, 1) := by decide +kernel
theorem dX4_become_2 : decode cX4_become 2 = .ok (.putfield 9, 3) := by decide +kernel
theorem dX4_become_5 : decode cX4_become 5 = .ok (.aload_n 0, 1) := by decide +kernel
theorem dX4_become_6 : decode cX4_become 6 = .ok (.iload_n 2, 1) := by decide +kernel
theorem dX4_become_7 : decode cX4_become 7 = .ok (.putfield 15, 3) := by decide +kernel
theorem dX4_become_10 : decode cX4_become 10 = .ok (.aload_n 0, 1) := by decide +kernel
theorem dX4_become_11 : decode cX4_become 11 = .ok (.iload_n 3, 1) := by decide +kernel
theorem dX4_become_12 : decode cX4_become 12 = .ok (.putfield 18, 3) := by decide +kernel
theorem dX4_become_15 : decode cX4_become 15 = .ok (.aload_n 0, 1) := by decide +kernel
theorem dX4_become_16 : decode cX4_become 16 = .ok (.iload 4, 2) := by decide +kernel
theorem dX4_become_18 : decode cX4_become 18 = .ok (.putfield 21, 3) := by decide +kernel
theorem dX4_become_21 : decode cX4_become 21 = .ok (.aload_n 0, 1) := by decide +kernel
theorem dX4_become_22 : decode cX4_become 22 = .ok (.iload 5, 2) := by decide +kernel
theorem dX4_become_24 : decode cX4_become 24 = .ok (.putfield 24, 3) := by decide +kernel
theorem dX4_become_27 : decode cX4_become 27 = .ok (.aload_n 0, 1) := by decide +kernel
theorem dX4_become_28 : decode cX4_become 28 = .ok (.iload 6, 2) := by decide +kernel
theorem dX4_become_30 : decode cX4_become 30 = .ok (.putfield 27, 3) := by decide +kernel
theorem dX4_become_33 : decode cX4_become 33 = .ok (.aload_n 0, 1) := by decide +kernel
theorem dX4_become_34 : decode cX4_become 34 = .ok (.iconst (-1), 1) := by decide +kernel
theorem dX4_become_35 : decode cX4_become 35 = .ok (.putfield 30, 3) := by decide +kernel
theorem dX4_become_38 : decode cX4_become 38 = .ok (.return_, 1) := by decide +kernel
theorem dX4_becomeRepeat_0 : decode cX4_becomeRepeat 0 = .ok (.aload_n 0, 1) := by decide +kernel
theorem dX4_becomeRepeat_1 : decode cX4_becomeRepeat 1 = .ok (.iconst 2, 1) := by decide +kernel
theorem dX4_becomeRepeat_2 : decode cX4_becomeRepeat 2 = .ok (.iconst 0, 1) := by decide +kernel
theorem dX4_becomeRepeat_3 : decode cX4_becomeRepeat 3 = .ok (.iload_n 2, 1) := by decide +kernel
theorem dX4_becomeRepeat_4 : decode cX4_becomeRepeat 4 = .ok (.iload_n 3, 1) := by decide +kernel
theorem dX4_becomeRepeat_5 : decode cX4_becomeRepeat 5 = .ok (.iconst 0, 1) := by decide +kernel
theorem dX4_becomeRepeat_6 : decode cX4_becomeRepeat 6 = .ok (.iconst 0, 1) := by decide +kernel
theorem dX4_becomeRepeat_7 : decode cX4_becomeRepeat 7 = .ok (.invokevirtual 33, 3) := by decide +kernel
theorem dX4_becomeRepeat_10 : decode cX4_becomeRepeat 10 = .ok (.aload_n 0, 1) := by decide +kernel
theorem dX4_becomeRepeat_11 : decode cX4_becomeRepeat 11 = .ok (.iload_n 1, 1) := by decide +kernel
theorem dX4_becomeRepeat_12 : decode cX4_becomeRepeat 12 = .ok (.putfield 30, 3) := by decide +kernel
theorem dX4_becomeRepeat_15 : decode cX4_becomeRepeat 15 = .ok (.return_, 1) := by decide +kernel
theorem dX4_isInRange_0 : decode cX4_isInRange 0 = .ok (.aload_n 0, 1) := by decide +kernel
theorem dX4_isInRange_1 : decode cX4_isInRange 1 = .ok (.getfield 15, 3) := by decide +kernel
theorem dX4_isInRange_4 : decode cX4_isInRange 4 = .ok (.iconst 0, 1) := by decide +kernel
theorem dX4_isInRange_5 : decode cX4_isInRange 5 = .ok (.iconst 5, 1) := by decide +kernel
theorem dX4_isInRange_6 : decode cX4_isInRange 6 = .ok (.invokestatic 37, 3) := by decide +kernel
theorem dX4_isInRange_9 : decode cX4_isInRange 9 = .ok (.ifCond .eq 68, 3) := by decide +kernel
theorem dX4_isInRange_12 : decode cX4_isInRange 12 = .ok (.aload_n 0, 1) := by decide +kernel
theorem dX4_isInRange_13 : decode cX4_isInRange 13 = .ok (.getfield 18, 3) := by decide +kernel
theorem dX4_isInRange_16 : decode cX4_isInRange 16 = .ok (.iconst 0, 1) := by decide +kernel
theorem dX4_isInRange_17 : decode cX4_isInRange 17 = .ok (.bipush 6, 2) := by decide +kernel
theorem dX4_isInRange_19 : decode cX4_isInRange 19 = .ok (.invokestatic 37, 3) := by decide +kernel
theorem dX4_isInRange_22 : decode cX4_isInRange 22 = .ok (.ifCond .eq 55, 3) := by decide +kernel
theorem dX4_isInRange_25 : decode cX4_isInRange 25 = .ok (.aload_n 0, 1) := by decide +kernel
theorem dX4_isInRange_26 : decode cX4_isInRange 26 = .ok (.getfield 21, 3) := by decide +kernel
theorem dX4_isInRange_29 : decode cX4_isInRange 29 = .ok (.iconst 0, 1) := by decide +kernel
theorem dX4_isInRange_30 : decode cX4_isInRange 30 = .ok (.sipush 1439, 3) := by decide +kernel
theorem dX4_isInRange_33 : decode cX4_isInRange 33 = .ok (.invokestatic 37, 3) := by decide +kernel
theorem dX4_isInRange_36 : decode cX4_isInRange 36 = .ok (.ifCond .eq 41, 3) := by decide +kernel
theorem dX4_isInRange_39 : decode cX4_isInRange 39 = .ok (.aload_n 0, 1) := by decide +kernel
theorem dX4_isInRange_40 : decode cX4_isInRange 40 = .ok (.getfield 24, 3) := by decide +kernel
theorem dX4_isInRange_43 : decode cX4_isInRange 43 = .ok (.iconst 5, 1) := by decide +kernel
theorem dX4_isInRange_44 : decode cX4_isInRange 44 = .ok (.sipush 240, 3) := by decide +kernel
theorem dX4_isInRange_47 : decode cX4_isInRange 47 = .ok (.invokestatic 37, 3) := by decide +kernel
theorem dX4_isInRange_50 : decode cX4_isInRange 50 = .ok (.ifCond .eq 27, 3) := by decide +kernel
theorem dX4_isInRange_53 : decode cX4_isInRange 53 = .ok (.aload_n 0, 1) := by decide +kernel
theorem dX4_isInRange_54 : decode cX4_isInRange 54 = .ok (.getfield 27, 3) := by decide +kernel
theorem dX4_isInRange_57 : decode cX4_isInRange 57 = .ok (.iconst 0, 1) := by decide +kernel
theorem dX4_isInRange_58 : decode cX4_isInRange 58 = .ok (.bipush 30, 2) := by decide +kernel
theorem dX4_isInRange_60 : decode cX4_isInRange 60 = .ok (.aload_n 0, 1) := by decide +kernel
theorem dX4_isInRange_61 : decode cX4_isInRange 61 = .ok (.getfield 24, 3) := by decide +kernel
theorem dX4_isInRange_64 : decode cX4_isInRange 64 = .ok (.invokestatic 41, 3) := by decide +kernel
theorem dX4_isInRange_67 : decode cX4_isInRange 67 = .ok (.invokestatic 37, 3) := by decide +kernel
theorem dX4_isInRange_70 : decode cX4_isInRange 70 = .ok (.ifCond .eq 7, 3) := by decide +kernel
theorem dX4_isInRange_73 : decode cX4_isInRange 73 = .ok (.iconst 1, 1) := by decide +kernel
theorem dX4_isInRange_74 : decode cX4_isInRange 74 = .ok (.goto 4, 3) := by decide +kernel
theorem dX4_isInRange_77 : decode cX4_isInRange 77 = .ok (.iconst 0, 1) := by decide +kernel
theorem dX4_isInRange_78 : decode cX4_isInRange 78 = .ok (.ireturn, 1) := by decide +kernel
theorem dX5_init_0 : decode cX5_init 0 = .ok (.aload_n 0, 1) := by decide +kernel
theorem dX5_init_1 : decode cX5_init 1 = .ok (.invokespecial 3, 3) := by decide +kernel
theorem dX5_init_4 : decode cX5_init 4 = .ok (.aload_n 0, 1) := by decide +kernel
theorem dX5_init_5 : decode cX5_init 5 = .ok (.bipush 60, 2) := by decide +kernel
theorem dX5_init_7 : decode cX5_init 7 = .ok (.newarray .int, 2) := by decide +kernel
theorem dX5_init_9 : decode cX5_init 9 = .ok (.putfield 9, 3) := by decide +kernel
theorem dX5_init_12 : decode cX5_init 12 = .ok (.return_, 1) := by decide +kernel
theorem dX6_init_0 : decode cX6_init 0 = .ok (.aload_n 0, 1) := by decide +kernel
theorem dX6_init_1 : decode cX6_init 1 = .ok (.invokespecial 1, 3) := by decide +kernel
theorem dX6_init_4 : decode cX6_init 4 = .ok (.aload_n 0, 1) := by decide +kernel
theorem dX6_init_5 : decode cX6_init 5 = .ok (.new 7, 3) := by decide +kernel
theorem dX6_init_8 : decode cX6_init 8 = .ok (.dup, 1) := by decide +kernel
theorem dX6_init_9 : decode cX6_init 9 = .ok (.invokespecial 9, 3) := by decide +kernel
theorem dX6_init_12 : decode cX6_init 12 = .ok (.putfield 10, 3) := by decide +kernel
theorem dX6_init_15 : decode cX6_init 15 = .ok (.aload_n 0, 1) := by decide +kernel
theorem dX6_init_16 : decode cX6_init 16 = .ok (.new 16, 3) := by decide +kernel
theorem dX6_init_19 : decode cX6_init 19 = .ok (.dup, 1) := by decide +kernel
theorem dX6_init_20 : decode cX6_init 20 = .ok (.invokespecial 18, 3) := by decide +kernel
theorem dX6_init_23 : decode cX6_init 23 = .ok (.putfield 19, 3) := by decide +kernel
theorem dX6_init_26 : decode cX6_init 26 = .ok (.aload_n 0, 1) := by decide +kernel
theorem dX6_init_27 : decode cX6_init 27 = .ok (.new 23, 3) := by decide +kernel
theorem dX6_init_30 : decode cX6_init 30 = .ok (.dup, 1) := by decide +kernel
theorem dX6_init_31 : decode cX6_init 31 = .ok (.invokespecial 25, 3) := by decide +kernel
theorem dX6_init_34 : decode cX6_init 34 = .ok (.putfield 26, 3) := by decide +kernel
theorem dX6_init_37 : decode cX6_init 37 = .ok (.aload_n 0, 1) := by decide +kernel
theorem dX6_init_38 : decode cX6_init 38 = .ok (.new 30, 3) := by decide +kernel
theorem dX6_init_41 : decode cX6_init 41 = .ok (.dup, 1) := by decide +kernel
theorem dX6_init_42 : decode cX6_init 42 = .ok (.invokespecial 32, 3) := by decide +kernel
theorem dX6_init_45 : decode cX6_init 45 = .ok (.putfield 33, 3) := by decide +kernel
theorem dX6_init_48 : decode cX6_init 48 = .ok (.aload_n 0, 1) := by decide +kernel
theorem dX6_init_49 : decode cX6_init 49 = .ok (.new 37, 3) := by decide +kernel
theorem dX6_init_52 : decode cX6_init 52 = .ok (.dup, 1) := by decide +kernel
theorem dX6_init_53 : decode cX6_init 53 = .ok (.invokespecial 39, 3) := by decide +kernel
theorem dX6_init_56 : decode cX6_init 56 = .ok (.putfield 40, 3) := by decide +kernel
theorem dX6_init_59 : decode cX6_init 59 = .ok (.aload_n 0, 1) := by decide +kernel
theorem dX6_init_60 : decode cX6_init 60 = .ok (.new 37, 3) := by decide +kernel
theorem dX6_init_63 : decode cX6_init 63 = .ok (.dup, 1) := by decide +kernel
theorem dX6_init_64 : decode cX6_init 64 = .ok (.invokespecial 39, 3) := by decide +kernel
theorem dX6_init_67 : decode cX6_init 67 = .ok (.putfield 44, 3) := by decide +kernel
theorem dX6_init_70 : decode cX6_init 70 = .ok (.aload_n 0, 1) := by decide +kernel
theorem dX6_init_71 : decode cX6_init 71 = .ok (.iconst 0, 1) := by decide +kernel
theorem dX6_init_72 : decode cX6_init 72 = .ok (.putfield 47, 3) := by decide +kernel
theorem dX6_init_75 : decode cX6_init 75 = .ok (.return_, 1) := by decide +kernel
theorem dX6_set_0 : decode cX6_set 0 = .ok (.iload_n 1, 1) := by decide +kernel
theorem dX6_set_1 : decode cX6_set 1 = .ok (.iconst 0, 1) := by decide +kernel
theorem dX6_set_2 : decode cX6_set 2 = .ok (.bipush 7, 2) := by decide +kernel
theorem dX6_set_4 : decode cX6_set 4 = .ok (.invokestatic 51, 3) := by decide +kernel
theorem dX6_set_7 : decode cX6_set 7 = .ok (.ifCond .ne 13, 3) := by decide +kernel
theorem dX6_set_10 : decode cX6_set 10 = .ok (.new 55, 3) := by decide +kernel
theorem dX6_set_13 : decode cX6_set 13 = .ok (.dup, 1) := by decide +kernel
theorem dX6_set_14 : decode cX6_set 14 = .ok (.ldc 57, 2) := by decide +kernel
theorem dX6_set_16 : decode cX6_set 16 = .ok (.invokespecial 59, 3) := by decide +kernel
theorem dX6_set_19 : decode cX6_set 19 = .ok (.athrow, 1) := by decide +kernel
theorem dX6_set_20 : decode cX6_set 20 = .ok (.iload_n 2, 1) := by decide +kernel
theorem dX6_set_21 : decode cX6_set 21 = .ok (.getstatic 62, 3) := by decide +kernel
theorem dX6_set_24 : decode cX6_set 24 = .ok (.iload_n 1, 1) := by decide +kernel
theorem dX6_set_25 : decode cX6_set 25 = .ok (.iaload, 1) := by decide +kernel
theorem dX6_set_26 : decode cX6_set 26 = .ok (.getstatic 66, 3) := by decide +kernel
theorem dX6_set_29 : decode cX6_set 29 = .ok (.iload_n 1, 1) := by decide +kernel
theorem dX6_set_30 : decode cX6_set 30 = .ok (.iaload, 1) := by decide +kernel
theorem dX6_set_31 : decode cX6_set 31 = .ok (.invokestatic 51, 3) := by decide +kernel
theorem dX6_set_34 : decode cX6_set 34 = .ok (.ifCond .ne 13, 3) := by decide +kernel
theorem dX6_set_37 : decode cX6_set 37 = .ok (.new 69, 3) := by decide +kernel
theorem dX6_set_40 : decode cX6_set 40 = .ok (.dup, 1) := by decide +kernel
theorem dX6_set_41 : decode cX6_set 41 = .ok (.ldc 71, 2) := by decide +kernel
theorem dX6_set_43 : decode cX6_set 43 = .ok (.invokespecial 73, 3) := by decide +kernel
theorem dX6_set_46 : decode cX6_set 46 = .ok (.athrow, 1) := by decide +kernel
theorem dX6_set_47 : decode cX6_set 47 = .ok (.aload_n 0, 1) := by decide +kernel
theorem dX6_set_48 : decode cX6_set 48 = .ok (.getfield 19, 3) := by decide +kernel
theorem dX6_set_51 : decode cX6_set 51 = .ok (.aload_n 0, 1) := by decide +kernel
theorem dX6_set_52 : decode cX6_set 52 = .ok (.getfield 10, 3) := by decide +kernel
theorem dX6_set_55 : decode cX6_set 55 = .ok (.invokevirtual 74, 3) := by decide +kernel
theorem dX6_set_58 : decode cX6_set 58 = .ok (.aload_n 0, 1) := by decide +kernel
theorem dX6_set_59 : decode cX6_set 59 = .ok (.getfield 10, 3) := by decide +kernel
theorem dX6_set_62 : decode cX6_set 62 = .ok (.getfield 78, 3) := by decide +kernel
theorem dX6_set_65 : decode cX6_set 65 = .ok (.iload_n 1, 1) := by decide +kernel
theorem dX6_set_66 : decode cX6_set 66 = .ok (.iaload, 1) := by decide +kernel
theorem dX6_set_67 : decode cX6_set 67 = .ok (.istore_n 3, 1) := by decide +kernel
theorem dX6_set_68 : decode cX6_set 68 = .ok (.aload_n 0, 1) := by decide +kernel
theorem dX6_set_69 : decode cX6_set 69 = .ok (.getfield 10, 3) := by decide +kernel
theorem dX6_set_72 : decode cX6_set 72 = .ok (.getfield 78, 3) := by decide +kernel
theorem dX6_set_75 : decode cX6_set 75 = .ok (.iload_n 1, 1) := by decide +kernel
theorem dX6_set_76 : decode cX6_set 76 = .ok (.iload_n 2, 1) := by decide +kernel
theorem dX6_set_77 : decode cX6_set 77 = .ok (.iastore, 1) := by decide +kernel
theorem dX6_set_78 : decode cX6_set 78 = .ok (.iload_n 3, 1) := by decide +kernel
theorem dX6_set_79 : decode cX6_set 79 = .ok (.ireturn, 1) := by decide +kernel
theorem dX6_setQuota_0 : decode cX6_setQuota 0 = .ok (.iload_n 1, 1) := by decide +kernel
theorem dX6_setQuota_1 : decode cX6_setQuota 1 = .ok (.iconst 0, 1) := by decide +kernel
theorem dX6_setQuota_2 : decode cX6_setQuota 2 = .ok (.iconst 5, 1) := by decide +kernel
theorem dX6_setQuota_3 : decode cX6_setQuota 3 = .ok (.invokestatic 51, 3) := by decide +kernel
theorem dX6_setQuota_6 : decode cX6_setQuota 6 = .ok (.ifCond .ne 13, 3) := by decide +kernel
theorem dX6_setQuota_9 : decode cX6_setQuota 9 = .ok (.new 55, 3) := by decide +kernel
theorem dX6_setQuota_12 : decode cX6_setQuota 12 = .ok (.dup, 1) := by decide +kernel
theorem dX6_setQuota_13 : decode cX6_setQuota 13 = .ok (.ldc 81, 2) := by decide +kernel
theorem dX6_setQuota_15 : decode cX6_setQuota 15 = .ok (.invokespecial 59, 3) := by decide +kernel
theorem dX6_setQuota_18 : decode cX6_setQuota 18 = .ok (.athrow, 1) := by decide +kernel
theorem dX6_setQuota_19 : decode cX6_setQuota 19 = .ok (.iload_n 2, 1) := by decide +kernel
theorem dX6_setQuota_20 : decode cX6_setQuota 20 = .ok (.iconst 0, 1) := by decide +kernel
theorem dX6_setQuota_21 : decode cX6_setQuota 21 = .ok (.sipush 2000, 3) := by decide +kernel
theorem dX6_setQuota_24 : decode cX6_setQuota 24 = .ok (.invokestatic 51, 3) := by decide +kernel
theorem dX6_setQuota_27 : decode cX6_setQuota 27 = .ok (.ifCond .ne 13, 3) := by decide +kernel
theorem dX6_setQuota_30 : decode cX6_setQuota 30 = .ok (.new 69, 3) := by decide +kernel
theorem dX6_setQuota_33 : decode cX6_setQuota 33 = .ok (.dup, 1) := by decide +kernel
theorem dX6_setQuota_34 : decode cX6_setQuota 34 = .ok (.ldc 83, 2) := by decide +kernel
theorem dX6_setQuota_36 : decode cX6_setQuota 36 = .ok (.invokespecial 73, 3) := by decide +kernel
theorem dX6_setQuota_39 : decode cX6_setQuota 39 = .ok (.athrow, 1) := by decide +kernel
theorem dX6_setQuota_40 : decode cX6_setQuota 40 = .ok (.aload_n 0, 1) := by decide +kernel
theorem dX6_setQuota_41 : decode cX6_setQuota 41 = .ok (.getfield 19, 3) := by decide +kernel
theorem dX6_setQuota_44 : decode cX6_setQuota 44 = .ok (.aload_n 0, 1) := by decide +kernel
theorem dX6_setQuota_45 : decode cX6_setQuota 45 = .ok (.getfield 10, 3) := by decide +kernel
theorem dX6_setQuota_48 : decode cX6_setQuota 48 = .ok (.invokevirtual 74, 3) := by decide +kernel
theorem dX6_setQuota_51 : decode cX6_setQuota 51 = .ok (.aload_n 0, 1) := by decide +kernel
theorem dX6_setQuota_52 : decode cX6_setQuota 52 = .ok (.getfield 10, 3) := by decide +kernel
theorem dX6_setQuota_55 : decode cX6_setQuota 55 = .ok (.getfield 85, 3) := by decide +kernel
theorem dX6_setQuota_58 : decode cX6_setQuota 58 = .ok (.iload_n 1, 1) := by decide +kernel
theorem dX6_setQuota_59 : decode cX6_setQuota 59 = .ok (.iaload, 1) := by decide +kernel
theorem dX6_setQuota_60 : decode cX6_setQuota 60 = .ok (.istore_n 3, 1) := by decide +kernel
theorem dX6_setQuota_61 : decode cX6_setQuota 61 = .ok (.aload_n 0, 1) := by decide +kernel
theorem dX6_setQuota_62 : decode cX6_setQuota 62 = .ok (.getfield 10, 3) := by decide +kernel
theorem dX6_setQuota_65 : decode cX6_setQuota 65 = .ok (.getfield 85, 3) := by decide +kernel
theorem dX6_setQuota_68 : decode cX6_setQuota 68 = .ok (.iload_n 1, 1) := by decide +kernel
theorem dX6_setQuota_69 : decode cX6_setQuota 69 = .ok (.iload_n 2, 1) := by decide +kernel
theorem dX6_setQuota_70 : decode cX6_setQuota 70 = .ok (.iastore, 1) := by decide +kernel
theorem dX6_setQuota_71 : decode cX6_setQuota 71 = .ok (.iload_n 3, 1) := by decide +kernel
theorem dX6_setQuota_72 : decode cX6_setQuota 72 = .ok (.ireturn, 1) := by decide +kernel
theorem dX6_add_0 : decode cX6_add 0 = .ok (.aload_n 0, 1) := by decide +kernel
theorem dX6_add_1 : decode cX6_add 1 = .ok (.getfield 33, 3) := by decide +kernel
theorem dX6_add_4 : decode cX6_add 4 = .ok (.iload_n 1, 1) := by decide +kernel
theorem dX6_add_5 : decode cX6_add 5 = .ok (.ifCond .eq 7, 3) := by decide +kernel
theorem dX6_add_8 : decode cX6_add 8 = .ok (.iconst 0, 1) := by decide +kernel
theorem dX6_add_9 : decode cX6_add 9 = .ok (.goto 4, 3) := by decide +kernel
theorem dX6_add_12 : decode cX6_add 12 = .ok (.iconst 1, 1) := by decide +kernel
theorem dX6_add_13 : decode cX6_add 13 = .ok (.iload_n 2, 1) := by decide +kernel
theorem dX6_add_14 : decode cX6_add 14 = .ok (.iload_n 3, 1) := by decide +kernel
theorem dX6_add_15 : decode cX6_add 15 = .ok (.iload 4, 2) := by decide +kernel
theorem dX6_add_17 : decode cX6_add 17 = .ok (.iload 5, 2) := by decide +kernel
theorem dX6_add_19 : decode cX6_add 19 = .ok (.iload 6, 2) := by decide +kernel
theorem dX6_add_21 : decode cX6_add 21 = .ok (.invokevirtual 88, 3) := by decide +kernel
theorem dX6_add_24 : decode cX6_add 24 = .ok (.aload_n 0, 1) := by decide +kernel
theorem dX6_add_25 : decode cX6_add 25 = .ok (.getfield 33, 3) := by decide +kernel
theorem dX6_add_28 : decode cX6_add 28 = .ok (.invokevirtual 92, 3) := by decide +kernel
theorem dX6_add_31 : decode cX6_add 31 = .ok (.ifCond .ne 13, 3) := by decide +kernel
theorem dX6_add_34 : decode cX6_add 34 = .ok (.new 69, 3) := by decide +kernel
theorem dX6_add_37 : decode cX6_add 37 = .ok (.dup, 1) := by decide +kernel
theorem dX6_add_38 : decode cX6_add 38 = .ok (.ldc 96, 2) := by decide +kernel
theorem dX6_add_40 : decode cX6_add 40 = .ok (.invokespecial 73, 3) := by decide +kernel
theorem dX6_add_43 : decode cX6_add 43 = .ok (.athrow, 1) := by decide +kernel
theorem dX6_add_44 : decode cX6_add 44 = .ok (.aload_n 0, 1) := by decide +kernel
theorem dX6_add_45 : decode cX6_add 45 = .ok (.invokevirtual 98, 3) := by decide +kernel
theorem dX6_add_48 : decode cX6_add 48 = .ok (.ireturn, 1) := by decide +kernel
theorem dX6_repeat_0 : decode cX6_repeat 0 = .ok (.aload_n 0, 1) := by decide +kernel
theorem dX6_repeat_1 : decode cX6_repeat 1 = .ok (.getfield 33, 3) := by decide +kernel
theorem dX6_repeat_4 : decode cX6_repeat 4 = .ok (.iload_n 1, 1) := by decide +kernel
theorem dX6_repeat_5 : decode cX6_repeat 5 = .ok (.iload_n 2, 1) := by decide +kernel
theorem dX6_repeat_6 : decode cX6_repeat 6 = .ok (.iload_n 3, 1) := by decide +kernel
theorem dX6_repeat_7 : decode cX6_repeat 7 = .ok (.invokevirtual 102, 3) := by decide +kernel
theorem dX6_repeat_10 : decode cX6_repeat 10 = .ok (.aload_n 0, 1) := by decide +kernel
theorem dX6_repeat_11 : decode cX6_repeat 11 = .ok (.getfield 10, 3) := by decide +kernel
theorem dX6_repeat_14 : decode cX6_repeat 14 = .ok (.aload_n 0, 1) := by decide +kernel
theorem dX6_repeat_15 : decode cX6_repeat 15 = .ok (.getfield 33, 3) := by decide +kernel
theorem dX6_repeat_18 : decode cX6_repeat 18 = .ok (.invokevirtual 106, 3) := by decide +kernel
theorem dX6_repeat_21 : decode cX6_repeat 21 = .ok (.ifCond .ne 13, 3) := by decide +kernel
theorem dX6_repeat_24 : decode cX6_repeat 24 = .ok (.new 55, 3) := by decide +kernel
theorem dX6_repeat_27 : decode cX6_repeat 27 = .ok (.dup, 1) := by decide +kernel
theorem dX6_repeat_28 : decode cX6_repeat 28 = .ok (.ldc 110, 2) := by decide +kernel
theorem dX6_repeat_30 : decode cX6_repeat 30 = .ok (.invokespecial 59, 3) := by decide +kernel
theorem dX6_repeat_33 : decode cX6_repeat 33 = .ok (.athrow, 1) := by decide +kernel
theorem dX6_repeat_34 : decode cX6_repeat 34 = .ok (.aload_n 0, 1) := by decide +kernel
theorem dX6_repeat_35 : decode cX6_repeat 35 = .ok (.getfield 33, 3) := by decide +kernel
theorem dX6_repeat_38 : decode cX6_repeat 38 = .ok (.invokevirtual 92, 3) := by decide +kernel
theorem dX6_repeat_41 : decode cX6_repeat 41 = .ok (.ifCond .ne 13, 3) := by decide +kernel
theorem dX6_repeat_44 : decode cX6_repeat 44 = .ok (.new 69, 3) := by decide +kernel
theorem dX6_repeat_47 : decode cX6_repeat 47 = .ok (.dup, 1) := by decide +kernel
theorem dX6_repeat_48 : decode cX6_repeat 48 = .ok (.ldc 112, 2) := by decide +kernel
theorem dX6_repeat_50 : decode cX6_repeat 50 = .ok (.invokespecial 73, 3) := by decide +kernel
theorem dX6_repeat_53 : decode cX6_repeat 53 = .ok (.athrow, 1) := by decide +kernel
theorem dX6_repeat_54 : decode cX6_repeat 54 = .ok (.aload_n 0, 1) := by decide +kernel
theorem dX6_repeat_55 : decode cX6_repeat 55 = .ok (.invokevirtual 98, 3) := by decide +kernel
theorem dX6_repeat_58 : decode cX6_repeat 58 = .ok (.ireturn, 1) := by decide +kernel
theorem dX6_remove_0 : decode cX6_remove 0 = .ok (.aload_n 0, 1) := by decide +kernel
theorem dX6_remove_1 : decode cX6_remove 1 = .ok (.getfield 10, 3) := by decide +kernel
theorem dX6_remove_4 : decode cX6_remove 4 = .ok (.iload_n 1, 1) := by decide +kernel
theorem dX6_remove_5 : decode cX6_remove 5 = .ok (.invokevirtual 114, 3) := by decide +kernel
theorem dX6_remove_8 : decode cX6_remove 8 = .ok (.ifCond .ne 13, 3) := by decide +kernel
theorem dX6_remove_11 : decode cX6_remove 11 = .ok (.new 55, 3) := by decide +kernel
theorem dX6_remove_14 : decode cX6_remove 14 = .ok (.dup, 1) := by decide +kernel
theorem dX6_remove_15 : decode cX6_remove 15 = .ok (.ldc 110, 2) := by decide +kernel
theorem dX6_remove_17 : decode cX6_remove 17 = .ok (.invokespecial 59, 3) := by decide +kernel
theorem dX6_remove_20 : decode cX6_remove 20 = .ok (.athrow, 1) := by decide +kernel
theorem dX6_remove_21 : decode cX6_remove 21 = .ok (.aload_n 0, 1) := by decide +kernel
theorem dX6_remove_22 : decode cX6_remove 22 = .ok (.getfield 19, 3) := by decide +kernel
theorem dX6_remove_25 : decode cX6_remove 25 = .ok (.aload_n 0, 1) := by decide +kernel
theorem dX6_remove_26 : decode cX6_remove 26 = .ok (.getfield 10, 3) := by decide +kernel
theorem dX6_remove_29 : decode cX6_remove 29 = .ok (.invokevirtual 74, 3) := by decide +kernel
theorem dX6_remove_32 : decode cX6_remove 32 = .ok (.aload_n 0, 1) := by decide +kernel
theorem dX6_remove_33 : decode cX6_remove 33 = .ok (.getfield 10, 3) := by decide +kernel
theorem dX6_remove_36 : decode cX6_remove 36 = .ok (.iload_n 1, 1) := by decide +kernel
theorem dX6_remove_37 : decode cX6_remove 37 = .ok (.invokevirtual 118, 3) := by decide +kernel
theorem dX6_remove_40 : decode cX6_remove 40 = .ok (.ireturn, 1) := by decide +kernel
theorem dX6_overrun_0 : decode cX6_overrun 0 = .ok (.aload_n 0, 1) := by decide +kernel
theorem dX6_overrun_1 : decode cX6_overrun 1 = .ok (.getfield 10, 3) := by decide +kernel
theorem dX6_overrun_4 : decode cX6_overrun 4 = .ok (.iload_n 1, 1) := by decide +kernel
theorem dX6_overrun_5 : decode cX6_overrun 5 = .ok (.invokevirtual 114, 3) := by decide +kernel
theorem dX6_overrun_8 : decode cX6_overrun 8 = .ok (.ifCond .ne 13, 3) := by decide +kernel
theorem dX6_overrun_11 : decode cX6_overrun 11 = .ok (.new 55, 3) := by decide +kernel
theorem dX6_overrun_14 : decode cX6_overrun 14 = .ok (.dup, 1) := by decide +kernel
theorem dX6_overrun_15 : decode cX6_overrun 15 = .ok (.ldc 110, 2) := by decide +kernel
theorem dX6_overrun_17 : decode cX6_overrun 17 = .ok (.invokespecial 59, 3) := by decide +kernel
theorem dX6_overrun_20 : decode cX6_overrun 20 = .ok (.athrow, 1) := by decide +kernel
theorem dX6_overrun_21 : decode cX6_overrun 21 = .ok (.iload_n 2, 1) := by decide +kernel
theorem dX6_overrun_22 : decode cX6_overrun 22 = .ok (.bipush (-60), 2) := by decide +kernel
theorem dX6_overrun_24 : decode cX6_overrun 24 = .ok (.bipush 120, 2) := by decide +kernel
theorem dX6_overrun_26 : decode cX6_overrun 26 = .ok (.invokestatic 51, 3) := by decide +kernel
theorem dX6_overrun_29 : decode cX6_overrun 29 = .ok (.ifCond .ne 13, 3) := by decide +kernel
theorem dX6_overrun_32 : decode cX6_overrun 32 = .ok (.new 69, 3) := by decide +kernel
theorem dX6_overrun_35 : decode cX6_overrun 35 = .ok (.dup, 1) := by decide +kernel
theorem dX6_overrun_36 : decode cX6_overrun 36 = .ok (.ldc 122, 2) := by decide +kernel
theorem dX6_overrun_38 : decode cX6_overrun 38 = .ok (.invokespecial 73, 3) := by decide +kernel
theorem dX6_overrun_41 : decode cX6_overrun 41 = .ok (.athrow, 1) := by decide +kernel
theorem dX6_overrun_42 : decode cX6_overrun 42 = .ok (.aload_n 0, 1) := by decide +kernel
theorem dX6_overrun_43 : decode cX6_overrun 43 = .ok (.getfield 10, 3) := by decide +kernel
theorem dX6_overrun_46 : decode cX6_overrun 46 = .ok (.getfield 124, 3) := by decide +kernel
theorem dX6_overrun_49 : decode cX6_overrun 49 = .ok (.iload_n 1, 1) := by decide +kernel
theorem dX6_overrun_50 : decode cX6_overrun 50 = .ok (.iaload, 1) := by decide +kernel
theorem dX6_overrun_51 : decode cX6_overrun 51 = .ok (.ifCond .eq 13, 3) := by decide +kernel
theorem dX6_overrun_54 : decode cX6_overrun 54 = .ok (.new 127, 3) := by decide +kernel
theorem dX6_overrun_57 : decode cX6_overrun 57 = .ok (.dup, 1) := by decide +kernel
theorem dX6_overrun_58 : decode cX6_overrun 58 = .ok (.ldc 129, 2) := by decide +kernel
theorem dX6_overrun_60 : decode cX6_overrun 60 = .ok (.invokespecial 131, 3) := by decide +kernel
theorem dX6_overrun_63 : decode cX6_overrun 63 = .ok (.athrow, 1) := by decide +kernel
theorem dX6_overrun_64 : decode cX6_overrun 64 = .ok (.aload_n 0, 1) := by decide +kernel
theorem dX6_overrun_65 : decode cX6_overrun 65 = .ok (.getfield 19, 3) := by decide +kernel
theorem dX6_overrun_68 : decode cX6_overrun 68 = .ok (.aload_n 0, 1) := by decide +kernel
theorem dX6_overrun_69 : decode cX6_overrun 69 = .ok (.getfield 10, 3) := by decide +kernel
theorem dX6_overrun_72 : decode cX6_overrun 72 = .ok (.invokevirtual 74, 3) := by decide +kernel
theorem dX6_overrun_75 : decode cX6_overrun 75 = .ok (.aload_n 0, 1) := by decide +kernel
theorem dX6_overrun_76 : decode cX6_overrun 76 = .ok (.getfield 10, 3) := by decide +kernel
theorem dX6_overrun_79 : decode cX6_overrun 79 = .ok (.getfield 132, 3) := by decide +kernel
theorem dX6_overrun_82 : decode cX6_overrun 82 = .ok (.iload_n 1, 1) := by decide +kernel
theorem dX6_overrun_83 : decode cX6_overrun 83 = .ok (.iaload, 1) := by decide +kernel
theorem dX6_overrun_84 : decode cX6_overrun 84 = .ok (.istore_n 3, 1) := by decide +kernel
theorem dX6_overrun_85 : decode cX6_overrun 85 = .ok (.aload_n 0, 1) := by decide +kernel
theorem dX6_overrun_86 : decode cX6_overrun 86 = .ok (.getfield 10, 3) := by decide +kernel
theorem dX6_overrun_89 : decode cX6_overrun 89 = .ok (.getfield 132, 3) := by decide +kernel
theorem dX6_overrun_92 : decode cX6_overrun 92 = .ok (.iload_n 1, 1) := by decide +kernel
theorem dX6_overrun_93 : decode cX6_overrun 93 = .ok (.iload_n 2, 1) := by decide +kernel
theorem dX6_overrun_94 : decode cX6_overrun 94 = .ok (.iastore, 1) := by decide +kernel
theorem dX6_overrun_95 : decode cX6_overrun 95 = .ok (.iload_n 3, 1) := by decide +kernel
theorem dX6_overrun_96 : decode cX6_overrun 96 = .ok (.ireturn, 1) := by decide +kernel
theorem dX6_closeWeek_0 : decode cX6_closeWeek 0 = .ok (.aload_n 0, 1) := by decide +kernel
theorem dX6_closeWeek_1 : decode cX6_closeWeek 1 = .ok (.getfield 10, 3) := by decide +kernel
theorem dX6_closeWeek_4 : decode cX6_closeWeek 4 = .ok (.getfield 135, 3) := by decide +kernel
theorem dX6_closeWeek_7 : decode cX6_closeWeek 7 = .ok (.sipush 1000, 3) := by decide +kernel
theorem dX6_closeWeek_10 : decode cX6_closeWeek 10 = .ok (.if_icmp .lt 13, 3) := by decide +kernel
theorem dX6_closeWeek_13 : decode cX6_closeWeek 13 = .ok (.new 127, 3) := by decide +kernel
theorem dX6_closeWeek_16 : decode cX6_closeWeek 16 = .ok (.dup, 1) := by decide +kernel
theorem dX6_closeWeek_17 : decode cX6_closeWeek 17 = .ok (.ldc 138, 2) := by decide +kernel
theorem dX6_closeWeek_19 : decode cX6_closeWeek 19 = .ok (.invokespecial 131, 3) := by decide +kernel
theorem dX6_closeWeek_22 : decode cX6_closeWeek 22 = .ok (.athrow, 1) := by decide +kernel
theorem dX6_closeWeek_23 : decode cX6_closeWeek 23 = .ok (.aload_n 0, 1) := by decide +kernel
theorem dX6_closeWeek_24 : decode cX6_closeWeek 24 = .ok (.getfield 19, 3) := by decide +kernel
theorem dX6_closeWeek_27 : decode cX6_closeWeek 27 = .ok (.aload_n 0, 1) := by decide +kernel
theorem dX6_closeWeek_28 : decode cX6_closeWeek 28 = .ok (.getfield 10, 3) := by decide +kernel
theorem dX6_closeWeek_31 : decode cX6_closeWeek 31 = .ok (.invokevirtual 74, 3) := by decide +kernel
theorem dX6_closeWeek_34 : decode cX6_closeWeek 34 = .ok (.aload_n 0, 1) := by decide +kernel
theorem dX6_closeWeek_35 : decode cX6_closeWeek 35 = .ok (.getfield 40, 3) := by decide +kernel
theorem dX6_closeWeek_38 : decode cX6_closeWeek 38 = .ok (.aload_n 0, 1) := by decide +kernel
theorem dX6_closeWeek_39 : decode cX6_closeWeek 39 = .ok (.getfield 10, 3) := by decide +kernel
theorem dX6_closeWeek_42 : decode cX6_closeWeek 42 = .ok (.invokevirtual 140, 3) := by decide +kernel
theorem dX6_closeWeek_45 : decode cX6_closeWeek 45 = .ok (.iconst 0, 1) := by decide +kernel
theorem dX6_closeWeek_46 : decode cX6_closeWeek 46 = .ok (.istore_n 1, 1) := by decide +kernel
theorem dX6_closeWeek_47 : decode cX6_closeWeek 47 = .ok (.iload_n 1, 1) := by decide +kernel
theorem dX6_closeWeek_48 : decode cX6_closeWeek 48 = .ok (.bipush 6, 2) := by decide +kernel
theorem dX6_closeWeek_50 : decode cX6_closeWeek 50 = .ok (.if_icmp .ge 29, 3) := by decide +kernel
theorem dX6_closeWeek_53 : decode cX6_closeWeek 53 = .ok (.aload_n 0, 1) := by decide +kernel
theorem dX6_closeWeek_54 : decode cX6_closeWeek 54 = .ok (.getfield 10, 3) := by decide +kernel
theorem dX6_closeWeek_57 : decode cX6_closeWeek 57 = .ok (.iload_n 1, 1) := by decide +kernel
theorem dX6_closeWeek_58 : decode cX6_closeWeek 58 = .ok (.aload_n 0, 1) := by decide +kernel
theorem dX6_closeWeek_59 : decode cX6_closeWeek 59 = .ok (.getfield 40, 3) := by decide +kernel
theorem dX6_closeWeek_62 : decode cX6_closeWeek 62 = .ok (.aload_n 0, 1) := by decide +kernel
theorem dX6_closeWeek_63 : decode cX6_closeWeek 63 = .ok (.getfield 10, 3) := by decide +kernel
theorem dX6_closeWeek_66 : decode cX6_closeWeek 66 = .ok (.iload_n 1, 1) := by decide +kernel
theorem dX6_closeWeek_67 : decode cX6_closeWeek 67 = .ok (.invokevirtual 143, 3) := by decide +kernel
theorem dX6_closeWeek_70 : decode cX6_closeWeek 70 = .ok (.invokevirtual 147, 3) := by decide +kernel
theorem dX6_closeWeek_73 : decode cX6_closeWeek 73 = .ok (.iinc 1 1, 3) := by decide +kernel
theorem dX6_closeWeek_76 : decode cX6_closeWeek 76 = .ok (.goto (-29), 3) := by decide +kernel
theorem dX6_closeWeek_79 : decode cX6_closeWeek 79 = .ok (.aload_n 0, 1) := by decide +kernel
theorem dX6_closeWeek_80 : decode cX6_closeWeek 80 = .ok (.getfield 10, 3) := by decide +kernel
theorem dX6_closeWeek_83 : decode cX6_closeWeek 83 = .ok (.invokevirtual 151, 3) := by decide +kernel
theorem dX6_closeWeek_86 : decode cX6_closeWeek 86 = .ok (.aload_n 0, 1) := by decide +kernel
theorem dX6_closeWeek_87 : decode cX6_closeWeek 87 = .ok (.getfield 10, 3) := by decide +kernel
theorem dX6_closeWeek_90 : decode cX6_closeWeek 90 = .ok (.getfield 135, 3) := by decide +kernel
theorem dX6_closeWeek_93 : decode cX6_closeWeek 93 = .ok (.ireturn, 1) := by decide +kernel
theorem dX6_undo_0 : decode cX6_undo 0 = .ok (.aload_n 0, 1) := by decide +kernel
theorem dX6_undo_1 : decode cX6_undo 1 = .ok (.getfield 19, 3) := by decide +kernel
theorem dX6_undo_4 : decode cX6_undo 4 = .ok (.getfield 186, 3) := by decide +kernel
theorem dX6_undo_7 : decode cX6_undo 7 = .ok (.ifCond .ne 13, 3) := by decide +kernel
theorem dX6_undo_10 : decode cX6_undo 10 = .ok (.new 127, 3) := by decide +kernel
theorem dX6_undo_13 : decode cX6_undo 13 = .ok (.dup, 1) := by decide +kernel
theorem dX6_undo_14 : decode cX6_undo 14 = .ok (.ldc 189, 2) := by decide +kernel
theorem dX6_undo_16 : decode cX6_undo 16 = .ok (.invokespecial 131, 3) := by decide +kernel
theorem dX6_undo_19 : decode cX6_undo 19 = .ok (.athrow, 1) := by decide +kernel
theorem dX6_undo_20 : decode cX6_undo 20 = .ok (.aload_n 0, 1) := by decide +kernel
theorem dX6_undo_21 : decode cX6_undo 21 = .ok (.getfield 19, 3) := by decide +kernel
theorem dX6_undo_24 : decode cX6_undo 24 = .ok (.aload_n 0, 1) := by decide +kernel
theorem dX6_undo_25 : decode cX6_undo 25 = .ok (.getfield 10, 3) := by decide +kernel
theorem dX6_undo_28 : decode cX6_undo 28 = .ok (.invokevirtual 191, 3) := by decide +kernel
theorem dX6_undo_31 : decode cX6_undo 31 = .ok (.aload_n 0, 1) := by decide +kernel
theorem dX6_undo_32 : decode cX6_undo 32 = .ok (.getfield 19, 3) := by decide +kernel
theorem dX6_undo_35 : decode cX6_undo 35 = .ok (.getfield 186, 3) := by decide +kernel
theorem dX6_undo_38 : decode cX6_undo 38 = .ok (.ireturn, 1) := by decide +kernel
theorem dX6_reason_0 : decode cX6_reason 0 = .ok (.aload_n 0, 1) := by decide +kernel
theorem dX6_reason_1 : decode cX6_reason 1 = .ok (.getfield 47, 3) := by decide +kernel
theorem dX6_reason_4 : decode cX6_reason 4 = .ok (.ireturn, 1) := by decide +kernel
theorem dX6_show_0 : decode cX6_show 0 = .ok (.aload_n 0, 1) := by decide +kernel
theorem dX6_show_1 : decode cX6_show 1 = .ok (.getfield 10, 3) := by decide +kernel
theorem dX6_show_4 : decode cX6_show 4 = .ok (.iload_n 1, 1) := by decide +kernel
theorem dX6_show_5 : decode cX6_show 5 = .ok (.invokevirtual 114, 3) := by decide +kernel
theorem dX6_show_8 : decode cX6_show 8 = .ok (.ifCond .ne 13, 3) := by decide +kernel
theorem dX6_show_11 : decode cX6_show 11 = .ok (.new 55, 3) := by decide +kernel
theorem dX6_show_14 : decode cX6_show 14 = .ok (.dup, 1) := by decide +kernel
theorem dX6_show_15 : decode cX6_show 15 = .ok (.ldc 110, 2) := by decide +kernel
theorem dX6_show_17 : decode cX6_show 17 = .ok (.invokespecial 59, 3) := by decide +kernel
theorem dX6_show_20 : decode cX6_show 20 = .ok (.athrow, 1) := by decide +kernel
theorem dX6_show_21 : decode cX6_show 21 = .ok (.iload_n 2, 1) := by decide +kernel
theorem dX6_show_22 : decode cX6_show 22 = .ok (.iconst 0, 1) := by decide +kernel
theorem dX6_show_23 : decode cX6_show 23 = .ok (.bipush 11, 2) := by decide +kernel
theorem dX6_show_25 : decode cX6_show 25 = .ok (.invokestatic 51, 3) := by decide +kernel
theorem dX6_show_28 : decode cX6_show 28 = .ok (.ifCond .ne 13, 3) := by decide +kernel
theorem dX6_show_31 : decode cX6_show 31 = .ok (.new 69, 3) := by decide +kernel
theorem dX6_show_34 : decode cX6_show 34 = .ok (.dup, 1) := by decide +kernel
theorem dX6_show_35 : decode cX6_show 35 = .ok (.ldc 194, 2) := by decide +kernel
theorem dX6_show_37 : decode cX6_show 37 = .ok (.invokespecial 73, 3) := by decide +kernel
theorem dX6_show_40 : decode cX6_show 40 = .ok (.athrow, 1) := by decide +kernel
theorem dX6_show_41 : decode cX6_show 41 = .ok (.aload_n 0, 1) := by decide +kernel
theorem dX6_show_42 : decode cX6_show 42 = .ok (.getfield 40, 3) := by decide +kernel
theorem dX6_show_45 : decode cX6_show 45 = .ok (.aload_n 0, 1) := by decide +kernel
theorem dX6_show_46 : decode cX6_show 46 = .ok (.getfield 10, 3) := by decide +kernel
theorem dX6_show_49 : decode cX6_show 49 = .ok (.invokevirtual 140, 3) := by decide +kernel
theorem dX6_show_52 : decode cX6_show 52 = .ok (.aload_n 0, 1) := by decide +kernel
theorem dX6_show_53 : decode cX6_show 53 = .ok (.iload_n 1, 1) := by decide +kernel
theorem dX6_show_54 : decode cX6_show 54 = .ok (.iload_n 2, 1) := by decide +kernel
theorem dX6_show_55 : decode cX6_show 55 = .ok (.invokevirtual 196, 3) := by decide +kernel
theorem dX6_show_58 : decode cX6_show 58 = .ok (.ireturn, 1) := by decide +kernel
theorem dX6_group_0 : decode cX6_group 0 = .ok (.iload_n 1, 1) := by decide +kernel
theorem dX6_group_1 : decode cX6_group 1 = .ok (.iconst 0, 1) := by decide +kernel
theorem dX6_group_2 : decode cX6_group 2 = .ok (.iconst 5, 1) := by decide +kernel
theorem dX6_group_3 : decode cX6_group 3 = .ok (.invokestatic 51, 3) := by decide +kernel
theorem dX6_group_6 : decode cX6_group 6 = .ok (.ifCond .ne 13, 3) := by decide +kernel
theorem dX6_group_9 : decode cX6_group 9 = .ok (.new 55, 3) := by decide +kernel
theorem dX6_group_12 : decode cX6_group 12 = .ok (.dup, 1) := by decide +kernel
theorem dX6_group_13 : decode cX6_group 13 = .ok (.ldc 81, 2) := by decide +kernel
theorem dX6_group_15 : decode cX6_group 15 = .ok (.invokespecial 59, 3) := by decide +kernel
theorem dX6_group_18 : decode cX6_group 18 = .ok (.athrow, 1) := by decide +kernel
theorem dX6_group_19 : decode cX6_group 19 = .ok (.iload_n 2, 1) := by decide +kernel
theorem dX6_group_20 : decode cX6_group 20 = .ok (.iconst 0, 1) := by decide +kernel
theorem dX6_group_21 : decode cX6_group 21 = .ok (.bipush 8, 2) := by decide +kernel
theorem dX6_group_23 : decode cX6_group 23 = .ok (.invokestatic 51, 3) := by decide +kernel
theorem dX6_group_26 : decode cX6_group 26 = .ok (.ifCond .ne 13, 3) := by decide +kernel
theorem dX6_group_29 : decode cX6_group 29 = .ok (.new 69, 3) := by decide +kernel
theorem dX6_group_32 : decode cX6_group 32 = .ok (.dup, 1) := by decide +kernel
theorem dX6_group_33 : decode cX6_group 33 = .ok (.ldc 200, 2) := by decide +kernel
theorem dX6_group_35 : decode cX6_group 35 = .ok (.invokespecial 73, 3) := by decide +kernel
theorem dX6_group_38 : decode cX6_group 38 = .ok (.athrow, 1) := by decide +kernel
theorem dX6_group_39 : decode cX6_group 39 = .ok (.aload_n 0, 1) := by decide +kernel
theorem dX6_group_40 : decode cX6_group 40 = .ok (.getfield 40, 3) := by decide +kernel
theorem dX6_group_43 : decode cX6_group 43 = .ok (.aload_n 0, 1) := by decide +kernel
theorem dX6_group_44 : decode cX6_group 44 = .ok (.getfield 10, 3) := by decide +kernel
theorem dX6_group_47 : decode cX6_group 47 = .ok (.invokevirtual 140, 3) := by decide +kernel
theorem dX6_group_50 : decode cX6_group 50 = .ok (.aload_n 0, 1) := by decide +kernel
theorem dX6_group_51 : decode cX6_group 51 = .ok (.iload_n 1, 1) := by decide +kernel
theorem dX6_group_52 : decode cX6_group 52 = .ok (.iload_n 2, 1) := by decide +kernel
theorem dX6_group_53 : decode cX6_group 53 = .ok (.invokevirtual 202, 3) := by decide +kernel
theorem dX6_group_56 : decode cX6_group 56 = .ok (.ireturn, 1) := by decide +kernel
theorem dX6_sponsors_0 : decode cX6_sponsors 0 = .ok (.iload_n 1, 1) := by decide +kernel
theorem dX6_sponsors_1 : decode cX6_sponsors 1 = .ok (.iconst 0, 1) := by decide +kernel
theorem dX6_sponsors_2 : decode cX6_sponsors 2 = .ok (.bipush 6, 2) := by decide +kernel
theorem dX6_sponsors_4 : decode cX6_sponsors 4 = .ok (.invokestatic 51, 3) := by decide +kernel
theorem dX6_sponsors_7 : decode cX6_sponsors 7 = .ok (.ifCond .eq 13, 3) := by decide +kernel
theorem dX6_sponsors_10 : decode cX6_sponsors 10 = .ok (.iload_n 2, 1) := by decide +kernel
theorem dX6_sponsors_11 : decode cX6_sponsors 11 = .ok (.iconst 0, 1) := by decide +kernel
theorem dX6_sponsors_12 : decode cX6_sponsors 12 = .ok (.bipush 23, 2) := by decide +kernel
theorem dX6_sponsors_14 : decode cX6_sponsors 14 = .ok (.invokestatic 51, 3) := by decide +kernel
theorem dX6_sponsors_17 : decode cX6_sponsors 17 = .ok (.ifCond .ne 13, 3) := by decide +kernel
theorem dX6_sponsors_20 : decode cX6_sponsors 20 = .ok (.new 55, 3) := by decide +kernel
theorem dX6_sponsors_23 : decode cX6_sponsors 23 = .ok (.dup, 1) := by decide +kernel
theorem dX6_sponsors_24 : decode cX6_sponsors 24 = .ok (.ldc 205, 2) := by decide +kernel
theorem dX6_sponsors_26 : decode cX6_sponsors 26 = .ok (.invokespecial 59, 3) := by decide +kernel
theorem dX6_sponsors_29 : decode cX6_sponsors 29 = .ok (.athrow, 1) := by decide +kernel
theorem dX6_sponsors_30 : decode cX6_sponsors 30 = .ok (.iload_n 3, 1) := by decide +kernel
theorem dX6_sponsors_31 : decode cX6_sponsors 31 = .ok (.ifCond .ne 13, 3) := by decide +kernel
theorem dX6_sponsors_34 : decode cX6_sponsors 34 = .ok (.aload_n 0, 1) := by decide +kernel
theorem dX6_sponsors_35 : decode cX6_sponsors 35 = .ok (.getfield 10, 3) := by decide +kernel
theorem dX6_sponsors_38 : decode cX6_sponsors 38 = .ok (.iload_n 1, 1) := by decide +kernel
theorem dX6_sponsors_39 : decode cX6_sponsors 39 = .ok (.iload_n 2, 1) := by decide +kernel
theorem dX6_sponsors_40 : decode cX6_sponsors 40 = .ok (.invokevirtual 207, 3) := by decide +kernel
theorem dX6_sponsors_43 : decode cX6_sponsors 43 = .ok (.ireturn, 1) := by decide +kernel
theorem dX6_sponsors_44 : decode cX6_sponsors 44 = .ok (.aload_n 0, 1) := by decide +kernel
theorem dX6_sponsors_45 : decode cX6_sponsors 45 = .ok (.getfield 40, 3) := by decide +kernel
theorem dX6_sponsors_48 : decode cX6_sponsors 48 = .ok (.aload_n 0, 1) := by decide +kernel
theorem dX6_sponsors_49 : decode cX6_sponsors 49 = .ok (.getfield 10, 3) := by decide +kernel
theorem dX6_sponsors_52 : decode cX6_sponsors 52 = .ok (.invokevirtual 140, 3) := by decide +kernel
theorem dX6_sponsors_55 : decode cX6_sponsors 55 = .ok (.aload_n 0, 1) := by decide +kernel
theorem dX6_sponsors_56 : decode cX6_sponsors 56 = .ok (.getfield 40, 3) := by decide +kernel
theorem dX6_sponsors_59 : decode cX6_sponsors 59 = .ok (.aload_n 0, 1) := by decide +kernel
theorem dX6_sponsors_60 : decode cX6_sponsors 60 = .ok (.getfield 10, 3) := by decide +kernel
theorem dX6_sponsors_63 : decode cX6_sponsors 63 = .ok (.iload_n 1, 1) := by decide +kernel
theorem dX6_sponsors_64 : decode cX6_sponsors 64 = .ok (.iload_n 2, 1) := by decide +kernel
theorem dX6_sponsors_65 : decode cX6_sponsors 65 = .ok (.invokevirtual 210, 3) := by decide +kernel
theorem dX6_sponsors_68 : decode cX6_sponsors 68 = .ok (.ireturn, 1) := by decide +kernel
theorem dX6_day_0 : decode cX6_day 0 = .ok (.iload_n 1, 1) := by decide +kernel
theorem dX6_day_1 : decode cX6_day 1 = .ok (.iconst 0, 1) := by decide +kernel
theorem dX6_day_2 : decode cX6_day 2 = .ok (.bipush 6, 2) := by decide +kernel
theorem dX6_day_4 : decode cX6_day 4 = .ok (.invokestatic 51, 3) := by decide +kernel
theorem dX6_day_7 : decode cX6_day 7 = .ok (.ifCond .ne 13, 3) := by decide +kernel
theorem dX6_day_10 : decode cX6_day 10 = .ok (.new 55, 3) := by decide +kernel
theorem dX6_day_13 : decode cX6_day 13 = .ok (.dup, 1) := by decide +kernel
theorem dX6_day_14 : decode cX6_day 14 = .ok (.ldc 214, 2) := by decide +kernel
theorem dX6_day_16 : decode cX6_day 16 = .ok (.invokespecial 59, 3) := by decide +kernel
theorem dX6_day_19 : decode cX6_day 19 = .ok (.athrow, 1) := by decide +kernel
theorem dX6_day_20 : decode cX6_day 20 = .ok (.iload_n 2, 1) := by decide +kernel
theorem dX6_day_21 : decode cX6_day 21 = .ok (.iconst 0, 1) := by decide +kernel
theorem dX6_day_22 : decode cX6_day 22 = .ok (.bipush 7, 2) := by decide +kernel
theorem dX6_day_24 : decode cX6_day 24 = .ok (.invokestatic 51, 3) := by decide +kernel
theorem dX6_day_27 : decode cX6_day 27 = .ok (.ifCond .ne 13, 3) := by decide +kernel
theorem dX6_day_30 : decode cX6_day 30 = .ok (.new 69, 3) := by decide +kernel
theorem dX6_day_33 : decode cX6_day 33 = .ok (.dup, 1) := by decide +kernel
theorem dX6_day_34 : decode cX6_day 34 = .ok (.ldc 216, 2) := by decide +kernel
theorem dX6_day_36 : decode cX6_day 36 = .ok (.invokespecial 73, 3) := by decide +kernel
theorem dX6_day_39 : decode cX6_day 39 = .ok (.athrow, 1) := by decide +kernel
theorem dX6_day_40 : decode cX6_day 40 = .ok (.aload_n 0, 1) := by decide +kernel
theorem dX6_day_41 : decode cX6_day 41 = .ok (.getfield 40, 3) := by decide +kernel
theorem dX6_day_44 : decode cX6_day 44 = .ok (.aload_n 0, 1) := by decide +kernel
theorem dX6_day_45 : decode cX6_day 45 = .ok (.getfield 10, 3) := by decide +kernel
theorem dX6_day_48 : decode cX6_day 48 = .ok (.invokevirtual 140, 3) := by decide +kernel
theorem dX6_day_51 : decode cX6_day 51 = .ok (.aload_n 0, 1) := by decide +kernel
theorem dX6_day_52 : decode cX6_day 52 = .ok (.getfield 40, 3) := by decide +kernel
theorem dX6_day_55 : decode cX6_day 55 = .ok (.aload_n 0, 1) := by decide +kernel
theorem dX6_day_56 : decode cX6_day 56 = .ok (.getfield 10, 3) := by decide +kernel
theorem dX6_day_59 : decode cX6_day 59 = .ok (.iload_n 1, 1) := by decide +kernel
theorem dX6_day_60 : decode cX6_day 60 = .ok (.iload_n 2, 1) := by decide +kernel
theorem dX6_day_61 : decode cX6_day 61 = .ok (.invokevirtual 218, 3) := by decide +kernel
theorem dX6_day_64 : decode cX6_day 64 = .ok (.ireturn, 1) := by decide +kernel
theorem dX6_count_0 : decode cX6_count 0 = .ok (.iload_n 1, 1) := by decide +kernel
theorem dX6_count_1 : decode cX6_count 1 = .ok (.iconst 0, 1) := by decide +kernel
theorem dX6_count_2 : decode cX6_count 2 = .ok (.bipush 7, 2) := by decide +kernel
theorem dX6_count_4 : decode cX6_count 4 = .ok (.invokestatic 51, 3) := by decide +kernel
theorem dX6_count_7 : decode cX6_count 7 = .ok (.ifCond .ne 13, 3) := by decide +kernel
theorem dX6_count_10 : decode cX6_count 10 = .ok (.new 69, 3) := by decide +kernel
theorem dX6_count_13 : decode cX6_count 13 = .ok (.dup, 1) := by decide +kernel
theorem dX6_count_14 : decode cX6_count 14 = .ok (.ldc 216, 2) := by decide +kernel
theorem dX6_count_16 : decode cX6_count 16 = .ok (.invokespecial 73, 3) := by decide +kernel
theorem dX6_count_19 : decode cX6_count 19 = .ok (.athrow, 1) := by decide +kernel
theorem dX6_count_20 : decode cX6_count 20 = .ok (.aload_n 0, 1) := by decide +kernel
theorem dX6_count_21 : decode cX6_count 21 = .ok (.getfield 40, 3) := by decide +kernel
theorem dX6_count_24 : decode cX6_count 24 = .ok (.aload_n 0, 1) := by decide +kernel
theorem dX6_count_25 : decode cX6_count 25 = .ok (.getfield 10, 3) := by decide +kernel
theorem dX6_count_28 : decode cX6_count 28 = .ok (.invokevirtual 140, 3) := by decide +kernel
theorem dX6_count_31 : decode cX6_count 31 = .ok (.aload_n 0, 1) := by decide +kernel
theorem dX6_count_32 : decode cX6_count 32 = .ok (.iload_n 1, 1) := by decide +kernel
theorem dX6_count_33 : decode cX6_count 33 = .ok (.invokevirtual 221, 3) := by decide +kernel
theorem dX6_count_36 : decode cX6_count 36 = .ok (.ireturn, 1) := by decide +kernel
theorem dX6_setting_0 : decode cX6_setting 0 = .ok (.iload_n 1, 1) := by decide +kernel
theorem dX6_setting_1 : decode cX6_setting 1 = .ok (.iconst 0, 1) := by decide +kernel
theorem dX6_setting_2 : decode cX6_setting 2 = .ok (.bipush 7, 2) := by decide +kernel
theorem dX6_setting_4 : decode cX6_setting 4 = .ok (.invokestatic 51, 3) := by decide +kernel
theorem dX6_setting_7 : decode cX6_setting 7 = .ok (.ifCond .ne 13, 3) := by decide +kernel
theorem dX6_setting_10 : decode cX6_setting 10 = .ok (.new 55, 3) := by decide +kernel
theorem dX6_setting_13 : decode cX6_setting 13 = .ok (.dup, 1) := by decide +kernel
theorem dX6_setting_14 : decode cX6_setting 14 = .ok (.ldc 57, 2) := by decide +kernel
theorem dX6_setting_16 : decode cX6_setting 16 = .ok (.invokespecial 59, 3) := by decide +kernel
theorem dX6_setting_19 : decode cX6_setting 19 = .ok (.athrow, 1) := by decide +kernel
theorem dX6_setting_20 : decode cX6_setting 20 = .ok (.aload_n 0, 1) := by decide +kernel
theorem dX6_setting_21 : decode cX6_setting 21 = .ok (.getfield 10, 3) := by decide +kernel
theorem dX6_setting_24 : decode cX6_setting 24 = .ok (.getfield 78, 3) := by decide +kernel
theorem dX6_setting_27 : decode cX6_setting 27 = .ok (.iload_n 1, 1) := by decide +kernel
theorem dX6_setting_28 : decode cX6_setting 28 = .ok (.iaload, 1) := by decide +kernel
theorem dX6_setting_29 : decode cX6_setting 29 = .ok (.ireturn, 1) := by decide +kernel
theorem dX6_why_0 : decode cX6_why 0 = .ok (.aload_n 0, 1) := by decide +kernel
theorem dX6_why_1 : decode cX6_why 1 = .ok (.getfield 33, 3) := by decide +kernel
theorem dX6_why_4 : decode cX6_why 4 = .ok (.iconst 1, 1) := by decide +kernel
theorem dX6_why_5 : decode cX6_why 5 = .ok (.iload_n 1, 1) := by decide +kernel
theorem dX6_why_6 : decode cX6_why 6 = .ok (.iload_n 2, 1) := by decide +kernel
theorem dX6_why_7 : decode cX6_why 7 = .ok (.iload_n 3, 1) := by decide +kernel
theorem dX6_why_8 : decode cX6_why 8 = .ok (.iload 4, 2) := by decide +kernel
theorem dX6_why_10 : decode cX6_why 10 = .ok (.iconst 0, 1) := by decide +kernel
theorem dX6_why_11 : decode cX6_why 11 = .ok (.invokevirtual 88, 3) := by decide +kernel
theorem dX6_why_14 : decode cX6_why 14 = .ok (.aload_n 0, 1) := by decide +kernel
theorem dX6_why_15 : decode cX6_why 15 = .ok (.getfield 33, 3) := by decide +kernel
theorem dX6_why_18 : decode cX6_why 18 = .ok (.invokevirtual 92, 3) := by decide +kernel
theorem dX6_why_21 : decode cX6_why 21 = .ok (.ifCond .ne 13, 3) := by decide +kernel
theorem dX6_why_24 : decode cX6_why 24 = .ok (.new 69, 3) := by decide +kernel
theorem dX6_why_27 : decode cX6_why 27 = .ok (.dup, 1) := by decide +kernel
theorem dX6_why_28 : decode cX6_why 28 = .ok (.ldc 96, 2) := by decide +kernel
theorem dX6_why_30 : decode cX6_why 30 = .ok (.invokespecial 73, 3) := by decide +kernel
theorem dX6_why_33 : decode cX6_why 33 = .ok (.athrow, 1) := by decide +kernel
theorem dX6_why_34 : decode cX6_why 34 = .ok (.aload_n 0, 1) := by decide +kernel
theorem dX6_why_35 : decode cX6_why 35 = .ok (.getfield 10, 3) := by decide +kernel
theorem dX6_why_38 : decode cX6_why 38 = .ok (.aload_n 0, 1) := by decide +kernel
theorem dX6_why_39 : decode cX6_why 39 = .ok (.getfield 33, 3) := by decide +kernel
theorem dX6_why_42 : decode cX6_why 42 = .ok (.invokevirtual 224, 3) := by decide +kernel
theorem dX6_why_45 : decode cX6_why 45 = .ok (.ireturn, 1) := by decide +kernel
theorem dX6_firstTime_0 : decode cX6_firstTime 0 = .ok (.aload_n 0, 1) := by decide +kernel
theorem dX6_firstTime_1 : decode cX6_firstTime 1 = .ok (.getfield 33, 3) := by decide +kernel
theorem dX6_firstTime_4 : decode cX6_firstTime 4 = .ok (.iconst 1, 1) := by decide +kernel
theorem dX6_firstTime_5 : decode cX6_firstTime 5 = .ok (.iload_n 1, 1) := by decide +kernel
theorem dX6_firstTime_6 : decode cX6_firstTime 6 = .ok (.iload_n 2, 1) := by decide +kernel
theorem dX6_firstTime_7 : decode cX6_firstTime 7 = .ok (.iconst 0, 1) := by decide +kernel
theorem dX6_firstTime_8 : decode cX6_firstTime 8 = .ok (.iload_n 3, 1) := by decide +kernel
theorem dX6_firstTime_9 : decode cX6_firstTime 9 = .ok (.iconst 0, 1) := by decide +kernel
theorem dX6_firstTime_10 : decode cX6_firstTime 10 = .ok (.invokevirtual 88, 3) := by decide +kernel
theorem dX6_firstTime_13 : decode cX6_firstTime 13 = .ok (.aload_n 0, 1) := by decide +kernel
theorem dX6_firstTime_14 : decode cX6_firstTime 14 = .ok (.getfield 33, 3) := by decide +kernel
theorem dX6_firstTime_17 : decode cX6_firstTime 17 = .ok (.invokevirtual 92, 3) := by decide +kernel
theorem dX6_firstTime_20 : decode cX6_firstTime 20 = .ok (.ifCond .ne 13, 3) := by decide +kernel
theorem dX6_firstTime_23 : decode cX6_firstTime 23 = .ok (.new 69, 3) := by decide +kernel
theorem dX6_firstTime_26 : decode cX6_firstTime 26 = .ok (.dup, 1) := by decide +kernel
theorem dX6_firstTime_27 : decode cX6_firstTime 27 = .ok (.ldc 96, 2) := by decide +kernel
theorem dX6_firstTime_29 : decode cX6_firstTime 29 = .ok (.invokespecial 73, 3) := by decide +kernel
theorem dX6_firstTime_32 : decode cX6_firstTime 32 = .ok (.athrow, 1) := by decide +kernel
theorem dX6_firstTime_33 : decode cX6_firstTime 33 = .ok (.aload_n 0, 1) := by decide +kernel
theorem dX6_firstTime_34 : decode cX6_firstTime 34 = .ok (.getfield 10, 3) := by decide +kernel
theorem dX6_firstTime_37 : decode cX6_firstTime 37 = .ok (.iload_n 1, 1) := by decide +kernel
theorem dX6_firstTime_38 : decode cX6_firstTime 38 = .ok (.iload_n 2, 1) := by decide +kernel
theorem dX6_firstTime_39 : decode cX6_firstTime 39 = .ok (.iload_n 3, 1) := by decide +kernel
theorem dX6_firstTime_40 : decode cX6_firstTime 40 = .ok (.invokevirtual 227, 3) := by decide +kernel
theorem dX6_firstTime_43 : decode cX6_firstTime 43 = .ok (.ireturn, 1) := by decide +kernel
theorem dX6_firstRepeat_0 : decode cX6_firstRepeat 0 = .ok (.aload_n 0, 1) := by decide +kernel
theorem dX6_firstRepeat_1 : decode cX6_firstRepeat 1 = .ok (.getfield 10, 3) := by decide +kernel
theorem dX6_firstRepeat_4 : decode cX6_firstRepeat 4 = .ok (.iload_n 1, 1) := by decide +kernel
theorem dX6_firstRepeat_5 : decode cX6_firstRepeat 5 = .ok (.invokevirtual 114, 3) := by decide +kernel
theorem dX6_firstRepeat_8 : decode cX6_firstRepeat 8 = .ok (.ifCond .ne 13, 3) := by decide +kernel
theorem dX6_firstRepeat_11 : decode cX6_firstRepeat 11 = .ok (.new 55, 3) := by decide +kernel
theorem dX6_firstRepeat_14 : decode cX6_firstRepeat 14 = .ok (.dup, 1) := by decide +kernel
theorem dX6_firstRepeat_15 : decode cX6_firstRepeat 15 = .ok (.ldc 110, 2) := by decide +kernel
theorem dX6_firstRepeat_17 : decode cX6_firstRepeat 17 = .ok (.invokespecial 59, 3) := by decide +kernel
theorem dX6_firstRepeat_20 : decode cX6_firstRepeat 20 = .ok (.athrow, 1) := by decide +kernel
theorem dX6_firstRepeat_21 : decode cX6_firstRepeat 21 = .ok (.aload_n 0, 1) := by decide +kernel
theorem dX6_firstRepeat_22 : decode cX6_firstRepeat 22 = .ok (.getfield 10, 3) := by decide +kernel
theorem dX6_firstRepeat_25 : decode cX6_firstRepeat 25 = .ok (.iload_n 1, 1) := by decide +kernel
theorem dX6_firstRepeat_26 : decode cX6_firstRepeat 26 = .ok (.invokevirtual 231, 3) := by decide +kernel
theorem dX6_firstRepeat_29 : decode cX6_firstRepeat 29 = .ok (.ireturn, 1) := by decide +kernel
theorem dX6_ifOverrun_0 : decode cX6_ifOverrun 0 = .ok (.aload_n 0, 1) := by decide +kernel
theorem dX6_ifOverrun_1 : decode cX6_ifOverrun 1 = .ok (.getfield 10, 3) := by decide +kernel
theorem dX6_ifOverrun_4 : decode cX6_ifOverrun 4 = .ok (.iload_n 1, 1) := by decide +kernel
theorem dX6_ifOverrun_5 : decode cX6_ifOverrun 5 = .ok (.invokevirtual 114, 3) := by decide +kernel
theorem dX6_ifOverrun_8 : decode cX6_ifOverrun 8 = .ok (.ifCond .ne 13, 3) := by decide +kernel
theorem dX6_ifOverrun_11 : decode cX6_ifOverrun 11 = .ok (.new 55, 3) := by decide +kernel
theorem dX6_ifOverrun_14 : decode cX6_ifOverrun 14 = .ok (.dup, 1) := by decide +kernel
theorem dX6_ifOverrun_15 : decode cX6_ifOverrun 15 = .ok (.ldc 110, 2) := by decide +kernel
theorem dX6_ifOverrun_17 : decode cX6_ifOverrun 17 = .ok (.invokespecial 59, 3) := by decide +kernel
theorem dX6_ifOverrun_20 : decode cX6_ifOverrun 20 = .ok (.athrow, 1) := by decide +kernel
theorem dX6_ifOverrun_21 : decode cX6_ifOverrun 21 = .ok (.iload_n 2, 1) := by decide +kernel
theorem dX6_ifOverrun_22 : decode cX6_ifOverrun 22 = .ok (.bipush (-60), 2) := by decide +kernel
theorem dX6_ifOverrun_24 : decode cX6_ifOverrun 24 = .ok (.bipush 120, 2) := by decide +kernel
theorem dX6_ifOverrun_26 : decode cX6_ifOverrun 26 = .ok (.invokestatic 51, 3) := by decide +kernel
theorem dX6_ifOverrun_29 : decode cX6_ifOverrun 29 = .ok (.ifCond .eq 13, 3) := by decide +kernel
theorem dX6_ifOverrun_32 : decode cX6_ifOverrun 32 = .ok (.iload_n 3, 1) := by decide +kernel
theorem dX6_ifOverrun_33 : decode cX6_ifOverrun 33 = .ok (.iconst 0, 1) := by decide +kernel
theorem dX6_ifOverrun_34 : decode cX6_ifOverrun 34 = .ok (.bipush 7, 2) := by decide +kernel
theorem dX6_ifOverrun_36 : decode cX6_ifOverrun 36 = .ok (.invokestatic 51, 3) := by decide +kernel
theorem dX6_ifOverrun_39 : decode cX6_ifOverrun 39 = .ok (.ifCond .ne 13, 3) := by decide +kernel
theorem dX6_ifOverrun_42 : decode cX6_ifOverrun 42 = .ok (.new 69, 3) := by decide +kernel
theorem dX6_ifOverrun_45 : decode cX6_ifOverrun 45 = .ok (.dup, 1) := by decide +kernel
theorem dX6_ifOverrun_46 : decode cX6_ifOverrun 46 = .ok (.ldc 234, 2) := by decide +kernel
theorem dX6_ifOverrun_48 : decode cX6_ifOverrun 48 = .ok (.invokespecial 73, 3) := by decide +kernel
theorem dX6_ifOverrun_51 : decode cX6_ifOverrun 51 = .ok (.athrow, 1) := by decide +kernel
theorem dX6_ifOverrun_52 : decode cX6_ifOverrun 52 = .ok (.aload_n 0, 1) := by decide +kernel
theorem dX6_ifOverrun_53 : decode cX6_ifOverrun 53 = .ok (.getfield 10, 3) := by decide +kernel
theorem dX6_ifOverrun_56 : decode cX6_ifOverrun 56 = .ok (.getfield 124, 3) := by decide +kernel
theorem dX6_ifOverrun_59 : decode cX6_ifOverrun 59 = .ok (.iload_n 1, 1) := by decide +kernel
theorem dX6_ifOverrun_60 : decode cX6_ifOverrun 60 = .ok (.iaload, 1) := by decide +kernel
theorem dX6_ifOverrun_61 : decode cX6_ifOverrun 61 = .ok (.ifCond .eq 13, 3) := by decide +kernel
theorem dX6_ifOverrun_64 : decode cX6_ifOverrun 64 = .ok (.new 127, 3) := by decide +kernel
theorem dX6_ifOverrun_67 : decode cX6_ifOverrun 67 = .ok (.dup, 1) := by decide +kernel
theorem dX6_ifOverrun_68 : decode cX6_ifOverrun 68 = .ok (.ldc 129, 2) := by decide +kernel
theorem dX6_ifOverrun_70 : decode cX6_ifOverrun 70 = .ok (.invokespecial 131, 3) := by decide +kernel
theorem dX6_ifOverrun_73 : decode cX6_ifOverrun 73 = .ok (.athrow, 1) := by decide +kernel
theorem dX6_ifOverrun_74 : decode cX6_ifOverrun 74 = .ok (.aload_n 0, 1) := by decide +kernel
theorem dX6_ifOverrun_75 : decode cX6_ifOverrun 75 = .ok (.getfield 44, 3) := by decide +kernel
theorem dX6_ifOverrun_78 : decode cX6_ifOverrun 78 = .ok (.aload_n 0, 1) := by decide +kernel
theorem dX6_ifOverrun_79 : decode cX6_ifOverrun 79 = .ok (.getfield 10, 3) := by decide +kernel
theorem dX6_ifOverrun_82 : decode cX6_ifOverrun 82 = .ok (.iload_n 1, 1) := by decide +kernel
theorem dX6_ifOverrun_83 : decode cX6_ifOverrun 83 = .ok (.iload_n 2, 1) := by decide +kernel
theorem dX6_ifOverrun_84 : decode cX6_ifOverrun 84 = .ok (.invokevirtual 236, 3) := by decide +kernel
theorem dX6_ifOverrun_87 : decode cX6_ifOverrun 87 = .ok (.aload_n 0, 1) := by decide +kernel
theorem dX6_ifOverrun_88 : decode cX6_ifOverrun 88 = .ok (.getfield 44, 3) := by decide +kernel
theorem dX6_ifOverrun_91 : decode cX6_ifOverrun 91 = .ok (.aload_n 0, 1) := by decide +kernel
theorem dX6_ifOverrun_92 : decode cX6_ifOverrun 92 = .ok (.getfield 10, 3) := by decide +kernel
theorem dX6_ifOverrun_95 : decode cX6_ifOverrun 95 = .ok (.aload_n 0, 1) := by decide +kernel
theorem dX6_ifOverrun_96 : decode cX6_ifOverrun 96 = .ok (.getfield 10, 3) := by decide +kernel
theorem dX6_ifOverrun_99 : decode cX6_ifOverrun 99 = .ok (.getfield 240, 3) := by decide +kernel
theorem dX6_ifOverrun_102 : decode cX6_ifOverrun 102 = .ok (.iload_n 1, 1) := by decide +kernel
theorem dX6_ifOverrun_103 : decode cX6_ifOverrun 103 = .ok (.iaload, 1) := by decide +kernel
theorem dX6_ifOverrun_104 : decode cX6_ifOverrun 104 = .ok (.iload_n 3, 1) := by decide +kernel
theorem dX6_ifOverrun_105 : decode cX6_ifOverrun 105 = .ok (.invokevirtual 218, 3) := by decide +kernel
theorem dX6_ifOverrun_108 : decode cX6_ifOverrun 108 = .ok (.ireturn, 1) := by decide +kernel
theorem dX6_greatestOverrun_0 : decode cX6_greatestOverrun 0 = .ok (.aload_n 0, 1) := by decide +kernel
theorem dX6_greatestOverrun_1 : decode cX6_greatestOverrun 1 = .ok (.getfield 10, 3) := by decide +kernel
theorem dX6_greatestOverrun_4 : decode cX6_greatestOverrun 4 = .ok (.iload_n 1, 1) := by decide +kernel
theorem dX6_greatestOverrun_5 : decode cX6_greatestOverrun 5 = .ok (.invokevirtual 114, 3) := by decide +kernel
theorem dX6_greatestOverrun_8 : decode cX6_greatestOverrun 8 = .ok (.ifCond .ne 13, 3) := by decide +kernel
theorem dX6_greatestOverrun_11 : decode cX6_greatestOverrun 11 = .ok (.new 55, 3) := by decide +kernel
theorem dX6_greatestOverrun_14 : decode cX6_greatestOverrun 14 = .ok (.dup, 1) := by decide +kernel
theorem dX6_greatestOverrun_15 : decode cX6_greatestOverrun 15 = .ok (.ldc 110, 2) := by decide +kernel
theorem dX6_greatestOverrun_17 : decode cX6_greatestOverrun 17 = .ok (.invokespecial 59, 3) := by decide +kernel
theorem dX6_greatestOverrun_20 : decode cX6_greatestOverrun 20 = .ok (.athrow, 1) := by decide +kernel
theorem dX6_greatestOverrun_21 : decode cX6_greatestOverrun 21 = .ok (.aload_n 0, 1) := by decide +kernel
theorem dX6_greatestOverrun_22 : decode cX6_greatestOverrun 22 = .ok (.getfield 10, 3) := by decide +kernel
theorem dX6_greatestOverrun_25 : decode cX6_greatestOverrun 25 = .ok (.getfield 124, 3) := by decide +kernel
theorem dX6_greatestOverrun_28 : decode cX6_greatestOverrun 28 = .ok (.iload_n 1, 1) := by decide +kernel
theorem dX6_greatestOverrun_29 : decode cX6_greatestOverrun 29 = .ok (.iaload, 1) := by decide +kernel
theorem dX6_greatestOverrun_30 : decode cX6_greatestOverrun 30 = .ok (.ifCond .eq 13, 3) := by decide +kernel
theorem dX6_greatestOverrun_33 : decode cX6_greatestOverrun 33 = .ok (.new 127, 3) := by decide +kernel
theorem dX6_greatestOverrun_36 : decode cX6_greatestOverrun 36 = .ok (.dup, 1) := by decide +kernel
theorem dX6_greatestOverrun_37 : decode cX6_greatestOverrun 37 = .ok (.ldc 129, 2) := by decide +kernel
theorem dX6_greatestOverrun_39 : decode cX6_greatestOverrun 39 = .ok (.invokespecial 131, 3) := by decide +kernel
theorem dX6_greatestOverrun_42 : decode cX6_greatestOverrun 42 = .ok (.athrow, 1) := by decide +kernel
theorem dX6_greatestOverrun_43 : decode cX6_greatestOverrun 43 = .ok (.aload_n 0, 1) := by decide +kernel
theorem dX6_greatestOverrun_44 : decode cX6_greatestOverrun 44 = .ok (.iload_n 1, 1) := by decide +kernel
theorem dX6_greatestOverrun_45 : decode cX6_greatestOverrun 45 = .ok (.invokevirtual 243, 3) := by decide +kernel
theorem dX6_greatestOverrun_48 : decode cX6_greatestOverrun 48 = .ok (.ireturn, 1) := by decide +kernel
theorem dX6_share_0 : decode cX6_share 0 = .ok (.aload_n 0, 1) := by decide +kernel
theorem dX6_share_1 : decode cX6_share 1 = .ok (.getfield 40, 3) := by decide +kernel
theorem dX6_share_4 : decode cX6_share 4 = .ok (.aload_n 0, 1) := by decide +kernel
theorem dX6_share_5 : decode cX6_share 5 = .ok (.getfield 10, 3) := by decide +kernel
theorem dX6_share_8 : decode cX6_share 8 = .ok (.invokevirtual 140, 3) := by decide +kernel
theorem dX6_share_11 : decode cX6_share 11 = .ok (.aload_n 0, 1) := by decide +kernel
theorem dX6_share_12 : decode cX6_share 12 = .ok (.invokevirtual 246, 3) := by decide +kernel
theorem dX6_share_15 : decode cX6_share 15 = .ok (.dreturn, 1) := by decide +kernel
theorem dX6_isWithin_0 : decode cX6_isWithin 0 = .ok (.iload_n 0, 1) := by decide +kernel
theorem dX6_isWithin_1 : decode cX6_isWithin 1 = .ok (.iload_n 1, 1) := by decide +kernel
theorem dX6_isWithin_2 : decode cX6_isWithin 2 = .ok (.if_icmp .lt 12, 3) := by decide +kernel
theorem dX6_isWithin_5 : decode cX6_isWithin 5 = .ok (.iload_n 0, 1) := by decide +kernel
theorem dX6_isWithin_6 : decode cX6_isWithin 6 = .ok (.iload_n 2, 1) := by decide +kernel
theorem dX6_isWithin_7 : decode cX6_isWithin 7 = .ok (.if_icmp .gt 7, 3) := by decide +kernel
theorem dX6_isWithin_10 : decode cX6_isWithin 10 = .ok (.iconst 1, 1) := by decide +kernel
theorem dX6_isWithin_11 : decode cX6_isWithin 11 = .ok (.goto 4, 3) := by decide +kernel
theorem dX6_isWithin_14 : decode cX6_isWithin 14 = .ok (.iconst 0, 1) := by decide +kernel
theorem dX6_isWithin_15 : decode cX6_isWithin 15 = .ok (.ireturn, 1) := by decide +kernel
theorem dX6_minutesInHour_0 : decode cX6_minutesInHour 0 = .ok (.iload_n 0, 1) := by decide +kernel
theorem dX6_minutesInHour_1 : decode cX6_minutesInHour 1 = .ok (.bipush 60, 2) := by decide +kernel
theorem dX6_minutesInHour_3 : decode cX6_minutesInHour 3 = .ok (.iload_n 2, 1) := by decide +kernel
theorem dX6_minutesInHour_4 : decode cX6_minutesInHour 4 = .ok (.imul, 1) := by decide +kernel
theorem dX6_minutesInHour_5 : decode cX6_minutesInHour 5 = .ok (.invokestatic 273, 3) := by decide +kernel
theorem dX6_minutesInHour_8 : decode cX6_minutesInHour 8 = .ok (.istore_n 3, 1) := by decide +kernel
theorem dX6_minutesInHour_9 : decode cX6_minutesInHour 9 = .ok (.iload_n 0, 1) := by decide +kernel
theorem dX6_minutesInHour_10 : decode cX6_minutesInHour 10 = .ok (.iload_n 1, 1) := by decide +kernel
theorem dX6_minutesInHour_11 : decode cX6_minutesInHour 11 = .ok (.iadd, 1) := by decide +kernel
theorem dX6_minutesInHour_12 : decode cX6_minutesInHour 12 = .ok (.bipush 60, 2) := by decide +kernel
theorem dX6_minutesInHour_14 : decode cX6_minutesInHour 14 = .ok (.iload_n 2, 1) := by decide +kernel
theorem dX6_minutesInHour_15 : decode cX6_minutesInHour 15 = .ok (.iconst 1, 1) := by decide +kernel
theorem dX6_minutesInHour_16 : decode cX6_minutesInHour 16 = .ok (.iadd, 1) := by decide +kernel
theorem dX6_minutesInHour_17 : decode cX6_minutesInHour 17 = .ok (.imul, 1) := by decide +kernel
theorem dX6_minutesInHour_18 : decode cX6_minutesInHour 18 = .ok (.invokestatic 278, 3) := by decide +kernel
theorem dX6_minutesInHour_21 : decode cX6_minutesInHour 21 = .ok (.istore 4, 2) := by decide +kernel
theorem dX6_minutesInHour_23 : decode cX6_minutesInHour 23 = .ok (.iconst 0, 1) := by decide +kernel
theorem dX6_minutesInHour_24 : decode cX6_minutesInHour 24 = .ok (.iload 4, 2) := by decide +kernel
theorem dX6_minutesInHour_26 : decode cX6_minutesInHour 26 = .ok (.iload_n 3, 1) := by decide +kernel
theorem dX6_minutesInHour_27 : decode cX6_minutesInHour 27 = .ok (.isub, 1) := by decide +kernel
theorem dX6_minutesInHour_28 : decode cX6_minutesInHour 28 = .ok (.invokestatic 273, 3) := by decide +kernel
theorem dX6_minutesInHour_31 : decode cX6_minutesInHour 31 = .ok (.ireturn, 1) := by decide +kernel
theorem dX6_enterProposal_0 : decode cX6_enterProposal 0 = .ok (.aload_n 0, 1) := by decide +kernel
theorem dX6_enterProposal_1 : decode cX6_enterProposal 1 = .ok (.aload_n 0, 1) := by decide +kernel
theorem dX6_enterProposal_2 : decode cX6_enterProposal 2 = .ok (.getfield 10, 3) := by decide +kernel
theorem dX6_enterProposal_5 : decode cX6_enterProposal 5 = .ok (.aload_n 0, 1) := by decide +kernel
theorem dX6_enterProposal_6 : decode cX6_enterProposal 6 = .ok (.getfield 33, 3) := by decide +kernel
theorem dX6_enterProposal_9 : decode cX6_enterProposal 9 = .ok (.invokevirtual 224, 3) := by decide +kernel
theorem dX6_enterProposal_12 : decode cX6_enterProposal 12 = .ok (.putfield 47, 3) := by decide +kernel
theorem dX6_enterProposal_15 : decode cX6_enterProposal 15 = .ok (.aload_n 0, 1) := by decide +kernel
theorem dX6_enterProposal_16 : decode cX6_enterProposal 16 = .ok (.getfield 47, 3) := by decide +kernel
theorem dX6_enterProposal_19 : decode cX6_enterProposal 19 = .ok (.ifCond .eq 14, 3) := by decide +kernel
theorem dX6_enterProposal_22 : decode cX6_enterProposal 22 = .ok (.new 127, 3) := by decide +kernel
theorem dX6_enterProposal_25 : decode cX6_enterProposal 25 = .ok (.dup, 1) := by decide +kernel
theorem dX6_enterProposal_26 : decode cX6_enterProposal 26 = .ok (.ldc_w 281, 3) := by decide +kernel
theorem dX6_enterProposal_29 : decode cX6_enterProposal 29 = .ok (.invokespecial 131, 3) := by decide +kernel
theorem dX6_enterProposal_32 : decode cX6_enterProposal 32 = .ok (.athrow, 1) := by decide +kernel
theorem dX6_enterProposal_33 : decode cX6_enterProposal 33 = .ok (.aload_n 0, 1) := by decide +kernel
theorem dX6_enterProposal_34 : decode cX6_enterProposal 34 = .ok (.getfield 19, 3) := by decide +kernel
theorem dX6_enterProposal_37 : decode cX6_enterProposal 37 = .ok (.aload_n 0, 1) := by decide +kernel
theorem dX6_enterProposal_38 : decode cX6_enterProposal 38 = .ok (.getfield 10, 3) := by decide +kernel
theorem dX6_enterProposal_41 : decode cX6_enterProposal 41 = .ok (.invokevirtual 74, 3) := by decide +kernel
theorem dX6_enterProposal_44 : decode cX6_enterProposal 44 = .ok (.aload_n 0, 1) := by decide +kernel
theorem dX6_enterProposal_45 : decode cX6_enterProposal 45 = .ok (.getfield 10, 3) := by decide +kernel
theorem dX6_enterProposal_48 : decode cX6_enterProposal 48 = .ok (.aload_n 0, 1) := by decide +kernel
theorem dX6_enterProposal_49 : decode cX6_enterProposal 49 = .ok (.getfield 33, 3) := by decide +kernel
theorem dX6_enterProposal_52 : decode cX6_enterProposal 52 = .ok (.invokevirtual 182, 3) := by decide +kernel
theorem dX6_enterProposal_55 : decode cX6_enterProposal 55 = .ok (.ireturn, 1) := by decide +kernel
theorem dX6_showProperty_0 : decode cX6_showProperty 0 = .ok (.iload_n 2, 1) := by decide +kernel
theorem dX6_showProperty_1 : decode cX6_showProperty 1 = .ok (.tableswitch 169 0 10 #[59, 69, 79, 89, 99, 109, 119, 129, 139, 149, 159], 59) := by decide +kernel
theorem dX6_showProperty_60 : decode cX6_showProperty 60 = .ok (.aload_n 0, 1) := by decide +kernel
theorem dX6_showProperty_61 : decode cX6_showProperty 61 = .ok (.getfield 10, 3) := by decide +kernel
theorem dX6_showProperty_64 : decode cX6_showProperty 64 = .ok (.getfield 124, 3) := by decide +kernel
theorem dX6_showProperty_67 : decode cX6_showProperty 67 = .ok (.iload_n 1, 1) := by decide +kernel
theorem dX6_showProperty_68 : decode cX6_showProperty 68 = .ok (.iaload, 1) := by decide +kernel
theorem dX6_showProperty_69 : decode cX6_showProperty 69 = .ok (.ireturn, 1) := by decide +kernel
theorem dX6_showProperty_70 : decode cX6_showProperty 70 = .ok (.aload_n 0, 1) := by decide +kernel
theorem dX6_showProperty_71 : decode cX6_showProperty 71 = .ok (.getfield 10, 3) := by decide +kernel
theorem dX6_showProperty_74 : decode cX6_showProperty 74 = .ok (.getfield 286, 3) := by decide +kernel
theorem dX6_showProperty_77 : decode cX6_showProperty 77 = .ok (.iload_n 1, 1) := by decide +kernel
theorem dX6_showProperty_78 : decode cX6_showProperty 78 = .ok (.iaload, 1) := by decide +kernel
theorem dX6_showProperty_79 : decode cX6_showProperty 79 = .ok (.ireturn, 1) := by decide +kernel
theorem dX6_showProperty_80 : decode cX6_showProperty 80 = .ok (.aload_n 0, 1) := by decide +kernel
theorem dX6_showProperty_81 : decode cX6_showProperty 81 = .ok (.getfield 10, 3) := by decide +kernel
theorem dX6_showProperty_84 : decode cX6_showProperty 84 = .ok (.getfield 240, 3) := by decide +kernel
theorem dX6_showProperty_87 : decode cX6_showProperty 87 = .ok (.iload_n 1, 1) := by decide +kernel
theorem dX6_showProperty_88 : decode cX6_showProperty 88 = .ok (.iaload, 1) := by decide +kernel
theorem dX6_showProperty_89 : decode cX6_showProperty 89 = .ok (.ireturn, 1) := by decide +kernel
theorem dX6_showProperty_90 : decode cX6_showProperty 90 = .ok (.aload_n 0, 1) := by decide +kernel
theorem dX6_showProperty_91 : decode cX6_showProperty 91 = .ok (.getfield 10, 3) := by decide +kernel
theorem dX6_showProperty_94 : decode cX6_showProperty 94 = .ok (.getfield 289, 3) := by decide +kernel
theorem dX6_showProperty_97 : decode cX6_showProperty 97 = .ok (.iload_n 1, 1) := by decide +kernel
theorem dX6_showProperty_98 : decode cX6_showProperty 98 = .ok (.iaload, 1) := by decide +kernel
theorem dX6_showProperty_99 : decode cX6_showProperty 99 = .ok (.ireturn, 1) := by decide +kernel
theorem dX6_showProperty_100 : decode cX6_showProperty 100 = .ok (.aload_n 0, 1) := by decide +kernel
theorem dX6_showProperty_101 : decode cX6_showProperty 101 = .ok (.getfield 10, 3) := by decide +kernel
theorem dX6_showProperty_104 : decode cX6_showProperty 104 = .ok (.getfield 292, 3) := by decide +kernel
theorem dX6_showProperty_107 : decode cX6_showProperty 107 = .ok (.iload_n 1, 1) := by decide +kernel
theorem dX6_showProperty_108 : decode cX6_showProperty 108 = .ok (.iaload, 1) := by decide +kernel
theorem dX6_showProperty_109 : decode cX6_showProperty 109 = .ok (.ireturn, 1) := by decide +kernel
theorem dX6_showProperty_110 : decode cX6_showProperty 110 = .ok (.aload_n 0, 1) := by decide +kernel
theorem dX6_showProperty_111 : decode cX6_showProperty 111 = .ok (.getfield 10, 3) := by decide +kernel
theorem dX6_showProperty_114 : decode cX6_showProperty 114 = .ok (.getfield 295, 3) := by decide +kernel
theorem dX6_showProperty_117 : decode cX6_showProperty 117 = .ok (.iload_n 1, 1) := by decide +kernel
theorem dX6_showProperty_118 : decode cX6_showProperty 118 = .ok (.iaload, 1) := by decide +kernel
theorem dX6_showProperty_119 : decode cX6_showProperty 119 = .ok (.ireturn, 1) := by decide +kernel
theorem dX6_showProperty_120 : decode cX6_showProperty 120 = .ok (.aload_n 0, 1) := by decide +kernel
theorem dX6_showProperty_121 : decode cX6_showProperty 121 = .ok (.getfield 10, 3) := by decide +kernel
theorem dX6_showProperty_124 : decode cX6_showProperty 124 = .ok (.getfield 132, 3) := by decide +kernel
theorem dX6_showProperty_127 : decode cX6_showProperty 127 = .ok (.iload_n 1, 1) := by decide +kernel
theorem dX6_showProperty_128 : decode cX6_showProperty 128 = .ok (.iaload, 1) := by decide +kernel
theorem dX6_showProperty_129 : decode cX6_showProperty 129 = .ok (.ireturn, 1) := by decide +kernel
theorem dX6_showProperty_130 : decode cX6_showProperty 130 = .ok (.aload_n 0, 1) := by decide +kernel
theorem dX6_showProperty_131 : decode cX6_showProperty 131 = .ok (.getfield 10, 3) := by decide +kernel
theorem dX6_showProperty_134 : decode cX6_showProperty 134 = .ok (.getfield 298, 3) := by decide +kernel
theorem dX6_showProperty_137 : decode cX6_showProperty 137 = .ok (.iload_n 1, 1) := by decide +kernel
theorem dX6_showProperty_138 : decode cX6_showProperty 138 = .ok (.iaload, 1) := by decide +kernel
theorem dX6_showProperty_139 : decode cX6_showProperty 139 = .ok (.ireturn, 1) := by decide +kernel
theorem dX6_showProperty_140 : decode cX6_showProperty 140 = .ok (.aload_n 0, 1) := by decide +kernel
theorem dX6_showProperty_141 : decode cX6_showProperty 141 = .ok (.getfield 40, 3) := by decide +kernel
theorem dX6_showProperty_144 : decode cX6_showProperty 144 = .ok (.getfield 301, 3) := by decide +kernel
theorem dX6_showProperty_147 : decode cX6_showProperty 147 = .ok (.iload_n 1, 1) := by decide +kernel
theorem dX6_showProperty_148 : decode cX6_showProperty 148 = .ok (.iaload, 1) := by decide +kernel
theorem dX6_showProperty_149 : decode cX6_showProperty 149 = .ok (.ireturn, 1) := by decide +kernel
theorem dX6_showProperty_150 : decode cX6_showProperty 150 = .ok (.aload_n 0, 1) := by decide +kernel
theorem dX6_showProperty_151 : decode cX6_showProperty 151 = .ok (.getfield 40, 3) := by decide +kernel
theorem dX6_showProperty_154 : decode cX6_showProperty 154 = .ok (.getfield 302, 3) := by decide +kernel
theorem dX6_showProperty_157 : decode cX6_showProperty 157 = .ok (.iload_n 1, 1) := by decide +kernel
theorem dX6_showProperty_158 : decode cX6_showProperty 158 = .ok (.iaload, 1) := by decide +kernel
theorem dX6_showProperty_159 : decode cX6_showProperty 159 = .ok (.ireturn, 1) := by decide +kernel
theorem dX6_showProperty_160 : decode cX6_showProperty 160 = .ok (.aload_n 0, 1) := by decide +kernel
theorem dX6_showProperty_161 : decode cX6_showProperty 161 = .ok (.getfield 40, 3) := by decide +kernel
theorem dX6_showProperty_164 : decode cX6_showProperty 164 = .ok (.getfield 305, 3) := by decide +kernel
theorem dX6_showProperty_167 : decode cX6_showProperty 167 = .ok (.iload_n 1, 1) := by decide +kernel
theorem dX6_showProperty_168 : decode cX6_showProperty 168 = .ok (.iaload, 1) := by decide +kernel
theorem dX6_showProperty_169 : decode cX6_showProperty 169 = .ok (.ireturn, 1) := by decide +kernel
theorem dX6_showProperty_170 : decode cX6_showProperty 170 = .ok (.aload_n 0, 1) := by decide +kernel
theorem dX6_showProperty_171 : decode cX6_showProperty 171 = .ok (.getfield 40, 3) := by decide +kernel
theorem dX6_showProperty_174 : decode cX6_showProperty 174 = .ok (.iload_n 1, 1) := by decide +kernel
theorem dX6_showProperty_175 : decode cX6_showProperty 175 = .ok (.invokevirtual 308, 3) := by decide +kernel
theorem dX6_showProperty_178 : decode cX6_showProperty 178 = .ok (.ireturn, 1) := by decide +kernel
theorem dX6_groupProperty_0 : decode cX6_groupProperty 0 = .ok (.iload_n 2, 1) := by decide +kernel
theorem dX6_groupProperty_1 : decode cX6_groupProperty 1 = .ok (.tableswitch 127 0 7 #[47, 57, 67, 76, 85, 98, 107, 117], 47) := by decide +kernel
theorem dX6_groupProperty_48 : decode cX6_groupProperty 48 = .ok (.aload_n 0, 1) := by decide +kernel
theorem dX6_groupProperty_49 : decode cX6_groupProperty 49 = .ok (.getfield 10, 3) := by decide +kernel
theorem dX6_groupProperty_52 : decode cX6_groupProperty 52 = .ok (.getfield 85, 3) := by decide +kernel
theorem dX6_groupProperty_55 : decode cX6_groupProperty 55 = .ok (.iload_n 1, 1) := by decide +kernel
theorem dX6_groupProperty_56 : decode cX6_groupProperty 56 = .ok (.iaload, 1) := by decide +kernel
theorem dX6_groupProperty_57 : decode cX6_groupProperty 57 = .ok (.ireturn, 1) := by decide +kernel
theorem dX6_groupProperty_58 : decode cX6_groupProperty 58 = .ok (.aload_n 0, 1) := by decide +kernel
theorem dX6_groupProperty_59 : decode cX6_groupProperty 59 = .ok (.getfield 10, 3) := by decide +kernel
theorem dX6_groupProperty_62 : decode cX6_groupProperty 62 = .ok (.getfield 311, 3) := by decide +kernel
theorem dX6_groupProperty_65 : decode cX6_groupProperty 65 = .ok (.iload_n 1, 1) := by decide +kernel
theorem dX6_groupProperty_66 : decode cX6_groupProperty 66 = .ok (.iaload, 1) := by decide +kernel
theorem dX6_groupProperty_67 : decode cX6_groupProperty 67 = .ok (.ireturn, 1) := by decide +kernel
theorem dX6_groupProperty_68 : decode cX6_groupProperty 68 = .ok (.aload_n 0, 1) := by decide +kernel
theorem dX6_groupProperty_69 : decode cX6_groupProperty 69 = .ok (.getfield 10, 3) := by decide +kernel
theorem dX6_groupProperty_72 : decode cX6_groupProperty 72 = .ok (.iload_n 1, 1) := by decide +kernel
theorem dX6_groupProperty_73 : decode cX6_groupProperty 73 = .ok (.invokevirtual 314, 3) := by decide +kernel
theorem dX6_groupProperty_76 : decode cX6_groupProperty 76 = .ok (.ireturn, 1) := by decide +kernel
theorem dX6_groupProperty_77 : decode cX6_groupProperty 77 = .ok (.aload_n 0, 1) := by decide +kernel
theorem dX6_groupProperty_78 : decode cX6_groupProperty 78 = .ok (.getfield 10, 3) := by decide +kernel
theorem dX6_groupProperty_81 : decode cX6_groupProperty 81 = .ok (.iload_n 1, 1) := by decide +kernel
theorem dX6_groupProperty_82 : decode cX6_groupProperty 82 = .ok (.invokevirtual 317, 3) := by decide +kernel
theorem dX6_groupProperty_85 : decode cX6_groupProperty 85 = .ok (.ireturn, 1) := by decide +kernel
theorem dX6_groupProperty_86 : decode cX6_groupProperty 86 = .ok (.aload_n 0, 1) := by decide +kernel
theorem dX6_groupProperty_87 : decode cX6_groupProperty 87 = .ok (.getfield 40, 3) := by decide +kernel
theorem dX6_groupProperty_90 : decode cX6_groupProperty 90 = .ok (.aload_n 0, 1) := by decide +kernel
theorem dX6_groupProperty_91 : decode cX6_groupProperty 91 = .ok (.getfield 10, 3) := by decide +kernel
theorem dX6_groupProperty_94 : decode cX6_groupProperty 94 = .ok (.iload_n 1, 1) := by decide +kernel
theorem dX6_groupProperty_95 : decode cX6_groupProperty 95 = .ok (.invokevirtual 143, 3) := by decide +kernel
theorem dX6_groupProperty_98 : decode cX6_groupProperty 98 = .ok (.ireturn, 1) := by decide +kernel
theorem dX6_groupProperty_99 : decode cX6_groupProperty 99 = .ok (.aload_n 0, 1) := by decide +kernel
theorem dX6_groupProperty_100 : decode cX6_groupProperty 100 = .ok (.getfield 10, 3) := by decide +kernel
theorem dX6_groupProperty_103 : decode cX6_groupProperty 103 = .ok (.iload_n 1, 1) := by decide +kernel
theorem dX6_groupProperty_104 : decode cX6_groupProperty 104 = .ok (.invokevirtual 320, 3) := by decide +kernel
theorem dX6_groupProperty_107 : decode cX6_groupProperty 107 = .ok (.ireturn, 1) := by decide +kernel
theorem dX6_groupProperty_108 : decode cX6_groupProperty 108 = .ok (.aload_n 0, 1) := by decide +kernel
theorem dX6_groupProperty_109 : decode cX6_groupProperty 109 = .ok (.getfield 10, 3) := by decide +kernel
theorem dX6_groupProperty_112 : decode cX6_groupProperty 112 = .ok (.getfield 323, 3) := by decide +kernel
theorem dX6_groupProperty_115 : decode cX6_groupProperty 115 = .ok (.iload_n 1, 1) := by decide +kernel
theorem dX6_groupProperty_116 : decode cX6_groupProperty 116 = .ok (.iaload, 1) := by decide +kernel
theorem dX6_groupProperty_117 : decode cX6_groupProperty 117 = .ok (.ireturn, 1) := by decide +kernel
theorem dX6_groupProperty_118 : decode cX6_groupProperty 118 = .ok (.aload_n 0, 1) := by decide +kernel
theorem dX6_groupProperty_119 : decode cX6_groupProperty 119 = .ok (.getfield 10, 3) := by decide +kernel
theorem dX6_groupProperty_122 : decode cX6_groupProperty 122 = .ok (.getfield 326, 3) := by decide +kernel
theorem dX6_groupProperty_125 : decode cX6_groupProperty 125 = .ok (.iload_n 1, 1) := by decide +kernel
theorem dX6_groupProperty_126 : decode cX6_groupProperty 126 = .ok (.iaload, 1) := by decide +kernel
theorem dX6_groupProperty_127 : decode cX6_groupProperty 127 = .ok (.ireturn, 1) := by decide +kernel
theorem dX6_groupProperty_128 : decode cX6_groupProperty 128 = .ok (.aload_n 0, 1) := by decide +kernel
theorem dX6_groupProperty_129 : decode cX6_groupProperty 129 = .ok (.getfield 10, 3) := by decide +kernel
theorem dX6_groupProperty_132 : decode cX6_groupProperty 132 = .ok (.getfield 329, 3) := by decide +kernel
theorem dX6_groupProperty_135 : decode cX6_groupProperty 135 = .ok (.iload_n 1, 1) := by decide +kernel
theorem dX6_groupProperty_136 : decode cX6_groupProperty 136 = .ok (.iaload, 1) := by decide +kernel
theorem dX6_groupProperty_137 : decode cX6_groupProperty 137 = .ok (.ireturn, 1) := by decide +kernel
theorem dX6_countOf_0 : decode cX6_countOf 0 = .ok (.iload_n 1, 1) := by decide +kernel
theorem dX6_countOf_1 : decode cX6_countOf 1 = .ok (.tableswitch 109 0 6 #[43, 51, 59, 68, 77, 89, 101], 43) := by decide +kernel
theorem dX6_countOf_44 : decode cX6_countOf 44 = .ok (.aload_n 0, 1) := by decide +kernel
theorem dX6_countOf_45 : decode cX6_countOf 45 = .ok (.getfield 10, 3) := by decide +kernel
theorem dX6_countOf_48 : decode cX6_countOf 48 = .ok (.getfield 135, 3) := by decide +kernel
theorem dX6_countOf_51 : decode cX6_countOf 51 = .ok (.ireturn, 1) := by decide +kernel
theorem dX6_countOf_52 : decode cX6_countOf 52 = .ok (.aload_n 0, 1) := by decide +kernel
theorem dX6_countOf_53 : decode cX6_countOf 53 = .ok (.getfield 10, 3) := by decide +kernel
theorem dX6_countOf_56 : decode cX6_countOf 56 = .ok (.getfield 257, 3) := by decide +kernel
theorem dX6_countOf_59 : decode cX6_countOf 59 = .ok (.ireturn, 1) := by decide +kernel
theorem dX6_countOf_60 : decode cX6_countOf 60 = .ok (.aload_n 0, 1) := by decide +kernel
theorem dX6_countOf_61 : decode cX6_countOf 61 = .ok (.getfield 10, 3) := by decide +kernel
theorem dX6_countOf_64 : decode cX6_countOf 64 = .ok (.iconst 0, 1) := by decide +kernel
theorem dX6_countOf_65 : decode cX6_countOf 65 = .ok (.invokevirtual 332, 3) := by decide +kernel
theorem dX6_countOf_68 : decode cX6_countOf 68 = .ok (.ireturn, 1) := by decide +kernel
theorem dX6_countOf_69 : decode cX6_countOf 69 = .ok (.aload_n 0, 1) := by decide +kernel
theorem dX6_countOf_70 : decode cX6_countOf 70 = .ok (.getfield 10, 3) := by decide +kernel
theorem dX6_countOf_73 : decode cX6_countOf 73 = .ok (.iconst 2, 1) := by decide +kernel
theorem dX6_countOf_74 : decode cX6_countOf 74 = .ok (.invokevirtual 332, 3) := by decide +kernel
theorem dX6_countOf_77 : decode cX6_countOf 77 = .ok (.ireturn, 1) := by decide +kernel
theorem dX6_countOf_78 : decode cX6_countOf 78 = .ok (.aload_n 0, 1) := by decide +kernel
theorem dX6_countOf_79 : decode cX6_countOf 79 = .ok (.getfield 40, 3) := by decide +kernel
theorem dX6_countOf_82 : decode cX6_countOf 82 = .ok (.aload_n 0, 1) := by decide +kernel
theorem dX6_countOf_83 : decode cX6_countOf 83 = .ok (.getfield 10, 3) := by decide +kernel
theorem dX6_countOf_86 : decode cX6_countOf 86 = .ok (.invokevirtual 335, 3) := by decide +kernel
theorem dX6_countOf_89 : decode cX6_countOf 89 = .ok (.ireturn, 1) := by decide +kernel
theorem dX6_countOf_90 : decode cX6_countOf 90 = .ok (.aload_n 0, 1) := by decide +kernel
theorem dX6_countOf_91 : decode cX6_countOf 91 = .ok (.getfield 40, 3) := by decide +kernel
theorem dX6_countOf_94 : decode cX6_countOf 94 = .ok (.aload_n 0, 1) := by decide +kernel
theorem dX6_countOf_95 : decode cX6_countOf 95 = .ok (.getfield 10, 3) := by decide +kernel
theorem dX6_countOf_98 : decode cX6_countOf 98 = .ok (.invokevirtual 339, 3) := by decide +kernel
theorem dX6_countOf_101 : decode cX6_countOf 101 = .ok (.ireturn, 1) := by decide +kernel
theorem dX6_countOf_102 : decode cX6_countOf 102 = .ok (.aload_n 0, 1) := by decide +kernel
theorem dX6_countOf_103 : decode cX6_countOf 103 = .ok (.getfield 19, 3) := by decide +kernel
theorem dX6_countOf_106 : decode cX6_countOf 106 = .ok (.getfield 186, 3) := by decide +kernel
theorem dX6_countOf_109 : decode cX6_countOf 109 = .ok (.ireturn, 1) := by decide +kernel
theorem dX6_countOf_110 : decode cX6_countOf 110 = .ok (.aload_n 0, 1) := by decide +kernel
theorem dX6_countOf_111 : decode cX6_countOf 111 = .ok (.getfield 40, 3) := by decide +kernel
theorem dX6_countOf_114 : decode cX6_countOf 114 = .ok (.aload_n 0, 1) := by decide +kernel
theorem dX6_countOf_115 : decode cX6_countOf 115 = .ok (.getfield 10, 3) := by decide +kernel
theorem dX6_countOf_118 : decode cX6_countOf 118 = .ok (.invokevirtual 342, 3) := by decide +kernel
theorem dX6_countOf_121 : decode cX6_countOf 121 = .ok (.ireturn, 1) := by decide +kernel
theorem dX6_greatestHarmlessOverrun_0 : decode cX6_greatestHarmlessOverrun 0 = .ok (.aload_n 0, 1) := by decide +kernel
theorem dX6_greatestHarmlessOverrun_1 : decode cX6_greatestHarmlessOverrun 1 = .ok (.iload_n 1, 1) := by decide +kernel
theorem dX6_greatestHarmlessOverrun_2 : decode cX6_greatestHarmlessOverrun 2 = .ok (.bipush (-60), 2) := by decide +kernel
theorem dX6_greatestHarmlessOverrun_4 : decode cX6_greatestHarmlessOverrun 4 = .ok (.invokevirtual 345, 3) := by decide +kernel
theorem dX6_greatestHarmlessOverrun_7 : decode cX6_greatestHarmlessOverrun 7 = .ok (.ifCond .ne 6, 3) := by decide +kernel
theorem dX6_greatestHarmlessOverrun_10 : decode cX6_greatestHarmlessOverrun 10 = .ok (.bipush (-101), 2) := by decide +kernel
theorem dX6_greatestHarmlessOverrun_12 : decode cX6_greatestHarmlessOverrun 12 = .ok (.ireturn, 1) := by decide +kernel
theorem dX6_greatestHarmlessOverrun_13 : decode cX6_greatestHarmlessOverrun 13 = .ok (.bipush (-60), 2) := by decide +kernel
theorem dX6_greatestHarmlessOverrun_15 : decode cX6_greatestHarmlessOverrun 15 = .ok (.istore_n 2, 1) := by decide +kernel
theorem dX6_greatestHarmlessOverrun_16 : decode cX6_greatestHarmlessOverrun 16 = .ok (.bipush 121, 2) := by decide +kernel
theorem dX6_greatestHarmlessOverrun_18 : decode cX6_greatestHarmlessOverrun 18 = .ok (.istore_n 3, 1) := by decide +kernel
theorem dX6_greatestHarmlessOverrun_19 : decode cX6_greatestHarmlessOverrun 19 = .ok (.iconst 0, 1) := by decide +kernel
theorem dX6_greatestHarmlessOverrun_20 : decode cX6_greatestHarmlessOverrun 20 = .ok (.istore 4, 2) := by decide +kernel
theorem dX6_greatestHarmlessOverrun_22 : decode cX6_greatestHarmlessOverrun 22 = .ok (.iload 4, 2) := by decide +kernel
theorem dX6_greatestHarmlessOverrun_24 : decode cX6_greatestHarmlessOverrun 24 = .ok (.bipush 8, 2) := by decide +kernel
theorem dX6_greatestHarmlessOverrun_26 : decode cX6_greatestHarmlessOverrun 26 = .ok (.if_icmp .ge 44, 3) := by decide +kernel
theorem dX6_greatestHarmlessOverrun_29 : decode cX6_greatestHarmlessOverrun 29 = .ok (.iload_n 3, 1) := by decide +kernel
theorem dX6_greatestHarmlessOverrun_30 : decode cX6_greatestHarmlessOverrun 30 = .ok (.iload_n 2, 1) := by decide +kernel
theorem dX6_greatestHarmlessOverrun_31 : decode cX6_greatestHarmlessOverrun 31 = .ok (.isub, 1) := by decide +kernel
theorem dX6_greatestHarmlessOverrun_32 : decode cX6_greatestHarmlessOverrun 32 = .ok (.iconst 1, 1) := by decide +kernel
theorem dX6_greatestHarmlessOverrun_33 : decode cX6_greatestHarmlessOverrun 33 = .ok (.if_icmp .le 37, 3) := by decide +kernel
theorem dX6_greatestHarmlessOverrun_36 : decode cX6_greatestHarmlessOverrun 36 = .ok (.iload_n 2, 1) := by decide +kernel
theorem dX6_greatestHarmlessOverrun_37 : decode cX6_greatestHarmlessOverrun 37 = .ok (.iload_n 3, 1) := by decide +kernel
theorem dX6_greatestHarmlessOverrun_38 : decode cX6_greatestHarmlessOverrun 38 = .ok (.iload_n 2, 1) := by decide +kernel
theorem dX6_greatestHarmlessOverrun_39 : decode cX6_greatestHarmlessOverrun 39 = .ok (.isub, 1) := by decide +kernel
theorem dX6_greatestHarmlessOverrun_40 : decode cX6_greatestHarmlessOverrun 40 = .ok (.iconst 2, 1) := by decide +kernel
theorem dX6_greatestHarmlessOverrun_41 : decode cX6_greatestHarmlessOverrun 41 = .ok (.idiv, 1) := by decide +kernel
theorem dX6_greatestHarmlessOverrun_42 : decode cX6_greatestHarmlessOverrun 42 = .ok (.iadd, 1) := by decide +kernel
theorem dX6_greatestHarmlessOverrun_43 : decode cX6_greatestHarmlessOverrun 43 = .ok (.istore 5, 2) := by decide +kernel
theorem dX6_greatestHarmlessOverrun_45 : decode cX6_greatestHarmlessOverrun 45 = .ok (.aload_n 0, 1) := by decide +kernel
theorem dX6_greatestHarmlessOverrun_46 : decode cX6_greatestHarmlessOverrun 46 = .ok (.iload_n 1, 1) := by decide +kernel
theorem dX6_greatestHarmlessOverrun_47 : decode cX6_greatestHarmlessOverrun 47 = .ok (.iload 5, 2) := by decide +kernel
theorem dX6_greatestHarmlessOverrun_49 : decode cX6_greatestHarmlessOverrun 49 = .ok (.invokevirtual 345, 3) := by decide +kernel
theorem dX6_greatestHarmlessOverrun_52 : decode cX6_greatestHarmlessOverrun 52 = .ok (.ifCond .eq 9, 3) := by decide +kernel
theorem dX6_greatestHarmlessOverrun_55 : decode cX6_greatestHarmlessOverrun 55 = .ok (.iload 5, 2) := by decide +kernel
theorem dX6_greatestHarmlessOverrun_57 : decode cX6_greatestHarmlessOverrun 57 = .ok (.istore_n 2, 1) := by decide +kernel
theorem dX6_greatestHarmlessOverrun_58 : decode cX6_greatestHarmlessOverrun 58 = .ok (.goto 6, 3) := by decide +kernel
theorem dX6_greatestHarmlessOverrun_61 : decode cX6_greatestHarmlessOverrun 61 = .ok (.iload 5, 2) := by decide +kernel
theorem dX6_greatestHarmlessOverrun_63 : decode cX6_greatestHarmlessOverrun 63 = .ok (.istore_n 3, 1) := by decide +kernel
theorem dX6_greatestHarmlessOverrun_64 : decode cX6_greatestHarmlessOverrun 64 = .ok (.iinc 4 1, 3) := by decide +kernel
theorem dX6_greatestHarmlessOverrun_67 : decode cX6_greatestHarmlessOverrun 67 = .ok (.goto (-45), 3) := by decide +kernel
theorem dX6_greatestHarmlessOverrun_70 : decode cX6_greatestHarmlessOverrun 70 = .ok (.iload_n 2, 1) := by decide +kernel
theorem dX6_greatestHarmlessOverrun_71 : decode cX6_greatestHarmlessOverrun 71 = .ok (.ireturn, 1) := by decide +kernel
theorem dX6_isHarmless_0 : decode cX6_isHarmless 0 = .ok (.aload_n 0, 1) := by decide +kernel
theorem dX6_isHarmless_1 : decode cX6_isHarmless 1 = .ok (.getfield 44, 3) := by decide +kernel
theorem dX6_isHarmless_4 : decode cX6_isHarmless 4 = .ok (.aload_n 0, 1) := by decide +kernel
theorem dX6_isHarmless_5 : decode cX6_isHarmless 5 = .ok (.getfield 10, 3) := by decide +kernel
theorem dX6_isHarmless_8 : decode cX6_isHarmless 8 = .ok (.iload_n 1, 1) := by decide +kernel
theorem dX6_isHarmless_9 : decode cX6_isHarmless 9 = .ok (.iload_n 2, 1) := by decide +kernel
theorem dX6_isHarmless_10 : decode cX6_isHarmless 10 = .ok (.invokevirtual 236, 3) := by decide +kernel
theorem dX6_isHarmless_13 : decode cX6_isHarmless 13 = .ok (.iconst 0, 1) := by decide +kernel
theorem dX6_isHarmless_14 : decode cX6_isHarmless 14 = .ok (.istore_n 3, 1) := by decide +kernel
theorem dX6_isHarmless_15 : decode cX6_isHarmless 15 = .ok (.iload_n 3, 1) := by decide +kernel
theorem dX6_isHarmless_16 : decode cX6_isHarmless 16 = .ok (.aload_n 0, 1) := by decide +kernel
theorem dX6_isHarmless_17 : decode cX6_isHarmless 17 = .ok (.getfield 10, 3) := by decide +kernel
theorem dX6_isHarmless_20 : decode cX6_isHarmless 20 = .ok (.getfield 257, 3) := by decide +kernel
theorem dX6_isHarmless_23 : decode cX6_isHarmless 23 = .ok (.if_icmp .ge 48, 3) := by decide +kernel
theorem dX6_isHarmless_26 : decode cX6_isHarmless 26 = .ok (.iload_n 3, 1) := by decide +kernel
theorem dX6_isHarmless_27 : decode cX6_isHarmless 27 = .ok (.iload_n 1, 1) := by decide +kernel
theorem dX6_isHarmless_28 : decode cX6_isHarmless 28 = .ok (.if_icmp .eq 37, 3) := by decide +kernel
theorem dX6_isHarmless_31 : decode cX6_isHarmless 31 = .ok (.aload_n 0, 1) := by decide +kernel
theorem dX6_isHarmless_32 : decode cX6_isHarmless 32 = .ok (.getfield 10, 3) := by decide +kernel
theorem dX6_isHarmless_35 : decode cX6_isHarmless 35 = .ok (.getfield 240, 3) := by decide +kernel
theorem dX6_isHarmless_38 : decode cX6_isHarmless 38 = .ok (.iload_n 3, 1) := by decide +kernel
theorem dX6_isHarmless_39 : decode cX6_isHarmless 39 = .ok (.iaload, 1) := by decide +kernel
theorem dX6_isHarmless_40 : decode cX6_isHarmless 40 = .ok (.aload_n 0, 1) := by decide +kernel
theorem dX6_isHarmless_41 : decode cX6_isHarmless 41 = .ok (.getfield 10, 3) := by decide +kernel
theorem dX6_isHarmless_44 : decode cX6_isHarmless 44 = .ok (.getfield 240, 3) := by decide +kernel
theorem dX6_isHarmless_47 : decode cX6_isHarmless 47 = .ok (.iload_n 1, 1) := by decide +kernel
theorem dX6_isHarmless_48 : decode cX6_isHarmless 48 = .ok (.iaload, 1) := by decide +kernel
theorem dX6_isHarmless_49 : decode cX6_isHarmless 49 = .ok (.if_icmp .ne 16, 3) := by decide +kernel
theorem dX6_isHarmless_52 : decode cX6_isHarmless 52 = .ok (.aload_n 0, 1) := by decide +kernel
theorem dX6_isHarmless_53 : decode cX6_isHarmless 53 = .ok (.getfield 44, 3) := by decide +kernel
theorem dX6_isHarmless_56 : decode cX6_isHarmless 56 = .ok (.iload_n 3, 1) := by decide +kernel
theorem dX6_isHarmless_57 : decode cX6_isHarmless 57 = .ok (.invokevirtual 349, 3) := by decide +kernel
theorem dX6_isHarmless_60 : decode cX6_isHarmless 60 = .ok (.ifCond .eq 5, 3) := by decide +kernel
theorem dX6_isHarmless_63 : decode cX6_isHarmless 63 = .ok (.iconst 0, 1) := by decide +kernel
theorem dX6_isHarmless_64 : decode cX6_isHarmless 64 = .ok (.ireturn, 1) := by decide +kernel
theorem dX6_isHarmless_65 : decode cX6_isHarmless 65 = .ok (.iinc 3 1, 3) := by decide +kernel
theorem dX6_isHarmless_68 : decode cX6_isHarmless 68 = .ok (.goto (-53), 3) := by decide +kernel
theorem dX6_isHarmless_71 : decode cX6_isHarmless 71 = .ok (.iconst 1, 1) := by decide +kernel
theorem dX6_isHarmless_72 : decode cX6_isHarmless 72 = .ok (.ireturn, 1) := by decide +kernel
theorem dX6_shareOnAir_0 : decode cX6_shareOnAir 0 = .ok (.bipush 7, 2) := by decide +kernel
theorem dX6_shareOnAir_2 : decode cX6_shareOnAir 2 = .ok (.aload_n 0, 1) := by decide +kernel
theorem dX6_shareOnAir_3 : decode cX6_shareOnAir 3 = .ok (.getfield 10, 3) := by decide +kernel
theorem dX6_shareOnAir_6 : decode cX6_shareOnAir 6 = .ok (.getfield 78, 3) := by decide +kernel
theorem dX6_shareOnAir_9 : decode cX6_shareOnAir 9 = .ok (.iconst 1, 1) := by decide +kernel
theorem dX6_shareOnAir_10 : decode cX6_shareOnAir 10 = .ok (.iaload, 1) := by decide +kernel
theorem dX6_shareOnAir_11 : decode cX6_shareOnAir 11 = .ok (.aload_n 0, 1) := by decide +kernel
theorem dX6_shareOnAir_12 : decode cX6_shareOnAir 12 = .ok (.getfield 10, 3) := by decide +kernel
theorem dX6_shareOnAir_15 : decode cX6_shareOnAir 15 = .ok (.getfield 78, 3) := by decide +kernel
theorem dX6_shareOnAir_18 : decode cX6_shareOnAir 18 = .ok (.iconst 0, 1) := by decide +kernel
theorem dX6_shareOnAir_19 : decode cX6_shareOnAir 19 = .ok (.iaload, 1) := by decide +kernel
theorem dX6_shareOnAir_20 : decode cX6_shareOnAir 20 = .ok (.isub, 1) := by decide +kernel
theorem dX6_shareOnAir_21 : decode cX6_shareOnAir 21 = .ok (.imul, 1) := by decide +kernel
theorem dX6_shareOnAir_22 : decode cX6_shareOnAir 22 = .ok (.istore_n 1, 1) := by decide +kernel
theorem dX6_shareOnAir_23 : decode cX6_shareOnAir 23 = .ok (.iload_n 1, 1) := by decide +kernel
theorem dX6_shareOnAir_24 : decode cX6_shareOnAir 24 = .ok (.ifCond .le 21, 3) := by decide +kernel
theorem dX6_shareOnAir_27 : decode cX6_shareOnAir 27 = .ok (.aload_n 0, 1) := by decide +kernel
theorem dX6_shareOnAir_28 : decode cX6_shareOnAir 28 = .ok (.getfield 40, 3) := by decide +kernel
theorem dX6_shareOnAir_31 : decode cX6_shareOnAir 31 = .ok (.aload_n 0, 1) := by decide +kernel
theorem dX6_shareOnAir_32 : decode cX6_shareOnAir 32 = .ok (.getfield 10, 3) := by decide +kernel
theorem dX6_shareOnAir_35 : decode cX6_shareOnAir 35 = .ok (.invokevirtual 342, 3) := by decide +kernel
theorem dX6_shareOnAir_38 : decode cX6_shareOnAir 38 = .ok (.i2d, 1) := by decide +kernel
theorem dX6_shareOnAir_39 : decode cX6_shareOnAir 39 = .ok (.iload_n 1, 1) := by decide +kernel
theorem dX6_shareOnAir_40 : decode cX6_shareOnAir 40 = .ok (.i2d, 1) := by decide +kernel
theorem dX6_shareOnAir_41 : decode cX6_shareOnAir 41 = .ok (.ddiv, 1) := by decide +kernel
theorem dX6_shareOnAir_42 : decode cX6_shareOnAir 42 = .ok (.goto 4, 3) := by decide +kernel
theorem dX6_shareOnAir_45 : decode cX6_shareOnAir 45 = .ok (.dconst 0, 1) := by decide +kernel
theorem dX6_shareOnAir_46 : decode cX6_shareOnAir 46 = .ok (.dreturn, 1) := by decide +kernel
theorem dJ9_max_7cf53_0 : decode cJ9_max_7cf53 0 = .ok (.iload_n 0, 1) := by decide +kernel
theorem dJ9_max_7cf53_1 : decode cJ9_max_7cf53 1 = .ok (.iload_n 1, 1) := by decide +kernel
theorem dJ9_max_7cf53_2 : decode cJ9_max_7cf53 2 = .ok (.if_icmp .lt 7, 3) := by decide +kernel
theorem dJ9_max_7cf53_5 : decode cJ9_max_7cf53 5 = .ok (.iload_n 0, 1) := by decide +kernel
theorem dJ9_max_7cf53_6 : decode cJ9_max_7cf53 6 = .ok (.goto 4, 3) := by decide +kernel
theorem dJ9_max_7cf53_9 : decode cJ9_max_7cf53 9 = .ok (.iload_n 1, 1) := by decide +kernel
theorem dJ9_max_7cf53_10 : decode cJ9_max_7cf53 10 = .ok (.ireturn, 1) := by decide +kernel
theorem dJ9_min_7cf53_0 : decode cJ9_min_7cf53 0 = .ok (.iload_n 0, 1) := by decide +kernel
theorem dJ9_min_7cf53_1 : decode cJ9_min_7cf53 1 = .ok (.iload_n 1, 1) := by decide +kernel
theorem dJ9_min_7cf53_2 : decode cJ9_min_7cf53 2 = .ok (.if_icmp .gt 7, 3) := by decide +kernel
theorem dJ9_min_7cf53_5 : decode cJ9_min_7cf53 5 = .ok (.iload_n 0, 1) := by decide +kernel
theorem dJ9_min_7cf53_6 : decode cJ9_min_7cf53 6 = .ok (.goto 4, 3) := by decide +kernel
theorem dJ9_min_7cf53_9 : decode cJ9_min_7cf53 9 = .ok (.iload_n 1, 1) := by decide +kernel
theorem dJ9_min_7cf53_10 : decode cJ9_min_7cf53 10 = .ok (.ireturn, 1) := by decide +kernel
