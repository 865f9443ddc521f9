theorem dX8_truth_15 : decode cX8_truth 15 = .ok (.putfield 178, 3) := by decide +kernel
theorem dX8_truth_18 : decode cX8_truth 18 = .ok (.iconst 0, 1) := by decide +kernel
theorem dX8_truth_19 : decode cX8_truth 19 = .ok (.istore_n 1, 1) := by decide +kernel
theorem dX8_truth_20 : decode cX8_truth 20 = .ok (.iload_n 1, 1) := by decide +kernel
theorem dX8_truth_21 : decode cX8_truth 21 = .ok (.aload_n 0, 1) := by decide +kernel
theorem dX8_truth_22 : decode cX8_truth 22 = .ok (.getfield 172, 3) := by decide +kernel
theorem dX8_truth_25 : decode cX8_truth 25 = .ok (.if_icmp .ge 21, 3) := by decide +kernel
theorem dX8_truth_28 : decode cX8_truth 28 = .ok (.aload_n 0, 1) := by decide +kernel
theorem dX8_truth_29 : decode cX8_truth 29 = .ok (.getfield 38, 3) := by decide +kernel
theorem dX8_truth_32 : decode cX8_truth 32 = .ok (.iload_n 1, 1) := by decide +kernel
theorem dX8_truth_33 : decode cX8_truth 33 = .ok (.aload_n 0, 1) := by decide +kernel
theorem dX8_truth_34 : decode cX8_truth 34 = .ok (.getfield 35, 3) := by decide +kernel
theorem dX8_truth_37 : decode cX8_truth 37 = .ok (.iload_n 1, 1) := by decide +kernel
theorem dX8_truth_38 : decode cX8_truth 38 = .ok (.iaload, 1) := by decide +kernel
theorem dX8_truth_39 : decode cX8_truth 39 = .ok (.iastore, 1) := by decide +kernel
theorem dX8_truth_40 : decode cX8_truth 40 = .ok (.iinc 1 1, 3) := by decide +kernel
theorem dX8_truth_43 : decode cX8_truth 43 = .ok (.goto (-23), 3) := by decide +kernel
theorem dX8_truth_46 : decode cX8_truth 46 = .ok (.aload_n 0, 1) := by decide +kernel
theorem dX8_truth_47 : decode cX8_truth 47 = .ok (.iconst 0, 1) := by decide +kernel
theorem dX8_truth_48 : decode cX8_truth 48 = .ok (.putfield 172, 3) := by decide +kernel
theorem dX8_truth_51 : decode cX8_truth 51 = .ok (.aload_n 0, 1) := by decide +kernel
theorem dX8_truth_52 : decode cX8_truth 52 = .ok (.getfield 178, 3) := by decide +kernel
theorem dX8_truth_55 : decode cX8_truth 55 = .ok (.ireturn, 1) := by decide +kernel
theorem dX8_failsOf_0 : decode cX8_failsOf 0 = .ok (.iconst 0, 1) := by decide +kernel
theorem dX8_failsOf_1 : decode cX8_failsOf 1 = .ok (.istore_n 2, 1) := by decide +kernel
theorem dX8_failsOf_2 : decode cX8_failsOf 2 = .ok (.aload_n 0, 1) := by decide +kernel
theorem dX8_failsOf_3 : decode cX8_failsOf 3 = .ok (.getfield 178, 3) := by decide +kernel
theorem dX8_failsOf_6 : decode cX8_failsOf 6 = .ok (.iconst 1, 1) := by decide +kernel
theorem dX8_failsOf_7 : decode cX8_failsOf 7 = .ok (.isub, 1) := by decide +kernel
theorem dX8_failsOf_8 : decode cX8_failsOf 8 = .ok (.istore_n 3, 1) := by decide +kernel
theorem dX8_failsOf_9 : decode cX8_failsOf 9 = .ok (.iload_n 3, 1) := by decide +kernel
theorem dX8_failsOf_10 : decode cX8_failsOf 10 = .ok (.ifCond .lt 155, 3) := by decide +kernel
theorem dX8_failsOf_13 : decode cX8_failsOf 13 = .ok (.aload_n 0, 1) := by decide +kernel
theorem dX8_failsOf_14 : decode cX8_failsOf 14 = .ok (.getfield 38, 3) := by decide +kernel
theorem dX8_failsOf_17 : decode cX8_failsOf 17 = .ok (.iload_n 3, 1) := by decide +kernel
theorem dX8_failsOf_18 : decode cX8_failsOf 18 = .ok (.iaload, 1) := by decide +kernel
theorem dX8_failsOf_19 : decode cX8_failsOf 19 = .ok (.istore 4, 2) := by decide +kernel
theorem dX8_failsOf_21 : decode cX8_failsOf 21 = .ok (.iload 4, 2) := by decide +kernel
theorem dX8_failsOf_23 : decode cX8_failsOf 23 = .ok (.bipush 97, 2) := by decide +kernel
theorem dX8_failsOf_25 : decode cX8_failsOf 25 = .ok (.bipush 108, 2) := by decide +kernel
theorem dX8_failsOf_27 : decode cX8_failsOf 27 = .ok (.invokestatic 79, 3) := by decide +kernel
theorem dX8_failsOf_30 : decode cX8_failsOf 30 = .ok (.ifCond .eq 24, 3) := by decide +kernel
theorem dX8_failsOf_33 : decode cX8_failsOf 33 = .ok (.aload_n 0, 1) := by decide +kernel
theorem dX8_failsOf_34 : decode cX8_failsOf 34 = .ok (.getfield 69, 3) := by decide +kernel
theorem dX8_failsOf_37 : decode cX8_failsOf 37 = .ok (.iload_n 2, 1) := by decide +kernel
theorem dX8_failsOf_38 : decode cX8_failsOf 38 = .ok (.iload_n 1, 1) := by decide +kernel
theorem dX8_failsOf_39 : decode cX8_failsOf 39 = .ok (.iload 4, 2) := by decide +kernel
theorem dX8_failsOf_41 : decode cX8_failsOf 41 = .ok (.bipush 97, 2) := by decide +kernel
theorem dX8_failsOf_43 : decode cX8_failsOf 43 = .ok (.isub, 1) := by decide +kernel
theorem dX8_failsOf_44 : decode cX8_failsOf 44 = .ok (.invokestatic 100, 3) := by decide +kernel
theorem dX8_failsOf_47 : decode cX8_failsOf 47 = .ok (.bastore, 1) := by decide +kernel
theorem dX8_failsOf_48 : decode cX8_failsOf 48 = .ok (.iinc 2 1, 3) := by decide +kernel
theorem dX8_failsOf_51 : decode cX8_failsOf 51 = .ok (.goto 108, 3) := by decide +kernel
theorem dX8_failsOf_54 : decode cX8_failsOf 54 = .ok (.iload 4, 2) := by decide +kernel
theorem dX8_failsOf_56 : decode cX8_failsOf 56 = .ok (.bipush 33, 2) := by decide +kernel
theorem dX8_failsOf_58 : decode cX8_failsOf 58 = .ok (.if_icmp .ne 30, 3) := by decide +kernel
theorem dX8_failsOf_61 : decode cX8_failsOf 61 = .ok (.aload_n 0, 1) := by decide +kernel
theorem dX8_failsOf_62 : decode cX8_failsOf 62 = .ok (.getfield 69, 3) := by decide +kernel
theorem dX8_failsOf_65 : decode cX8_failsOf 65 = .ok (.iload_n 2, 1) := by decide +kernel
theorem dX8_failsOf_66 : decode cX8_failsOf 66 = .ok (.iconst 1, 1) := by decide +kernel
theorem dX8_failsOf_67 : decode cX8_failsOf 67 = .ok (.isub, 1) := by decide +kernel
theorem dX8_failsOf_68 : decode cX8_failsOf 68 = .ok (.aload_n 0, 1) := by decide +kernel
theorem dX8_failsOf_69 : decode cX8_failsOf 69 = .ok (.getfield 69, 3) := by decide +kernel
theorem dX8_failsOf_72 : decode cX8_failsOf 72 = .ok (.iload_n 2, 1) := by decide +kernel
theorem dX8_failsOf_73 : decode cX8_failsOf 73 = .ok (.iconst 1, 1) := by decide +kernel
theorem dX8_failsOf_74 : decode cX8_failsOf 74 = .ok (.isub, 1) := by decide +kernel
theorem dX8_failsOf_75 : decode cX8_failsOf 75 = .ok (.baload, 1) := by decide +kernel
theorem dX8_failsOf_76 : decode cX8_failsOf 76 = .ok (.ifCond .ne 7, 3) := by decide +kernel
theorem dX8_failsOf_79 : decode cX8_failsOf 79 = .ok (.iconst 1, 1) := by decide +kernel
theorem dX8_failsOf_80 : decode cX8_failsOf 80 = .ok (.goto 4, 3) := by decide +kernel
theorem dX8_failsOf_83 : decode cX8_failsOf 83 = .ok (.iconst 0, 1) := by decide +kernel
theorem dX8_failsOf_84 : decode cX8_failsOf 84 = .ok (.bastore, 1) := by decide +kernel
theorem dX8_failsOf_85 : decode cX8_failsOf 85 = .ok (.goto 74, 3) := by decide +kernel
theorem dX8_failsOf_88 : decode cX8_failsOf 88 = .ok (.iinc 2 (-1), 3) := by decide +kernel
theorem dX8_failsOf_91 : decode cX8_failsOf 91 = .ok (.aload_n 0, 1) := by decide +kernel
theorem dX8_failsOf_92 : decode cX8_failsOf 92 = .ok (.getfield 69, 3) := by decide +kernel
theorem dX8_failsOf_95 : decode cX8_failsOf 95 = .ok (.iload_n 2, 1) := by decide +kernel
theorem dX8_failsOf_96 : decode cX8_failsOf 96 = .ok (.iconst 1, 1) := by decide +kernel
theorem dX8_failsOf_97 : decode cX8_failsOf 97 = .ok (.isub, 1) := by decide +kernel
theorem dX8_failsOf_98 : decode cX8_failsOf 98 = .ok (.iload 4, 2) := by decide +kernel
theorem dX8_failsOf_100 : decode cX8_failsOf 100 = .ok (.bipush 38, 2) := by decide +kernel
theorem dX8_failsOf_102 : decode cX8_failsOf 102 = .ok (.if_icmp .ne 31, 3) := by decide +kernel
theorem dX8_failsOf_105 : decode cX8_failsOf 105 = .ok (.aload_n 0, 1) := by decide +kernel
theorem dX8_failsOf_106 : decode cX8_failsOf 106 = .ok (.getfield 69, 3) := by decide +kernel
theorem dX8_failsOf_109 : decode cX8_failsOf 109 = .ok (.iload_n 2, 1) := by decide +kernel
theorem dX8_failsOf_110 : decode cX8_failsOf 110 = .ok (.baload, 1) := by decide +kernel
theorem dX8_failsOf_111 : decode cX8_failsOf 111 = .ok (.ifCond .eq 18, 3) := by decide +kernel
theorem dX8_failsOf_114 : decode cX8_failsOf 114 = .ok (.aload_n 0, 1) := by decide +kernel
theorem dX8_failsOf_115 : decode cX8_failsOf 115 = .ok (.getfield 69, 3) := by decide +kernel
theorem dX8_failsOf_118 : decode cX8_failsOf 118 = .ok (.iload_n 2, 1) := by decide +kernel
theorem dX8_failsOf_119 : decode cX8_failsOf 119 = .ok (.iconst 1, 1) := by decide +kernel
theorem dX8_failsOf_120 : decode cX8_failsOf 120 = .ok (.isub, 1) := by decide +kernel
theorem dX8_failsOf_121 : decode cX8_failsOf 121 = .ok (.baload, 1) := by decide +kernel
theorem dX8_failsOf_122 : decode cX8_failsOf 122 = .ok (.ifCond .eq 7, 3) := by decide +kernel
theorem dX8_failsOf_125 : decode cX8_failsOf 125 = .ok (.iconst 1, 1) := by decide +kernel
theorem dX8_failsOf_126 : decode cX8_failsOf 126 = .ok (.goto 32, 3) := by decide +kernel
theorem dX8_failsOf_129 : decode cX8_failsOf 129 = .ok (.iconst 0, 1) := by decide +kernel
theorem dX8_failsOf_130 : decode cX8_failsOf 130 = .ok (.goto 28, 3) := by decide +kernel
theorem dX8_failsOf_133 : decode cX8_failsOf 133 = .ok (.aload_n 0, 1) := by decide +kernel
theorem dX8_failsOf_134 : decode cX8_failsOf 134 = .ok (.getfield 69, 3) := by decide +kernel
theorem dX8_failsOf_137 : decode cX8_failsOf 137 = .ok (.iload_n 2, 1) := by decide +kernel
theorem dX8_failsOf_138 : decode cX8_failsOf 138 = .ok (.baload, 1) := by decide +kernel
theorem dX8_failsOf_139 : decode cX8_failsOf 139 = .ok (.ifCond .ne 14, 3) := by decide +kernel
theorem dX8_failsOf_142 : decode cX8_failsOf 142 = .ok (.aload_n 0, 1) := by decide +kernel
theorem dX8_failsOf_143 : decode cX8_failsOf 143 = .ok (.getfield 69, 3) := by decide +kernel
theorem dX8_failsOf_146 : decode cX8_failsOf 146 = .ok (.iload_n 2, 1) := by decide +kernel
theorem dX8_failsOf_147 : decode cX8_failsOf 147 = .ok (.iconst 1, 1) := by decide +kernel
theorem dX8_failsOf_148 : decode cX8_failsOf 148 = .ok (.isub, 1) := by decide +kernel
theorem dX8_failsOf_149 : decode cX8_failsOf 149 = .ok (.baload, 1) := by decide +kernel
theorem dX8_failsOf_150 : decode cX8_failsOf 150 = .ok (.ifCond .eq 7, 3) := by decide +kernel
theorem dX8_failsOf_153 : decode cX8_failsOf 153 = .ok (.iconst 1, 1) := by decide +kernel
theorem dX8_failsOf_154 : decode cX8_failsOf 154 = .ok (.goto 4, 3) := by decide +kernel
theorem dX8_failsOf_157 : decode cX8_failsOf 157 = .ok (.iconst 0, 1) := by decide +kernel
theorem dX8_failsOf_158 : decode cX8_failsOf 158 = .ok (.bastore, 1) := by decide +kernel
theorem dX8_failsOf_159 : decode cX8_failsOf 159 = .ok (.iinc 3 (-1), 3) := by decide +kernel
theorem dX8_failsOf_162 : decode cX8_failsOf 162 = .ok (.goto (-153), 3) := by decide +kernel
theorem dX8_failsOf_165 : decode cX8_failsOf 165 = .ok (.aload_n 0, 1) := by decide +kernel
theorem dX8_failsOf_166 : decode cX8_failsOf 166 = .ok (.getfield 69, 3) := by decide +kernel
theorem dX8_failsOf_169 : decode cX8_failsOf 169 = .ok (.iconst 0, 1) := by decide +kernel
theorem dX8_failsOf_170 : decode cX8_failsOf 170 = .ok (.baload, 1) := by decide +kernel
theorem dX8_failsOf_171 : decode cX8_failsOf 171 = .ok (.ireturn, 1) := by decide +kernel
theorem dX8_isSound_0 : decode cX8_isSound 0 = .ok (.iconst 1, 1) := by decide +kernel
theorem dX8_isSound_1 : decode cX8_isSound 1 = .ok (.istore_n 2, 1) := by decide +kernel
theorem dX8_isSound_2 : decode cX8_isSound 2 = .ok (.iconst 0, 1) := by decide +kernel
theorem dX8_isSound_3 : decode cX8_isSound 3 = .ok (.istore_n 3, 1) := by decide +kernel
theorem dX8_isSound_4 : decode cX8_isSound 4 = .ok (.iload_n 3, 1) := by decide +kernel
theorem dX8_isSound_5 : decode cX8_isSound 5 = .ok (.aload_n 0, 1) := by decide +kernel
theorem dX8_isSound_6 : decode cX8_isSound 6 = .ok (.getfield 75, 3) := by decide +kernel
theorem dX8_isSound_9 : decode cX8_isSound 9 = .ok (.if_icmp .ge 40, 3) := by decide +kernel
theorem dX8_isSound_12 : decode cX8_isSound 12 = .ok (.iload_n 2, 1) := by decide +kernel
theorem dX8_isSound_13 : decode cX8_isSound 13 = .ok (.ifCond .eq 28, 3) := by decide +kernel
theorem dX8_isSound_16 : decode cX8_isSound 16 = .ok (.iload_n 1, 1) := by decide +kernel
theorem dX8_isSound_17 : decode cX8_isSound 17 = .ok (.iload_n 3, 1) := by decide +kernel
theorem dX8_isSound_18 : decode cX8_isSound 18 = .ok (.invokestatic 100, 3) := by decide +kernel
theorem dX8_isSound_21 : decode cX8_isSound 21 = .ok (.ifCond .eq 16, 3) := by decide +kernel
theorem dX8_isSound_24 : decode cX8_isSound 24 = .ok (.aload_n 0, 1) := by decide +kernel
theorem dX8_isSound_25 : decode cX8_isSound 25 = .ok (.getfield 19, 3) := by decide +kernel
theorem dX8_isSound_28 : decode cX8_isSound 28 = .ok (.iload_n 3, 1) := by decide +kernel
theorem dX8_isSound_29 : decode cX8_isSound 29 = .ok (.iaload, 1) := by decide +kernel
theorem dX8_isSound_30 : decode cX8_isSound 30 = .ok (.iload_n 1, 1) := by decide +kernel
theorem dX8_isSound_31 : decode cX8_isSound 31 = .ok (.iconst (-1), 1) := by decide +kernel
theorem dX8_isSound_32 : decode cX8_isSound 32 = .ok (.ixor, 1) := by decide +kernel
theorem dX8_isSound_33 : decode cX8_isSound 33 = .ok (.iand, 1) := by decide +kernel
theorem dX8_isSound_34 : decode cX8_isSound 34 = .ok (.ifCond .ne 7, 3) := by decide +kernel
theorem dX8_isSound_37 : decode cX8_isSound 37 = .ok (.iconst 1, 1) := by decide +kernel
theorem dX8_isSound_38 : decode cX8_isSound 38 = .ok (.goto 4, 3) := by decide +kernel
theorem dX8_isSound_41 : decode cX8_isSound 41 = .ok (.iconst 0, 1) := by decide +kernel
theorem dX8_isSound_42 : decode cX8_isSound 42 = .ok (.istore_n 2, 1) := by decide +kernel
theorem dX8_isSound_43 : decode cX8_isSound 43 = .ok (.iinc 3 1, 3) := by decide +kernel
theorem dX8_isSound_46 : decode cX8_isSound 46 = .ok (.goto (-42), 3) := by decide +kernel
theorem dX8_isSound_49 : decode cX8_isSound 49 = .ok (.iload_n 2, 1) := by decide +kernel
theorem dX8_isSound_50 : decode cX8_isSound 50 = .ok (.ireturn, 1) := by decide +kernel
theorem dX8_fails_0 : decode cX8_fails 0 = .ok (.iload_n 1, 1) := by decide +kernel
theorem dX8_fails_1 : decode cX8_fails 1 = .ok (.iconst 0, 1) := by decide +kernel
theorem dX8_fails_2 : decode cX8_fails 2 = .ok (.sipush 4095, 3) := by decide +kernel
theorem dX8_fails_5 : decode cX8_fails 5 = .ok (.invokestatic 79, 3) := by decide +kernel
theorem dX8_fails_8 : decode cX8_fails 8 = .ok (.ifCond .eq 10, 3) := by decide +kernel
theorem dX8_fails_11 : decode cX8_fails 11 = .ok (.iload_n 2, 1) := by decide +kernel
theorem dX8_fails_12 : decode cX8_fails 12 = .ok (.invokestatic 94, 3) := by decide +kernel
theorem dX8_fails_15 : decode cX8_fails 15 = .ok (.ifCond .ne 6, 3) := by decide +kernel
theorem dX8_fails_18 : decode cX8_fails 18 = .ok (.bipush (-2), 2) := by decide +kernel
theorem dX8_fails_20 : decode cX8_fails 20 = .ok (.ireturn, 1) := by decide +kernel
theorem dX8_fails_21 : decode cX8_fails 21 = .ok (.iload_n 2, 1) := by decide +kernel
theorem dX8_fails_22 : decode cX8_fails 22 = .ok (.iconst 1, 1) := by decide +kernel
theorem dX8_fails_23 : decode cX8_fails 23 = .ok (.if_icmp .ne 17, 3) := by decide +kernel
theorem dX8_fails_26 : decode cX8_fails 26 = .ok (.aload_n 0, 1) := by decide +kernel
theorem dX8_fails_27 : decode cX8_fails 27 = .ok (.iload_n 1, 1) := by decide +kernel
theorem dX8_fails_28 : decode cX8_fails 28 = .ok (.invokevirtual 181, 3) := by decide +kernel
theorem dX8_fails_31 : decode cX8_fails 31 = .ok (.ifCond .eq 7, 3) := by decide +kernel
theorem dX8_fails_34 : decode cX8_fails 34 = .ok (.iconst 1, 1) := by decide +kernel
theorem dX8_fails_35 : decode cX8_fails 35 = .ok (.goto 4, 3) := by decide +kernel
theorem dX8_fails_38 : decode cX8_fails 38 = .ok (.iconst 0, 1) := by decide +kernel
theorem dX8_fails_39 : decode cX8_fails 39 = .ok (.ireturn, 1) := by decide +kernel
theorem dX8_fails_40 : decode cX8_fails 40 = .ok (.aload_n 0, 1) := by decide +kernel
theorem dX8_fails_41 : decode cX8_fails 41 = .ok (.getfield 178, 3) := by decide +kernel
theorem dX8_fails_44 : decode cX8_fails 44 = .ok (.ifCond .ne 8, 3) := by decide +kernel
theorem dX8_fails_47 : decode cX8_fails 47 = .ok (.bipush (-3), 2) := by decide +kernel
theorem dX8_fails_49 : decode cX8_fails 49 = .ok (.goto 16, 3) := by decide +kernel
theorem dX8_fails_52 : decode cX8_fails 52 = .ok (.aload_n 0, 1) := by decide +kernel
theorem dX8_fails_53 : decode cX8_fails 53 = .ok (.iload_n 1, 1) := by decide +kernel
theorem dX8_fails_54 : decode cX8_fails 54 = .ok (.invokevirtual 184, 3) := by decide +kernel
theorem dX8_fails_57 : decode cX8_fails 57 = .ok (.ifCond .eq 7, 3) := by decide +kernel
theorem dX8_fails_60 : decode cX8_fails 60 = .ok (.iconst 1, 1) := by decide +kernel
theorem dX8_fails_61 : decode cX8_fails 61 = .ok (.goto 4, 3) := by decide +kernel
theorem dX8_fails_64 : decode cX8_fails 64 = .ok (.iconst 0, 1) := by decide +kernel
theorem dX8_fails_65 : decode cX8_fails 65 = .ok (.ireturn, 1) := by decide +kernel
theorem dX8_play_0 : decode cX8_play 0 = .ok (.iload_n 1, 1) := by decide +kernel
theorem dX8_play_1 : decode cX8_play 1 = .ok (.iconst 1, 1) := by decide +kernel
theorem dX8_play_2 : decode cX8_play 2 = .ok (.bipush 10, 2) := by decide +kernel
theorem dX8_play_4 : decode cX8_play 4 = .ok (.invokestatic 79, 3) := by decide +kernel
theorem dX8_play_7 : decode cX8_play 7 = .ok (.ifCond .ne 6, 3) := by decide +kernel
theorem dX8_play_10 : decode cX8_play 10 = .ok (.bipush (-2), 2) := by decide +kernel
theorem dX8_play_12 : decode cX8_play 12 = .ok (.ireturn, 1) := by decide +kernel
theorem dX8_play_13 : decode cX8_play 13 = .ok (.aload_n 0, 1) := by decide +kernel
theorem dX8_play_14 : decode cX8_play 14 = .ok (.getfield 178, 3) := by decide +kernel
theorem dX8_play_17 : decode cX8_play 17 = .ok (.ifCond .ne 6, 3) := by decide +kernel
theorem dX8_play_20 : decode cX8_play 20 = .ok (.bipush (-3), 2) := by decide +kernel
theorem dX8_play_22 : decode cX8_play 22 = .ok (.ireturn, 1) := by decide +kernel
theorem dX8_play_23 : decode cX8_play 23 = .ok (.iconst 0, 1) := by decide +kernel
theorem dX8_play_24 : decode cX8_play 24 = .ok (.istore_n 2, 1) := by decide +kernel
theorem dX8_play_25 : decode cX8_play 25 = .ok (.iconst 0, 1) := by decide +kernel
theorem dX8_play_26 : decode cX8_play 26 = .ok (.istore_n 3, 1) := by decide +kernel
theorem dX8_play_27 : decode cX8_play 27 = .ok (.iload_n 3, 1) := by decide +kernel
theorem dX8_play_28 : decode cX8_play 28 = .ok (.aload_n 0, 1) := by decide +kernel
theorem dX8_play_29 : decode cX8_play 29 = .ok (.getfield 75, 3) := by decide +kernel
theorem dX8_play_32 : decode cX8_play 32 = .ok (.if_icmp .ge 28, 3) := by decide +kernel
theorem dX8_play_35 : decode cX8_play 35 = .ok (.iload_n 2, 1) := by decide +kernel
theorem dX8_play_36 : decode cX8_play 36 = .ok (.ifCond .ne 12, 3) := by decide +kernel
theorem dX8_play_39 : decode cX8_play 39 = .ok (.aload_n 0, 1) := by decide +kernel
theorem dX8_play_40 : decode cX8_play 40 = .ok (.getfield 22, 3) := by decide +kernel
theorem dX8_play_43 : decode cX8_play 43 = .ok (.iload_n 3, 1) := by decide +kernel
theorem dX8_play_44 : decode cX8_play 44 = .ok (.baload, 1) := by decide +kernel
theorem dX8_play_45 : decode cX8_play 45 = .ok (.ifCond .ne 7, 3) := by decide +kernel
theorem dX8_play_48 : decode cX8_play 48 = .ok (.iconst 1, 1) := by decide +kernel
theorem dX8_play_49 : decode cX8_play 49 = .ok (.goto 4, 3) := by decide +kernel
theorem dX8_play_52 : decode cX8_play 52 = .ok (.iconst 0, 1) := by decide +kernel
theorem dX8_play_53 : decode cX8_play 53 = .ok (.istore_n 2, 1) := by decide +kernel
theorem dX8_play_54 : decode cX8_play 54 = .ok (.iinc 3 1, 3) := by decide +kernel
theorem dX8_play_57 : decode cX8_play 57 = .ok (.goto (-30), 3) := by decide +kernel
theorem dX8_play_60 : decode cX8_play 60 = .ok (.iload_n 2, 1) := by decide +kernel
theorem dX8_play_61 : decode cX8_play 61 = .ok (.ifCond .ne 6, 3) := by decide +kernel
theorem dX8_play_64 : decode cX8_play 64 = .ok (.bipush (-5), 2) := by decide +kernel
theorem dX8_play_66 : decode cX8_play 66 = .ok (.ireturn, 1) := by decide +kernel
theorem dX8_play_67 : decode cX8_play 67 = .ok (.aload_n 0, 1) := by decide +kernel
theorem dX8_play_68 : decode cX8_play 68 = .ok (.iconst 0, 1) := by decide +kernel
theorem dX8_play_69 : decode cX8_play 69 = .ok (.putfield 91, 3) := by decide +kernel
theorem dX8_play_72 : decode cX8_play 72 = .ok (.aload_n 0, 1) := by decide +kernel
theorem dX8_play_73 : decode cX8_play 73 = .ok (.invokevirtual 134, 3) := by decide +kernel
theorem dX8_play_76 : decode cX8_play 76 = .ok (.aload_n 0, 1) := by decide +kernel
theorem dX8_play_77 : decode cX8_play 77 = .ok (.getfield 91, 3) := by decide +kernel
theorem dX8_play_80 : decode cX8_play 80 = .ok (.bipush 12, 2) := by decide +kernel
theorem dX8_play_82 : decode cX8_play 82 = .ok (.if_icmp .ge 71, 3) := by decide +kernel
theorem dX8_play_85 : decode cX8_play 85 = .ok (.aload_n 0, 1) := by decide +kernel
theorem dX8_play_86 : decode cX8_play 86 = .ok (.iload_n 1, 1) := by decide +kernel
theorem dX8_play_87 : decode cX8_play 87 = .ok (.invokevirtual 187, 3) := by decide +kernel
theorem dX8_play_90 : decode cX8_play 90 = .ok (.ifCond .ne 63, 3) := by decide +kernel
theorem dX8_play_93 : decode cX8_play 93 = .ok (.aload_n 0, 1) := by decide +kernel
theorem dX8_play_94 : decode cX8_play 94 = .ok (.iconst 1, 1) := by decide +kernel
theorem dX8_play_95 : decode cX8_play 95 = .ok (.invokevirtual 158, 3) := by decide +kernel
theorem dX8_play_98 : decode cX8_play 98 = .ok (.istore_n 3, 1) := by decide +kernel
theorem dX8_play_99 : decode cX8_play 99 = .ok (.aload_n 0, 1) := by decide +kernel
theorem dX8_play_100 : decode cX8_play 100 = .ok (.getfield 26, 3) := by decide +kernel
theorem dX8_play_103 : decode cX8_play 103 = .ok (.aload_n 0, 1) := by decide +kernel
theorem dX8_play_104 : decode cX8_play 104 = .ok (.getfield 91, 3) := by decide +kernel
theorem dX8_play_107 : decode cX8_play 107 = .ok (.iload_n 3, 1) := by decide +kernel
theorem dX8_play_108 : decode cX8_play 108 = .ok (.iastore, 1) := by decide +kernel
theorem dX8_play_109 : decode cX8_play 109 = .ok (.aload_n 0, 1) := by decide +kernel
theorem dX8_play_110 : decode cX8_play 110 = .ok (.getfield 29, 3) := by decide +kernel
theorem dX8_play_113 : decode cX8_play 113 = .ok (.aload_n 0, 1) := by decide +kernel
theorem dX8_play_114 : decode cX8_play 114 = .ok (.getfield 91, 3) := by decide +kernel
theorem dX8_play_117 : decode cX8_play 117 = .ok (.aload_n 0, 1) := by decide +kernel
theorem dX8_play_118 : decode cX8_play 118 = .ok (.aload_n 0, 1) := by decide +kernel
theorem dX8_play_119 : decode cX8_play 119 = .ok (.getfield 7, 3) := by decide +kernel
theorem dX8_play_122 : decode cX8_play 122 = .ok (.iload_n 3, 1) := by decide +kernel
theorem dX8_play_123 : decode cX8_play 123 = .ok (.iaload, 1) := by decide +kernel
theorem dX8_play_124 : decode cX8_play 124 = .ok (.invokevirtual 184, 3) := by decide +kernel
theorem dX8_play_127 : decode cX8_play 127 = .ok (.ifCond .ne 7, 3) := by decide +kernel
theorem dX8_play_130 : decode cX8_play 130 = .ok (.iconst 1, 1) := by decide +kernel
theorem dX8_play_131 : decode cX8_play 131 = .ok (.goto 4, 3) := by decide +kernel
theorem dX8_play_134 : decode cX8_play 134 = .ok (.iconst 0, 1) := by decide +kernel
theorem dX8_play_135 : decode cX8_play 135 = .ok (.bastore, 1) := by decide +kernel
theorem dX8_play_136 : decode cX8_play 136 = .ok (.aload_n 0, 1) := by decide +kernel
theorem dX8_play_137 : decode cX8_play 137 = .ok (.dup, 1) := by decide +kernel
theorem dX8_play_138 : decode cX8_play 138 = .ok (.getfield 91, 3) := by decide +kernel
theorem dX8_play_141 : decode cX8_play 141 = .ok (.iconst 1, 1) := by decide +kernel
theorem dX8_play_142 : decode cX8_play 142 = .ok (.iadd, 1) := by decide +kernel
theorem dX8_play_143 : decode cX8_play 143 = .ok (.putfield 91, 3) := by decide +kernel
theorem dX8_play_146 : decode cX8_play 146 = .ok (.aload_n 0, 1) := by decide +kernel
theorem dX8_play_147 : decode cX8_play 147 = .ok (.invokevirtual 134, 3) := by decide +kernel
theorem dX8_play_150 : decode cX8_play 150 = .ok (.goto (-74), 3) := by decide +kernel
theorem dX8_play_153 : decode cX8_play 153 = .ok (.aload_n 0, 1) := by decide +kernel
theorem dX8_play_154 : decode cX8_play 154 = .ok (.getfield 91, 3) := by decide +kernel
theorem dX8_play_157 : decode cX8_play 157 = .ok (.ireturn, 1) := by decide +kernel
theorem dX8_isSure_0 : decode cX8_isSure 0 = .ok (.aload_n 0, 1) := by decide +kernel
theorem dX8_isSure_1 : decode cX8_isSure 1 = .ok (.invokevirtual 141, 3) := by decide +kernel
theorem dX8_isSure_4 : decode cX8_isSure 4 = .ok (.istore_n 2, 1) := by decide +kernel
theorem dX8_isSure_5 : decode cX8_isSure 5 = .ok (.iload_n 2, 1) := by decide +kernel
theorem dX8_isSure_6 : decode cX8_isSure 6 = .ok (.ifCond .lt 28, 3) := by decide +kernel
theorem dX8_isSure_9 : decode cX8_isSure 9 = .ok (.aload_n 0, 1) := by decide +kernel
theorem dX8_isSure_10 : decode cX8_isSure 10 = .ok (.getfield 50, 3) := by decide +kernel
theorem dX8_isSure_13 : decode cX8_isSure 13 = .ok (.iload_n 2, 1) := by decide +kernel
theorem dX8_isSure_14 : decode cX8_isSure 14 = .ok (.laload, 1) := by decide +kernel
theorem dX8_isSure_15 : decode cX8_isSure 15 = .ok (.ldc2_w 152, 3) := by decide +kernel
theorem dX8_isSure_18 : decode cX8_isSure 18 = .ok (.lmul, 1) := by decide +kernel
theorem dX8_isSure_19 : decode cX8_isSure 19 = .ok (.aload_n 0, 1) := by decide +kernel
theorem dX8_isSure_20 : decode cX8_isSure 20 = .ok (.getfield 119, 3) := by decide +kernel
theorem dX8_isSure_23 : decode cX8_isSure 23 = .ok (.iload_n 1, 1) := by decide +kernel
theorem dX8_isSure_24 : decode cX8_isSure 24 = .ok (.i2l, 1) := by decide +kernel
theorem dX8_isSure_25 : decode cX8_isSure 25 = .ok (.lmul, 1) := by decide +kernel
theorem dX8_isSure_26 : decode cX8_isSure 26 = .ok (.lcmp, 1) := by decide +kernel
theorem dX8_isSure_27 : decode cX8_isSure 27 = .ok (.ifCond .lt 7, 3) := by decide +kernel
theorem dX8_isSure_30 : decode cX8_isSure 30 = .ok (.iconst 1, 1) := by decide +kernel
theorem dX8_isSure_31 : decode cX8_isSure 31 = .ok (.goto 4, 3) := by decide +kernel
theorem dX8_isSure_34 : decode cX8_isSure 34 = .ok (.iconst 0, 1) := by decide +kernel
theorem dX8_isSure_35 : decode cX8_isSure 35 = .ok (.ireturn, 1) := by decide +kernel
theorem dX8_bits_0 : decode cX8_bits 0 = .ok (.iconst 0, 1) := by decide +kernel
theorem dX8_bits_1 : decode cX8_bits 1 = .ok (.istore_n 1, 1) := by decide +kernel
theorem dX8_bits_2 : decode cX8_bits 2 = .ok (.iconst 0, 1) := by decide +kernel
theorem dX8_bits_3 : decode cX8_bits 3 = .ok (.istore_n 2, 1) := by decide +kernel
theorem dX8_bits_4 : decode cX8_bits 4 = .ok (.iload_n 2, 1) := by decide +kernel
theorem dX8_bits_5 : decode cX8_bits 5 = .ok (.bipush 12, 2) := by decide +kernel
theorem dX8_bits_7 : decode cX8_bits 7 = .ok (.if_icmp .ge 17, 3) := by decide +kernel
theorem dX8_bits_10 : decode cX8_bits 10 = .ok (.iload_n 1, 1) := by decide +kernel
theorem dX8_bits_11 : decode cX8_bits 11 = .ok (.iload_n 0, 1) := by decide +kernel
theorem dX8_bits_12 : decode cX8_bits 12 = .ok (.iload_n 2, 1) := by decide +kernel
theorem dX8_bits_13 : decode cX8_bits 13 = .ok (.ishr, 1) := by decide +kernel
theorem dX8_bits_14 : decode cX8_bits 14 = .ok (.iconst 1, 1) := by decide +kernel
theorem dX8_bits_15 : decode cX8_bits 15 = .ok (.iand, 1) := by decide +kernel
theorem dX8_bits_16 : decode cX8_bits 16 = .ok (.iadd, 1) := by decide +kernel
theorem dX8_bits_17 : decode cX8_bits 17 = .ok (.istore_n 1, 1) := by decide +kernel
theorem dX8_bits_18 : decode cX8_bits 18 = .ok (.iinc 2 1, 3) := by decide +kernel
theorem dX8_bits_21 : decode cX8_bits 21 = .ok (.goto (-17), 3) := by decide +kernel
theorem dX8_bits_24 : decode cX8_bits 24 = .ok (.iload_n 1, 1) := by decide +kernel
theorem dX8_bits_25 : decode cX8_bits 25 = .ok (.ireturn, 1) := by decide +kernel
theorem dX8_sizes_0 : decode cX8_sizes 0 = .ok (.iconst 0, 1) := by decide +kernel
theorem dX8_sizes_1 : decode cX8_sizes 1 = .ok (.istore_n 2, 1) := by decide +kernel
theorem dX8_sizes_2 : decode cX8_sizes 2 = .ok (.iconst 0, 1) := by decide +kernel
theorem dX8_sizes_3 : decode cX8_sizes 3 = .ok (.istore_n 3, 1) := by decide +kernel
theorem dX8_sizes_4 : decode cX8_sizes 4 = .ok (.iload_n 3, 1) := by decide +kernel
theorem dX8_sizes_5 : decode cX8_sizes 5 = .ok (.aload_n 0, 1) := by decide +kernel
theorem dX8_sizes_6 : decode cX8_sizes 6 = .ok (.getfield 75, 3) := by decide +kernel
theorem dX8_sizes_9 : decode cX8_sizes 9 = .ok (.if_icmp .ge 30, 3) := by decide +kernel
theorem dX8_sizes_12 : decode cX8_sizes 12 = .ok (.iload_n 2, 1) := by decide +kernel
theorem dX8_sizes_13 : decode cX8_sizes 13 = .ok (.iload_n 1, 1) := by decide +kernel
theorem dX8_sizes_14 : decode cX8_sizes 14 = .ok (.iload_n 3, 1) := by decide +kernel
theorem dX8_sizes_15 : decode cX8_sizes 15 = .ok (.invokestatic 100, 3) := by decide +kernel
theorem dX8_sizes_18 : decode cX8_sizes 18 = .ok (.ifCond .eq 12, 3) := by decide +kernel
theorem dX8_sizes_21 : decode cX8_sizes 21 = .ok (.aload_n 0, 1) := by decide +kernel
theorem dX8_sizes_22 : decode cX8_sizes 22 = .ok (.getfield 13, 3) := by decide +kernel
theorem dX8_sizes_25 : decode cX8_sizes 25 = .ok (.iload_n 3, 1) := by decide +kernel
theorem dX8_sizes_26 : decode cX8_sizes 26 = .ok (.iaload, 1) := by decide +kernel
theorem dX8_sizes_27 : decode cX8_sizes 27 = .ok (.goto 4, 3) := by decide +kernel
theorem dX8_sizes_30 : decode cX8_sizes 30 = .ok (.iconst 0, 1) := by decide +kernel
theorem dX8_sizes_31 : decode cX8_sizes 31 = .ok (.iadd, 1) := by decide +kernel
theorem dX8_sizes_32 : decode cX8_sizes 32 = .ok (.istore_n 2, 1) := by decide +kernel
theorem dX8_sizes_33 : decode cX8_sizes 33 = .ok (.iinc 3 1, 3) := by decide +kernel
theorem dX8_sizes_36 : decode cX8_sizes 36 = .ok (.goto (-32), 3) := by decide +kernel
theorem dX8_sizes_39 : decode cX8_sizes 39 = .ok (.iload_n 2, 1) := by decide +kernel
theorem dX8_sizes_40 : decode cX8_sizes 40 = .ok (.ireturn, 1) := by decide +kernel
theorem dX8_out_0 : decode cX8_out 0 = .ok (.aload_n 0, 1) := by decide +kernel
theorem dX8_out_1 : decode cX8_out 1 = .ok (.iload_n 1, 1) := by decide +kernel
theorem dX8_out_2 : decode cX8_out 2 = .ok (.invokevirtual 83, 3) := by decide +kernel
theorem dX8_out_5 : decode cX8_out 5 = .ok (.ifCond .ne 5, 3) := by decide +kernel
theorem dX8_out_8 : decode cX8_out 8 = .ok (.iconst (-1), 1) := by decide +kernel
theorem dX8_out_9 : decode cX8_out 9 = .ok (.ireturn, 1) := by decide +kernel
theorem dX8_out_10 : decode cX8_out 10 = .ok (.iload_n 2, 1) := by decide +kernel
theorem dX8_out_11 : decode cX8_out 11 = .ok (.invokestatic 94, 3) := by decide +kernel
theorem dX8_out_14 : decode cX8_out 14 = .ok (.ifCond .ne 6, 3) := by decide +kernel
theorem dX8_out_17 : decode cX8_out 17 = .ok (.bipush (-2), 2) := by decide +kernel
theorem dX8_out_19 : decode cX8_out 19 = .ok (.ireturn, 1) := by decide +kernel
theorem dX8_out_20 : decode cX8_out 20 = .ok (.aload_n 0, 1) := by decide +kernel
theorem dX8_out_21 : decode cX8_out 21 = .ok (.getfield 178, 3) := by decide +kernel
theorem dX8_out_24 : decode cX8_out 24 = .ok (.ifCond .ne 6, 3) := by decide +kernel
theorem dX8_out_27 : decode cX8_out 27 = .ok (.bipush (-3), 2) := by decide +kernel
theorem dX8_out_29 : decode cX8_out 29 = .ok (.ireturn, 1) := by decide +kernel
theorem dX8_out_30 : decode cX8_out 30 = .ok (.bipush (-6), 2) := by decide +kernel
theorem dX8_out_32 : decode cX8_out 32 = .ok (.istore_n 3, 1) := by decide +kernel
theorem dX8_out_33 : decode cX8_out 33 = .ok (.iconst 0, 1) := by decide +kernel
theorem dX8_out_34 : decode cX8_out 34 = .ok (.istore 4, 2) := by decide +kernel
theorem dX8_out_36 : decode cX8_out 36 = .ok (.iload 4, 2) := by decide +kernel
theorem dX8_out_38 : decode cX8_out 38 = .ok (.iconst 1, 1) := by decide +kernel
theorem dX8_out_39 : decode cX8_out 39 = .ok (.aload_n 0, 1) := by decide +kernel
theorem dX8_out_40 : decode cX8_out 40 = .ok (.getfield 75, 3) := by decide +kernel
theorem dX8_out_43 : decode cX8_out 43 = .ok (.ishl, 1) := by decide +kernel
theorem dX8_out_44 : decode cX8_out 44 = .ok (.if_icmp .ge 115, 3) := by decide +kernel
theorem dX8_out_47 : decode cX8_out 47 = .ok (.iload 4, 2) := by decide +kernel
theorem dX8_out_49 : decode cX8_out 49 = .ok (.aload_n 0, 1) := by decide +kernel
theorem dX8_out_50 : decode cX8_out 50 = .ok (.getfield 7, 3) := by decide +kernel
theorem dX8_out_53 : decode cX8_out 53 = .ok (.iload_n 1, 1) := by decide +kernel
theorem dX8_out_54 : decode cX8_out 54 = .ok (.iaload, 1) := by decide +kernel
theorem dX8_out_55 : decode cX8_out 55 = .ok (.iconst (-1), 1) := by decide +kernel
theorem dX8_out_56 : decode cX8_out 56 = .ok (.ixor, 1) := by decide +kernel
theorem dX8_out_57 : decode cX8_out 57 = .ok (.iand, 1) := by decide +kernel
theorem dX8_out_58 : decode cX8_out 58 = .ok (.ifCond .ne 95, 3) := by decide +kernel
theorem dX8_out_61 : decode cX8_out 61 = .ok (.iload_n 3, 1) := by decide +kernel
theorem dX8_out_62 : decode cX8_out 62 = .ok (.ifCond .lt 41, 3) := by decide +kernel
theorem dX8_out_65 : decode cX8_out 65 = .ok (.iload 4, 2) := by decide +kernel
theorem dX8_out_67 : decode cX8_out 67 = .ok (.invokestatic 190, 3) := by decide +kernel
theorem dX8_out_70 : decode cX8_out 70 = .ok (.iload_n 3, 1) := by decide +kernel
theorem dX8_out_71 : decode cX8_out 71 = .ok (.invokestatic 190, 3) := by decide +kernel
theorem dX8_out_74 : decode cX8_out 74 = .ok (.if_icmp .lt 29, 3) := by decide +kernel
theorem dX8_out_77 : decode cX8_out 77 = .ok (.iload 4, 2) := by decide +kernel
theorem dX8_out_79 : decode cX8_out 79 = .ok (.invokestatic 190, 3) := by decide +kernel
theorem dX8_out_82 : decode cX8_out 82 = .ok (.iload_n 3, 1) := by decide +kernel
theorem dX8_out_83 : decode cX8_out 83 = .ok (.invokestatic 190, 3) := by decide +kernel
theorem dX8_out_86 : decode cX8_out 86 = .ok (.if_icmp .ne 21, 3) := by decide +kernel
theorem dX8_out_89 : decode cX8_out 89 = .ok (.aload_n 0, 1) := by decide +kernel
theorem dX8_out_90 : decode cX8_out 90 = .ok (.iload 4, 2) := by decide +kernel
theorem dX8_out_92 : decode cX8_out 92 = .ok (.invokevirtual 193, 3) := by decide +kernel
theorem dX8_out_95 : decode cX8_out 95 = .ok (.aload_n 0, 1) := by decide +kernel
theorem dX8_out_96 : decode cX8_out 96 = .ok (.iload_n 3, 1) := by decide +kernel
theorem dX8_out_97 : decode cX8_out 97 = .ok (.invokevirtual 193, 3) := by decide +kernel
theorem dX8_out_100 : decode cX8_out 100 = .ok (.if_icmp .ge 7, 3) := by decide +kernel
theorem dX8_out_103 : decode cX8_out 103 = .ok (.iconst 1, 1) := by decide +kernel
theorem dX8_out_104 : decode cX8_out 104 = .ok (.goto 4, 3) := by decide +kernel
theorem dX8_out_107 : decode cX8_out 107 = .ok (.iconst 0, 1) := by decide +kernel
theorem dX8_out_108 : decode cX8_out 108 = .ok (.istore 5, 2) := by decide +kernel
theorem dX8_out_110 : decode cX8_out 110 = .ok (.aload_n 0, 1) := by decide +kernel
theorem dX8_out_111 : decode cX8_out 111 = .ok (.getfield 7, 3) := by decide +kernel
theorem dX8_out_114 : decode cX8_out 114 = .ok (.iload_n 1, 1) := by decide +kernel
theorem dX8_out_115 : decode cX8_out 115 = .ok (.iaload, 1) := by decide +kernel
theorem dX8_out_116 : decode cX8_out 116 = .ok (.iload 4, 2) := by decide +kernel
theorem dX8_out_118 : decode cX8_out 118 = .ok (.iconst (-1), 1) := by decide +kernel
theorem dX8_out_119 : decode cX8_out 119 = .ok (.ixor, 1) := by decide +kernel
theorem dX8_out_120 : decode cX8_out 120 = .ok (.iand, 1) := by decide +kernel
theorem dX8_out_121 : decode cX8_out 121 = .ok (.istore 6, 2) := by decide +kernel
theorem dX8_out_123 : decode cX8_out 123 = .ok (.iload 5, 2) := by decide +kernel
theorem dX8_out_125 : decode cX8_out 125 = .ok (.ifCond .eq 26, 3) := by decide +kernel
theorem dX8_out_128 : decode cX8_out 128 = .ok (.aload_n 0, 1) := by decide +kernel
theorem dX8_out_129 : decode cX8_out 129 = .ok (.iload 6, 2) := by decide +kernel
theorem dX8_out_131 : decode cX8_out 131 = .ok (.invokevirtual 181, 3) := by decide +kernel
theorem dX8_out_134 : decode cX8_out 134 = .ok (.ifCond .eq 17, 3) := by decide +kernel
theorem dX8_out_137 : decode cX8_out 137 = .ok (.aload_n 0, 1) := by decide +kernel
theorem dX8_out_138 : decode cX8_out 138 = .ok (.iload 6, 2) := by decide +kernel
theorem dX8_out_140 : decode cX8_out 140 = .ok (.invokevirtual 184, 3) := by decide +kernel
theorem dX8_out_143 : decode cX8_out 143 = .ok (.ifCond .ne 8, 3) := by decide +kernel
theorem dX8_out_146 : decode cX8_out 146 = .ok (.iload 4, 2) := by decide +kernel
theorem dX8_out_148 : decode cX8_out 148 = .ok (.goto 4, 3) := by decide +kernel
theorem dX8_out_151 : decode cX8_out 151 = .ok (.iload_n 3, 1) := by decide +kernel
theorem dX8_out_152 : decode cX8_out 152 = .ok (.istore_n 3, 1) := by decide +kernel
theorem dX8_out_153 : decode cX8_out 153 = .ok (.iinc 4 1, 3) := by decide +kernel
theorem dX8_out_156 : decode cX8_out 156 = .ok (.goto (-120), 3) := by decide +kernel
theorem dX8_out_159 : decode cX8_out 159 = .ok (.iload_n 3, 1) := by decide +kernel
theorem dX8_out_160 : decode cX8_out 160 = .ok (.ifCond .ge 8, 3) := by decide +kernel
theorem dX8_out_163 : decode cX8_out 163 = .ok (.bipush (-5), 2) := by decide +kernel
theorem dX8_out_165 : decode cX8_out 165 = .ok (.goto 16, 3) := by decide +kernel
theorem dX8_out_168 : decode cX8_out 168 = .ok (.iload_n 2, 1) := by decide +kernel
theorem dX8_out_169 : decode cX8_out 169 = .ok (.ifCond .ne 7, 3) := by decide +kernel
theorem dX8_out_172 : decode cX8_out 172 = .ok (.iload_n 3, 1) := by decide +kernel
theorem dX8_out_173 : decode cX8_out 173 = .ok (.goto 8, 3) := by decide +kernel
theorem dX8_out_176 : decode cX8_out 176 = .ok (.aload_n 0, 1) := by decide +kernel
theorem dX8_out_177 : decode cX8_out 177 = .ok (.iload_n 3, 1) := by decide +kernel
theorem dX8_out_178 : decode cX8_out 178 = .ok (.invokevirtual 193, 3) := by decide +kernel
theorem dX8_out_181 : decode cX8_out 181 = .ok (.ireturn, 1) := by decide +kernel
theorem dX8_core_0 : decode cX8_core 0 = .ok (.aload_n 0, 1) := by decide +kernel
theorem dX8_core_1 : decode cX8_core 1 = .ok (.iload_n 1, 1) := by decide +kernel
theorem dX8_core_2 : decode cX8_core 2 = .ok (.invokevirtual 83, 3) := by decide +kernel
theorem dX8_core_5 : decode cX8_core 5 = .ok (.ifCond .ne 5, 3) := by decide +kernel
theorem dX8_core_8 : decode cX8_core 8 = .ok (.iconst (-1), 1) := by decide +kernel
theorem dX8_core_9 : decode cX8_core 9 = .ok (.ireturn, 1) := by decide +kernel
theorem dX8_core_10 : decode cX8_core 10 = .ok (.aload_n 0, 1) := by decide +kernel
theorem dX8_core_11 : decode cX8_core 11 = .ok (.getfield 178, 3) := by decide +kernel
theorem dX8_core_14 : decode cX8_core 14 = .ok (.ifCond .ne 6, 3) := by decide +kernel
theorem dX8_core_17 : decode cX8_core 17 = .ok (.bipush (-3), 2) := by decide +kernel
theorem dX8_core_19 : decode cX8_core 19 = .ok (.ireturn, 1) := by decide +kernel
theorem dX8_core_20 : decode cX8_core 20 = .ok (.iconst 0, 1) := by decide +kernel
theorem dX8_core_21 : decode cX8_core 21 = .ok (.istore_n 3, 1) := by decide +kernel
theorem dX8_core_22 : decode cX8_core 22 = .ok (.bipush (-6), 2) := by decide +kernel
theorem dX8_core_24 : decode cX8_core 24 = .ok (.istore 4, 2) := by decide +kernel
theorem dX8_core_26 : decode cX8_core 26 = .ok (.iconst 0, 1) := by decide +kernel
theorem dX8_core_27 : decode cX8_core 27 = .ok (.istore 5, 2) := by decide +kernel
theorem dX8_core_29 : decode cX8_core 29 = .ok (.iload 5, 2) := by decide +kernel
theorem dX8_core_31 : decode cX8_core 31 = .ok (.iconst 1, 1) := by decide +kernel
theorem dX8_core_32 : decode cX8_core 32 = .ok (.aload_n 0, 1) := by decide +kernel
theorem dX8_core_33 : decode cX8_core 33 = .ok (.getfield 75, 3) := by decide +kernel
theorem dX8_core_36 : decode cX8_core 36 = .ok (.ishl, 1) := by decide +kernel
theorem dX8_core_37 : decode cX8_core 37 = .ok (.if_icmp .ge 157, 3) := by decide +kernel
theorem dX8_core_40 : decode cX8_core 40 = .ok (.iload 5, 2) := by decide +kernel
theorem dX8_core_42 : decode cX8_core 42 = .ok (.aload_n 0, 1) := by decide +kernel
theorem dX8_core_43 : decode cX8_core 43 = .ok (.getfield 7, 3) := by decide +kernel
theorem dX8_core_46 : decode cX8_core 46 = .ok (.iload_n 1, 1) := by decide +kernel
theorem dX8_core_47 : decode cX8_core 47 = .ok (.iaload, 1) := by decide +kernel
theorem dX8_core_48 : decode cX8_core 48 = .ok (.iconst (-1), 1) := by decide +kernel
theorem dX8_core_49 : decode cX8_core 49 = .ok (.ixor, 1) := by decide +kernel
theorem dX8_core_50 : decode cX8_core 50 = .ok (.iand, 1) := by decide +kernel
theorem dX8_core_51 : decode cX8_core 51 = .ok (.ifCond .ne 137, 3) := by decide +kernel
theorem dX8_core_54 : decode cX8_core 54 = .ok (.iconst 0, 1) := by decide +kernel
theorem dX8_core_55 : decode cX8_core 55 = .ok (.istore 6, 2) := by decide +kernel
theorem dX8_core_57 : decode cX8_core 57 = .ok (.iconst 0, 1) := by decide +kernel
theorem dX8_core_58 : decode cX8_core 58 = .ok (.istore 7, 2) := by decide +kernel
theorem dX8_core_60 : decode cX8_core 60 = .ok (.iload 7, 2) := by decide +kernel
theorem dX8_core_62 : decode cX8_core 62 = .ok (.aload_n 0, 1) := by decide +kernel
theorem dX8_core_63 : decode cX8_core 63 = .ok (.getfield 75, 3) := by decide +kernel
theorem dX8_core_66 : decode cX8_core 66 = .ok (.if_icmp .ge 48, 3) := by decide +kernel
theorem dX8_core_69 : decode cX8_core 69 = .ok (.iload 6, 2) := by decide +kernel
theorem dX8_core_71 : decode cX8_core 71 = .ok (.ifCond .ne 30, 3) := by decide +kernel
theorem dX8_core_74 : decode cX8_core 74 = .ok (.iload 5, 2) := by decide +kernel
theorem dX8_core_76 : decode cX8_core 76 = .ok (.iload 7, 2) := by decide +kernel
theorem dX8_core_78 : decode cX8_core 78 = .ok (.invokestatic 100, 3) := by decide +kernel
theorem dX8_core_81 : decode cX8_core 81 = .ok (.ifCond .eq 24, 3) := by decide +kernel
theorem dX8_core_84 : decode cX8_core 84 = .ok (.aload_n 0, 1) := by decide +kernel
theorem dX8_core_85 : decode cX8_core 85 = .ok (.getfield 72, 3) := by decide +kernel
theorem dX8_core_88 : decode cX8_core 88 = .ok (.iload 5, 2) := by decide +kernel
theorem dX8_core_90 : decode cX8_core 90 = .ok (.iconst 1, 1) := by decide +kernel
theorem dX8_core_91 : decode cX8_core 91 = .ok (.iload 7, 2) := by decide +kernel
theorem dX8_core_93 : decode cX8_core 93 = .ok (.ishl, 1) := by decide +kernel
theorem dX8_core_94 : decode cX8_core 94 = .ok (.iconst (-1), 1) := by decide +kernel
theorem dX8_core_95 : decode cX8_core 95 = .ok (.ixor, 1) := by decide +kernel
theorem dX8_core_96 : decode cX8_core 96 = .ok (.iand, 1) := by decide +kernel
theorem dX8_core_97 : decode cX8_core 97 = .ok (.baload, 1) := by decide +kernel
theorem dX8_core_98 : decode cX8_core 98 = .ok (.ifCond .eq 7, 3) := by decide +kernel
theorem dX8_core_101 : decode cX8_core 101 = .ok (.iconst 1, 1) := by decide +kernel
theorem dX8_core_102 : decode cX8_core 102 = .ok (.goto 4, 3) := by decide +kernel
theorem dX8_core_105 : decode cX8_core 105 = .ok (.iconst 0, 1) := by decide +kernel
theorem dX8_core_106 : decode cX8_core 106 = .ok (.istore 6, 2) := by decide +kernel
theorem dX8_core_108 : decode cX8_core 108 = .ok (.iinc 7 1, 3) := by decide +kernel
theorem dX8_core_111 : decode cX8_core 111 = .ok (.goto (-51), 3) := by decide +kernel
theorem dX8_core_114 : decode cX8_core 114 = .ok (.aload_n 0, 1) := by decide +kernel
theorem dX8_core_115 : decode cX8_core 115 = .ok (.iload 5, 2) := by decide +kernel
theorem dX8_core_117 : decode cX8_core 117 = .ok (.invokevirtual 181, 3) := by decide +kernel
theorem dX8_core_120 : decode cX8_core 120 = .ok (.ifCond .eq 16, 3) := by decide +kernel
theorem dX8_core_123 : decode cX8_core 123 = .ok (.aload_n 0, 1) := by decide +kernel
theorem dX8_core_124 : decode cX8_core 124 = .ok (.iload 5, 2) := by decide +kernel
theorem dX8_core_126 : decode cX8_core 126 = .ok (.invokevirtual 184, 3) := by decide +kernel
theorem dX8_core_129 : decode cX8_core 129 = .ok (.ifCond .eq 7, 3) := by decide +kernel
theorem dX8_core_132 : decode cX8_core 132 = .ok (.iconst 1, 1) := by decide +kernel
theorem dX8_core_133 : decode cX8_core 133 = .ok (.goto 4, 3) := by decide +kernel
theorem dX8_core_136 : decode cX8_core 136 = .ok (.iconst 0, 1) := by decide +kernel
theorem dX8_core_137 : decode cX8_core 137 = .ok (.istore 7, 2) := by decide +kernel
theorem dX8_core_139 : decode cX8_core 139 = .ok (.aload_n 0, 1) := by decide +kernel
theorem dX8_core_140 : decode cX8_core 140 = .ok (.getfield 72, 3) := by decide +kernel
theorem dX8_core_143 : decode cX8_core 143 = .ok (.iload 5, 2) := by decide +kernel
theorem dX8_core_145 : decode cX8_core 145 = .ok (.iload 6, 2) := by decide +kernel
theorem dX8_core_147 : decode cX8_core 147 = .ok (.ifCond .ne 8, 3) := by decide +kernel
theorem dX8_core_150 : decode cX8_core 150 = .ok (.iload 7, 2) := by decide +kernel
theorem dX8_core_152 : decode cX8_core 152 = .ok (.ifCond .eq 7, 3) := by decide +kernel
theorem dX8_core_155 : decode cX8_core 155 = .ok (.iconst 1, 1) := by decide +kernel
theorem dX8_core_156 : decode cX8_core 156 = .ok (.goto 4, 3) := by decide +kernel
theorem dX8_core_159 : decode cX8_core 159 = .ok (.iconst 0, 1) := by decide +kernel
theorem dX8_core_160 : decode cX8_core 160 = .ok (.bastore, 1) := by decide +kernel
theorem dX8_core_161 : decode cX8_core 161 = .ok (.iload 7, 2) := by decide +kernel
theorem dX8_core_163 : decode cX8_core 163 = .ok (.ifCond .eq 25, 3) := by decide +kernel
theorem dX8_core_166 : decode cX8_core 166 = .ok (.iload 6, 2) := by decide +kernel
theorem dX8_core_168 : decode cX8_core 168 = .ok (.ifCond .ne 20, 3) := by decide +kernel
theorem dX8_core_171 : decode cX8_core 171 = .ok (.iload_n 3, 1) := by decide +kernel
theorem dX8_core_172 : decode cX8_core 172 = .ok (.iload_n 2, 1) := by decide +kernel
theorem dX8_core_173 : decode cX8_core 173 = .ok (.if_icmp .ne 8, 3) := by decide +kernel
theorem dX8_core_176 : decode cX8_core 176 = .ok (.iload 5, 2) := by decide +kernel
theorem dX8_core_178 : decode cX8_core 178 = .ok (.goto 5, 3) := by decide +kernel
theorem dX8_core_181 : decode cX8_core 181 = .ok (.iload 4, 2) := by decide +kernel
theorem dX8_core_183 : decode cX8_core 183 = .ok (.istore 4, 2) := by decide +kernel
theorem dX8_core_185 : decode cX8_core 185 = .ok (.iinc 3 1, 3) := by decide +kernel
theorem dX8_core_188 : decode cX8_core 188 = .ok (.iinc 5 1, 3) := by decide +kernel
theorem dX8_core_191 : decode cX8_core 191 = .ok (.goto (-162), 3) := by decide +kernel
theorem dX8_core_194 : decode cX8_core 194 = .ok (.iload_n 2, 1) := by decide +kernel
theorem dX8_core_195 : decode cX8_core 195 = .ok (.iconst (-1), 1) := by decide +kernel
theorem dX8_core_196 : decode cX8_core 196 = .ok (.if_icmp .ne 7, 3) := by decide +kernel
theorem dX8_core_199 : decode cX8_core 199 = .ok (.iload_n 3, 1) := by decide +kernel
theorem dX8_core_200 : decode cX8_core 200 = .ok (.goto 5, 3) := by decide +kernel
theorem dX8_core_203 : decode cX8_core 203 = .ok (.iload 4, 2) := by decide +kernel
theorem dX8_core_205 : decode cX8_core 205 = .ok (.ireturn, 1) := by decide +kernel
theorem dX8_told_0 : decode cX8_told 0 = .ok (.iload_n 1, 1) := by decide +kernel
theorem dX8_told_1 : decode cX8_told 1 = .ok (.bipush 10, 2) := by decide +kernel
theorem dX8_told_3 : decode cX8_told 3 = .ok (.bipush 61, 2) := by decide +kernel
theorem dX8_told_5 : decode cX8_told 5 = .ok (.invokestatic 79, 3) := by decide +kernel
theorem dX8_told_8 : decode cX8_told 8 = .ok (.ifCond .eq 75, 3) := by decide +kernel
theorem dX8_told_11 : decode cX8_told 11 = .ok (.iload_n 1, 1) := by decide +kernel
theorem dX8_told_12 : decode cX8_told 12 = .ok (.bipush 10, 2) := by decide +kernel
theorem dX8_told_14 : decode cX8_told 14 = .ok (.isub, 1) := by decide +kernel
theorem dX8_told_15 : decode cX8_told 15 = .ok (.bipush 20, 2) := by decide +kernel
theorem dX8_told_17 : decode cX8_told 17 = .ok (.irem, 1) := by decide +kernel
theorem dX8_told_18 : decode cX8_told 18 = .ok (.istore_n 2, 1) := by decide +kernel
theorem dX8_told_19 : decode cX8_told 19 = .ok (.iload_n 1, 1) := by decide +kernel
theorem dX8_told_20 : decode cX8_told 20 = .ok (.bipush 10, 2) := by decide +kernel
theorem dX8_told_22 : decode cX8_told 22 = .ok (.isub, 1) := by decide +kernel
theorem dX8_told_23 : decode cX8_told 23 = .ok (.bipush 20, 2) := by decide +kernel
theorem dX8_told_25 : decode cX8_told 25 = .ok (.idiv, 1) := by decide +kernel
theorem dX8_told_26 : decode cX8_told 26 = .ok (.istore_n 3, 1) := by decide +kernel
theorem dX8_told_27 : decode cX8_told 27 = .ok (.iload_n 2, 1) := by decide +kernel
theorem dX8_told_28 : decode cX8_told 28 = .ok (.bipush 11, 2) := by decide +kernel
theorem dX8_told_30 : decode cX8_told 30 = .ok (.if_icmp .le 6, 3) := by decide +kernel
theorem dX8_told_33 : decode cX8_told 33 = .ok (.bipush (-2), 2) := by decide +kernel
theorem dX8_told_35 : decode cX8_told 35 = .ok (.ireturn, 1) := by decide +kernel
theorem dX8_told_36 : decode cX8_told 36 = .ok (.aload_n 0, 1) := by decide +kernel
theorem dX8_told_37 : decode cX8_told 37 = .ok (.iload_n 2, 1) := by decide +kernel
theorem dX8_told_38 : decode cX8_told 38 = .ok (.invokevirtual 83, 3) := by decide +kernel
theorem dX8_told_41 : decode cX8_told 41 = .ok (.ifCond .ne 8, 3) := by decide +kernel
theorem dX8_told_44 : decode cX8_told 44 = .ok (.bipush (-6), 2) := by decide +kernel
theorem dX8_told_46 : decode cX8_told 46 = .ok (.goto 36, 3) := by decide +kernel
theorem dX8_told_49 : decode cX8_told 49 = .ok (.iload_n 3, 1) := by decide +kernel
theorem dX8_told_50 : decode cX8_told 50 = .ok (.ifCond .ne 12, 3) := by decide +kernel
theorem dX8_told_53 : decode cX8_told 53 = .ok (.aload_n 0, 1) := by decide +kernel
theorem dX8_told_54 : decode cX8_told 54 = .ok (.getfield 13, 3) := by decide +kernel
theorem dX8_told_57 : decode cX8_told 57 = .ok (.iload_n 2, 1) := by decide +kernel
theorem dX8_told_58 : decode cX8_told 58 = .ok (.iaload, 1) := by decide +kernel
theorem dX8_told_59 : decode cX8_told 59 = .ok (.goto 23, 3) := by decide +kernel
theorem dX8_told_62 : decode cX8_told 62 = .ok (.iload_n 3, 1) := by decide +kernel
theorem dX8_told_63 : decode cX8_told 63 = .ok (.iconst 1, 1) := by decide +kernel
theorem dX8_told_64 : decode cX8_told 64 = .ok (.if_icmp .ne 12, 3) := by decide +kernel
theorem dX8_told_67 : decode cX8_told 67 = .ok (.aload_n 0, 1) := by decide +kernel
theorem dX8_told_68 : decode cX8_told 68 = .ok (.getfield 16, 3) := by decide +kernel
theorem dX8_told_71 : decode cX8_told 71 = .ok (.iload_n 2, 1) := by decide +kernel
theorem dX8_told_72 : decode cX8_told 72 = .ok (.iaload, 1) := by decide +kernel
theorem dX8_told_73 : decode cX8_told 73 = .ok (.goto 9, 3) := by decide +kernel
theorem dX8_told_76 : decode cX8_told 76 = .ok (.aload_n 0, 1) := by decide +kernel
theorem dX8_told_77 : decode cX8_told 77 = .ok (.getfield 19, 3) := by decide +kernel
theorem dX8_told_80 : decode cX8_told 80 = .ok (.iload_n 2, 1) := by decide +kernel
theorem dX8_told_81 : decode cX8_told 81 = .ok (.iaload, 1) := by decide +kernel
theorem dX8_told_82 : decode cX8_told 82 = .ok (.ireturn, 1) := by decide +kernel
theorem dX8_told_83 : decode cX8_told 83 = .ok (.iconst 0, 1) := by decide +kernel
theorem dX8_told_84 : decode cX8_told 84 = .ok (.istore_n 2, 1) := by decide +kernel
theorem dX8_told_85 : decode cX8_told 85 = .ok (.iconst 0, 1) := by decide +kernel
theorem dX8_told_86 : decode cX8_told 86 = .ok (.istore_n 3, 1) := by decide +kernel
theorem dX8_told_87 : decode cX8_told 87 = .ok (.iload_n 3, 1) := by decide +kernel
theorem dX8_told_88 : decode cX8_told 88 = .ok (.aload_n 0, 1) := by decide +kernel
theorem dX8_told_89 : decode cX8_told 89 = .ok (.getfield 75, 3) := by decide +kernel
theorem dX8_told_92 : decode cX8_told 92 = .ok (.if_icmp .ge 28, 3) := by decide +kernel
theorem dX8_told_95 : decode cX8_told 95 = .ok (.iload_n 2, 1) := by decide +kernel
theorem dX8_told_96 : decode cX8_told 96 = .ok (.aload_n 0, 1) := by decide +kernel
theorem dX8_told_97 : decode cX8_told 97 = .ok (.getfield 22, 3) := by decide +kernel
theorem dX8_told_100 : decode cX8_told 100 = .ok (.iload_n 3, 1) := by decide +kernel
theorem dX8_told_101 : decode cX8_told 101 = .ok (.baload, 1) := by decide +kernel
theorem dX8_told_102 : decode cX8_told 102 = .ok (.ifCond .eq 9, 3) := by decide +kernel
theorem dX8_told_105 : decode cX8_told 105 = .ok (.iconst 1, 1) := by decide +kernel
theorem dX8_told_106 : decode cX8_told 106 = .ok (.iload_n 3, 1) := by decide +kernel
theorem dX8_told_107 : decode cX8_told 107 = .ok (.ishl, 1) := by decide +kernel
theorem dX8_told_108 : decode cX8_told 108 = .ok (.goto 4, 3) := by decide +kernel
theorem dX8_told_111 : decode cX8_told 111 = .ok (.iconst 0, 1) := by decide +kernel
theorem dX8_told_112 : decode cX8_told 112 = .ok (.ior, 1) := by decide +kernel
theorem dX8_told_113 : decode cX8_told 113 = .ok (.istore_n 2, 1) := by decide +kernel
theorem dX8_told_114 : decode cX8_told 114 = .ok (.iinc 3 1, 3) := by decide +kernel
theorem dX8_told_117 : decode cX8_told 117 = .ok (.goto (-30), 3) := by decide +kernel
theorem dX8_told_120 : decode cX8_told 120 = .ok (.iload_n 1, 1) := by decide +kernel
theorem dX8_told_121 : decode cX8_told 121 = .ok (.tableswitch 77 0 9 #[55, 60, 65, 70, 77, 77, 77, 77, 77, 75], 55) := by decide +kernel
theorem dX8_told_176 : decode cX8_told 176 = .ok (.aload_n 0, 1) := by decide +kernel
theorem dX8_told_177 : decode cX8_told 177 = .ok (.getfield 75, 3) := by decide +kernel
theorem dX8_told_180 : decode cX8_told 180 = .ok (.ireturn, 1) := by decide +kernel
theorem dX8_told_181 : decode cX8_told 181 = .ok (.aload_n 0, 1) := by decide +kernel
theorem dX8_told_182 : decode cX8_told 182 = .ok (.getfield 91, 3) := by decide +kernel
theorem dX8_told_185 : decode cX8_told 185 = .ok (.ireturn, 1) := by decide +kernel
theorem dX8_told_186 : decode cX8_told 186 = .ok (.aload_n 0, 1) := by decide +kernel
theorem dX8_told_187 : decode cX8_told 187 = .ok (.getfield 172, 3) := by decide +kernel
theorem dX8_told_190 : decode cX8_told 190 = .ok (.ireturn, 1) := by decide +kernel
theorem dX8_told_191 : decode cX8_told 191 = .ok (.aload_n 0, 1) := by decide +kernel
theorem dX8_told_192 : decode cX8_told 192 = .ok (.getfield 178, 3) := by decide +kernel
theorem dX8_told_195 : decode cX8_told 195 = .ok (.ireturn, 1) := by decide +kernel
theorem dX8_told_196 : decode cX8_told 196 = .ok (.iload_n 2, 1) := by decide +kernel
theorem dX8_told_197 : decode cX8_told 197 = .ok (.ireturn, 1) := by decide +kernel
theorem dX8_told_198 : decode cX8_told 198 = .ok (.iload_n 1, 1) := by decide +kernel
theorem dX8_told_199 : decode cX8_told 199 = .ok (.iconst 4, 1) := by decide +kernel
theorem dX8_told_200 : decode cX8_told 200 = .ok (.bipush 8, 2) := by decide +kernel
theorem dX8_told_202 : decode cX8_told 202 = .ok (.invokestatic 79, 3) := by decide +kernel
theorem dX8_told_205 : decode cX8_told 205 = .ok (.ifCond .eq 14, 3) := by decide +kernel
theorem dX8_told_208 : decode cX8_told 208 = .ok (.aload_n 0, 1) := by decide +kernel
theorem dX8_told_209 : decode cX8_told 209 = .ok (.getfield 32, 3) := by decide +kernel
theorem dX8_told_212 : decode cX8_told 212 = .ok (.iload_n 1, 1) := by decide +kernel
theorem dX8_told_213 : decode cX8_told 213 = .ok (.iconst 4, 1) := by decide +kernel
theorem dX8_told_214 : decode cX8_told 214 = .ok (.isub, 1) := by decide +kernel
theorem dX8_told_215 : decode cX8_told 215 = .ok (.iaload, 1) := by decide +kernel
theorem dX8_told_216 : decode cX8_told 216 = .ok (.goto 5, 3) := by decide +kernel
theorem dX8_told_219 : decode cX8_told 219 = .ok (.bipush (-2), 2) := by decide +kernel
theorem dX8_told_221 : decode cX8_told 221 = .ok (.ireturn, 1) := by decide +kernel
theorem dJ6_bitCount_0f7a4_0 : decode cJ6_bitCount_0f7a4 0 = .ok (.iload_n 0, 1) := by decide +kernel
theorem dJ6_bitCount_0f7a4_1 : decode cJ6_bitCount_0f7a4 1 = .ok (.iload_n 0, 1) := by decide +kernel
theorem dJ6_bitCount_0f7a4_2 : decode cJ6_bitCount_0f7a4 2 = .ok (.iconst 1, 1) := by decide +kernel
theorem dJ6_bitCount_0f7a4_3 : decode cJ6_bitCount_0f7a4 3 = .ok (.iushr, 1) := by decide +kernel
theorem dJ6_bitCount_0f7a4_4 : decode cJ6_bitCount_0f7a4 4 = .ok (.ldc_w 265, 3) := by decide +kernel
theorem dJ6_bitCount_0f7a4_7 : decode cJ6_bitCount_0f7a4 7 = .ok (.iand, 1) := by decide +kernel
theorem dJ6_bitCount_0f7a4_8 : decode cJ6_bitCount_0f7a4 8 = .ok (.isub, 1) := by decide +kernel
theorem dJ6_bitCount_0f7a4_9 : decode cJ6_bitCount_0f7a4 9 = .ok (.istore_n 0, 1) := by decide +kernel
theorem dJ6_bitCount_0f7a4_10 : decode cJ6_bitCount_0f7a4 10 = .ok (.iload_n 0, 1) := by decide +kernel
theorem dJ6_bitCount_0f7a4_11 : decode cJ6_bitCount_0f7a4 11 = .ok (.ldc_w 266, 3) := by decide +kernel
theorem dJ6_bitCount_0f7a4_14 : decode cJ6_bitCount_0f7a4 14 = .ok (.iand, 1) := by decide +kernel
theorem dJ6_bitCount_0f7a4_15 : decode cJ6_bitCount_0f7a4 15 = .ok (.iload_n 0, 1) := by decide +kernel
theorem dJ6_bitCount_0f7a4_16 : decode cJ6_bitCount_0f7a4 16 = .ok (.iconst 2, 1) := by decide +kernel
theorem dJ6_bitCount_0f7a4_17 : decode cJ6_bitCount_0f7a4 17 = .ok (.iushr, 1) := by decide +kernel
theorem dJ6_bitCount_0f7a4_18 : decode cJ6_bitCount_0f7a4 18 = .ok (.ldc_w 266, 3) := by decide +kernel
theorem dJ6_bitCount_0f7a4_21 : decode cJ6_bitCount_0f7a4 21 = .ok (.iand, 1) := by decide +kernel
theorem dJ6_bitCount_0f7a4_22 : decode cJ6_bitCount_0f7a4 22 = .ok (.iadd, 1) := by decide +kernel
theorem dJ6_bitCount_0f7a4_23 : decode cJ6_bitCount_0f7a4 23 = .ok (.istore_n 0, 1) := by decide +kernel
theorem dJ6_bitCount_0f7a4_24 : decode cJ6_bitCount_0f7a4 24 = .ok (.iload_n 0, 1) := by decide +kernel
theorem dJ6_bitCount_0f7a4_25 : decode cJ6_bitCount_0f7a4 25 = .ok (.iload_n 0, 1) := by decide +kernel
theorem dJ6_bitCount_0f7a4_26 : decode cJ6_bitCount_0f7a4 26 = .ok (.iconst 4, 1) := by decide +kernel
theorem dJ6_bitCount_0f7a4_27 : decode cJ6_bitCount_0f7a4 27 = .ok (.iushr, 1) := by decide +kernel
theorem dJ6_bitCount_0f7a4_28 : decode cJ6_bitCount_0f7a4 28 = .ok (.iadd, 1) := by decide +kernel
theorem dJ6_bitCount_0f7a4_29 : decode cJ6_bitCount_0f7a4 29 = .ok (.ldc_w 267, 3) := by decide +kernel
theorem dJ6_bitCount_0f7a4_32 : decode cJ6_bitCount_0f7a4 32 = .ok (.iand, 1) := by decide +kernel
theorem dJ6_bitCount_0f7a4_33 : decode cJ6_bitCount_0f7a4 33 = .ok (.istore_n 0, 1) := by decide +kernel
theorem dJ6_bitCount_0f7a4_34 : decode cJ6_bitCount_0f7a4 34 = .ok (.iload_n 0, 1) := by decide +kernel
theorem dJ6_bitCount_0f7a4_35 : decode cJ6_bitCount_0f7a4 35 = .ok (.iload_n 0, 1) := by decide +kernel
theorem dJ6_bitCount_0f7a4_36 : decode cJ6_bitCount_0f7a4 36 = .ok (.bipush 8, 2) := by decide +kernel
theorem dJ6_bitCount_0f7a4_38 : decode cJ6_bitCount_0f7a4 38 = .ok (.iushr, 1) := by decide +kernel
theorem dJ6_bitCount_0f7a4_39 : decode cJ6_bitCount_0f7a4 39 = .ok (.iadd, 1) := by decide +kernel
theorem dJ6_bitCount_0f7a4_40 : decode cJ6_bitCount_0f7a4 40 = .ok (.istore_n 0, 1) := by decide +kernel
theorem dJ6_bitCount_0f7a4_41 : decode cJ6_bitCount_0f7a4 41 = .ok (.iload_n 0, 1) := by decide +kernel
theorem dJ6_bitCount_0f7a4_42 : decode cJ6_bitCount_0f7a4 42 = .ok (.iload_n 0, 1) := by decide +kernel
theorem dJ6_bitCount_0f7a4_43 : decode cJ6_bitCount_0f7a4 43 = .ok (.bipush 16, 2) := by decide +kernel
theorem dJ6_bitCount_0f7a4_45 : decode cJ6_bitCount_0f7a4 45 = .ok (.iushr, 1) := by decide +kernel
theorem dJ6_bitCount_0f7a4_46 : decode cJ6_bitCount_0f7a4 46 = .ok (.iadd, 1) := by decide +kernel
theorem dJ6_bitCount_0f7a4_47 : decode cJ6_bitCount_0f7a4 47 = .ok (.istore_n 0, 1) := by decide +kernel
theorem dJ6_bitCount_0f7a4_48 : decode cJ6_bitCount_0f7a4 48 = .ok (.iload_n 0, 1) := by decide +kernel
theorem dJ6_bitCount_0f7a4_49 : decode cJ6_bitCount_0f7a4 49 = .ok (.bipush 63, 2) := by decide +kernel
theorem dJ6_bitCount_0f7a4_51 : decode cJ6_bitCount_0f7a4 51 = .ok (.iand, 1) := by decide +kernel
theorem dJ6_bitCount_0f7a4_52 : decode cJ6_bitCount_0f7a4 52 = .ok (.ireturn, 1) := by decide +kernel
theorem dJ13_bitCount_95d88_0 : decode cJ13_bitCount_95d88 0 = .ok (.lload_n 0, 1) := by decide +kernel
theorem dJ13_bitCount_95d88_1 : decode cJ13_bitCount_95d88 1 = .ok (.lload_n 0, 1) := by decide +kernel
theorem dJ13_bitCount_95d88_2 : decode cJ13_bitCount_95d88 2 = .ok (.iconst 1, 1) := by decide +kernel
theorem dJ13_bitCount_95d88_3 : decode cJ13_bitCount_95d88 3 = .ok (.lushr, 1) := by decide +kernel
theorem dJ13_bitCount_95d88_4 : decode cJ13_bitCount_95d88 4 = .ok (.ldc2_w 314, 3) := by decide +kernel
theorem dJ13_bitCount_95d88_7 : decode cJ13_bitCount_95d88 7 = .ok (.land, 1) := by decide +kernel
theorem dJ13_bitCount_95d88_8 : decode cJ13_bitCount_95d88 8 = .ok (.lsub, 1) := by decide +kernel
theorem dJ13_bitCount_95d88_9 : decode cJ13_bitCount_95d88 9 = .ok (.lstore_n 0, 1) := by decide +kernel
theorem dJ13_bitCount_95d88_10 : decode cJ13_bitCount_95d88 10 = .ok (.lload_n 0, 1) := by decide +kernel
theorem dJ13_bitCount_95d88_11 : decode cJ13_bitCount_95d88 11 = .ok (.ldc2_w 316, 3) := by decide +kernel
theorem dJ13_bitCount_95d88_14 : decode cJ13_bitCount_95d88 14 = .ok (.land, 1) := by decide +kernel
theorem dJ13_bitCount_95d88_15 : decode cJ13_bitCount_95d88 15 = .ok (.lload_n 0, 1) := by decide +kernel
theorem dJ13_bitCount_95d88_16 : decode cJ13_bitCount_95d88 16 = .ok (.iconst 2, 1) := by decide +kernel
theorem dJ13_bitCount_95d88_17 : decode cJ13_bitCount_95d88 17 = .ok (.lushr, 1) := by decide +kernel
theorem dJ13_bitCount_95d88_18 : decode cJ13_bitCount_95d88 18 = .ok (.ldc2_w 316, 3) := by decide +kernel
theorem dJ13_bitCount_95d88_21 : decode cJ13_bitCount_95d88 21 = .ok (.land, 1) := by decide +kernel
theorem dJ13_bitCount_95d88_22 : decode cJ13_bitCount_95d88 22 = .ok (.ladd, 1) := by decide +kernel
theorem dJ13_bitCount_95d88_23 : decode cJ13_bitCount_95d88 23 = .ok (.lstore_n 0, 1) := by decide +kernel
theorem dJ13_bitCount_95d88_24 : decode cJ13_bitCount_95d88 24 = .ok (.lload_n 0, 1) := by decide +kernel
theorem dJ13_bitCount_95d88_25 : decode cJ13_bitCount_95d88 25 = .ok (.lload_n 0, 1) := by decide +kernel
theorem dJ13_bitCount_95d88_26 : decode cJ13_bitCount_95d88 26 = .ok (.iconst 4, 1) := by decide +kernel
theorem dJ13_bitCount_95d88_27 : decode cJ13_bitCount_95d88 27 = .ok (.lushr, 1) := by decide +kernel
theorem dJ13_bitCount_95d88_28 : decode cJ13_bitCount_95d88 28 = .ok (.ladd, 1) := by decide +kernel
theorem dJ13_bitCount_95d88_29 : decode cJ13_bitCount_95d88 29 = .ok (.ldc2_w 318, 3) := by decide +kernel
theorem dJ13_bitCount_95d88_32 : decode cJ13_bitCount_95d88 32 = .ok (.land, 1) := by decide +kernel
theorem dJ13_bitCount_95d88_33 : decode cJ13_bitCount_95d88 33 = .ok (.lstore_n 0, 1) := by decide +kernel
theorem dJ13_bitCount_95d88_34 : decode cJ13_bitCount_95d88 34 = .ok (.lload_n 0, 1) := by decide +kernel
theorem dJ13_bitCount_95d88_35 : decode cJ13_bitCount_95d88 35 = .ok (.lload_n 0, 1) := by decide +kernel
theorem dJ13_bitCount_95d88_36 : decode cJ13_bitCount_95d88 36 = .ok (.bipush 8, 2) := by decide +kernel
theorem dJ13_bitCount_95d88_38 : decode cJ13_bitCount_95d88 38 = .ok (.lushr, 1) := by decide +kernel
theorem dJ13_bitCount_95d88_39 : decode cJ13_bitCount_95d88 39 = .ok (.ladd, 1) := by decide +kernel
theorem dJ13_bitCount_95d88_40 : decode cJ13_bitCount_95d88 40 = .ok (.lstore_n 0, 1) := by decide +kernel
theorem dJ13_bitCount_95d88_41 : decode cJ13_bitCount_95d88 41 = .ok (.lload_n 0, 1) := by decide +kernel
theorem dJ13_bitCount_95d88_42 : decode cJ13_bitCount_95d88 42 = .ok (.lload_n 0, 1) := by decide +kernel
theorem dJ13_bitCount_95d88_43 : decode cJ13_bitCount_95d88 43 = .ok (.bipush 16, 2) := by decide +kernel
theorem dJ13_bitCount_95d88_45 : decode cJ13_bitCount_95d88 45 = .ok (.lushr, 1) := by decide +kernel
theorem dJ13_bitCount_95d88_46 : decode cJ13_bitCount_95d88 46 = .ok (.ladd, 1) := by decide +kernel
theorem dJ13_bitCount_95d88_47 : decode cJ13_bitCount_95d88 47 = .ok (.lstore_n 0, 1) := by decide +kernel
theorem dJ13_bitCount_95d88_48 : decode cJ13_bitCount_95d88 48 = .ok (.lload_n 0, 1) := by decide +kernel
theorem dJ13_bitCount_95d88_49 : decode cJ13_bitCount_95d88 49 = .ok (.lload_n 0, 1) := by decide +kernel
theorem dJ13_bitCount_95d88_50 : decode cJ13_bitCount_95d88 50 = .ok (.bipush 32, 2) := by decide +kernel
theorem dJ13_bitCount_95d88_52 : decode cJ13_bitCount_95d88 52 = .ok (.lushr, 1) := by decide +kernel
theorem dJ13_bitCount_95d88_53 : decode cJ13_bitCount_95d88 53 = .ok (.ladd, 1) := by decide +kernel
theorem dJ13_bitCount_95d88_54 : decode cJ13_bitCount_95d88 54 = .ok (.lstore_n 0, 1) := by decide +kernel
theorem dJ13_bitCount_95d88_55 : decode cJ13_bitCount_95d88 55 = .ok (.lload_n 0, 1) := by decide +kernel
theorem dJ13_bitCount_95d88_56 : decode cJ13_bitCount_95d88 56 = .ok (.l2i, 1) := by decide +kernel
theorem dJ13_bitCount_95d88_57 : decode cJ13_bitCount_95d88 57 = .ok (.bipush 127, 2) := by decide +kernel
theorem dJ13_bitCount_95d88_59 : decode cJ13_bitCount_95d88 59 = .ok (.iand, 1) := by decide +kernel
theorem dJ13_bitCount_95d88_60 : decode cJ13_bitCount_95d88 60 = .ok (.ireturn, 1) := by decide +kernel
theorem dJ9_abs_067f4_0 : decode cJ9_abs_067f4 0 = .ok (.lload_n 0, 1) := by decide +kernel
theorem dJ9_abs_067f4_1 : decode cJ9_abs_067f4 1 = .ok (.lconst 0, 1) := by decide +kernel
theorem dJ9_abs_067f4_2 : decode cJ9_abs_067f4 2 = .ok (.lcmp, 1) := by decide +kernel
theorem dJ9_abs_067f4_3 : decode cJ9_abs_067f4 3 = .ok (.ifCond .ge 8, 3) := by decide +kernel
theorem dJ9_abs_067f4_6 : decode cJ9_abs_067f4 6 = .ok (.lload_n 0, 1) := by decide +kernel
theorem dJ9_abs_067f4_7 : decode cJ9_abs_067f4 7 = .ok (.lneg, 1) := by decide +kernel
theorem dJ9_abs_067f4_8 : decode cJ9_abs_067f4 8 = .ok (.goto 4, 3) := by decide +kernel
theorem dJ9_abs_067f4_11 : decode cJ9_abs_067f4 11 = .ok (.lload_n 0, 1) := by decide +kernel
theorem dJ9_abs_067f4_12 : decode cJ9_abs_067f4 12 = .ok (.lreturn, 1) := by decide +kernel
theorem dJ9_max_7cf53_0 : decode cJ9_max_7cf53 0 = .ok (.iload_n 0, 1) := by decide +kernel
theorem dJ9_max_7cf53_1 : decode cJ9_max_7cf53 1 = .ok (.iload_n 1, 1) := by decide +kernel
theorem dJ9_max_7cf53_2 : decode cJ9_max_7cf53 2 = .ok (.if_icmp .lt 7, 3) := by decide +kernel
theorem dJ9_max_7cf53_5 : decode cJ9_max_7cf53 5 = .ok (.iload_n 0, 1) := by decide +kernel
theorem dJ9_max_7cf53_6 : decode cJ9_max_7cf53 6 = .ok (.goto 4, 3) := by decide +kernel
theorem dJ9_max_7cf53_9 : decode cJ9_max_7cf53 9 = .ok (.iload_n 1, 1) := by decide +kernel
theorem dJ9_max_7cf53_10 : decode cJ9_max_7cf53 10 = .ok (.ireturn, 1) := by decide +kernel
theorem dJ9_max_f86c9_0 : decode cJ9_max_f86c9 0 = .ok (.lload_n 0, 1) := by decide +kernel
theorem dJ9_max_f86c9_1 : decode cJ9_max_f86c9 1 = .ok (.lload_n 2, 1) := by decide +kernel
theorem dJ9_max_f86c9_2 : decode cJ9_max_f86c9 2 = .ok (.lcmp, 1) := by decide +kernel
theorem dJ9_max_f86c9_3 : decode cJ9_max_f86c9 3 = .ok (.ifCond .lt 7, 3) := by decide +kernel
theorem dJ9_max_f86c9_6 : decode cJ9_max_f86c9 6 = .ok (.lload_n 0, 1) := by decide +kernel
theorem dJ9_max_f86c9_7 : decode cJ9_max_f86c9 7 = .ok (.goto 4, 3) := by decide +kernel
theorem dJ9_max_f86c9_10 : decode cJ9_max_f86c9 10 = .ok (.lload_n 2, 1) := by decide +kernel
theorem dJ9_max_f86c9_11 : decode cJ9_max_f86c9 11 = .ok (.lreturn, 1) := by decide +kernel
theorem dJ9_min_7cf53_0 : decode cJ9_min_7cf53 0 = .ok (.iload_n 0, 1) := by decide +kernel
theorem dJ9_min_7cf53_1 : decode cJ9_min_7cf53 1 = .ok (.iload_n 1, 1) := by decide +kernel
theorem dJ9_min_7cf53_2 : decode cJ9_min_7cf53 2 = .ok (.if_icmp .gt 7, 3) := by decide +kernel
theorem dJ9_min_7cf53_5 : decode cJ9_min_7cf53 5 = .ok (.iload_n 0, 1) := by decide +kernel
theorem dJ9_min_7cf53_6 : decode cJ9_min_7cf53 6 = .ok (.goto 4, 3) := by decide +kernel
theorem dJ9_min_7cf53_9 : decode cJ9_min_7cf53 9 = .ok (.iload_n 1, 1) := by decide +kernel
theorem dJ9_min_7cf53_10 : decode cJ9_min_7cf53 10 = .ok (.ireturn, 1) := by decide +kernel
theorem dJ7_fill_53178_0 : decode cJ7_fill_53178 0 = .ok (.iconst 0, 1) := by decide +kernel
theorem dJ7_fill_53178_1 : decode cJ7_fill_53178 1 = .ok (.istore_n 2, 1) := by decide +kernel
theorem dJ7_fill_53178_2 : decode cJ7_fill_53178 2 = .ok (.aload_n 0, 1) := by decide +kernel
theorem dJ7_fill_53178_3 : decode cJ7_fill_53178 3 = .ok (.arraylength, 1) := by decide +kernel
theorem dJ7_fill_53178_4 : decode cJ7_fill_53178 4 = .ok (.istore_n 3, 1) := by decide +kernel
theorem dJ7_fill_53178_5 : decode cJ7_fill_53178 5 = .ok (.iload_n 2, 1) := by decide +kernel
theorem dJ7_fill_53178_6 : decode cJ7_fill_53178 6 = .ok (.iload_n 3, 1) := by decide +kernel
theorem dJ7_fill_53178_7 : decode cJ7_fill_53178 7 = .ok (.if_icmp .ge 13, 3) := by decide +kernel
theorem dJ7_fill_53178_10 : decode cJ7_fill_53178 10 = .ok (.aload_n 0, 1) := by decide +kernel
theorem dJ7_fill_53178_11 : decode cJ7_fill_53178 11 = .ok (.iload_n 2, 1) := by decide +kernel
theorem dJ7_fill_53178_12 : decode cJ7_fill_53178 12 = .ok (.iload_n 1, 1) := by decide +kernel
theorem dJ7_fill_53178_13 : decode cJ7_fill_53178 13 = .ok (.iastore, 1) := by decide +kernel
theorem dJ7_fill_53178_14 : decode cJ7_fill_53178 14 = .ok (.iinc 2 1, 3) := by decide +kernel
theorem dJ7_fill_53178_17 : decode cJ7_fill_53178 17 = .ok (.goto (-12), 3) := by decide +kernel
theorem dJ7_fill_53178_20 : decode cJ7_fill_53178 20 = .ok (.return_, 1) := by decide +kernel
theorem dL_law_0 : decode cL_law 0 = .ok (.new 7, 3) := by decide +kernel
theorem dL_law_3 : decode cL_law 3 = .ok (.dup, 1) := by decide +kernel
theorem dL_law_4 : decode cL_law 4 = .ok (.invokespecial 9, 3) := by decide +kernel
theorem dL_law_7 : decode cL_law 7 = .ok (.astore_n 1, 1) := by decide +kernel
theorem dL_law_8 : decode cL_law 8 = .ok (.new 10, 3) := by decide +kernel
theorem dL_law_11 : decode cL_law 11 = .ok (.dup, 1) := by decide +kernel
theorem dL_law_12 : decode cL_law 12 = .ok (.invokespecial 12, 3) := by decide +kernel
theorem dL_law_15 : decode cL_law 15 = .ok (.astore_n 2, 1) := by decide +kernel
theorem dL_law_16 : decode cL_law 16 = .ok (.iconst 0, 1) := by decide +kernel
theorem dL_law_17 : decode cL_law 17 = .ok (.istore_n 3, 1) := by decide +kernel
theorem dL_law_18 : decode cL_law 18 = .ok (.iload_n 3, 1) := by decide +kernel
theorem dL_law_19 : decode cL_law 19 = .ok (.aload_n 0, 1) := by decide +kernel
theorem dL_law_20 : decode cL_law 20 = .ok (.arraylength, 1) := by decide +kernel
theorem dL_law_21 : decode cL_law 21 = .ok (.iconst 5, 1) := by decide +kernel
theorem dL_law_22 : decode cL_law 22 = .ok (.isub, 1) := by decide +kernel
theorem dL_law_23 : decode cL_law 23 = .ok (.if_icmp .gt 914, 3) := by decide +kernel
theorem dL_law_26 : decode cL_law 26 = .ok (.aload_n 0, 1) := by decide +kernel
theorem dL_law_27 : decode cL_law 27 = .ok (.iload_n 3, 1) := by decide +kernel
theorem dL_law_28 : decode cL_law 28 = .ok (.iaload, 1) := by decide +kernel
theorem dL_law_29 : decode cL_law 29 = .ok (.bipush 31, 2) := by decide +kernel
theorem dL_law_31 : decode cL_law 31 = .ok (.iand, 1) := by decide +kernel
theorem dL_law_32 : decode cL_law 32 = .ok (.tableswitch 899 0 25 #[120, 163, 186, 229, 262, 311, 344, 357, 401, 455, 489, 523, 546, 580, 603, 636, 669, 692, 715, 728, 741, 754, 787, 810, 843, 876], 120) := by decide +kernel
theorem dL_law_152 : decode cL_law 152 = .ok (.aload_n 1, 1) := by decide +kernel
theorem dL_law_153 : decode cL_law 153 = .ok (.aload_n 0, 1) := by decide +kernel
theorem dL_law_154 : decode cL_law 154 = .ok (.iload_n 3, 1) := by decide +kernel
theorem dL_law_155 : decode cL_law 155 = .ok (.iconst 1, 1) := by decide +kernel
theorem dL_law_156 : decode cL_law 156 = .ok (.iadd, 1) := by decide +kernel
theorem dL_law_157 : decode cL_law 157 = .ok (.iaload, 1) := by decide +kernel
theorem dL_law_158 : decode cL_law 158 = .ok (.aload_n 0, 1) := by decide +kernel
theorem dL_law_159 : decode cL_law 159 = .ok (.iload_n 3, 1) := by decide +kernel
theorem dL_law_160 : decode cL_law 160 = .ok (.iconst 2, 1) := by decide +kernel
theorem dL_law_161 : decode cL_law 161 = .ok (.iadd, 1) := by decide +kernel
theorem dL_law_162 : decode cL_law 162 = .ok (.iaload, 1) := by decide +kernel
theorem dL_law_163 : decode cL_law 163 = .ok (.aload_n 0, 1) := by decide +kernel
theorem dL_law_164 : decode cL_law 164 = .ok (.iload_n 3, 1) := by decide +kernel
theorem dL_law_165 : decode cL_law 165 = .ok (.iconst 3, 1) := by decide +kernel
theorem dL_law_166 : decode cL_law 166 = .ok (.iadd, 1) := by decide +kernel
theorem dL_law_167 : decode cL_law 167 = .ok (.iaload, 1) := by decide +kernel
theorem dL_law_168 : decode cL_law 168 = .ok (.invokevirtual 13, 3) := by decide +kernel
theorem dL_law_171 : decode cL_law 171 = .ok (.aload_n 2, 1) := by decide +kernel
theorem dL_law_172 : decode cL_law 172 = .ok (.aload_n 0, 1) := by decide +kernel
theorem dL_law_173 : decode cL_law 173 = .ok (.iload_n 3, 1) := by decide +kernel
theorem dL_law_174 : decode cL_law 174 = .ok (.iconst 1, 1) := by decide +kernel
theorem dL_law_175 : decode cL_law 175 = .ok (.iadd, 1) := by decide +kernel
theorem dL_law_176 : decode cL_law 176 = .ok (.iaload, 1) := by decide +kernel
theorem dL_law_177 : decode cL_law 177 = .ok (.aload_n 0, 1) := by decide +kernel
theorem dL_law_178 : decode cL_law 178 = .ok (.iload_n 3, 1) := by decide +kernel
theorem dL_law_179 : decode cL_law 179 = .ok (.iconst 2, 1) := by decide +kernel
theorem dL_law_180 : decode cL_law 180 = .ok (.iadd, 1) := by decide +kernel
theorem dL_law_181 : decode cL_law 181 = .ok (.iaload, 1) := by decide +kernel
theorem dL_law_182 : decode cL_law 182 = .ok (.aload_n 0, 1) := by decide +kernel
theorem dL_law_183 : decode cL_law 183 = .ok (.iload_n 3, 1) := by decide +kernel
theorem dL_law_184 : decode cL_law 184 = .ok (.iconst 3, 1) := by decide +kernel
theorem dL_law_185 : decode cL_law 185 = .ok (.iadd, 1) := by decide +kernel
theorem dL_law_186 : decode cL_law 186 = .ok (.iaload, 1) := by decide +kernel
theorem dL_law_187 : decode cL_law 187 = .ok (.invokevirtual 17, 3) := by decide +kernel
theorem dL_law_190 : decode cL_law 190 = .ok (.if_icmp .eq 741, 3) := by decide +kernel
theorem dL_law_193 : decode cL_law 193 = .ok (.iconst 0, 1) := by decide +kernel
theorem dL_law_194 : decode cL_law 194 = .ok (.ireturn, 1) := by decide +kernel
theorem dL_law_195 : decode cL_law 195 = .ok (.aload_n 1, 1) := by decide +kernel
theorem dL_law_196 : decode cL_law 196 = .ok (.aload_n 0, 1) := by decide +kernel
theorem dL_law_197 : decode cL_law 197 = .ok (.iload_n 3, 1) := by decide +kernel
theorem dL_law_198 : decode cL_law 198 = .ok (.iconst 1, 1) := by decide +kernel
theorem dL_law_199 : decode cL_law 199 = .ok (.iadd, 1) := by decide +kernel
theorem dL_law_200 : decode cL_law 200 = .ok (.iaload, 1) := by decide +kernel
theorem dL_law_201 : decode cL_law 201 = .ok (.invokevirtual 18, 3) := by decide +kernel
theorem dL_law_204 : decode cL_law 204 = .ok (.aload_n 2, 1) := by decide +kernel
theorem dL_law_205 : decode cL_law 205 = .ok (.aload_n 0, 1) := by decide +kernel
theorem dL_law_206 : decode cL_law 206 = .ok (.iload_n 3, 1) := by decide +kernel
theorem dL_law_207 : decode cL_law 207 = .ok (.iconst 1, 1) := by decide +kernel
theorem dL_law_208 : decode cL_law 208 = .ok (.iadd, 1) := by decide +kernel
theorem dL_law_209 : decode cL_law 209 = .ok (.iaload, 1) := by decide +kernel
theorem dL_law_210 : decode cL_law 210 = .ok (.invokevirtual 22, 3) := by decide +kernel
theorem dL_law_213 : decode cL_law 213 = .ok (.if_icmp .eq 718, 3) := by decide +kernel
theorem dL_law_216 : decode cL_law 216 = .ok (.iconst 0, 1) := by decide +kernel
theorem dL_law_217 : decode cL_law 217 = .ok (.ireturn, 1) := by decide +kernel
theorem dL_law_218 : decode cL_law 218 = .ok (.aload_n 1, 1) := by decide +kernel
theorem dL_law_219 : decode cL_law 219 = .ok (.aload_n 0, 1) := by decide +kernel
theorem dL_law_220 : decode cL_law 220 = .ok (.iload_n 3, 1) := by decide +kernel
theorem dL_law_221 : decode cL_law 221 = .ok (.iconst 1, 1) := by decide +kernel
theorem dL_law_222 : decode cL_law 222 = .ok (.iadd, 1) := by decide +kernel
theorem dL_law_223 : decode cL_law 223 = .ok (.iaload, 1) := by decide +kernel
theorem dL_law_224 : decode cL_law 224 = .ok (.aload_n 0, 1) := by decide +kernel
theorem dL_law_225 : decode cL_law 225 = .ok (.iload_n 3, 1) := by decide +kernel
theorem dL_law_226 : decode cL_law 226 = .ok (.iconst 2, 1) := by decide +kernel
theorem dL_law_227 : decode cL_law 227 = .ok (.iadd, 1) := by decide +kernel
theorem dL_law_228 : decode cL_law 228 = .ok (.iaload, 1) := by decide +kernel
theorem dL_law_229 : decode cL_law 229 = .ok (.aload_n 0, 1) := by decide +kernel
theorem dL_law_230 : decode cL_law 230 = .ok (.iload_n 3, 1) := by decide +kernel
theorem dL_law_231 : decode cL_law 231 = .ok (.iconst 3, 1) := by decide +kernel
theorem dL_law_232 : decode cL_law 232 = .ok (.iadd, 1) := by decide +kernel
theorem dL_law_233 : decode cL_law 233 = .ok (.iaload, 1) := by decide +kernel
theorem dL_law_234 : decode cL_law 234 = .ok (.invokevirtual 23, 3) := by decide +kernel
theorem dL_law_237 : decode cL_law 237 = .ok (.aload_n 2, 1) := by decide +kernel
theorem dL_law_238 : decode cL_law 238 = .ok (.aload_n 0, 1) := by decide +kernel
theorem dL_law_239 : decode cL_law 239 = .ok (.iload_n 3, 1) := by decide +kernel
theorem dL_law_240 : decode cL_law 240 = .ok (.iconst 1, 1) := by decide +kernel
theorem dL_law_241 : decode cL_law 241 = .ok (.iadd, 1) := by decide +kernel
theorem dL_law_242 : decode cL_law 242 = .ok (.iaload, 1) := by decide +kernel
theorem dL_law_243 : decode cL_law 243 = .ok (.aload_n 0, 1) := by decide +kernel
theorem dL_law_244 : decode cL_law 244 = .ok (.iload_n 3, 1) := by decide +kernel
theorem dL_law_245 : decode cL_law 245 = .ok (.iconst 2, 1) := by decide +kernel
theorem dL_law_246 : decode cL_law 246 = .ok (.iadd, 1) := by decide +kernel
theorem dL_law_247 : decode cL_law 247 = .ok (.iaload, 1) := by decide +kernel
theorem dL_law_248 : decode cL_law 248 = .ok (.aload_n 0, 1) := by decide +kernel
theorem dL_law_249 : decode cL_law 249 = .ok (.iload_n 3, 1) := by decide +kernel
theorem dL_law_250 : decode cL_law 250 = .ok (.iconst 3, 1) := by decide +kernel
theorem dL_law_251 : decode cL_law 251 = .ok (.iadd, 1) := by decide +kernel
theorem dL_law_252 : decode cL_law 252 = .ok (.iaload, 1) := by decide +kernel
theorem dL_law_253 : decode cL_law 253 = .ok (.invokevirtual 26, 3) := by decide +kernel
theorem dL_law_256 : decode cL_law 256 = .ok (.if_icmp .eq 675, 3) := by decide +kernel
theorem dL_law_259 : decode cL_law 259 = .ok (.iconst 0, 1) := by decide +kernel
theorem dL_law_260 : decode cL_law 260 = .ok (.ireturn, 1) := by decide +kernel
theorem dL_law_261 : decode cL_law 261 = .ok (.aload_n 1, 1) := by decide +kernel
theorem dL_law_262 : decode cL_law 262 = .ok (.aload_n 0, 1) := by decide +kernel
theorem dL_law_263 : decode cL_law 263 = .ok (.iload_n 3, 1) := by decide +kernel
theorem dL_law_264 : decode cL_law 264 = .ok (.iconst 1, 1) := by decide +kernel
theorem dL_law_265 : decode cL_law 265 = .ok (.iadd, 1) := by decide +kernel
theorem dL_law_266 : decode cL_law 266 = .ok (.iaload, 1) := by decide +kernel
theorem dL_law_267 : decode cL_law 267 = .ok (.aload_n 0, 1) := by decide +kernel
theorem dL_law_268 : decode cL_law 268 = .ok (.iload_n 3, 1) := by decide +kernel
theorem dL_law_269 : decode cL_law 269 = .ok (.iconst 2, 1) := by decide +kernel
theorem dL_law_270 : decode cL_law 270 = .ok (.iadd, 1) := by decide +kernel
theorem dL_law_271 : decode cL_law 271 = .ok (.iaload, 1) := by decide +kernel
theorem dL_law_272 : decode cL_law 272 = .ok (.invokevirtual 27, 3) := by decide +kernel
theorem dL_law_275 : decode cL_law 275 = .ok (.aload_n 2, 1) := by decide +kernel
theorem dL_law_276 : decode cL_law 276 = .ok (.aload_n 0, 1) := by decide +kernel
theorem dL_law_277 : decode cL_law 277 = .ok (.iload_n 3, 1) := by decide +kernel
theorem dL_law_278 : decode cL_law 278 = .ok (.iconst 1, 1) := by decide +kernel
theorem dL_law_279 : decode cL_law 279 = .ok (.iadd, 1) := by decide +kernel
theorem dL_law_280 : decode cL_law 280 = .ok (.iaload, 1) := by decide +kernel
theorem dL_law_281 : decode cL_law 281 = .ok (.aload_n 0, 1) := by decide +kernel
theorem dL_law_282 : decode cL_law 282 = .ok (.iload_n 3, 1) := by decide +kernel
theorem dL_law_283 : decode cL_law 283 = .ok (.iconst 2, 1) := by decide +kernel
theorem dL_law_284 : decode cL_law 284 = .ok (.iadd, 1) := by decide +kernel
theorem dL_law_285 : decode cL_law 285 = .ok (.iaload, 1) := by decide +kernel
theorem dL_law_286 : decode cL_law 286 = .ok (.invokevirtual 31, 3) := by decide +kernel
theorem dL_law_289 : decode cL_law 289 = .ok (.if_icmp .eq 642, 3) := by decide +kernel
theorem dL_law_292 : decode cL_law 292 = .ok (.iconst 0, 1) := by decide +kernel
theorem dL_law_293 : decode cL_law 293 = .ok (.ireturn, 1) := by decide +kernel
theorem dL_law_294 : decode cL_law 294 = .ok (.aload_n 1, 1) := by decide +kernel
theorem dL_law_295 : decode cL_law 295 = .ok (.aload_n 0, 1) := by decide +kernel
theorem dL_law_296 : decode cL_law 296 = .ok (.iload_n 3, 1) := by decide +kernel
theorem dL_law_297 : decode cL_law 297 = .ok (.iconst 1, 1) := by decide +kernel
theorem dL_law_298 : decode cL_law 298 = .ok (.iadd, 1) := by decide +kernel
theorem dL_law_299 : decode cL_law 299 = .ok (.iaload, 1) := by decide +kernel
theorem dL_law_300 : decode cL_law 300 = .ok (.aload_n 0, 1) := by decide +kernel
theorem dL_law_301 : decode cL_law 301 = .ok (.iload_n 3, 1) := by decide +kernel
theorem dL_law_302 : decode cL_law 302 = .ok (.iconst 2, 1) := by decide +kernel
theorem dL_law_303 : decode cL_law 303 = .ok (.iadd, 1) := by decide +kernel
theorem dL_law_304 : decode cL_law 304 = .ok (.iaload, 1) := by decide +kernel
theorem dL_law_305 : decode cL_law 305 = .ok (.ifCond .eq 7, 3) := by decide +kernel
theorem dL_law_308 : decode cL_law 308 = .ok (.iconst 1, 1) := by decide +kernel
theorem dL_law_309 : decode cL_law 309 = .ok (.goto 4, 3) := by decide +kernel
theorem dL_law_312 : decode cL_law 312 = .ok (.iconst 0, 1) := by decide +kernel
theorem dL_law_313 : decode cL_law 313 = .ok (.invokevirtual 32, 3) := by decide +kernel
theorem dL_law_316 : decode cL_law 316 = .ok (.aload_n 2, 1) := by decide +kernel
theorem dL_law_317 : decode cL_law 317 = .ok (.aload_n 0, 1) := by decide +kernel
theorem dL_law_318 : decode cL_law 318 = .ok (.iload_n 3, 1) := by decide +kernel
theorem dL_law_319 : decode cL_law 319 = .ok (.iconst 1, 1) := by decide +kernel
theorem dL_law_320 : decode cL_law 320 = .ok (.iadd, 1) := by decide +kernel
theorem dL_law_321 : decode cL_law 321 = .ok (.iaload, 1) := by decide +kernel
theorem dL_law_322 : decode cL_law 322 = .ok (.aload_n 0, 1) := by decide +kernel
theorem dL_law_323 : decode cL_law 323 = .ok (.iload_n 3, 1) := by decide +kernel
theorem dL_law_324 : decode cL_law 324 = .ok (.iconst 2, 1) := by decide +kernel
theorem dL_law_325 : decode cL_law 325 = .ok (.iadd, 1) := by decide +kernel
theorem dL_law_326 : decode cL_law 326 = .ok (.iaload, 1) := by decide +kernel
theorem dL_law_327 : decode cL_law 327 = .ok (.ifCond .eq 7, 3) := by decide +kernel
theorem dL_law_330 : decode cL_law 330 = .ok (.iconst 1, 1) := by decide +kernel
theorem dL_law_331 : decode cL_law 331 = .ok (.goto 4, 3) := by decide +kernel
theorem dL_law_334 : decode cL_law 334 = .ok (.iconst 0, 1) := by decide +kernel
theorem dL_law_335 : decode cL_law 335 = .ok (.invokevirtual 36, 3) := by decide +kernel
theorem dL_law_338 : decode cL_law 338 = .ok (.if_icmp .eq 593, 3) := by decide +kernel
theorem dL_law_341 : decode cL_law 341 = .ok (.iconst 0, 1) := by decide +kernel
theorem dL_law_342 : decode cL_law 342 = .ok (.ireturn, 1) := by decide +kernel
theorem dL_law_343 : decode cL_law 343 = .ok (.aload_n 1, 1) := by decide +kernel
theorem dL_law_344 : decode cL_law 344 = .ok (.aload_n 0, 1) := by decide +kernel
theorem dL_law_345 : decode cL_law 345 = .ok (.iload_n 3, 1) := by decide +kernel
theorem dL_law_346 : decode cL_law 346 = .ok (.iconst 1, 1) := by decide +kernel
theorem dL_law_347 : decode cL_law 347 = .ok (.iadd, 1) := by decide +kernel
theorem dL_law_348 : decode cL_law 348 = .ok (.iaload, 1) := by decide +kernel
theorem dL_law_349 : decode cL_law 349 = .ok (.aload_n 0, 1) := by decide +kernel
theorem dL_law_350 : decode cL_law 350 = .ok (.iload_n 3, 1) := by decide +kernel
theorem dL_law_351 : decode cL_law 351 = .ok (.iconst 2, 1) := by decide +kernel
theorem dL_law_352 : decode cL_law 352 = .ok (.iadd, 1) := by decide +kernel
theorem dL_law_353 : decode cL_law 353 = .ok (.iaload, 1) := by decide +kernel
theorem dL_law_354 : decode cL_law 354 = .ok (.invokevirtual 37, 3) := by decide +kernel
theorem dL_law_357 : decode cL_law 357 = .ok (.aload_n 2, 1) := by decide +kernel
theorem dL_law_358 : decode cL_law 358 = .ok (.aload_n 0, 1) := by decide +kernel
theorem dL_law_359 : decode cL_law 359 = .ok (.iload_n 3, 1) := by decide +kernel
theorem dL_law_360 : decode cL_law 360 = .ok (.iconst 1, 1) := by decide +kernel
theorem dL_law_361 : decode cL_law 361 = .ok (.iadd, 1) := by decide +kernel
theorem dL_law_362 : decode cL_law 362 = .ok (.iaload, 1) := by decide +kernel
theorem dL_law_363 : decode cL_law 363 = .ok (.aload_n 0, 1) := by decide +kernel
theorem dL_law_364 : decode cL_law 364 = .ok (.iload_n 3, 1) := by decide +kernel
theorem dL_law_365 : decode cL_law 365 = .ok (.iconst 2, 1) := by decide +kernel
theorem dL_law_366 : decode cL_law 366 = .ok (.iadd, 1) := by decide +kernel
theorem dL_law_367 : decode cL_law 367 = .ok (.iaload, 1) := by decide +kernel
theorem dL_law_368 : decode cL_law 368 = .ok (.invokevirtual 40, 3) := by decide +kernel
theorem dL_law_371 : decode cL_law 371 = .ok (.if_icmp .eq 560, 3) := by decide +kernel
theorem dL_law_374 : decode cL_law 374 = .ok (.iconst 0, 1) := by decide +kernel
theorem dL_law_375 : decode cL_law 375 = .ok (.ireturn, 1) := by decide +kernel
theorem dL_law_376 : decode cL_law 376 = .ok (.aload_n 1, 1) := by decide +kernel
theorem dL_law_377 : decode cL_law 377 = .ok (.invokevirtual 41, 3) := by decide +kernel
theorem dL_law_380 : decode cL_law 380 = .ok (.aload_n 2, 1) := by decide +kernel
theorem dL_law_381 : decode cL_law 381 = .ok (.invokevirtual 45, 3) := by decide +kernel
theorem dL_law_384 : decode cL_law 384 = .ok (.if_icmp .eq 547, 3) := by decide +kernel
theorem dL_law_387 : decode cL_law 387 = .ok (.iconst 0, 1) := by decide +kernel
theorem dL_law_388 : decode cL_law 388 = .ok (.ireturn, 1) := by decide +kernel
theorem dL_law_389 : decode cL_law 389 = .ok (.aload_n 1, 1) := by decide +kernel
theorem dL_law_390 : decode cL_law 390 = .ok (.aload_n 0, 1) := by decide +kernel
theorem dL_law_391 : decode cL_law 391 = .ok (.iload_n 3, 1) := by decide +kernel
theorem dL_law_392 : decode cL_law 392 = .ok (.iconst 1, 1) := by decide +kernel
theorem dL_law_393 : decode cL_law 393 = .ok (.iadd, 1) := by decide +kernel
theorem dL_law_394 : decode cL_law 394 = .ok (.iaload, 1) := by decide +kernel
theorem dL_law_395 : decode cL_law 395 = .ok (.aload_n 0, 1) := by decide +kernel
theorem dL_law_396 : decode cL_law 396 = .ok (.iload_n 3, 1) := by decide +kernel
theorem dL_law_397 : decode cL_law 397 = .ok (.iconst 2, 1) := by decide +kernel
theorem dL_law_398 : decode cL_law 398 = .ok (.iadd, 1) := by decide +kernel
theorem dL_law_399 : decode cL_law 399 = .ok (.iaload, 1) := by decide +kernel
theorem dL_law_400 : decode cL_law 400 = .ok (.aload_n 0, 1) := by decide +kernel
theorem dL_law_401 : decode cL_law 401 = .ok (.iload_n 3, 1) := by decide +kernel
theorem dL_law_402 : decode cL_law 402 = .ok (.iconst 3, 1) := by decide +kernel
theorem dL_law_403 : decode cL_law 403 = .ok (.iadd, 1) := by decide +kernel
theorem dL_law_404 : decode cL_law 404 = .ok (.iaload, 1) := by decide +kernel
theorem dL_law_405 : decode cL_law 405 = .ok (.invokevirtual 46, 3) := by decide +kernel
theorem dL_law_408 : decode cL_law 408 = .ok (.aload_n 2, 1) := by decide +kernel
theorem dL_law_409 : decode cL_law 409 = .ok (.aload_n 0, 1) := by decide +kernel
theorem dL_law_410 : decode cL_law 410 = .ok (.iload_n 3, 1) := by decide +kernel
theorem dL_law_411 : decode cL_law 411 = .ok (.iconst 1, 1) := by decide +kernel
theorem dL_law_412 : decode cL_law 412 = .ok (.iadd, 1) := by decide +kernel
theorem dL_law_413 : decode cL_law 413 = .ok (.iaload, 1) := by decide +kernel
theorem dL_law_414 : decode cL_law 414 = .ok (.aload_n 0, 1) := by decide +kernel
theorem dL_law_415 : decode cL_law 415 = .ok (.iload_n 3, 1) := by decide +kernel
theorem dL_law_416 : decode cL_law 416 = .ok (.iconst 2, 1) := by decide +kernel
theorem dL_law_417 : decode cL_law 417 = .ok (.iadd, 1) := by decide +kernel
theorem dL_law_418 : decode cL_law 418 = .ok (.iaload, 1) := by decide +kernel
theorem dL_law_419 : decode cL_law 419 = .ok (.aload_n 0, 1) := by decide +kernel
theorem dL_law_420 : decode cL_law 420 = .ok (.iload_n 3, 1) := by decide +kernel
theorem dL_law_421 : decode cL_law 421 = .ok (.iconst 3, 1) := by decide +kernel
theorem dL_law_422 : decode cL_law 422 = .ok (.iadd, 1) := by decide +kernel
theorem dL_law_423 : decode cL_law 423 = .ok (.iaload, 1) := by decide +kernel
theorem dL_law_424 : decode cL_law 424 = .ok (.invokevirtual 50, 3) := by decide +kernel
theorem dL_law_427 : decode cL_law 427 = .ok (.lcmp, 1) := by decide +kernel
theorem dL_law_428 : decode cL_law 428 = .ok (.ifCond .eq 503, 3) := by decide +kernel
theorem dL_law_431 : decode cL_law 431 = .ok (.iconst 0, 1) := by decide +kernel
theorem dL_law_432 : decode cL_law 432 = .ok (.ireturn, 1) := by decide +kernel
theorem dL_law_433 : decode cL_law 433 = .ok (.aload_n 1, 1) := by decide +kernel
theorem dL_law_434 : decode cL_law 434 = .ok (.aload_n 0, 1) := by decide +kernel
theorem dL_law_435 : decode cL_law 435 = .ok (.iload_n 3, 1) := by decide +kernel
theorem dL_law_436 : decode cL_law 436 = .ok (.iconst 1, 1) := by decide +kernel
theorem dL_law_437 : decode cL_law 437 = .ok (.iadd, 1) := by decide +kernel
theorem dL_law_438 : decode cL_law 438 = .ok (.iaload, 1) := by decide +kernel
theorem dL_law_439 : decode cL_law 439 = .ok (.aload_n 0, 1) := by decide +kernel
theorem dL_law_440 : decode cL_law 440 = .ok (.iload_n 3, 1) := by decide +kernel
theorem dL_law_441 : decode cL_law 441 = .ok (.iconst 2, 1) := by decide +kernel
theorem dL_law_442 : decode cL_law 442 = .ok (.iadd, 1) := by decide +kernel
theorem dL_law_443 : decode cL_law 443 = .ok (.iaload, 1) := by decide +kernel
theorem dL_law_444 : decode cL_law 444 = .ok (.aload_n 0, 1) := by decide +kernel
theorem dL_law_445 : decode cL_law 445 = .ok (.iload_n 3, 1) := by decide +kernel
theorem dL_law_446 : decode cL_law 446 = .ok (.iconst 3, 1) := by decide +kernel
theorem dL_law_447 : decode cL_law 447 = .ok (.iadd, 1) := by decide +kernel
theorem dL_law_448 : decode cL_law 448 = .ok (.iaload, 1) := by decide +kernel
theorem dL_law_449 : decode cL_law 449 = .ok (.aload_n 0, 1) := by decide +kernel
theorem dL_law_450 : decode cL_law 450 = .ok (.iload_n 3, 1) := by decide +kernel
theorem dL_law_451 : decode cL_law 451 = .ok (.iconst 4, 1) := by decide +kernel
theorem dL_law_452 : decode cL_law 452 = .ok (.iadd, 1) := by decide +kernel
theorem dL_law_453 : decode cL_law 453 = .ok (.iaload, 1) := by decide +kernel
theorem dL_law_454 : decode cL_law 454 = .ok (.invokevirtual 51, 3) := by decide +kernel
theorem dL_law_457 : decode cL_law 457 = .ok (.aload_n 2, 1) := by decide +kernel
theorem dL_law_458 : decode cL_law 458 = .ok (.aload_n 0, 1) := by decide +kernel
theorem dL_law_459 : decode cL_law 459 = .ok (.iload_n 3, 1) := by decide +kernel
theorem dL_law_460 : decode cL_law 460 = .ok (.iconst 1, 1) := by decide +kernel
theorem dL_law_461 : decode cL_law 461 = .ok (.iadd, 1) := by decide +kernel
theorem dL_law_462 : decode cL_law 462 = .ok (.iaload, 1) := by decide +kernel
theorem dL_law_463 : decode cL_law 463 = .ok (.aload_n 0, 1) := by decide +kernel
theorem dL_law_464 : decode cL_law 464 = .ok (.iload_n 3, 1) := by decide +kernel
theorem dL_law_465 : decode cL_law 465 = .ok (.iconst 2, 1) := by decide +kernel
theorem dL_law_466 : decode cL_law 466 = .ok (.iadd, 1) := by decide +kernel
theorem dL_law_467 : decode cL_law 467 = .ok (.iaload, 1) := by decide +kernel
theorem dL_law_468 : decode cL_law 468 = .ok (.aload_n 0, 1) := by decide +kernel
theorem dL_law_469 : decode cL_law 469 = .ok (.iload_n 3, 1) := by decide +kernel
theorem dL_law_470 : decode cL_law 470 = .ok (.iconst 3, 1) := by decide +kernel
theorem dL_law_471 : decode cL_law 471 = .ok (.iadd, 1) := by decide +kernel
theorem dL_law_472 : decode cL_law 472 = .ok (.iaload, 1) := by decide +kernel
theorem dL_law_473 : decode cL_law 473 = .ok (.aload_n 0, 1) := by decide +kernel
theorem dL_law_474 : decode cL_law 474 = .ok (.iload_n 3, 1) := by decide +kernel
theorem dL_law_475 : decode cL_law 475 = .ok (.iconst 4, 1) := by decide +kernel
theorem dL_law_476 : decode cL_law 476 = .ok (.iadd, 1) := by decide +kernel
theorem dL_law_477 : decode cL_law 477 = .ok (.iaload, 1) := by decide +kernel
theorem dL_law_478 : decode cL_law 478 = .ok (.invokevirtual 55, 3) := by decide +kernel
theorem dL_law_481 : decode cL_law 481 = .ok (.lcmp, 1) := by decide +kernel
theorem dL_law_482 : decode cL_law 482 = .ok (.ifCond .eq 449, 3) := by decide +kernel
theorem dL_law_485 : decode cL_law 485 = .ok (.iconst 0, 1) := by decide +kernel
theorem dL_law_486 : decode cL_law 486 = .ok (.ireturn, 1) := by decide +kernel
theorem dL_law_487 : decode cL_law 487 = .ok (.aload_n 1, 1) := by decide +kernel
theorem dL_law_488 : decode cL_law 488 = .ok (.aload_n 0, 1) := by decide +kernel
theorem dL_law_489 : decode cL_law 489 = .ok (.iload_n 3, 1) := by decide +kernel
theorem dL_law_490 : decode cL_law 490 = .ok (.iconst 1, 1) := by decide +kernel
theorem dL_law_491 : decode cL_law 491 = .ok (.iadd, 1) := by decide +kernel
theorem dL_law_492 : decode cL_law 492 = .ok (.iaload, 1) := by decide +kernel
theorem dL_law_493 : decode cL_law 493 = .ok (.aload_n 0, 1) := by decide +kernel
theorem dL_law_494 : decode cL_law 494 = .ok (.iload_n 3, 1) := by decide +kernel
theorem dL_law_495 : decode cL_law 495 = .ok (.iconst 2, 1) := by decide +kernel
theorem dL_law_496 : decode cL_law 496 = .ok (.iadd, 1) := by decide +kernel
theorem dL_law_497 : decode cL_law 497 = .ok (.iaload, 1) := by decide +kernel
theorem dL_law_498 : decode cL_law 498 = .ok (.invokevirtual 56, 3) := by decide +kernel
theorem dL_law_501 : decode cL_law 501 = .ok (.aload_n 2, 1) := by decide +kernel
theorem dL_law_502 : decode cL_law 502 = .ok (.aload_n 0, 1) := by decide +kernel
theorem dL_law_503 : decode cL_law 503 = .ok (.iload_n 3, 1) := by decide +kernel
theorem dL_law_504 : decode cL_law 504 = .ok (.iconst 1, 1) := by decide +kernel
theorem dL_law_505 : decode cL_law 505 = .ok (.iadd, 1) := by decide +kernel
theorem dL_law_506 : decode cL_law 506 = .ok (.iaload, 1) := by decide +kernel
theorem dL_law_507 : decode cL_law 507 = .ok (.aload_n 0, 1) := by decide +kernel
theorem dL_law_508 : decode cL_law 508 = .ok (.iload_n 3, 1) := by decide +kernel
theorem dL_law_509 : decode cL_law 509 = .ok (.iconst 2, 1) := by decide +kernel
theorem dL_law_510 : decode cL_law 510 = .ok (.iadd, 1) := by decide +kernel
theorem dL_law_511 : decode cL_law 511 = .ok (.iaload, 1) := by decide +kernel
theorem dL_law_512 : decode cL_law 512 = .ok (.invokevirtual 60, 3) := by decide +kernel
theorem dL_law_515 : decode cL_law 515 = .ok (.lcmp, 1) := by decide +kernel
theorem dL_law_516 : decode cL_law 516 = .ok (.ifCond .eq 415, 3) := by decide +kernel
theorem dL_law_519 : decode cL_law 519 = .ok (.iconst 0, 1) := by decide +kernel
theorem dL_law_520 : decode cL_law 520 = .ok (.ireturn, 1) := by decide +kernel
theorem dL_law_521 : decode cL_law 521 = .ok (.aload_n 1, 1) := by decide +kernel
theorem dL_law_522 : decode cL_law 522 = .ok (.aload_n 0, 1) := by decide +kernel
theorem dL_law_523 : decode cL_law 523 = .ok (.iload_n 3, 1) := by decide +kernel
theorem dL_law_524 : decode cL_law 524 = .ok (.iconst 1, 1) := by decide +kernel
theorem dL_law_525 : decode cL_law 525 = .ok (.iadd, 1) := by decide +kernel
theorem dL_law_526 : decode cL_law 526 = .ok (.iaload, 1) := by decide +kernel
theorem dL_law_527 : decode cL_law 527 = .ok (.aload_n 0, 1) := by decide +kernel
theorem dL_law_528 : decode cL_law 528 = .ok (.iload_n 3, 1) := by decide +kernel
theorem dL_law_529 : decode cL_law 529 = .ok (.iconst 2, 1) := by decide +kernel
theorem dL_law_530 : decode cL_law 530 = .ok (.iadd, 1) := by decide +kernel
theorem dL_law_531 : decode cL_law 531 = .ok (.iaload, 1) := by decide +kernel
theorem dL_law_532 : decode cL_law 532 = .ok (.invokevirtual 61, 3) := by decide +kernel
theorem dL_law_535 : decode cL_law 535 = .ok (.aload_n 2, 1) := by decide +kernel
theorem dL_law_536 : decode cL_law 536 = .ok (.aload_n 0, 1) := by decide +kernel
theorem dL_law_537 : decode cL_law 537 = .ok (.iload_n 3, 1) := by decide +kernel
theorem dL_law_538 : decode cL_law 538 = .ok (.iconst 1, 1) := by decide +kernel
theorem dL_law_539 : decode cL_law 539 = .ok (.iadd, 1) := by decide +kernel
theorem dL_law_540 : decode cL_law 540 = .ok (.iaload, 1) := by decide +kernel
theorem dL_law_541 : decode cL_law 541 = .ok (.aload_n 0, 1) := by decide +kernel
theorem dL_law_542 : decode cL_law 542 = .ok (.iload_n 3, 1) := by decide +kernel
theorem dL_law_543 : decode cL_law 543 = .ok (.iconst 2, 1) := by decide +kernel
theorem dL_law_544 : decode cL_law 544 = .ok (.iadd, 1) := by decide +kernel
theorem dL_law_545 : decode cL_law 545 = .ok (.iaload, 1) := by decide +kernel
theorem dL_law_546 : decode cL_law 546 = .ok (.invokevirtual 64, 3) := by decide +kernel
theorem dL_law_549 : decode cL_law 549 = .ok (.lcmp, 1) := by decide +kernel
theorem dL_law_550 : decode cL_law 550 = .ok (.ifCond .eq 381, 3) := by decide +kernel
theorem dL_law_553 : decode cL_law 553 = .ok (.iconst 0, 1) := by decide +kernel
theorem dL_law_554 : decode cL_law 554 = .ok (.ireturn, 1) := by decide +kernel
theorem dL_law_555 : decode cL_law 555 = .ok (.aload_n 1, 1) := by decide +kernel
theorem dL_law_556 : decode cL_law 556 = .ok (.aload_n 0, 1) := by decide +kernel
theorem dL_law_557 : decode cL_law 557 = .ok (.iload_n 3, 1) := by decide +kernel
theorem dL_law_558 : decode cL_law 558 = .ok (.iconst 1, 1) := by decide +kernel
theorem dL_law_559 : decode cL_law 559 = .ok (.iadd, 1) := by decide +kernel
theorem dL_law_560 : decode cL_law 560 = .ok (.iaload, 1) := by decide +kernel
theorem dL_law_561 : decode cL_law 561 = .ok (.invokevirtual 65, 3) := by decide +kernel
theorem dL_law_564 : decode cL_law 564 = .ok (.aload_n 2, 1) := by decide +kernel
theorem dL_law_565 : decode cL_law 565 = .ok (.aload_n 0, 1) := by decide +kernel
theorem dL_law_566 : decode cL_law 566 = .ok (.iload_n 3, 1) := by decide +kernel
theorem dL_law_567 : decode cL_law 567 = .ok (.iconst 1, 1) := by decide +kernel
theorem dL_law_568 : decode cL_law 568 = .ok (.iadd, 1) := by decide +kernel
theorem dL_law_569 : decode cL_law 569 = .ok (.iaload, 1) := by decide +kernel
theorem dL_law_570 : decode cL_law 570 = .ok (.invokevirtual 68, 3) := by decide +kernel
theorem dL_law_573 : decode cL_law 573 = .ok (.if_icmp .eq 358, 3) := by decide +kernel
theorem dL_law_576 : decode cL_law 576 = .ok (.iconst 0, 1) := by decide +kernel
theorem dL_law_577 : decode cL_law 577 = .ok (.ireturn, 1) := by decide +kernel
theorem dL_law_578 : decode cL_law 578 = .ok (.aload_n 1, 1) := by decide +kernel
theorem dL_law_579 : decode cL_law 579 = .ok (.aload_n 0, 1) := by decide +kernel
theorem dL_law_580 : decode cL_law 580 = .ok (.iload_n 3, 1) := by decide +kernel
theorem dL_law_581 : decode cL_law 581 = .ok (.iconst 1, 1) := by decide +kernel
theorem dL_law_582 : decode cL_law 582 = .ok (.iadd, 1) := by decide +kernel
theorem dL_law_583 : decode cL_law 583 = .ok (.iaload, 1) := by decide +kernel
theorem dL_law_584 : decode cL_law 584 = .ok (.aload_n 0, 1) := by decide +kernel
theorem dL_law_585 : decode cL_law 585 = .ok (.iload_n 3, 1) := by decide +kernel
theorem dL_law_586 : decode cL_law 586 = .ok (.iconst 2, 1) := by decide +kernel
theorem dL_law_587 : decode cL_law 587 = .ok (.iadd, 1) := by decide +kernel
theorem dL_law_588 : decode cL_law 588 = .ok (.iaload, 1) := by decide +kernel
theorem dL_law_589 : decode cL_law 589 = .ok (.invokevirtual 69, 3) := by decide +kernel
theorem dL_law_592 : decode cL_law 592 = .ok (.aload_n 2, 1) := by decide +kernel
theorem dL_law_593 : decode cL_law 593 = .ok (.aload_n 0, 1) := by decide +kernel
theorem dL_law_594 : decode cL_law 594 = .ok (.iload_n 3, 1) := by decide +kernel
theorem dL_law_595 : decode cL_law 595 = .ok (.iconst 1, 1) := by decide +kernel
theorem dL_law_596 : decode cL_law 596 = .ok (.iadd, 1) := by decide +kernel
theorem dL_law_597 : decode cL_law 597 = .ok (.iaload, 1) := by decide +kernel
theorem dL_law_598 : decode cL_law 598 = .ok (.aload_n 0, 1) := by decide +kernel
theorem dL_law_599 : decode cL_law 599 = .ok (.iload_n 3, 1) := by decide +kernel
theorem dL_law_600 : decode cL_law 600 = .ok (.iconst 2, 1) := by decide +kernel
theorem dL_law_601 : decode cL_law 601 = .ok (.iadd, 1) := by decide +kernel
theorem dL_law_602 : decode cL_law 602 = .ok (.iaload, 1) := by decide +kernel
theorem dL_law_603 : decode cL_law 603 = .ok (.invokevirtual 72, 3) := by decide +kernel
theorem dL_law_606 : decode cL_law 606 = .ok (.lcmp, 1) := by decide +kernel
theorem dL_law_607 : decode cL_law 607 = .ok (.ifCond .eq 324, 3) := by decide +kernel
theorem dL_law_610 : decode cL_law 610 = .ok (.iconst 0, 1) := by decide +kernel
theorem dL_law_611 : decode cL_law 611 = .ok (.ireturn, 1) := by decide +kernel
theorem dL_law_612 : decode cL_law 612 = .ok (.aload_n 1, 1) := by decide +kernel
theorem dL_law_613 : decode cL_law 613 = .ok (.aload_n 0, 1) := by decide +kernel
theorem dL_law_614 : decode cL_law 614 = .ok (.iload_n 3, 1) := by decide +kernel
theorem dL_law_615 : decode cL_law 615 = .ok (.iconst 1, 1) := by decide +kernel
theorem dL_law_616 : decode cL_law 616 = .ok (.iadd, 1) := by decide +kernel
theorem dL_law_617 : decode cL_law 617 = .ok (.iaload, 1) := by decide +kernel
theorem dL_law_618 : decode cL_law 618 = .ok (.invokevirtual 73, 3) := by decide +kernel
theorem dL_law_621 : decode cL_law 621 = .ok (.aload_n 2, 1) := by decide +kernel
theorem dL_law_622 : decode cL_law 622 = .ok (.aload_n 0, 1) := by decide +kernel
theorem dL_law_623 : decode cL_law 623 = .ok (.iload_n 3, 1) := by decide +kernel
theorem dL_law_624 : decode cL_law 624 = .ok (.iconst 1, 1) := by decide +kernel
theorem dL_law_625 : decode cL_law 625 = .ok (.iadd, 1) := by decide +kernel
theorem dL_law_626 : decode cL_law 626 = .ok (.iaload, 1) := by decide +kernel
theorem dL_law_627 : decode cL_law 627 = .ok (.invokevirtual 76, 3) := by decide +kernel
theorem dL_law_630 : decode cL_law 630 = .ok (.if_icmp .eq 301, 3) := by decide +kernel
theorem dL_law_633 : decode cL_law 633 = .ok (.iconst 0, 1) := by decide +kernel
theorem dL_law_634 : decode cL_law 634 = .ok (.ireturn, 1) := by decide +kernel
theorem dL_law_635 : decode cL_law 635 = .ok (.aload_n 1, 1) := by decide +kernel
theorem dL_law_636 : decode cL_law 636 = .ok (.aload_n 0, 1) := by decide +kernel
theorem dL_law_637 : decode cL_law 637 = .ok (.iload_n 3, 1) := by decide +kernel
theorem dL_law_638 : decode cL_law 638 = .ok (.iconst 1, 1) := by decide +kernel
theorem dL_law_639 : decode cL_law 639 = .ok (.iadd, 1) := by decide +kernel
theorem dL_law_640 : decode cL_law 640 = .ok (.iaload, 1) := by decide +kernel
theorem dL_law_641 : decode cL_law 641 = .ok (.aload_n 0, 1) := by decide +kernel
theorem dL_law_642 : decode cL_law 642 = .ok (.iload_n 3, 1) := by decide +kernel
theorem dL_law_643 : decode cL_law 643 = .ok (.iconst 2, 1) := by decide +kernel
theorem dL_law_644 : decode cL_law 644 = .ok (.iadd, 1) := by decide +kernel
theorem dL_law_645 : decode cL_law 645 = .ok (.iaload, 1) := by decide +kernel
theorem dL_law_646 : decode cL_law 646 = .ok (.invokevirtual 77, 3) := by decide +kernel
theorem dL_law_649 : decode cL_law 649 = .ok (.aload_n 2, 1) := by decide +kernel
theorem dL_law_650 : decode cL_law 650 = .ok (.aload_n 0, 1) := by decide +kernel
theorem dL_law_651 : decode cL_law 651 = .ok (.iload_n 3, 1) := by decide +kernel
theorem dL_law_652 : decode cL_law 652 = .ok (.iconst 1, 1) := by decide +kernel
theorem dL_law_653 : decode cL_law 653 = .ok (.iadd, 1) := by decide +kernel
theorem dL_law_654 : decode cL_law 654 = .ok (.iaload, 1) := by decide +kernel
theorem dL_law_655 : decode cL_law 655 = .ok (.aload_n 0, 1) := by decide +kernel
theorem dL_law_656 : decode cL_law 656 = .ok (.iload_n 3, 1) := by decide +kernel
theorem dL_law_657 : decode cL_law 657 = .ok (.iconst 2, 1) := by decide +kernel
theorem dL_law_658 : decode cL_law 658 = .ok (.iadd, 1) := by decide +kernel
theorem dL_law_659 : decode cL_law 659 = .ok (.iaload, 1) := by decide +kernel
theorem dL_law_660 : decode cL_law 660 = .ok (.invokevirtual 80, 3) := by decide +kernel
theorem dL_law_663 : decode cL_law 663 = .ok (.if_icmp .eq 268, 3) := by decide +kernel
theorem dL_law_666 : decode cL_law 666 = .ok (.iconst 0, 1) := by decide +kernel
theorem dL_law_667 : decode cL_law 667 = .ok (.ireturn, 1) := by decide +kernel
theorem dL_law_668 : decode cL_law 668 = .ok (.aload_n 1, 1) := by decide +kernel
theorem dL_law_669 : decode cL_law 669 = .ok (.aload_n 0, 1) := by decide +kernel
theorem dL_law_670 : decode cL_law 670 = .ok (.iload_n 3, 1) := by decide +kernel
theorem dL_law_671 : decode cL_law 671 = .ok (.iconst 1, 1) := by decide +kernel
theorem dL_law_672 : decode cL_law 672 = .ok (.iadd, 1) := by decide +kernel
theorem dL_law_673 : decode cL_law 673 = .ok (.iaload, 1) := by decide +kernel
theorem dL_law_674 : decode cL_law 674 = .ok (.aload_n 0, 1) := by decide +kernel
theorem dL_law_675 : decode cL_law 675 = .ok (.iload_n 3, 1) := by decide +kernel
theorem dL_law_676 : decode cL_law 676 = .ok (.iconst 2, 1) := by decide +kernel
theorem dL_law_677 : decode cL_law 677 = .ok (.iadd, 1) := by decide +kernel
theorem dL_law_678 : decode cL_law 678 = .ok (.iaload, 1) := by decide +kernel
theorem dL_law_679 : decode cL_law 679 = .ok (.invokevirtual 81, 3) := by decide +kernel
theorem dL_law_682 : decode cL_law 682 = .ok (.aload_n 2, 1) := by decide +kernel
theorem dL_law_683 : decode cL_law 683 = .ok (.aload_n 0, 1) := by decide +kernel
theorem dL_law_684 : decode cL_law 684 = .ok (.iload_n 3, 1) := by decide +kernel
theorem dL_law_685 : decode cL_law 685 = .ok (.iconst 1, 1) := by decide +kernel
theorem dL_law_686 : decode cL_law 686 = .ok (.iadd, 1) := by decide +kernel
theorem dL_law_687 : decode cL_law 687 = .ok (.iaload, 1) := by decide +kernel
theorem dL_law_688 : decode cL_law 688 = .ok (.aload_n 0, 1) := by decide +kernel
theorem dL_law_689 : decode cL_law 689 = .ok (.iload_n 3, 1) := by decide +kernel
theorem dL_law_690 : decode cL_law 690 = .ok (.iconst 2, 1) := by decide +kernel
theorem dL_law_691 : decode cL_law 691 = .ok (.iadd, 1) := by decide +kernel
theorem dL_law_692 : decode cL_law 692 = .ok (.iaload, 1) := by decide +kernel
theorem dL_law_693 : decode cL_law 693 = .ok (.invokevirtual 84, 3) := by decide +kernel
theorem dL_law_696 : decode cL_law 696 = .ok (.if_icmp .eq 235, 3) := by decide +kernel
theorem dL_law_699 : decode cL_law 699 = .ok (.iconst 0, 1) := by decide +kernel
theorem dL_law_700 : decode cL_law 700 = .ok (.ireturn, 1) := by decide +kernel
theorem dL_law_701 : decode cL_law 701 = .ok (.aload_n 1, 1) := by decide +kernel
theorem dL_law_702 : decode cL_law 702 = .ok (.aload_n 0, 1) := by decide +kernel
theorem dL_law_703 : decode cL_law 703 = .ok (.iload_n 3, 1) := by decide +kernel
theorem dL_law_704 : decode cL_law 704 = .ok (.iconst 1, 1) := by decide +kernel
theorem dL_law_705 : decode cL_law 705 = .ok (.iadd, 1) := by decide +kernel
theorem dL_law_706 : decode cL_law 706 = .ok (.iaload, 1) := by decide +kernel
theorem dL_law_707 : decode cL_law 707 = .ok (.invokevirtual 85, 3) := by decide +kernel
theorem dL_law_710 : decode cL_law 710 = .ok (.aload_n 2, 1) := by decide +kernel
theorem dL_law_711 : decode cL_law 711 = .ok (.aload_n 0, 1) := by decide +kernel
theorem dL_law_712 : decode cL_law 712 = .ok (.iload_n 3, 1) := by decide +kernel
theorem dL_law_713 : decode cL_law 713 = .ok (.iconst 1, 1) := by decide +kernel
theorem dL_law_714 : decode cL_law 714 = .ok (.iadd, 1) := by decide +kernel
theorem dL_law_715 : decode cL_law 715 = .ok (.iaload, 1) := by decide +kernel
theorem dL_law_716 : decode cL_law 716 = .ok (.invokevirtual 88, 3) := by decide +kernel
theorem dL_law_719 : decode cL_law 719 = .ok (.if_icmp .eq 212, 3) := by decide +kernel
theorem dL_law_722 : decode cL_law 722 = .ok (.iconst 0, 1) := by decide +kernel
theorem dL_law_723 : decode cL_law 723 = .ok (.ireturn, 1) := by decide +kernel
theorem dL_law_724 : decode cL_law 724 = .ok (.aload_n 1, 1) := by decide +kernel
theorem dL_law_725 : decode cL_law 725 = .ok (.aload_n 0, 1) := by decide +kernel
theorem dL_law_726 : decode cL_law 726 = .ok (.iload_n 3, 1) := by decide +kernel
theorem dL_law_727 : decode cL_law 727 = .ok (.iconst 1, 1) := by decide +kernel
theorem dL_law_728 : decode cL_law 728 = .ok (.iadd, 1) := by decide +kernel
theorem dL_law_729 : decode cL_law 729 = .ok (.iaload, 1) := by decide +kernel
theorem dL_law_730 : decode cL_law 730 = .ok (.invokevirtual 89, 3) := by decide +kernel
theorem dL_law_733 : decode cL_law 733 = .ok (.aload_n 2, 1) := by decide +kernel
theorem dL_law_734 : decode cL_law 734 = .ok (.aload_n 0, 1) := by decide +kernel
theorem dL_law_735 : decode cL_law 735 = .ok (.iload_n 3, 1) := by decide +kernel
theorem dL_law_736 : decode cL_law 736 = .ok (.iconst 1, 1) := by decide +kernel
theorem dL_law_737 : decode cL_law 737 = .ok (.iadd, 1) := by decide +kernel
theorem dL_law_738 : decode cL_law 738 = .ok (.iaload, 1) := by decide +kernel
theorem dL_law_739 : decode cL_law 739 = .ok (.invokevirtual 92, 3) := by decide +kernel
theorem dL_law_742 : decode cL_law 742 = .ok (.if_icmp .eq 189, 3) := by decide +kernel
theorem dL_law_745 : decode cL_law 745 = .ok (.iconst 0, 1) := by decide +kernel
theorem dL_law_746 : decode cL_law 746 = .ok (.ireturn, 1) := by decide +kernel
theorem dL_law_747 : decode cL_law 747 = .ok (.aload_n 1, 1) := by decide +kernel
theorem dL_law_748 : decode cL_law 748 = .ok (.invokevirtual 93, 3) := by decide +kernel
theorem dL_law_751 : decode cL_law 751 = .ok (.aload_n 2, 1) := by decide +kernel
theorem dL_law_752 : decode cL_law 752 = .ok (.invokevirtual 96, 3) := by decide +kernel
theorem dL_law_755 : decode cL_law 755 = .ok (.if_icmp .eq 176, 3) := by decide +kernel
theorem dL_law_758 : decode cL_law 758 = .ok (.iconst 0, 1) := by decide +kernel
theorem dL_law_759 : decode cL_law 759 = .ok (.ireturn, 1) := by decide +kernel
theorem dL_law_760 : decode cL_law 760 = .ok (.aload_n 1, 1) := by decide +kernel
theorem dL_law_761 : decode cL_law 761 = .ok (.invokevirtual 97, 3) := by decide +kernel
theorem dL_law_764 : decode cL_law 764 = .ok (.aload_n 2, 1) := by decide +kernel
theorem dL_law_765 : decode cL_law 765 = .ok (.invokevirtual 100, 3) := by decide +kernel
theorem dL_law_768 : decode cL_law 768 = .ok (.if_icmp .eq 163, 3) := by decide +kernel
theorem dL_law_771 : decode cL_law 771 = .ok (.iconst 0, 1) := by decide +kernel
theorem dL_law_772 : decode cL_law 772 = .ok (.ireturn, 1) := by decide +kernel
theorem dL_law_773 : decode cL_law 773 = .ok (.aload_n 1, 1) := by decide +kernel
theorem dL_law_774 : decode cL_law 774 = .ok (.invokevirtual 101, 3) := by decide +kernel
theorem dL_law_777 : decode cL_law 777 = .ok (.aload_n 2, 1) := by decide +kernel
theorem dL_law_778 : decode cL_law 778 = .ok (.invokevirtual 104, 3) := by decide +kernel
theorem dL_law_781 : decode cL_law 781 = .ok (.if_icmp .eq 150, 3) := by decide +kernel
theorem dL_law_784 : decode cL_law 784 = .ok (.iconst 0, 1) := by decide +kernel
theorem dL_law_785 : decode cL_law 785 = .ok (.ireturn, 1) := by decide +kernel
theorem dL_law_786 : decode cL_law 786 = .ok (.aload_n 1, 1) := by decide +kernel
theorem dL_law_787 : decode cL_law 787 = .ok (.aload_n 0, 1) := by decide +kernel
theorem dL_law_788 : decode cL_law 788 = .ok (.iload_n 3, 1) := by decide +kernel
theorem dL_law_789 : decode cL_law 789 = .ok (.iconst 1, 1) := by decide +kernel
theorem dL_law_790 : decode cL_law 790 = .ok (.iadd, 1) := by decide +kernel
theorem dL_law_791 : decode cL_law 791 = .ok (.iaload, 1) := by decide +kernel
theorem dL_law_792 : decode cL_law 792 = .ok (.aload_n 0, 1) := by decide +kernel
theorem dL_law_793 : decode cL_law 793 = .ok (.iload_n 3, 1) := by decide +kernel
theorem dL_law_794 : decode cL_law 794 = .ok (.iconst 2, 1) := by decide +kernel
theorem dL_law_795 : decode cL_law 795 = .ok (.iadd, 1) := by decide +kernel
theorem dL_law_796 : decode cL_law 796 = .ok (.iaload, 1) := by decide +kernel
theorem dL_law_797 : decode cL_law 797 = .ok (.invokevirtual 105, 3) := by decide +kernel
theorem dL_law_800 : decode cL_law 800 = .ok (.aload_n 2, 1) := by decide +kernel
theorem dL_law_801 : decode cL_law 801 = .ok (.aload_n 0, 1) := by decide +kernel
theorem dL_law_802 : decode cL_law 802 = .ok (.iload_n 3, 1) := by decide +kernel
theorem dL_law_803 : decode cL_law 803 = .ok (.iconst 1, 1) := by decide +kernel
theorem dL_law_804 : decode cL_law 804 = .ok (.iadd, 1) := by decide +kernel
theorem dL_law_805 : decode cL_law 805 = .ok (.iaload, 1) := by decide +kernel
theorem dL_law_806 : decode cL_law 806 = .ok (.aload_n 0, 1) := by decide +kernel
theorem dL_law_807 : decode cL_law 807 = .ok (.iload_n 3, 1) := by decide +kernel
theorem dL_law_808 : decode cL_law 808 = .ok (.iconst 2, 1) := by decide +kernel
theorem dL_law_809 : decode cL_law 809 = .ok (.iadd, 1) := by decide +kernel
theorem dL_law_810 : decode cL_law 810 = .ok (.iaload, 1) := by decide +kernel
theorem dL_law_811 : decode cL_law 811 = .ok (.invokevirtual 108, 3) := by decide +kernel
theorem dL_law_814 : decode cL_law 814 = .ok (.if_icmp .eq 117, 3) := by decide +kernel
theorem dL_law_817 : decode cL_law 817 = .ok (.iconst 0, 1) := by decide +kernel
theorem dL_law_818 : decode cL_law 818 = .ok (.ireturn, 1) := by decide +kernel
theorem dL_law_819 : decode cL_law 819 = .ok (.aload_n 1, 1) := by decide +kernel
theorem dL_law_820 : decode cL_law 820 = .ok (.aload_n 0, 1) := by decide +kernel
theorem dL_law_821 : decode cL_law 821 = .ok (.iload_n 3, 1) := by decide +kernel
theorem dL_law_822 : decode cL_law 822 = .ok (.iconst 1, 1) := by decide +kernel
theorem dL_law_823 : decode cL_law 823 = .ok (.iadd, 1) := by decide +kernel
theorem dL_law_824 : decode cL_law 824 = .ok (.iaload, 1) := by decide +kernel
theorem dL_law_825 : decode cL_law 825 = .ok (.invokevirtual 109, 3) := by decide +kernel
theorem dL_law_828 : decode cL_law 828 = .ok (.aload_n 2, 1) := by decide +kernel
theorem dL_law_829 : decode cL_law 829 = .ok (.aload_n 0, 1) := by decide +kernel
theorem dL_law_830 : decode cL_law 830 = .ok (.iload_n 3, 1) := by decide +kernel
theorem dL_law_831 : decode cL_law 831 = .ok (.iconst 1, 1) := by decide +kernel
theorem dL_law_832 : decode cL_law 832 = .ok (.iadd, 1) := by decide +kernel
theorem dL_law_833 : decode cL_law 833 = .ok (.iaload, 1) := by decide +kernel
theorem dL_law_834 : decode cL_law 834 = .ok (.invokevirtual 112, 3) := by decide +kernel
theorem dL_law_837 : decode cL_law 837 = .ok (.if_icmp .eq 94, 3) := by decide +kernel
theorem dL_law_840 : decode cL_law 840 = .ok (.iconst 0, 1) := by decide +kernel
theorem dL_law_841 : decode cL_law 841 = .ok (.ireturn, 1) := by decide +kernel
theorem dL_law_842 : decode cL_law 842 = .ok (.aload_n 1, 1) := by decide +kernel
theorem dL_law_843 : decode cL_law 843 = .ok (.aload_n 0, 1) := by decide +kernel
theorem dL_law_844 : decode cL_law 844 = .ok (.iload_n 3, 1) := by decide +kernel
theorem dL_law_845 : decode cL_law 845 = .ok (.iconst 1, 1) := by decide +kernel
theorem dL_law_846 : decode cL_law 846 = .ok (.iadd, 1) := by decide +kernel
theorem dL_law_847 : decode cL_law 847 = .ok (.iaload, 1) := by decide +kernel
theorem dL_law_848 : decode cL_law 848 = .ok (.aload_n 0, 1) := by decide +kernel
theorem dL_law_849 : decode cL_law 849 = .ok (.iload_n 3, 1) := by decide +kernel
theorem dL_law_850 : decode cL_law 850 = .ok (.iconst 2, 1) := by decide +kernel
theorem dL_law_851 : decode cL_law 851 = .ok (.iadd, 1) := by decide +kernel
theorem dL_law_852 : decode cL_law 852 = .ok (.iaload, 1) := by decide +kernel
theorem dL_law_853 : decode cL_law 853 = .ok (.invokevirtual 113, 3) := by decide +kernel
theorem dL_law_856 : decode cL_law 856 = .ok (.aload_n 2, 1) := by decide +kernel
theorem dL_law_857 : decode cL_law 857 = .ok (.aload_n 0, 1) := by decide +kernel
theorem dL_law_858 : decode cL_law 858 = .ok (.iload_n 3, 1) := by decide +kernel
theorem dL_law_859 : decode cL_law 859 = .ok (.iconst 1, 1) := by decide +kernel
theorem dL_law_860 : decode cL_law 860 = .ok (.iadd, 1) := by decide +kernel
theorem dL_law_861 : decode cL_law 861 = .ok (.iaload, 1) := by decide +kernel
theorem dL_law_862 : decode cL_law 862 = .ok (.aload_n 0, 1) := by decide +kernel
theorem dL_law_863 : decode cL_law 863 = .ok (.iload_n 3, 1) := by decide +kernel
theorem dL_law_864 : decode cL_law 864 = .ok (.iconst 2, 1) := by decide +kernel
theorem dL_law_865 : decode cL_law 865 = .ok (.iadd, 1) := by decide +kernel
theorem dL_law_866 : decode cL_law 866 = .ok (.iaload, 1) := by decide +kernel
theorem dL_law_867 : decode cL_law 867 = .ok (.invokevirtual 116, 3) := by decide +kernel
theorem dL_law_870 : decode cL_law 870 = .ok (.if_icmp .eq 61, 3) := by decide +kernel
theorem dL_law_873 : decode cL_law 873 = .ok (.iconst 0, 1) := by decide +kernel
theorem dL_law_874 : decode cL_law 874 = .ok (.ireturn, 1) := by decide +kernel
theorem dL_law_875 : decode cL_law 875 = .ok (.aload_n 1, 1) := by decide +kernel
theorem dL_law_876 : decode cL_law 876 = .ok (.aload_n 0, 1) := by decide +kernel
theorem dL_law_877 : decode cL_law 877 = .ok (.iload_n 3, 1) := by decide +kernel
theorem dL_law_878 : decode cL_law 878 = .ok (.iconst 1, 1) := by decide +kernel
theorem dL_law_879 : decode cL_law 879 = .ok (.iadd, 1) := by decide +kernel
theorem dL_law_880 : decode cL_law 880 = .ok (.iaload, 1) := by decide +kernel
theorem dL_law_881 : decode cL_law 881 = .ok (.aload_n 0, 1) := by decide +kernel
theorem dL_law_882 : decode cL_law 882 = .ok (.iload_n 3, 1) := by decide +kernel
theorem dL_law_883 : decode cL_law 883 = .ok (.iconst 2, 1) := by decide +kernel
theorem dL_law_884 : decode cL_law 884 = .ok (.iadd, 1) := by decide +kernel
theorem dL_law_885 : decode cL_law 885 = .ok (.iaload, 1) := by decide +kernel
theorem dL_law_886 : decode cL_law 886 = .ok (.invokevirtual 117, 3) := by decide +kernel
theorem dL_law_889 : decode cL_law 889 = .ok (.aload_n 2, 1) := by decide +kernel
theorem dL_law_890 : decode cL_law 890 = .ok (.aload_n 0, 1) := by decide +kernel
theorem dL_law_891 : decode cL_law 891 = .ok (.iload_n 3, 1) := by decide +kernel
theorem dL_law_892 : decode cL_law 892 = .ok (.iconst 1, 1) := by decide +kernel
theorem dL_law_893 : decode cL_law 893 = .ok (.iadd, 1) := by decide +kernel
theorem dL_law_894 : decode cL_law 894 = .ok (.iaload, 1) := by decide +kernel
theorem dL_law_895 : decode cL_law 895 = .ok (.aload_n 0, 1) := by decide +kernel
theorem dL_law_896 : decode cL_law 896 = .ok (.iload_n 3, 1) := by decide +kernel
theorem dL_law_897 : decode cL_law 897 = .ok (.iconst 2, 1) := by decide +kernel
theorem dL_law_898 : decode cL_law 898 = .ok (.iadd, 1) := by decide +kernel
theorem dL_law_899 : decode cL_law 899 = .ok (.iaload, 1) := by decide +kernel
theorem dL_law_900 : decode cL_law 900 = .ok (.invokevirtual 120, 3) := by decide +kernel
theorem dL_law_903 : decode cL_law 903 = .ok (.if_icmp .eq 28, 3) := by decide +kernel
theorem dL_law_906 : decode cL_law 906 = .ok (.iconst 0, 1) := by decide +kernel
theorem dL_law_907 : decode cL_law 907 = .ok (.ireturn, 1) := by decide +kernel
theorem dL_law_908 : decode cL_law 908 = .ok (.aload_n 1, 1) := by decide +kernel
theorem dL_law_909 : decode cL_law 909 = .ok (.aload_n 0, 1) := by decide +kernel
theorem dL_law_910 : decode cL_law 910 = .ok (.iload_n 3, 1) := by decide +kernel
theorem dL_law_911 : decode cL_law 911 = .ok (.iconst 1, 1) := by decide +kernel
theorem dL_law_912 : decode cL_law 912 = .ok (.iadd, 1) := by decide +kernel
theorem dL_law_913 : decode cL_law 913 = .ok (.iaload, 1) := by decide +kernel
theorem dL_law_914 : decode cL_law 914 = .ok (.invokevirtual 121, 3) := by decide +kernel
theorem dL_law_917 : decode cL_law 917 = .ok (.aload_n 2, 1) := by decide +kernel
theorem dL_law_918 : decode cL_law 918 = .ok (.aload_n 0, 1) := by decide +kernel
theorem dL_law_919 : decode cL_law 919 = .ok (.iload_n 3, 1) := by decide +kernel
theorem dL_law_920 : decode cL_law 920 = .ok (.iconst 1, 1) := by decide +kernel
theorem dL_law_921 : decode cL_law 921 = .ok (.iadd, 1) := by decide +kernel
theorem dL_law_922 : decode cL_law 922 = .ok (.iaload, 1) := by decide +kernel
theorem dL_law_923 : decode cL_law 923 = .ok (.invokevirtual 124, 3) := by decide +kernel
theorem dL_law_926 : decode cL_law 926 = .ok (.if_icmp .eq 5, 3) := by decide +kernel
theorem dL_law_929 : decode cL_law 929 = .ok (.iconst 0, 1) := by decide +kernel
theorem dL_law_930 : decode cL_law 930 = .ok (.ireturn, 1) := by decide +kernel
theorem dL_law_931 : decode cL_law 931 = .ok (.iinc 3 5, 3) := by decide +kernel
theorem dL_law_934 : decode cL_law 934 = .ok (.goto (-916), 3) := by decide +kernel
theorem dL_law_937 : decode cL_law 937 = .ok (.iconst 1, 1) := by decide +kernel
theorem dL_law_938 : decode cL_law 938 = .ok (.ireturn, 1) := by decide +kernel
