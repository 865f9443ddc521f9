theorem dX8_version_162 : decode cX8_version 162 = .ok (.aload_n 0, 1) := by decide +kernel
theorem dX8_version_163 : decode cX8_version 163 = .ok (.getfield 75, 3) := by decide +kernel
theorem dX8_version_166 : decode cX8_version 166 = .ok (.iconst 0, 1) := by decide +kernel
theorem dX8_version_167 : decode cX8_version 167 = .ok (.bastore, 1) := by decide +kernel
theorem dX8_version_168 : decode cX8_version 168 = .ok (.aload_n 0, 1) := by decide +kernel
theorem dX8_version_169 : decode cX8_version 169 = .ok (.dup, 1) := by decide +kernel
theorem dX8_version_170 : decode cX8_version 170 = .ok (.getfield 75, 3) := by decide +kernel
theorem dX8_version_173 : decode cX8_version 173 = .ok (.iconst 1, 1) := by decide +kernel
theorem dX8_version_174 : decode cX8_version 174 = .ok (.iadd, 1) := by decide +kernel
theorem dX8_version_175 : decode cX8_version 175 = .ok (.putfield 75, 3) := by decide +kernel
theorem dX8_version_178 : decode cX8_version 178 = .ok (.aload_n 0, 1) := by decide +kernel
theorem dX8_version_179 : decode cX8_version 179 = .ok (.iconst 0, 1) := by decide +kernel
theorem dX8_version_180 : decode cX8_version 180 = .ok (.putfield 87, 3) := by decide +kernel
theorem dX8_version_183 : decode cX8_version 183 = .ok (.aload_n 0, 1) := by decide +kernel
theorem dX8_version_184 : decode cX8_version 184 = .ok (.getfield 75, 3) := by decide +kernel
theorem dX8_version_187 : decode cX8_version 187 = .ok (.iconst 1, 1) := by decide +kernel
theorem dX8_version_188 : decode cX8_version 188 = .ok (.isub, 1) := by decide +kernel
theorem dX8_version_189 : decode cX8_version 189 = .ok (.ireturn, 1) := by decide +kernel
theorem dX8_has_0 : decode cX8_has 0 = .ok (.aload_n 0, 1) := by decide +kernel
theorem dX8_has_1 : decode cX8_has 1 = .ok (.iload_n 1, 1) := by decide +kernel
theorem dX8_has_2 : decode cX8_has 2 = .ok (.invokevirtual 83, 3) := by decide +kernel
theorem dX8_has_5 : decode cX8_has 5 = .ok (.ifCond .eq 12, 3) := by decide +kernel
theorem dX8_has_8 : decode cX8_has 8 = .ok (.aload_n 0, 1) := by decide +kernel
theorem dX8_has_9 : decode cX8_has 9 = .ok (.getfield 7, 3) := by decide +kernel
theorem dX8_has_12 : decode cX8_has 12 = .ok (.iload_n 1, 1) := by decide +kernel
theorem dX8_has_13 : decode cX8_has 13 = .ok (.iaload, 1) := by decide +kernel
theorem dX8_has_14 : decode cX8_has 14 = .ok (.goto 4, 3) := by decide +kernel
theorem dX8_has_17 : decode cX8_has 17 = .ok (.iconst (-1), 1) := by decide +kernel
theorem dX8_has_18 : decode cX8_has 18 = .ok (.ireturn, 1) := by decide +kernel
theorem dX8_isTested_0 : decode cX8_isTested 0 = .ok (.iconst 0, 1) := by decide +kernel
theorem dX8_isTested_1 : decode cX8_isTested 1 = .ok (.istore_n 2, 1) := by decide +kernel
theorem dX8_isTested_2 : decode cX8_isTested 2 = .ok (.iconst 0, 1) := by decide +kernel
theorem dX8_isTested_3 : decode cX8_isTested 3 = .ok (.istore_n 3, 1) := by decide +kernel
theorem dX8_isTested_4 : decode cX8_isTested 4 = .ok (.iload_n 3, 1) := by decide +kernel
theorem dX8_isTested_5 : decode cX8_isTested 5 = .ok (.aload_n 0, 1) := by decide +kernel
theorem dX8_isTested_6 : decode cX8_isTested 6 = .ok (.getfield 91, 3) := by decide +kernel
theorem dX8_isTested_9 : decode cX8_isTested 9 = .ok (.if_icmp .ge 29, 3) := by decide +kernel
theorem dX8_isTested_12 : decode cX8_isTested 12 = .ok (.iload_n 2, 1) := by decide +kernel
theorem dX8_isTested_13 : decode cX8_isTested 13 = .ok (.ifCond .ne 13, 3) := by decide +kernel
theorem dX8_isTested_16 : decode cX8_isTested 16 = .ok (.aload_n 0, 1) := by decide +kernel
theorem dX8_isTested_17 : decode cX8_isTested 17 = .ok (.getfield 26, 3) := by decide +kernel
theorem dX8_isTested_20 : decode cX8_isTested 20 = .ok (.iload_n 3, 1) := by decide +kernel
theorem dX8_isTested_21 : decode cX8_isTested 21 = .ok (.iaload, 1) := by decide +kernel
theorem dX8_isTested_22 : decode cX8_isTested 22 = .ok (.iload_n 1, 1) := by decide +kernel
theorem dX8_isTested_23 : decode cX8_isTested 23 = .ok (.if_icmp .ne 7, 3) := by decide +kernel
theorem dX8_isTested_26 : decode cX8_isTested 26 = .ok (.iconst 1, 1) := by decide +kernel
theorem dX8_isTested_27 : decode cX8_isTested 27 = .ok (.goto 4, 3) := by decide +kernel
theorem dX8_isTested_30 : decode cX8_isTested 30 = .ok (.iconst 0, 1) := by decide +kernel
theorem dX8_isTested_31 : decode cX8_isTested 31 = .ok (.istore_n 2, 1) := by decide +kernel
theorem dX8_isTested_32 : decode cX8_isTested 32 = .ok (.iinc 3 1, 3) := by decide +kernel
theorem dX8_isTested_35 : decode cX8_isTested 35 = .ok (.goto (-31), 3) := by decide +kernel
theorem dX8_isTested_38 : decode cX8_isTested 38 = .ok (.iload_n 2, 1) := by decide +kernel
theorem dX8_isTested_39 : decode cX8_isTested 39 = .ok (.ireturn, 1) := by decide +kernel
theorem dX8_set_0 : decode cX8_set 0 = .ok (.aload_n 0, 1) := by decide +kernel
theorem dX8_set_1 : decode cX8_set 1 = .ok (.iload_n 1, 1) := by decide +kernel
theorem dX8_set_2 : decode cX8_set 2 = .ok (.invokevirtual 83, 3) := by decide +kernel
theorem dX8_set_5 : decode cX8_set 5 = .ok (.ifCond .ne 5, 3) := by decide +kernel
theorem dX8_set_8 : decode cX8_set 8 = .ok (.iconst (-1), 1) := by decide +kernel
theorem dX8_set_9 : decode cX8_set 9 = .ok (.ireturn, 1) := by decide +kernel
theorem dX8_set_10 : decode cX8_set 10 = .ok (.iload_n 2, 1) := by decide +kernel
theorem dX8_set_11 : decode cX8_set 11 = .ok (.ifCond .eq 8, 3) := by decide +kernel
theorem dX8_set_14 : decode cX8_set 14 = .ok (.iload_n 2, 1) := by decide +kernel
theorem dX8_set_15 : decode cX8_set 15 = .ok (.iconst 1, 1) := by decide +kernel
theorem dX8_set_16 : decode cX8_set 16 = .ok (.if_icmp .ne 13, 3) := by decide +kernel
theorem dX8_set_19 : decode cX8_set 19 = .ok (.iload_n 3, 1) := by decide +kernel
theorem dX8_set_20 : decode cX8_set 20 = .ok (.iconst 1, 1) := by decide +kernel
theorem dX8_set_21 : decode cX8_set 21 = .ok (.bipush 9, 2) := by decide +kernel
theorem dX8_set_23 : decode cX8_set 23 = .ok (.invokestatic 79, 3) := by decide +kernel
theorem dX8_set_26 : decode cX8_set 26 = .ok (.goto 38, 3) := by decide +kernel
theorem dX8_set_29 : decode cX8_set 29 = .ok (.iload_n 2, 1) := by decide +kernel
theorem dX8_set_30 : decode cX8_set 30 = .ok (.iconst 2, 1) := by decide +kernel
theorem dX8_set_31 : decode cX8_set 31 = .ok (.if_icmp .ne 16, 3) := by decide +kernel
theorem dX8_set_34 : decode cX8_set 34 = .ok (.iload_n 3, 1) := by decide +kernel
theorem dX8_set_35 : decode cX8_set 35 = .ok (.iconst 0, 1) := by decide +kernel
theorem dX8_set_36 : decode cX8_set 36 = .ok (.iconst 1, 1) := by decide +kernel
theorem dX8_set_37 : decode cX8_set 37 = .ok (.iload_n 1, 1) := by decide +kernel
theorem dX8_set_38 : decode cX8_set 38 = .ok (.ishl, 1) := by decide +kernel
theorem dX8_set_39 : decode cX8_set 39 = .ok (.iconst 1, 1) := by decide +kernel
theorem dX8_set_40 : decode cX8_set 40 = .ok (.isub, 1) := by decide +kernel
theorem dX8_set_41 : decode cX8_set 41 = .ok (.invokestatic 79, 3) := by decide +kernel
theorem dX8_set_44 : decode cX8_set 44 = .ok (.goto 20, 3) := by decide +kernel
theorem dX8_set_47 : decode cX8_set 47 = .ok (.iload_n 2, 1) := by decide +kernel
theorem dX8_set_48 : decode cX8_set 48 = .ok (.iconst 3, 1) := by decide +kernel
theorem dX8_set_49 : decode cX8_set 49 = .ok (.if_icmp .ne 14, 3) := by decide +kernel
theorem dX8_set_52 : decode cX8_set 52 = .ok (.iload_n 3, 1) := by decide +kernel
theorem dX8_set_53 : decode cX8_set 53 = .ok (.invokestatic 94, 3) := by decide +kernel
theorem dX8_set_56 : decode cX8_set 56 = .ok (.ifCond .eq 7, 3) := by decide +kernel
theorem dX8_set_59 : decode cX8_set 59 = .ok (.iconst 1, 1) := by decide +kernel
theorem dX8_set_60 : decode cX8_set 60 = .ok (.goto 4, 3) := by decide +kernel
theorem dX8_set_63 : decode cX8_set 63 = .ok (.iconst 0, 1) := by decide +kernel
theorem dX8_set_64 : decode cX8_set 64 = .ok (.istore 4, 2) := by decide +kernel
theorem dX8_set_66 : decode cX8_set 66 = .ok (.iload 4, 2) := by decide +kernel
theorem dX8_set_68 : decode cX8_set 68 = .ok (.ifCond .ne 6, 3) := by decide +kernel
theorem dX8_set_71 : decode cX8_set 71 = .ok (.bipush (-2), 2) := by decide +kernel
theorem dX8_set_73 : decode cX8_set 73 = .ok (.ireturn, 1) := by decide +kernel
theorem dX8_set_74 : decode cX8_set 74 = .ok (.iload_n 2, 1) := by decide +kernel
theorem dX8_set_75 : decode cX8_set 75 = .ok (.iconst 3, 1) := by decide +kernel
theorem dX8_set_76 : decode cX8_set 76 = .ok (.if_icmp .ne 19, 3) := by decide +kernel
theorem dX8_set_79 : decode cX8_set 79 = .ok (.iload_n 3, 1) := by decide +kernel
theorem dX8_set_80 : decode cX8_set 80 = .ok (.iconst 1, 1) := by decide +kernel
theorem dX8_set_81 : decode cX8_set 81 = .ok (.if_icmp .ne 14, 3) := by decide +kernel
theorem dX8_set_84 : decode cX8_set 84 = .ok (.aload_n 0, 1) := by decide +kernel
theorem dX8_set_85 : decode cX8_set 85 = .ok (.iload_n 1, 1) := by decide +kernel
theorem dX8_set_86 : decode cX8_set 86 = .ok (.invokevirtual 97, 3) := by decide +kernel
theorem dX8_set_89 : decode cX8_set 89 = .ok (.ifCond .eq 6, 3) := by decide +kernel
theorem dX8_set_92 : decode cX8_set 92 = .ok (.bipush (-3), 2) := by decide +kernel
theorem dX8_set_94 : decode cX8_set 94 = .ok (.ireturn, 1) := by decide +kernel
theorem dX8_set_95 : decode cX8_set 95 = .ok (.iload_n 2, 1) := by decide +kernel
theorem dX8_set_96 : decode cX8_set 96 = .ok (.ifCond .ne 12, 3) := by decide +kernel
theorem dX8_set_99 : decode cX8_set 99 = .ok (.aload_n 0, 1) := by decide +kernel
theorem dX8_set_100 : decode cX8_set 100 = .ok (.getfield 13, 3) := by decide +kernel
theorem dX8_set_103 : decode cX8_set 103 = .ok (.iload_n 1, 1) := by decide +kernel
theorem dX8_set_104 : decode cX8_set 104 = .ok (.iaload, 1) := by decide +kernel
theorem dX8_set_105 : decode cX8_set 105 = .ok (.goto 45, 3) := by decide +kernel
theorem dX8_set_108 : decode cX8_set 108 = .ok (.iload_n 2, 1) := by decide +kernel
theorem dX8_set_109 : decode cX8_set 109 = .ok (.iconst 1, 1) := by decide +kernel
theorem dX8_set_110 : decode cX8_set 110 = .ok (.if_icmp .ne 12, 3) := by decide +kernel
theorem dX8_set_113 : decode cX8_set 113 = .ok (.aload_n 0, 1) := by decide +kernel
theorem dX8_set_114 : decode cX8_set 114 = .ok (.getfield 16, 3) := by decide +kernel
theorem dX8_set_117 : decode cX8_set 117 = .ok (.iload_n 1, 1) := by decide +kernel
theorem dX8_set_118 : decode cX8_set 118 = .ok (.iaload, 1) := by decide +kernel
theorem dX8_set_119 : decode cX8_set 119 = .ok (.goto 31, 3) := by decide +kernel
theorem dX8_set_122 : decode cX8_set 122 = .ok (.iload_n 2, 1) := by decide +kernel
theorem dX8_set_123 : decode cX8_set 123 = .ok (.iconst 2, 1) := by decide +kernel
theorem dX8_set_124 : decode cX8_set 124 = .ok (.if_icmp .ne 12, 3) := by decide +kernel
theorem dX8_set_127 : decode cX8_set 127 = .ok (.aload_n 0, 1) := by decide +kernel
theorem dX8_set_128 : decode cX8_set 128 = .ok (.getfield 19, 3) := by decide +kernel
theorem dX8_set_131 : decode cX8_set 131 = .ok (.iload_n 1, 1) := by decide +kernel
theorem dX8_set_132 : decode cX8_set 132 = .ok (.iaload, 1) := by decide +kernel
theorem dX8_set_133 : decode cX8_set 133 = .ok (.goto 17, 3) := by decide +kernel
theorem dX8_set_136 : decode cX8_set 136 = .ok (.aload_n 0, 1) := by decide +kernel
theorem dX8_set_137 : decode cX8_set 137 = .ok (.getfield 22, 3) := by decide +kernel
theorem dX8_set_140 : decode cX8_set 140 = .ok (.iload_n 1, 1) := by decide +kernel
theorem dX8_set_141 : decode cX8_set 141 = .ok (.baload, 1) := by decide +kernel
theorem dX8_set_142 : decode cX8_set 142 = .ok (.ifCond .eq 7, 3) := by decide +kernel
theorem dX8_set_145 : decode cX8_set 145 = .ok (.iconst 1, 1) := by decide +kernel
theorem dX8_set_146 : decode cX8_set 146 = .ok (.goto 4, 3) := by decide +kernel
theorem dX8_set_149 : decode cX8_set 149 = .ok (.iconst 0, 1) := by decide +kernel
theorem dX8_set_150 : decode cX8_set 150 = .ok (.istore 5, 2) := by decide +kernel
theorem dX8_set_152 : decode cX8_set 152 = .ok (.iload_n 2, 1) := by decide +kernel
theorem dX8_set_153 : decode cX8_set 153 = .ok (.ifCond .ne 13, 3) := by decide +kernel
theorem dX8_set_156 : decode cX8_set 156 = .ok (.aload_n 0, 1) := by decide +kernel
theorem dX8_set_157 : decode cX8_set 157 = .ok (.getfield 13, 3) := by decide +kernel
theorem dX8_set_160 : decode cX8_set 160 = .ok (.iload_n 1, 1) := by decide +kernel
theorem dX8_set_161 : decode cX8_set 161 = .ok (.iload_n 3, 1) := by decide +kernel
theorem dX8_set_162 : decode cX8_set 162 = .ok (.iastore, 1) := by decide +kernel
theorem dX8_set_163 : decode cX8_set 163 = .ok (.goto 49, 3) := by decide +kernel
theorem dX8_set_166 : decode cX8_set 166 = .ok (.iload_n 2, 1) := by decide +kernel
theorem dX8_set_167 : decode cX8_set 167 = .ok (.iconst 1, 1) := by decide +kernel
theorem dX8_set_168 : decode cX8_set 168 = .ok (.if_icmp .ne 13, 3) := by decide +kernel
theorem dX8_set_171 : decode cX8_set 171 = .ok (.aload_n 0, 1) := by decide +kernel
theorem dX8_set_172 : decode cX8_set 172 = .ok (.getfield 16, 3) := by decide +kernel
theorem dX8_set_175 : decode cX8_set 175 = .ok (.iload_n 1, 1) := by decide +kernel
theorem dX8_set_176 : decode cX8_set 176 = .ok (.iload_n 3, 1) := by decide +kernel
theorem dX8_set_177 : decode cX8_set 177 = .ok (.iastore, 1) := by decide +kernel
theorem dX8_set_178 : decode cX8_set 178 = .ok (.goto 34, 3) := by decide +kernel
theorem dX8_set_181 : decode cX8_set 181 = .ok (.iload_n 2, 1) := by decide +kernel
theorem dX8_set_182 : decode cX8_set 182 = .ok (.iconst 2, 1) := by decide +kernel
theorem dX8_set_183 : decode cX8_set 183 = .ok (.if_icmp .ne 13, 3) := by decide +kernel
theorem dX8_set_186 : decode cX8_set 186 = .ok (.aload_n 0, 1) := by decide +kernel
theorem dX8_set_187 : decode cX8_set 187 = .ok (.getfield 19, 3) := by decide +kernel
theorem dX8_set_190 : decode cX8_set 190 = .ok (.iload_n 1, 1) := by decide +kernel
theorem dX8_set_191 : decode cX8_set 191 = .ok (.iload_n 3, 1) := by decide +kernel
theorem dX8_set_192 : decode cX8_set 192 = .ok (.iastore, 1) := by decide +kernel
theorem dX8_set_193 : decode cX8_set 193 = .ok (.goto 19, 3) := by decide +kernel
theorem dX8_set_196 : decode cX8_set 196 = .ok (.aload_n 0, 1) := by decide +kernel
theorem dX8_set_197 : decode cX8_set 197 = .ok (.getfield 22, 3) := by decide +kernel
theorem dX8_set_200 : decode cX8_set 200 = .ok (.iload_n 1, 1) := by decide +kernel
theorem dX8_set_201 : decode cX8_set 201 = .ok (.iload_n 3, 1) := by decide +kernel
theorem dX8_set_202 : decode cX8_set 202 = .ok (.iconst 1, 1) := by decide +kernel
theorem dX8_set_203 : decode cX8_set 203 = .ok (.if_icmp .ne 7, 3) := by decide +kernel
theorem dX8_set_206 : decode cX8_set 206 = .ok (.iconst 1, 1) := by decide +kernel
theorem dX8_set_207 : decode cX8_set 207 = .ok (.goto 4, 3) := by decide +kernel
theorem dX8_set_210 : decode cX8_set 210 = .ok (.iconst 0, 1) := by decide +kernel
theorem dX8_set_211 : decode cX8_set 211 = .ok (.bastore, 1) := by decide +kernel
theorem dX8_set_212 : decode cX8_set 212 = .ok (.aload_n 0, 1) := by decide +kernel
theorem dX8_set_213 : decode cX8_set 213 = .ok (.iconst 0, 1) := by decide +kernel
theorem dX8_set_214 : decode cX8_set 214 = .ok (.putfield 87, 3) := by decide +kernel
theorem dX8_set_217 : decode cX8_set 217 = .ok (.iload 5, 2) := by decide +kernel
theorem dX8_set_219 : decode cX8_set 219 = .ok (.ireturn, 1) := by decide +kernel
theorem dX8_trust_0 : decode cX8_trust 0 = .ok (.iload_n 1, 1) := by decide +kernel
theorem dX8_trust_1 : decode cX8_trust 1 = .ok (.iconst 0, 1) := by decide +kernel
theorem dX8_trust_2 : decode cX8_trust 2 = .ok (.iconst 4, 1) := by decide +kernel
theorem dX8_trust_3 : decode cX8_trust 3 = .ok (.invokestatic 79, 3) := by decide +kernel
theorem dX8_trust_6 : decode cX8_trust 6 = .ok (.ifCond .eq 22, 3) := by decide +kernel
theorem dX8_trust_9 : decode cX8_trust 9 = .ok (.iload_n 2, 1) := by decide +kernel
theorem dX8_trust_10 : decode cX8_trust 10 = .ok (.iconst 0, 1) := by decide +kernel
theorem dX8_trust_11 : decode cX8_trust 11 = .ok (.iload_n 1, 1) := by decide +kernel
theorem dX8_trust_12 : decode cX8_trust 12 = .ok (.iconst 2, 1) := by decide +kernel
theorem dX8_trust_13 : decode cX8_trust 13 = .ok (.if_icmp .ge 7, 3) := by decide +kernel
theorem dX8_trust_16 : decode cX8_trust 16 = .ok (.iconst 5, 1) := by decide +kernel
theorem dX8_trust_17 : decode cX8_trust 17 = .ok (.goto 5, 3) := by decide +kernel
theorem dX8_trust_20 : decode cX8_trust 20 = .ok (.bipush 9, 2) := by decide +kernel
theorem dX8_trust_22 : decode cX8_trust 22 = .ok (.invokestatic 79, 3) := by decide +kernel
theorem dX8_trust_25 : decode cX8_trust 25 = .ok (.ifCond .ne 6, 3) := by decide +kernel
theorem dX8_trust_28 : decode cX8_trust 28 = .ok (.bipush (-2), 2) := by decide +kernel
theorem dX8_trust_30 : decode cX8_trust 30 = .ok (.ireturn, 1) := by decide +kernel
theorem dX8_trust_31 : decode cX8_trust 31 = .ok (.aload_n 0, 1) := by decide +kernel
theorem dX8_trust_32 : decode cX8_trust 32 = .ok (.getfield 32, 3) := by decide +kernel
theorem dX8_trust_35 : decode cX8_trust 35 = .ok (.iload_n 1, 1) := by decide +kernel
theorem dX8_trust_36 : decode cX8_trust 36 = .ok (.iaload, 1) := by decide +kernel
theorem dX8_trust_37 : decode cX8_trust 37 = .ok (.istore_n 3, 1) := by decide +kernel
theorem dX8_trust_38 : decode cX8_trust 38 = .ok (.aload_n 0, 1) := by decide +kernel
theorem dX8_trust_39 : decode cX8_trust 39 = .ok (.getfield 32, 3) := by decide +kernel
theorem dX8_trust_42 : decode cX8_trust 42 = .ok (.iload_n 1, 1) := by decide +kernel
theorem dX8_trust_43 : decode cX8_trust 43 = .ok (.iload_n 2, 1) := by decide +kernel
theorem dX8_trust_44 : decode cX8_trust 44 = .ok (.iastore, 1) := by decide +kernel
theorem dX8_trust_45 : decode cX8_trust 45 = .ok (.iload_n 3, 1) := by decide +kernel
theorem dX8_trust_46 : decode cX8_trust 46 = .ok (.ireturn, 1) := by decide +kernel
theorem dX8_test_0 : decode cX8_test 0 = .ok (.aload_n 0, 1) := by decide +kernel
theorem dX8_test_1 : decode cX8_test 1 = .ok (.iload_n 1, 1) := by decide +kernel
theorem dX8_test_2 : decode cX8_test 2 = .ok (.invokevirtual 83, 3) := by decide +kernel
theorem dX8_test_5 : decode cX8_test 5 = .ok (.ifCond .ne 5, 3) := by decide +kernel
theorem dX8_test_8 : decode cX8_test 8 = .ok (.iconst (-1), 1) := by decide +kernel
theorem dX8_test_9 : decode cX8_test 9 = .ok (.ireturn, 1) := by decide +kernel
theorem dX8_test_10 : decode cX8_test 10 = .ok (.aload_n 0, 1) := by decide +kernel
theorem dX8_test_11 : decode cX8_test 11 = .ok (.getfield 22, 3) := by decide +kernel
theorem dX8_test_14 : decode cX8_test 14 = .ok (.iload_n 1, 1) := by decide +kernel
theorem dX8_test_15 : decode cX8_test 15 = .ok (.baload, 1) := by decide +kernel
theorem dX8_test_16 : decode cX8_test 16 = .ok (.ifCond .eq 6, 3) := by decide +kernel
theorem dX8_test_19 : decode cX8_test 19 = .ok (.bipush (-3), 2) := by decide +kernel
theorem dX8_test_21 : decode cX8_test 21 = .ok (.ireturn, 1) := by decide +kernel
theorem dX8_test_22 : decode cX8_test 22 = .ok (.aload_n 0, 1) := by decide +kernel
theorem dX8_test_23 : decode cX8_test 23 = .ok (.getfield 91, 3) := by decide +kernel
theorem dX8_test_26 : decode cX8_test 26 = .ok (.bipush 12, 2) := by decide +kernel
theorem dX8_test_28 : decode cX8_test 28 = .ok (.if_icmp .ne 6, 3) := by decide +kernel
theorem dX8_test_31 : decode cX8_test 31 = .ok (.bipush (-4), 2) := by decide +kernel
theorem dX8_test_33 : decode cX8_test 33 = .ok (.ireturn, 1) := by decide +kernel
theorem dX8_test_34 : decode cX8_test 34 = .ok (.aload_n 0, 1) := by decide +kernel
theorem dX8_test_35 : decode cX8_test 35 = .ok (.getfield 26, 3) := by decide +kernel
theorem dX8_test_38 : decode cX8_test 38 = .ok (.aload_n 0, 1) := by decide +kernel
theorem dX8_test_39 : decode cX8_test 39 = .ok (.getfield 91, 3) := by decide +kernel
theorem dX8_test_42 : decode cX8_test 42 = .ok (.iload_n 1, 1) := by decide +kernel
theorem dX8_test_43 : decode cX8_test 43 = .ok (.iastore, 1) := by decide +kernel
theorem dX8_test_44 : decode cX8_test 44 = .ok (.aload_n 0, 1) := by decide +kernel
theorem dX8_test_45 : decode cX8_test 45 = .ok (.getfield 29, 3) := by decide +kernel
theorem dX8_test_48 : decode cX8_test 48 = .ok (.aload_n 0, 1) := by decide +kernel
theorem dX8_test_49 : decode cX8_test 49 = .ok (.getfield 91, 3) := by decide +kernel
theorem dX8_test_52 : decode cX8_test 52 = .ok (.iload_n 2, 1) := by decide +kernel
theorem dX8_test_53 : decode cX8_test 53 = .ok (.bastore, 1) := by decide +kernel
theorem dX8_test_54 : decode cX8_test 54 = .ok (.aload_n 0, 1) := by decide +kernel
theorem dX8_test_55 : decode cX8_test 55 = .ok (.dup, 1) := by decide +kernel
theorem dX8_test_56 : decode cX8_test 56 = .ok (.getfield 91, 3) := by decide +kernel
theorem dX8_test_59 : decode cX8_test 59 = .ok (.iconst 1, 1) := by decide +kernel
theorem dX8_test_60 : decode cX8_test 60 = .ok (.iadd, 1) := by decide +kernel
theorem dX8_test_61 : decode cX8_test 61 = .ok (.putfield 91, 3) := by decide +kernel
theorem dX8_test_64 : decode cX8_test 64 = .ok (.aload_n 0, 1) := by decide +kernel
theorem dX8_test_65 : decode cX8_test 65 = .ok (.getfield 91, 3) := by decide +kernel
theorem dX8_test_68 : decode cX8_test 68 = .ok (.iconst 1, 1) := by decide +kernel
theorem dX8_test_69 : decode cX8_test 69 = .ok (.isub, 1) := by decide +kernel
theorem dX8_test_70 : decode cX8_test 70 = .ok (.ireturn, 1) := by decide +kernel
theorem dX8_tested_0 : decode cX8_tested 0 = .ok (.iload_n 1, 1) := by decide +kernel
theorem dX8_tested_1 : decode cX8_tested 1 = .ok (.iconst 0, 1) := by decide +kernel
theorem dX8_tested_2 : decode cX8_tested 2 = .ok (.aload_n 0, 1) := by decide +kernel
theorem dX8_tested_3 : decode cX8_tested 3 = .ok (.getfield 91, 3) := by decide +kernel
theorem dX8_tested_6 : decode cX8_tested 6 = .ok (.iconst 1, 1) := by decide +kernel
theorem dX8_tested_7 : decode cX8_tested 7 = .ok (.isub, 1) := by decide +kernel
theorem dX8_tested_8 : decode cX8_tested 8 = .ok (.invokestatic 79, 3) := by decide +kernel
theorem dX8_tested_11 : decode cX8_tested 11 = .ok (.ifCond .ne 5, 3) := by decide +kernel
theorem dX8_tested_14 : decode cX8_tested 14 = .ok (.iconst (-1), 1) := by decide +kernel
theorem dX8_tested_15 : decode cX8_tested 15 = .ok (.ireturn, 1) := by decide +kernel
theorem dX8_tested_16 : decode cX8_tested 16 = .ok (.iload_n 2, 1) := by decide +kernel
theorem dX8_tested_17 : decode cX8_tested 17 = .ok (.ifCond .ne 12, 3) := by decide +kernel
theorem dX8_tested_20 : decode cX8_tested 20 = .ok (.aload_n 0, 1) := by decide +kernel
theorem dX8_tested_21 : decode cX8_tested 21 = .ok (.getfield 26, 3) := by decide +kernel
theorem dX8_tested_24 : decode cX8_tested 24 = .ok (.iload_n 1, 1) := by decide +kernel
theorem dX8_tested_25 : decode cX8_tested 25 = .ok (.iaload, 1) := by decide +kernel
theorem dX8_tested_26 : decode cX8_tested 26 = .ok (.goto 27, 3) := by decide +kernel
theorem dX8_tested_29 : decode cX8_tested 29 = .ok (.iload_n 2, 1) := by decide +kernel
theorem dX8_tested_30 : decode cX8_tested 30 = .ok (.iconst 1, 1) := by decide +kernel
theorem dX8_tested_31 : decode cX8_tested 31 = .ok (.if_icmp .ne 20, 3) := by decide +kernel
theorem dX8_tested_34 : decode cX8_tested 34 = .ok (.aload_n 0, 1) := by decide +kernel
theorem dX8_tested_35 : decode cX8_tested 35 = .ok (.getfield 29, 3) := by decide +kernel
theorem dX8_tested_38 : decode cX8_tested 38 = .ok (.iload_n 1, 1) := by decide +kernel
theorem dX8_tested_39 : decode cX8_tested 39 = .ok (.baload, 1) := by decide +kernel
theorem dX8_tested_40 : decode cX8_tested 40 = .ok (.ifCond .eq 7, 3) := by decide +kernel
theorem dX8_tested_43 : decode cX8_tested 43 = .ok (.iconst 1, 1) := by decide +kernel
theorem dX8_tested_44 : decode cX8_tested 44 = .ok (.goto 9, 3) := by decide +kernel
theorem dX8_tested_47 : decode cX8_tested 47 = .ok (.iconst 0, 1) := by decide +kernel
theorem dX8_tested_48 : decode cX8_tested 48 = .ok (.goto 5, 3) := by decide +kernel
theorem dX8_tested_51 : decode cX8_tested 51 = .ok (.bipush (-2), 2) := by decide +kernel
theorem dX8_tested_53 : decode cX8_tested 53 = .ok (.ireturn, 1) := by decide +kernel
theorem dX8_untest_0 : decode cX8_untest 0 = .ok (.aload_n 0, 1) := by decide +kernel
theorem dX8_untest_1 : decode cX8_untest 1 = .ok (.getfield 91, 3) := by decide +kernel
theorem dX8_untest_4 : decode cX8_untest 4 = .ok (.ifCond .ne 6, 3) := by decide +kernel
theorem dX8_untest_7 : decode cX8_untest 7 = .ok (.bipush (-5), 2) := by decide +kernel
theorem dX8_untest_9 : decode cX8_untest 9 = .ok (.ireturn, 1) := by decide +kernel
theorem dX8_untest_10 : decode cX8_untest 10 = .ok (.aload_n 0, 1) := by decide +kernel
theorem dX8_untest_11 : decode cX8_untest 11 = .ok (.dup, 1) := by decide +kernel
theorem dX8_untest_12 : decode cX8_untest 12 = .ok (.getfield 91, 3) := by decide +kernel
theorem dX8_untest_15 : decode cX8_untest 15 = .ok (.iconst 1, 1) := by decide +kernel
theorem dX8_untest_16 : decode cX8_untest 16 = .ok (.isub, 1) := by decide +kernel
theorem dX8_untest_17 : decode cX8_untest 17 = .ok (.putfield 91, 3) := by decide +kernel
theorem dX8_untest_20 : decode cX8_untest 20 = .ok (.aload_n 0, 1) := by decide +kernel
theorem dX8_untest_21 : decode cX8_untest 21 = .ok (.getfield 91, 3) := by decide +kernel
theorem dX8_untest_24 : decode cX8_untest 24 = .ok (.ireturn, 1) := by decide +kernel
theorem dX8_shouldFail_0 : decode cX8_shouldFail 0 = .ok (.aload_n 0, 1) := by decide +kernel
theorem dX8_shouldFail_1 : decode cX8_shouldFail 1 = .ok (.getfield 7, 3) := by decide +kernel
theorem dX8_shouldFail_4 : decode cX8_shouldFail 4 = .ok (.iload_n 1, 1) := by decide +kernel
theorem dX8_shouldFail_5 : decode cX8_shouldFail 5 = .ok (.iaload, 1) := by decide +kernel
theorem dX8_shouldFail_6 : decode cX8_shouldFail 6 = .ok (.iload_n 3, 1) := by decide +kernel
theorem dX8_shouldFail_7 : decode cX8_shouldFail 7 = .ok (.invokestatic 100, 3) := by decide +kernel
theorem dX8_shouldFail_10 : decode cX8_shouldFail 10 = .ok (.istore 5, 2) := by decide +kernel
theorem dX8_shouldFail_12 : decode cX8_shouldFail 12 = .ok (.iload_n 2, 1) := by decide +kernel
theorem dX8_shouldFail_13 : decode cX8_shouldFail 13 = .ok (.ifCond .le 21, 3) := by decide +kernel
theorem dX8_shouldFail_16 : decode cX8_shouldFail 16 = .ok (.aload_n 0, 1) := by decide +kernel
theorem dX8_shouldFail_17 : decode cX8_shouldFail 17 = .ok (.getfield 7, 3) := by decide +kernel
theorem dX8_shouldFail_20 : decode cX8_shouldFail 20 = .ok (.iload_n 1, 1) := by decide +kernel
theorem dX8_shouldFail_21 : decode cX8_shouldFail 21 = .ok (.iaload, 1) := by decide +kernel
theorem dX8_shouldFail_22 : decode cX8_shouldFail 22 = .ok (.iload 4, 2) := by decide +kernel
theorem dX8_shouldFail_24 : decode cX8_shouldFail 24 = .ok (.invokestatic 100, 3) := by decide +kernel
theorem dX8_shouldFail_27 : decode cX8_shouldFail 27 = .ok (.ifCond .eq 7, 3) := by decide +kernel
theorem dX8_shouldFail_30 : decode cX8_shouldFail 30 = .ok (.iconst 1, 1) := by decide +kernel
theorem dX8_shouldFail_31 : decode cX8_shouldFail 31 = .ok (.goto 4, 3) := by decide +kernel
theorem dX8_shouldFail_34 : decode cX8_shouldFail 34 = .ok (.iconst 0, 1) := by decide +kernel
theorem dX8_shouldFail_35 : decode cX8_shouldFail 35 = .ok (.istore 6, 2) := by decide +kernel
theorem dX8_shouldFail_37 : decode cX8_shouldFail 37 = .ok (.iload 5, 2) := by decide +kernel
theorem dX8_shouldFail_39 : decode cX8_shouldFail 39 = .ok (.ifCond .eq 26, 3) := by decide +kernel
theorem dX8_shouldFail_42 : decode cX8_shouldFail 42 = .ok (.iload_n 2, 1) := by decide +kernel
theorem dX8_shouldFail_43 : decode cX8_shouldFail 43 = .ok (.ifCond .eq 18, 3) := by decide +kernel
theorem dX8_shouldFail_46 : decode cX8_shouldFail 46 = .ok (.iload_n 2, 1) := by decide +kernel
theorem dX8_shouldFail_47 : decode cX8_shouldFail 47 = .ok (.iconst 1, 1) := by decide +kernel
theorem dX8_shouldFail_48 : decode cX8_shouldFail 48 = .ok (.if_icmp .ne 7, 3) := by decide +kernel
theorem dX8_shouldFail_51 : decode cX8_shouldFail 51 = .ok (.iconst 1, 1) := by decide +kernel
theorem dX8_shouldFail_52 : decode cX8_shouldFail 52 = .ok (.goto 4, 3) := by decide +kernel
theorem dX8_shouldFail_55 : decode cX8_shouldFail 55 = .ok (.iconst 0, 1) := by decide +kernel
theorem dX8_shouldFail_56 : decode cX8_shouldFail 56 = .ok (.iload 6, 2) := by decide +kernel
theorem dX8_shouldFail_58 : decode cX8_shouldFail 58 = .ok (.if_icmp .ne 7, 3) := by decide +kernel
theorem dX8_shouldFail_61 : decode cX8_shouldFail 61 = .ok (.iconst 1, 1) := by decide +kernel
theorem dX8_shouldFail_62 : decode cX8_shouldFail 62 = .ok (.goto 4, 3) := by decide +kernel
theorem dX8_shouldFail_65 : decode cX8_shouldFail 65 = .ok (.iconst 0, 1) := by decide +kernel
theorem dX8_shouldFail_66 : decode cX8_shouldFail 66 = .ok (.ireturn, 1) := by decide +kernel
theorem dX8_tenths_0 : decode cX8_tenths 0 = .ok (.iload_n 1, 1) := by decide +kernel
theorem dX8_tenths_1 : decode cX8_tenths 1 = .ok (.ifCond .eq 12, 3) := by decide +kernel
theorem dX8_tenths_4 : decode cX8_tenths 4 = .ok (.aload_n 0, 1) := by decide +kernel
theorem dX8_tenths_5 : decode cX8_tenths 5 = .ok (.getfield 32, 3) := by decide +kernel
theorem dX8_tenths_8 : decode cX8_tenths 8 = .ok (.iconst 0, 1) := by decide +kernel
theorem dX8_tenths_9 : decode cX8_tenths 9 = .ok (.iaload, 1) := by decide +kernel
theorem dX8_tenths_10 : decode cX8_tenths 10 = .ok (.goto 9, 3) := by decide +kernel
theorem dX8_tenths_13 : decode cX8_tenths 13 = .ok (.aload_n 0, 1) := by decide +kernel
theorem dX8_tenths_14 : decode cX8_tenths 14 = .ok (.getfield 32, 3) := by decide +kernel
theorem dX8_tenths_17 : decode cX8_tenths 17 = .ok (.iconst 1, 1) := by decide +kernel
theorem dX8_tenths_18 : decode cX8_tenths 18 = .ok (.iaload, 1) := by decide +kernel
theorem dX8_tenths_19 : decode cX8_tenths 19 = .ok (.istore_n 3, 1) := by decide +kernel
theorem dX8_tenths_20 : decode cX8_tenths 20 = .ok (.iload_n 1, 1) := by decide +kernel
theorem dX8_tenths_21 : decode cX8_tenths 21 = .ok (.iload_n 2, 1) := by decide +kernel
theorem dX8_tenths_22 : decode cX8_tenths 22 = .ok (.if_icmp .ne 7, 3) := by decide +kernel
theorem dX8_tenths_25 : decode cX8_tenths 25 = .ok (.iload_n 3, 1) := by decide +kernel
theorem dX8_tenths_26 : decode cX8_tenths 26 = .ok (.goto 7, 3) := by decide +kernel
theorem dX8_tenths_29 : decode cX8_tenths 29 = .ok (.bipush 10, 2) := by decide +kernel
theorem dX8_tenths_31 : decode cX8_tenths 31 = .ok (.iload_n 3, 1) := by decide +kernel
theorem dX8_tenths_32 : decode cX8_tenths 32 = .ok (.isub, 1) := by decide +kernel
theorem dX8_tenths_33 : decode cX8_tenths 33 = .ok (.ireturn, 1) := by decide +kernel
theorem dX8_weightOf_0 : decode cX8_weightOf 0 = .ok (.aload_n 0, 1) := by decide +kernel
theorem dX8_weightOf_1 : decode cX8_weightOf 1 = .ok (.getfield 32, 3) := by decide +kernel
theorem dX8_weightOf_4 : decode cX8_weightOf 4 = .ok (.iconst 2, 1) := by decide +kernel
theorem dX8_weightOf_5 : decode cX8_weightOf 5 = .ok (.iload_n 1, 1) := by decide +kernel
theorem dX8_weightOf_6 : decode cX8_weightOf 6 = .ok (.iadd, 1) := by decide +kernel
theorem dX8_weightOf_7 : decode cX8_weightOf 7 = .ok (.iaload, 1) := by decide +kernel
theorem dX8_weightOf_8 : decode cX8_weightOf 8 = .ok (.i2l, 1) := by decide +kernel
theorem dX8_weightOf_9 : decode cX8_weightOf 9 = .ok (.lstore 4, 2) := by decide +kernel
theorem dX8_weightOf_11 : decode cX8_weightOf 11 = .ok (.lload 4, 2) := by decide +kernel
theorem dX8_weightOf_13 : decode cX8_weightOf 13 = .ok (.aload_n 0, 1) := by decide +kernel
theorem dX8_weightOf_14 : decode cX8_weightOf 14 = .ok (.getfield 13, 3) := by decide +kernel
theorem dX8_weightOf_17 : decode cX8_weightOf 17 = .ok (.iload_n 2, 1) := by decide +kernel
theorem dX8_weightOf_18 : decode cX8_weightOf 18 = .ok (.iaload, 1) := by decide +kernel
theorem dX8_weightOf_19 : decode cX8_weightOf 19 = .ok (.i2l, 1) := by decide +kernel
theorem dX8_weightOf_20 : decode cX8_weightOf 20 = .ok (.lmul, 1) := by decide +kernel
theorem dX8_weightOf_21 : decode cX8_weightOf 21 = .ok (.lstore 4, 2) := by decide +kernel
theorem dX8_weightOf_23 : decode cX8_weightOf 23 = .ok (.lload 4, 2) := by decide +kernel
theorem dX8_weightOf_25 : decode cX8_weightOf 25 = .ok (.iload_n 1, 1) := by decide +kernel
theorem dX8_weightOf_26 : decode cX8_weightOf 26 = .ok (.ifCond .ne 7, 3) := by decide +kernel
theorem dX8_weightOf_29 : decode cX8_weightOf 29 = .ok (.lconst 1, 1) := by decide +kernel
theorem dX8_weightOf_30 : decode cX8_weightOf 30 = .ok (.goto 10, 3) := by decide +kernel
theorem dX8_weightOf_33 : decode cX8_weightOf 33 = .ok (.aload_n 0, 1) := by decide +kernel
theorem dX8_weightOf_34 : decode cX8_weightOf 34 = .ok (.getfield 13, 3) := by decide +kernel
theorem dX8_weightOf_37 : decode cX8_weightOf 37 = .ok (.iload_n 3, 1) := by decide +kernel
theorem dX8_weightOf_38 : decode cX8_weightOf 38 = .ok (.iaload, 1) := by decide +kernel
theorem dX8_weightOf_39 : decode cX8_weightOf 39 = .ok (.i2l, 1) := by decide +kernel
theorem dX8_weightOf_40 : decode cX8_weightOf 40 = .ok (.lmul, 1) := by decide +kernel
theorem dX8_weightOf_41 : decode cX8_weightOf 41 = .ok (.lstore 4, 2) := by decide +kernel
theorem dX8_weightOf_43 : decode cX8_weightOf 43 = .ok (.iconst 0, 1) := by decide +kernel
theorem dX8_weightOf_44 : decode cX8_weightOf 44 = .ok (.istore 6, 2) := by decide +kernel
theorem dX8_weightOf_46 : decode cX8_weightOf 46 = .ok (.iload 6, 2) := by decide +kernel
theorem dX8_weightOf_48 : decode cX8_weightOf 48 = .ok (.aload_n 0, 1) := by decide +kernel
theorem dX8_weightOf_49 : decode cX8_weightOf 49 = .ok (.getfield 91, 3) := by decide +kernel
theorem dX8_weightOf_52 : decode cX8_weightOf 52 = .ok (.if_icmp .ge 40, 3) := by decide +kernel
theorem dX8_weightOf_55 : decode cX8_weightOf 55 = .ok (.lload 4, 2) := by decide +kernel
theorem dX8_weightOf_57 : decode cX8_weightOf 57 = .ok (.aload_n 0, 1) := by decide +kernel
theorem dX8_weightOf_58 : decode cX8_weightOf 58 = .ok (.aload_n 0, 1) := by decide +kernel
theorem dX8_weightOf_59 : decode cX8_weightOf 59 = .ok (.aload_n 0, 1) := by decide +kernel
theorem dX8_weightOf_60 : decode cX8_weightOf 60 = .ok (.getfield 26, 3) := by decide +kernel
theorem dX8_weightOf_63 : decode cX8_weightOf 63 = .ok (.iload 6, 2) := by decide +kernel
theorem dX8_weightOf_65 : decode cX8_weightOf 65 = .ok (.iaload, 1) := by decide +kernel
theorem dX8_weightOf_66 : decode cX8_weightOf 66 = .ok (.iload_n 1, 1) := by decide +kernel
theorem dX8_weightOf_67 : decode cX8_weightOf 67 = .ok (.iload_n 2, 1) := by decide +kernel
theorem dX8_weightOf_68 : decode cX8_weightOf 68 = .ok (.iload_n 3, 1) := by decide +kernel
theorem dX8_weightOf_69 : decode cX8_weightOf 69 = .ok (.invokevirtual 104, 3) := by decide +kernel
theorem dX8_weightOf_72 : decode cX8_weightOf 72 = .ok (.aload_n 0, 1) := by decide +kernel
theorem dX8_weightOf_73 : decode cX8_weightOf 73 = .ok (.getfield 29, 3) := by decide +kernel
theorem dX8_weightOf_76 : decode cX8_weightOf 76 = .ok (.iload 6, 2) := by decide +kernel
theorem dX8_weightOf_78 : decode cX8_weightOf 78 = .ok (.baload, 1) := by decide +kernel
theorem dX8_weightOf_79 : decode cX8_weightOf 79 = .ok (.invokevirtual 108, 3) := by decide +kernel
theorem dX8_weightOf_82 : decode cX8_weightOf 82 = .ok (.i2l, 1) := by decide +kernel
theorem dX8_weightOf_83 : decode cX8_weightOf 83 = .ok (.lmul, 1) := by decide +kernel
theorem dX8_weightOf_84 : decode cX8_weightOf 84 = .ok (.lstore 4, 2) := by decide +kernel
theorem dX8_weightOf_86 : decode cX8_weightOf 86 = .ok (.iinc 6 1, 3) := by decide +kernel
theorem dX8_weightOf_89 : decode cX8_weightOf 89 = .ok (.goto (-43), 3) := by decide +kernel
theorem dX8_weightOf_92 : decode cX8_weightOf 92 = .ok (.lload 4, 2) := by decide +kernel
theorem dX8_weightOf_94 : decode cX8_weightOf 94 = .ok (.lreturn, 1) := by decide +kernel
theorem dX8_add_0 : decode cX8_add 0 = .ok (.aload_n 0, 1) := by decide +kernel
theorem dX8_add_1 : decode cX8_add 1 = .ok (.getfield 41, 3) := by decide +kernel
theorem dX8_add_4 : decode cX8_add 4 = .ok (.aload_n 0, 1) := by decide +kernel
theorem dX8_add_5 : decode cX8_add 5 = .ok (.getfield 112, 3) := by decide +kernel
theorem dX8_add_8 : decode cX8_add 8 = .ok (.iload_n 1, 1) := by decide +kernel
theorem dX8_add_9 : decode cX8_add 9 = .ok (.iastore, 1) := by decide +kernel
theorem dX8_add_10 : decode cX8_add 10 = .ok (.aload_n 0, 1) := by decide +kernel
theorem dX8_add_11 : decode cX8_add 11 = .ok (.getfield 44, 3) := by decide +kernel
theorem dX8_add_14 : decode cX8_add 14 = .ok (.aload_n 0, 1) := by decide +kernel
theorem dX8_add_15 : decode cX8_add 15 = .ok (.getfield 112, 3) := by decide +kernel
theorem dX8_add_18 : decode cX8_add 18 = .ok (.iload_n 2, 1) := by decide +kernel
theorem dX8_add_19 : decode cX8_add 19 = .ok (.iastore, 1) := by decide +kernel
theorem dX8_add_20 : decode cX8_add 20 = .ok (.aload_n 0, 1) := by decide +kernel
theorem dX8_add_21 : decode cX8_add 21 = .ok (.getfield 47, 3) := by decide +kernel
theorem dX8_add_24 : decode cX8_add 24 = .ok (.aload_n 0, 1) := by decide +kernel
theorem dX8_add_25 : decode cX8_add 25 = .ok (.getfield 112, 3) := by decide +kernel
theorem dX8_add_28 : decode cX8_add 28 = .ok (.iload_n 3, 1) := by decide +kernel
theorem dX8_add_29 : decode cX8_add 29 = .ok (.iastore, 1) := by decide +kernel
theorem dX8_add_30 : decode cX8_add 30 = .ok (.aload_n 0, 1) := by decide +kernel
theorem dX8_add_31 : decode cX8_add 31 = .ok (.getfield 50, 3) := by decide +kernel
theorem dX8_add_34 : decode cX8_add 34 = .ok (.aload_n 0, 1) := by decide +kernel
theorem dX8_add_35 : decode cX8_add 35 = .ok (.getfield 112, 3) := by decide +kernel
theorem dX8_add_38 : decode cX8_add 38 = .ok (.aload_n 0, 1) := by decide +kernel
theorem dX8_add_39 : decode cX8_add 39 = .ok (.iload_n 1, 1) := by decide +kernel
theorem dX8_add_40 : decode cX8_add 40 = .ok (.iload_n 2, 1) := by decide +kernel
theorem dX8_add_41 : decode cX8_add 41 = .ok (.iload_n 3, 1) := by decide +kernel
theorem dX8_add_42 : decode cX8_add 42 = .ok (.invokevirtual 115, 3) := by decide +kernel
theorem dX8_add_45 : decode cX8_add 45 = .ok (.lastore, 1) := by decide +kernel
theorem dX8_add_46 : decode cX8_add 46 = .ok (.aload_n 0, 1) := by decide +kernel
theorem dX8_add_47 : decode cX8_add 47 = .ok (.dup, 1) := by decide +kernel
theorem dX8_add_48 : decode cX8_add 48 = .ok (.getfield 119, 3) := by decide +kernel
theorem dX8_add_51 : decode cX8_add 51 = .ok (.aload_n 0, 1) := by decide +kernel
theorem dX8_add_52 : decode cX8_add 52 = .ok (.getfield 50, 3) := by decide +kernel
theorem dX8_add_55 : decode cX8_add 55 = .ok (.aload_n 0, 1) := by decide +kernel
theorem dX8_add_56 : decode cX8_add 56 = .ok (.getfield 112, 3) := by decide +kernel
theorem dX8_add_59 : decode cX8_add 59 = .ok (.laload, 1) := by decide +kernel
theorem dX8_add_60 : decode cX8_add 60 = .ok (.ladd, 1) := by decide +kernel
theorem dX8_add_61 : decode cX8_add 61 = .ok (.putfield 119, 3) := by decide +kernel
theorem dX8_add_64 : decode cX8_add 64 = .ok (.aload_n 0, 1) := by decide +kernel
theorem dX8_add_65 : decode cX8_add 65 = .ok (.dup, 1) := by decide +kernel
theorem dX8_add_66 : decode cX8_add 66 = .ok (.getfield 112, 3) := by decide +kernel
theorem dX8_add_69 : decode cX8_add 69 = .ok (.iconst 1, 1) := by decide +kernel
theorem dX8_add_70 : decode cX8_add 70 = .ok (.iadd, 1) := by decide +kernel
theorem dX8_add_71 : decode cX8_add 71 = .ok (.putfield 112, 3) := by decide +kernel
theorem dX8_add_74 : decode cX8_add 74 = .ok (.return_, 1) := by decide +kernel
theorem dX8_layStories_0 : decode cX8_layStories 0 = .ok (.aload_n 0, 1) := by decide +kernel
theorem dX8_layStories_1 : decode cX8_layStories 1 = .ok (.iconst 0, 1) := by decide +kernel
theorem dX8_layStories_2 : decode cX8_layStories 2 = .ok (.putfield 112, 3) := by decide +kernel
theorem dX8_layStories_5 : decode cX8_layStories 5 = .ok (.aload_n 0, 1) := by decide +kernel
theorem dX8_layStories_6 : decode cX8_layStories 6 = .ok (.lconst 0, 1) := by decide +kernel
theorem dX8_layStories_7 : decode cX8_layStories 7 = .ok (.putfield 119, 3) := by decide +kernel
theorem dX8_layStories_10 : decode cX8_layStories 10 = .ok (.iconst 0, 1) := by decide +kernel
theorem dX8_layStories_11 : decode cX8_layStories 11 = .ok (.istore_n 1, 1) := by decide +kernel
theorem dX8_layStories_12 : decode cX8_layStories 12 = .ok (.iload_n 1, 1) := by decide +kernel
theorem dX8_layStories_13 : decode cX8_layStories 13 = .ok (.iconst 3, 1) := by decide +kernel
theorem dX8_layStories_14 : decode cX8_layStories 14 = .ok (.if_icmp .ge 82, 3) := by decide +kernel
theorem dX8_layStories_17 : decode cX8_layStories 17 = .ok (.iconst 0, 1) := by decide +kernel
theorem dX8_layStories_18 : decode cX8_layStories 18 = .ok (.istore_n 2, 1) := by decide +kernel
theorem dX8_layStories_19 : decode cX8_layStories 19 = .ok (.iload_n 2, 1) := by decide +kernel
theorem dX8_layStories_20 : decode cX8_layStories 20 = .ok (.aload_n 0, 1) := by decide +kernel
theorem dX8_layStories_21 : decode cX8_layStories 21 = .ok (.getfield 75, 3) := by decide +kernel
theorem dX8_layStories_24 : decode cX8_layStories 24 = .ok (.if_icmp .ge 66, 3) := by decide +kernel
theorem dX8_layStories_27 : decode cX8_layStories 27 = .ok (.iload_n 1, 1) := by decide +kernel
theorem dX8_layStories_28 : decode cX8_layStories 28 = .ok (.ifCond .ne 11, 3) := by decide +kernel
theorem dX8_layStories_31 : decode cX8_layStories 31 = .ok (.aload_n 0, 1) := by decide +kernel
theorem dX8_layStories_32 : decode cX8_layStories 32 = .ok (.iload_n 1, 1) := by decide +kernel
theorem dX8_layStories_33 : decode cX8_layStories 33 = .ok (.iload_n 2, 1) := by decide +kernel
theorem dX8_layStories_34 : decode cX8_layStories 34 = .ok (.bipush (-6), 2) := by decide +kernel
theorem dX8_layStories_36 : decode cX8_layStories 36 = .ok (.invokevirtual 123, 3) := by decide +kernel
theorem dX8_layStories_39 : decode cX8_layStories 39 = .ok (.iconst 0, 1) := by decide +kernel
theorem dX8_layStories_40 : decode cX8_layStories 40 = .ok (.istore_n 3, 1) := by decide +kernel
theorem dX8_layStories_41 : decode cX8_layStories 41 = .ok (.iload_n 3, 1) := by decide +kernel
theorem dX8_layStories_42 : decode cX8_layStories 42 = .ok (.aload_n 0, 1) := by decide +kernel
theorem dX8_layStories_43 : decode cX8_layStories 43 = .ok (.getfield 75, 3) := by decide +kernel
theorem dX8_layStories_46 : decode cX8_layStories 46 = .ok (.if_icmp .ge 38, 3) := by decide +kernel
theorem dX8_layStories_49 : decode cX8_layStories 49 = .ok (.iload_n 1, 1) := by decide +kernel
theorem dX8_layStories_50 : decode cX8_layStories 50 = .ok (.ifCond .le 34, 3) := by decide +kernel
theorem dX8_layStories_53 : decode cX8_layStories 53 = .ok (.iload_n 1, 1) := by decide +kernel
theorem dX8_layStories_54 : decode cX8_layStories 54 = .ok (.iconst 1, 1) := by decide +kernel
theorem dX8_layStories_55 : decode cX8_layStories 55 = .ok (.if_icmp .ne 11, 3) := by decide +kernel
theorem dX8_layStories_58 : decode cX8_layStories 58 = .ok (.iload_n 3, 1) := by decide +kernel
theorem dX8_layStories_59 : decode cX8_layStories 59 = .ok (.iload_n 2, 1) := by decide +kernel
theorem dX8_layStories_60 : decode cX8_layStories 60 = .ok (.if_icmp .le 18, 3) := by decide +kernel
theorem dX8_layStories_63 : decode cX8_layStories 63 = .ok (.goto 8, 3) := by decide +kernel
theorem dX8_layStories_66 : decode cX8_layStories 66 = .ok (.iload_n 3, 1) := by decide +kernel
theorem dX8_layStories_67 : decode cX8_layStories 67 = .ok (.iload_n 2, 1) := by decide +kernel
theorem dX8_layStories_68 : decode cX8_layStories 68 = .ok (.if_icmp .eq 10, 3) := by decide +kernel
theorem dX8_layStories_71 : decode cX8_layStories 71 = .ok (.aload_n 0, 1) := by decide +kernel
theorem dX8_layStories_72 : decode cX8_layStories 72 = .ok (.iload_n 1, 1) := by decide +kernel
theorem dX8_layStories_73 : decode cX8_layStories 73 = .ok (.iload_n 2, 1) := by decide +kernel
theorem dX8_layStories_74 : decode cX8_layStories 74 = .ok (.iload_n 3, 1) := by decide +kernel
theorem dX8_layStories_75 : decode cX8_layStories 75 = .ok (.invokevirtual 123, 3) := by decide +kernel
theorem dX8_layStories_78 : decode cX8_layStories 78 = .ok (.iinc 3 1, 3) := by decide +kernel
theorem dX8_layStories_81 : decode cX8_layStories 81 = .ok (.goto (-40), 3) := by decide +kernel
theorem dX8_layStories_84 : decode cX8_layStories 84 = .ok (.iinc 2 1, 3) := by decide +kernel
theorem dX8_layStories_87 : decode cX8_layStories 87 = .ok (.goto (-68), 3) := by decide +kernel
theorem dX8_layStories_90 : decode cX8_layStories 90 = .ok (.iinc 1 1, 3) := by decide +kernel
theorem dX8_layStories_93 : decode cX8_layStories 93 = .ok (.goto (-81), 3) := by decide +kernel
theorem dX8_layStories_96 : decode cX8_layStories 96 = .ok (.return_, 1) := by decide +kernel
theorem dX8_isStory_0 : decode cX8_isStory 0 = .ok (.aload_n 0, 1) := by decide +kernel
theorem dX8_isStory_1 : decode cX8_isStory 1 = .ok (.iload_n 2, 1) := by decide +kernel
theorem dX8_isStory_2 : decode cX8_isStory 2 = .ok (.invokevirtual 83, 3) := by decide +kernel
theorem dX8_isStory_5 : decode cX8_isStory 5 = .ok (.ifCond .eq 37, 3) := by decide +kernel
theorem dX8_isStory_8 : decode cX8_isStory 8 = .ok (.iload_n 1, 1) := by decide +kernel
theorem dX8_isStory_9 : decode cX8_isStory 9 = .ok (.ifCond .eq 29, 3) := by decide +kernel
theorem dX8_isStory_12 : decode cX8_isStory 12 = .ok (.aload_n 0, 1) := by decide +kernel
theorem dX8_isStory_13 : decode cX8_isStory 13 = .ok (.iload_n 3, 1) := by decide +kernel
theorem dX8_isStory_14 : decode cX8_isStory 14 = .ok (.invokevirtual 83, 3) := by decide +kernel
theorem dX8_isStory_17 : decode cX8_isStory 17 = .ok (.ifCond .eq 25, 3) := by decide +kernel
theorem dX8_isStory_20 : decode cX8_isStory 20 = .ok (.iload_n 1, 1) := by decide +kernel
theorem dX8_isStory_21 : decode cX8_isStory 21 = .ok (.iconst 1, 1) := by decide +kernel
theorem dX8_isStory_22 : decode cX8_isStory 22 = .ok (.if_icmp .ne 11, 3) := by decide +kernel
theorem dX8_isStory_25 : decode cX8_isStory 25 = .ok (.iload_n 2, 1) := by decide +kernel
theorem dX8_isStory_26 : decode cX8_isStory 26 = .ok (.iload_n 3, 1) := by decide +kernel
theorem dX8_isStory_27 : decode cX8_isStory 27 = .ok (.if_icmp .ge 15, 3) := by decide +kernel
theorem dX8_isStory_30 : decode cX8_isStory 30 = .ok (.goto 8, 3) := by decide +kernel
theorem dX8_isStory_33 : decode cX8_isStory 33 = .ok (.iload_n 2, 1) := by decide +kernel
theorem dX8_isStory_34 : decode cX8_isStory 34 = .ok (.iload_n 3, 1) := by decide +kernel
theorem dX8_isStory_35 : decode cX8_isStory 35 = .ok (.if_icmp .eq 7, 3) := by decide +kernel
theorem dX8_isStory_38 : decode cX8_isStory 38 = .ok (.iconst 1, 1) := by decide +kernel
theorem dX8_isStory_39 : decode cX8_isStory 39 = .ok (.goto 4, 3) := by decide +kernel
theorem dX8_isStory_42 : decode cX8_isStory 42 = .ok (.iconst 0, 1) := by decide +kernel
theorem dX8_isStory_43 : decode cX8_isStory 43 = .ok (.ireturn, 1) := by decide +kernel
theorem dX8_weight_0 : decode cX8_weight 0 = .ok (.iload_n 1, 1) := by decide +kernel
theorem dX8_weight_1 : decode cX8_weight 1 = .ok (.iconst 0, 1) := by decide +kernel
theorem dX8_weight_2 : decode cX8_weight 2 = .ok (.iconst 2, 1) := by decide +kernel
theorem dX8_weight_3 : decode cX8_weight 3 = .ok (.invokestatic 79, 3) := by decide +kernel
theorem dX8_weight_6 : decode cX8_weight 6 = .ok (.ifCond .ne 7, 3) := by decide +kernel
theorem dX8_weight_9 : decode cX8_weight 9 = .ok (.ldc2_w 127, 3) := by decide +kernel
theorem dX8_weight_12 : decode cX8_weight 12 = .ok (.lreturn, 1) := by decide +kernel
theorem dX8_weight_13 : decode cX8_weight 13 = .ok (.aload_n 0, 1) := by decide +kernel
theorem dX8_weight_14 : decode cX8_weight 14 = .ok (.iload_n 1, 1) := by decide +kernel
theorem dX8_weight_15 : decode cX8_weight 15 = .ok (.iload_n 2, 1) := by decide +kernel
theorem dX8_weight_16 : decode cX8_weight 16 = .ok (.iload_n 3, 1) := by decide +kernel
theorem dX8_weight_17 : decode cX8_weight 17 = .ok (.invokevirtual 129, 3) := by decide +kernel
theorem dX8_weight_20 : decode cX8_weight 20 = .ok (.ifCond .eq 13, 3) := by decide +kernel
theorem dX8_weight_23 : decode cX8_weight 23 = .ok (.aload_n 0, 1) := by decide +kernel
theorem dX8_weight_24 : decode cX8_weight 24 = .ok (.iload_n 1, 1) := by decide +kernel
theorem dX8_weight_25 : decode cX8_weight 25 = .ok (.iload_n 2, 1) := by decide +kernel
theorem dX8_weight_26 : decode cX8_weight 26 = .ok (.iload_n 3, 1) := by decide +kernel
theorem dX8_weight_27 : decode cX8_weight 27 = .ok (.invokevirtual 115, 3) := by decide +kernel
theorem dX8_weight_30 : decode cX8_weight 30 = .ok (.goto 6, 3) := by decide +kernel
theorem dX8_weight_33 : decode cX8_weight 33 = .ok (.ldc2_w 132, 3) := by decide +kernel
theorem dX8_weight_36 : decode cX8_weight 36 = .ok (.lreturn, 1) := by decide +kernel
theorem dX8_term_0 : decode cX8_term 0 = .ok (.lload_n 2, 1) := by decide +kernel
theorem dX8_term_1 : decode cX8_term 1 = .ok (.lconst 0, 1) := by decide +kernel
theorem dX8_term_2 : decode cX8_term 2 = .ok (.lcmp, 1) := by decide +kernel
theorem dX8_term_3 : decode cX8_term 3 = .ok (.ifCond .ne 7, 3) := by decide +kernel
theorem dX8_term_6 : decode cX8_term 6 = .ok (.iload 4, 2) := by decide +kernel
theorem dX8_term_8 : decode cX8_term 8 = .ok (.i2l, 1) := by decide +kernel
theorem dX8_term_9 : decode cX8_term 9 = .ok (.lreturn, 1) := by decide +kernel
theorem dX8_term_10 : decode cX8_term 10 = .ok (.lload_n 0, 1) := by decide +kernel
theorem dX8_term_11 : decode cX8_term 11 = .ok (.lstore 5, 2) := by decide +kernel
theorem dX8_term_13 : decode cX8_term 13 = .ok (.lload_n 2, 1) := by decide +kernel
theorem dX8_term_14 : decode cX8_term 14 = .ok (.lstore 7, 2) := by decide +kernel
theorem dX8_term_16 : decode cX8_term 16 = .ok (.lload 7, 2) := by decide +kernel
theorem dX8_term_18 : decode cX8_term 18 = .ok (.lconst 0, 1) := by decide +kernel
theorem dX8_term_19 : decode cX8_term 19 = .ok (.lcmp, 1) := by decide +kernel
theorem dX8_term_20 : decode cX8_term 20 = .ok (.ifCond .eq 21, 3) := by decide +kernel
theorem dX8_term_23 : decode cX8_term 23 = .ok (.lload 5, 2) := by decide +kernel
theorem dX8_term_25 : decode cX8_term 25 = .ok (.lload 7, 2) := by decide +kernel
theorem dX8_term_27 : decode cX8_term 27 = .ok (.lrem, 1) := by decide +kernel
theorem dX8_term_28 : decode cX8_term 28 = .ok (.lstore 9, 2) := by decide +kernel
theorem dX8_term_30 : decode cX8_term 30 = .ok (.lload 7, 2) := by decide +kernel
theorem dX8_term_32 : decode cX8_term 32 = .ok (.lstore 5, 2) := by decide +kernel
theorem dX8_term_34 : decode cX8_term 34 = .ok (.lload 9, 2) := by decide +kernel
theorem dX8_term_36 : decode cX8_term 36 = .ok (.lstore 7, 2) := by decide +kernel
theorem dX8_term_38 : decode cX8_term 38 = .ok (.goto (-22), 3) := by decide +kernel
theorem dX8_term_41 : decode cX8_term 41 = .ok (.iload 4, 2) := by decide +kernel
theorem dX8_term_43 : decode cX8_term 43 = .ok (.ifCond .ne 10, 3) := by decide +kernel
theorem dX8_term_46 : decode cX8_term 46 = .ok (.lload_n 0, 1) := by decide +kernel
theorem dX8_term_47 : decode cX8_term 47 = .ok (.lload 5, 2) := by decide +kernel
theorem dX8_term_49 : decode cX8_term 49 = .ok (.ldiv, 1) := by decide +kernel
theorem dX8_term_50 : decode cX8_term 50 = .ok (.goto 7, 3) := by decide +kernel
theorem dX8_term_53 : decode cX8_term 53 = .ok (.lload_n 2, 1) := by decide +kernel
theorem dX8_term_54 : decode cX8_term 54 = .ok (.lload 5, 2) := by decide +kernel
theorem dX8_term_56 : decode cX8_term 56 = .ok (.ldiv, 1) := by decide +kernel
theorem dX8_term_57 : decode cX8_term 57 = .ok (.lreturn, 1) := by decide +kernel
theorem dX8_odds_0 : decode cX8_odds 0 = .ok (.iload_n 1, 1) := by decide +kernel
theorem dX8_odds_1 : decode cX8_odds 1 = .ok (.iconst 0, 1) := by decide +kernel
theorem dX8_odds_2 : decode cX8_odds 2 = .ok (.iconst 2, 1) := by decide +kernel
theorem dX8_odds_3 : decode cX8_odds 3 = .ok (.invokestatic 79, 3) := by decide +kernel
theorem dX8_odds_6 : decode cX8_odds 6 = .ok (.ifCond .ne 7, 3) := by decide +kernel
theorem dX8_odds_9 : decode cX8_odds 9 = .ok (.ldc2_w 127, 3) := by decide +kernel
theorem dX8_odds_12 : decode cX8_odds 12 = .ok (.lreturn, 1) := by decide +kernel
theorem dX8_odds_13 : decode cX8_odds 13 = .ok (.aload_n 0, 1) := by decide +kernel
theorem dX8_odds_14 : decode cX8_odds 14 = .ok (.iload_n 1, 1) := by decide +kernel
theorem dX8_odds_15 : decode cX8_odds 15 = .ok (.iload_n 2, 1) := by decide +kernel
theorem dX8_odds_16 : decode cX8_odds 16 = .ok (.iload_n 3, 1) := by decide +kernel
theorem dX8_odds_17 : decode cX8_odds 17 = .ok (.invokevirtual 129, 3) := by decide +kernel
theorem dX8_odds_20 : decode cX8_odds 20 = .ok (.ifCond .ne 7, 3) := by decide +kernel
theorem dX8_odds_23 : decode cX8_odds 23 = .ok (.ldc2_w 132, 3) := by decide +kernel
theorem dX8_odds_26 : decode cX8_odds 26 = .ok (.lreturn, 1) := by decide +kernel
theorem dX8_odds_27 : decode cX8_odds 27 = .ok (.iload 4, 2) := by decide +kernel
theorem dX8_odds_29 : decode cX8_odds 29 = .ok (.invokestatic 94, 3) := by decide +kernel
theorem dX8_odds_32 : decode cX8_odds 32 = .ok (.ifCond .ne 7, 3) := by decide +kernel
theorem dX8_odds_35 : decode cX8_odds 35 = .ok (.ldc2_w 127, 3) := by decide +kernel
theorem dX8_odds_38 : decode cX8_odds 38 = .ok (.lreturn, 1) := by decide +kernel
theorem dX8_odds_39 : decode cX8_odds 39 = .ok (.aload_n 0, 1) := by decide +kernel
theorem dX8_odds_40 : decode cX8_odds 40 = .ok (.invokevirtual 134, 3) := by decide +kernel
theorem dX8_odds_43 : decode cX8_odds 43 = .ok (.aload_n 0, 1) := by decide +kernel
theorem dX8_odds_44 : decode cX8_odds 44 = .ok (.iload_n 1, 1) := by decide +kernel
theorem dX8_odds_45 : decode cX8_odds 45 = .ok (.iload_n 2, 1) := by decide +kernel
theorem dX8_odds_46 : decode cX8_odds 46 = .ok (.iload_n 3, 1) := by decide +kernel
theorem dX8_odds_47 : decode cX8_odds 47 = .ok (.invokevirtual 115, 3) := by decide +kernel
theorem dX8_odds_50 : decode cX8_odds 50 = .ok (.aload_n 0, 1) := by decide +kernel
theorem dX8_odds_51 : decode cX8_odds 51 = .ok (.getfield 119, 3) := by decide +kernel
theorem dX8_odds_54 : decode cX8_odds 54 = .ok (.iload 4, 2) := by decide +kernel
theorem dX8_odds_56 : decode cX8_odds 56 = .ok (.invokestatic 137, 3) := by decide +kernel
theorem dX8_odds_59 : decode cX8_odds 59 = .ok (.lreturn, 1) := by decide +kernel
theorem dX8_sorts_0 : decode cX8_sorts 0 = .ok (.iload_n 1, 1) := by decide +kernel
theorem dX8_sorts_1 : decode cX8_sorts 1 = .ok (.iconst 0, 1) := by decide +kernel
theorem dX8_sorts_2 : decode cX8_sorts 2 = .ok (.iconst 2, 1) := by decide +kernel
theorem dX8_sorts_3 : decode cX8_sorts 3 = .ok (.invokestatic 79, 3) := by decide +kernel
theorem dX8_sorts_6 : decode cX8_sorts 6 = .ok (.ifCond .eq 10, 3) := by decide +kernel
theorem dX8_sorts_9 : decode cX8_sorts 9 = .ok (.iload_n 2, 1) := by decide +kernel
theorem dX8_sorts_10 : decode cX8_sorts 10 = .ok (.invokestatic 94, 3) := by decide +kernel
theorem dX8_sorts_13 : decode cX8_sorts 13 = .ok (.ifCond .ne 7, 3) := by decide +kernel
theorem dX8_sorts_16 : decode cX8_sorts 16 = .ok (.ldc2_w 127, 3) := by decide +kernel
theorem dX8_sorts_19 : decode cX8_sorts 19 = .ok (.lreturn, 1) := by decide +kernel
theorem dX8_sorts_20 : decode cX8_sorts 20 = .ok (.aload_n 0, 1) := by decide +kernel
theorem dX8_sorts_21 : decode cX8_sorts 21 = .ok (.invokevirtual 134, 3) := by decide +kernel
theorem dX8_sorts_24 : decode cX8_sorts 24 = .ok (.lconst 0, 1) := by decide +kernel
theorem dX8_sorts_25 : decode cX8_sorts 25 = .ok (.lstore_n 3, 1) := by decide +kernel
theorem dX8_sorts_26 : decode cX8_sorts 26 = .ok (.iconst 0, 1) := by decide +kernel
theorem dX8_sorts_27 : decode cX8_sorts 27 = .ok (.istore 5, 2) := by decide +kernel
theorem dX8_sorts_29 : decode cX8_sorts 29 = .ok (.iload 5, 2) := by decide +kernel
theorem dX8_sorts_31 : decode cX8_sorts 31 = .ok (.aload_n 0, 1) := by decide +kernel
theorem dX8_sorts_32 : decode cX8_sorts 32 = .ok (.getfield 112, 3) := by decide +kernel
theorem dX8_sorts_35 : decode cX8_sorts 35 = .ok (.if_icmp .ge 34, 3) := by decide +kernel
theorem dX8_sorts_38 : decode cX8_sorts 38 = .ok (.lload_n 3, 1) := by decide +kernel
theorem dX8_sorts_39 : decode cX8_sorts 39 = .ok (.aload_n 0, 1) := by decide +kernel
theorem dX8_sorts_40 : decode cX8_sorts 40 = .ok (.getfield 41, 3) := by decide +kernel
theorem dX8_sorts_43 : decode cX8_sorts 43 = .ok (.iload 5, 2) := by decide +kernel
theorem dX8_sorts_45 : decode cX8_sorts 45 = .ok (.iaload, 1) := by decide +kernel
theorem dX8_sorts_46 : decode cX8_sorts 46 = .ok (.iload_n 1, 1) := by decide +kernel
theorem dX8_sorts_47 : decode cX8_sorts 47 = .ok (.if_icmp .ne 13, 3) := by decide +kernel
theorem dX8_sorts_50 : decode cX8_sorts 50 = .ok (.aload_n 0, 1) := by decide +kernel
theorem dX8_sorts_51 : decode cX8_sorts 51 = .ok (.getfield 50, 3) := by decide +kernel
theorem dX8_sorts_54 : decode cX8_sorts 54 = .ok (.iload 5, 2) := by decide +kernel
theorem dX8_sorts_56 : decode cX8_sorts 56 = .ok (.laload, 1) := by decide +kernel
theorem dX8_sorts_57 : decode cX8_sorts 57 = .ok (.goto 4, 3) := by decide +kernel
theorem dX8_sorts_60 : decode cX8_sorts 60 = .ok (.lconst 0, 1) := by decide +kernel
theorem dX8_sorts_61 : decode cX8_sorts 61 = .ok (.ladd, 1) := by decide +kernel
theorem dX8_sorts_62 : decode cX8_sorts 62 = .ok (.lstore_n 3, 1) := by decide +kernel
theorem dX8_sorts_63 : decode cX8_sorts 63 = .ok (.iinc 5 1, 3) := by decide +kernel
theorem dX8_sorts_66 : decode cX8_sorts 66 = .ok (.goto (-37), 3) := by decide +kernel
theorem dX8_sorts_69 : decode cX8_sorts 69 = .ok (.lload_n 3, 1) := by decide +kernel
theorem dX8_sorts_70 : decode cX8_sorts 70 = .ok (.aload_n 0, 1) := by decide +kernel
theorem dX8_sorts_71 : decode cX8_sorts 71 = .ok (.getfield 119, 3) := by decide +kernel
theorem dX8_sorts_74 : decode cX8_sorts 74 = .ok (.iload_n 2, 1) := by decide +kernel
theorem dX8_sorts_75 : decode cX8_sorts 75 = .ok (.invokestatic 137, 3) := by decide +kernel
theorem dX8_sorts_78 : decode cX8_sorts 78 = .ok (.lreturn, 1) := by decide +kernel
theorem dX8_blame_0 : decode cX8_blame 0 = .ok (.aload_n 0, 1) := by decide +kernel
theorem dX8_blame_1 : decode cX8_blame 1 = .ok (.iload_n 1, 1) := by decide +kernel
theorem dX8_blame_2 : decode cX8_blame 2 = .ok (.invokevirtual 83, 3) := by decide +kernel
theorem dX8_blame_5 : decode cX8_blame 5 = .ok (.ifCond .ne 7, 3) := by decide +kernel
theorem dX8_blame_8 : decode cX8_blame 8 = .ok (.ldc2_w 132, 3) := by decide +kernel
theorem dX8_blame_11 : decode cX8_blame 11 = .ok (.lreturn, 1) := by decide +kernel
theorem dX8_blame_12 : decode cX8_blame 12 = .ok (.iload_n 2, 1) := by decide +kernel
theorem dX8_blame_13 : decode cX8_blame 13 = .ok (.invokestatic 94, 3) := by decide +kernel
theorem dX8_blame_16 : decode cX8_blame 16 = .ok (.ifCond .ne 7, 3) := by decide +kernel
theorem dX8_blame_19 : decode cX8_blame 19 = .ok (.ldc2_w 127, 3) := by decide +kernel
theorem dX8_blame_22 : decode cX8_blame 22 = .ok (.lreturn, 1) := by decide +kernel
theorem dX8_blame_23 : decode cX8_blame 23 = .ok (.aload_n 0, 1) := by decide +kernel
theorem dX8_blame_24 : decode cX8_blame 24 = .ok (.invokevirtual 134, 3) := by decide +kernel
theorem dX8_blame_27 : decode cX8_blame 27 = .ok (.lconst 0, 1) := by decide +kernel
theorem dX8_blame_28 : decode cX8_blame 28 = .ok (.lstore_n 3, 1) := by decide +kernel
theorem dX8_blame_29 : decode cX8_blame 29 = .ok (.iconst 0, 1) := by decide +kernel
theorem dX8_blame_30 : decode cX8_blame 30 = .ok (.istore 5, 2) := by decide +kernel
theorem dX8_blame_32 : decode cX8_blame 32 = .ok (.iload 5, 2) := by decide +kernel
theorem dX8_blame_34 : decode cX8_blame 34 = .ok (.aload_n 0, 1) := by decide +kernel
theorem dX8_blame_35 : decode cX8_blame 35 = .ok (.getfield 112, 3) := by decide +kernel
theorem dX8_blame_38 : decode cX8_blame 38 = .ok (.if_icmp .ge 56, 3) := by decide +kernel
theorem dX8_blame_41 : decode cX8_blame 41 = .ok (.lload_n 3, 1) := by decide +kernel
theorem dX8_blame_42 : decode cX8_blame 42 = .ok (.aload_n 0, 1) := by decide +kernel
theorem dX8_blame_43 : decode cX8_blame 43 = .ok (.getfield 44, 3) := by decide +kernel
theorem dX8_blame_46 : decode cX8_blame 46 = .ok (.iload 5, 2) := by decide +kernel
theorem dX8_blame_48 : decode cX8_blame 48 = .ok (.iaload, 1) := by decide +kernel
theorem dX8_blame_49 : decode cX8_blame 49 = .ok (.iload_n 1, 1) := by decide +kernel
theorem dX8_blame_50 : decode cX8_blame 50 = .ok (.if_icmp .eq 25, 3) := by decide +kernel
theorem dX8_blame_53 : decode cX8_blame 53 = .ok (.aload_n 0, 1) := by decide +kernel
theorem dX8_blame_54 : decode cX8_blame 54 = .ok (.getfield 41, 3) := by decide +kernel
theorem dX8_blame_57 : decode cX8_blame 57 = .ok (.iload 5, 2) := by decide +kernel
theorem dX8_blame_59 : decode cX8_blame 59 = .ok (.iaload, 1) := by decide +kernel
theorem dX8_blame_60 : decode cX8_blame 60 = .ok (.iconst 1, 1) := by decide +kernel
theorem dX8_blame_61 : decode cX8_blame 61 = .ok (.if_icmp .ne 24, 3) := by decide +kernel
theorem dX8_blame_64 : decode cX8_blame 64 = .ok (.aload_n 0, 1) := by decide +kernel
theorem dX8_blame_65 : decode cX8_blame 65 = .ok (.getfield 47, 3) := by decide +kernel
theorem dX8_blame_68 : decode cX8_blame 68 = .ok (.iload 5, 2) := by decide +kernel
theorem dX8_blame_70 : decode cX8_blame 70 = .ok (.iaload, 1) := by decide +kernel
theorem dX8_blame_71 : decode cX8_blame 71 = .ok (.iload_n 1, 1) := by decide +kernel
theorem dX8_blame_72 : decode cX8_blame 72 = .ok (.if_icmp .ne 13, 3) := by decide +kernel
theorem dX8_blame_75 : decode cX8_blame 75 = .ok (.aload_n 0, 1) := by decide +kernel
theorem dX8_blame_76 : decode cX8_blame 76 = .ok (.getfield 50, 3) := by decide +kernel
theorem dX8_blame_79 : decode cX8_blame 79 = .ok (.iload 5, 2) := by decide +kernel
theorem dX8_blame_81 : decode cX8_blame 81 = .ok (.laload, 1) := by decide +kernel
theorem dX8_blame_82 : decode cX8_blame 82 = .ok (.goto 4, 3) := by decide +kernel
theorem dX8_blame_85 : decode cX8_blame 85 = .ok (.lconst 0, 1) := by decide +kernel
theorem dX8_blame_86 : decode cX8_blame 86 = .ok (.ladd, 1) := by decide +kernel
theorem dX8_blame_87 : decode cX8_blame 87 = .ok (.lstore_n 3, 1) := by decide +kernel
theorem dX8_blame_88 : decode cX8_blame 88 = .ok (.iinc 5 1, 3) := by decide +kernel
theorem dX8_blame_91 : decode cX8_blame 91 = .ok (.goto (-59), 3) := by decide +kernel
theorem dX8_blame_94 : decode cX8_blame 94 = .ok (.lload_n 3, 1) := by decide +kernel
theorem dX8_blame_95 : decode cX8_blame 95 = .ok (.aload_n 0, 1) := by decide +kernel
theorem dX8_blame_96 : decode cX8_blame 96 = .ok (.getfield 119, 3) := by decide +kernel
theorem dX8_blame_99 : decode cX8_blame 99 = .ok (.iload_n 2, 1) := by decide +kernel
theorem dX8_blame_100 : decode cX8_blame 100 = .ok (.invokestatic 137, 3) := by decide +kernel
theorem dX8_blame_103 : decode cX8_blame 103 = .ok (.lreturn, 1) := by decide +kernel
theorem dX8_guessOf_0 : decode cX8_guessOf 0 = .ok (.bipush (-6), 2) := by decide +kernel
theorem dX8_guessOf_2 : decode cX8_guessOf 2 = .ok (.istore_n 1, 1) := by decide +kernel
theorem dX8_guessOf_3 : decode cX8_guessOf 3 = .ok (.iconst 0, 1) := by decide +kernel
theorem dX8_guessOf_4 : decode cX8_guessOf 4 = .ok (.istore_n 2, 1) := by decide +kernel
theorem dX8_guessOf_5 : decode cX8_guessOf 5 = .ok (.iload_n 2, 1) := by decide +kernel
theorem dX8_guessOf_6 : decode cX8_guessOf 6 = .ok (.aload_n 0, 1) := by decide +kernel
theorem dX8_guessOf_7 : decode cX8_guessOf 7 = .ok (.getfield 112, 3) := by decide +kernel
theorem dX8_guessOf_10 : decode cX8_guessOf 10 = .ok (.if_icmp .ge 35, 3) := by decide +kernel
theorem dX8_guessOf_13 : decode cX8_guessOf 13 = .ok (.aload_n 0, 1) := by decide +kernel
theorem dX8_guessOf_14 : decode cX8_guessOf 14 = .ok (.getfield 50, 3) := by decide +kernel
theorem dX8_guessOf_17 : decode cX8_guessOf 17 = .ok (.iload_n 2, 1) := by decide +kernel
theorem dX8_guessOf_18 : decode cX8_guessOf 18 = .ok (.laload, 1) := by decide +kernel
theorem dX8_guessOf_19 : decode cX8_guessOf 19 = .ok (.iload_n 1, 1) := by decide +kernel
theorem dX8_guessOf_20 : decode cX8_guessOf 20 = .ok (.ifCond .ge 7, 3) := by decide +kernel
theorem dX8_guessOf_23 : decode cX8_guessOf 23 = .ok (.lconst 0, 1) := by decide +kernel
theorem dX8_guessOf_24 : decode cX8_guessOf 24 = .ok (.goto 9, 3) := by decide +kernel
theorem dX8_guessOf_27 : decode cX8_guessOf 27 = .ok (.aload_n 0, 1) := by decide +kernel
theorem dX8_guessOf_28 : decode cX8_guessOf 28 = .ok (.getfield 50, 3) := by decide +kernel
theorem dX8_guessOf_31 : decode cX8_guessOf 31 = .ok (.iload_n 1, 1) := by decide +kernel
theorem dX8_guessOf_32 : decode cX8_guessOf 32 = .ok (.laload, 1) := by decide +kernel
theorem dX8_guessOf_33 : decode cX8_guessOf 33 = .ok (.lcmp, 1) := by decide +kernel
theorem dX8_guessOf_34 : decode cX8_guessOf 34 = .ok (.ifCond .le 5, 3) := by decide +kernel
theorem dX8_guessOf_37 : decode cX8_guessOf 37 = .ok (.iload_n 2, 1) := by decide +kernel
theorem dX8_guessOf_38 : decode cX8_guessOf 38 = .ok (.istore_n 1, 1) := by decide +kernel
theorem dX8_guessOf_39 : decode cX8_guessOf 39 = .ok (.iinc 2 1, 3) := by decide +kernel
theorem dX8_guessOf_42 : decode cX8_guessOf 42 = .ok (.goto (-37), 3) := by decide +kernel
theorem dX8_guessOf_45 : decode cX8_guessOf 45 = .ok (.iload_n 1, 1) := by decide +kernel
theorem dX8_guessOf_46 : decode cX8_guessOf 46 = .ok (.ireturn, 1) := by decide +kernel
theorem dX8_guess_0 : decode cX8_guess 0 = .ok (.iload_n 1, 1) := by decide +kernel
theorem dX8_guess_1 : decode cX8_guess 1 = .ok (.iconst 0, 1) := by decide +kernel
theorem dX8_guess_2 : decode cX8_guess 2 = .ok (.iconst 2, 1) := by decide +kernel
theorem dX8_guess_3 : decode cX8_guess 3 = .ok (.invokestatic 79, 3) := by decide +kernel
theorem dX8_guess_6 : decode cX8_guess 6 = .ok (.ifCond .ne 6, 3) := by decide +kernel
theorem dX8_guess_9 : decode cX8_guess 9 = .ok (.bipush (-2), 2) := by decide +kernel
theorem dX8_guess_11 : decode cX8_guess 11 = .ok (.ireturn, 1) := by decide +kernel
theorem dX8_guess_12 : decode cX8_guess 12 = .ok (.aload_n 0, 1) := by decide +kernel
theorem dX8_guess_13 : decode cX8_guess 13 = .ok (.invokevirtual 134, 3) := by decide +kernel
theorem dX8_guess_16 : decode cX8_guess 16 = .ok (.aload_n 0, 1) := by decide +kernel
theorem dX8_guess_17 : decode cX8_guess 17 = .ok (.invokevirtual 141, 3) := by decide +kernel
theorem dX8_guess_20 : decode cX8_guess 20 = .ok (.istore_n 2, 1) := by decide +kernel
theorem dX8_guess_21 : decode cX8_guess 21 = .ok (.iload_n 2, 1) := by decide +kernel
theorem dX8_guess_22 : decode cX8_guess 22 = .ok (.ifCond .ge 8, 3) := by decide +kernel
theorem dX8_guess_25 : decode cX8_guess 25 = .ok (.bipush (-5), 2) := by decide +kernel
theorem dX8_guess_27 : decode cX8_guess 27 = .ok (.goto 36, 3) := by decide +kernel
theorem dX8_guess_30 : decode cX8_guess 30 = .ok (.iload_n 1, 1) := by decide +kernel
theorem dX8_guess_31 : decode cX8_guess 31 = .ok (.ifCond .ne 12, 3) := by decide +kernel
theorem dX8_guess_34 : decode cX8_guess 34 = .ok (.aload_n 0, 1) := by decide +kernel
theorem dX8_guess_35 : decode cX8_guess 35 = .ok (.getfield 41, 3) := by decide +kernel
theorem dX8_guess_38 : decode cX8_guess 38 = .ok (.iload_n 2, 1) := by decide +kernel
theorem dX8_guess_39 : decode cX8_guess 39 = .ok (.iaload, 1) := by decide +kernel
theorem dX8_guess_40 : decode cX8_guess 40 = .ok (.goto 23, 3) := by decide +kernel
theorem dX8_guess_43 : decode cX8_guess 43 = .ok (.iload_n 1, 1) := by decide +kernel
theorem dX8_guess_44 : decode cX8_guess 44 = .ok (.iconst 1, 1) := by decide +kernel
theorem dX8_guess_45 : decode cX8_guess 45 = .ok (.if_icmp .ne 12, 3) := by decide +kernel
theorem dX8_guess_48 : decode cX8_guess 48 = .ok (.aload_n 0, 1) := by decide +kernel
theorem dX8_guess_49 : decode cX8_guess 49 = .ok (.getfield 44, 3) := by decide +kernel
theorem dX8_guess_52 : decode cX8_guess 52 = .ok (.iload_n 2, 1) := by decide +kernel
theorem dX8_guess_53 : decode cX8_guess 53 = .ok (.iaload, 1) := by decide +kernel
theorem dX8_guess_54 : decode cX8_guess 54 = .ok (.goto 9, 3) := by decide +kernel
theorem dX8_guess_57 : decode cX8_guess 57 = .ok (.aload_n 0, 1) := by decide +kernel
theorem dX8_guess_58 : decode cX8_guess 58 = .ok (.getfield 47, 3) := by decide +kernel
theorem dX8_guess_61 : decode cX8_guess 61 = .ok (.iload_n 2, 1) := by decide +kernel
theorem dX8_guess_62 : decode cX8_guess 62 = .ok (.iaload, 1) := by decide +kernel
theorem dX8_guess_63 : decode cX8_guess 63 = .ok (.ireturn, 1) := by decide +kernel
theorem dX8_canTest_0 : decode cX8_canTest 0 = .ok (.aload_n 0, 1) := by decide +kernel
theorem dX8_canTest_1 : decode cX8_canTest 1 = .ok (.iload_n 1, 1) := by decide +kernel
theorem dX8_canTest_2 : decode cX8_canTest 2 = .ok (.invokevirtual 83, 3) := by decide +kernel
theorem dX8_canTest_5 : decode cX8_canTest 5 = .ok (.ifCond .eq 16, 3) := by decide +kernel
theorem dX8_canTest_8 : decode cX8_canTest 8 = .ok (.aload_n 0, 1) := by decide +kernel
theorem dX8_canTest_9 : decode cX8_canTest 9 = .ok (.getfield 22, 3) := by decide +kernel
theorem dX8_canTest_12 : decode cX8_canTest 12 = .ok (.iload_n 1, 1) := by decide +kernel
theorem dX8_canTest_13 : decode cX8_canTest 13 = .ok (.baload, 1) := by decide +kernel
theorem dX8_canTest_14 : decode cX8_canTest 14 = .ok (.ifCond .ne 7, 3) := by decide +kernel
theorem dX8_canTest_17 : decode cX8_canTest 17 = .ok (.iconst 1, 1) := by decide +kernel
theorem dX8_canTest_18 : decode cX8_canTest 18 = .ok (.goto 4, 3) := by decide +kernel
theorem dX8_canTest_21 : decode cX8_canTest 21 = .ok (.iconst 0, 1) := by decide +kernel
theorem dX8_canTest_22 : decode cX8_canTest 22 = .ok (.ireturn, 1) := by decide +kernel
theorem dX8_hopeOf_0 : decode cX8_hopeOf 0 = .ok (.lconst 0, 1) := by decide +kernel
theorem dX8_hopeOf_1 : decode cX8_hopeOf 1 = .ok (.lstore_n 2, 1) := by decide +kernel
theorem dX8_hopeOf_2 : decode cX8_hopeOf 2 = .ok (.lconst 0, 1) := by decide +kernel
theorem dX8_hopeOf_3 : decode cX8_hopeOf 3 = .ok (.lstore 4, 2) := by decide +kernel
theorem dX8_hopeOf_5 : decode cX8_hopeOf 5 = .ok (.iconst 0, 1) := by decide +kernel
theorem dX8_hopeOf_6 : decode cX8_hopeOf 6 = .ok (.istore 6, 2) := by decide +kernel
theorem dX8_hopeOf_8 : decode cX8_hopeOf 8 = .ok (.iload 6, 2) := by decide +kernel
theorem dX8_hopeOf_10 : decode cX8_hopeOf 10 = .ok (.aload_n 0, 1) := by decide +kernel
theorem dX8_hopeOf_11 : decode cX8_hopeOf 11 = .ok (.getfield 112, 3) := by decide +kernel
theorem dX8_hopeOf_14 : decode cX8_hopeOf 14 = .ok (.if_icmp .ge 104, 3) := by decide +kernel
theorem dX8_hopeOf_17 : decode cX8_hopeOf 17 = .ok (.aload_n 0, 1) := by decide +kernel
theorem dX8_hopeOf_18 : decode cX8_hopeOf 18 = .ok (.iload_n 1, 1) := by decide +kernel
theorem dX8_hopeOf_19 : decode cX8_hopeOf 19 = .ok (.aload_n 0, 1) := by decide +kernel
theorem dX8_hopeOf_20 : decode cX8_hopeOf 20 = .ok (.getfield 41, 3) := by decide +kernel
theorem dX8_hopeOf_23 : decode cX8_hopeOf 23 = .ok (.iload 6, 2) := by decide +kernel
theorem dX8_hopeOf_25 : decode cX8_hopeOf 25 = .ok (.iaload, 1) := by decide +kernel
theorem dX8_hopeOf_26 : decode cX8_hopeOf 26 = .ok (.aload_n 0, 1) := by decide +kernel
theorem dX8_hopeOf_27 : decode cX8_hopeOf 27 = .ok (.getfield 44, 3) := by decide +kernel
theorem dX8_hopeOf_30 : decode cX8_hopeOf 30 = .ok (.iload 6, 2) := by decide +kernel
theorem dX8_hopeOf_32 : decode cX8_hopeOf 32 = .ok (.iaload, 1) := by decide +kernel
theorem dX8_hopeOf_33 : decode cX8_hopeOf 33 = .ok (.aload_n 0, 1) := by decide +kernel
theorem dX8_hopeOf_34 : decode cX8_hopeOf 34 = .ok (.getfield 47, 3) := by decide +kernel
theorem dX8_hopeOf_37 : decode cX8_hopeOf 37 = .ok (.iload 6, 2) := by decide +kernel
theorem dX8_hopeOf_39 : decode cX8_hopeOf 39 = .ok (.iaload, 1) := by decide +kernel
theorem dX8_hopeOf_40 : decode cX8_hopeOf 40 = .ok (.invokevirtual 104, 3) := by decide +kernel
theorem dX8_hopeOf_43 : decode cX8_hopeOf 43 = .ok (.istore 7, 2) := by decide +kernel
theorem dX8_hopeOf_45 : decode cX8_hopeOf 45 = .ok (.aload_n 0, 1) := by decide +kernel
theorem dX8_hopeOf_46 : decode cX8_hopeOf 46 = .ok (.getfield 50, 3) := by decide +kernel
theorem dX8_hopeOf_49 : decode cX8_hopeOf 49 = .ok (.iload 6, 2) := by decide +kernel
theorem dX8_hopeOf_51 : decode cX8_hopeOf 51 = .ok (.laload, 1) := by decide +kernel
theorem dX8_hopeOf_52 : decode cX8_hopeOf 52 = .ok (.aload_n 0, 1) := by decide +kernel
theorem dX8_hopeOf_53 : decode cX8_hopeOf 53 = .ok (.iload 7, 2) := by decide +kernel
theorem dX8_hopeOf_55 : decode cX8_hopeOf 55 = .ok (.iconst 1, 1) := by decide +kernel
theorem dX8_hopeOf_56 : decode cX8_hopeOf 56 = .ok (.invokevirtual 108, 3) := by decide +kernel
theorem dX8_hopeOf_59 : decode cX8_hopeOf 59 = .ok (.i2l, 1) := by decide +kernel
theorem dX8_hopeOf_60 : decode cX8_hopeOf 60 = .ok (.lmul, 1) := by decide +kernel
theorem dX8_hopeOf_61 : decode cX8_hopeOf 61 = .ok (.lstore 8, 2) := by decide +kernel
theorem dX8_hopeOf_63 : decode cX8_hopeOf 63 = .ok (.aload_n 0, 1) := by decide +kernel
theorem dX8_hopeOf_64 : decode cX8_hopeOf 64 = .ok (.getfield 50, 3) := by decide +kernel
theorem dX8_hopeOf_67 : decode cX8_hopeOf 67 = .ok (.iload 6, 2) := by decide +kernel
theorem dX8_hopeOf_69 : decode cX8_hopeOf 69 = .ok (.laload, 1) := by decide +kernel
theorem dX8_hopeOf_70 : decode cX8_hopeOf 70 = .ok (.aload_n 0, 1) := by decide +kernel
theorem dX8_hopeOf_71 : decode cX8_hopeOf 71 = .ok (.iload 7, 2) := by decide +kernel
theorem dX8_hopeOf_73 : decode cX8_hopeOf 73 = .ok (.iconst 0, 1) := by decide +kernel
theorem dX8_hopeOf_74 : decode cX8_hopeOf 74 = .ok (.invokevirtual 108, 3) := by decide +kernel
theorem dX8_hopeOf_77 : decode cX8_hopeOf 77 = .ok (.i2l, 1) := by decide +kernel
theorem dX8_hopeOf_78 : decode cX8_hopeOf 78 = .ok (.lmul, 1) := by decide +kernel
theorem dX8_hopeOf_79 : decode cX8_hopeOf 79 = .ok (.lstore 10, 2) := by decide +kernel
theorem dX8_hopeOf_81 : decode cX8_hopeOf 81 = .ok (.lload 8, 2) := by decide +kernel
theorem dX8_hopeOf_83 : decode cX8_hopeOf 83 = .ok (.lload_n 2, 1) := by decide +kernel
theorem dX8_hopeOf_84 : decode cX8_hopeOf 84 = .ok (.lcmp, 1) := by decide +kernel
theorem dX8_hopeOf_85 : decode cX8_hopeOf 85 = .ok (.ifCond .le 8, 3) := by decide +kernel
theorem dX8_hopeOf_88 : decode cX8_hopeOf 88 = .ok (.lload 8, 2) := by decide +kernel
theorem dX8_hopeOf_90 : decode cX8_hopeOf 90 = .ok (.goto 4, 3) := by decide +kernel
theorem dX8_hopeOf_93 : decode cX8_hopeOf 93 = .ok (.lload_n 2, 1) := by decide +kernel
theorem dX8_hopeOf_94 : decode cX8_hopeOf 94 = .ok (.lstore_n 2, 1) := by decide +kernel
theorem dX8_hopeOf_95 : decode cX8_hopeOf 95 = .ok (.lload 10, 2) := by decide +kernel
theorem dX8_hopeOf_97 : decode cX8_hopeOf 97 = .ok (.lload 4, 2) := by decide +kernel
theorem dX8_hopeOf_99 : decode cX8_hopeOf 99 = .ok (.lcmp, 1) := by decide +kernel
theorem dX8_hopeOf_100 : decode cX8_hopeOf 100 = .ok (.ifCond .le 8, 3) := by decide +kernel
theorem dX8_hopeOf_103 : decode cX8_hopeOf 103 = .ok (.lload 10, 2) := by decide +kernel
theorem dX8_hopeOf_105 : decode cX8_hopeOf 105 = .ok (.goto 5, 3) := by decide +kernel
theorem dX8_hopeOf_108 : decode cX8_hopeOf 108 = .ok (.lload 4, 2) := by decide +kernel
theorem dX8_hopeOf_110 : decode cX8_hopeOf 110 = .ok (.lstore 4, 2) := by decide +kernel
theorem dX8_hopeOf_112 : decode cX8_hopeOf 112 = .ok (.iinc 6 1, 3) := by decide +kernel
theorem dX8_hopeOf_115 : decode cX8_hopeOf 115 = .ok (.goto (-107), 3) := by decide +kernel
theorem dX8_hopeOf_118 : decode cX8_hopeOf 118 = .ok (.lload_n 2, 1) := by decide +kernel
theorem dX8_hopeOf_119 : decode cX8_hopeOf 119 = .ok (.lload 4, 2) := by decide +kernel
theorem dX8_hopeOf_121 : decode cX8_hopeOf 121 = .ok (.ladd, 1) := by decide +kernel
theorem dX8_hopeOf_122 : decode cX8_hopeOf 122 = .ok (.lreturn, 1) := by decide +kernel
theorem dX8_hope_0 : decode cX8_hope 0 = .ok (.aload_n 0, 1) := by decide +kernel
theorem dX8_hope_1 : decode cX8_hope 1 = .ok (.iload_n 1, 1) := by decide +kernel
theorem dX8_hope_2 : decode cX8_hope 2 = .ok (.invokevirtual 145, 3) := by decide +kernel
theorem dX8_hope_5 : decode cX8_hope 5 = .ok (.ifCond .ne 7, 3) := by decide +kernel
theorem dX8_hope_8 : decode cX8_hope 8 = .ok (.ldc2_w 132, 3) := by decide +kernel
theorem dX8_hope_11 : decode cX8_hope 11 = .ok (.lreturn, 1) := by decide +kernel
theorem dX8_hope_12 : decode cX8_hope 12 = .ok (.iload_n 2, 1) := by decide +kernel
theorem dX8_hope_13 : decode cX8_hope 13 = .ok (.invokestatic 94, 3) := by decide +kernel
theorem dX8_hope_16 : decode cX8_hope 16 = .ok (.ifCond .ne 7, 3) := by decide +kernel
theorem dX8_hope_19 : decode cX8_hope 19 = .ok (.ldc2_w 127, 3) := by decide +kernel
theorem dX8_hope_22 : decode cX8_hope 22 = .ok (.lreturn, 1) := by decide +kernel
theorem dX8_hope_23 : decode cX8_hope 23 = .ok (.aload_n 0, 1) := by decide +kernel
theorem dX8_hope_24 : decode cX8_hope 24 = .ok (.invokevirtual 134, 3) := by decide +kernel
theorem dX8_hope_27 : decode cX8_hope 27 = .ok (.aload_n 0, 1) := by decide +kernel
theorem dX8_hope_28 : decode cX8_hope 28 = .ok (.iload_n 1, 1) := by decide +kernel
theorem dX8_hope_29 : decode cX8_hope 29 = .ok (.invokevirtual 148, 3) := by decide +kernel
theorem dX8_hope_32 : decode cX8_hope 32 = .ok (.ldc2_w 152, 3) := by decide +kernel
theorem dX8_hope_35 : decode cX8_hope 35 = .ok (.aload_n 0, 1) := by decide +kernel
theorem dX8_hope_36 : decode cX8_hope 36 = .ok (.getfield 119, 3) := by decide +kernel
theorem dX8_hope_39 : decode cX8_hope 39 = .ok (.lmul, 1) := by decide +kernel
theorem dX8_hope_40 : decode cX8_hope 40 = .ok (.iload_n 2, 1) := by decide +kernel
theorem dX8_hope_41 : decode cX8_hope 41 = .ok (.invokestatic 137, 3) := by decide +kernel
theorem dX8_hope_44 : decode cX8_hope 44 = .ok (.lreturn, 1) := by decide +kernel
theorem dX8_badness_0 : decode cX8_badness 0 = .ok (.iload_n 2, 1) := by decide +kernel
theorem dX8_badness_1 : decode cX8_badness 1 = .ok (.iconst 1, 1) := by decide +kernel
theorem dX8_badness_2 : decode cX8_badness 2 = .ok (.if_icmp .ne 10, 3) := by decide +kernel
theorem dX8_badness_5 : decode cX8_badness 5 = .ok (.aload_n 0, 1) := by decide +kernel
theorem dX8_badness_6 : decode cX8_badness 6 = .ok (.iload_n 1, 1) := by decide +kernel
theorem dX8_badness_7 : decode cX8_badness 7 = .ok (.invokevirtual 148, 3) := by decide +kernel
theorem dX8_badness_10 : decode cX8_badness 10 = .ok (.lneg, 1) := by decide +kernel
theorem dX8_badness_11 : decode cX8_badness 11 = .ok (.lreturn, 1) := by decide +kernel
theorem dX8_badness_12 : decode cX8_badness 12 = .ok (.lconst 0, 1) := by decide +kernel
theorem dX8_badness_13 : decode cX8_badness 13 = .ok (.lstore_n 3, 1) := by decide +kernel
theorem dX8_badness_14 : decode cX8_badness 14 = .ok (.iconst 0, 1) := by decide +kernel
theorem dX8_badness_15 : decode cX8_badness 15 = .ok (.istore 5, 2) := by decide +kernel
theorem dX8_badness_17 : decode cX8_badness 17 = .ok (.iload 5, 2) := by decide +kernel
theorem dX8_badness_19 : decode cX8_badness 19 = .ok (.aload_n 0, 1) := by decide +kernel
theorem dX8_badness_20 : decode cX8_badness 20 = .ok (.getfield 112, 3) := by decide +kernel
theorem dX8_badness_23 : decode cX8_badness 23 = .ok (.if_icmp .ge 59, 3) := by decide +kernel
theorem dX8_badness_26 : decode cX8_badness 26 = .ok (.lload_n 3, 1) := by decide +kernel
theorem dX8_badness_27 : decode cX8_badness 27 = .ok (.aload_n 0, 1) := by decide +kernel
theorem dX8_badness_28 : decode cX8_badness 28 = .ok (.iload_n 1, 1) := by decide +kernel
theorem dX8_badness_29 : decode cX8_badness 29 = .ok (.aload_n 0, 1) := by decide +kernel
theorem dX8_badness_30 : decode cX8_badness 30 = .ok (.getfield 41, 3) := by decide +kernel
theorem dX8_badness_33 : decode cX8_badness 33 = .ok (.iload 5, 2) := by decide +kernel
theorem dX8_badness_35 : decode cX8_badness 35 = .ok (.iaload, 1) := by decide +kernel
theorem dX8_badness_36 : decode cX8_badness 36 = .ok (.aload_n 0, 1) := by decide +kernel
theorem dX8_badness_37 : decode cX8_badness 37 = .ok (.getfield 44, 3) := by decide +kernel
theorem dX8_badness_40 : decode cX8_badness 40 = .ok (.iload 5, 2) := by decide +kernel
theorem dX8_badness_42 : decode cX8_badness 42 = .ok (.iaload, 1) := by decide +kernel
theorem dX8_badness_43 : decode cX8_badness 43 = .ok (.aload_n 0, 1) := by decide +kernel
theorem dX8_badness_44 : decode cX8_badness 44 = .ok (.getfield 47, 3) := by decide +kernel
theorem dX8_badness_47 : decode cX8_badness 47 = .ok (.iload 5, 2) := by decide +kernel
theorem dX8_badness_49 : decode cX8_badness 49 = .ok (.iaload, 1) := by decide +kernel
theorem dX8_badness_50 : decode cX8_badness 50 = .ok (.invokevirtual 104, 3) := by decide +kernel
theorem dX8_badness_53 : decode cX8_badness 53 = .ok (.ifCond .eq 13, 3) := by decide +kernel
theorem dX8_badness_56 : decode cX8_badness 56 = .ok (.aload_n 0, 1) := by decide +kernel
theorem dX8_badness_57 : decode cX8_badness 57 = .ok (.getfield 50, 3) := by decide +kernel
theorem dX8_badness_60 : decode cX8_badness 60 = .ok (.iload 5, 2) := by decide +kernel
theorem dX8_badness_62 : decode cX8_badness 62 = .ok (.laload, 1) := by decide +kernel
theorem dX8_badness_63 : decode cX8_badness 63 = .ok (.goto 11, 3) := by decide +kernel
theorem dX8_badness_66 : decode cX8_badness 66 = .ok (.aload_n 0, 1) := by decide +kernel
theorem dX8_badness_67 : decode cX8_badness 67 = .ok (.getfield 50, 3) := by decide +kernel
theorem dX8_badness_70 : decode cX8_badness 70 = .ok (.iload 5, 2) := by decide +kernel
theorem dX8_badness_72 : decode cX8_badness 72 = .ok (.laload, 1) := by decide +kernel
theorem dX8_badness_73 : decode cX8_badness 73 = .ok (.lneg, 1) := by decide +kernel
theorem dX8_badness_74 : decode cX8_badness 74 = .ok (.ladd, 1) := by decide +kernel
theorem dX8_badness_75 : decode cX8_badness 75 = .ok (.lstore_n 3, 1) := by decide +kernel
theorem dX8_badness_76 : decode cX8_badness 76 = .ok (.iinc 5 1, 3) := by decide +kernel
theorem dX8_badness_79 : decode cX8_badness 79 = .ok (.goto (-62), 3) := by decide +kernel
theorem dX8_badness_82 : decode cX8_badness 82 = .ok (.lload_n 3, 1) := by decide +kernel
theorem dX8_badness_83 : decode cX8_badness 83 = .ok (.lconst 0, 1) := by decide +kernel
theorem dX8_badness_84 : decode cX8_badness 84 = .ok (.lcmp, 1) := by decide +kernel
theorem dX8_badness_85 : decode cX8_badness 85 = .ok (.ifCond .ge 8, 3) := by decide +kernel
theorem dX8_badness_88 : decode cX8_badness 88 = .ok (.lload_n 3, 1) := by decide +kernel
theorem dX8_badness_89 : decode cX8_badness 89 = .ok (.lneg, 1) := by decide +kernel
theorem dX8_badness_90 : decode cX8_badness 90 = .ok (.goto 4, 3) := by decide +kernel
theorem dX8_badness_93 : decode cX8_badness 93 = .ok (.lload_n 3, 1) := by decide +kernel
theorem dX8_badness_94 : decode cX8_badness 94 = .ok (.lreturn, 1) := by decide +kernel
theorem dX8_nextOf_0 : decode cX8_nextOf 0 = .ok (.bipush (-6), 2) := by decide +kernel
theorem dX8_nextOf_2 : decode cX8_nextOf 2 = .ok (.istore_n 2, 1) := by decide +kernel
theorem dX8_nextOf_3 : decode cX8_nextOf 3 = .ok (.lconst 0, 1) := by decide +kernel
theorem dX8_nextOf_4 : decode cX8_nextOf 4 = .ok (.lstore_n 3, 1) := by decide +kernel
theorem dX8_nextOf_5 : decode cX8_nextOf 5 = .ok (.iconst 0, 1) := by decide +kernel
theorem dX8_nextOf_6 : decode cX8_nextOf 6 = .ok (.istore 5, 2) := by decide +kernel
theorem dX8_nextOf_8 : decode cX8_nextOf 8 = .ok (.iload 5, 2) := by decide +kernel
theorem dX8_nextOf_10 : decode cX8_nextOf 10 = .ok (.aload_n 0, 1) := by decide +kernel
theorem dX8_nextOf_11 : decode cX8_nextOf 11 = .ok (.getfield 75, 3) := by decide +kernel
theorem dX8_nextOf_14 : decode cX8_nextOf 14 = .ok (.if_icmp .ge 68, 3) := by decide +kernel
theorem dX8_nextOf_17 : decode cX8_nextOf 17 = .ok (.aload_n 0, 1) := by decide +kernel
theorem dX8_nextOf_18 : decode cX8_nextOf 18 = .ok (.getfield 22, 3) := by decide +kernel
theorem dX8_nextOf_21 : decode cX8_nextOf 21 = .ok (.iload 5, 2) := by decide +kernel
theorem dX8_nextOf_23 : decode cX8_nextOf 23 = .ok (.baload, 1) := by decide +kernel
theorem dX8_nextOf_24 : decode cX8_nextOf 24 = .ok (.ifCond .ne 52, 3) := by decide +kernel
theorem dX8_nextOf_27 : decode cX8_nextOf 27 = .ok (.aload_n 0, 1) := by decide +kernel
theorem dX8_nextOf_28 : decode cX8_nextOf 28 = .ok (.iload 5, 2) := by decide +kernel
theorem dX8_nextOf_30 : decode cX8_nextOf 30 = .ok (.iload_n 1, 1) := by decide +kernel
theorem dX8_nextOf_31 : decode cX8_nextOf 31 = .ok (.invokevirtual 154, 3) := by decide +kernel
theorem dX8_nextOf_34 : decode cX8_nextOf 34 = .ok (.lstore 6, 2) := by decide +kernel
theorem dX8_nextOf_36 : decode cX8_nextOf 36 = .ok (.iload_n 2, 1) := by decide +kernel
theorem dX8_nextOf_37 : decode cX8_nextOf 37 = .ok (.ifCond .lt 33, 3) := by decide +kernel
theorem dX8_nextOf_40 : decode cX8_nextOf 40 = .ok (.lload 6, 2) := by decide +kernel
theorem dX8_nextOf_42 : decode cX8_nextOf 42 = .ok (.lload_n 3, 1) := by decide +kernel
theorem dX8_nextOf_43 : decode cX8_nextOf 43 = .ok (.lcmp, 1) := by decide +kernel
theorem dX8_nextOf_44 : decode cX8_nextOf 44 = .ok (.ifCond .lt 26, 3) := by decide +kernel
theorem dX8_nextOf_47 : decode cX8_nextOf 47 = .ok (.lload 6, 2) := by decide +kernel
theorem dX8_nextOf_49 : decode cX8_nextOf 49 = .ok (.lload_n 3, 1) := by decide +kernel
theorem dX8_nextOf_50 : decode cX8_nextOf 50 = .ok (.lcmp, 1) := by decide +kernel
theorem dX8_nextOf_51 : decode cX8_nextOf 51 = .ok (.ifCond .ne 25, 3) := by decide +kernel
theorem dX8_nextOf_54 : decode cX8_nextOf 54 = .ok (.aload_n 0, 1) := by decide +kernel
theorem dX8_nextOf_55 : decode cX8_nextOf 55 = .ok (.getfield 16, 3) := by decide +kernel
theorem dX8_nextOf_58 : decode cX8_nextOf 58 = .ok (.iload 5, 2) := by decide +kernel
theorem dX8_nextOf_60 : decode cX8_nextOf 60 = .ok (.iaload, 1) := by decide +kernel
theorem dX8_nextOf_61 : decode cX8_nextOf 61 = .ok (.aload_n 0, 1) := by decide +kernel
theorem dX8_nextOf_62 : decode cX8_nextOf 62 = .ok (.getfield 16, 3) := by decide +kernel
theorem dX8_nextOf_65 : decode cX8_nextOf 65 = .ok (.iload_n 2, 1) := by decide +kernel
theorem dX8_nextOf_66 : decode cX8_nextOf 66 = .ok (.iaload, 1) := by decide +kernel
theorem dX8_nextOf_67 : decode cX8_nextOf 67 = .ok (.if_icmp .ge 9, 3) := by decide +kernel
theorem dX8_nextOf_70 : decode cX8_nextOf 70 = .ok (.iload 5, 2) := by decide +kernel
theorem dX8_nextOf_72 : decode cX8_nextOf 72 = .ok (.istore_n 2, 1) := by decide +kernel
theorem dX8_nextOf_73 : decode cX8_nextOf 73 = .ok (.lload 6, 2) := by decide +kernel
theorem dX8_nextOf_75 : decode cX8_nextOf 75 = .ok (.lstore_n 3, 1) := by decide +kernel
theorem dX8_nextOf_76 : decode cX8_nextOf 76 = .ok (.iinc 5 1, 3) := by decide +kernel
theorem dX8_nextOf_79 : decode cX8_nextOf 79 = .ok (.goto (-71), 3) := by decide +kernel
theorem dX8_nextOf_82 : decode cX8_nextOf 82 = .ok (.iload_n 2, 1) := by decide +kernel
theorem dX8_nextOf_83 : decode cX8_nextOf 83 = .ok (.ireturn, 1) := by decide +kernel
theorem dX8_next_0 : decode cX8_next 0 = .ok (.iload_n 1, 1) := by decide +kernel
theorem dX8_next_1 : decode cX8_next 1 = .ok (.invokestatic 94, 3) := by decide +kernel
theorem dX8_next_4 : decode cX8_next 4 = .ok (.ifCond .ne 6, 3) := by decide +kernel
theorem dX8_next_7 : decode cX8_next 7 = .ok (.bipush (-2), 2) := by decide +kernel
theorem dX8_next_9 : decode cX8_next 9 = .ok (.ireturn, 1) := by decide +kernel
theorem dX8_next_10 : decode cX8_next 10 = .ok (.aload_n 0, 1) := by decide +kernel
theorem dX8_next_11 : decode cX8_next 11 = .ok (.invokevirtual 134, 3) := by decide +kernel
theorem dX8_next_14 : decode cX8_next 14 = .ok (.aload_n 0, 1) := by decide +kernel
theorem dX8_next_15 : decode cX8_next 15 = .ok (.iload_n 1, 1) := by decide +kernel
theorem dX8_next_16 : decode cX8_next 16 = .ok (.invokevirtual 158, 3) := by decide +kernel
theorem dX8_next_19 : decode cX8_next 19 = .ok (.ireturn, 1) := by decide +kernel
theorem dX8_laySet_0 : decode cX8_laySet 0 = .ok (.aload_n 0, 1) := by decide +kernel
theorem dX8_laySet_1 : decode cX8_laySet 1 = .ok (.getfield 54, 3) := by decide +kernel
theorem dX8_laySet_4 : decode cX8_laySet 4 = .ok (.iload_n 1, 1) := by decide +kernel
theorem dX8_laySet_5 : decode cX8_laySet 5 = .ok (.iconst 0, 1) := by decide +kernel
theorem dX8_laySet_6 : decode cX8_laySet 6 = .ok (.iastore, 1) := by decide +kernel
theorem dX8_laySet_7 : decode cX8_laySet 7 = .ok (.aload_n 0, 1) := by decide +kernel
theorem dX8_laySet_8 : decode cX8_laySet 8 = .ok (.getfield 60, 3) := by decide +kernel
theorem dX8_laySet_11 : decode cX8_laySet 11 = .ok (.iload_n 1, 1) := by decide +kernel
theorem dX8_laySet_12 : decode cX8_laySet 12 = .ok (.iconst 0, 1) := by decide +kernel
theorem dX8_laySet_13 : decode cX8_laySet 13 = .ok (.iastore, 1) := by decide +kernel
theorem dX8_laySet_14 : decode cX8_laySet 14 = .ok (.aload_n 0, 1) := by decide +kernel
theorem dX8_laySet_15 : decode cX8_laySet 15 = .ok (.getfield 57, 3) := by decide +kernel
theorem dX8_laySet_18 : decode cX8_laySet 18 = .ok (.iload_n 1, 1) := by decide +kernel
theorem dX8_laySet_19 : decode cX8_laySet 19 = .ok (.bipush (-6), 2) := by decide +kernel
theorem dX8_laySet_21 : decode cX8_laySet 21 = .ok (.iastore, 1) := by decide +kernel
theorem dX8_laySet_22 : decode cX8_laySet 22 = .ok (.aload_n 0, 1) := by decide +kernel
theorem dX8_laySet_23 : decode cX8_laySet 23 = .ok (.getfield 63, 3) := by decide +kernel
theorem dX8_laySet_26 : decode cX8_laySet 26 = .ok (.iload_n 1, 1) := by decide +kernel
theorem dX8_laySet_27 : decode cX8_laySet 27 = .ok (.bipush (-6), 2) := by decide +kernel
theorem dX8_laySet_29 : decode cX8_laySet 29 = .ok (.iastore, 1) := by decide +kernel
theorem dX8_laySet_30 : decode cX8_laySet 30 = .ok (.iconst 0, 1) := by decide +kernel
theorem dX8_laySet_31 : decode cX8_laySet 31 = .ok (.istore_n 2, 1) := by decide +kernel
theorem dX8_laySet_32 : decode cX8_laySet 32 = .ok (.iconst 0, 1) := by decide +kernel
theorem dX8_laySet_33 : decode cX8_laySet 33 = .ok (.istore_n 3, 1) := by decide +kernel
theorem dX8_laySet_34 : decode cX8_laySet 34 = .ok (.iload_n 3, 1) := by decide +kernel
theorem dX8_laySet_35 : decode cX8_laySet 35 = .ok (.aload_n 0, 1) := by decide +kernel
theorem dX8_laySet_36 : decode cX8_laySet 36 = .ok (.getfield 75, 3) := by decide +kernel
theorem dX8_laySet_39 : decode cX8_laySet 39 = .ok (.if_icmp .ge 30, 3) := by decide +kernel
theorem dX8_laySet_42 : decode cX8_laySet 42 = .ok (.iload_n 2, 1) := by decide +kernel
theorem dX8_laySet_43 : decode cX8_laySet 43 = .ok (.iload_n 1, 1) := by decide +kernel
theorem dX8_laySet_44 : decode cX8_laySet 44 = .ok (.iload_n 3, 1) := by decide +kernel
theorem dX8_laySet_45 : decode cX8_laySet 45 = .ok (.invokestatic 100, 3) := by decide +kernel
theorem dX8_laySet_48 : decode cX8_laySet 48 = .ok (.ifCond .eq 12, 3) := by decide +kernel
theorem dX8_laySet_51 : decode cX8_laySet 51 = .ok (.aload_n 0, 1) := by decide +kernel
theorem dX8_laySet_52 : decode cX8_laySet 52 = .ok (.getfield 13, 3) := by decide +kernel
theorem dX8_laySet_55 : decode cX8_laySet 55 = .ok (.iload_n 3, 1) := by decide +kernel
theorem dX8_laySet_56 : decode cX8_laySet 56 = .ok (.iaload, 1) := by decide +kernel
theorem dX8_laySet_57 : decode cX8_laySet 57 = .ok (.goto 4, 3) := by decide +kernel
theorem dX8_laySet_60 : decode cX8_laySet 60 = .ok (.iconst 0, 1) := by decide +kernel
theorem dX8_laySet_61 : decode cX8_laySet 61 = .ok (.iadd, 1) := by decide +kernel
theorem dX8_laySet_62 : decode cX8_laySet 62 = .ok (.istore_n 2, 1) := by decide +kernel
theorem dX8_laySet_63 : decode cX8_laySet 63 = .ok (.iinc 3 1, 3) := by decide +kernel
theorem dX8_laySet_66 : decode cX8_laySet 66 = .ok (.goto (-32), 3) := by decide +kernel
theorem dX8_laySet_69 : decode cX8_laySet 69 = .ok (.iconst 0, 1) := by decide +kernel
theorem dX8_laySet_70 : decode cX8_laySet 70 = .ok (.istore_n 3, 1) := by decide +kernel
theorem dX8_laySet_71 : decode cX8_laySet 71 = .ok (.iload_n 3, 1) := by decide +kernel
theorem dX8_laySet_72 : decode cX8_laySet 72 = .ok (.aload_n 0, 1) := by decide +kernel
theorem dX8_laySet_73 : decode cX8_laySet 73 = .ok (.getfield 75, 3) := by decide +kernel
theorem dX8_laySet_76 : decode cX8_laySet 76 = .ok (.if_icmp .ge 184, 3) := by decide +kernel
theorem dX8_laySet_79 : decode cX8_laySet 79 = .ok (.iload_n 1, 1) := by decide +kernel
theorem dX8_laySet_80 : decode cX8_laySet 80 = .ok (.aload_n 0, 1) := by decide +kernel
theorem dX8_laySet_81 : decode cX8_laySet 81 = .ok (.getfield 7, 3) := by decide +kernel
theorem dX8_laySet_84 : decode cX8_laySet 84 = .ok (.iload_n 3, 1) := by decide +kernel
theorem dX8_laySet_85 : decode cX8_laySet 85 = .ok (.iaload, 1) := by decide +kernel
theorem dX8_laySet_86 : decode cX8_laySet 86 = .ok (.iand, 1) := by decide +kernel
theorem dX8_laySet_87 : decode cX8_laySet 87 = .ok (.istore 4, 2) := by decide +kernel
theorem dX8_laySet_89 : decode cX8_laySet 89 = .ok (.iload_n 1, 1) := by decide +kernel
theorem dX8_laySet_90 : decode cX8_laySet 90 = .ok (.aload_n 0, 1) := by decide +kernel
theorem dX8_laySet_91 : decode cX8_laySet 91 = .ok (.getfield 7, 3) := by decide +kernel
theorem dX8_laySet_94 : decode cX8_laySet 94 = .ok (.iload_n 3, 1) := by decide +kernel
theorem dX8_laySet_95 : decode cX8_laySet 95 = .ok (.iaload, 1) := by decide +kernel
theorem dX8_laySet_96 : decode cX8_laySet 96 = .ok (.iconst (-1), 1) := by decide +kernel
theorem dX8_laySet_97 : decode cX8_laySet 97 = .ok (.ixor, 1) := by decide +kernel
theorem dX8_laySet_98 : decode cX8_laySet 98 = .ok (.iand, 1) := by decide +kernel
theorem dX8_laySet_99 : decode cX8_laySet 99 = .ok (.istore 5, 2) := by decide +kernel
theorem dX8_laySet_101 : decode cX8_laySet 101 = .ok (.aload_n 0, 1) := by decide +kernel
theorem dX8_laySet_102 : decode cX8_laySet 102 = .ok (.getfield 22, 3) := by decide +kernel
theorem dX8_laySet_105 : decode cX8_laySet 105 = .ok (.iload_n 3, 1) := by decide +kernel
theorem dX8_laySet_106 : decode cX8_laySet 106 = .ok (.baload, 1) := by decide +kernel
theorem dX8_laySet_107 : decode cX8_laySet 107 = .ok (.ifCond .ne 147, 3) := by decide +kernel
theorem dX8_laySet_110 : decode cX8_laySet 110 = .ok (.iload 4, 2) := by decide +kernel
theorem dX8_laySet_112 : decode cX8_laySet 112 = .ok (.ifCond .eq 142, 3) := by decide +kernel
theorem dX8_laySet_115 : decode cX8_laySet 115 = .ok (.iload 5, 2) := by decide +kernel
theorem dX8_laySet_117 : decode cX8_laySet 117 = .ok (.ifCond .eq 137, 3) := by decide +kernel
theorem dX8_laySet_120 : decode cX8_laySet 120 = .ok (.iconst 1, 1) := by decide +kernel
theorem dX8_laySet_121 : decode cX8_laySet 121 = .ok (.aload_n 0, 1) := by decide +kernel
theorem dX8_laySet_122 : decode cX8_laySet 122 = .ok (.getfield 54, 3) := by decide +kernel
theorem dX8_laySet_125 : decode cX8_laySet 125 = .ok (.iload 4, 2) := by decide +kernel
theorem dX8_laySet_127 : decode cX8_laySet 127 = .ok (.iaload, 1) := by decide +kernel
theorem dX8_laySet_128 : decode cX8_laySet 128 = .ok (.aload_n 0, 1) := by decide +kernel
theorem dX8_laySet_129 : decode cX8_laySet 129 = .ok (.getfield 54, 3) := by decide +kernel
theorem dX8_laySet_132 : decode cX8_laySet 132 = .ok (.iload 5, 2) := by decide +kernel
theorem dX8_laySet_134 : decode cX8_laySet 134 = .ok (.iaload, 1) := by decide +kernel
theorem dX8_laySet_135 : decode cX8_laySet 135 = .ok (.if_icmp .le 13, 3) := by decide +kernel
theorem dX8_laySet_138 : decode cX8_laySet 138 = .ok (.aload_n 0, 1) := by decide +kernel
theorem dX8_laySet_139 : decode cX8_laySet 139 = .ok (.getfield 54, 3) := by decide +kernel
theorem dX8_laySet_142 : decode cX8_laySet 142 = .ok (.iload 4, 2) := by decide +kernel
theorem dX8_laySet_144 : decode cX8_laySet 144 = .ok (.iaload, 1) := by decide +kernel
theorem dX8_laySet_145 : decode cX8_laySet 145 = .ok (.goto 10, 3) := by decide +kernel
theorem dX8_laySet_148 : decode cX8_laySet 148 = .ok (.aload_n 0, 1) := by decide +kernel
theorem dX8_laySet_149 : decode cX8_laySet 149 = .ok (.getfield 54, 3) := by decide +kernel
theorem dX8_laySet_152 : decode cX8_laySet 152 = .ok (.iload 5, 2) := by decide +kernel
theorem dX8_laySet_154 : decode cX8_laySet 154 = .ok (.iaload, 1) := by decide +kernel
theorem dX8_laySet_155 : decode cX8_laySet 155 = .ok (.iadd, 1) := by decide +kernel
theorem dX8_laySet_156 : decode cX8_laySet 156 = .ok (.istore 6, 2) := by decide +kernel
theorem dX8_laySet_158 : decode cX8_laySet 158 = .ok (.aload_n 0, 1) := by decide +kernel
theorem dX8_laySet_159 : decode cX8_laySet 159 = .ok (.getfield 57, 3) := by decide +kernel
theorem dX8_laySet_162 : decode cX8_laySet 162 = .ok (.iload_n 1, 1) := by decide +kernel
theorem dX8_laySet_163 : decode cX8_laySet 163 = .ok (.iaload, 1) := by decide +kernel
theorem dX8_laySet_164 : decode cX8_laySet 164 = .ok (.ifCond .lt 14, 3) := by decide +kernel
theorem dX8_laySet_167 : decode cX8_laySet 167 = .ok (.iload 6, 2) := by decide +kernel
theorem dX8_laySet_169 : decode cX8_laySet 169 = .ok (.aload_n 0, 1) := by decide +kernel
theorem dX8_laySet_170 : decode cX8_laySet 170 = .ok (.getfield 54, 3) := by decide +kernel
theorem dX8_laySet_173 : decode cX8_laySet 173 = .ok (.iload_n 1, 1) := by decide +kernel
theorem dX8_laySet_174 : decode cX8_laySet 174 = .ok (.iaload, 1) := by decide +kernel
theorem dX8_laySet_175 : decode cX8_laySet 175 = .ok (.if_icmp .ge 18, 3) := by decide +kernel
theorem dX8_laySet_178 : decode cX8_laySet 178 = .ok (.aload_n 0, 1) := by decide +kernel
theorem dX8_laySet_179 : decode cX8_laySet 179 = .ok (.getfield 54, 3) := by decide +kernel
theorem dX8_laySet_182 : decode cX8_laySet 182 = .ok (.iload_n 1, 1) := by decide +kernel
theorem dX8_laySet_183 : decode cX8_laySet 183 = .ok (.iload 6, 2) := by decide +kernel
theorem dX8_laySet_185 : decode cX8_laySet 185 = .ok (.iastore, 1) := by decide +kernel
theorem dX8_laySet_186 : decode cX8_laySet 186 = .ok (.aload_n 0, 1) := by decide +kernel
theorem dX8_laySet_187 : decode cX8_laySet 187 = .ok (.getfield 57, 3) := by decide +kernel
theorem dX8_laySet_190 : decode cX8_laySet 190 = .ok (.iload_n 1, 1) := by decide +kernel
theorem dX8_laySet_191 : decode cX8_laySet 191 = .ok (.iload_n 3, 1) := by decide +kernel
theorem dX8_laySet_192 : decode cX8_laySet 192 = .ok (.iastore, 1) := by decide +kernel
theorem dX8_laySet_193 : decode cX8_laySet 193 = .ok (.aload_n 0, 1) := by decide +kernel
theorem dX8_laySet_194 : decode cX8_laySet 194 = .ok (.getfield 16, 3) := by decide +kernel
theorem dX8_laySet_197 : decode cX8_laySet 197 = .ok (.iload_n 3, 1) := by decide +kernel
theorem dX8_laySet_198 : decode cX8_laySet 198 = .ok (.iaload, 1) := by decide +kernel
theorem dX8_laySet_199 : decode cX8_laySet 199 = .ok (.iload_n 2, 1) := by decide +kernel
theorem dX8_laySet_200 : decode cX8_laySet 200 = .ok (.imul, 1) := by decide +kernel
theorem dX8_laySet_201 : decode cX8_laySet 201 = .ok (.aload_n 0, 1) := by decide +kernel
theorem dX8_laySet_202 : decode cX8_laySet 202 = .ok (.getfield 60, 3) := by decide +kernel
theorem dX8_laySet_205 : decode cX8_laySet 205 = .ok (.iload 4, 2) := by decide +kernel
theorem dX8_laySet_207 : decode cX8_laySet 207 = .ok (.iaload, 1) := by decide +kernel
theorem dX8_laySet_208 : decode cX8_laySet 208 = .ok (.iadd, 1) := by decide +kernel
theorem dX8_laySet_209 : decode cX8_laySet 209 = .ok (.aload_n 0, 1) := by decide +kernel
theorem dX8_laySet_210 : decode cX8_laySet 210 = .ok (.getfield 60, 3) := by decide +kernel
theorem dX8_laySet_213 : decode cX8_laySet 213 = .ok (.iload 5, 2) := by decide +kernel
theorem dX8_laySet_215 : decode cX8_laySet 215 = .ok (.iaload, 1) := by decide +kernel
theorem dX8_laySet_216 : decode cX8_laySet 216 = .ok (.iadd, 1) := by decide +kernel
theorem dX8_laySet_217 : decode cX8_laySet 217 = .ok (.istore 7, 2) := by decide +kernel
theorem dX8_laySet_219 : decode cX8_laySet 219 = .ok (.aload_n 0, 1) := by decide +kernel
theorem dX8_laySet_220 : decode cX8_laySet 220 = .ok (.getfield 63, 3) := by decide +kernel
theorem dX8_laySet_223 : decode cX8_laySet 223 = .ok (.iload_n 1, 1) := by decide +kernel
theorem dX8_laySet_224 : decode cX8_laySet 224 = .ok (.iaload, 1) := by decide +kernel
theorem dX8_laySet_225 : decode cX8_laySet 225 = .ok (.ifCond .lt 14, 3) := by decide +kernel
theorem dX8_laySet_228 : decode cX8_laySet 228 = .ok (.iload 7, 2) := by decide +kernel
theorem dX8_laySet_230 : decode cX8_laySet 230 = .ok (.aload_n 0, 1) := by decide +kernel
theorem dX8_laySet_231 : decode cX8_laySet 231 = .ok (.getfield 60, 3) := by decide +kernel
theorem dX8_laySet_234 : decode cX8_laySet 234 = .ok (.iload_n 1, 1) := by decide +kernel
theorem dX8_laySet_235 : decode cX8_laySet 235 = .ok (.iaload, 1) := by decide +kernel
theorem dX8_laySet_236 : decode cX8_laySet 236 = .ok (.if_icmp .ge 18, 3) := by decide +kernel
theorem dX8_laySet_239 : decode cX8_laySet 239 = .ok (.aload_n 0, 1) := by decide +kernel
theorem dX8_laySet_240 : decode cX8_laySet 240 = .ok (.getfield 60, 3) := by decide +kernel
theorem dX8_laySet_243 : decode cX8_laySet 243 = .ok (.iload_n 1, 1) := by decide +kernel
theorem dX8_laySet_244 : decode cX8_laySet 244 = .ok (.iload 7, 2) := by decide +kernel
theorem dX8_laySet_246 : decode cX8_laySet 246 = .ok (.iastore, 1) := by decide +kernel
theorem dX8_laySet_247 : decode cX8_laySet 247 = .ok (.aload_n 0, 1) := by decide +kernel
theorem dX8_laySet_248 : decode cX8_laySet 248 = .ok (.getfield 63, 3) := by decide +kernel
theorem dX8_laySet_251 : decode cX8_laySet 251 = .ok (.iload_n 1, 1) := by decide +kernel
theorem dX8_laySet_252 : decode cX8_laySet 252 = .ok (.iload_n 3, 1) := by decide +kernel
theorem dX8_laySet_253 : decode cX8_laySet 253 = .ok (.iastore, 1) := by decide +kernel
theorem dX8_laySet_254 : decode cX8_laySet 254 = .ok (.iinc 3 1, 3) := by decide +kernel
theorem dX8_laySet_257 : decode cX8_laySet 257 = .ok (.goto (-186), 3) := by decide +kernel
theorem dX8_laySet_260 : decode cX8_laySet 260 = .ok (.return_, 1) := by decide +kernel
theorem dX8_lay_0 : decode cX8_lay 0 = .ok (.aload_n 0, 1) := by decide +kernel
theorem dX8_lay_1 : decode cX8_lay 1 = .ok (.getfield 87, 3) := by decide +kernel
theorem dX8_lay_4 : decode cX8_lay 4 = .ok (.ifCond .ne 31, 3) := by decide +kernel
theorem dX8_lay_7 : decode cX8_lay 7 = .ok (.aload_n 0, 1) := by decide +kernel
theorem dX8_lay_8 : decode cX8_lay 8 = .ok (.iconst 1, 1) := by decide +kernel
theorem dX8_lay_9 : decode cX8_lay 9 = .ok (.putfield 87, 3) := by decide +kernel
theorem dX8_lay_12 : decode cX8_lay 12 = .ok (.iconst 0, 1) := by decide +kernel
theorem dX8_lay_13 : decode cX8_lay 13 = .ok (.istore_n 1, 1) := by decide +kernel
theorem dX8_lay_14 : decode cX8_lay 14 = .ok (.iload_n 1, 1) := by decide +kernel
theorem dX8_lay_15 : decode cX8_lay 15 = .ok (.iconst 1, 1) := by decide +kernel
theorem dX8_lay_16 : decode cX8_lay 16 = .ok (.aload_n 0, 1) := by decide +kernel
theorem dX8_lay_17 : decode cX8_lay 17 = .ok (.getfield 75, 3) := by decide +kernel
theorem dX8_lay_20 : decode cX8_lay 20 = .ok (.ishl, 1) := by decide +kernel
theorem dX8_lay_21 : decode cX8_lay 21 = .ok (.if_icmp .ge 14, 3) := by decide +kernel
theorem dX8_lay_24 : decode cX8_lay 24 = .ok (.aload_n 0, 1) := by decide +kernel
theorem dX8_lay_25 : decode cX8_lay 25 = .ok (.iload_n 1, 1) := by decide +kernel
theorem dX8_lay_26 : decode cX8_lay 26 = .ok (.invokevirtual 162, 3) := by decide +kernel
theorem dX8_lay_29 : decode cX8_lay 29 = .ok (.iinc 1 1, 3) := by decide +kernel
theorem dX8_lay_32 : decode cX8_lay 32 = .ok (.goto (-18), 3) := by decide +kernel
theorem dX8_lay_35 : decode cX8_lay 35 = .ok (.return_, 1) := by decide +kernel
theorem dX8_isSet_0 : decode cX8_isSet 0 = .ok (.iload_n 1, 1) := by decide +kernel
theorem dX8_isSet_1 : decode cX8_isSet 1 = .ok (.iconst 0, 1) := by decide +kernel
theorem dX8_isSet_2 : decode cX8_isSet 2 = .ok (.iconst 1, 1) := by decide +kernel
theorem dX8_isSet_3 : decode cX8_isSet 3 = .ok (.aload_n 0, 1) := by decide +kernel
theorem dX8_isSet_4 : decode cX8_isSet 4 = .ok (.getfield 75, 3) := by decide +kernel
theorem dX8_isSet_7 : decode cX8_isSet 7 = .ok (.ishl, 1) := by decide +kernel
theorem dX8_isSet_8 : decode cX8_isSet 8 = .ok (.iconst 1, 1) := by decide +kernel
theorem dX8_isSet_9 : decode cX8_isSet 9 = .ok (.isub, 1) := by decide +kernel
theorem dX8_isSet_10 : decode cX8_isSet 10 = .ok (.invokestatic 79, 3) := by decide +kernel
theorem dX8_isSet_13 : decode cX8_isSet 13 = .ok (.ireturn, 1) := by decide +kernel
theorem dX8_worst_0 : decode cX8_worst 0 = .ok (.aload_n 0, 1) := by decide +kernel
theorem dX8_worst_1 : decode cX8_worst 1 = .ok (.iload_n 1, 1) := by decide +kernel
theorem dX8_worst_2 : decode cX8_worst 2 = .ok (.invokevirtual 166, 3) := by decide +kernel
theorem dX8_worst_5 : decode cX8_worst 5 = .ok (.ifCond .eq 10, 3) := by decide +kernel
theorem dX8_worst_8 : decode cX8_worst 8 = .ok (.iload_n 2, 1) := by decide +kernel
theorem dX8_worst_9 : decode cX8_worst 9 = .ok (.invokestatic 94, 3) := by decide +kernel
theorem dX8_worst_12 : decode cX8_worst 12 = .ok (.ifCond .ne 6, 3) := by decide +kernel
theorem dX8_worst_15 : decode cX8_worst 15 = .ok (.bipush (-2), 2) := by decide +kernel
theorem dX8_worst_17 : decode cX8_worst 17 = .ok (.ireturn, 1) := by decide +kernel
theorem dX8_worst_18 : decode cX8_worst 18 = .ok (.aload_n 0, 1) := by decide +kernel
theorem dX8_worst_19 : decode cX8_worst 19 = .ok (.invokevirtual 169, 3) := by decide +kernel
theorem dX8_worst_22 : decode cX8_worst 22 = .ok (.iload_n 2, 1) := by decide +kernel
theorem dX8_worst_23 : decode cX8_worst 23 = .ok (.ifCond .ne 12, 3) := by decide +kernel
theorem dX8_worst_26 : decode cX8_worst 26 = .ok (.aload_n 0, 1) := by decide +kernel
theorem dX8_worst_27 : decode cX8_worst 27 = .ok (.getfield 54, 3) := by decide +kernel
theorem dX8_worst_30 : decode cX8_worst 30 = .ok (.iload_n 1, 1) := by decide +kernel
theorem dX8_worst_31 : decode cX8_worst 31 = .ok (.iaload, 1) := by decide +kernel
theorem dX8_worst_32 : decode cX8_worst 32 = .ok (.goto 9, 3) := by decide +kernel
theorem dX8_worst_35 : decode cX8_worst 35 = .ok (.aload_n 0, 1) := by decide +kernel
theorem dX8_worst_36 : decode cX8_worst 36 = .ok (.getfield 57, 3) := by decide +kernel
theorem dX8_worst_39 : decode cX8_worst 39 = .ok (.iload_n 1, 1) := by decide +kernel
theorem dX8_worst_40 : decode cX8_worst 40 = .ok (.iaload, 1) := by decide +kernel
theorem dX8_worst_41 : decode cX8_worst 41 = .ok (.ireturn, 1) := by decide +kernel
theorem dX8_mean_0 : decode cX8_mean 0 = .ok (.aload_n 0, 1) := by decide +kernel
theorem dX8_mean_1 : decode cX8_mean 1 = .ok (.iload_n 1, 1) := by decide +kernel
theorem dX8_mean_2 : decode cX8_mean 2 = .ok (.invokevirtual 166, 3) := by decide +kernel
theorem dX8_mean_5 : decode cX8_mean 5 = .ok (.ifCond .eq 10, 3) := by decide +kernel
theorem dX8_mean_8 : decode cX8_mean 8 = .ok (.iload_n 2, 1) := by decide +kernel
theorem dX8_mean_9 : decode cX8_mean 9 = .ok (.invokestatic 94, 3) := by decide +kernel
theorem dX8_mean_12 : decode cX8_mean 12 = .ok (.ifCond .ne 6, 3) := by decide +kernel
theorem dX8_mean_15 : decode cX8_mean 15 = .ok (.bipush (-2), 2) := by decide +kernel
theorem dX8_mean_17 : decode cX8_mean 17 = .ok (.ireturn, 1) := by decide +kernel
theorem dX8_mean_18 : decode cX8_mean 18 = .ok (.aload_n 0, 1) := by decide +kernel
theorem dX8_mean_19 : decode cX8_mean 19 = .ok (.invokevirtual 169, 3) := by decide +kernel
theorem dX8_mean_22 : decode cX8_mean 22 = .ok (.iload_n 2, 1) := by decide +kernel
theorem dX8_mean_23 : decode cX8_mean 23 = .ok (.ifCond .ne 12, 3) := by decide +kernel
theorem dX8_mean_26 : decode cX8_mean 26 = .ok (.aload_n 0, 1) := by decide +kernel
theorem dX8_mean_27 : decode cX8_mean 27 = .ok (.getfield 60, 3) := by decide +kernel
theorem dX8_mean_30 : decode cX8_mean 30 = .ok (.iload_n 1, 1) := by decide +kernel
theorem dX8_mean_31 : decode cX8_mean 31 = .ok (.iaload, 1) := by decide +kernel
theorem dX8_mean_32 : decode cX8_mean 32 = .ok (.goto 9, 3) := by decide +kernel
theorem dX8_mean_35 : decode cX8_mean 35 = .ok (.aload_n 0, 1) := by decide +kernel
theorem dX8_mean_36 : decode cX8_mean 36 = .ok (.getfield 63, 3) := by decide +kernel
theorem dX8_mean_39 : decode cX8_mean 39 = .ok (.iload_n 1, 1) := by decide +kernel
theorem dX8_mean_40 : decode cX8_mean 40 = .ok (.iaload, 1) := by decide +kernel
theorem dX8_mean_41 : decode cX8_mean 41 = .ok (.ireturn, 1) := by decide +kernel
theorem dX8_twins_0 : decode cX8_twins 0 = .ok (.aload_n 0, 1) := by decide +kernel
theorem dX8_twins_1 : decode cX8_twins 1 = .ok (.iload_n 1, 1) := by decide +kernel
theorem dX8_twins_2 : decode cX8_twins 2 = .ok (.invokevirtual 83, 3) := by decide +kernel
theorem dX8_twins_5 : decode cX8_twins 5 = .ok (.ifCond .ne 5, 3) := by decide +kernel
theorem dX8_twins_8 : decode cX8_twins 8 = .ok (.iconst (-1), 1) := by decide +kernel
theorem dX8_twins_9 : decode cX8_twins 9 = .ok (.ireturn, 1) := by decide +kernel
theorem dX8_twins_10 : decode cX8_twins 10 = .ok (.iconst 1, 1) := by decide +kernel
theorem dX8_twins_11 : decode cX8_twins 11 = .ok (.aload_n 0, 1) := by decide +kernel
theorem dX8_twins_12 : decode cX8_twins 12 = .ok (.getfield 75, 3) := by decide +kernel
theorem dX8_twins_15 : decode cX8_twins 15 = .ok (.ishl, 1) := by decide +kernel
theorem dX8_twins_16 : decode cX8_twins 16 = .ok (.iconst 1, 1) := by decide +kernel
theorem dX8_twins_17 : decode cX8_twins 17 = .ok (.isub, 1) := by decide +kernel
theorem dX8_twins_18 : decode cX8_twins 18 = .ok (.istore_n 2, 1) := by decide +kernel
theorem dX8_twins_19 : decode cX8_twins 19 = .ok (.iconst 0, 1) := by decide +kernel
theorem dX8_twins_20 : decode cX8_twins 20 = .ok (.istore_n 3, 1) := by decide +kernel
theorem dX8_twins_21 : decode cX8_twins 21 = .ok (.iload_n 3, 1) := by decide +kernel
theorem dX8_twins_22 : decode cX8_twins 22 = .ok (.aload_n 0, 1) := by decide +kernel
theorem dX8_twins_23 : decode cX8_twins 23 = .ok (.getfield 75, 3) := by decide +kernel
theorem dX8_twins_26 : decode cX8_twins 26 = .ok (.if_icmp .ge 51, 3) := by decide +kernel
theorem dX8_twins_29 : decode cX8_twins 29 = .ok (.aload_n 0, 1) := by decide +kernel
theorem dX8_twins_30 : decode cX8_twins 30 = .ok (.getfield 22, 3) := by decide +kernel
theorem dX8_twins_33 : decode cX8_twins 33 = .ok (.iload_n 3, 1) := by decide +kernel
theorem dX8_twins_34 : decode cX8_twins 34 = .ok (.baload, 1) := by decide +kernel
theorem dX8_twins_35 : decode cX8_twins 35 = .ok (.ifCond .ne 36, 3) := by decide +kernel
theorem dX8_twins_38 : decode cX8_twins 38 = .ok (.iload_n 2, 1) := by decide +kernel
theorem dX8_twins_39 : decode cX8_twins 39 = .ok (.aload_n 0, 1) := by decide +kernel
theorem dX8_twins_40 : decode cX8_twins 40 = .ok (.getfield 7, 3) := by decide +kernel
theorem dX8_twins_43 : decode cX8_twins 43 = .ok (.iload_n 3, 1) := by decide +kernel
theorem dX8_twins_44 : decode cX8_twins 44 = .ok (.iaload, 1) := by decide +kernel
theorem dX8_twins_45 : decode cX8_twins 45 = .ok (.iload_n 1, 1) := by decide +kernel
theorem dX8_twins_46 : decode cX8_twins 46 = .ok (.invokestatic 100, 3) := by decide +kernel
theorem dX8_twins_49 : decode cX8_twins 49 = .ok (.ifCond .eq 12, 3) := by decide +kernel
theorem dX8_twins_52 : decode cX8_twins 52 = .ok (.aload_n 0, 1) := by decide +kernel
theorem dX8_twins_53 : decode cX8_twins 53 = .ok (.getfield 7, 3) := by decide +kernel
theorem dX8_twins_56 : decode cX8_twins 56 = .ok (.iload_n 3, 1) := by decide +kernel
theorem dX8_twins_57 : decode cX8_twins 57 = .ok (.iaload, 1) := by decide +kernel
theorem dX8_twins_58 : decode cX8_twins 58 = .ok (.goto 11, 3) := by decide +kernel
theorem dX8_twins_61 : decode cX8_twins 61 = .ok (.aload_n 0, 1) := by decide +kernel
theorem dX8_twins_62 : decode cX8_twins 62 = .ok (.getfield 7, 3) := by decide +kernel
theorem dX8_twins_65 : decode cX8_twins 65 = .ok (.iload_n 3, 1) := by decide +kernel
theorem dX8_twins_66 : decode cX8_twins 66 = .ok (.iaload, 1) := by decide +kernel
theorem dX8_twins_67 : decode cX8_twins 67 = .ok (.iconst (-1), 1) := by decide +kernel
theorem dX8_twins_68 : decode cX8_twins 68 = .ok (.ixor, 1) := by decide +kernel
theorem dX8_twins_69 : decode cX8_twins 69 = .ok (.iand, 1) := by decide +kernel
theorem dX8_twins_70 : decode cX8_twins 70 = .ok (.istore_n 2, 1) := by decide +kernel
theorem dX8_twins_71 : decode cX8_twins 71 = .ok (.iinc 3 1, 3) := by decide +kernel
theorem dX8_twins_74 : decode cX8_twins 74 = .ok (.goto (-53), 3) := by decide +kernel
theorem dX8_twins_77 : decode cX8_twins 77 = .ok (.iload_n 2, 1) := by decide +kernel
theorem dX8_twins_78 : decode cX8_twins 78 = .ok (.ireturn, 1) := by decide +kernel
theorem dX8_say_0 : decode cX8_say 0 = .ok (.iload_n 1, 1) := by decide +kernel
theorem dX8_say_1 : decode cX8_say 1 = .ok (.bipush 33, 2) := by decide +kernel
theorem dX8_say_3 : decode cX8_say 3 = .ok (.bipush 126, 2) := by decide +kernel
theorem dX8_say_5 : decode cX8_say 5 = .ok (.invokestatic 79, 3) := by decide +kernel
theorem dX8_say_8 : decode cX8_say 8 = .ok (.ifCond .ne 6, 3) := by decide +kernel
theorem dX8_say_11 : decode cX8_say 11 = .ok (.bipush (-2), 2) := by decide +kernel
theorem dX8_say_13 : decode cX8_say 13 = .ok (.ireturn, 1) := by decide +kernel
theorem dX8_say_14 : decode cX8_say 14 = .ok (.aload_n 0, 1) := by decide +kernel
theorem dX8_say_15 : decode cX8_say 15 = .ok (.getfield 172, 3) := by decide +kernel
theorem dX8_say_18 : decode cX8_say 18 = .ok (.bipush 40, 2) := by decide +kernel
theorem dX8_say_20 : decode cX8_say 20 = .ok (.if_icmp .ne 6, 3) := by decide +kernel
theorem dX8_say_23 : decode cX8_say 23 = .ok (.bipush (-4), 2) := by decide +kernel
theorem dX8_say_25 : decode cX8_say 25 = .ok (.ireturn, 1) := by decide +kernel
theorem dX8_say_26 : decode cX8_say 26 = .ok (.aload_n 0, 1) := by decide +kernel
theorem dX8_say_27 : decode cX8_say 27 = .ok (.getfield 35, 3) := by decide +kernel
theorem dX8_say_30 : decode cX8_say 30 = .ok (.aload_n 0, 1) := by decide +kernel
theorem dX8_say_31 : decode cX8_say 31 = .ok (.getfield 172, 3) := by decide +kernel
theorem dX8_say_34 : decode cX8_say 34 = .ok (.iload_n 1, 1) := by decide +kernel
theorem dX8_say_35 : decode cX8_say 35 = .ok (.iastore, 1) := by decide +kernel
theorem dX8_say_36 : decode cX8_say 36 = .ok (.aload_n 0, 1) := by decide +kernel
theorem dX8_say_37 : decode cX8_say 37 = .ok (.dup, 1) := by decide +kernel
theorem dX8_say_38 : decode cX8_say 38 = .ok (.getfield 172, 3) := by decide +kernel
theorem dX8_say_41 : decode cX8_say 41 = .ok (.iconst 1, 1) := by decide +kernel
theorem dX8_say_42 : decode cX8_say 42 = .ok (.iadd, 1) := by decide +kernel
theorem dX8_say_43 : decode cX8_say 43 = .ok (.putfield 172, 3) := by decide +kernel
theorem dX8_say_46 : decode cX8_say 46 = .ok (.aload_n 0, 1) := by decide +kernel
theorem dX8_say_47 : decode cX8_say 47 = .ok (.getfield 172, 3) := by decide +kernel
theorem dX8_say_50 : decode cX8_say 50 = .ok (.ireturn, 1) := by decide +kernel
theorem dX8_wipe_0 : decode cX8_wipe 0 = .ok (.aload_n 0, 1) := by decide +kernel
theorem dX8_wipe_1 : decode cX8_wipe 1 = .ok (.getfield 172, 3) := by decide +kernel
theorem dX8_wipe_4 : decode cX8_wipe 4 = .ok (.istore_n 1, 1) := by decide +kernel
theorem dX8_wipe_5 : decode cX8_wipe 5 = .ok (.aload_n 0, 1) := by decide +kernel
theorem dX8_wipe_6 : decode cX8_wipe 6 = .ok (.iconst 0, 1) := by decide +kernel
theorem dX8_wipe_7 : decode cX8_wipe 7 = .ok (.putfield 172, 3) := by decide +kernel
theorem dX8_wipe_10 : decode cX8_wipe 10 = .ok (.iload_n 1, 1) := by decide +kernel
theorem dX8_wipe_11 : decode cX8_wipe 11 = .ok (.ireturn, 1) := by decide +kernel
theorem dX8_faultOf_0 : decode cX8_faultOf 0 = .ok (.iconst 0, 1) := by decide +kernel
theorem dX8_faultOf_1 : decode cX8_faultOf 1 = .ok (.istore_n 1, 1) := by decide +kernel
theorem dX8_faultOf_2 : decode cX8_faultOf 2 = .ok (.iconst 0, 1) := by decide +kernel
theorem dX8_faultOf_3 : decode cX8_faultOf 3 = .ok (.istore_n 2, 1) := by decide +kernel
theorem dX8_faultOf_4 : decode cX8_faultOf 4 = .ok (.iload_n 2, 1) := by decide +kernel
theorem dX8_faultOf_5 : decode cX8_faultOf 5 = .ok (.aload_n 0, 1) := by decide +kernel
theorem dX8_faultOf_6 : decode cX8_faultOf 6 = .ok (.getfield 172, 3) := by decide +kernel
theorem dX8_faultOf_9 : decode cX8_faultOf 9 = .ok (.if_icmp .ge 199, 3) := by decide +kernel
theorem dX8_faultOf_12 : decode cX8_faultOf 12 = .ok (.aload_n 0, 1) := by decide +kernel
theorem dX8_faultOf_13 : decode cX8_faultOf 13 = .ok (.getfield 35, 3) := by decide +kernel
theorem dX8_faultOf_16 : decode cX8_faultOf 16 = .ok (.iload_n 2, 1) := by decide +kernel
theorem dX8_faultOf_17 : decode cX8_faultOf 17 = .ok (.iaload, 1) := by decide +kernel
theorem dX8_faultOf_18 : decode cX8_faultOf 18 = .ok (.istore_n 3, 1) := by decide +kernel
theorem dX8_faultOf_19 : decode cX8_faultOf 19 = .ok (.iload_n 3, 1) := by decide +kernel
theorem dX8_faultOf_20 : decode cX8_faultOf 20 = .ok (.bipush 97, 2) := by decide +kernel
theorem dX8_faultOf_22 : decode cX8_faultOf 22 = .ok (.bipush 108, 2) := by decide +kernel
theorem dX8_faultOf_24 : decode cX8_faultOf 24 = .ok (.invokestatic 79, 3) := by decide +kernel
theorem dX8_faultOf_27 : decode cX8_faultOf 27 = .ok (.ifCond .eq 7, 3) := by decide +kernel
theorem dX8_faultOf_30 : decode cX8_faultOf 30 = .ok (.iconst 0, 1) := by decide +kernel
theorem dX8_faultOf_31 : decode cX8_faultOf 31 = .ok (.goto 31, 3) := by decide +kernel
theorem dX8_faultOf_34 : decode cX8_faultOf 34 = .ok (.iload_n 3, 1) := by decide +kernel
theorem dX8_faultOf_35 : decode cX8_faultOf 35 = .ok (.bipush 33, 2) := by decide +kernel
theorem dX8_faultOf_37 : decode cX8_faultOf 37 = .ok (.if_icmp .ne 7, 3) := by decide +kernel
theorem dX8_faultOf_40 : decode cX8_faultOf 40 = .ok (.iconst 1, 1) := by decide +kernel
theorem dX8_faultOf_41 : decode cX8_faultOf 41 = .ok (.goto 21, 3) := by decide +kernel
theorem dX8_faultOf_44 : decode cX8_faultOf 44 = .ok (.iload_n 3, 1) := by decide +kernel
theorem dX8_faultOf_45 : decode cX8_faultOf 45 = .ok (.bipush 38, 2) := by decide +kernel
theorem dX8_faultOf_47 : decode cX8_faultOf 47 = .ok (.if_icmp .eq 9, 3) := by decide +kernel
theorem dX8_faultOf_50 : decode cX8_faultOf 50 = .ok (.iload_n 3, 1) := by decide +kernel
theorem dX8_faultOf_51 : decode cX8_faultOf 51 = .ok (.bipush 124, 2) := by decide +kernel
theorem dX8_faultOf_53 : decode cX8_faultOf 53 = .ok (.if_icmp .ne 7, 3) := by decide +kernel
theorem dX8_faultOf_56 : decode cX8_faultOf 56 = .ok (.iconst 2, 1) := by decide +kernel
theorem dX8_faultOf_57 : decode cX8_faultOf 57 = .ok (.goto 5, 3) := by decide +kernel
theorem dX8_faultOf_60 : decode cX8_faultOf 60 = .ok (.bipush (-6), 2) := by decide +kernel
theorem dX8_faultOf_62 : decode cX8_faultOf 62 = .ok (.istore 4, 2) := by decide +kernel
theorem dX8_faultOf_64 : decode cX8_faultOf 64 = .ok (.iload 4, 2) := by decide +kernel
theorem dX8_faultOf_66 : decode cX8_faultOf 66 = .ok (.ifCond .lt 14, 3) := by decide +kernel
theorem dX8_faultOf_69 : decode cX8_faultOf 69 = .ok (.iload 4, 2) := by decide +kernel
theorem dX8_faultOf_71 : decode cX8_faultOf 71 = .ok (.ifCond .le 11, 3) := by decide +kernel
theorem dX8_faultOf_74 : decode cX8_faultOf 74 = .ok (.iload_n 1, 1) := by decide +kernel
theorem dX8_faultOf_75 : decode cX8_faultOf 75 = .ok (.bipush 9, 2) := by decide +kernel
theorem dX8_faultOf_77 : decode cX8_faultOf 77 = .ok (.if_icmp .ne 5, 3) := by decide +kernel
theorem dX8_faultOf_80 : decode cX8_faultOf 80 = .ok (.iload_n 2, 1) := by decide +kernel
theorem dX8_faultOf_81 : decode cX8_faultOf 81 = .ok (.ireturn, 1) := by decide +kernel
theorem dX8_faultOf_82 : decode cX8_faultOf 82 = .ok (.iload 4, 2) := by decide +kernel
theorem dX8_faultOf_84 : decode cX8_faultOf 84 = .ok (.ifCond .le 17, 3) := by decide +kernel
theorem dX8_faultOf_87 : decode cX8_faultOf 87 = .ok (.aload_n 0, 1) := by decide +kernel
theorem dX8_faultOf_88 : decode cX8_faultOf 88 = .ok (.getfield 66, 3) := by decide +kernel
theorem dX8_faultOf_91 : decode cX8_faultOf 91 = .ok (.iload_n 1, 1) := by decide +kernel
theorem dX8_faultOf_92 : decode cX8_faultOf 92 = .ok (.iload 4, 2) := by decide +kernel
theorem dX8_faultOf_94 : decode cX8_faultOf 94 = .ok (.iastore, 1) := by decide +kernel
theorem dX8_faultOf_95 : decode cX8_faultOf 95 = .ok (.iinc 1 1, 3) := by decide +kernel
theorem dX8_faultOf_98 : decode cX8_faultOf 98 = .ok (.goto 104, 3) := by decide +kernel
theorem dX8_faultOf_101 : decode cX8_faultOf 101 = .ok (.iload_n 1, 1) := by decide +kernel
theorem dX8_faultOf_102 : decode cX8_faultOf 102 = .ok (.ifCond .le 7, 3) := by decide +kernel
theorem dX8_faultOf_105 : decode cX8_faultOf 105 = .ok (.iconst 1, 1) := by decide +kernel
theorem dX8_faultOf_106 : decode cX8_faultOf 106 = .ok (.goto 4, 3) := by decide +kernel
theorem dX8_faultOf_109 : decode cX8_faultOf 109 = .ok (.iconst 0, 1) := by decide +kernel
theorem dX8_faultOf_110 : decode cX8_faultOf 110 = .ok (.istore 5, 2) := by decide +kernel
theorem dX8_faultOf_112 : decode cX8_faultOf 112 = .ok (.iload 5, 2) := by decide +kernel
theorem dX8_faultOf_114 : decode cX8_faultOf 114 = .ok (.ifCond .eq 65, 3) := by decide +kernel
theorem dX8_faultOf_117 : decode cX8_faultOf 117 = .ok (.aload_n 0, 1) := by decide +kernel
theorem dX8_faultOf_118 : decode cX8_faultOf 118 = .ok (.getfield 66, 3) := by decide +kernel
theorem dX8_faultOf_121 : decode cX8_faultOf 121 = .ok (.iload_n 1, 1) := by decide +kernel
theorem dX8_faultOf_122 : decode cX8_faultOf 122 = .ok (.iconst 1, 1) := by decide +kernel
theorem dX8_faultOf_123 : decode cX8_faultOf 123 = .ok (.isub, 1) := by decide +kernel
theorem dX8_faultOf_124 : decode cX8_faultOf 124 = .ok (.dup2, 1) := by decide +kernel
theorem dX8_faultOf_125 : decode cX8_faultOf 125 = .ok (.iaload, 1) := by decide +kernel
theorem dX8_faultOf_126 : decode cX8_faultOf 126 = .ok (.iconst 1, 1) := by decide +kernel
theorem dX8_faultOf_127 : decode cX8_faultOf 127 = .ok (.isub, 1) := by decide +kernel
theorem dX8_faultOf_128 : decode cX8_faultOf 128 = .ok (.iastore, 1) := by decide +kernel
theorem dX8_faultOf_129 : decode cX8_faultOf 129 = .ok (.aload_n 0, 1) := by decide +kernel
theorem dX8_faultOf_130 : decode cX8_faultOf 130 = .ok (.getfield 66, 3) := by decide +kernel
theorem dX8_faultOf_133 : decode cX8_faultOf 133 = .ok (.iload_n 1, 1) := by decide +kernel
theorem dX8_faultOf_134 : decode cX8_faultOf 134 = .ok (.iconst 1, 1) := by decide +kernel
theorem dX8_faultOf_135 : decode cX8_faultOf 135 = .ok (.isub, 1) := by decide +kernel
theorem dX8_faultOf_136 : decode cX8_faultOf 136 = .ok (.iaload, 1) := by decide +kernel
theorem dX8_faultOf_137 : decode cX8_faultOf 137 = .ok (.ifCond .ne 7, 3) := by decide +kernel
theorem dX8_faultOf_140 : decode cX8_faultOf 140 = .ok (.iconst 1, 1) := by decide +kernel
theorem dX8_faultOf_141 : decode cX8_faultOf 141 = .ok (.goto 4, 3) := by decide +kernel
theorem dX8_faultOf_144 : decode cX8_faultOf 144 = .ok (.iconst 0, 1) := by decide +kernel
theorem dX8_faultOf_145 : decode cX8_faultOf 145 = .ok (.istore 5, 2) := by decide +kernel
theorem dX8_faultOf_147 : decode cX8_faultOf 147 = .ok (.iload_n 1, 1) := by decide +kernel
theorem dX8_faultOf_148 : decode cX8_faultOf 148 = .ok (.iload 5, 2) := by decide +kernel
theorem dX8_faultOf_150 : decode cX8_faultOf 150 = .ok (.ifCond .eq 7, 3) := by decide +kernel
theorem dX8_faultOf_153 : decode cX8_faultOf 153 = .ok (.iconst 1, 1) := by decide +kernel
theorem dX8_faultOf_154 : decode cX8_faultOf 154 = .ok (.goto 4, 3) := by decide +kernel
theorem dX8_faultOf_157 : decode cX8_faultOf 157 = .ok (.iconst 0, 1) := by decide +kernel
theorem dX8_faultOf_158 : decode cX8_faultOf 158 = .ok (.isub, 1) := by decide +kernel
theorem dX8_faultOf_159 : decode cX8_faultOf 159 = .ok (.istore_n 1, 1) := by decide +kernel
theorem dX8_faultOf_160 : decode cX8_faultOf 160 = .ok (.iload 5, 2) := by decide +kernel
theorem dX8_faultOf_162 : decode cX8_faultOf 162 = .ok (.ifCond .eq 11, 3) := by decide +kernel
theorem dX8_faultOf_165 : decode cX8_faultOf 165 = .ok (.iload_n 1, 1) := by decide +kernel
theorem dX8_faultOf_166 : decode cX8_faultOf 166 = .ok (.ifCond .le 7, 3) := by decide +kernel
theorem dX8_faultOf_169 : decode cX8_faultOf 169 = .ok (.iconst 1, 1) := by decide +kernel
theorem dX8_faultOf_170 : decode cX8_faultOf 170 = .ok (.goto 4, 3) := by decide +kernel
theorem dX8_faultOf_173 : decode cX8_faultOf 173 = .ok (.iconst 0, 1) := by decide +kernel
theorem dX8_faultOf_174 : decode cX8_faultOf 174 = .ok (.istore 5, 2) := by decide +kernel
theorem dX8_faultOf_176 : decode cX8_faultOf 176 = .ok (.goto (-64), 3) := by decide +kernel
theorem dX8_faultOf_179 : decode cX8_faultOf 179 = .ok (.iload_n 1, 1) := by decide +kernel
theorem dX8_faultOf_180 : decode cX8_faultOf 180 = .ok (.ifCond .ne 22, 3) := by decide +kernel
theorem dX8_faultOf_183 : decode cX8_faultOf 183 = .ok (.iload_n 2, 1) := by decide +kernel
theorem dX8_faultOf_184 : decode cX8_faultOf 184 = .ok (.iconst 1, 1) := by decide +kernel
theorem dX8_faultOf_185 : decode cX8_faultOf 185 = .ok (.iadd, 1) := by decide +kernel
theorem dX8_faultOf_186 : decode cX8_faultOf 186 = .ok (.aload_n 0, 1) := by decide +kernel
theorem dX8_faultOf_187 : decode cX8_faultOf 187 = .ok (.getfield 172, 3) := by decide +kernel
theorem dX8_faultOf_190 : decode cX8_faultOf 190 = .ok (.if_icmp .ne 8, 3) := by decide +kernel
theorem dX8_faultOf_193 : decode cX8_faultOf 193 = .ok (.bipush (-6), 2) := by decide +kernel
theorem dX8_faultOf_195 : decode cX8_faultOf 195 = .ok (.goto 6, 3) := by decide +kernel
theorem dX8_faultOf_198 : decode cX8_faultOf 198 = .ok (.iload_n 2, 1) := by decide +kernel
theorem dX8_faultOf_199 : decode cX8_faultOf 199 = .ok (.iconst 1, 1) := by decide +kernel
theorem dX8_faultOf_200 : decode cX8_faultOf 200 = .ok (.iadd, 1) := by decide +kernel
theorem dX8_faultOf_201 : decode cX8_faultOf 201 = .ok (.ireturn, 1) := by decide +kernel
theorem dX8_faultOf_202 : decode cX8_faultOf 202 = .ok (.iinc 2 1, 3) := by decide +kernel
theorem dX8_faultOf_205 : decode cX8_faultOf 205 = .ok (.goto (-201), 3) := by decide +kernel
theorem dX8_faultOf_208 : decode cX8_faultOf 208 = .ok (.aload_n 0, 1) := by decide +kernel
theorem dX8_faultOf_209 : decode cX8_faultOf 209 = .ok (.getfield 172, 3) := by decide +kernel
theorem dX8_faultOf_212 : decode cX8_faultOf 212 = .ok (.ireturn, 1) := by decide +kernel
theorem dX8_fault_0 : decode cX8_fault 0 = .ok (.aload_n 0, 1) := by decide +kernel
theorem dX8_fault_1 : decode cX8_fault 1 = .ok (.invokevirtual 175, 3) := by decide +kernel
theorem dX8_fault_4 : decode cX8_fault 4 = .ok (.ireturn, 1) := by decide +kernel
theorem dX8_truth_0 : decode cX8_truth 0 = .ok (.aload_n 0, 1) := by decide +kernel
theorem dX8_truth_1 : decode cX8_truth 1 = .ok (.invokevirtual 175, 3) := by decide +kernel
theorem dX8_truth_4 : decode cX8_truth 4 = .ok (.ifCond .lt 6, 3) := by decide +kernel
theorem dX8_truth_7 : decode cX8_truth 7 = .ok (.bipush (-5), 2) := by decide +kernel
theorem dX8_truth_9 : decode cX8_truth 9 = .ok (.ireturn, 1) := by decide +kernel
theorem dX8_truth_10 : decode cX8_truth 10 = .ok (.aload_n 0, 1) := by decide +kernel
theorem dX8_truth_11 : decode cX8_truth 11 = .ok (.aload_n 0, 1) := by decide +kernel
theorem dX8_truth_12 : decode cX8_truth 12 = .ok (.getfield 172, 3) := by decide +kernel
