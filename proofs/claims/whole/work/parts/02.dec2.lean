theorem dX5_firstFault_34 : decode cX5_firstFault 34 = .ok (.istore_n 3, 1) := by decide +kernel
theorem dX5_firstFault_35 : decode cX5_firstFault 35 = .ok (.aload_n 0, 1) := by decide +kernel
theorem dX5_firstFault_36 : decode cX5_firstFault 36 = .ok (.getfield 9, 3) := by decide +kernel
theorem dX5_firstFault_39 : decode cX5_firstFault 39 = .ok (.iload_n 2, 1) := by decide +kernel
theorem dX5_firstFault_40 : decode cX5_firstFault 40 = .ok (.iaload, 1) := by decide +kernel
theorem dX5_firstFault_41 : decode cX5_firstFault 41 = .ok (.invokestatic 22, 3) := by decide +kernel
theorem dX5_firstFault_44 : decode cX5_firstFault 44 = .ok (.istore 4, 2) := by decide +kernel
theorem dX5_firstFault_46 : decode cX5_firstFault 46 = .ok (.iload 4, 2) := by decide +kernel
theorem dX5_firstFault_48 : decode cX5_firstFault 48 = .ok (.iconst (-1), 1) := by decide +kernel
theorem dX5_firstFault_49 : decode cX5_firstFault 49 = .ok (.if_icmp .eq 14, 3) := by decide +kernel
theorem dX5_firstFault_52 : decode cX5_firstFault 52 = .ok (.iload 4, 2) := by decide +kernel
theorem dX5_firstFault_54 : decode cX5_firstFault 54 = .ok (.ifCond .le 11, 3) := by decide +kernel
theorem dX5_firstFault_57 : decode cX5_firstFault 57 = .ok (.iload_n 3, 1) := by decide +kernel
theorem dX5_firstFault_58 : decode cX5_firstFault 58 = .ok (.bipush 9, 2) := by decide +kernel
theorem dX5_firstFault_60 : decode cX5_firstFault 60 = .ok (.if_icmp .lt 5, 3) := by decide +kernel
theorem dX5_firstFault_63 : decode cX5_firstFault 63 = .ok (.iload_n 2, 1) := by decide +kernel
theorem dX5_firstFault_64 : decode cX5_firstFault 64 = .ok (.ireturn, 1) := by decide +kernel
theorem dX5_firstFault_65 : decode cX5_firstFault 65 = .ok (.iconst 0, 1) := by decide +kernel
theorem dX5_firstFault_66 : decode cX5_firstFault 66 = .ok (.istore 5, 2) := by decide +kernel
theorem dX5_firstFault_68 : decode cX5_firstFault 68 = .ok (.iload 5, 2) := by decide +kernel
theorem dX5_firstFault_70 : decode cX5_firstFault 70 = .ok (.iload 4, 2) := by decide +kernel
theorem dX5_firstFault_72 : decode cX5_firstFault 72 = .ok (.if_icmp .ge 21, 3) := by decide +kernel
theorem dX5_firstFault_75 : decode cX5_firstFault 75 = .ok (.aload_n 0, 1) := by decide +kernel
theorem dX5_firstFault_76 : decode cX5_firstFault 76 = .ok (.getfield 15, 3) := by decide +kernel
theorem dX5_firstFault_79 : decode cX5_firstFault 79 = .ok (.iload_n 1, 1) := by decide +kernel
theorem dX5_firstFault_80 : decode cX5_firstFault 80 = .ok (.iload_n 3, 1) := by decide +kernel
theorem dX5_firstFault_81 : decode cX5_firstFault 81 = .ok (.iconst 1, 1) := by decide +kernel
theorem dX5_firstFault_82 : decode cX5_firstFault 82 = .ok (.iadd, 1) := by decide +kernel
theorem dX5_firstFault_83 : decode cX5_firstFault 83 = .ok (.iastore, 1) := by decide +kernel
theorem dX5_firstFault_84 : decode cX5_firstFault 84 = .ok (.iinc 1 1, 3) := by decide +kernel
theorem dX5_firstFault_87 : decode cX5_firstFault 87 = .ok (.iinc 5 1, 3) := by decide +kernel
theorem dX5_firstFault_90 : decode cX5_firstFault 90 = .ok (.goto (-22), 3) := by decide +kernel
theorem dX5_firstFault_93 : decode cX5_firstFault 93 = .ok (.iinc 2 1, 3) := by decide +kernel
theorem dX5_firstFault_96 : decode cX5_firstFault 96 = .ok (.goto (-85), 3) := by decide +kernel
theorem dX5_firstFault_99 : decode cX5_firstFault 99 = .ok (.iload_n 1, 1) := by decide +kernel
theorem dX5_firstFault_100 : decode cX5_firstFault 100 = .ok (.ifCond .ne 8, 3) := by decide +kernel
theorem dX5_firstFault_103 : decode cX5_firstFault 103 = .ok (.bipush (-6), 2) := by decide +kernel
theorem dX5_firstFault_105 : decode cX5_firstFault 105 = .ok (.goto 7, 3) := by decide +kernel
theorem dX5_firstFault_108 : decode cX5_firstFault 108 = .ok (.aload_n 0, 1) := by decide +kernel
theorem dX5_firstFault_109 : decode cX5_firstFault 109 = .ok (.getfield 18, 3) := by decide +kernel
theorem dX5_firstFault_112 : decode cX5_firstFault 112 = .ok (.ireturn, 1) := by decide +kernel
theorem dX6_init_0 : decode cX6_init 0 = .ok (.aload_n 0, 1) := by decide +kernel
theorem dX6_init_1 : decode cX6_init 1 = .ok (.invokespecial 3, 3) := by decide +kernel
theorem dX6_init_4 : decode cX6_init 4 = .ok (.aload_n 0, 1) := by decide +kernel
theorem dX6_init_5 : decode cX6_init 5 = .ok (.bipush 64, 2) := by decide +kernel
theorem dX6_init_7 : decode cX6_init 7 = .ok (.newarray .long, 2) := by decide +kernel
theorem dX6_init_9 : decode cX6_init 9 = .ok (.putfield 9, 3) := by decide +kernel
theorem dX6_init_12 : decode cX6_init 12 = .ok (.aload_n 0, 1) := by decide +kernel
theorem dX6_init_13 : decode cX6_init 13 = .ok (.bipush 40, 2) := by decide +kernel
theorem dX6_init_15 : decode cX6_init 15 = .ok (.newarray .long, 2) := by decide +kernel
theorem dX6_init_17 : decode cX6_init 17 = .ok (.putfield 15, 3) := by decide +kernel
theorem dX6_init_20 : decode cX6_init 20 = .ok (.return_, 1) := by decide +kernel
theorem dX6_take_0 : decode cX6_take 0 = .ok (.aload_n 0, 1) := by decide +kernel
theorem dX6_take_1 : decode cX6_take 1 = .ok (.aload_n 1, 1) := by decide +kernel
theorem dX6_take_2 : decode cX6_take 2 = .ok (.getfield 18, 3) := by decide +kernel
theorem dX6_take_5 : decode cX6_take 5 = .ok (.putfield 24, 3) := by decide +kernel
theorem dX6_take_8 : decode cX6_take 8 = .ok (.iconst 0, 1) := by decide +kernel
theorem dX6_take_9 : decode cX6_take 9 = .ok (.istore_n 2, 1) := by decide +kernel
theorem dX6_take_10 : decode cX6_take 10 = .ok (.iload_n 2, 1) := by decide +kernel
theorem dX6_take_11 : decode cX6_take 11 = .ok (.bipush 64, 2) := by decide +kernel
theorem dX6_take_13 : decode cX6_take 13 = .ok (.if_icmp .ge 21, 3) := by decide +kernel
theorem dX6_take_16 : decode cX6_take 16 = .ok (.aload_n 0, 1) := by decide +kernel
theorem dX6_take_17 : decode cX6_take 17 = .ok (.getfield 9, 3) := by decide +kernel
theorem dX6_take_20 : decode cX6_take 20 = .ok (.iload_n 2, 1) := by decide +kernel
theorem dX6_take_21 : decode cX6_take 21 = .ok (.aload_n 0, 1) := by decide +kernel
theorem dX6_take_22 : decode cX6_take 22 = .ok (.aload_n 1, 1) := by decide +kernel
theorem dX6_take_23 : decode cX6_take 23 = .ok (.iload_n 2, 1) := by decide +kernel
theorem dX6_take_24 : decode cX6_take 24 = .ok (.invokevirtual 25, 3) := by decide +kernel
theorem dX6_take_27 : decode cX6_take 27 = .ok (.lastore, 1) := by decide +kernel
theorem dX6_take_28 : decode cX6_take 28 = .ok (.iinc 2 1, 3) := by decide +kernel
theorem dX6_take_31 : decode cX6_take 31 = .ok (.goto (-21), 3) := by decide +kernel
theorem dX6_take_34 : decode cX6_take 34 = .ok (.return_, 1) := by decide +kernel
theorem dX6_valueOf_0 : decode cX6_valueOf 0 = .ok (.iconst 0, 1) := by decide +kernel
theorem dX6_valueOf_1 : decode cX6_valueOf 1 = .ok (.istore_n 3, 1) := by decide +kernel
theorem dX6_valueOf_2 : decode cX6_valueOf 2 = .ok (.aload_n 1, 1) := by decide +kernel
theorem dX6_valueOf_3 : decode cX6_valueOf 3 = .ok (.getfield 18, 3) := by decide +kernel
theorem dX6_valueOf_6 : decode cX6_valueOf 6 = .ok (.iconst 1, 1) := by decide +kernel
theorem dX6_valueOf_7 : decode cX6_valueOf 7 = .ok (.isub, 1) := by decide +kernel
theorem dX6_valueOf_8 : decode cX6_valueOf 8 = .ok (.istore 4, 2) := by decide +kernel
theorem dX6_valueOf_10 : decode cX6_valueOf 10 = .ok (.iload 4, 2) := by decide +kernel
theorem dX6_valueOf_12 : decode cX6_valueOf 12 = .ok (.ifCond .lt 143, 3) := by decide +kernel
theorem dX6_valueOf_15 : decode cX6_valueOf 15 = .ok (.aload_n 1, 1) := by decide +kernel
theorem dX6_valueOf_16 : decode cX6_valueOf 16 = .ok (.getfield 29, 3) := by decide +kernel
theorem dX6_valueOf_19 : decode cX6_valueOf 19 = .ok (.iload 4, 2) := by decide +kernel
theorem dX6_valueOf_21 : decode cX6_valueOf 21 = .ok (.iaload, 1) := by decide +kernel
theorem dX6_valueOf_22 : decode cX6_valueOf 22 = .ok (.istore 5, 2) := by decide +kernel
theorem dX6_valueOf_24 : decode cX6_valueOf 24 = .ok (.iload 5, 2) := by decide +kernel
theorem dX6_valueOf_26 : decode cX6_valueOf 26 = .ok (.invokestatic 33, 3) := by decide +kernel
theorem dX6_valueOf_29 : decode cX6_valueOf 29 = .ok (.istore 6, 2) := by decide +kernel
theorem dX6_valueOf_31 : decode cX6_valueOf 31 = .ok (.iload 6, 2) := by decide +kernel
theorem dX6_valueOf_33 : decode cX6_valueOf 33 = .ok (.iconst (-1), 1) := by decide +kernel
theorem dX6_valueOf_34 : decode cX6_valueOf 34 = .ok (.if_icmp .eq 9, 3) := by decide +kernel
theorem dX6_valueOf_37 : decode cX6_valueOf 37 = .ok (.iload 6, 2) := by decide +kernel
theorem dX6_valueOf_39 : decode cX6_valueOf 39 = .ok (.iload_n 3, 1) := by decide +kernel
theorem dX6_valueOf_40 : decode cX6_valueOf 40 = .ok (.if_icmp .le 5, 3) := by decide +kernel
theorem dX6_valueOf_43 : decode cX6_valueOf 43 = .ok (.lconst 0, 1) := by decide +kernel
theorem dX6_valueOf_44 : decode cX6_valueOf 44 = .ok (.lreturn, 1) := by decide +kernel
theorem dX6_valueOf_45 : decode cX6_valueOf 45 = .ok (.iload 6, 2) := by decide +kernel
theorem dX6_valueOf_47 : decode cX6_valueOf 47 = .ok (.ifCond .ne 24, 3) := by decide +kernel
theorem dX6_valueOf_50 : decode cX6_valueOf 50 = .ok (.aload_n 0, 1) := by decide +kernel
theorem dX6_valueOf_51 : decode cX6_valueOf 51 = .ok (.getfield 15, 3) := by decide +kernel
theorem dX6_valueOf_54 : decode cX6_valueOf 54 = .ok (.iload_n 3, 1) := by decide +kernel
theorem dX6_valueOf_55 : decode cX6_valueOf 55 = .ok (.iload 5, 2) := by decide +kernel
theorem dX6_valueOf_57 : decode cX6_valueOf 57 = .ok (.bipush 97, 2) := by decide +kernel
theorem dX6_valueOf_59 : decode cX6_valueOf 59 = .ok (.isub, 1) := by decide +kernel
theorem dX6_valueOf_60 : decode cX6_valueOf 60 = .ok (.iload_n 2, 1) := by decide +kernel
theorem dX6_valueOf_61 : decode cX6_valueOf 61 = .ok (.invokestatic 37, 3) := by decide +kernel
theorem dX6_valueOf_64 : decode cX6_valueOf 64 = .ok (.lastore, 1) := by decide +kernel
theorem dX6_valueOf_65 : decode cX6_valueOf 65 = .ok (.iinc 3 1, 3) := by decide +kernel
theorem dX6_valueOf_68 : decode cX6_valueOf 68 = .ok (.goto 81, 3) := by decide +kernel
theorem dX6_valueOf_71 : decode cX6_valueOf 71 = .ok (.iload 6, 2) := by decide +kernel
theorem dX6_valueOf_73 : decode cX6_valueOf 73 = .ok (.iconst 1, 1) := by decide +kernel
theorem dX6_valueOf_74 : decode cX6_valueOf 74 = .ok (.if_icmp .ne 26, 3) := by decide +kernel
theorem dX6_valueOf_77 : decode cX6_valueOf 77 = .ok (.aload_n 0, 1) := by decide +kernel
theorem dX6_valueOf_78 : decode cX6_valueOf 78 = .ok (.getfield 15, 3) := by decide +kernel
theorem dX6_valueOf_81 : decode cX6_valueOf 81 = .ok (.iload_n 3, 1) := by decide +kernel
theorem dX6_valueOf_82 : decode cX6_valueOf 82 = .ok (.iconst 1, 1) := by decide +kernel
theorem dX6_valueOf_83 : decode cX6_valueOf 83 = .ok (.isub, 1) := by decide +kernel
theorem dX6_valueOf_84 : decode cX6_valueOf 84 = .ok (.aload_n 0, 1) := by decide +kernel
theorem dX6_valueOf_85 : decode cX6_valueOf 85 = .ok (.getfield 15, 3) := by decide +kernel
theorem dX6_valueOf_88 : decode cX6_valueOf 88 = .ok (.iload_n 3, 1) := by decide +kernel
theorem dX6_valueOf_89 : decode cX6_valueOf 89 = .ok (.iconst 1, 1) := by decide +kernel
theorem dX6_valueOf_90 : decode cX6_valueOf 90 = .ok (.isub, 1) := by decide +kernel
theorem dX6_valueOf_91 : decode cX6_valueOf 91 = .ok (.laload, 1) := by decide +kernel
theorem dX6_valueOf_92 : decode cX6_valueOf 92 = .ok (.ldc2_w 41, 3) := by decide +kernel
theorem dX6_valueOf_95 : decode cX6_valueOf 95 = .ok (.lxor, 1) := by decide +kernel
theorem dX6_valueOf_96 : decode cX6_valueOf 96 = .ok (.lastore, 1) := by decide +kernel
theorem dX6_valueOf_97 : decode cX6_valueOf 97 = .ok (.goto 52, 3) := by decide +kernel
theorem dX6_valueOf_100 : decode cX6_valueOf 100 = .ok (.iinc 3 (-1), 3) := by decide +kernel
theorem dX6_valueOf_103 : decode cX6_valueOf 103 = .ok (.aload_n 0, 1) := by decide +kernel
theorem dX6_valueOf_104 : decode cX6_valueOf 104 = .ok (.getfield 15, 3) := by decide +kernel
theorem dX6_valueOf_107 : decode cX6_valueOf 107 = .ok (.iload_n 3, 1) := by decide +kernel
theorem dX6_valueOf_108 : decode cX6_valueOf 108 = .ok (.laload, 1) := by decide +kernel
theorem dX6_valueOf_109 : decode cX6_valueOf 109 = .ok (.lstore 7, 2) := by decide +kernel
theorem dX6_valueOf_111 : decode cX6_valueOf 111 = .ok (.aload_n 0, 1) := by decide +kernel
theorem dX6_valueOf_112 : decode cX6_valueOf 112 = .ok (.getfield 15, 3) := by decide +kernel
theorem dX6_valueOf_115 : decode cX6_valueOf 115 = .ok (.iload_n 3, 1) := by decide +kernel
theorem dX6_valueOf_116 : decode cX6_valueOf 116 = .ok (.iconst 1, 1) := by decide +kernel
theorem dX6_valueOf_117 : decode cX6_valueOf 117 = .ok (.isub, 1) := by decide +kernel
theorem dX6_valueOf_118 : decode cX6_valueOf 118 = .ok (.laload, 1) := by decide +kernel
theorem dX6_valueOf_119 : decode cX6_valueOf 119 = .ok (.lstore 9, 2) := by decide +kernel
theorem dX6_valueOf_121 : decode cX6_valueOf 121 = .ok (.aload_n 0, 1) := by decide +kernel
theorem dX6_valueOf_122 : decode cX6_valueOf 122 = .ok (.getfield 15, 3) := by decide +kernel
theorem dX6_valueOf_125 : decode cX6_valueOf 125 = .ok (.iload_n 3, 1) := by decide +kernel
theorem dX6_valueOf_126 : decode cX6_valueOf 126 = .ok (.iconst 1, 1) := by decide +kernel
theorem dX6_valueOf_127 : decode cX6_valueOf 127 = .ok (.isub, 1) := by decide +kernel
theorem dX6_valueOf_128 : decode cX6_valueOf 128 = .ok (.iload 5, 2) := by decide +kernel
theorem dX6_valueOf_130 : decode cX6_valueOf 130 = .ok (.bipush 38, 2) := by decide +kernel
theorem dX6_valueOf_132 : decode cX6_valueOf 132 = .ok (.if_icmp .ne 11, 3) := by decide +kernel
theorem dX6_valueOf_135 : decode cX6_valueOf 135 = .ok (.lload 7, 2) := by decide +kernel
theorem dX6_valueOf_137 : decode cX6_valueOf 137 = .ok (.lload 9, 2) := by decide +kernel
theorem dX6_valueOf_139 : decode cX6_valueOf 139 = .ok (.land, 1) := by decide +kernel
theorem dX6_valueOf_140 : decode cX6_valueOf 140 = .ok (.goto 8, 3) := by decide +kernel
theorem dX6_valueOf_143 : decode cX6_valueOf 143 = .ok (.lload 7, 2) := by decide +kernel
theorem dX6_valueOf_145 : decode cX6_valueOf 145 = .ok (.lload 9, 2) := by decide +kernel
theorem dX6_valueOf_147 : decode cX6_valueOf 147 = .ok (.lor, 1) := by decide +kernel
theorem dX6_valueOf_148 : decode cX6_valueOf 148 = .ok (.lastore, 1) := by decide +kernel
theorem dX6_valueOf_149 : decode cX6_valueOf 149 = .ok (.iinc 4 (-1), 3) := by decide +kernel
theorem dX6_valueOf_152 : decode cX6_valueOf 152 = .ok (.goto (-142), 3) := by decide +kernel
theorem dX6_valueOf_155 : decode cX6_valueOf 155 = .ok (.iload_n 3, 1) := by decide +kernel
theorem dX6_valueOf_156 : decode cX6_valueOf 156 = .ok (.iconst 1, 1) := by decide +kernel
theorem dX6_valueOf_157 : decode cX6_valueOf 157 = .ok (.if_icmp .ne 12, 3) := by decide +kernel
theorem dX6_valueOf_160 : decode cX6_valueOf 160 = .ok (.aload_n 0, 1) := by decide +kernel
theorem dX6_valueOf_161 : decode cX6_valueOf 161 = .ok (.getfield 15, 3) := by decide +kernel
theorem dX6_valueOf_164 : decode cX6_valueOf 164 = .ok (.iconst 0, 1) := by decide +kernel
theorem dX6_valueOf_165 : decode cX6_valueOf 165 = .ok (.laload, 1) := by decide +kernel
theorem dX6_valueOf_166 : decode cX6_valueOf 166 = .ok (.goto 4, 3) := by decide +kernel
theorem dX6_valueOf_169 : decode cX6_valueOf 169 = .ok (.lconst 0, 1) := by decide +kernel
theorem dX6_valueOf_170 : decode cX6_valueOf 170 = .ok (.lreturn, 1) := by decide +kernel
theorem dX7_init_0 : decode cX7_init 0 = .ok (.aload_n 0, 1) := by decide +kernel
theorem dX7_init_1 : decode cX7_init 1 = .ok (.invokespecial 3, 3) := by decide +kernel
theorem dX7_init_4 : decode cX7_init 4 = .ok (.aload_n 0, 1) := by decide +kernel
theorem dX7_init_5 : decode cX7_init 5 = .ok (.new 9, 3) := by decide +kernel
theorem dX7_init_8 : decode cX7_init 8 = .ok (.dup, 1) := by decide +kernel
theorem dX7_init_9 : decode cX7_init 9 = .ok (.invokespecial 11, 3) := by decide +kernel
theorem dX7_init_12 : decode cX7_init 12 = .ok (.putfield 12, 3) := by decide +kernel
theorem dX7_init_15 : decode cX7_init 15 = .ok (.aload_n 0, 1) := by decide +kernel
theorem dX7_init_16 : decode cX7_init 16 = .ok (.new 16, 3) := by decide +kernel
theorem dX7_init_19 : decode cX7_init 19 = .ok (.dup, 1) := by decide +kernel
theorem dX7_init_20 : decode cX7_init 20 = .ok (.invokespecial 18, 3) := by decide +kernel
theorem dX7_init_23 : decode cX7_init 23 = .ok (.putfield 19, 3) := by decide +kernel
theorem dX7_init_26 : decode cX7_init 26 = .ok (.aload_n 0, 1) := by decide +kernel
theorem dX7_init_27 : decode cX7_init 27 = .ok (.new 23, 3) := by decide +kernel
theorem dX7_init_30 : decode cX7_init 30 = .ok (.dup, 1) := by decide +kernel
theorem dX7_init_31 : decode cX7_init 31 = .ok (.aload_n 0, 1) := by decide +kernel
theorem dX7_init_32 : decode cX7_init 32 = .ok (.getfield 12, 3) := by decide +kernel
theorem dX7_init_35 : decode cX7_init 35 = .ok (.aload_n 0, 1) := by decide +kernel
theorem dX7_init_36 : decode cX7_init 36 = .ok (.getfield 19, 3) := by decide +kernel
theorem dX7_init_39 : decode cX7_init 39 = .ok (.invokespecial 25, 3) := by decide +kernel
theorem dX7_init_42 : decode cX7_init 42 = .ok (.putfield 28, 3) := by decide +kernel
theorem dX7_init_45 : decode cX7_init 45 = .ok (.aload_n 0, 1) := by decide +kernel
theorem dX7_init_46 : decode cX7_init 46 = .ok (.new 32, 3) := by decide +kernel
theorem dX7_init_49 : decode cX7_init 49 = .ok (.dup, 1) := by decide +kernel
theorem dX7_init_50 : decode cX7_init 50 = .ok (.aload_n 0, 1) := by decide +kernel
theorem dX7_init_51 : decode cX7_init 51 = .ok (.getfield 12, 3) := by decide +kernel
theorem dX7_init_54 : decode cX7_init 54 = .ok (.iconst 0, 1) := by decide +kernel
theorem dX7_init_55 : decode cX7_init 55 = .ok (.invokespecial 34, 3) := by decide +kernel
theorem dX7_init_58 : decode cX7_init 58 = .ok (.putfield 37, 3) := by decide +kernel
theorem dX7_init_61 : decode cX7_init 61 = .ok (.aload_n 0, 1) := by decide +kernel
theorem dX7_init_62 : decode cX7_init 62 = .ok (.new 32, 3) := by decide +kernel
theorem dX7_init_65 : decode cX7_init 65 = .ok (.dup, 1) := by decide +kernel
theorem dX7_init_66 : decode cX7_init 66 = .ok (.aload_n 0, 1) := by decide +kernel
theorem dX7_init_67 : decode cX7_init 67 = .ok (.getfield 12, 3) := by decide +kernel
theorem dX7_init_70 : decode cX7_init 70 = .ok (.iconst 1, 1) := by decide +kernel
theorem dX7_init_71 : decode cX7_init 71 = .ok (.invokespecial 34, 3) := by decide +kernel
theorem dX7_init_74 : decode cX7_init 74 = .ok (.putfield 41, 3) := by decide +kernel
theorem dX7_init_77 : decode cX7_init 77 = .ok (.aload_n 0, 1) := by decide +kernel
theorem dX7_init_78 : decode cX7_init 78 = .ok (.new 44, 3) := by decide +kernel
theorem dX7_init_81 : decode cX7_init 81 = .ok (.dup, 1) := by decide +kernel
theorem dX7_init_82 : decode cX7_init 82 = .ok (.invokespecial 46, 3) := by decide +kernel
theorem dX7_init_85 : decode cX7_init 85 = .ok (.putfield 47, 3) := by decide +kernel
theorem dX7_init_88 : decode cX7_init 88 = .ok (.aload_n 0, 1) := by decide +kernel
theorem dX7_init_89 : decode cX7_init 89 = .ok (.new 51, 3) := by decide +kernel
theorem dX7_init_92 : decode cX7_init 92 = .ok (.dup, 1) := by decide +kernel
theorem dX7_init_93 : decode cX7_init 93 = .ok (.invokespecial 53, 3) := by decide +kernel
theorem dX7_init_96 : decode cX7_init 96 = .ok (.putfield 54, 3) := by decide +kernel
theorem dX7_init_99 : decode cX7_init 99 = .ok (.aload_n 0, 1) := by decide +kernel
theorem dX7_init_100 : decode cX7_init 100 = .ok (.new 58, 3) := by decide +kernel
theorem dX7_init_103 : decode cX7_init 103 = .ok (.dup, 1) := by decide +kernel
theorem dX7_init_104 : decode cX7_init 104 = .ok (.aload_n 0, 1) := by decide +kernel
theorem dX7_init_105 : decode cX7_init 105 = .ok (.getfield 12, 3) := by decide +kernel
theorem dX7_init_108 : decode cX7_init 108 = .ok (.aload_n 0, 1) := by decide +kernel
theorem dX7_init_109 : decode cX7_init 109 = .ok (.getfield 54, 3) := by decide +kernel
theorem dX7_init_112 : decode cX7_init 112 = .ok (.invokespecial 60, 3) := by decide +kernel
theorem dX7_init_115 : decode cX7_init 115 = .ok (.putfield 63, 3) := by decide +kernel
theorem dX7_init_118 : decode cX7_init 118 = .ok (.return_, 1) := by decide +kernel
theorem dX7_version_0 : decode cX7_version 0 = .ok (.aload_n 0, 1) := by decide +kernel
theorem dX7_version_1 : decode cX7_version 1 = .ok (.getfield 12, 3) := by decide +kernel
theorem dX7_version_4 : decode cX7_version 4 = .ok (.iload_n 1, 1) := by decide +kernel
theorem dX7_version_5 : decode cX7_version 5 = .ok (.iload_n 2, 1) := by decide +kernel
theorem dX7_version_6 : decode cX7_version 6 = .ok (.invokevirtual 67, 3) := by decide +kernel
theorem dX7_version_9 : decode cX7_version 9 = .ok (.ifCond .ne 5, 3) := by decide +kernel
theorem dX7_version_12 : decode cX7_version 12 = .ok (.iconst (-1), 1) := by decide +kernel
theorem dX7_version_13 : decode cX7_version 13 = .ok (.ireturn, 1) := by decide +kernel
theorem dX7_version_14 : decode cX7_version 14 = .ok (.iload_n 3, 1) := by decide +kernel
theorem dX7_version_15 : decode cX7_version 15 = .ok (.iconst 1, 1) := by decide +kernel
theorem dX7_version_16 : decode cX7_version 16 = .ok (.bipush 9, 2) := by decide +kernel
theorem dX7_version_18 : decode cX7_version 18 = .ok (.invokestatic 71, 3) := by decide +kernel
theorem dX7_version_21 : decode cX7_version 21 = .ok (.ifCond .ne 6, 3) := by decide +kernel
theorem dX7_version_24 : decode cX7_version 24 = .ok (.bipush (-2), 2) := by decide +kernel
theorem dX7_version_26 : decode cX7_version 26 = .ok (.ireturn, 1) := by decide +kernel
theorem dX7_version_27 : decode cX7_version 27 = .ok (.aload_n 0, 1) := by decide +kernel
theorem dX7_version_28 : decode cX7_version 28 = .ok (.getfield 12, 3) := by decide +kernel
theorem dX7_version_31 : decode cX7_version 31 = .ok (.getfield 75, 3) := by decide +kernel
theorem dX7_version_34 : decode cX7_version 34 = .ok (.bipush 12, 2) := by decide +kernel
theorem dX7_version_36 : decode cX7_version 36 = .ok (.if_icmp .lt 6, 3) := by decide +kernel
theorem dX7_version_39 : decode cX7_version 39 = .ok (.bipush (-4), 2) := by decide +kernel
theorem dX7_version_41 : decode cX7_version 41 = .ok (.ireturn, 1) := by decide +kernel
theorem dX7_version_42 : decode cX7_version 42 = .ok (.aload_n 0, 1) := by decide +kernel
theorem dX7_version_43 : decode cX7_version 43 = .ok (.invokevirtual 79, 3) := by decide +kernel
theorem dX7_version_46 : decode cX7_version 46 = .ok (.aload_n 0, 1) := by decide +kernel
theorem dX7_version_47 : decode cX7_version 47 = .ok (.getfield 12, 3) := by decide +kernel
theorem dX7_version_50 : decode cX7_version 50 = .ok (.iload_n 1, 1) := by decide +kernel
theorem dX7_version_51 : decode cX7_version 51 = .ok (.iload_n 2, 1) := by decide +kernel
theorem dX7_version_52 : decode cX7_version 52 = .ok (.iload_n 3, 1) := by decide +kernel
theorem dX7_version_53 : decode cX7_version 53 = .ok (.invokevirtual 82, 3) := by decide +kernel
theorem dX7_version_56 : decode cX7_version 56 = .ok (.ireturn, 1) := by decide +kernel
theorem dX7_has_0 : decode cX7_has 0 = .ok (.aload_n 0, 1) := by decide +kernel
theorem dX7_has_1 : decode cX7_has 1 = .ok (.getfield 12, 3) := by decide +kernel
theorem dX7_has_4 : decode cX7_has 4 = .ok (.iload_n 1, 1) := by decide +kernel
theorem dX7_has_5 : decode cX7_has 5 = .ok (.invokevirtual 86, 3) := by decide +kernel
theorem dX7_has_8 : decode cX7_has 8 = .ok (.ifCond .eq 15, 3) := by decide +kernel
theorem dX7_has_11 : decode cX7_has 11 = .ok (.aload_n 0, 1) := by decide +kernel
theorem dX7_has_12 : decode cX7_has 12 = .ok (.getfield 12, 3) := by decide +kernel
theorem dX7_has_15 : decode cX7_has 15 = .ok (.getfield 90, 3) := by decide +kernel
theorem dX7_has_18 : decode cX7_has 18 = .ok (.iload_n 1, 1) := by decide +kernel
theorem dX7_has_19 : decode cX7_has 19 = .ok (.iaload, 1) := by decide +kernel
theorem dX7_has_20 : decode cX7_has 20 = .ok (.goto 4, 3) := by decide +kernel
theorem dX7_has_23 : decode cX7_has 23 = .ok (.iconst (-1), 1) := by decide +kernel
theorem dX7_has_24 : decode cX7_has 24 = .ok (.ireturn, 1) := by decide +kernel
theorem dX7_set_0 : decode cX7_set 0 = .ok (.aload_n 0, 1) := by decide +kernel
theorem dX7_set_1 : decode cX7_set 1 = .ok (.getfield 12, 3) := by decide +kernel
theorem dX7_set_4 : decode cX7_set 4 = .ok (.iload_n 1, 1) := by decide +kernel
theorem dX7_set_5 : decode cX7_set 5 = .ok (.invokevirtual 86, 3) := by decide +kernel
theorem dX7_set_8 : decode cX7_set 8 = .ok (.ifCond .ne 5, 3) := by decide +kernel
theorem dX7_set_11 : decode cX7_set 11 = .ok (.iconst (-1), 1) := by decide +kernel
theorem dX7_set_12 : decode cX7_set 12 = .ok (.ireturn, 1) := by decide +kernel
theorem dX7_set_13 : decode cX7_set 13 = .ok (.aload_n 0, 1) := by decide +kernel
theorem dX7_set_14 : decode cX7_set 14 = .ok (.getfield 12, 3) := by decide +kernel
theorem dX7_set_17 : decode cX7_set 17 = .ok (.iload_n 1, 1) := by decide +kernel
theorem dX7_set_18 : decode cX7_set 18 = .ok (.iload_n 2, 1) := by decide +kernel
theorem dX7_set_19 : decode cX7_set 19 = .ok (.iload_n 3, 1) := by decide +kernel
theorem dX7_set_20 : decode cX7_set 20 = .ok (.invokevirtual 94, 3) := by decide +kernel
theorem dX7_set_23 : decode cX7_set 23 = .ok (.ifCond .ne 6, 3) := by decide +kernel
theorem dX7_set_26 : decode cX7_set 26 = .ok (.bipush (-2), 2) := by decide +kernel
theorem dX7_set_28 : decode cX7_set 28 = .ok (.ireturn, 1) := by decide +kernel
theorem dX7_set_29 : decode cX7_set 29 = .ok (.iload_n 2, 1) := by decide +kernel
theorem dX7_set_30 : decode cX7_set 30 = .ok (.iconst 3, 1) := by decide +kernel
theorem dX7_set_31 : decode cX7_set 31 = .ok (.if_icmp .ne 22, 3) := by decide +kernel
theorem dX7_set_34 : decode cX7_set 34 = .ok (.iload_n 3, 1) := by decide +kernel
theorem dX7_set_35 : decode cX7_set 35 = .ok (.iconst 1, 1) := by decide +kernel
theorem dX7_set_36 : decode cX7_set 36 = .ok (.if_icmp .ne 17, 3) := by decide +kernel
theorem dX7_set_39 : decode cX7_set 39 = .ok (.aload_n 0, 1) := by decide +kernel
theorem dX7_set_40 : decode cX7_set 40 = .ok (.getfield 19, 3) := by decide +kernel
theorem dX7_set_43 : decode cX7_set 43 = .ok (.iload_n 1, 1) := by decide +kernel
theorem dX7_set_44 : decode cX7_set 44 = .ok (.invokevirtual 97, 3) := by decide +kernel
theorem dX7_set_47 : decode cX7_set 47 = .ok (.ifCond .eq 6, 3) := by decide +kernel
theorem dX7_set_50 : decode cX7_set 50 = .ok (.bipush (-3), 2) := by decide +kernel
theorem dX7_set_52 : decode cX7_set 52 = .ok (.ireturn, 1) := by decide +kernel
theorem dX7_set_53 : decode cX7_set 53 = .ok (.aload_n 0, 1) := by decide +kernel
theorem dX7_set_54 : decode cX7_set 54 = .ok (.invokevirtual 79, 3) := by decide +kernel
theorem dX7_set_57 : decode cX7_set 57 = .ok (.aload_n 0, 1) := by decide +kernel
theorem dX7_set_58 : decode cX7_set 58 = .ok (.getfield 12, 3) := by decide +kernel
theorem dX7_set_61 : decode cX7_set 61 = .ok (.iload_n 2, 1) := by decide +kernel
theorem dX7_set_62 : decode cX7_set 62 = .ok (.invokevirtual 100, 3) := by decide +kernel
theorem dX7_set_65 : decode cX7_set 65 = .ok (.iload_n 1, 1) := by decide +kernel
theorem dX7_set_66 : decode cX7_set 66 = .ok (.iload_n 3, 1) := by decide +kernel
theorem dX7_set_67 : decode cX7_set 67 = .ok (.invokestatic 104, 3) := by decide +kernel
theorem dX7_set_70 : decode cX7_set 70 = .ok (.ireturn, 1) := by decide +kernel
theorem dX7_trust_0 : decode cX7_trust 0 = .ok (.iload_n 1, 1) := by decide +kernel
theorem dX7_trust_1 : decode cX7_trust 1 = .ok (.iconst 0, 1) := by decide +kernel
theorem dX7_trust_2 : decode cX7_trust 2 = .ok (.iconst 4, 1) := by decide +kernel
theorem dX7_trust_3 : decode cX7_trust 3 = .ok (.invokestatic 71, 3) := by decide +kernel
theorem dX7_trust_6 : decode cX7_trust 6 = .ok (.ifCond .eq 22, 3) := by decide +kernel
theorem dX7_trust_9 : decode cX7_trust 9 = .ok (.iload_n 2, 1) := by decide +kernel
theorem dX7_trust_10 : decode cX7_trust 10 = .ok (.iconst 0, 1) := by decide +kernel
theorem dX7_trust_11 : decode cX7_trust 11 = .ok (.iload_n 1, 1) := by decide +kernel
theorem dX7_trust_12 : decode cX7_trust 12 = .ok (.iconst 2, 1) := by decide +kernel
theorem dX7_trust_13 : decode cX7_trust 13 = .ok (.if_icmp .ge 7, 3) := by decide +kernel
theorem dX7_trust_16 : decode cX7_trust 16 = .ok (.iconst 5, 1) := by decide +kernel
theorem dX7_trust_17 : decode cX7_trust 17 = .ok (.goto 5, 3) := by decide +kernel
theorem dX7_trust_20 : decode cX7_trust 20 = .ok (.bipush 9, 2) := by decide +kernel
theorem dX7_trust_22 : decode cX7_trust 22 = .ok (.invokestatic 71, 3) := by decide +kernel
theorem dX7_trust_25 : decode cX7_trust 25 = .ok (.ifCond .ne 6, 3) := by decide +kernel
theorem dX7_trust_28 : decode cX7_trust 28 = .ok (.bipush (-2), 2) := by decide +kernel
theorem dX7_trust_30 : decode cX7_trust 30 = .ok (.ireturn, 1) := by decide +kernel
theorem dX7_trust_31 : decode cX7_trust 31 = .ok (.aload_n 0, 1) := by decide +kernel
theorem dX7_trust_32 : decode cX7_trust 32 = .ok (.getfield 28, 3) := by decide +kernel
theorem dX7_trust_35 : decode cX7_trust 35 = .ok (.getfield 108, 3) := by decide +kernel
theorem dX7_trust_38 : decode cX7_trust 38 = .ok (.iload_n 1, 1) := by decide +kernel
theorem dX7_trust_39 : decode cX7_trust 39 = .ok (.iload_n 2, 1) := by decide +kernel
theorem dX7_trust_40 : decode cX7_trust 40 = .ok (.invokestatic 104, 3) := by decide +kernel
theorem dX7_trust_43 : decode cX7_trust 43 = .ok (.ireturn, 1) := by decide +kernel
theorem dX7_test_0 : decode cX7_test 0 = .ok (.aload_n 0, 1) := by decide +kernel
theorem dX7_test_1 : decode cX7_test 1 = .ok (.getfield 12, 3) := by decide +kernel
theorem dX7_test_4 : decode cX7_test 4 = .ok (.iload_n 1, 1) := by decide +kernel
theorem dX7_test_5 : decode cX7_test 5 = .ok (.invokevirtual 86, 3) := by decide +kernel
theorem dX7_test_8 : decode cX7_test 8 = .ok (.ifCond .ne 5, 3) := by decide +kernel
theorem dX7_test_11 : decode cX7_test 11 = .ok (.iconst (-1), 1) := by decide +kernel
theorem dX7_test_12 : decode cX7_test 12 = .ok (.ireturn, 1) := by decide +kernel
theorem dX7_test_13 : decode cX7_test 13 = .ok (.aload_n 0, 1) := by decide +kernel
theorem dX7_test_14 : decode cX7_test 14 = .ok (.getfield 12, 3) := by decide +kernel
theorem dX7_test_17 : decode cX7_test 17 = .ok (.iload_n 1, 1) := by decide +kernel
theorem dX7_test_18 : decode cX7_test 18 = .ok (.invokevirtual 111, 3) := by decide +kernel
theorem dX7_test_21 : decode cX7_test 21 = .ok (.ifCond .ne 6, 3) := by decide +kernel
theorem dX7_test_24 : decode cX7_test 24 = .ok (.bipush (-3), 2) := by decide +kernel
theorem dX7_test_26 : decode cX7_test 26 = .ok (.ireturn, 1) := by decide +kernel
theorem dX7_test_27 : decode cX7_test 27 = .ok (.aload_n 0, 1) := by decide +kernel
theorem dX7_test_28 : decode cX7_test 28 = .ok (.getfield 19, 3) := by decide +kernel
theorem dX7_test_31 : decode cX7_test 31 = .ok (.iload_n 1, 1) := by decide +kernel
theorem dX7_test_32 : decode cX7_test 32 = .ok (.iload_n 2, 1) := by decide +kernel
theorem dX7_test_33 : decode cX7_test 33 = .ok (.invokevirtual 114, 3) := by decide +kernel
theorem dX7_test_36 : decode cX7_test 36 = .ok (.ireturn, 1) := by decide +kernel
theorem dX7_tested_0 : decode cX7_tested 0 = .ok (.iload_n 1, 1) := by decide +kernel
theorem dX7_tested_1 : decode cX7_tested 1 = .ok (.iconst 0, 1) := by decide +kernel
theorem dX7_tested_2 : decode cX7_tested 2 = .ok (.aload_n 0, 1) := by decide +kernel
theorem dX7_tested_3 : decode cX7_tested 3 = .ok (.getfield 19, 3) := by decide +kernel
theorem dX7_tested_6 : decode cX7_tested 6 = .ok (.getfield 117, 3) := by decide +kernel
theorem dX7_tested_9 : decode cX7_tested 9 = .ok (.iconst 1, 1) := by decide +kernel
theorem dX7_tested_10 : decode cX7_tested 10 = .ok (.isub, 1) := by decide +kernel
theorem dX7_tested_11 : decode cX7_tested 11 = .ok (.invokestatic 71, 3) := by decide +kernel
theorem dX7_tested_14 : decode cX7_tested 14 = .ok (.ifCond .ne 5, 3) := by decide +kernel
theorem dX7_tested_17 : decode cX7_tested 17 = .ok (.iconst (-1), 1) := by decide +kernel
theorem dX7_tested_18 : decode cX7_tested 18 = .ok (.ireturn, 1) := by decide +kernel
theorem dX7_tested_19 : decode cX7_tested 19 = .ok (.iload_n 2, 1) := by decide +kernel
theorem dX7_tested_20 : decode cX7_tested 20 = .ok (.iconst 0, 1) := by decide +kernel
theorem dX7_tested_21 : decode cX7_tested 21 = .ok (.iconst 1, 1) := by decide +kernel
theorem dX7_tested_22 : decode cX7_tested 22 = .ok (.invokestatic 71, 3) := by decide +kernel
theorem dX7_tested_25 : decode cX7_tested 25 = .ok (.ifCond .ne 6, 3) := by decide +kernel
theorem dX7_tested_28 : decode cX7_tested 28 = .ok (.bipush (-2), 2) := by decide +kernel
theorem dX7_tested_30 : decode cX7_tested 30 = .ok (.ireturn, 1) := by decide +kernel
theorem dX7_tested_31 : decode cX7_tested 31 = .ok (.iload_n 2, 1) := by decide +kernel
theorem dX7_tested_32 : decode cX7_tested 32 = .ok (.ifCond .ne 15, 3) := by decide +kernel
theorem dX7_tested_35 : decode cX7_tested 35 = .ok (.aload_n 0, 1) := by decide +kernel
theorem dX7_tested_36 : decode cX7_tested 36 = .ok (.getfield 19, 3) := by decide +kernel
theorem dX7_tested_39 : decode cX7_tested 39 = .ok (.getfield 118, 3) := by decide +kernel
theorem dX7_tested_42 : decode cX7_tested 42 = .ok (.iload_n 1, 1) := by decide +kernel
theorem dX7_tested_43 : decode cX7_tested 43 = .ok (.iaload, 1) := by decide +kernel
theorem dX7_tested_44 : decode cX7_tested 44 = .ok (.goto 15, 3) := by decide +kernel
theorem dX7_tested_47 : decode cX7_tested 47 = .ok (.aload_n 0, 1) := by decide +kernel
theorem dX7_tested_48 : decode cX7_tested 48 = .ok (.getfield 19, 3) := by decide +kernel
theorem dX7_tested_51 : decode cX7_tested 51 = .ok (.getfield 121, 3) := by decide +kernel
theorem dX7_tested_54 : decode cX7_tested 54 = .ok (.iload_n 1, 1) := by decide +kernel
theorem dX7_tested_55 : decode cX7_tested 55 = .ok (.baload, 1) := by decide +kernel
theorem dX7_tested_56 : decode cX7_tested 56 = .ok (.invokestatic 125, 3) := by decide +kernel
theorem dX7_tested_59 : decode cX7_tested 59 = .ok (.ireturn, 1) := by decide +kernel
theorem dX7_untest_0 : decode cX7_untest 0 = .ok (.aload_n 0, 1) := by decide +kernel
theorem dX7_untest_1 : decode cX7_untest 1 = .ok (.getfield 19, 3) := by decide +kernel
theorem dX7_untest_4 : decode cX7_untest 4 = .ok (.getfield 117, 3) := by decide +kernel
theorem dX7_untest_7 : decode cX7_untest 7 = .ok (.iconst 1, 1) := by decide +kernel
theorem dX7_untest_8 : decode cX7_untest 8 = .ok (.if_icmp .ge 6, 3) := by decide +kernel
theorem dX7_untest_11 : decode cX7_untest 11 = .ok (.bipush (-5), 2) := by decide +kernel
theorem dX7_untest_13 : decode cX7_untest 13 = .ok (.ireturn, 1) := by decide +kernel
theorem dX7_untest_14 : decode cX7_untest 14 = .ok (.aload_n 0, 1) := by decide +kernel
theorem dX7_untest_15 : decode cX7_untest 15 = .ok (.getfield 19, 3) := by decide +kernel
theorem dX7_untest_18 : decode cX7_untest 18 = .ok (.dup, 1) := by decide +kernel
theorem dX7_untest_19 : decode cX7_untest 19 = .ok (.getfield 117, 3) := by decide +kernel
theorem dX7_untest_22 : decode cX7_untest 22 = .ok (.iconst 1, 1) := by decide +kernel
theorem dX7_untest_23 : decode cX7_untest 23 = .ok (.isub, 1) := by decide +kernel
theorem dX7_untest_24 : decode cX7_untest 24 = .ok (.putfield 117, 3) := by decide +kernel
theorem dX7_untest_27 : decode cX7_untest 27 = .ok (.aload_n 0, 1) := by decide +kernel
theorem dX7_untest_28 : decode cX7_untest 28 = .ok (.getfield 19, 3) := by decide +kernel
theorem dX7_untest_31 : decode cX7_untest 31 = .ok (.getfield 117, 3) := by decide +kernel
theorem dX7_untest_34 : decode cX7_untest 34 = .ok (.ireturn, 1) := by decide +kernel
theorem dX7_weight_0 : decode cX7_weight 0 = .ok (.aload_n 0, 1) := by decide +kernel
theorem dX7_weight_1 : decode cX7_weight 1 = .ok (.iload_n 1, 1) := by decide +kernel
theorem dX7_weight_2 : decode cX7_weight 2 = .ok (.iload_n 2, 1) := by decide +kernel
theorem dX7_weight_3 : decode cX7_weight 3 = .ok (.iload_n 3, 1) := by decide +kernel
theorem dX7_weight_4 : decode cX7_weight 4 = .ok (.invokevirtual 129, 3) := by decide +kernel
theorem dX7_weight_7 : decode cX7_weight 7 = .ok (.istore 4, 2) := by decide +kernel
theorem dX7_weight_9 : decode cX7_weight 9 = .ok (.iload 4, 2) := by decide +kernel
theorem dX7_weight_11 : decode cX7_weight 11 = .ok (.ifCond .ne 16, 3) := by decide +kernel
theorem dX7_weight_14 : decode cX7_weight 14 = .ok (.aload_n 0, 1) := by decide +kernel
theorem dX7_weight_15 : decode cX7_weight 15 = .ok (.getfield 28, 3) := by decide +kernel
theorem dX7_weight_18 : decode cX7_weight 18 = .ok (.iload_n 1, 1) := by decide +kernel
theorem dX7_weight_19 : decode cX7_weight 19 = .ok (.iload_n 2, 1) := by decide +kernel
theorem dX7_weight_20 : decode cX7_weight 20 = .ok (.iload_n 3, 1) := by decide +kernel
theorem dX7_weight_21 : decode cX7_weight 21 = .ok (.invokevirtual 132, 3) := by decide +kernel
theorem dX7_weight_24 : decode cX7_weight 24 = .ok (.goto 10, 3) := by decide +kernel
theorem dX7_weight_27 : decode cX7_weight 27 = .ok (.ldc2_w 136, 3) := by decide +kernel
theorem dX7_weight_30 : decode cX7_weight 30 = .ok (.iload 4, 2) := by decide +kernel
theorem dX7_weight_32 : decode cX7_weight 32 = .ok (.i2l, 1) := by decide +kernel
theorem dX7_weight_33 : decode cX7_weight 33 = .ok (.ladd, 1) := by decide +kernel
theorem dX7_weight_34 : decode cX7_weight 34 = .ok (.lreturn, 1) := by decide +kernel
theorem dX7_odds_0 : decode cX7_odds 0 = .ok (.aload_n 0, 1) := by decide +kernel
theorem dX7_odds_1 : decode cX7_odds 1 = .ok (.iload_n 1, 1) := by decide +kernel
theorem dX7_odds_2 : decode cX7_odds 2 = .ok (.iload_n 2, 1) := by decide +kernel
theorem dX7_odds_3 : decode cX7_odds 3 = .ok (.iload_n 3, 1) := by decide +kernel
theorem dX7_odds_4 : decode cX7_odds 4 = .ok (.invokevirtual 129, 3) := by decide +kernel
theorem dX7_odds_7 : decode cX7_odds 7 = .ok (.istore 5, 2) := by decide +kernel
theorem dX7_odds_9 : decode cX7_odds 9 = .ok (.iload 5, 2) := by decide +kernel
theorem dX7_odds_11 : decode cX7_odds 11 = .ok (.ifCond .eq 11, 3) := by decide +kernel
theorem dX7_odds_14 : decode cX7_odds 14 = .ok (.ldc2_w 136, 3) := by decide +kernel
theorem dX7_odds_17 : decode cX7_odds 17 = .ok (.iload 5, 2) := by decide +kernel
theorem dX7_odds_19 : decode cX7_odds 19 = .ok (.i2l, 1) := by decide +kernel
theorem dX7_odds_20 : decode cX7_odds 20 = .ok (.ladd, 1) := by decide +kernel
theorem dX7_odds_21 : decode cX7_odds 21 = .ok (.lreturn, 1) := by decide +kernel
theorem dX7_odds_22 : decode cX7_odds 22 = .ok (.iload 4, 2) := by decide +kernel
theorem dX7_odds_24 : decode cX7_odds 24 = .ok (.iconst 0, 1) := by decide +kernel
theorem dX7_odds_25 : decode cX7_odds 25 = .ok (.iconst 1, 1) := by decide +kernel
theorem dX7_odds_26 : decode cX7_odds 26 = .ok (.invokestatic 71, 3) := by decide +kernel
theorem dX7_odds_29 : decode cX7_odds 29 = .ok (.ifCond .ne 7, 3) := by decide +kernel
theorem dX7_odds_32 : decode cX7_odds 32 = .ok (.ldc2_w 138, 3) := by decide +kernel
theorem dX7_odds_35 : decode cX7_odds 35 = .ok (.lreturn, 1) := by decide +kernel
theorem dX7_odds_36 : decode cX7_odds 36 = .ok (.aload_n 0, 1) := by decide +kernel
theorem dX7_odds_37 : decode cX7_odds 37 = .ok (.getfield 28, 3) := by decide +kernel
theorem dX7_odds_40 : decode cX7_odds 40 = .ok (.invokevirtual 140, 3) := by decide +kernel
theorem dX7_odds_43 : decode cX7_odds 43 = .ok (.aload_n 0, 1) := by decide +kernel
theorem dX7_odds_44 : decode cX7_odds 44 = .ok (.getfield 28, 3) := by decide +kernel
theorem dX7_odds_47 : decode cX7_odds 47 = .ok (.iload_n 1, 1) := by decide +kernel
theorem dX7_odds_48 : decode cX7_odds 48 = .ok (.iload_n 2, 1) := by decide +kernel
theorem dX7_odds_49 : decode cX7_odds 49 = .ok (.iload_n 3, 1) := by decide +kernel
theorem dX7_odds_50 : decode cX7_odds 50 = .ok (.invokevirtual 132, 3) := by decide +kernel
theorem dX7_odds_53 : decode cX7_odds 53 = .ok (.aload_n 0, 1) := by decide +kernel
theorem dX7_odds_54 : decode cX7_odds 54 = .ok (.getfield 28, 3) := by decide +kernel
theorem dX7_odds_57 : decode cX7_odds 57 = .ok (.getfield 143, 3) := by decide +kernel
theorem dX7_odds_60 : decode cX7_odds 60 = .ok (.iload 4, 2) := by decide +kernel
theorem dX7_odds_62 : decode cX7_odds 62 = .ok (.invokestatic 147, 3) := by decide +kernel
theorem dX7_odds_65 : decode cX7_odds 65 = .ok (.lreturn, 1) := by decide +kernel
theorem dX7_sorts_0 : decode cX7_sorts 0 = .ok (.iload_n 1, 1) := by decide +kernel
theorem dX7_sorts_1 : decode cX7_sorts 1 = .ok (.iconst 0, 1) := by decide +kernel
theorem dX7_sorts_2 : decode cX7_sorts 2 = .ok (.iconst 2, 1) := by decide +kernel
theorem dX7_sorts_3 : decode cX7_sorts 3 = .ok (.invokestatic 71, 3) := by decide +kernel
theorem dX7_sorts_6 : decode cX7_sorts 6 = .ok (.ifCond .eq 12, 3) := by decide +kernel
theorem dX7_sorts_9 : decode cX7_sorts 9 = .ok (.iload_n 2, 1) := by decide +kernel
theorem dX7_sorts_10 : decode cX7_sorts 10 = .ok (.iconst 0, 1) := by decide +kernel
theorem dX7_sorts_11 : decode cX7_sorts 11 = .ok (.iconst 1, 1) := by decide +kernel
theorem dX7_sorts_12 : decode cX7_sorts 12 = .ok (.invokestatic 71, 3) := by decide +kernel
theorem dX7_sorts_15 : decode cX7_sorts 15 = .ok (.ifCond .ne 7, 3) := by decide +kernel
theorem dX7_sorts_18 : decode cX7_sorts 18 = .ok (.ldc2_w 138, 3) := by decide +kernel
theorem dX7_sorts_21 : decode cX7_sorts 21 = .ok (.lreturn, 1) := by decide +kernel
theorem dX7_sorts_22 : decode cX7_sorts 22 = .ok (.aload_n 0, 1) := by decide +kernel
theorem dX7_sorts_23 : decode cX7_sorts 23 = .ok (.getfield 28, 3) := by decide +kernel
theorem dX7_sorts_26 : decode cX7_sorts 26 = .ok (.invokevirtual 140, 3) := by decide +kernel
theorem dX7_sorts_29 : decode cX7_sorts 29 = .ok (.aload_n 0, 1) := by decide +kernel
theorem dX7_sorts_30 : decode cX7_sorts 30 = .ok (.getfield 28, 3) := by decide +kernel
theorem dX7_sorts_33 : decode cX7_sorts 33 = .ok (.iload_n 1, 1) := by decide +kernel
theorem dX7_sorts_34 : decode cX7_sorts 34 = .ok (.invokevirtual 151, 3) := by decide +kernel
theorem dX7_sorts_37 : decode cX7_sorts 37 = .ok (.aload_n 0, 1) := by decide +kernel
theorem dX7_sorts_38 : decode cX7_sorts 38 = .ok (.getfield 28, 3) := by decide +kernel
theorem dX7_sorts_41 : decode cX7_sorts 41 = .ok (.getfield 143, 3) := by decide +kernel
theorem dX7_sorts_44 : decode cX7_sorts 44 = .ok (.iload_n 2, 1) := by decide +kernel
theorem dX7_sorts_45 : decode cX7_sorts 45 = .ok (.invokestatic 147, 3) := by decide +kernel
theorem dX7_sorts_48 : decode cX7_sorts 48 = .ok (.lreturn, 1) := by decide +kernel
theorem dX7_blame_0 : decode cX7_blame 0 = .ok (.aload_n 0, 1) := by decide +kernel
theorem dX7_blame_1 : decode cX7_blame 1 = .ok (.getfield 12, 3) := by decide +kernel
theorem dX7_blame_4 : decode cX7_blame 4 = .ok (.iload_n 1, 1) := by decide +kernel
theorem dX7_blame_5 : decode cX7_blame 5 = .ok (.invokevirtual 86, 3) := by decide +kernel
theorem dX7_blame_8 : decode cX7_blame 8 = .ok (.ifCond .ne 7, 3) := by decide +kernel
theorem dX7_blame_11 : decode cX7_blame 11 = .ok (.ldc2_w 155, 3) := by decide +kernel
theorem dX7_blame_14 : decode cX7_blame 14 = .ok (.lreturn, 1) := by decide +kernel
theorem dX7_blame_15 : decode cX7_blame 15 = .ok (.iload_n 2, 1) := by decide +kernel
theorem dX7_blame_16 : decode cX7_blame 16 = .ok (.iconst 0, 1) := by decide +kernel
theorem dX7_blame_17 : decode cX7_blame 17 = .ok (.iconst 1, 1) := by decide +kernel
theorem dX7_blame_18 : decode cX7_blame 18 = .ok (.invokestatic 71, 3) := by decide +kernel
theorem dX7_blame_21 : decode cX7_blame 21 = .ok (.ifCond .ne 7, 3) := by decide +kernel
theorem dX7_blame_24 : decode cX7_blame 24 = .ok (.ldc2_w 138, 3) := by decide +kernel
theorem dX7_blame_27 : decode cX7_blame 27 = .ok (.lreturn, 1) := by decide +kernel
theorem dX7_blame_28 : decode cX7_blame 28 = .ok (.aload_n 0, 1) := by decide +kernel
theorem dX7_blame_29 : decode cX7_blame 29 = .ok (.getfield 28, 3) := by decide +kernel
theorem dX7_blame_32 : decode cX7_blame 32 = .ok (.invokevirtual 140, 3) := by decide +kernel
theorem dX7_blame_35 : decode cX7_blame 35 = .ok (.aload_n 0, 1) := by decide +kernel
theorem dX7_blame_36 : decode cX7_blame 36 = .ok (.getfield 28, 3) := by decide +kernel
theorem dX7_blame_39 : decode cX7_blame 39 = .ok (.iload_n 1, 1) := by decide +kernel
theorem dX7_blame_40 : decode cX7_blame 40 = .ok (.invokevirtual 157, 3) := by decide +kernel
theorem dX7_blame_43 : decode cX7_blame 43 = .ok (.aload_n 0, 1) := by decide +kernel
theorem dX7_blame_44 : decode cX7_blame 44 = .ok (.getfield 28, 3) := by decide +kernel
theorem dX7_blame_47 : decode cX7_blame 47 = .ok (.getfield 143, 3) := by decide +kernel
theorem dX7_blame_50 : decode cX7_blame 50 = .ok (.iload_n 2, 1) := by decide +kernel
theorem dX7_blame_51 : decode cX7_blame 51 = .ok (.invokestatic 147, 3) := by decide +kernel
theorem dX7_blame_54 : decode cX7_blame 54 = .ok (.lreturn, 1) := by decide +kernel
theorem dX7_guess_0 : decode cX7_guess 0 = .ok (.iload_n 1, 1) := by decide +kernel
theorem dX7_guess_1 : decode cX7_guess 1 = .ok (.iconst 0, 1) := by decide +kernel
theorem dX7_guess_2 : decode cX7_guess 2 = .ok (.iconst 2, 1) := by decide +kernel
theorem dX7_guess_3 : decode cX7_guess 3 = .ok (.invokestatic 71, 3) := by decide +kernel
theorem dX7_guess_6 : decode cX7_guess 6 = .ok (.ifCond .ne 6, 3) := by decide +kernel
theorem dX7_guess_9 : decode cX7_guess 9 = .ok (.bipush (-2), 2) := by decide +kernel
theorem dX7_guess_11 : decode cX7_guess 11 = .ok (.ireturn, 1) := by decide +kernel
theorem dX7_guess_12 : decode cX7_guess 12 = .ok (.aload_n 0, 1) := by decide +kernel
theorem dX7_guess_13 : decode cX7_guess 13 = .ok (.getfield 28, 3) := by decide +kernel
theorem dX7_guess_16 : decode cX7_guess 16 = .ok (.invokevirtual 140, 3) := by decide +kernel
theorem dX7_guess_19 : decode cX7_guess 19 = .ok (.aload_n 0, 1) := by decide +kernel
theorem dX7_guess_20 : decode cX7_guess 20 = .ok (.getfield 28, 3) := by decide +kernel
theorem dX7_guess_23 : decode cX7_guess 23 = .ok (.getfield 143, 3) := by decide +kernel
theorem dX7_guess_26 : decode cX7_guess 26 = .ok (.lconst 0, 1) := by decide +kernel
theorem dX7_guess_27 : decode cX7_guess 27 = .ok (.lcmp, 1) := by decide +kernel
theorem dX7_guess_28 : decode cX7_guess 28 = .ok (.ifCond .ne 6, 3) := by decide +kernel
theorem dX7_guess_31 : decode cX7_guess 31 = .ok (.bipush (-5), 2) := by decide +kernel
theorem dX7_guess_33 : decode cX7_guess 33 = .ok (.ireturn, 1) := by decide +kernel
theorem dX7_guess_34 : decode cX7_guess 34 = .ok (.aload_n 0, 1) := by decide +kernel
theorem dX7_guess_35 : decode cX7_guess 35 = .ok (.getfield 28, 3) := by decide +kernel
theorem dX7_guess_38 : decode cX7_guess 38 = .ok (.getfield 160, 3) := by decide +kernel
theorem dX7_guess_41 : decode cX7_guess 41 = .ok (.istore_n 2, 1) := by decide +kernel
theorem dX7_guess_42 : decode cX7_guess 42 = .ok (.iload_n 2, 1) := by decide +kernel
theorem dX7_guess_43 : decode cX7_guess 43 = .ok (.invokestatic 163, 3) := by decide +kernel
theorem dX7_guess_46 : decode cX7_guess 46 = .ok (.istore_n 3, 1) := by decide +kernel
theorem dX7_guess_47 : decode cX7_guess 47 = .ok (.iload_n 1, 1) := by decide +kernel
theorem dX7_guess_48 : decode cX7_guess 48 = .ok (.lookupswitch 35 #[(0, 28), (1, 30)], 28) := by decide +kernel
theorem dX7_guess_76 : decode cX7_guess 76 = .ok (.iload_n 3, 1) := by decide +kernel
theorem dX7_guess_77 : decode cX7_guess 77 = .ok (.ireturn, 1) := by decide +kernel
theorem dX7_guess_78 : decode cX7_guess 78 = .ok (.iload_n 2, 1) := by decide +kernel
theorem dX7_guess_79 : decode cX7_guess 79 = .ok (.invokestatic 167, 3) := by decide +kernel
theorem dX7_guess_82 : decode cX7_guess 82 = .ok (.ireturn, 1) := by decide +kernel
theorem dX7_guess_83 : decode cX7_guess 83 = .ok (.iload_n 3, 1) := by decide +kernel
theorem dX7_guess_84 : decode cX7_guess 84 = .ok (.ifCond .ne 8, 3) := by decide +kernel
theorem dX7_guess_87 : decode cX7_guess 87 = .ok (.bipush (-6), 2) := by decide +kernel
theorem dX7_guess_89 : decode cX7_guess 89 = .ok (.goto 7, 3) := by decide +kernel
theorem dX7_guess_92 : decode cX7_guess 92 = .ok (.iload_n 2, 1) := by decide +kernel
theorem dX7_guess_93 : decode cX7_guess 93 = .ok (.invokestatic 170, 3) := by decide +kernel
theorem dX7_guess_96 : decode cX7_guess 96 = .ok (.ireturn, 1) := by decide +kernel
theorem dX7_hope_0 : decode cX7_hope 0 = .ok (.aload_n 0, 1) := by decide +kernel
theorem dX7_hope_1 : decode cX7_hope 1 = .ok (.getfield 12, 3) := by decide +kernel
theorem dX7_hope_4 : decode cX7_hope 4 = .ok (.iload_n 1, 1) := by decide +kernel
theorem dX7_hope_5 : decode cX7_hope 5 = .ok (.invokevirtual 111, 3) := by decide +kernel
theorem dX7_hope_8 : decode cX7_hope 8 = .ok (.ifCond .ne 7, 3) := by decide +kernel
theorem dX7_hope_11 : decode cX7_hope 11 = .ok (.ldc2_w 155, 3) := by decide +kernel
theorem dX7_hope_14 : decode cX7_hope 14 = .ok (.lreturn, 1) := by decide +kernel
theorem dX7_hope_15 : decode cX7_hope 15 = .ok (.iload_n 2, 1) := by decide +kernel
theorem dX7_hope_16 : decode cX7_hope 16 = .ok (.iconst 0, 1) := by decide +kernel
theorem dX7_hope_17 : decode cX7_hope 17 = .ok (.iconst 1, 1) := by decide +kernel
theorem dX7_hope_18 : decode cX7_hope 18 = .ok (.invokestatic 71, 3) := by decide +kernel
theorem dX7_hope_21 : decode cX7_hope 21 = .ok (.ifCond .ne 7, 3) := by decide +kernel
theorem dX7_hope_24 : decode cX7_hope 24 = .ok (.ldc2_w 138, 3) := by decide +kernel
theorem dX7_hope_27 : decode cX7_hope 27 = .ok (.lreturn, 1) := by decide +kernel
theorem dX7_hope_28 : decode cX7_hope 28 = .ok (.aload_n 0, 1) := by decide +kernel
theorem dX7_hope_29 : decode cX7_hope 29 = .ok (.getfield 28, 3) := by decide +kernel
theorem dX7_hope_32 : decode cX7_hope 32 = .ok (.invokevirtual 140, 3) := by decide +kernel
theorem dX7_hope_35 : decode cX7_hope 35 = .ok (.aload_n 0, 1) := by decide +kernel
theorem dX7_hope_36 : decode cX7_hope 36 = .ok (.getfield 28, 3) := by decide +kernel
theorem dX7_hope_39 : decode cX7_hope 39 = .ok (.iload_n 1, 1) := by decide +kernel
theorem dX7_hope_40 : decode cX7_hope 40 = .ok (.invokevirtual 173, 3) := by decide +kernel
theorem dX7_hope_43 : decode cX7_hope 43 = .ok (.ldc2_w 176, 3) := by decide +kernel
theorem dX7_hope_46 : decode cX7_hope 46 = .ok (.aload_n 0, 1) := by decide +kernel
theorem dX7_hope_47 : decode cX7_hope 47 = .ok (.getfield 28, 3) := by decide +kernel
theorem dX7_hope_50 : decode cX7_hope 50 = .ok (.getfield 143, 3) := by decide +kernel
theorem dX7_hope_53 : decode cX7_hope 53 = .ok (.lmul, 1) := by decide +kernel
theorem dX7_hope_54 : decode cX7_hope 54 = .ok (.iload_n 2, 1) := by decide +kernel
theorem dX7_hope_55 : decode cX7_hope 55 = .ok (.invokestatic 147, 3) := by decide +kernel
theorem dX7_hope_58 : decode cX7_hope 58 = .ok (.lreturn, 1) := by decide +kernel
theorem dX7_next_0 : decode cX7_next 0 = .ok (.iload_n 1, 1) := by decide +kernel
theorem dX7_next_1 : decode cX7_next 1 = .ok (.iconst 0, 1) := by decide +kernel
theorem dX7_next_2 : decode cX7_next 2 = .ok (.iconst 1, 1) := by decide +kernel
theorem dX7_next_3 : decode cX7_next 3 = .ok (.invokestatic 71, 3) := by decide +kernel
theorem dX7_next_6 : decode cX7_next 6 = .ok (.ifCond .ne 6, 3) := by decide +kernel
theorem dX7_next_9 : decode cX7_next 9 = .ok (.bipush (-2), 2) := by decide +kernel
theorem dX7_next_11 : decode cX7_next 11 = .ok (.ireturn, 1) := by decide +kernel
theorem dX7_next_12 : decode cX7_next 12 = .ok (.aload_n 0, 1) := by decide +kernel
theorem dX7_next_13 : decode cX7_next 13 = .ok (.getfield 28, 3) := by decide +kernel
theorem dX7_next_16 : decode cX7_next 16 = .ok (.invokevirtual 140, 3) := by decide +kernel
theorem dX7_next_19 : decode cX7_next 19 = .ok (.aload_n 0, 1) := by decide +kernel
theorem dX7_next_20 : decode cX7_next 20 = .ok (.getfield 28, 3) := by decide +kernel
theorem dX7_next_23 : decode cX7_next 23 = .ok (.iload_n 1, 1) := by decide +kernel
theorem dX7_next_24 : decode cX7_next 24 = .ok (.invokevirtual 178, 3) := by decide +kernel
theorem dX7_next_27 : decode cX7_next 27 = .ok (.ireturn, 1) := by decide +kernel
theorem dX7_worst_0 : decode cX7_worst 0 = .ok (.aload_n 0, 1) := by decide +kernel
theorem dX7_worst_1 : decode cX7_worst 1 = .ok (.aload_n 0, 1) := by decide +kernel
theorem dX7_worst_2 : decode cX7_worst 2 = .ok (.getfield 37, 3) := by decide +kernel
theorem dX7_worst_5 : decode cX7_worst 5 = .ok (.iload_n 1, 1) := by decide +kernel
theorem dX7_worst_6 : decode cX7_worst 6 = .ok (.iload_n 2, 1) := by decide +kernel
theorem dX7_worst_7 : decode cX7_worst 7 = .ok (.invokevirtual 181, 3) := by decide +kernel
theorem dX7_worst_10 : decode cX7_worst 10 = .ok (.ireturn, 1) := by decide +kernel
theorem dX7_mean_0 : decode cX7_mean 0 = .ok (.aload_n 0, 1) := by decide +kernel
theorem dX7_mean_1 : decode cX7_mean 1 = .ok (.aload_n 0, 1) := by decide +kernel
theorem dX7_mean_2 : decode cX7_mean 2 = .ok (.getfield 41, 3) := by decide +kernel
theorem dX7_mean_5 : decode cX7_mean 5 = .ok (.iload_n 1, 1) := by decide +kernel
theorem dX7_mean_6 : decode cX7_mean 6 = .ok (.iload_n 2, 1) := by decide +kernel
theorem dX7_mean_7 : decode cX7_mean 7 = .ok (.invokevirtual 181, 3) := by decide +kernel
theorem dX7_mean_10 : decode cX7_mean 10 = .ok (.ireturn, 1) := by decide +kernel
theorem dX7_twins_0 : decode cX7_twins 0 = .ok (.aload_n 0, 1) := by decide +kernel
theorem dX7_twins_1 : decode cX7_twins 1 = .ok (.getfield 12, 3) := by decide +kernel
theorem dX7_twins_4 : decode cX7_twins 4 = .ok (.iload_n 1, 1) := by decide +kernel
theorem dX7_twins_5 : decode cX7_twins 5 = .ok (.invokevirtual 86, 3) := by decide +kernel
theorem dX7_twins_8 : decode cX7_twins 8 = .ok (.ifCond .eq 14, 3) := by decide +kernel
theorem dX7_twins_11 : decode cX7_twins 11 = .ok (.aload_n 0, 1) := by decide +kernel
theorem dX7_twins_12 : decode cX7_twins 12 = .ok (.getfield 12, 3) := by decide +kernel
theorem dX7_twins_15 : decode cX7_twins 15 = .ok (.iload_n 1, 1) := by decide +kernel
theorem dX7_twins_16 : decode cX7_twins 16 = .ok (.invokevirtual 185, 3) := by decide +kernel
theorem dX7_twins_19 : decode cX7_twins 19 = .ok (.goto 4, 3) := by decide +kernel
theorem dX7_twins_22 : decode cX7_twins 22 = .ok (.iconst (-1), 1) := by decide +kernel
theorem dX7_twins_23 : decode cX7_twins 23 = .ok (.ireturn, 1) := by decide +kernel
theorem dX7_say_0 : decode cX7_say 0 = .ok (.iload_n 1, 1) := by decide +kernel
theorem dX7_say_1 : decode cX7_say 1 = .ok (.bipush 33, 2) := by decide +kernel
theorem dX7_say_3 : decode cX7_say 3 = .ok (.bipush 126, 2) := by decide +kernel
theorem dX7_say_5 : decode cX7_say 5 = .ok (.invokestatic 71, 3) := by decide +kernel
theorem dX7_say_8 : decode cX7_say 8 = .ok (.ifCond .ne 6, 3) := by decide +kernel
theorem dX7_say_11 : decode cX7_say 11 = .ok (.bipush (-2), 2) := by decide +kernel
theorem dX7_say_13 : decode cX7_say 13 = .ok (.ireturn, 1) := by decide +kernel
theorem dX7_say_14 : decode cX7_say 14 = .ok (.aload_n 0, 1) := by decide +kernel
theorem dX7_say_15 : decode cX7_say 15 = .ok (.getfield 47, 3) := by decide +kernel
theorem dX7_say_18 : decode cX7_say 18 = .ok (.iload_n 1, 1) := by decide +kernel
theorem dX7_say_19 : decode cX7_say 19 = .ok (.invokevirtual 188, 3) := by decide +kernel
theorem dX7_say_22 : decode cX7_say 22 = .ok (.ireturn, 1) := by decide +kernel
theorem dX7_wipe_0 : decode cX7_wipe 0 = .ok (.aload_n 0, 1) := by decide +kernel
theorem dX7_wipe_1 : decode cX7_wipe 1 = .ok (.getfield 47, 3) := by decide +kernel
theorem dX7_wipe_4 : decode cX7_wipe 4 = .ok (.getfield 190, 3) := by decide +kernel
theorem dX7_wipe_7 : decode cX7_wipe 7 = .ok (.istore_n 1, 1) := by decide +kernel
theorem dX7_wipe_8 : decode cX7_wipe 8 = .ok (.aload_n 0, 1) := by decide +kernel
theorem dX7_wipe_9 : decode cX7_wipe 9 = .ok (.getfield 47, 3) := by decide +kernel
theorem dX7_wipe_12 : decode cX7_wipe 12 = .ok (.iconst 0, 1) := by decide +kernel
theorem dX7_wipe_13 : decode cX7_wipe 13 = .ok (.putfield 190, 3) := by decide +kernel
theorem dX7_wipe_16 : decode cX7_wipe 16 = .ok (.iload_n 1, 1) := by decide +kernel
theorem dX7_wipe_17 : decode cX7_wipe 17 = .ok (.ireturn, 1) := by decide +kernel
theorem dX7_fault_0 : decode cX7_fault 0 = .ok (.aload_n 0, 1) := by decide +kernel
theorem dX7_fault_1 : decode cX7_fault 1 = .ok (.getfield 47, 3) := by decide +kernel
theorem dX7_fault_4 : decode cX7_fault 4 = .ok (.invokevirtual 193, 3) := by decide +kernel
theorem dX7_fault_7 : decode cX7_fault 7 = .ok (.ireturn, 1) := by decide +kernel
theorem dX7_truth_0 : decode cX7_truth 0 = .ok (.aload_n 0, 1) := by decide +kernel
theorem dX7_truth_1 : decode cX7_truth 1 = .ok (.getfield 47, 3) := by decide +kernel
theorem dX7_truth_4 : decode cX7_truth 4 = .ok (.invokevirtual 193, 3) := by decide +kernel
theorem dX7_truth_7 : decode cX7_truth 7 = .ok (.bipush (-6), 2) := by decide +kernel
theorem dX7_truth_9 : decode cX7_truth 9 = .ok (.if_icmp .eq 6, 3) := by decide +kernel
theorem dX7_truth_12 : decode cX7_truth 12 = .ok (.bipush (-5), 2) := by decide +kernel
theorem dX7_truth_14 : decode cX7_truth 14 = .ok (.ireturn, 1) := by decide +kernel
theorem dX7_truth_15 : decode cX7_truth 15 = .ok (.aload_n 0, 1) := by decide +kernel
theorem dX7_truth_16 : decode cX7_truth 16 = .ok (.getfield 54, 3) := by decide +kernel
theorem dX7_truth_19 : decode cX7_truth 19 = .ok (.aload_n 0, 1) := by decide +kernel
theorem dX7_truth_20 : decode cX7_truth 20 = .ok (.getfield 47, 3) := by decide +kernel
theorem dX7_truth_23 : decode cX7_truth 23 = .ok (.invokevirtual 197, 3) := by decide +kernel
theorem dX7_truth_26 : decode cX7_truth 26 = .ok (.aload_n 0, 1) := by decide +kernel
theorem dX7_truth_27 : decode cX7_truth 27 = .ok (.getfield 47, 3) := by decide +kernel
theorem dX7_truth_30 : decode cX7_truth 30 = .ok (.iconst 0, 1) := by decide +kernel
theorem dX7_truth_31 : decode cX7_truth 31 = .ok (.putfield 190, 3) := by decide +kernel
theorem dX7_truth_34 : decode cX7_truth 34 = .ok (.aload_n 0, 1) := by decide +kernel
theorem dX7_truth_35 : decode cX7_truth 35 = .ok (.getfield 54, 3) := by decide +kernel
theorem dX7_truth_38 : decode cX7_truth 38 = .ok (.getfield 201, 3) := by decide +kernel
theorem dX7_truth_41 : decode cX7_truth 41 = .ok (.ireturn, 1) := by decide +kernel
theorem dX7_fails_0 : decode cX7_fails 0 = .ok (.iload_n 1, 1) := by decide +kernel
theorem dX7_fails_1 : decode cX7_fails 1 = .ok (.iconst 0, 1) := by decide +kernel
theorem dX7_fails_2 : decode cX7_fails 2 = .ok (.sipush 4095, 3) := by decide +kernel
theorem dX7_fails_5 : decode cX7_fails 5 = .ok (.invokestatic 71, 3) := by decide +kernel
theorem dX7_fails_8 : decode cX7_fails 8 = .ok (.ifCond .eq 12, 3) := by decide +kernel
theorem dX7_fails_11 : decode cX7_fails 11 = .ok (.iload_n 2, 1) := by decide +kernel
theorem dX7_fails_12 : decode cX7_fails 12 = .ok (.iconst 0, 1) := by decide +kernel
theorem dX7_fails_13 : decode cX7_fails 13 = .ok (.iconst 1, 1) := by decide +kernel
theorem dX7_fails_14 : decode cX7_fails 14 = .ok (.invokestatic 71, 3) := by decide +kernel
theorem dX7_fails_17 : decode cX7_fails 17 = .ok (.ifCond .ne 6, 3) := by decide +kernel
theorem dX7_fails_20 : decode cX7_fails 20 = .ok (.bipush (-2), 2) := by decide +kernel
theorem dX7_fails_22 : decode cX7_fails 22 = .ok (.ireturn, 1) := by decide +kernel
theorem dX7_fails_23 : decode cX7_fails 23 = .ok (.iload_n 2, 1) := by decide +kernel
theorem dX7_fails_24 : decode cX7_fails 24 = .ok (.iconst 1, 1) := by decide +kernel
theorem dX7_fails_25 : decode cX7_fails 25 = .ok (.if_icmp .ne 15, 3) := by decide +kernel
theorem dX7_fails_28 : decode cX7_fails 28 = .ok (.aload_n 0, 1) := by decide +kernel
theorem dX7_fails_29 : decode cX7_fails 29 = .ok (.getfield 63, 3) := by decide +kernel
theorem dX7_fails_32 : decode cX7_fails 32 = .ok (.iload_n 1, 1) := by decide +kernel
theorem dX7_fails_33 : decode cX7_fails 33 = .ok (.invokevirtual 202, 3) := by decide +kernel
theorem dX7_fails_36 : decode cX7_fails 36 = .ok (.invokestatic 125, 3) := by decide +kernel
theorem dX7_fails_39 : decode cX7_fails 39 = .ok (.ireturn, 1) := by decide +kernel
theorem dX7_fails_40 : decode cX7_fails 40 = .ok (.aload_n 0, 1) := by decide +kernel
theorem dX7_fails_41 : decode cX7_fails 41 = .ok (.getfield 54, 3) := by decide +kernel
theorem dX7_fails_44 : decode cX7_fails 44 = .ok (.getfield 201, 3) := by decide +kernel
theorem dX7_fails_47 : decode cX7_fails 47 = .ok (.iconst 1, 1) := by decide +kernel
theorem dX7_fails_48 : decode cX7_fails 48 = .ok (.if_icmp .ge 6, 3) := by decide +kernel
theorem dX7_fails_51 : decode cX7_fails 51 = .ok (.bipush (-3), 2) := by decide +kernel
theorem dX7_fails_53 : decode cX7_fails 53 = .ok (.ireturn, 1) := by decide +kernel
theorem dX7_fails_54 : decode cX7_fails 54 = .ok (.aload_n 0, 1) := by decide +kernel
theorem dX7_fails_55 : decode cX7_fails 55 = .ok (.getfield 54, 3) := by decide +kernel
theorem dX7_fails_58 : decode cX7_fails 58 = .ok (.getfield 205, 3) := by decide +kernel
theorem dX7_fails_61 : decode cX7_fails 61 = .ok (.iload_n 1, 1) := by decide +kernel
theorem dX7_fails_62 : decode cX7_fails 62 = .ok (.invokestatic 209, 3) := by decide +kernel
theorem dX7_fails_65 : decode cX7_fails 65 = .ok (.invokestatic 125, 3) := by decide +kernel
theorem dX7_fails_68 : decode cX7_fails 68 = .ok (.ireturn, 1) := by decide +kernel
theorem dX7_play_0 : decode cX7_play 0 = .ok (.iload_n 1, 1) := by decide +kernel
theorem dX7_play_1 : decode cX7_play 1 = .ok (.iconst 1, 1) := by decide +kernel
theorem dX7_play_2 : decode cX7_play 2 = .ok (.bipush 10, 2) := by decide +kernel
theorem dX7_play_4 : decode cX7_play 4 = .ok (.invokestatic 71, 3) := by decide +kernel
theorem dX7_play_7 : decode cX7_play 7 = .ok (.ifCond .ne 6, 3) := by decide +kernel
theorem dX7_play_10 : decode cX7_play 10 = .ok (.bipush (-2), 2) := by decide +kernel
theorem dX7_play_12 : decode cX7_play 12 = .ok (.ireturn, 1) := by decide +kernel
theorem dX7_play_13 : decode cX7_play 13 = .ok (.aload_n 0, 1) := by decide +kernel
theorem dX7_play_14 : decode cX7_play 14 = .ok (.getfield 54, 3) := by decide +kernel
theorem dX7_play_17 : decode cX7_play 17 = .ok (.getfield 201, 3) := by decide +kernel
theorem dX7_play_20 : decode cX7_play 20 = .ok (.iconst 1, 1) := by decide +kernel
theorem dX7_play_21 : decode cX7_play 21 = .ok (.if_icmp .ge 6, 3) := by decide +kernel
theorem dX7_play_24 : decode cX7_play 24 = .ok (.bipush (-3), 2) := by decide +kernel
theorem dX7_play_26 : decode cX7_play 26 = .ok (.ireturn, 1) := by decide +kernel
theorem dX7_play_27 : decode cX7_play 27 = .ok (.aload_n 0, 1) := by decide +kernel
theorem dX7_play_28 : decode cX7_play 28 = .ok (.getfield 12, 3) := by decide +kernel
theorem dX7_play_31 : decode cX7_play 31 = .ok (.invokevirtual 213, 3) := by decide +kernel
theorem dX7_play_34 : decode cX7_play 34 = .ok (.ifCond .ne 6, 3) := by decide +kernel
theorem dX7_play_37 : decode cX7_play 37 = .ok (.bipush (-5), 2) := by decide +kernel
theorem dX7_play_39 : decode cX7_play 39 = .ok (.ireturn, 1) := by decide +kernel
theorem dX7_play_40 : decode cX7_play 40 = .ok (.aload_n 0, 1) := by decide +kernel
theorem dX7_play_41 : decode cX7_play 41 = .ok (.getfield 19, 3) := by decide +kernel
theorem dX7_play_44 : decode cX7_play 44 = .ok (.iconst 0, 1) := by decide +kernel
theorem dX7_play_45 : decode cX7_play 45 = .ok (.putfield 117, 3) := by decide +kernel
theorem dX7_play_48 : decode cX7_play 48 = .ok (.iconst 0, 1) := by decide +kernel
theorem dX7_play_49 : decode cX7_play 49 = .ok (.istore_n 2, 1) := by decide +kernel
theorem dX7_play_50 : decode cX7_play 50 = .ok (.iload_n 2, 1) := by decide +kernel
theorem dX7_play_51 : decode cX7_play 51 = .ok (.bipush 12, 2) := by decide +kernel
theorem dX7_play_53 : decode cX7_play 53 = .ok (.if_icmp .ge 89, 3) := by decide +kernel
theorem dX7_play_56 : decode cX7_play 56 = .ok (.aload_n 0, 1) := by decide +kernel
theorem dX7_play_57 : decode cX7_play 57 = .ok (.getfield 28, 3) := by decide +kernel
theorem dX7_play_60 : decode cX7_play 60 = .ok (.invokevirtual 140, 3) := by decide +kernel
theorem dX7_play_63 : decode cX7_play 63 = .ok (.aload_n 0, 1) := by decide +kernel
theorem dX7_play_64 : decode cX7_play 64 = .ok (.getfield 28, 3) := by decide +kernel
theorem dX7_play_67 : decode cX7_play 67 = .ok (.iload_n 1, 1) := by decide +kernel
theorem dX7_play_68 : decode cX7_play 68 = .ok (.invokevirtual 216, 3) := by decide +kernel
theorem dX7_play_71 : decode cX7_play 71 = .ok (.ifCond .ne 6, 3) := by decide +kernel
theorem dX7_play_74 : decode cX7_play 74 = .ok (.goto 68, 3) := by decide +kernel
theorem dX7_play_77 : decode cX7_play 77 = .ok (.aload_n 0, 1) := by decide +kernel
theorem dX7_play_78 : decode cX7_play 78 = .ok (.getfield 28, 3) := by decide +kernel
theorem dX7_play_81 : decode cX7_play 81 = .ok (.iconst 1, 1) := by decide +kernel
theorem dX7_play_82 : decode cX7_play 82 = .ok (.invokevirtual 178, 3) := by decide +kernel
theorem dX7_play_85 : decode cX7_play 85 = .ok (.istore_n 3, 1) := by decide +kernel
theorem dX7_play_86 : decode cX7_play 86 = .ok (.aload_n 0, 1) := by decide +kernel
theorem dX7_play_87 : decode cX7_play 87 = .ok (.getfield 12, 3) := by decide +kernel
theorem dX7_play_90 : decode cX7_play 90 = .ok (.iload_n 3, 1) := by decide +kernel
theorem dX7_play_91 : decode cX7_play 91 = .ok (.invokevirtual 111, 3) := by decide +kernel
theorem dX7_play_94 : decode cX7_play 94 = .ok (.ifCond .ne 6, 3) := by decide +kernel
theorem dX7_play_97 : decode cX7_play 97 = .ok (.goto 45, 3) := by decide +kernel
theorem dX7_play_100 : decode cX7_play 100 = .ok (.aload_n 0, 1) := by decide +kernel
theorem dX7_play_101 : decode cX7_play 101 = .ok (.getfield 19, 3) := by decide +kernel
theorem dX7_play_104 : decode cX7_play 104 = .ok (.iload_n 3, 1) := by decide +kernel
theorem dX7_play_105 : decode cX7_play 105 = .ok (.aload_n 0, 1) := by decide +kernel
theorem dX7_play_106 : decode cX7_play 106 = .ok (.getfield 54, 3) := by decide +kernel
theorem dX7_play_109 : decode cX7_play 109 = .ok (.getfield 205, 3) := by decide +kernel
theorem dX7_play_112 : decode cX7_play 112 = .ok (.aload_n 0, 1) := by decide +kernel
theorem dX7_play_113 : decode cX7_play 113 = .ok (.getfield 12, 3) := by decide +kernel
theorem dX7_play_116 : decode cX7_play 116 = .ok (.getfield 90, 3) := by decide +kernel
theorem dX7_play_119 : decode cX7_play 119 = .ok (.iload_n 3, 1) := by decide +kernel
theorem dX7_play_120 : decode cX7_play 120 = .ok (.iaload, 1) := by decide +kernel
theorem dX7_play_121 : decode cX7_play 121 = .ok (.invokestatic 209, 3) := by decide +kernel
theorem dX7_play_124 : decode cX7_play 124 = .ok (.ifCond .ne 7, 3) := by decide +kernel
theorem dX7_play_127 : decode cX7_play 127 = .ok (.iconst 1, 1) := by decide +kernel
theorem dX7_play_128 : decode cX7_play 128 = .ok (.goto 4, 3) := by decide +kernel
theorem dX7_play_131 : decode cX7_play 131 = .ok (.iconst 0, 1) := by decide +kernel
theorem dX7_play_132 : decode cX7_play 132 = .ok (.invokevirtual 114, 3) := by decide +kernel
theorem dX7_play_135 : decode cX7_play 135 = .ok (.pop, 1) := by decide +kernel
theorem dX7_play_136 : decode cX7_play 136 = .ok (.iinc 2 1, 3) := by decide +kernel
theorem dX7_play_139 : decode cX7_play 139 = .ok (.goto (-89), 3) := by decide +kernel
theorem dX7_play_142 : decode cX7_play 142 = .ok (.aload_n 0, 1) := by decide +kernel
theorem dX7_play_143 : decode cX7_play 143 = .ok (.getfield 19, 3) := by decide +kernel
theorem dX7_play_146 : decode cX7_play 146 = .ok (.getfield 117, 3) := by decide +kernel
theorem dX7_play_149 : decode cX7_play 149 = .ok (.ireturn, 1) := by decide +kernel
theorem dX7_out_0 : decode cX7_out 0 = .ok (.aload_n 0, 1) := by decide +kernel
theorem dX7_out_1 : decode cX7_out 1 = .ok (.getfield 12, 3) := by decide +kernel
theorem dX7_out_4 : decode cX7_out 4 = .ok (.iload_n 1, 1) := by decide +kernel
theorem dX7_out_5 : decode cX7_out 5 = .ok (.invokevirtual 86, 3) := by decide +kernel
theorem dX7_out_8 : decode cX7_out 8 = .ok (.ifCond .ne 5, 3) := by decide +kernel
theorem dX7_out_11 : decode cX7_out 11 = .ok (.iconst (-1), 1) := by decide +kernel
theorem dX7_out_12 : decode cX7_out 12 = .ok (.ireturn, 1) := by decide +kernel
theorem dX7_out_13 : decode cX7_out 13 = .ok (.iload_n 2, 1) := by decide +kernel
theorem dX7_out_14 : decode cX7_out 14 = .ok (.iconst 0, 1) := by decide +kernel
theorem dX7_out_15 : decode cX7_out 15 = .ok (.iconst 1, 1) := by decide +kernel
theorem dX7_out_16 : decode cX7_out 16 = .ok (.invokestatic 71, 3) := by decide +kernel
theorem dX7_out_19 : decode cX7_out 19 = .ok (.ifCond .ne 6, 3) := by decide +kernel
theorem dX7_out_22 : decode cX7_out 22 = .ok (.bipush (-2), 2) := by decide +kernel
theorem dX7_out_24 : decode cX7_out 24 = .ok (.ireturn, 1) := by decide +kernel
theorem dX7_out_25 : decode cX7_out 25 = .ok (.aload_n 0, 1) := by decide +kernel
theorem dX7_out_26 : decode cX7_out 26 = .ok (.getfield 54, 3) := by decide +kernel
theorem dX7_out_29 : decode cX7_out 29 = .ok (.getfield 201, 3) := by decide +kernel
theorem dX7_out_32 : decode cX7_out 32 = .ok (.iconst 1, 1) := by decide +kernel
theorem dX7_out_33 : decode cX7_out 33 = .ok (.if_icmp .ge 6, 3) := by decide +kernel
theorem dX7_out_36 : decode cX7_out 36 = .ok (.bipush (-3), 2) := by decide +kernel
theorem dX7_out_38 : decode cX7_out 38 = .ok (.ireturn, 1) := by decide +kernel
theorem dX7_out_39 : decode cX7_out 39 = .ok (.aload_n 0, 1) := by decide +kernel
theorem dX7_out_40 : decode cX7_out 40 = .ok (.getfield 63, 3) := by decide +kernel
theorem dX7_out_43 : decode cX7_out 43 = .ok (.aload_n 0, 1) := by decide +kernel
theorem dX7_out_44 : decode cX7_out 44 = .ok (.getfield 12, 3) := by decide +kernel
theorem dX7_out_47 : decode cX7_out 47 = .ok (.getfield 90, 3) := by decide +kernel
theorem dX7_out_50 : decode cX7_out 50 = .ok (.iload_n 1, 1) := by decide +kernel
theorem dX7_out_51 : decode cX7_out 51 = .ok (.iaload, 1) := by decide +kernel
theorem dX7_out_52 : decode cX7_out 52 = .ok (.invokevirtual 219, 3) := by decide +kernel
theorem dX7_out_55 : decode cX7_out 55 = .ok (.istore_n 3, 1) := by decide +kernel
theorem dX7_out_56 : decode cX7_out 56 = .ok (.iload_n 3, 1) := by decide +kernel
theorem dX7_out_57 : decode cX7_out 57 = .ok (.bipush (-5), 2) := by decide +kernel
theorem dX7_out_59 : decode cX7_out 59 = .ok (.if_icmp .eq 7, 3) := by decide +kernel
theorem dX7_out_62 : decode cX7_out 62 = .ok (.iload_n 2, 1) := by decide +kernel
theorem dX7_out_63 : decode cX7_out 63 = .ok (.ifCond .ne 7, 3) := by decide +kernel
theorem dX7_out_66 : decode cX7_out 66 = .ok (.iload_n 3, 1) := by decide +kernel
theorem dX7_out_67 : decode cX7_out 67 = .ok (.goto 11, 3) := by decide +kernel
theorem dX7_out_70 : decode cX7_out 70 = .ok (.aload_n 0, 1) := by decide +kernel
theorem dX7_out_71 : decode cX7_out 71 = .ok (.getfield 12, 3) := by decide +kernel
theorem dX7_out_74 : decode cX7_out 74 = .ok (.iload_n 3, 1) := by decide +kernel
theorem dX7_out_75 : decode cX7_out 75 = .ok (.invokevirtual 222, 3) := by decide +kernel
theorem dX7_out_78 : decode cX7_out 78 = .ok (.ireturn, 1) := by decide +kernel
theorem dX7_core_0 : decode cX7_core 0 = .ok (.aload_n 0, 1) := by decide +kernel
theorem dX7_core_1 : decode cX7_core 1 = .ok (.getfield 12, 3) := by decide +kernel
theorem dX7_core_4 : decode cX7_core 4 = .ok (.iload_n 1, 1) := by decide +kernel
theorem dX7_core_5 : decode cX7_core 5 = .ok (.invokevirtual 86, 3) := by decide +kernel
theorem dX7_core_8 : decode cX7_core 8 = .ok (.ifCond .ne 5, 3) := by decide +kernel
theorem dX7_core_11 : decode cX7_core 11 = .ok (.iconst (-1), 1) := by decide +kernel
theorem dX7_core_12 : decode cX7_core 12 = .ok (.ireturn, 1) := by decide +kernel
theorem dX7_core_13 : decode cX7_core 13 = .ok (.aload_n 0, 1) := by decide +kernel
theorem dX7_core_14 : decode cX7_core 14 = .ok (.getfield 54, 3) := by decide +kernel
theorem dX7_core_17 : decode cX7_core 17 = .ok (.getfield 201, 3) := by decide +kernel
theorem dX7_core_20 : decode cX7_core 20 = .ok (.iconst 1, 1) := by decide +kernel
theorem dX7_core_21 : decode cX7_core 21 = .ok (.if_icmp .ge 6, 3) := by decide +kernel
theorem dX7_core_24 : decode cX7_core 24 = .ok (.bipush (-3), 2) := by decide +kernel
theorem dX7_core_26 : decode cX7_core 26 = .ok (.ireturn, 1) := by decide +kernel
theorem dX7_core_27 : decode cX7_core 27 = .ok (.aload_n 0, 1) := by decide +kernel
theorem dX7_core_28 : decode cX7_core 28 = .ok (.getfield 63, 3) := by decide +kernel
theorem dX7_core_31 : decode cX7_core 31 = .ok (.aload_n 0, 1) := by decide +kernel
theorem dX7_core_32 : decode cX7_core 32 = .ok (.getfield 12, 3) := by decide +kernel
theorem dX7_core_35 : decode cX7_core 35 = .ok (.getfield 90, 3) := by decide +kernel
theorem dX7_core_38 : decode cX7_core 38 = .ok (.iload_n 1, 1) := by decide +kernel
theorem dX7_core_39 : decode cX7_core 39 = .ok (.iaload, 1) := by decide +kernel
theorem dX7_core_40 : decode cX7_core 40 = .ok (.invokevirtual 225, 3) := by decide +kernel
theorem dX7_core_43 : decode cX7_core 43 = .ok (.iload_n 2, 1) := by decide +kernel
theorem dX7_core_44 : decode cX7_core 44 = .ok (.iconst (-1), 1) := by decide +kernel
theorem dX7_core_45 : decode cX7_core 45 = .ok (.if_icmp .ne 13, 3) := by decide +kernel
theorem dX7_core_48 : decode cX7_core 48 = .ok (.aload_n 0, 1) := by decide +kernel
theorem dX7_core_49 : decode cX7_core 49 = .ok (.getfield 63, 3) := by decide +kernel
theorem dX7_core_52 : decode cX7_core 52 = .ok (.invokevirtual 229, 3) := by decide +kernel
theorem dX7_core_55 : decode cX7_core 55 = .ok (.goto 11, 3) := by decide +kernel
theorem dX7_core_58 : decode cX7_core 58 = .ok (.aload_n 0, 1) := by decide +kernel
theorem dX7_core_59 : decode cX7_core 59 = .ok (.getfield 63, 3) := by decide +kernel
theorem dX7_core_62 : decode cX7_core 62 = .ok (.iload_n 2, 1) := by decide +kernel
theorem dX7_core_63 : decode cX7_core 63 = .ok (.invokevirtual 232, 3) := by decide +kernel
theorem dX7_core_66 : decode cX7_core 66 = .ok (.ireturn, 1) := by decide +kernel
theorem dX7_told_0 : decode cX7_told 0 = .ok (.iload_n 1, 1) := by decide +kernel
theorem dX7_told_1 : decode cX7_told 1 = .ok (.tableswitch 105 0 9 #[55, 63, 71, 79, 105, 105, 105, 105, 105, 87], 55) := by decide +kernel
theorem dX7_told_56 : decode cX7_told 56 = .ok (.aload_n 0, 1) := by decide +kernel
theorem dX7_told_57 : decode cX7_told 57 = .ok (.getfield 12, 3) := by decide +kernel
theorem dX7_told_60 : decode cX7_told 60 = .ok (.getfield 75, 3) := by decide +kernel
theorem dX7_told_63 : decode cX7_told 63 = .ok (.ireturn, 1) := by decide +kernel
theorem dX7_told_64 : decode cX7_told 64 = .ok (.aload_n 0, 1) := by decide +kernel
theorem dX7_told_65 : decode cX7_told 65 = .ok (.getfield 19, 3) := by decide +kernel
theorem dX7_told_68 : decode cX7_told 68 = .ok (.getfield 117, 3) := by decide +kernel
theorem dX7_told_71 : decode cX7_told 71 = .ok (.ireturn, 1) := by decide +kernel
theorem dX7_told_72 : decode cX7_told 72 = .ok (.aload_n 0, 1) := by decide +kernel
theorem dX7_told_73 : decode cX7_told 73 = .ok (.getfield 47, 3) := by decide +kernel
theorem dX7_told_76 : decode cX7_told 76 = .ok (.getfield 190, 3) := by decide +kernel
theorem dX7_told_79 : decode cX7_told 79 = .ok (.ireturn, 1) := by decide +kernel
theorem dX7_told_80 : decode cX7_told 80 = .ok (.aload_n 0, 1) := by decide +kernel
theorem dX7_told_81 : decode cX7_told 81 = .ok (.getfield 54, 3) := by decide +kernel
theorem dX7_told_84 : decode cX7_told 84 = .ok (.getfield 201, 3) := by decide +kernel
theorem dX7_told_87 : decode cX7_told 87 = .ok (.ireturn, 1) := by decide +kernel
theorem dX7_told_88 : decode cX7_told 88 = .ok (.aload_n 0, 1) := by decide +kernel
theorem dX7_told_89 : decode cX7_told 89 = .ok (.getfield 12, 3) := by decide +kernel
theorem dX7_told_92 : decode cX7_told 92 = .ok (.invokevirtual 235, 3) := by decide +kernel
theorem dX7_told_95 : decode cX7_told 95 = .ok (.aload_n 0, 1) := by decide +kernel
theorem dX7_told_96 : decode cX7_told 96 = .ok (.getfield 12, 3) := by decide +kernel
theorem dX7_told_99 : decode cX7_told 99 = .ok (.invokevirtual 213, 3) := by decide +kernel
theorem dX7_told_102 : decode cX7_told 102 = .ok (.iconst (-1), 1) := by decide +kernel
theorem dX7_told_103 : decode cX7_told 103 = .ok (.ixor, 1) := by decide +kernel
theorem dX7_told_104 : decode cX7_told 104 = .ok (.iand, 1) := by decide +kernel
theorem dX7_told_105 : decode cX7_told 105 = .ok (.ireturn, 1) := by decide +kernel
theorem dX7_told_106 : decode cX7_told 106 = .ok (.iload_n 1, 1) := by decide +kernel
theorem dX7_told_107 : decode cX7_told 107 = .ok (.iconst 4, 1) := by decide +kernel
theorem dX7_told_108 : decode cX7_told 108 = .ok (.bipush 8, 2) := by decide +kernel
theorem dX7_told_110 : decode cX7_told 110 = .ok (.invokestatic 71, 3) := by decide +kernel
theorem dX7_told_113 : decode cX7_told 113 = .ok (.ifCond .eq 15, 3) := by decide +kernel
theorem dX7_told_116 : decode cX7_told 116 = .ok (.aload_n 0, 1) := by decide +kernel
theorem dX7_told_117 : decode cX7_told 117 = .ok (.getfield 28, 3) := by decide +kernel
theorem dX7_told_120 : decode cX7_told 120 = .ok (.getfield 108, 3) := by decide +kernel
theorem dX7_told_123 : decode cX7_told 123 = .ok (.iload_n 1, 1) := by decide +kernel
theorem dX7_told_124 : decode cX7_told 124 = .ok (.iconst 4, 1) := by decide +kernel
theorem dX7_told_125 : decode cX7_told 125 = .ok (.isub, 1) := by decide +kernel
theorem dX7_told_126 : decode cX7_told 126 = .ok (.iaload, 1) := by decide +kernel
theorem dX7_told_127 : decode cX7_told 127 = .ok (.ireturn, 1) := by decide +kernel
theorem dX7_told_128 : decode cX7_told 128 = .ok (.iconst 0, 1) := by decide +kernel
theorem dX7_told_129 : decode cX7_told 129 = .ok (.istore_n 2, 1) := by decide +kernel
theorem dX7_told_130 : decode cX7_told 130 = .ok (.iload_n 2, 1) := by decide +kernel
theorem dX7_told_131 : decode cX7_told 131 = .ok (.iconst 2, 1) := by decide +kernel
theorem dX7_told_132 : decode cX7_told 132 = .ok (.if_icmp .gt 62, 3) := by decide +kernel
theorem dX7_told_135 : decode cX7_told 135 = .ok (.bipush 10, 2) := by decide +kernel
theorem dX7_told_137 : decode cX7_told 137 = .ok (.bipush 20, 2) := by decide +kernel
theorem dX7_told_139 : decode cX7_told 139 = .ok (.iload_n 2, 1) := by decide +kernel
theorem dX7_told_140 : decode cX7_told 140 = .ok (.imul, 1) := by decide +kernel
theorem dX7_told_141 : decode cX7_told 141 = .ok (.iadd, 1) := by decide +kernel
theorem dX7_told_142 : decode cX7_told 142 = .ok (.istore_n 3, 1) := by decide +kernel
theorem dX7_told_143 : decode cX7_told 143 = .ok (.iload_n 1, 1) := by decide +kernel
theorem dX7_told_144 : decode cX7_told 144 = .ok (.iload_n 3, 1) := by decide +kernel
theorem dX7_told_145 : decode cX7_told 145 = .ok (.iload_n 3, 1) := by decide +kernel
theorem dX7_told_146 : decode cX7_told 146 = .ok (.bipush 12, 2) := by decide +kernel
theorem dX7_told_148 : decode cX7_told 148 = .ok (.iadd, 1) := by decide +kernel
theorem dX7_told_149 : decode cX7_told 149 = .ok (.iconst 1, 1) := by decide +kernel
theorem dX7_told_150 : decode cX7_told 150 = .ok (.isub, 1) := by decide +kernel
theorem dX7_told_151 : decode cX7_told 151 = .ok (.invokestatic 71, 3) := by decide +kernel
theorem dX7_told_154 : decode cX7_told 154 = .ok (.ifCond .eq 34, 3) := by decide +kernel
theorem dX7_told_157 : decode cX7_told 157 = .ok (.aload_n 0, 1) := by decide +kernel
theorem dX7_told_158 : decode cX7_told 158 = .ok (.getfield 12, 3) := by decide +kernel
theorem dX7_told_161 : decode cX7_told 161 = .ok (.iload_n 1, 1) := by decide +kernel
theorem dX7_told_162 : decode cX7_told 162 = .ok (.iload_n 3, 1) := by decide +kernel
theorem dX7_told_163 : decode cX7_told 163 = .ok (.isub, 1) := by decide +kernel
theorem dX7_told_164 : decode cX7_told 164 = .ok (.invokevirtual 86, 3) := by decide +kernel
theorem dX7_told_167 : decode cX7_told 167 = .ok (.ifCond .eq 18, 3) := by decide +kernel
theorem dX7_told_170 : decode cX7_told 170 = .ok (.aload_n 0, 1) := by decide +kernel
theorem dX7_told_171 : decode cX7_told 171 = .ok (.getfield 12, 3) := by decide +kernel
theorem dX7_told_174 : decode cX7_told 174 = .ok (.iload_n 2, 1) := by decide +kernel
theorem dX7_told_175 : decode cX7_told 175 = .ok (.invokevirtual 100, 3) := by decide +kernel
theorem dX7_told_178 : decode cX7_told 178 = .ok (.iload_n 1, 1) := by decide +kernel
theorem dX7_told_179 : decode cX7_told 179 = .ok (.iload_n 3, 1) := by decide +kernel
theorem dX7_told_180 : decode cX7_told 180 = .ok (.isub, 1) := by decide +kernel
theorem dX7_told_181 : decode cX7_told 181 = .ok (.iaload, 1) := by decide +kernel
theorem dX7_told_182 : decode cX7_told 182 = .ok (.goto 5, 3) := by decide +kernel
theorem dX7_told_185 : decode cX7_told 185 = .ok (.bipush (-6), 2) := by decide +kernel
theorem dX7_told_187 : decode cX7_told 187 = .ok (.ireturn, 1) := by decide +kernel
theorem dX7_told_188 : decode cX7_told 188 = .ok (.iinc 2 1, 3) := by decide +kernel
theorem dX7_told_191 : decode cX7_told 191 = .ok (.goto (-61), 3) := by decide +kernel
theorem dX7_told_194 : decode cX7_told 194 = .ok (.bipush (-2), 2) := by decide +kernel
theorem dX7_told_196 : decode cX7_told 196 = .ok (.ireturn, 1) := by decide +kernel
theorem dX7_forgetPartings_0 : decode cX7_forgetPartings 0 = .ok (.aload_n 0, 1) := by decide +kernel
theorem dX7_forgetPartings_1 : decode cX7_forgetPartings 1 = .ok (.getfield 37, 3) := by decide +kernel
theorem dX7_forgetPartings_4 : decode cX7_forgetPartings 4 = .ok (.iconst 1, 1) := by decide +kernel
theorem dX7_forgetPartings_5 : decode cX7_forgetPartings 5 = .ok (.putfield 238, 3) := by decide +kernel
theorem dX7_forgetPartings_8 : decode cX7_forgetPartings 8 = .ok (.aload_n 0, 1) := by decide +kernel
theorem dX7_forgetPartings_9 : decode cX7_forgetPartings 9 = .ok (.getfield 41, 3) := by decide +kernel
theorem dX7_forgetPartings_12 : decode cX7_forgetPartings 12 = .ok (.iconst 1, 1) := by decide +kernel
theorem dX7_forgetPartings_13 : decode cX7_forgetPartings 13 = .ok (.putfield 238, 3) := by decide +kernel
theorem dX7_forgetPartings_16 : decode cX7_forgetPartings 16 = .ok (.return_, 1) := by decide +kernel
theorem dX7_storyRefusal_0 : decode cX7_storyRefusal 0 = .ok (.iload_n 1, 1) := by decide +kernel
theorem dX7_storyRefusal_1 : decode cX7_storyRefusal 1 = .ok (.iconst 0, 1) := by decide +kernel
theorem dX7_storyRefusal_2 : decode cX7_storyRefusal 2 = .ok (.iconst 2, 1) := by decide +kernel
theorem dX7_storyRefusal_3 : decode cX7_storyRefusal 3 = .ok (.invokestatic 71, 3) := by decide +kernel
theorem dX7_storyRefusal_6 : decode cX7_storyRefusal 6 = .ok (.ifCond .ne 6, 3) := by decide +kernel
theorem dX7_storyRefusal_9 : decode cX7_storyRefusal 9 = .ok (.bipush (-2), 2) := by decide +kernel
theorem dX7_storyRefusal_11 : decode cX7_storyRefusal 11 = .ok (.ireturn, 1) := by decide +kernel
theorem dX7_storyRefusal_12 : decode cX7_storyRefusal 12 = .ok (.aload_n 0, 1) := by decide +kernel
theorem dX7_storyRefusal_13 : decode cX7_storyRefusal 13 = .ok (.getfield 12, 3) := by decide +kernel
theorem dX7_storyRefusal_16 : decode cX7_storyRefusal 16 = .ok (.iload_n 2, 1) := by decide +kernel
theorem dX7_storyRefusal_17 : decode cX7_storyRefusal 17 = .ok (.invokevirtual 86, 3) := by decide +kernel
theorem dX7_storyRefusal_20 : decode cX7_storyRefusal 20 = .ok (.ifCond .ne 5, 3) := by decide +kernel
theorem dX7_storyRefusal_23 : decode cX7_storyRefusal 23 = .ok (.iconst (-1), 1) := by decide +kernel
theorem dX7_storyRefusal_24 : decode cX7_storyRefusal 24 = .ok (.ireturn, 1) := by decide +kernel
theorem dX7_storyRefusal_25 : decode cX7_storyRefusal 25 = .ok (.iload_n 1, 1) := by decide +kernel
theorem dX7_storyRefusal_26 : decode cX7_storyRefusal 26 = .ok (.ifCond .ne 5, 3) := by decide +kernel
theorem dX7_storyRefusal_29 : decode cX7_storyRefusal 29 = .ok (.iconst 0, 1) := by decide +kernel
theorem dX7_storyRefusal_30 : decode cX7_storyRefusal 30 = .ok (.ireturn, 1) := by decide +kernel
theorem dX7_storyRefusal_31 : decode cX7_storyRefusal 31 = .ok (.aload_n 0, 1) := by decide +kernel
theorem dX7_storyRefusal_32 : decode cX7_storyRefusal 32 = .ok (.getfield 12, 3) := by decide +kernel
theorem dX7_storyRefusal_35 : decode cX7_storyRefusal 35 = .ok (.iload_n 3, 1) := by decide +kernel
theorem dX7_storyRefusal_36 : decode cX7_storyRefusal 36 = .ok (.invokevirtual 86, 3) := by decide +kernel
theorem dX7_storyRefusal_39 : decode cX7_storyRefusal 39 = .ok (.ifCond .eq 25, 3) := by decide +kernel
theorem dX7_storyRefusal_42 : decode cX7_storyRefusal 42 = .ok (.iload_n 1, 1) := by decide +kernel
theorem dX7_storyRefusal_43 : decode cX7_storyRefusal 43 = .ok (.iconst 1, 1) := by decide +kernel
theorem dX7_storyRefusal_44 : decode cX7_storyRefusal 44 = .ok (.if_icmp .ne 11, 3) := by decide +kernel
theorem dX7_storyRefusal_47 : decode cX7_storyRefusal 47 = .ok (.iload_n 2, 1) := by decide +kernel
theorem dX7_storyRefusal_48 : decode cX7_storyRefusal 48 = .ok (.iload_n 3, 1) := by decide +kernel
theorem dX7_storyRefusal_49 : decode cX7_storyRefusal 49 = .ok (.if_icmp .ge 15, 3) := by decide +kernel
theorem dX7_storyRefusal_52 : decode cX7_storyRefusal 52 = .ok (.goto 8, 3) := by decide +kernel
theorem dX7_storyRefusal_55 : decode cX7_storyRefusal 55 = .ok (.iload_n 2, 1) := by decide +kernel
theorem dX7_storyRefusal_56 : decode cX7_storyRefusal 56 = .ok (.iload_n 3, 1) := by decide +kernel
theorem dX7_storyRefusal_57 : decode cX7_storyRefusal 57 = .ok (.if_icmp .eq 7, 3) := by decide +kernel
theorem dX7_storyRefusal_60 : decode cX7_storyRefusal 60 = .ok (.iconst 1, 1) := by decide +kernel
theorem dX7_storyRefusal_61 : decode cX7_storyRefusal 61 = .ok (.goto 4, 3) := by decide +kernel
theorem dX7_storyRefusal_64 : decode cX7_storyRefusal 64 = .ok (.iconst 0, 1) := by decide +kernel
theorem dX7_storyRefusal_65 : decode cX7_storyRefusal 65 = .ok (.istore 4, 2) := by decide +kernel
theorem dX7_storyRefusal_67 : decode cX7_storyRefusal 67 = .ok (.iload 4, 2) := by decide +kernel
theorem dX7_storyRefusal_69 : decode cX7_storyRefusal 69 = .ok (.ifCond .eq 7, 3) := by decide +kernel
theorem dX7_storyRefusal_72 : decode cX7_storyRefusal 72 = .ok (.iconst 0, 1) := by decide +kernel
theorem dX7_storyRefusal_73 : decode cX7_storyRefusal 73 = .ok (.goto 4, 3) := by decide +kernel
theorem dX7_storyRefusal_76 : decode cX7_storyRefusal 76 = .ok (.iconst (-1), 1) := by decide +kernel
theorem dX7_storyRefusal_77 : decode cX7_storyRefusal 77 = .ok (.ireturn, 1) := by decide +kernel
theorem dX7_parting_0 : decode cX7_parting 0 = .ok (.iload_n 2, 1) := by decide +kernel
theorem dX7_parting_1 : decode cX7_parting 1 = .ok (.aload_n 0, 1) := by decide +kernel
theorem dX7_parting_2 : decode cX7_parting 2 = .ok (.getfield 12, 3) := by decide +kernel
theorem dX7_parting_5 : decode cX7_parting 5 = .ok (.invokevirtual 235, 3) := by decide +kernel
theorem dX7_parting_8 : decode cX7_parting 8 = .ok (.iconst (-1), 1) := by decide +kernel
theorem dX7_parting_9 : decode cX7_parting 9 = .ok (.ixor, 1) := by decide +kernel
theorem dX7_parting_10 : decode cX7_parting 10 = .ok (.iand, 1) := by decide +kernel
theorem dX7_parting_11 : decode cX7_parting 11 = .ok (.ifCond .ne 12, 3) := by decide +kernel
theorem dX7_parting_14 : decode cX7_parting 14 = .ok (.iload_n 3, 1) := by decide +kernel
theorem dX7_parting_15 : decode cX7_parting 15 = .ok (.iconst 0, 1) := by decide +kernel
theorem dX7_parting_16 : decode cX7_parting 16 = .ok (.iconst 1, 1) := by decide +kernel
theorem dX7_parting_17 : decode cX7_parting 17 = .ok (.invokestatic 71, 3) := by decide +kernel
theorem dX7_parting_20 : decode cX7_parting 20 = .ok (.ifCond .ne 6, 3) := by decide +kernel
theorem dX7_parting_23 : decode cX7_parting 23 = .ok (.bipush (-2), 2) := by decide +kernel
theorem dX7_parting_25 : decode cX7_parting 25 = .ok (.ireturn, 1) := by decide +kernel
theorem dX7_parting_26 : decode cX7_parting 26 = .ok (.iload_n 3, 1) := by decide +kernel
theorem dX7_parting_27 : decode cX7_parting 27 = .ok (.ifCond .ne 11, 3) := by decide +kernel
theorem dX7_parting_30 : decode cX7_parting 30 = .ok (.aload_n 1, 1) := by decide +kernel
theorem dX7_parting_31 : decode cX7_parting 31 = .ok (.iload_n 2, 1) := by decide +kernel
theorem dX7_parting_32 : decode cX7_parting 32 = .ok (.invokevirtual 242, 3) := by decide +kernel
theorem dX7_parting_35 : decode cX7_parting 35 = .ok (.goto 8, 3) := by decide +kernel
theorem dX7_parting_38 : decode cX7_parting 38 = .ok (.aload_n 1, 1) := by decide +kernel
theorem dX7_parting_39 : decode cX7_parting 39 = .ok (.iload_n 2, 1) := by decide +kernel
theorem dX7_parting_40 : decode cX7_parting 40 = .ok (.invokevirtual 245, 3) := by decide +kernel
theorem dX7_parting_43 : decode cX7_parting 43 = .ok (.ireturn, 1) := by decide +kernel
theorem dX7_isFrom_0 : decode cX7_isFrom 0 = .ok (.iload_n 0, 1) := by decide +kernel
theorem dX7_isFrom_1 : decode cX7_isFrom 1 = .ok (.iload_n 1, 1) := by decide +kernel
theorem dX7_isFrom_2 : decode cX7_isFrom 2 = .ok (.if_icmp .lt 12, 3) := by decide +kernel
theorem dX7_isFrom_5 : decode cX7_isFrom 5 = .ok (.iload_n 0, 1) := by decide +kernel
theorem dX7_isFrom_6 : decode cX7_isFrom 6 = .ok (.iload_n 2, 1) := by decide +kernel
theorem dX7_isFrom_7 : decode cX7_isFrom 7 = .ok (.if_icmp .gt 7, 3) := by decide +kernel
theorem dX7_isFrom_10 : decode cX7_isFrom 10 = .ok (.iconst 1, 1) := by decide +kernel
theorem dX7_isFrom_11 : decode cX7_isFrom 11 = .ok (.goto 4, 3) := by decide +kernel
theorem dX7_isFrom_14 : decode cX7_isFrom 14 = .ok (.iconst 0, 1) := by decide +kernel
theorem dX7_isFrom_15 : decode cX7_isFrom 15 = .ok (.ireturn, 1) := by decide +kernel
theorem dX7_asNumber_0 : decode cX7_asNumber 0 = .ok (.iload_n 0, 1) := by decide +kernel
theorem dX7_asNumber_1 : decode cX7_asNumber 1 = .ok (.ifCond .eq 7, 3) := by decide +kernel
theorem dX7_asNumber_4 : decode cX7_asNumber 4 = .ok (.iconst 1, 1) := by decide +kernel
theorem dX7_asNumber_5 : decode cX7_asNumber 5 = .ok (.goto 4, 3) := by decide +kernel
theorem dX7_asNumber_8 : decode cX7_asNumber 8 = .ok (.iconst 0, 1) := by decide +kernel
theorem dX7_asNumber_9 : decode cX7_asNumber 9 = .ok (.ireturn, 1) := by decide +kernel
theorem dX7_isBit_0 : decode cX7_isBit 0 = .ok (.iload_n 0, 1) := by decide +kernel
theorem dX7_isBit_1 : decode cX7_isBit 1 = .ok (.iload_n 1, 1) := by decide +kernel
theorem dX7_isBit_2 : decode cX7_isBit 2 = .ok (.ishr, 1) := by decide +kernel
theorem dX7_isBit_3 : decode cX7_isBit 3 = .ok (.iconst 1, 1) := by decide +kernel
theorem dX7_isBit_4 : decode cX7_isBit 4 = .ok (.iand, 1) := by decide +kernel
theorem dX7_isBit_5 : decode cX7_isBit 5 = .ok (.ifCond .eq 7, 3) := by decide +kernel
theorem dX7_isBit_8 : decode cX7_isBit 8 = .ok (.iconst 1, 1) := by decide +kernel
theorem dX7_isBit_9 : decode cX7_isBit 9 = .ok (.goto 4, 3) := by decide +kernel
theorem dX7_isBit_12 : decode cX7_isBit 12 = .ok (.iconst 0, 1) := by decide +kernel
theorem dX7_isBit_13 : decode cX7_isBit 13 = .ok (.ireturn, 1) := by decide +kernel
theorem dX7_swap_0 : decode cX7_swap 0 = .ok (.aload_n 0, 1) := by decide +kernel
theorem dX7_swap_1 : decode cX7_swap 1 = .ok (.iload_n 1, 1) := by decide +kernel
theorem dX7_swap_2 : decode cX7_swap 2 = .ok (.iaload, 1) := by decide +kernel
theorem dX7_swap_3 : decode cX7_swap 3 = .ok (.istore_n 3, 1) := by decide +kernel
theorem dX7_swap_4 : decode cX7_swap 4 = .ok (.aload_n 0, 1) := by decide +kernel
theorem dX7_swap_5 : decode cX7_swap 5 = .ok (.iload_n 1, 1) := by decide +kernel
theorem dX7_swap_6 : decode cX7_swap 6 = .ok (.iload_n 2, 1) := by decide +kernel
theorem dX7_swap_7 : decode cX7_swap 7 = .ok (.iastore, 1) := by decide +kernel
theorem dX7_swap_8 : decode cX7_swap 8 = .ok (.iload_n 3, 1) := by decide +kernel
theorem dX7_swap_9 : decode cX7_swap 9 = .ok (.ireturn, 1) := by decide +kernel
theorem dX7_fraction_0 : decode cX7_fraction 0 = .ok (.lload_n 0, 1) := by decide +kernel
theorem dX7_fraction_1 : decode cX7_fraction 1 = .ok (.lconst 0, 1) := by decide +kernel
theorem dX7_fraction_2 : decode cX7_fraction 2 = .ok (.lcmp, 1) := by decide +kernel
theorem dX7_fraction_3 : decode cX7_fraction 3 = .ok (.ifCond .le 9, 3) := by decide +kernel
theorem dX7_fraction_6 : decode cX7_fraction 6 = .ok (.lload_n 2, 1) := by decide +kernel
theorem dX7_fraction_7 : decode cX7_fraction 7 = .ok (.lconst 0, 1) := by decide +kernel
theorem dX7_fraction_8 : decode cX7_fraction 8 = .ok (.lcmp, 1) := by decide +kernel
theorem dX7_fraction_9 : decode cX7_fraction 9 = .ok (.ifCond .gt 7, 3) := by decide +kernel
theorem dX7_fraction_12 : decode cX7_fraction 12 = .ok (.iload 4, 2) := by decide +kernel
theorem dX7_fraction_14 : decode cX7_fraction 14 = .ok (.i2l, 1) := by decide +kernel
theorem dX7_fraction_15 : decode cX7_fraction 15 = .ok (.lreturn, 1) := by decide +kernel
theorem dX7_fraction_16 : decode cX7_fraction 16 = .ok (.iload 4, 2) := by decide +kernel
theorem dX7_fraction_18 : decode cX7_fraction 18 = .ok (.ifCond .ne 7, 3) := by decide +kernel
theorem dX7_fraction_21 : decode cX7_fraction 21 = .ok (.lload_n 0, 1) := by decide +kernel
theorem dX7_fraction_22 : decode cX7_fraction 22 = .ok (.goto 4, 3) := by decide +kernel
theorem dX7_fraction_25 : decode cX7_fraction 25 = .ok (.lload_n 2, 1) := by decide +kernel
theorem dX7_fraction_26 : decode cX7_fraction 26 = .ok (.lload_n 0, 1) := by decide +kernel
theorem dX7_fraction_27 : decode cX7_fraction 27 = .ok (.lload_n 2, 1) := by decide +kernel
theorem dX7_fraction_28 : decode cX7_fraction 28 = .ok (.invokestatic 248, 3) := by decide +kernel
theorem dX7_fraction_31 : decode cX7_fraction 31 = .ok (.ldiv, 1) := by decide +kernel
theorem dX7_fraction_32 : decode cX7_fraction 32 = .ok (.lreturn, 1) := by decide +kernel
theorem dX7_commonDivisor_0 : decode cX7_commonDivisor 0 = .ok (.iconst 0, 1) := by decide +kernel
theorem dX7_commonDivisor_1 : decode cX7_commonDivisor 1 = .ok (.istore 4, 2) := by decide +kernel
theorem dX7_commonDivisor_3 : decode cX7_commonDivisor 3 = .ok (.iload 4, 2) := by decide +kernel
theorem dX7_commonDivisor_5 : decode cX7_commonDivisor 5 = .ok (.sipush 200, 3) := by decide +kernel
theorem dX7_commonDivisor_8 : decode cX7_commonDivisor 8 = .ok (.if_icmp .ge 25, 3) := by decide +kernel
theorem dX7_commonDivisor_11 : decode cX7_commonDivisor 11 = .ok (.lload_n 2, 1) := by decide +kernel
theorem dX7_commonDivisor_12 : decode cX7_commonDivisor 12 = .ok (.lconst 0, 1) := by decide +kernel
theorem dX7_commonDivisor_13 : decode cX7_commonDivisor 13 = .ok (.lcmp, 1) := by decide +kernel
theorem dX7_commonDivisor_14 : decode cX7_commonDivisor 14 = .ok (.ifCond .eq 19, 3) := by decide +kernel
theorem dX7_commonDivisor_17 : decode cX7_commonDivisor 17 = .ok (.lload_n 0, 1) := by decide +kernel
theorem dX7_commonDivisor_18 : decode cX7_commonDivisor 18 = .ok (.lload_n 2, 1) := by decide +kernel
theorem dX7_commonDivisor_19 : decode cX7_commonDivisor 19 = .ok (.lrem, 1) := by decide +kernel
theorem dX7_commonDivisor_20 : decode cX7_commonDivisor 20 = .ok (.lstore 5, 2) := by decide +kernel
theorem dX7_commonDivisor_22 : decode cX7_commonDivisor 22 = .ok (.lload_n 2, 1) := by decide +kernel
theorem dX7_commonDivisor_23 : decode cX7_commonDivisor 23 = .ok (.lstore_n 0, 1) := by decide +kernel
theorem dX7_commonDivisor_24 : decode cX7_commonDivisor 24 = .ok (.lload 5, 2) := by decide +kernel
theorem dX7_commonDivisor_26 : decode cX7_commonDivisor 26 = .ok (.lstore_n 2, 1) := by decide +kernel
theorem dX7_commonDivisor_27 : decode cX7_commonDivisor 27 = .ok (.iinc 4 1, 3) := by decide +kernel
theorem dX7_commonDivisor_30 : decode cX7_commonDivisor 30 = .ok (.goto (-27), 3) := by decide +kernel
theorem dX7_commonDivisor_33 : decode cX7_commonDivisor 33 = .ok (.lconst 1, 1) := by decide +kernel
theorem dX7_commonDivisor_34 : decode cX7_commonDivisor 34 = .ok (.lload_n 0, 1) := by decide +kernel
theorem dX7_commonDivisor_35 : decode cX7_commonDivisor 35 = .ok (.invokestatic 252, 3) := by decide +kernel
theorem dX7_commonDivisor_38 : decode cX7_commonDivisor 38 = .ok (.lreturn, 1) := by decide +kernel
theorem dX7_storyAt_0 : decode cX7_storyAt 0 = .ok (.iload_n 0, 1) := by decide +kernel
theorem dX7_storyAt_1 : decode cX7_storyAt 1 = .ok (.bipush 12, 2) := by decide +kernel
theorem dX7_storyAt_3 : decode cX7_storyAt 3 = .ok (.imul, 1) := by decide +kernel
theorem dX7_storyAt_4 : decode cX7_storyAt 4 = .ok (.iload_n 1, 1) := by decide +kernel
theorem dX7_storyAt_5 : decode cX7_storyAt 5 = .ok (.iadd, 1) := by decide +kernel
theorem dX7_storyAt_6 : decode cX7_storyAt 6 = .ok (.bipush 12, 2) := by decide +kernel
theorem dX7_storyAt_8 : decode cX7_storyAt 8 = .ok (.imul, 1) := by decide +kernel
theorem dX7_storyAt_9 : decode cX7_storyAt 9 = .ok (.iload_n 2, 1) := by decide +kernel
theorem dX7_storyAt_10 : decode cX7_storyAt 10 = .ok (.iadd, 1) := by decide +kernel
theorem dX7_storyAt_11 : decode cX7_storyAt 11 = .ok (.ireturn, 1) := by decide +kernel
theorem dX7_sortAt_0 : decode cX7_sortAt 0 = .ok (.iload_n 0, 1) := by decide +kernel
theorem dX7_sortAt_1 : decode cX7_sortAt 1 = .ok (.sipush 144, 3) := by decide +kernel
theorem dX7_sortAt_4 : decode cX7_sortAt 4 = .ok (.idiv, 1) := by decide +kernel
theorem dX7_sortAt_5 : decode cX7_sortAt 5 = .ok (.ireturn, 1) := by decide +kernel
theorem dX7_firstAt_0 : decode cX7_firstAt 0 = .ok (.iload_n 0, 1) := by decide +kernel
theorem dX7_firstAt_1 : decode cX7_firstAt 1 = .ok (.bipush 12, 2) := by decide +kernel
theorem dX7_firstAt_3 : decode cX7_firstAt 3 = .ok (.idiv, 1) := by decide +kernel
theorem dX7_firstAt_4 : decode cX7_firstAt 4 = .ok (.bipush 12, 2) := by decide +kernel
theorem dX7_firstAt_6 : decode cX7_firstAt 6 = .ok (.irem, 1) := by decide +kernel
theorem dX7_firstAt_7 : decode cX7_firstAt 7 = .ok (.ireturn, 1) := by decide +kernel
theorem dX7_secondAt_0 : decode cX7_secondAt 0 = .ok (.iload_n 0, 1) := by decide +kernel
theorem dX7_secondAt_1 : decode cX7_secondAt 1 = .ok (.bipush 12, 2) := by decide +kernel
theorem dX7_secondAt_3 : decode cX7_secondAt 3 = .ok (.irem, 1) := by decide +kernel
theorem dX7_secondAt_4 : decode cX7_secondAt 4 = .ok (.ireturn, 1) := by decide +kernel
theorem dX7_setsWith_0 : decode cX7_setsWith 0 = .ok (.iload_n 0, 1) := by decide +kernel
theorem dX7_setsWith_1 : decode cX7_setsWith 1 = .ok (.bipush 6, 2) := by decide +kernel
theorem dX7_setsWith_3 : decode cX7_setsWith 3 = .ok (.if_icmp .ge 9, 3) := by decide +kernel
theorem dX7_setsWith_6 : decode cX7_setsWith 6 = .ok (.getstatic 257, 3) := by decide +kernel
theorem dX7_setsWith_9 : decode cX7_setsWith 9 = .ok (.iload_n 0, 1) := by decide +kernel
theorem dX7_setsWith_10 : decode cX7_setsWith 10 = .ok (.laload, 1) := by decide +kernel
theorem dX7_setsWith_11 : decode cX7_setsWith 11 = .ok (.lreturn, 1) := by decide +kernel
theorem dX7_setsWith_12 : decode cX7_setsWith 12 = .ok (.iload_n 1, 1) := by decide +kernel
theorem dX7_setsWith_13 : decode cX7_setsWith 13 = .ok (.iload_n 0, 1) := by decide +kernel
theorem dX7_setsWith_14 : decode cX7_setsWith 14 = .ok (.bipush 6, 2) := by decide +kernel
theorem dX7_setsWith_16 : decode cX7_setsWith 16 = .ok (.isub, 1) := by decide +kernel
theorem dX7_setsWith_17 : decode cX7_setsWith 17 = .ok (.invokestatic 260, 3) := by decide +kernel
theorem dX7_setsWith_20 : decode cX7_setsWith 20 = .ok (.ifCond .eq 9, 3) := by decide +kernel
theorem dX7_setsWith_23 : decode cX7_setsWith 23 = .ok (.ldc2_w 263, 3) := by decide +kernel
theorem dX7_setsWith_26 : decode cX7_setsWith 26 = .ok (.goto 4, 3) := by decide +kernel
theorem dX7_setsWith_29 : decode cX7_setsWith 29 = .ok (.lconst 0, 1) := by decide +kernel
theorem dX7_setsWith_30 : decode cX7_setsWith 30 = .ok (.lreturn, 1) := by decide +kernel
theorem dX7_setsWithAll_0 : decode cX7_setsWithAll 0 = .ok (.ldc2_w 263, 3) := by decide +kernel
theorem dX7_setsWithAll_3 : decode cX7_setsWithAll 3 = .ok (.lstore_n 2, 1) := by decide +kernel
theorem dX7_setsWithAll_4 : decode cX7_setsWithAll 4 = .ok (.iconst 0, 1) := by decide +kernel
theorem dX7_setsWithAll_5 : decode cX7_setsWithAll 5 = .ok (.istore 4, 2) := by decide +kernel
theorem dX7_setsWithAll_7 : decode cX7_setsWithAll 7 = .ok (.iload 4, 2) := by decide +kernel
theorem dX7_setsWithAll_9 : decode cX7_setsWithAll 9 = .ok (.bipush 12, 2) := by decide +kernel
theorem dX7_setsWithAll_11 : decode cX7_setsWithAll 11 = .ok (.if_icmp .ge 27, 3) := by decide +kernel
theorem dX7_setsWithAll_14 : decode cX7_setsWithAll 14 = .ok (.iload_n 0, 1) := by decide +kernel
theorem dX7_setsWithAll_15 : decode cX7_setsWithAll 15 = .ok (.iload 4, 2) := by decide +kernel
theorem dX7_setsWithAll_17 : decode cX7_setsWithAll 17 = .ok (.invokestatic 260, 3) := by decide +kernel
theorem dX7_setsWithAll_20 : decode cX7_setsWithAll 20 = .ok (.ifCond .eq 12, 3) := by decide +kernel
theorem dX7_setsWithAll_23 : decode cX7_setsWithAll 23 = .ok (.lload_n 2, 1) := by decide +kernel
theorem dX7_setsWithAll_24 : decode cX7_setsWithAll 24 = .ok (.iload 4, 2) := by decide +kernel
theorem dX7_setsWithAll_26 : decode cX7_setsWithAll 26 = .ok (.iload_n 1, 1) := by decide +kernel
theorem dX7_setsWithAll_27 : decode cX7_setsWithAll 27 = .ok (.invokestatic 265, 3) := by decide +kernel
theorem dX7_setsWithAll_30 : decode cX7_setsWithAll 30 = .ok (.land, 1) := by decide +kernel
theorem dX7_setsWithAll_31 : decode cX7_setsWithAll 31 = .ok (.lstore_n 2, 1) := by decide +kernel
theorem dX7_setsWithAll_32 : decode cX7_setsWithAll 32 = .ok (.iinc 4 1, 3) := by decide +kernel
theorem dX7_setsWithAll_35 : decode cX7_setsWithAll 35 = .ok (.goto (-28), 3) := by decide +kernel
theorem dX7_setsWithAll_38 : decode cX7_setsWithAll 38 = .ok (.lload_n 2, 1) := by decide +kernel
theorem dX7_setsWithAll_39 : decode cX7_setsWithAll 39 = .ok (.lreturn, 1) := by decide +kernel
theorem dX7_setsWithin_0 : decode cX7_setsWithin 0 = .ok (.ldc2_w 263, 3) := by decide +kernel
theorem dX7_setsWithin_3 : decode cX7_setsWithin 3 = .ok (.lstore_n 2, 1) := by decide +kernel
theorem dX7_setsWithin_4 : decode cX7_setsWithin 4 = .ok (.iconst 0, 1) := by decide +kernel
theorem dX7_setsWithin_5 : decode cX7_setsWithin 5 = .ok (.istore 4, 2) := by decide +kernel
theorem dX7_setsWithin_7 : decode cX7_setsWithin 7 = .ok (.iload 4, 2) := by decide +kernel
theorem dX7_setsWithin_9 : decode cX7_setsWithin 9 = .ok (.bipush 12, 2) := by decide +kernel
theorem dX7_setsWithin_11 : decode cX7_setsWithin 11 = .ok (.if_icmp .ge 31, 3) := by decide +kernel
theorem dX7_setsWithin_14 : decode cX7_setsWithin 14 = .ok (.iload_n 0, 1) := by decide +kernel
theorem dX7_setsWithin_15 : decode cX7_setsWithin 15 = .ok (.iload 4, 2) := by decide +kernel
theorem dX7_setsWithin_17 : decode cX7_setsWithin 17 = .ok (.invokestatic 260, 3) := by decide +kernel
theorem dX7_setsWithin_20 : decode cX7_setsWithin 20 = .ok (.ifCond .ne 16, 3) := by decide +kernel
theorem dX7_setsWithin_23 : decode cX7_setsWithin 23 = .ok (.lload_n 2, 1) := by decide +kernel
theorem dX7_setsWithin_24 : decode cX7_setsWithin 24 = .ok (.iload 4, 2) := by decide +kernel
theorem dX7_setsWithin_26 : decode cX7_setsWithin 26 = .ok (.iload_n 1, 1) := by decide +kernel
theorem dX7_setsWithin_27 : decode cX7_setsWithin 27 = .ok (.invokestatic 265, 3) := by decide +kernel
theorem dX7_setsWithin_30 : decode cX7_setsWithin 30 = .ok (.ldc2_w 263, 3) := by decide +kernel
theorem dX7_setsWithin_33 : decode cX7_setsWithin 33 = .ok (.lxor, 1) := by decide +kernel
theorem dX7_setsWithin_34 : decode cX7_setsWithin 34 = .ok (.land, 1) := by decide +kernel
theorem dX7_setsWithin_35 : decode cX7_setsWithin 35 = .ok (.lstore_n 2, 1) := by decide +kernel
theorem dX7_setsWithin_36 : decode cX7_setsWithin 36 = .ok (.iinc 4 1, 3) := by decide +kernel
theorem dX7_setsWithin_39 : decode cX7_setsWithin 39 = .ok (.goto (-32), 3) := by decide +kernel
theorem dX7_setsWithin_42 : decode cX7_setsWithin 42 = .ok (.lload_n 2, 1) := by decide +kernel
theorem dX7_setsWithin_43 : decode cX7_setsWithin 43 = .ok (.lreturn, 1) := by decide +kernel
theorem dX7_setsGiven_0 : decode cX7_setsGiven 0 = .ok (.iload_n 0, 1) := by decide +kernel
theorem dX7_setsGiven_1 : decode cX7_setsGiven 1 = .ok (.bipush 6, 2) := by decide +kernel
theorem dX7_setsGiven_3 : decode cX7_setsGiven 3 = .ok (.if_icmp .ge 21, 3) := by decide +kernel
theorem dX7_setsGiven_6 : decode cX7_setsGiven 6 = .ok (.aload_n 1, 1) := by decide +kernel
theorem dX7_setsGiven_7 : decode cX7_setsGiven 7 = .ok (.iload_n 2, 1) := by decide +kernel
theorem dX7_setsGiven_8 : decode cX7_setsGiven 8 = .ok (.laload, 1) := by decide +kernel
theorem dX7_setsGiven_9 : decode cX7_setsGiven 9 = .ok (.getstatic 257, 3) := by decide +kernel
theorem dX7_setsGiven_12 : decode cX7_setsGiven 12 = .ok (.iload_n 0, 1) := by decide +kernel
theorem dX7_setsGiven_13 : decode cX7_setsGiven 13 = .ok (.laload, 1) := by decide +kernel
theorem dX7_setsGiven_14 : decode cX7_setsGiven 14 = .ok (.ldc2_w 263, 3) := by decide +kernel
theorem dX7_setsGiven_17 : decode cX7_setsGiven 17 = .ok (.lxor, 1) := by decide +kernel
theorem dX7_setsGiven_18 : decode cX7_setsGiven 18 = .ok (.land, 1) := by decide +kernel
theorem dX7_setsGiven_19 : decode cX7_setsGiven 19 = .ok (.iconst 1, 1) := by decide +kernel
theorem dX7_setsGiven_20 : decode cX7_setsGiven 20 = .ok (.iload_n 0, 1) := by decide +kernel
theorem dX7_setsGiven_21 : decode cX7_setsGiven 21 = .ok (.ishl, 1) := by decide +kernel
theorem dX7_setsGiven_22 : decode cX7_setsGiven 22 = .ok (.lshl, 1) := by decide +kernel
theorem dX7_setsGiven_23 : decode cX7_setsGiven 23 = .ok (.lreturn, 1) := by decide +kernel
theorem dX7_setsGiven_24 : decode cX7_setsGiven 24 = .ok (.iconst 1, 1) := by decide +kernel
theorem dX7_setsGiven_25 : decode cX7_setsGiven 25 = .ok (.iload_n 0, 1) := by decide +kernel
theorem dX7_setsGiven_26 : decode cX7_setsGiven 26 = .ok (.bipush 6, 2) := by decide +kernel
theorem dX7_setsGiven_28 : decode cX7_setsGiven 28 = .ok (.isub, 1) := by decide +kernel
theorem dX7_setsGiven_29 : decode cX7_setsGiven 29 = .ok (.ishl, 1) := by decide +kernel
theorem dX7_setsGiven_30 : decode cX7_setsGiven 30 = .ok (.istore_n 3, 1) := by decide +kernel
theorem dX7_setsGiven_31 : decode cX7_setsGiven 31 = .ok (.iload_n 2, 1) := by decide +kernel
theorem dX7_setsGiven_32 : decode cX7_setsGiven 32 = .ok (.iload_n 3, 1) := by decide +kernel
theorem dX7_setsGiven_33 : decode cX7_setsGiven 33 = .ok (.iand, 1) := by decide +kernel
theorem dX7_setsGiven_34 : decode cX7_setsGiven 34 = .ok (.ifCond .eq 11, 3) := by decide +kernel
theorem dX7_setsGiven_37 : decode cX7_setsGiven 37 = .ok (.aload_n 1, 1) := by decide +kernel
theorem dX7_setsGiven_38 : decode cX7_setsGiven 38 = .ok (.iload_n 2, 1) := by decide +kernel
theorem dX7_setsGiven_39 : decode cX7_setsGiven 39 = .ok (.iload_n 3, 1) := by decide +kernel
theorem dX7_setsGiven_40 : decode cX7_setsGiven 40 = .ok (.ixor, 1) := by decide +kernel
theorem dX7_setsGiven_41 : decode cX7_setsGiven 41 = .ok (.laload, 1) := by decide +kernel
theorem dX7_setsGiven_42 : decode cX7_setsGiven 42 = .ok (.goto 4, 3) := by decide +kernel
theorem dX7_setsGiven_45 : decode cX7_setsGiven 45 = .ok (.lconst 0, 1) := by decide +kernel
theorem dX7_setsGiven_46 : decode cX7_setsGiven 46 = .ok (.lreturn, 1) := by decide +kernel
theorem dX7_isAmong_0 : decode cX7_isAmong 0 = .ok (.aload_n 0, 1) := by decide +kernel
theorem dX7_isAmong_1 : decode cX7_isAmong 1 = .ok (.iload_n 1, 1) := by decide +kernel
theorem dX7_isAmong_2 : decode cX7_isAmong 2 = .ok (.bipush 6, 2) := by decide +kernel
theorem dX7_isAmong_4 : decode cX7_isAmong 4 = .ok (.ishr, 1) := by decide +kernel
theorem dX7_isAmong_5 : decode cX7_isAmong 5 = .ok (.laload, 1) := by decide +kernel
theorem dX7_isAmong_6 : decode cX7_isAmong 6 = .ok (.iload_n 1, 1) := by decide +kernel
theorem dX7_isAmong_7 : decode cX7_isAmong 7 = .ok (.invokestatic 269, 3) := by decide +kernel
theorem dX7_isAmong_10 : decode cX7_isAmong 10 = .ok (.ireturn, 1) := by decide +kernel
theorem dX7_isOfWord_0 : decode cX7_isOfWord 0 = .ok (.lload_n 0, 1) := by decide +kernel
theorem dX7_isOfWord_1 : decode cX7_isOfWord 1 = .ok (.iload_n 2, 1) := by decide +kernel
theorem dX7_isOfWord_2 : decode cX7_isOfWord 2 = .ok (.bipush 63, 2) := by decide +kernel
theorem dX7_isOfWord_4 : decode cX7_isOfWord 4 = .ok (.iand, 1) := by decide +kernel
theorem dX7_isOfWord_5 : decode cX7_isOfWord 5 = .ok (.lushr, 1) := by decide +kernel
theorem dX7_isOfWord_6 : decode cX7_isOfWord 6 = .ok (.lconst 1, 1) := by decide +kernel
theorem dX7_isOfWord_7 : decode cX7_isOfWord 7 = .ok (.land, 1) := by decide +kernel
theorem dX7_isOfWord_8 : decode cX7_isOfWord 8 = .ok (.lconst 0, 1) := by decide +kernel
theorem dX7_isOfWord_9 : decode cX7_isOfWord 9 = .ok (.lcmp, 1) := by decide +kernel
theorem dX7_isOfWord_10 : decode cX7_isOfWord 10 = .ok (.ifCond .eq 7, 3) := by decide +kernel
theorem dX7_isOfWord_13 : decode cX7_isOfWord 13 = .ok (.iconst 1, 1) := by decide +kernel
theorem dX7_isOfWord_14 : decode cX7_isOfWord 14 = .ok (.goto 4, 3) := by decide +kernel
theorem dX7_isOfWord_17 : decode cX7_isOfWord 17 = .ok (.iconst 0, 1) := by decide +kernel
theorem dX7_isOfWord_18 : decode cX7_isOfWord 18 = .ok (.ireturn, 1) := by decide +kernel
theorem dX8_init_0 : decode cX8_init 0 = .ok (.aload_n 0, 1) := by decide +kernel
theorem dX8_init_1 : decode cX8_init 1 = .ok (.invokespecial 1, 3) := by decide +kernel
theorem dX8_init_4 : decode cX8_init 4 = .ok (.aload_n 0, 1) := by decide +kernel
theorem dX8_init_5 : decode cX8_init 5 = .ok (.bipush 12, 2) := by decide +kernel
theorem dX8_init_7 : decode cX8_init 7 = .ok (.newarray .int, 2) := by decide +kernel
theorem dX8_init_9 : decode cX8_init 9 = .ok (.putfield 7, 3) := by decide +kernel
theorem dX8_init_12 : decode cX8_init 12 = .ok (.aload_n 0, 1) := by decide +kernel
theorem dX8_init_13 : decode cX8_init 13 = .ok (.bipush 12, 2) := by decide +kernel
theorem dX8_init_15 : decode cX8_init 15 = .ok (.newarray .int, 2) := by decide +kernel
theorem dX8_init_17 : decode cX8_init 17 = .ok (.putfield 13, 3) := by decide +kernel
theorem dX8_init_20 : decode cX8_init 20 = .ok (.aload_n 0, 1) := by decide +kernel
theorem dX8_init_21 : decode cX8_init 21 = .ok (.bipush 12, 2) := by decide +kernel
theorem dX8_init_23 : decode cX8_init 23 = .ok (.newarray .int, 2) := by decide +kernel
theorem dX8_init_25 : decode cX8_init 25 = .ok (.putfield 16, 3) := by decide +kernel
theorem dX8_init_28 : decode cX8_init 28 = .ok (.aload_n 0, 1) := by decide +kernel
theorem dX8_init_29 : decode cX8_init 29 = .ok (.bipush 12, 2) := by decide +kernel
theorem dX8_init_31 : decode cX8_init 31 = .ok (.newarray .int, 2) := by decide +kernel
theorem dX8_init_33 : decode cX8_init 33 = .ok (.putfield 19, 3) := by decide +kernel
theorem dX8_init_36 : decode cX8_init 36 = .ok (.aload_n 0, 1) := by decide +kernel
theorem dX8_init_37 : decode cX8_init 37 = .ok (.bipush 12, 2) := by decide +kernel
theorem dX8_init_39 : decode cX8_init 39 = .ok (.newarray .boolean, 2) := by decide +kernel
theorem dX8_init_41 : decode cX8_init 41 = .ok (.putfield 22, 3) := by decide +kernel
theorem dX8_init_44 : decode cX8_init 44 = .ok (.aload_n 0, 1) := by decide +kernel
theorem dX8_init_45 : decode cX8_init 45 = .ok (.bipush 12, 2) := by decide +kernel
theorem dX8_init_47 : decode cX8_init 47 = .ok (.newarray .int, 2) := by decide +kernel
theorem dX8_init_49 : decode cX8_init 49 = .ok (.putfield 26, 3) := by decide +kernel
theorem dX8_init_52 : decode cX8_init 52 = .ok (.aload_n 0, 1) := by decide +kernel
theorem dX8_init_53 : decode cX8_init 53 = .ok (.bipush 12, 2) := by decide +kernel
theorem dX8_init_55 : decode cX8_init 55 = .ok (.newarray .boolean, 2) := by decide +kernel
theorem dX8_init_57 : decode cX8_init 57 = .ok (.putfield 29, 3) := by decide +kernel
theorem dX8_init_60 : decode cX8_init 60 = .ok (.aload_n 0, 1) := by decide +kernel
theorem dX8_init_61 : decode cX8_init 61 = .ok (.iconst 5, 1) := by decide +kernel
theorem dX8_init_62 : decode cX8_init 62 = .ok (.newarray .int, 2) := by decide +kernel
theorem dX8_init_64 : decode cX8_init 64 = .ok (.putfield 32, 3) := by decide +kernel
theorem dX8_init_67 : decode cX8_init 67 = .ok (.aload_n 0, 1) := by decide +kernel
theorem dX8_init_68 : decode cX8_init 68 = .ok (.bipush 40, 2) := by decide +kernel
theorem dX8_init_70 : decode cX8_init 70 = .ok (.newarray .int, 2) := by decide +kernel
theorem dX8_init_72 : decode cX8_init 72 = .ok (.putfield 35, 3) := by decide +kernel
theorem dX8_init_75 : decode cX8_init 75 = .ok (.aload_n 0, 1) := by decide +kernel
theorem dX8_init_76 : decode cX8_init 76 = .ok (.bipush 40, 2) := by decide +kernel
theorem dX8_init_78 : decode cX8_init 78 = .ok (.newarray .int, 2) := by decide +kernel
theorem dX8_init_80 : decode cX8_init 80 = .ok (.putfield 38, 3) := by decide +kernel
theorem dX8_init_83 : decode cX8_init 83 = .ok (.aload_n 0, 1) := by decide +kernel
theorem dX8_init_84 : decode cX8_init 84 = .ok (.sipush 210, 3) := by decide +kernel
theorem dX8_init_87 : decode cX8_init 87 = .ok (.newarray .int, 2) := by decide +kernel
theorem dX8_init_89 : decode cX8_init 89 = .ok (.putfield 41, 3) := by decide +kernel
theorem dX8_init_92 : decode cX8_init 92 = .ok (.aload_n 0, 1) := by decide +kernel
theorem dX8_init_93 : decode cX8_init 93 = .ok (.sipush 210, 3) := by decide +kernel
theorem dX8_init_96 : decode cX8_init 96 = .ok (.newarray .int, 2) := by decide +kernel
theorem dX8_init_98 : decode cX8_init 98 = .ok (.putfield 44, 3) := by decide +kernel
theorem dX8_init_101 : decode cX8_init 101 = .ok (.aload_n 0, 1) := by decide +kernel
theorem dX8_init_102 : decode cX8_init 102 = .ok (.sipush 210, 3) := by decide +kernel
theorem dX8_init_105 : decode cX8_init 105 = .ok (.newarray .int, 2) := by decide +kernel
theorem dX8_init_107 : decode cX8_init 107 = .ok (.putfield 47, 3) := by decide +kernel
theorem dX8_init_110 : decode cX8_init 110 = .ok (.aload_n 0, 1) := by decide +kernel
theorem dX8_init_111 : decode cX8_init 111 = .ok (.sipush 210, 3) := by decide +kernel
theorem dX8_init_114 : decode cX8_init 114 = .ok (.newarray .long, 2) := by decide +kernel
theorem dX8_init_116 : decode cX8_init 116 = .ok (.putfield 50, 3) := by decide +kernel
theorem dX8_init_119 : decode cX8_init 119 = .ok (.aload_n 0, 1) := by decide +kernel
theorem dX8_init_120 : decode cX8_init 120 = .ok (.sipush 4096, 3) := by decide +kernel
theorem dX8_init_123 : decode cX8_init 123 = .ok (.newarray .int, 2) := by decide +kernel
theorem dX8_init_125 : decode cX8_init 125 = .ok (.putfield 54, 3) := by decide +kernel
theorem dX8_init_128 : decode cX8_init 128 = .ok (.aload_n 0, 1) := by decide +kernel
theorem dX8_init_129 : decode cX8_init 129 = .ok (.sipush 4096, 3) := by decide +kernel
theorem dX8_init_132 : decode cX8_init 132 = .ok (.newarray .int, 2) := by decide +kernel
theorem dX8_init_134 : decode cX8_init 134 = .ok (.putfield 57, 3) := by decide +kernel
theorem dX8_init_137 : decode cX8_init 137 = .ok (.aload_n 0, 1) := by decide +kernel
theorem dX8_init_138 : decode cX8_init 138 = .ok (.sipush 4096, 3) := by decide +kernel
theorem dX8_init_141 : decode cX8_init 141 = .ok (.newarray .int, 2) := by decide +kernel
theorem dX8_init_143 : decode cX8_init 143 = .ok (.putfield 60, 3) := by decide +kernel
theorem dX8_init_146 : decode cX8_init 146 = .ok (.aload_n 0, 1) := by decide +kernel
theorem dX8_init_147 : decode cX8_init 147 = .ok (.sipush 4096, 3) := by decide +kernel
theorem dX8_init_150 : decode cX8_init 150 = .ok (.newarray .int, 2) := by decide +kernel
theorem dX8_init_152 : decode cX8_init 152 = .ok (.putfield 63, 3) := by decide +kernel
theorem dX8_init_155 : decode cX8_init 155 = .ok (.aload_n 0, 1) := by decide +kernel
theorem dX8_init_156 : decode cX8_init 156 = .ok (.bipush 10, 2) := by decide +kernel
theorem dX8_init_158 : decode cX8_init 158 = .ok (.newarray .int, 2) := by decide +kernel
theorem dX8_init_160 : decode cX8_init 160 = .ok (.putfield 66, 3) := by decide +kernel
theorem dX8_init_163 : decode cX8_init 163 = .ok (.aload_n 0, 1) := by decide +kernel
theorem dX8_init_164 : decode cX8_init 164 = .ok (.bipush 41, 2) := by decide +kernel
theorem dX8_init_166 : decode cX8_init 166 = .ok (.newarray .boolean, 2) := by decide +kernel
theorem dX8_init_168 : decode cX8_init 168 = .ok (.putfield 69, 3) := by decide +kernel
theorem dX8_init_171 : decode cX8_init 171 = .ok (.aload_n 0, 1) := by decide +kernel
theorem dX8_init_172 : decode cX8_init 172 = .ok (.sipush 4096, 3) := by decide +kernel
theorem dX8_init_175 : decode cX8_init 175 = .ok (.newarray .boolean, 2) := by decide +kernel
theorem dX8_init_177 : decode cX8_init 177 = .ok (.putfield 72, 3) := by decide +kernel
theorem dX8_init_180 : decode cX8_init 180 = .ok (.aload_n 0, 1) := by decide +kernel
theorem dX8_init_181 : decode cX8_init 181 = .ok (.getfield 32, 3) := by decide +kernel
theorem dX8_init_184 : decode cX8_init 184 = .ok (.iconst 2, 1) := by decide +kernel
theorem dX8_init_185 : decode cX8_init 185 = .ok (.iconst 1, 1) := by decide +kernel
theorem dX8_init_186 : decode cX8_init 186 = .ok (.iastore, 1) := by decide +kernel
theorem dX8_init_187 : decode cX8_init 187 = .ok (.return_, 1) := by decide +kernel
theorem dX8_in_0 : decode cX8_in 0 = .ok (.iload_n 0, 1) := by decide +kernel
theorem dX8_in_1 : decode cX8_in 1 = .ok (.iload_n 1, 1) := by decide +kernel
theorem dX8_in_2 : decode cX8_in 2 = .ok (.if_icmp .lt 12, 3) := by decide +kernel
theorem dX8_in_5 : decode cX8_in 5 = .ok (.iload_n 0, 1) := by decide +kernel
theorem dX8_in_6 : decode cX8_in 6 = .ok (.iload_n 2, 1) := by decide +kernel
theorem dX8_in_7 : decode cX8_in 7 = .ok (.if_icmp .gt 7, 3) := by decide +kernel
theorem dX8_in_10 : decode cX8_in 10 = .ok (.iconst 1, 1) := by decide +kernel
theorem dX8_in_11 : decode cX8_in 11 = .ok (.goto 4, 3) := by decide +kernel
theorem dX8_in_14 : decode cX8_in 14 = .ok (.iconst 0, 1) := by decide +kernel
theorem dX8_in_15 : decode cX8_in 15 = .ok (.ireturn, 1) := by decide +kernel
theorem dX8_isVersion_0 : decode cX8_isVersion 0 = .ok (.iload_n 1, 1) := by decide +kernel
theorem dX8_isVersion_1 : decode cX8_isVersion 1 = .ok (.iconst 0, 1) := by decide +kernel
theorem dX8_isVersion_2 : decode cX8_isVersion 2 = .ok (.aload_n 0, 1) := by decide +kernel
theorem dX8_isVersion_3 : decode cX8_isVersion 3 = .ok (.getfield 75, 3) := by decide +kernel
theorem dX8_isVersion_6 : decode cX8_isVersion 6 = .ok (.iconst 1, 1) := by decide +kernel
theorem dX8_isVersion_7 : decode cX8_isVersion 7 = .ok (.isub, 1) := by decide +kernel
theorem dX8_isVersion_8 : decode cX8_isVersion 8 = .ok (.invokestatic 79, 3) := by decide +kernel
theorem dX8_isVersion_11 : decode cX8_isVersion 11 = .ok (.ireturn, 1) := by decide +kernel
theorem dX8_isPart_0 : decode cX8_isPart 0 = .ok (.iload_n 0, 1) := by decide +kernel
theorem dX8_isPart_1 : decode cX8_isPart 1 = .ok (.iconst 0, 1) := by decide +kernel
theorem dX8_isPart_2 : decode cX8_isPart 2 = .ok (.iconst 1, 1) := by decide +kernel
theorem dX8_isPart_3 : decode cX8_isPart 3 = .ok (.invokestatic 79, 3) := by decide +kernel
theorem dX8_isPart_6 : decode cX8_isPart 6 = .ok (.ireturn, 1) := by decide +kernel
theorem dX8_hasBit_0 : decode cX8_hasBit 0 = .ok (.iload_n 0, 1) := by decide +kernel
theorem dX8_hasBit_1 : decode cX8_hasBit 1 = .ok (.iload_n 1, 1) := by decide +kernel
theorem dX8_hasBit_2 : decode cX8_hasBit 2 = .ok (.ishr, 1) := by decide +kernel
theorem dX8_hasBit_3 : decode cX8_hasBit 3 = .ok (.iconst 1, 1) := by decide +kernel
theorem dX8_hasBit_4 : decode cX8_hasBit 4 = .ok (.iand, 1) := by decide +kernel
theorem dX8_hasBit_5 : decode cX8_hasBit 5 = .ok (.iconst 1, 1) := by decide +kernel
theorem dX8_hasBit_6 : decode cX8_hasBit 6 = .ok (.if_icmp .ne 7, 3) := by decide +kernel
theorem dX8_hasBit_9 : decode cX8_hasBit 9 = .ok (.iconst 1, 1) := by decide +kernel
theorem dX8_hasBit_10 : decode cX8_hasBit 10 = .ok (.goto 4, 3) := by decide +kernel
theorem dX8_hasBit_13 : decode cX8_hasBit 13 = .ok (.iconst 0, 1) := by decide +kernel
theorem dX8_hasBit_14 : decode cX8_hasBit 14 = .ok (.ireturn, 1) := by decide +kernel
theorem dX8_version_0 : decode cX8_version 0 = .ok (.iload_n 1, 1) := by decide +kernel
theorem dX8_version_1 : decode cX8_version 1 = .ok (.iconst (-1), 1) := by decide +kernel
theorem dX8_version_2 : decode cX8_version 2 = .ok (.if_icmp .ne 16, 3) := by decide +kernel
theorem dX8_version_5 : decode cX8_version 5 = .ok (.iload_n 2, 1) := by decide +kernel
theorem dX8_version_6 : decode cX8_version 6 = .ok (.iconst (-1), 1) := by decide +kernel
theorem dX8_version_7 : decode cX8_version 7 = .ok (.if_icmp .ne 7, 3) := by decide +kernel
theorem dX8_version_10 : decode cX8_version 10 = .ok (.iconst 1, 1) := by decide +kernel
theorem dX8_version_11 : decode cX8_version 11 = .ok (.goto 38, 3) := by decide +kernel
theorem dX8_version_14 : decode cX8_version 14 = .ok (.iconst 0, 1) := by decide +kernel
theorem dX8_version_15 : decode cX8_version 15 = .ok (.goto 34, 3) := by decide +kernel
theorem dX8_version_18 : decode cX8_version 18 = .ok (.aload_n 0, 1) := by decide +kernel
theorem dX8_version_19 : decode cX8_version 19 = .ok (.iload_n 1, 1) := by decide +kernel
theorem dX8_version_20 : decode cX8_version 20 = .ok (.invokevirtual 83, 3) := by decide +kernel
theorem dX8_version_23 : decode cX8_version 23 = .ok (.ifCond .eq 25, 3) := by decide +kernel
theorem dX8_version_26 : decode cX8_version 26 = .ok (.iload_n 2, 1) := by decide +kernel
theorem dX8_version_27 : decode cX8_version 27 = .ok (.iconst (-1), 1) := by decide +kernel
theorem dX8_version_28 : decode cX8_version 28 = .ok (.if_icmp .eq 16, 3) := by decide +kernel
theorem dX8_version_31 : decode cX8_version 31 = .ok (.aload_n 0, 1) := by decide +kernel
theorem dX8_version_32 : decode cX8_version 32 = .ok (.iload_n 2, 1) := by decide +kernel
theorem dX8_version_33 : decode cX8_version 33 = .ok (.invokevirtual 83, 3) := by decide +kernel
theorem dX8_version_36 : decode cX8_version 36 = .ok (.ifCond .eq 12, 3) := by decide +kernel
theorem dX8_version_39 : decode cX8_version 39 = .ok (.iload_n 2, 1) := by decide +kernel
theorem dX8_version_40 : decode cX8_version 40 = .ok (.iload_n 1, 1) := by decide +kernel
theorem dX8_version_41 : decode cX8_version 41 = .ok (.if_icmp .eq 7, 3) := by decide +kernel
theorem dX8_version_44 : decode cX8_version 44 = .ok (.iconst 1, 1) := by decide +kernel
theorem dX8_version_45 : decode cX8_version 45 = .ok (.goto 4, 3) := by decide +kernel
theorem dX8_version_48 : decode cX8_version 48 = .ok (.iconst 0, 1) := by decide +kernel
theorem dX8_version_49 : decode cX8_version 49 = .ok (.istore 4, 2) := by decide +kernel
theorem dX8_version_51 : decode cX8_version 51 = .ok (.iload 4, 2) := by decide +kernel
theorem dX8_version_53 : decode cX8_version 53 = .ok (.ifCond .ne 5, 3) := by decide +kernel
theorem dX8_version_56 : decode cX8_version 56 = .ok (.iconst (-1), 1) := by decide +kernel
theorem dX8_version_57 : decode cX8_version 57 = .ok (.ireturn, 1) := by decide +kernel
theorem dX8_version_58 : decode cX8_version 58 = .ok (.iload_n 3, 1) := by decide +kernel
theorem dX8_version_59 : decode cX8_version 59 = .ok (.iconst 1, 1) := by decide +kernel
theorem dX8_version_60 : decode cX8_version 60 = .ok (.bipush 9, 2) := by decide +kernel
theorem dX8_version_62 : decode cX8_version 62 = .ok (.invokestatic 79, 3) := by decide +kernel
theorem dX8_version_65 : decode cX8_version 65 = .ok (.ifCond .ne 6, 3) := by decide +kernel
theorem dX8_version_68 : decode cX8_version 68 = .ok (.bipush (-2), 2) := by decide +kernel
theorem dX8_version_70 : decode cX8_version 70 = .ok (.ireturn, 1) := by decide +kernel
theorem dX8_version_71 : decode cX8_version 71 = .ok (.aload_n 0, 1) := by decide +kernel
theorem dX8_version_72 : decode cX8_version 72 = .ok (.getfield 75, 3) := by decide +kernel
theorem dX8_version_75 : decode cX8_version 75 = .ok (.bipush 12, 2) := by decide +kernel
theorem dX8_version_77 : decode cX8_version 77 = .ok (.if_icmp .ne 6, 3) := by decide +kernel
theorem dX8_version_80 : decode cX8_version 80 = .ok (.bipush (-4), 2) := by decide +kernel
theorem dX8_version_82 : decode cX8_version 82 = .ok (.ireturn, 1) := by decide +kernel
theorem dX8_version_83 : decode cX8_version 83 = .ok (.aload_n 0, 1) := by decide +kernel
theorem dX8_version_84 : decode cX8_version 84 = .ok (.getfield 7, 3) := by decide +kernel
theorem dX8_version_87 : decode cX8_version 87 = .ok (.aload_n 0, 1) := by decide +kernel
theorem dX8_version_88 : decode cX8_version 88 = .ok (.getfield 75, 3) := by decide +kernel
theorem dX8_version_91 : decode cX8_version 91 = .ok (.iconst 1, 1) := by decide +kernel
theorem dX8_version_92 : decode cX8_version 92 = .ok (.aload_n 0, 1) := by decide +kernel
theorem dX8_version_93 : decode cX8_version 93 = .ok (.getfield 75, 3) := by decide +kernel
theorem dX8_version_96 : decode cX8_version 96 = .ok (.ishl, 1) := by decide +kernel
theorem dX8_version_97 : decode cX8_version 97 = .ok (.iload_n 1, 1) := by decide +kernel
theorem dX8_version_98 : decode cX8_version 98 = .ok (.ifCond .ge 7, 3) := by decide +kernel
theorem dX8_version_101 : decode cX8_version 101 = .ok (.iconst 0, 1) := by decide +kernel
theorem dX8_version_102 : decode cX8_version 102 = .ok (.goto 9, 3) := by decide +kernel
theorem dX8_version_105 : decode cX8_version 105 = .ok (.aload_n 0, 1) := by decide +kernel
theorem dX8_version_106 : decode cX8_version 106 = .ok (.getfield 7, 3) := by decide +kernel
theorem dX8_version_109 : decode cX8_version 109 = .ok (.iload_n 1, 1) := by decide +kernel
theorem dX8_version_110 : decode cX8_version 110 = .ok (.iaload, 1) := by decide +kernel
theorem dX8_version_111 : decode cX8_version 111 = .ok (.ior, 1) := by decide +kernel
theorem dX8_version_112 : decode cX8_version 112 = .ok (.iload_n 2, 1) := by decide +kernel
theorem dX8_version_113 : decode cX8_version 113 = .ok (.ifCond .ge 7, 3) := by decide +kernel
theorem dX8_version_116 : decode cX8_version 116 = .ok (.iconst 0, 1) := by decide +kernel
theorem dX8_version_117 : decode cX8_version 117 = .ok (.goto 9, 3) := by decide +kernel
theorem dX8_version_120 : decode cX8_version 120 = .ok (.aload_n 0, 1) := by decide +kernel
theorem dX8_version_121 : decode cX8_version 121 = .ok (.getfield 7, 3) := by decide +kernel
theorem dX8_version_124 : decode cX8_version 124 = .ok (.iload_n 2, 1) := by decide +kernel
theorem dX8_version_125 : decode cX8_version 125 = .ok (.iaload, 1) := by decide +kernel
theorem dX8_version_126 : decode cX8_version 126 = .ok (.ior, 1) := by decide +kernel
theorem dX8_version_127 : decode cX8_version 127 = .ok (.iastore, 1) := by decide +kernel
theorem dX8_version_128 : decode cX8_version 128 = .ok (.aload_n 0, 1) := by decide +kernel
theorem dX8_version_129 : decode cX8_version 129 = .ok (.getfield 13, 3) := by decide +kernel
theorem dX8_version_132 : decode cX8_version 132 = .ok (.aload_n 0, 1) := by decide +kernel
theorem dX8_version_133 : decode cX8_version 133 = .ok (.getfield 75, 3) := by decide +kernel
theorem dX8_version_136 : decode cX8_version 136 = .ok (.iload_n 3, 1) := by decide +kernel
theorem dX8_version_137 : decode cX8_version 137 = .ok (.iastore, 1) := by decide +kernel
theorem dX8_version_138 : decode cX8_version 138 = .ok (.aload_n 0, 1) := by decide +kernel
theorem dX8_version_139 : decode cX8_version 139 = .ok (.getfield 16, 3) := by decide +kernel
theorem dX8_version_142 : decode cX8_version 142 = .ok (.aload_n 0, 1) := by decide +kernel
theorem dX8_version_143 : decode cX8_version 143 = .ok (.getfield 75, 3) := by decide +kernel
theorem dX8_version_146 : decode cX8_version 146 = .ok (.iconst 1, 1) := by decide +kernel
theorem dX8_version_147 : decode cX8_version 147 = .ok (.iastore, 1) := by decide +kernel
theorem dX8_version_148 : decode cX8_version 148 = .ok (.aload_n 0, 1) := by decide +kernel
theorem dX8_version_149 : decode cX8_version 149 = .ok (.getfield 19, 3) := by decide +kernel
theorem dX8_version_152 : decode cX8_version 152 = .ok (.aload_n 0, 1) := by decide +kernel
theorem dX8_version_153 : decode cX8_version 153 = .ok (.getfield 75, 3) := by decide +kernel
theorem dX8_version_156 : decode cX8_version 156 = .ok (.iconst 0, 1) := by decide +kernel
theorem dX8_version_157 : decode cX8_version 157 = .ok (.iastore, 1) := by decide +kernel
theorem dX8_version_158 : decode cX8_version 158 = .ok (.aload_n 0, 1) := by decide +kernel
theorem dX8_version_159 : decode cX8_version 159 = .ok (.getfield 22, 3) := by decide +kernel
