theorem dX0_init_0 : decode cX0_init 0 = .ok (.aload_n 0, 1) := by decide +kernel
theorem dX0_init_1 : decode cX0_init 1 = .ok (.invokespecial 3, 3) := by decide +kernel
theorem dX0_init_4 : decode cX0_init 4 = .ok (.aload_n 0, 1) := by decide +kernel
theorem dX0_init_5 : decode cX0_init 5 = .ok (.bipush 64, 2) := by decide +kernel
theorem dX0_init_7 : decode cX0_init 7 = .ok (.newarray .long, 2) := by decide +kernel
theorem dX0_init_9 : decode cX0_init 9 = .ok (.putfield 9, 3) := by decide +kernel
theorem dX0_init_12 : decode cX0_init 12 = .ok (.aload_n 0, 1) := by decide +kernel
theorem dX0_init_13 : decode cX0_init 13 = .ok (.bipush 64, 2) := by decide +kernel
theorem dX0_init_15 : decode cX0_init 15 = .ok (.newarray .long, 2) := by decide +kernel
theorem dX0_init_17 : decode cX0_init 17 = .ok (.putfield 15, 3) := by decide +kernel
theorem dX0_init_20 : decode cX0_init 20 = .ok (.aload_n 0, 1) := by decide +kernel
theorem dX0_init_21 : decode cX0_init 21 = .ok (.aload_n 1, 1) := by decide +kernel
theorem dX0_init_22 : decode cX0_init 22 = .ok (.putfield 18, 3) := by decide +kernel
theorem dX0_init_25 : decode cX0_init 25 = .ok (.aload_n 0, 1) := by decide +kernel
theorem dX0_init_26 : decode cX0_init 26 = .ok (.aload_n 2, 1) := by decide +kernel
theorem dX0_init_27 : decode cX0_init 27 = .ok (.putfield 22, 3) := by decide +kernel
theorem dX0_init_30 : decode cX0_init 30 = .ok (.return_, 1) := by decide +kernel
theorem dX0_soundSets_0 : decode cX0_soundSets 0 = .ok (.ldc2_w 26, 3) := by decide +kernel
theorem dX0_soundSets_3 : decode cX0_soundSets 3 = .ok (.lstore_n 2, 1) := by decide +kernel
theorem dX0_soundSets_4 : decode cX0_soundSets 4 = .ok (.iconst 0, 1) := by decide +kernel
theorem dX0_soundSets_5 : decode cX0_soundSets 5 = .ok (.istore 4, 2) := by decide +kernel
theorem dX0_soundSets_7 : decode cX0_soundSets 7 = .ok (.iload 4, 2) := by decide +kernel
theorem dX0_soundSets_9 : decode cX0_soundSets 9 = .ok (.aload_n 0, 1) := by decide +kernel
theorem dX0_soundSets_10 : decode cX0_soundSets 10 = .ok (.getfield 18, 3) := by decide +kernel
theorem dX0_soundSets_13 : decode cX0_soundSets 13 = .ok (.getfield 28, 3) := by decide +kernel
theorem dX0_soundSets_16 : decode cX0_soundSets 16 = .ok (.if_icmp .ge 50, 3) := by decide +kernel
theorem dX0_soundSets_19 : decode cX0_soundSets 19 = .ok (.aload_n 0, 1) := by decide +kernel
theorem dX0_soundSets_20 : decode cX0_soundSets 20 = .ok (.getfield 18, 3) := by decide +kernel
theorem dX0_soundSets_23 : decode cX0_soundSets 23 = .ok (.getfield 34, 3) := by decide +kernel
theorem dX0_soundSets_26 : decode cX0_soundSets 26 = .ok (.iload 4, 2) := by decide +kernel
theorem dX0_soundSets_28 : decode cX0_soundSets 28 = .ok (.iaload, 1) := by decide +kernel
theorem dX0_soundSets_29 : decode cX0_soundSets 29 = .ok (.ifCond .eq 31, 3) := by decide +kernel
theorem dX0_soundSets_32 : decode cX0_soundSets 32 = .ok (.lload_n 2, 1) := by decide +kernel
theorem dX0_soundSets_33 : decode cX0_soundSets 33 = .ok (.iload 4, 2) := by decide +kernel
theorem dX0_soundSets_35 : decode cX0_soundSets 35 = .ok (.iload_n 1, 1) := by decide +kernel
theorem dX0_soundSets_36 : decode cX0_soundSets 36 = .ok (.invokestatic 38, 3) := by decide +kernel
theorem dX0_soundSets_39 : decode cX0_soundSets 39 = .ok (.ldc2_w 26, 3) := by decide +kernel
theorem dX0_soundSets_42 : decode cX0_soundSets 42 = .ok (.lxor, 1) := by decide +kernel
theorem dX0_soundSets_43 : decode cX0_soundSets 43 = .ok (.aload_n 0, 1) := by decide +kernel
theorem dX0_soundSets_44 : decode cX0_soundSets 44 = .ok (.getfield 18, 3) := by decide +kernel
theorem dX0_soundSets_47 : decode cX0_soundSets 47 = .ok (.getfield 34, 3) := by decide +kernel
theorem dX0_soundSets_50 : decode cX0_soundSets 50 = .ok (.iload 4, 2) := by decide +kernel
theorem dX0_soundSets_52 : decode cX0_soundSets 52 = .ok (.iaload, 1) := by decide +kernel
theorem dX0_soundSets_53 : decode cX0_soundSets 53 = .ok (.iload_n 1, 1) := by decide +kernel
theorem dX0_soundSets_54 : decode cX0_soundSets 54 = .ok (.invokestatic 42, 3) := by decide +kernel
theorem dX0_soundSets_57 : decode cX0_soundSets 57 = .ok (.lor, 1) := by decide +kernel
theorem dX0_soundSets_58 : decode cX0_soundSets 58 = .ok (.land, 1) := by decide +kernel
theorem dX0_soundSets_59 : decode cX0_soundSets 59 = .ok (.lstore_n 2, 1) := by decide +kernel
theorem dX0_soundSets_60 : decode cX0_soundSets 60 = .ok (.iinc 4 1, 3) := by decide +kernel
theorem dX0_soundSets_63 : decode cX0_soundSets 63 = .ok (.goto (-56), 3) := by decide +kernel
theorem dX0_soundSets_66 : decode cX0_soundSets 66 = .ok (.lload_n 2, 1) := by decide +kernel
theorem dX0_soundSets_67 : decode cX0_soundSets 67 = .ok (.lreturn, 1) := by decide +kernel
theorem dX0_isSound_0 : decode cX0_isSound 0 = .ok (.aload_n 0, 1) := by decide +kernel
theorem dX0_isSound_1 : decode cX0_isSound 1 = .ok (.iload_n 1, 1) := by decide +kernel
theorem dX0_isSound_2 : decode cX0_isSound 2 = .ok (.bipush 6, 2) := by decide +kernel
theorem dX0_isSound_4 : decode cX0_isSound 4 = .ok (.ishr, 1) := by decide +kernel
theorem dX0_isSound_5 : decode cX0_isSound 5 = .ok (.invokevirtual 45, 3) := by decide +kernel
theorem dX0_isSound_8 : decode cX0_isSound 8 = .ok (.iload_n 1, 1) := by decide +kernel
theorem dX0_isSound_9 : decode cX0_isSound 9 = .ok (.invokestatic 49, 3) := by decide +kernel
theorem dX0_isSound_12 : decode cX0_isSound 12 = .ok (.ireturn, 1) := by decide +kernel
theorem dX0_leastOut_0 : decode cX0_leastOut 0 = .ok (.iconst 0, 1) := by decide +kernel
theorem dX0_leastOut_1 : decode cX0_leastOut 1 = .ok (.istore_n 2, 1) := by decide +kernel
theorem dX0_leastOut_2 : decode cX0_leastOut 2 = .ok (.iload_n 2, 1) := by decide +kernel
theorem dX0_leastOut_3 : decode cX0_leastOut 3 = .ok (.bipush 64, 2) := by decide +kernel
theorem dX0_leastOut_5 : decode cX0_leastOut 5 = .ok (.if_icmp .ge 34, 3) := by decide +kernel
theorem dX0_leastOut_8 : decode cX0_leastOut 8 = .ok (.aload_n 0, 1) := by decide +kernel
theorem dX0_leastOut_9 : decode cX0_leastOut 9 = .ok (.getfield 9, 3) := by decide +kernel
theorem dX0_leastOut_12 : decode cX0_leastOut 12 = .ok (.iload_n 2, 1) := by decide +kernel
theorem dX0_leastOut_13 : decode cX0_leastOut 13 = .ok (.aload_n 0, 1) := by decide +kernel
theorem dX0_leastOut_14 : decode cX0_leastOut 14 = .ok (.iload_n 2, 1) := by decide +kernel
theorem dX0_leastOut_15 : decode cX0_leastOut 15 = .ok (.invokevirtual 45, 3) := by decide +kernel
theorem dX0_leastOut_18 : decode cX0_leastOut 18 = .ok (.aload_n 0, 1) := by decide +kernel
theorem dX0_leastOut_19 : decode cX0_leastOut 19 = .ok (.getfield 22, 3) := by decide +kernel
theorem dX0_leastOut_22 : decode cX0_leastOut 22 = .ok (.getfield 53, 3) := by decide +kernel
theorem dX0_leastOut_25 : decode cX0_leastOut 25 = .ok (.iload_n 2, 1) := by decide +kernel
theorem dX0_leastOut_26 : decode cX0_leastOut 26 = .ok (.laload, 1) := by decide +kernel
theorem dX0_leastOut_27 : decode cX0_leastOut 27 = .ok (.ldc2_w 26, 3) := by decide +kernel
theorem dX0_leastOut_30 : decode cX0_leastOut 30 = .ok (.lxor, 1) := by decide +kernel
theorem dX0_leastOut_31 : decode cX0_leastOut 31 = .ok (.land, 1) := by decide +kernel
theorem dX0_leastOut_32 : decode cX0_leastOut 32 = .ok (.lastore, 1) := by decide +kernel
theorem dX0_leastOut_33 : decode cX0_leastOut 33 = .ok (.iinc 2 1, 3) := by decide +kernel
theorem dX0_leastOut_36 : decode cX0_leastOut 36 = .ok (.goto (-34), 3) := by decide +kernel
theorem dX0_leastOut_39 : decode cX0_leastOut 39 = .ok (.bipush (-5), 2) := by decide +kernel
theorem dX0_leastOut_41 : decode cX0_leastOut 41 = .ok (.istore_n 2, 1) := by decide +kernel
theorem dX0_leastOut_42 : decode cX0_leastOut 42 = .ok (.iconst 0, 1) := by decide +kernel
theorem dX0_leastOut_43 : decode cX0_leastOut 43 = .ok (.istore_n 3, 1) := by decide +kernel
theorem dX0_leastOut_44 : decode cX0_leastOut 44 = .ok (.iconst 0, 1) := by decide +kernel
theorem dX0_leastOut_45 : decode cX0_leastOut 45 = .ok (.istore 4, 2) := by decide +kernel
theorem dX0_leastOut_47 : decode cX0_leastOut 47 = .ok (.iload 4, 2) := by decide +kernel
theorem dX0_leastOut_49 : decode cX0_leastOut 49 = .ok (.sipush 4096, 3) := by decide +kernel
theorem dX0_leastOut_52 : decode cX0_leastOut 52 = .ok (.if_icmp .ge 55, 3) := by decide +kernel
theorem dX0_leastOut_55 : decode cX0_leastOut 55 = .ok (.aload_n 0, 1) := by decide +kernel
theorem dX0_leastOut_56 : decode cX0_leastOut 56 = .ok (.getfield 9, 3) := by decide +kernel
theorem dX0_leastOut_59 : decode cX0_leastOut 59 = .ok (.iload_n 1, 1) := by decide +kernel
theorem dX0_leastOut_60 : decode cX0_leastOut 60 = .ok (.iload_n 3, 1) := by decide +kernel
theorem dX0_leastOut_61 : decode cX0_leastOut 61 = .ok (.iconst (-1), 1) := by decide +kernel
theorem dX0_leastOut_62 : decode cX0_leastOut 62 = .ok (.ixor, 1) := by decide +kernel
theorem dX0_leastOut_63 : decode cX0_leastOut 63 = .ok (.iand, 1) := by decide +kernel
theorem dX0_leastOut_64 : decode cX0_leastOut 64 = .ok (.invokestatic 58, 3) := by decide +kernel
theorem dX0_leastOut_67 : decode cX0_leastOut 67 = .ok (.ifCond .eq 20, 3) := by decide +kernel
theorem dX0_leastOut_70 : decode cX0_leastOut 70 = .ok (.iload_n 2, 1) := by decide +kernel
theorem dX0_leastOut_71 : decode cX0_leastOut 71 = .ok (.bipush (-5), 2) := by decide +kernel
theorem dX0_leastOut_73 : decode cX0_leastOut 73 = .ok (.if_icmp .eq 12, 3) := by decide +kernel
theorem dX0_leastOut_76 : decode cX0_leastOut 76 = .ok (.aload_n 0, 1) := by decide +kernel
theorem dX0_leastOut_77 : decode cX0_leastOut 77 = .ok (.iload_n 3, 1) := by decide +kernel
theorem dX0_leastOut_78 : decode cX0_leastOut 78 = .ok (.iload_n 2, 1) := by decide +kernel
theorem dX0_leastOut_79 : decode cX0_leastOut 79 = .ok (.invokevirtual 62, 3) := by decide +kernel
theorem dX0_leastOut_82 : decode cX0_leastOut 82 = .ok (.ifCond .eq 5, 3) := by decide +kernel
theorem dX0_leastOut_85 : decode cX0_leastOut 85 = .ok (.iload_n 3, 1) := by decide +kernel
theorem dX0_leastOut_86 : decode cX0_leastOut 86 = .ok (.istore_n 2, 1) := by decide +kernel
theorem dX0_leastOut_87 : decode cX0_leastOut 87 = .ok (.iload_n 3, 1) := by decide +kernel
theorem dX0_leastOut_88 : decode cX0_leastOut 88 = .ok (.iload_n 1, 1) := by decide +kernel
theorem dX0_leastOut_89 : decode cX0_leastOut 89 = .ok (.if_icmp .ne 6, 3) := by decide +kernel
theorem dX0_leastOut_92 : decode cX0_leastOut 92 = .ok (.goto 15, 3) := by decide +kernel
theorem dX0_leastOut_95 : decode cX0_leastOut 95 = .ok (.iload_n 3, 1) := by decide +kernel
theorem dX0_leastOut_96 : decode cX0_leastOut 96 = .ok (.iload_n 1, 1) := by decide +kernel
theorem dX0_leastOut_97 : decode cX0_leastOut 97 = .ok (.isub, 1) := by decide +kernel
theorem dX0_leastOut_98 : decode cX0_leastOut 98 = .ok (.iload_n 1, 1) := by decide +kernel
theorem dX0_leastOut_99 : decode cX0_leastOut 99 = .ok (.iand, 1) := by decide +kernel
theorem dX0_leastOut_100 : decode cX0_leastOut 100 = .ok (.istore_n 3, 1) := by decide +kernel
theorem dX0_leastOut_101 : decode cX0_leastOut 101 = .ok (.iinc 4 1, 3) := by decide +kernel
theorem dX0_leastOut_104 : decode cX0_leastOut 104 = .ok (.goto (-57), 3) := by decide +kernel
theorem dX0_leastOut_107 : decode cX0_leastOut 107 = .ok (.iload_n 2, 1) := by decide +kernel
theorem dX0_leastOut_108 : decode cX0_leastOut 108 = .ok (.ireturn, 1) := by decide +kernel
theorem dX0_isLess_0 : decode cX0_isLess 0 = .ok (.iload_n 1, 1) := by decide +kernel
theorem dX0_isLess_1 : decode cX0_isLess 1 = .ok (.invokestatic 66, 3) := by decide +kernel
theorem dX0_isLess_4 : decode cX0_isLess 4 = .ok (.iload_n 2, 1) := by decide +kernel
theorem dX0_isLess_5 : decode cX0_isLess 5 = .ok (.invokestatic 66, 3) := by decide +kernel
theorem dX0_isLess_8 : decode cX0_isLess 8 = .ok (.isub, 1) := by decide +kernel
theorem dX0_isLess_9 : decode cX0_isLess 9 = .ok (.istore_n 3, 1) := by decide +kernel
theorem dX0_isLess_10 : decode cX0_isLess 10 = .ok (.iload_n 3, 1) := by decide +kernel
theorem dX0_isLess_11 : decode cX0_isLess 11 = .ok (.ifCond .lt 26, 3) := by decide +kernel
theorem dX0_isLess_14 : decode cX0_isLess 14 = .ok (.iload_n 3, 1) := by decide +kernel
theorem dX0_isLess_15 : decode cX0_isLess 15 = .ok (.ifCond .ne 26, 3) := by decide +kernel
theorem dX0_isLess_18 : decode cX0_isLess 18 = .ok (.aload_n 0, 1) := by decide +kernel
theorem dX0_isLess_19 : decode cX0_isLess 19 = .ok (.getfield 18, 3) := by decide +kernel
theorem dX0_isLess_22 : decode cX0_isLess 22 = .ok (.iload_n 1, 1) := by decide +kernel
theorem dX0_isLess_23 : decode cX0_isLess 23 = .ok (.invokevirtual 72, 3) := by decide +kernel
theorem dX0_isLess_26 : decode cX0_isLess 26 = .ok (.aload_n 0, 1) := by decide +kernel
theorem dX0_isLess_27 : decode cX0_isLess 27 = .ok (.getfield 18, 3) := by decide +kernel
theorem dX0_isLess_30 : decode cX0_isLess 30 = .ok (.iload_n 2, 1) := by decide +kernel
theorem dX0_isLess_31 : decode cX0_isLess 31 = .ok (.invokevirtual 72, 3) := by decide +kernel
theorem dX0_isLess_34 : decode cX0_isLess 34 = .ok (.if_icmp .ge 7, 3) := by decide +kernel
theorem dX0_isLess_37 : decode cX0_isLess 37 = .ok (.iconst 1, 1) := by decide +kernel
theorem dX0_isLess_38 : decode cX0_isLess 38 = .ok (.goto 4, 3) := by decide +kernel
theorem dX0_isLess_41 : decode cX0_isLess 41 = .ok (.iconst 0, 1) := by decide +kernel
theorem dX0_isLess_42 : decode cX0_isLess 42 = .ok (.ireturn, 1) := by decide +kernel
theorem dX0_findCores_0 : decode cX0_findCores 0 = .ok (.iconst 0, 1) := by decide +kernel
theorem dX0_findCores_1 : decode cX0_findCores 1 = .ok (.istore_n 2, 1) := by decide +kernel
theorem dX0_findCores_2 : decode cX0_findCores 2 = .ok (.iload_n 2, 1) := by decide +kernel
theorem dX0_findCores_3 : decode cX0_findCores 3 = .ok (.bipush 64, 2) := by decide +kernel
theorem dX0_findCores_5 : decode cX0_findCores 5 = .ok (.if_icmp .ge 48, 3) := by decide +kernel
theorem dX0_findCores_8 : decode cX0_findCores 8 = .ok (.aload_n 0, 1) := by decide +kernel
theorem dX0_findCores_9 : decode cX0_findCores 9 = .ok (.getfield 9, 3) := by decide +kernel
theorem dX0_findCores_12 : decode cX0_findCores 12 = .ok (.iload_n 2, 1) := by decide +kernel
theorem dX0_findCores_13 : decode cX0_findCores 13 = .ok (.aload_n 0, 1) := by decide +kernel
theorem dX0_findCores_14 : decode cX0_findCores 14 = .ok (.iload_n 2, 1) := by decide +kernel
theorem dX0_findCores_15 : decode cX0_findCores 15 = .ok (.invokevirtual 45, 3) := by decide +kernel
theorem dX0_findCores_18 : decode cX0_findCores 18 = .ok (.aload_n 0, 1) := by decide +kernel
theorem dX0_findCores_19 : decode cX0_findCores 19 = .ok (.getfield 22, 3) := by decide +kernel
theorem dX0_findCores_22 : decode cX0_findCores 22 = .ok (.getfield 53, 3) := by decide +kernel
theorem dX0_findCores_25 : decode cX0_findCores 25 = .ok (.iload_n 2, 1) := by decide +kernel
theorem dX0_findCores_26 : decode cX0_findCores 26 = .ok (.laload, 1) := by decide +kernel
theorem dX0_findCores_27 : decode cX0_findCores 27 = .ok (.land, 1) := by decide +kernel
theorem dX0_findCores_28 : decode cX0_findCores 28 = .ok (.iload_n 1, 1) := by decide +kernel
theorem dX0_findCores_29 : decode cX0_findCores 29 = .ok (.iload_n 2, 1) := by decide +kernel
theorem dX0_findCores_30 : decode cX0_findCores 30 = .ok (.invokestatic 75, 3) := by decide +kernel
theorem dX0_findCores_33 : decode cX0_findCores 33 = .ok (.land, 1) := by decide +kernel
theorem dX0_findCores_34 : decode cX0_findCores 34 = .ok (.lastore, 1) := by decide +kernel
theorem dX0_findCores_35 : decode cX0_findCores 35 = .ok (.aload_n 0, 1) := by decide +kernel
theorem dX0_findCores_36 : decode cX0_findCores 36 = .ok (.getfield 15, 3) := by decide +kernel
theorem dX0_findCores_39 : decode cX0_findCores 39 = .ok (.iload_n 2, 1) := by decide +kernel
theorem dX0_findCores_40 : decode cX0_findCores 40 = .ok (.aload_n 0, 1) := by decide +kernel
theorem dX0_findCores_41 : decode cX0_findCores 41 = .ok (.getfield 9, 3) := by decide +kernel
theorem dX0_findCores_44 : decode cX0_findCores 44 = .ok (.iload_n 2, 1) := by decide +kernel
theorem dX0_findCores_45 : decode cX0_findCores 45 = .ok (.laload, 1) := by decide +kernel
theorem dX0_findCores_46 : decode cX0_findCores 46 = .ok (.lastore, 1) := by decide +kernel
theorem dX0_findCores_47 : decode cX0_findCores 47 = .ok (.iinc 2 1, 3) := by decide +kernel
theorem dX0_findCores_50 : decode cX0_findCores 50 = .ok (.goto (-48), 3) := by decide +kernel
theorem dX0_findCores_53 : decode cX0_findCores 53 = .ok (.iconst 0, 1) := by decide +kernel
theorem dX0_findCores_54 : decode cX0_findCores 54 = .ok (.istore_n 2, 1) := by decide +kernel
theorem dX0_findCores_55 : decode cX0_findCores 55 = .ok (.iload_n 2, 1) := by decide +kernel
theorem dX0_findCores_56 : decode cX0_findCores 56 = .ok (.bipush 12, 2) := by decide +kernel
theorem dX0_findCores_58 : decode cX0_findCores 58 = .ok (.if_icmp .ge 41, 3) := by decide +kernel
theorem dX0_findCores_61 : decode cX0_findCores 61 = .ok (.iconst 0, 1) := by decide +kernel
theorem dX0_findCores_62 : decode cX0_findCores 62 = .ok (.istore_n 3, 1) := by decide +kernel
theorem dX0_findCores_63 : decode cX0_findCores 63 = .ok (.iload_n 3, 1) := by decide +kernel
theorem dX0_findCores_64 : decode cX0_findCores 64 = .ok (.bipush 64, 2) := by decide +kernel
theorem dX0_findCores_66 : decode cX0_findCores 66 = .ok (.if_icmp .ge 27, 3) := by decide +kernel
theorem dX0_findCores_69 : decode cX0_findCores 69 = .ok (.aload_n 0, 1) := by decide +kernel
theorem dX0_findCores_70 : decode cX0_findCores 70 = .ok (.getfield 15, 3) := by decide +kernel
theorem dX0_findCores_73 : decode cX0_findCores 73 = .ok (.iload_n 3, 1) := by decide +kernel
theorem dX0_findCores_74 : decode cX0_findCores 74 = .ok (.dup2, 1) := by decide +kernel
theorem dX0_findCores_75 : decode cX0_findCores 75 = .ok (.laload, 1) := by decide +kernel
theorem dX0_findCores_76 : decode cX0_findCores 76 = .ok (.iload_n 2, 1) := by decide +kernel
theorem dX0_findCores_77 : decode cX0_findCores 77 = .ok (.aload_n 0, 1) := by decide +kernel
theorem dX0_findCores_78 : decode cX0_findCores 78 = .ok (.getfield 15, 3) := by decide +kernel
theorem dX0_findCores_81 : decode cX0_findCores 81 = .ok (.iload_n 3, 1) := by decide +kernel
theorem dX0_findCores_82 : decode cX0_findCores 82 = .ok (.invokestatic 78, 3) := by decide +kernel
theorem dX0_findCores_85 : decode cX0_findCores 85 = .ok (.lor, 1) := by decide +kernel
theorem dX0_findCores_86 : decode cX0_findCores 86 = .ok (.lastore, 1) := by decide +kernel
theorem dX0_findCores_87 : decode cX0_findCores 87 = .ok (.iinc 3 1, 3) := by decide +kernel
theorem dX0_findCores_90 : decode cX0_findCores 90 = .ok (.goto (-27), 3) := by decide +kernel
theorem dX0_findCores_93 : decode cX0_findCores 93 = .ok (.iinc 2 1, 3) := by decide +kernel
theorem dX0_findCores_96 : decode cX0_findCores 96 = .ok (.goto (-41), 3) := by decide +kernel
theorem dX0_findCores_99 : decode cX0_findCores 99 = .ok (.iconst 0, 1) := by decide +kernel
theorem dX0_findCores_100 : decode cX0_findCores 100 = .ok (.istore_n 2, 1) := by decide +kernel
theorem dX0_findCores_101 : decode cX0_findCores 101 = .ok (.iload_n 2, 1) := by decide +kernel
theorem dX0_findCores_102 : decode cX0_findCores 102 = .ok (.bipush 64, 2) := by decide +kernel
theorem dX0_findCores_104 : decode cX0_findCores 104 = .ok (.if_icmp .ge 45, 3) := by decide +kernel
theorem dX0_findCores_107 : decode cX0_findCores 107 = .ok (.iconst 0, 1) := by decide +kernel
theorem dX0_findCores_108 : decode cX0_findCores 108 = .ok (.istore_n 3, 1) := by decide +kernel
theorem dX0_findCores_109 : decode cX0_findCores 109 = .ok (.iload_n 3, 1) := by decide +kernel
theorem dX0_findCores_110 : decode cX0_findCores 110 = .ok (.bipush 12, 2) := by decide +kernel
theorem dX0_findCores_112 : decode cX0_findCores 112 = .ok (.if_icmp .ge 31, 3) := by decide +kernel
theorem dX0_findCores_115 : decode cX0_findCores 115 = .ok (.aload_n 0, 1) := by decide +kernel
theorem dX0_findCores_116 : decode cX0_findCores 116 = .ok (.getfield 9, 3) := by decide +kernel
theorem dX0_findCores_119 : decode cX0_findCores 119 = .ok (.iload_n 2, 1) := by decide +kernel
theorem dX0_findCores_120 : decode cX0_findCores 120 = .ok (.dup2, 1) := by decide +kernel
theorem dX0_findCores_121 : decode cX0_findCores 121 = .ok (.laload, 1) := by decide +kernel
theorem dX0_findCores_122 : decode cX0_findCores 122 = .ok (.iload_n 3, 1) := by decide +kernel
theorem dX0_findCores_123 : decode cX0_findCores 123 = .ok (.aload_n 0, 1) := by decide +kernel
theorem dX0_findCores_124 : decode cX0_findCores 124 = .ok (.getfield 15, 3) := by decide +kernel
theorem dX0_findCores_127 : decode cX0_findCores 127 = .ok (.iload_n 2, 1) := by decide +kernel
theorem dX0_findCores_128 : decode cX0_findCores 128 = .ok (.invokestatic 78, 3) := by decide +kernel
theorem dX0_findCores_131 : decode cX0_findCores 131 = .ok (.ldc2_w 26, 3) := by decide +kernel
theorem dX0_findCores_134 : decode cX0_findCores 134 = .ok (.lxor, 1) := by decide +kernel
theorem dX0_findCores_135 : decode cX0_findCores 135 = .ok (.land, 1) := by decide +kernel
theorem dX0_findCores_136 : decode cX0_findCores 136 = .ok (.lastore, 1) := by decide +kernel
theorem dX0_findCores_137 : decode cX0_findCores 137 = .ok (.iinc 3 1, 3) := by decide +kernel
theorem dX0_findCores_140 : decode cX0_findCores 140 = .ok (.goto (-31), 3) := by decide +kernel
theorem dX0_findCores_143 : decode cX0_findCores 143 = .ok (.iinc 2 1, 3) := by decide +kernel
theorem dX0_findCores_146 : decode cX0_findCores 146 = .ok (.goto (-45), 3) := by decide +kernel
theorem dX0_findCores_149 : decode cX0_findCores 149 = .ok (.return_, 1) := by decide +kernel
theorem dX0_countFound_0 : decode cX0_countFound 0 = .ok (.iconst 0, 1) := by decide +kernel
theorem dX0_countFound_1 : decode cX0_countFound 1 = .ok (.istore_n 1, 1) := by decide +kernel
theorem dX0_countFound_2 : decode cX0_countFound 2 = .ok (.iconst 0, 1) := by decide +kernel
theorem dX0_countFound_3 : decode cX0_countFound 3 = .ok (.istore_n 2, 1) := by decide +kernel
theorem dX0_countFound_4 : decode cX0_countFound 4 = .ok (.iload_n 2, 1) := by decide +kernel
theorem dX0_countFound_5 : decode cX0_countFound 5 = .ok (.bipush 64, 2) := by decide +kernel
theorem dX0_countFound_7 : decode cX0_countFound 7 = .ok (.if_icmp .ge 21, 3) := by decide +kernel
theorem dX0_countFound_10 : decode cX0_countFound 10 = .ok (.iload_n 1, 1) := by decide +kernel
theorem dX0_countFound_11 : decode cX0_countFound 11 = .ok (.aload_n 0, 1) := by decide +kernel
theorem dX0_countFound_12 : decode cX0_countFound 12 = .ok (.getfield 9, 3) := by decide +kernel
theorem dX0_countFound_15 : decode cX0_countFound 15 = .ok (.iload_n 2, 1) := by decide +kernel
theorem dX0_countFound_16 : decode cX0_countFound 16 = .ok (.laload, 1) := by decide +kernel
theorem dX0_countFound_17 : decode cX0_countFound 17 = .ok (.invokestatic 82, 3) := by decide +kernel
theorem dX0_countFound_20 : decode cX0_countFound 20 = .ok (.iadd, 1) := by decide +kernel
theorem dX0_countFound_21 : decode cX0_countFound 21 = .ok (.istore_n 1, 1) := by decide +kernel
theorem dX0_countFound_22 : decode cX0_countFound 22 = .ok (.iinc 2 1, 3) := by decide +kernel
theorem dX0_countFound_25 : decode cX0_countFound 25 = .ok (.goto (-21), 3) := by decide +kernel
theorem dX0_countFound_28 : decode cX0_countFound 28 = .ok (.iload_n 1, 1) := by decide +kernel
theorem dX0_countFound_29 : decode cX0_countFound 29 = .ok (.ireturn, 1) := by decide +kernel
theorem dX0_foundAt_0 : decode cX0_foundAt 0 = .ok (.iload_n 1, 1) := by decide +kernel
theorem dX0_foundAt_1 : decode cX0_foundAt 1 = .ok (.istore_n 2, 1) := by decide +kernel
theorem dX0_foundAt_2 : decode cX0_foundAt 2 = .ok (.iconst 0, 1) := by decide +kernel
theorem dX0_foundAt_3 : decode cX0_foundAt 3 = .ok (.istore_n 3, 1) := by decide +kernel
theorem dX0_foundAt_4 : decode cX0_foundAt 4 = .ok (.iload_n 3, 1) := by decide +kernel
theorem dX0_foundAt_5 : decode cX0_foundAt 5 = .ok (.bipush 64, 2) := by decide +kernel
theorem dX0_foundAt_7 : decode cX0_foundAt 7 = .ok (.if_icmp .ge 45, 3) := by decide +kernel
theorem dX0_foundAt_10 : decode cX0_foundAt 10 = .ok (.iload_n 2, 1) := by decide +kernel
theorem dX0_foundAt_11 : decode cX0_foundAt 11 = .ok (.ifCond .lt 41, 3) := by decide +kernel
theorem dX0_foundAt_14 : decode cX0_foundAt 14 = .ok (.aload_n 0, 1) := by decide +kernel
theorem dX0_foundAt_15 : decode cX0_foundAt 15 = .ok (.getfield 9, 3) := by decide +kernel
theorem dX0_foundAt_18 : decode cX0_foundAt 18 = .ok (.iload_n 3, 1) := by decide +kernel
theorem dX0_foundAt_19 : decode cX0_foundAt 19 = .ok (.laload, 1) := by decide +kernel
theorem dX0_foundAt_20 : decode cX0_foundAt 20 = .ok (.invokestatic 82, 3) := by decide +kernel
theorem dX0_foundAt_23 : decode cX0_foundAt 23 = .ok (.istore 4, 2) := by decide +kernel
theorem dX0_foundAt_25 : decode cX0_foundAt 25 = .ok (.iload_n 2, 1) := by decide +kernel
theorem dX0_foundAt_26 : decode cX0_foundAt 26 = .ok (.iload 4, 2) := by decide +kernel
theorem dX0_foundAt_28 : decode cX0_foundAt 28 = .ok (.if_icmp .ge 13, 3) := by decide +kernel
theorem dX0_foundAt_31 : decode cX0_foundAt 31 = .ok (.aload_n 0, 1) := by decide +kernel
theorem dX0_foundAt_32 : decode cX0_foundAt 32 = .ok (.iload_n 3, 1) := by decide +kernel
theorem dX0_foundAt_33 : decode cX0_foundAt 33 = .ok (.bipush 64, 2) := by decide +kernel
theorem dX0_foundAt_35 : decode cX0_foundAt 35 = .ok (.imul, 1) := by decide +kernel
theorem dX0_foundAt_36 : decode cX0_foundAt 36 = .ok (.iload_n 2, 1) := by decide +kernel
theorem dX0_foundAt_37 : decode cX0_foundAt 37 = .ok (.invokevirtual 87, 3) := by decide +kernel
theorem dX0_foundAt_40 : decode cX0_foundAt 40 = .ok (.ireturn, 1) := by decide +kernel
theorem dX0_foundAt_41 : decode cX0_foundAt 41 = .ok (.iload_n 2, 1) := by decide +kernel
theorem dX0_foundAt_42 : decode cX0_foundAt 42 = .ok (.iload 4, 2) := by decide +kernel
theorem dX0_foundAt_44 : decode cX0_foundAt 44 = .ok (.isub, 1) := by decide +kernel
theorem dX0_foundAt_45 : decode cX0_foundAt 45 = .ok (.istore_n 2, 1) := by decide +kernel
theorem dX0_foundAt_46 : decode cX0_foundAt 46 = .ok (.iinc 3 1, 3) := by decide +kernel
theorem dX0_foundAt_49 : decode cX0_foundAt 49 = .ok (.goto (-45), 3) := by decide +kernel
theorem dX0_foundAt_52 : decode cX0_foundAt 52 = .ok (.bipush (-6), 2) := by decide +kernel
theorem dX0_foundAt_54 : decode cX0_foundAt 54 = .ok (.ireturn, 1) := by decide +kernel
theorem dX0_foundFrom_0 : decode cX0_foundFrom 0 = .ok (.iload_n 2, 1) := by decide +kernel
theorem dX0_foundFrom_1 : decode cX0_foundFrom 1 = .ok (.istore_n 3, 1) := by decide +kernel
theorem dX0_foundFrom_2 : decode cX0_foundFrom 2 = .ok (.iload_n 1, 1) := by decide +kernel
theorem dX0_foundFrom_3 : decode cX0_foundFrom 3 = .ok (.istore 4, 2) := by decide +kernel
theorem dX0_foundFrom_5 : decode cX0_foundFrom 5 = .ok (.iload 4, 2) := by decide +kernel
theorem dX0_foundFrom_7 : decode cX0_foundFrom 7 = .ok (.iload_n 1, 1) := by decide +kernel
theorem dX0_foundFrom_8 : decode cX0_foundFrom 8 = .ok (.bipush 64, 2) := by decide +kernel
theorem dX0_foundFrom_10 : decode cX0_foundFrom 10 = .ok (.iadd, 1) := by decide +kernel
theorem dX0_foundFrom_11 : decode cX0_foundFrom 11 = .ok (.if_icmp .ge 39, 3) := by decide +kernel
theorem dX0_foundFrom_14 : decode cX0_foundFrom 14 = .ok (.iload 4, 2) := by decide +kernel
theorem dX0_foundFrom_16 : decode cX0_foundFrom 16 = .ok (.sipush 4096, 3) := by decide +kernel
theorem dX0_foundFrom_19 : decode cX0_foundFrom 19 = .ok (.if_icmp .ge 31, 3) := by decide +kernel
theorem dX0_foundFrom_22 : decode cX0_foundFrom 22 = .ok (.aload_n 0, 1) := by decide +kernel
theorem dX0_foundFrom_23 : decode cX0_foundFrom 23 = .ok (.getfield 9, 3) := by decide +kernel
theorem dX0_foundFrom_26 : decode cX0_foundFrom 26 = .ok (.iload 4, 2) := by decide +kernel
theorem dX0_foundFrom_28 : decode cX0_foundFrom 28 = .ok (.invokestatic 58, 3) := by decide +kernel
theorem dX0_foundFrom_31 : decode cX0_foundFrom 31 = .ok (.ifCond .eq 13, 3) := by decide +kernel
theorem dX0_foundFrom_34 : decode cX0_foundFrom 34 = .ok (.iload_n 3, 1) := by decide +kernel
theorem dX0_foundFrom_35 : decode cX0_foundFrom 35 = .ok (.ifCond .ne 6, 3) := by decide +kernel
theorem dX0_foundFrom_38 : decode cX0_foundFrom 38 = .ok (.iload 4, 2) := by decide +kernel
theorem dX0_foundFrom_40 : decode cX0_foundFrom 40 = .ok (.ireturn, 1) := by decide +kernel
theorem dX0_foundFrom_41 : decode cX0_foundFrom 41 = .ok (.iinc 3 (-1), 3) := by decide +kernel
theorem dX0_foundFrom_44 : decode cX0_foundFrom 44 = .ok (.iinc 4 1, 3) := by decide +kernel
theorem dX0_foundFrom_47 : decode cX0_foundFrom 47 = .ok (.goto (-42), 3) := by decide +kernel
theorem dX0_foundFrom_50 : decode cX0_foundFrom 50 = .ok (.bipush (-6), 2) := by decide +kernel
theorem dX0_foundFrom_52 : decode cX0_foundFrom 52 = .ok (.ireturn, 1) := by decide +kernel
theorem dX1_init_0 : decode cX1_init 0 = .ok (.aload_n 0, 1) := by decide +kernel
theorem dX1_init_1 : decode cX1_init 1 = .ok (.invokespecial 3, 3) := by decide +kernel
theorem dX1_init_4 : decode cX1_init 4 = .ok (.aload_n 0, 1) := by decide +kernel
theorem dX1_init_5 : decode cX1_init 5 = .ok (.bipush 12, 2) := by decide +kernel
theorem dX1_init_7 : decode cX1_init 7 = .ok (.newarray .int, 2) := by decide +kernel
theorem dX1_init_9 : decode cX1_init 9 = .ok (.putfield 9, 3) := by decide +kernel
theorem dX1_init_12 : decode cX1_init 12 = .ok (.aload_n 0, 1) := by decide +kernel
theorem dX1_init_13 : decode cX1_init 13 = .ok (.bipush 12, 2) := by decide +kernel
theorem dX1_init_15 : decode cX1_init 15 = .ok (.newarray .int, 2) := by decide +kernel
theorem dX1_init_17 : decode cX1_init 17 = .ok (.putfield 15, 3) := by decide +kernel
theorem dX1_init_20 : decode cX1_init 20 = .ok (.aload_n 0, 1) := by decide +kernel
theorem dX1_init_21 : decode cX1_init 21 = .ok (.bipush 12, 2) := by decide +kernel
theorem dX1_init_23 : decode cX1_init 23 = .ok (.newarray .int, 2) := by decide +kernel
theorem dX1_init_25 : decode cX1_init 25 = .ok (.putfield 18, 3) := by decide +kernel
theorem dX1_init_28 : decode cX1_init 28 = .ok (.aload_n 0, 1) := by decide +kernel
theorem dX1_init_29 : decode cX1_init 29 = .ok (.bipush 12, 2) := by decide +kernel
theorem dX1_init_31 : decode cX1_init 31 = .ok (.newarray .int, 2) := by decide +kernel
theorem dX1_init_33 : decode cX1_init 33 = .ok (.putfield 21, 3) := by decide +kernel
theorem dX1_init_36 : decode cX1_init 36 = .ok (.aload_n 0, 1) := by decide +kernel
theorem dX1_init_37 : decode cX1_init 37 = .ok (.bipush 12, 2) := by decide +kernel
theorem dX1_init_39 : decode cX1_init 39 = .ok (.newarray .int, 2) := by decide +kernel
theorem dX1_init_41 : decode cX1_init 41 = .ok (.putfield 24, 3) := by decide +kernel
theorem dX1_init_44 : decode cX1_init 44 = .ok (.aload_n 0, 1) := by decide +kernel
theorem dX1_init_45 : decode cX1_init 45 = .ok (.bipush 12, 2) := by decide +kernel
theorem dX1_init_47 : decode cX1_init 47 = .ok (.newarray .int, 2) := by decide +kernel
theorem dX1_init_49 : decode cX1_init 49 = .ok (.putfield 27, 3) := by decide +kernel
theorem dX1_init_52 : decode cX1_init 52 = .ok (.return_, 1) := by decide +kernel
theorem dX1_knows_0 : decode cX1_knows 0 = .ok (.iload_n 1, 1) := by decide +kernel
theorem dX1_knows_1 : decode cX1_knows 1 = .ok (.ifCond .lt 15, 3) := by decide +kernel
theorem dX1_knows_4 : decode cX1_knows 4 = .ok (.iload_n 1, 1) := by decide +kernel
theorem dX1_knows_5 : decode cX1_knows 5 = .ok (.aload_n 0, 1) := by decide +kernel
theorem dX1_knows_6 : decode cX1_knows 6 = .ok (.getfield 30, 3) := by decide +kernel
theorem dX1_knows_9 : decode cX1_knows 9 = .ok (.if_icmp .ge 7, 3) := by decide +kernel
theorem dX1_knows_12 : decode cX1_knows 12 = .ok (.iconst 1, 1) := by decide +kernel
theorem dX1_knows_13 : decode cX1_knows 13 = .ok (.goto 4, 3) := by decide +kernel
theorem dX1_knows_16 : decode cX1_knows 16 = .ok (.iconst 0, 1) := by decide +kernel
theorem dX1_knows_17 : decode cX1_knows 17 = .ok (.ireturn, 1) := by decide +kernel
theorem dX1_hears_0 : decode cX1_hears 0 = .ok (.aload_n 0, 1) := by decide +kernel
theorem dX1_hears_1 : decode cX1_hears 1 = .ok (.iload_n 1, 1) := by decide +kernel
theorem dX1_hears_2 : decode cX1_hears 2 = .ok (.invokevirtual 34, 3) := by decide +kernel
theorem dX1_hears_5 : decode cX1_hears 5 = .ok (.ifCond .eq 16, 3) := by decide +kernel
theorem dX1_hears_8 : decode cX1_hears 8 = .ok (.aload_n 0, 1) := by decide +kernel
theorem dX1_hears_9 : decode cX1_hears 9 = .ok (.getfield 27, 3) := by decide +kernel
theorem dX1_hears_12 : decode cX1_hears 12 = .ok (.iload_n 1, 1) := by decide +kernel
theorem dX1_hears_13 : decode cX1_hears 13 = .ok (.iaload, 1) := by decide +kernel
theorem dX1_hears_14 : decode cX1_hears 14 = .ok (.ifCond .ne 7, 3) := by decide +kernel
theorem dX1_hears_17 : decode cX1_hears 17 = .ok (.iconst 1, 1) := by decide +kernel
theorem dX1_hears_18 : decode cX1_hears 18 = .ok (.goto 4, 3) := by decide +kernel
theorem dX1_hears_21 : decode cX1_hears 21 = .ok (.iconst 0, 1) := by decide +kernel
theorem dX1_hears_22 : decode cX1_hears 22 = .ok (.ireturn, 1) := by decide +kernel
theorem dX1_mayStandOn_0 : decode cX1_mayStandOn 0 = .ok (.iload_n 2, 1) := by decide +kernel
theorem dX1_mayStandOn_1 : decode cX1_mayStandOn 1 = .ok (.iconst (-1), 1) := by decide +kernel
theorem dX1_mayStandOn_2 : decode cX1_mayStandOn 2 = .ok (.if_icmp .ne 22, 3) := by decide +kernel
theorem dX1_mayStandOn_5 : decode cX1_mayStandOn 5 = .ok (.iload_n 1, 1) := by decide +kernel
theorem dX1_mayStandOn_6 : decode cX1_mayStandOn 6 = .ok (.iconst (-1), 1) := by decide +kernel
theorem dX1_mayStandOn_7 : decode cX1_mayStandOn 7 = .ok (.if_icmp .eq 11, 3) := by decide +kernel
theorem dX1_mayStandOn_10 : decode cX1_mayStandOn 10 = .ok (.aload_n 0, 1) := by decide +kernel
theorem dX1_mayStandOn_11 : decode cX1_mayStandOn 11 = .ok (.iload_n 1, 1) := by decide +kernel
theorem dX1_mayStandOn_12 : decode cX1_mayStandOn 12 = .ok (.invokevirtual 34, 3) := by decide +kernel
theorem dX1_mayStandOn_15 : decode cX1_mayStandOn 15 = .ok (.ifCond .eq 7, 3) := by decide +kernel
theorem dX1_mayStandOn_18 : decode cX1_mayStandOn 18 = .ok (.iconst 1, 1) := by decide +kernel
theorem dX1_mayStandOn_19 : decode cX1_mayStandOn 19 = .ok (.goto 4, 3) := by decide +kernel
theorem dX1_mayStandOn_22 : decode cX1_mayStandOn 22 = .ok (.iconst 0, 1) := by decide +kernel
theorem dX1_mayStandOn_23 : decode cX1_mayStandOn 23 = .ok (.ireturn, 1) := by decide +kernel
theorem dX1_mayStandOn_24 : decode cX1_mayStandOn 24 = .ok (.aload_n 0, 1) := by decide +kernel
theorem dX1_mayStandOn_25 : decode cX1_mayStandOn 25 = .ok (.iload_n 1, 1) := by decide +kernel
theorem dX1_mayStandOn_26 : decode cX1_mayStandOn 26 = .ok (.invokevirtual 34, 3) := by decide +kernel
theorem dX1_mayStandOn_29 : decode cX1_mayStandOn 29 = .ok (.ifCond .eq 20, 3) := by decide +kernel
theorem dX1_mayStandOn_32 : decode cX1_mayStandOn 32 = .ok (.aload_n 0, 1) := by decide +kernel
theorem dX1_mayStandOn_33 : decode cX1_mayStandOn 33 = .ok (.iload_n 2, 1) := by decide +kernel
theorem dX1_mayStandOn_34 : decode cX1_mayStandOn 34 = .ok (.invokevirtual 34, 3) := by decide +kernel
theorem dX1_mayStandOn_37 : decode cX1_mayStandOn 37 = .ok (.ifCond .eq 12, 3) := by decide +kernel
theorem dX1_mayStandOn_40 : decode cX1_mayStandOn 40 = .ok (.iload_n 1, 1) := by decide +kernel
theorem dX1_mayStandOn_41 : decode cX1_mayStandOn 41 = .ok (.iload_n 2, 1) := by decide +kernel
theorem dX1_mayStandOn_42 : decode cX1_mayStandOn 42 = .ok (.if_icmp .eq 7, 3) := by decide +kernel
theorem dX1_mayStandOn_45 : decode cX1_mayStandOn 45 = .ok (.iconst 1, 1) := by decide +kernel
theorem dX1_mayStandOn_46 : decode cX1_mayStandOn 46 = .ok (.goto 4, 3) := by decide +kernel
theorem dX1_mayStandOn_49 : decode cX1_mayStandOn 49 = .ok (.iconst 0, 1) := by decide +kernel
theorem dX1_mayStandOn_50 : decode cX1_mayStandOn 50 = .ok (.ireturn, 1) := by decide +kernel
theorem dX1_add_0 : decode cX1_add 0 = .ok (.aload_n 0, 1) := by decide +kernel
theorem dX1_add_1 : decode cX1_add 1 = .ok (.getfield 30, 3) := by decide +kernel
theorem dX1_add_4 : decode cX1_add 4 = .ok (.istore 4, 2) := by decide +kernel
theorem dX1_add_6 : decode cX1_add 6 = .ok (.aload_n 0, 1) := by decide +kernel
theorem dX1_add_7 : decode cX1_add 7 = .ok (.iload_n 1, 1) := by decide +kernel
theorem dX1_add_8 : decode cX1_add 8 = .ok (.invokevirtual 34, 3) := by decide +kernel
theorem dX1_add_11 : decode cX1_add 11 = .ok (.ifCond .eq 12, 3) := by decide +kernel
theorem dX1_add_14 : decode cX1_add 14 = .ok (.aload_n 0, 1) := by decide +kernel
theorem dX1_add_15 : decode cX1_add 15 = .ok (.getfield 9, 3) := by decide +kernel
theorem dX1_add_18 : decode cX1_add 18 = .ok (.iload_n 1, 1) := by decide +kernel
theorem dX1_add_19 : decode cX1_add 19 = .ok (.iaload, 1) := by decide +kernel
theorem dX1_add_20 : decode cX1_add 20 = .ok (.goto 4, 3) := by decide +kernel
theorem dX1_add_23 : decode cX1_add 23 = .ok (.iconst 0, 1) := by decide +kernel
theorem dX1_add_24 : decode cX1_add 24 = .ok (.aload_n 0, 1) := by decide +kernel
theorem dX1_add_25 : decode cX1_add 25 = .ok (.iload_n 2, 1) := by decide +kernel
theorem dX1_add_26 : decode cX1_add 26 = .ok (.invokevirtual 34, 3) := by decide +kernel
theorem dX1_add_29 : decode cX1_add 29 = .ok (.ifCond .eq 12, 3) := by decide +kernel
theorem dX1_add_32 : decode cX1_add 32 = .ok (.aload_n 0, 1) := by decide +kernel
theorem dX1_add_33 : decode cX1_add 33 = .ok (.getfield 9, 3) := by decide +kernel
theorem dX1_add_36 : decode cX1_add 36 = .ok (.iload_n 2, 1) := by decide +kernel
theorem dX1_add_37 : decode cX1_add 37 = .ok (.iaload, 1) := by decide +kernel
theorem dX1_add_38 : decode cX1_add 38 = .ok (.goto 4, 3) := by decide +kernel
theorem dX1_add_41 : decode cX1_add 41 = .ok (.iconst 0, 1) := by decide +kernel
theorem dX1_add_42 : decode cX1_add 42 = .ok (.ior, 1) := by decide +kernel
theorem dX1_add_43 : decode cX1_add 43 = .ok (.istore 5, 2) := by decide +kernel
theorem dX1_add_45 : decode cX1_add 45 = .ok (.aload_n 0, 1) := by decide +kernel
theorem dX1_add_46 : decode cX1_add 46 = .ok (.getfield 9, 3) := by decide +kernel
theorem dX1_add_49 : decode cX1_add 49 = .ok (.iload 4, 2) := by decide +kernel
theorem dX1_add_51 : decode cX1_add 51 = .ok (.iload 5, 2) := by decide +kernel
theorem dX1_add_53 : decode cX1_add 53 = .ok (.iconst 1, 1) := by decide +kernel
theorem dX1_add_54 : decode cX1_add 54 = .ok (.iload 4, 2) := by decide +kernel
theorem dX1_add_56 : decode cX1_add 56 = .ok (.ishl, 1) := by decide +kernel
theorem dX1_add_57 : decode cX1_add 57 = .ok (.ior, 1) := by decide +kernel
theorem dX1_add_58 : decode cX1_add 58 = .ok (.iastore, 1) := by decide +kernel
theorem dX1_add_59 : decode cX1_add 59 = .ok (.iconst 0, 1) := by decide +kernel
theorem dX1_add_60 : decode cX1_add 60 = .ok (.istore 6, 2) := by decide +kernel
theorem dX1_add_62 : decode cX1_add 62 = .ok (.iload 6, 2) := by decide +kernel
theorem dX1_add_64 : decode cX1_add 64 = .ok (.iload 4, 2) := by decide +kernel
theorem dX1_add_66 : decode cX1_add 66 = .ok (.if_icmp .gt 38, 3) := by decide +kernel
theorem dX1_add_69 : decode cX1_add 69 = .ok (.aload_n 0, 1) := by decide +kernel
theorem dX1_add_70 : decode cX1_add 70 = .ok (.getfield 9, 3) := by decide +kernel
theorem dX1_add_73 : decode cX1_add 73 = .ok (.iload 4, 2) := by decide +kernel
theorem dX1_add_75 : decode cX1_add 75 = .ok (.iaload, 1) := by decide +kernel
theorem dX1_add_76 : decode cX1_add 76 = .ok (.iload 6, 2) := by decide +kernel
theorem dX1_add_78 : decode cX1_add 78 = .ok (.invokestatic 38, 3) := by decide +kernel
theorem dX1_add_81 : decode cX1_add 81 = .ok (.ifCond .eq 17, 3) := by decide +kernel
theorem dX1_add_84 : decode cX1_add 84 = .ok (.aload_n 0, 1) := by decide +kernel
theorem dX1_add_85 : decode cX1_add 85 = .ok (.getfield 15, 3) := by decide +kernel
theorem dX1_add_88 : decode cX1_add 88 = .ok (.iload 6, 2) := by decide +kernel
theorem dX1_add_90 : decode cX1_add 90 = .ok (.dup2, 1) := by decide +kernel
theorem dX1_add_91 : decode cX1_add 91 = .ok (.iaload, 1) := by decide +kernel
theorem dX1_add_92 : decode cX1_add 92 = .ok (.iconst 1, 1) := by decide +kernel
theorem dX1_add_93 : decode cX1_add 93 = .ok (.iload 4, 2) := by decide +kernel
theorem dX1_add_95 : decode cX1_add 95 = .ok (.ishl, 1) := by decide +kernel
theorem dX1_add_96 : decode cX1_add 96 = .ok (.ior, 1) := by decide +kernel
theorem dX1_add_97 : decode cX1_add 97 = .ok (.iastore, 1) := by decide +kernel
theorem dX1_add_98 : decode cX1_add 98 = .ok (.iinc 6 1, 3) := by decide +kernel
theorem dX1_add_101 : decode cX1_add 101 = .ok (.goto (-39), 3) := by decide +kernel
theorem dX1_add_104 : decode cX1_add 104 = .ok (.aload_n 0, 1) := by decide +kernel
theorem dX1_add_105 : decode cX1_add 105 = .ok (.getfield 18, 3) := by decide +kernel
theorem dX1_add_108 : decode cX1_add 108 = .ok (.iload 4, 2) := by decide +kernel
theorem dX1_add_110 : decode cX1_add 110 = .ok (.iload_n 3, 1) := by decide +kernel
theorem dX1_add_111 : decode cX1_add 111 = .ok (.iastore, 1) := by decide +kernel
theorem dX1_add_112 : decode cX1_add 112 = .ok (.aload_n 0, 1) := by decide +kernel
theorem dX1_add_113 : decode cX1_add 113 = .ok (.getfield 21, 3) := by decide +kernel
theorem dX1_add_116 : decode cX1_add 116 = .ok (.iload 4, 2) := by decide +kernel
theorem dX1_add_118 : decode cX1_add 118 = .ok (.iconst 1, 1) := by decide +kernel
theorem dX1_add_119 : decode cX1_add 119 = .ok (.iastore, 1) := by decide +kernel
theorem dX1_add_120 : decode cX1_add 120 = .ok (.aload_n 0, 1) := by decide +kernel
theorem dX1_add_121 : decode cX1_add 121 = .ok (.iload 4, 2) := by decide +kernel
theorem dX1_add_123 : decode cX1_add 123 = .ok (.iconst 1, 1) := by decide +kernel
theorem dX1_add_124 : decode cX1_add 124 = .ok (.iadd, 1) := by decide +kernel
theorem dX1_add_125 : decode cX1_add 125 = .ok (.putfield 30, 3) := by decide +kernel
theorem dX1_add_128 : decode cX1_add 128 = .ok (.iload 4, 2) := by decide +kernel
theorem dX1_add_130 : decode cX1_add 130 = .ok (.ireturn, 1) := by decide +kernel
theorem dX1_mayBe_0 : decode cX1_mayBe 0 = .ok (.iload_n 2, 1) := by decide +kernel
theorem dX1_mayBe_1 : decode cX1_mayBe 1 = .ok (.tableswitch 57 0 3 #[31, 31, 39, 50], 31) := by decide +kernel
theorem dX1_mayBe_32 : decode cX1_mayBe 32 = .ok (.iload_n 3, 1) := by decide +kernel
theorem dX1_mayBe_33 : decode cX1_mayBe 33 = .ok (.iconst 1, 1) := by decide +kernel
theorem dX1_mayBe_34 : decode cX1_mayBe 34 = .ok (.bipush 9, 2) := by decide +kernel
theorem dX1_mayBe_36 : decode cX1_mayBe 36 = .ok (.invokestatic 42, 3) := by decide +kernel
theorem dX1_mayBe_39 : decode cX1_mayBe 39 = .ok (.ireturn, 1) := by decide +kernel
theorem dX1_mayBe_40 : decode cX1_mayBe 40 = .ok (.iload_n 3, 1) := by decide +kernel
theorem dX1_mayBe_41 : decode cX1_mayBe 41 = .ok (.iconst 0, 1) := by decide +kernel
theorem dX1_mayBe_42 : decode cX1_mayBe 42 = .ok (.iconst 1, 1) := by decide +kernel
theorem dX1_mayBe_43 : decode cX1_mayBe 43 = .ok (.iload_n 1, 1) := by decide +kernel
theorem dX1_mayBe_44 : decode cX1_mayBe 44 = .ok (.ishl, 1) := by decide +kernel
theorem dX1_mayBe_45 : decode cX1_mayBe 45 = .ok (.iconst 1, 1) := by decide +kernel
theorem dX1_mayBe_46 : decode cX1_mayBe 46 = .ok (.isub, 1) := by decide +kernel
theorem dX1_mayBe_47 : decode cX1_mayBe 47 = .ok (.invokestatic 42, 3) := by decide +kernel
theorem dX1_mayBe_50 : decode cX1_mayBe 50 = .ok (.ireturn, 1) := by decide +kernel
theorem dX1_mayBe_51 : decode cX1_mayBe 51 = .ok (.iload_n 3, 1) := by decide +kernel
theorem dX1_mayBe_52 : decode cX1_mayBe 52 = .ok (.iconst 0, 1) := by decide +kernel
theorem dX1_mayBe_53 : decode cX1_mayBe 53 = .ok (.iconst 1, 1) := by decide +kernel
theorem dX1_mayBe_54 : decode cX1_mayBe 54 = .ok (.invokestatic 42, 3) := by decide +kernel
theorem dX1_mayBe_57 : decode cX1_mayBe 57 = .ok (.ireturn, 1) := by decide +kernel
theorem dX1_mayBe_58 : decode cX1_mayBe 58 = .ok (.iconst 0, 1) := by decide +kernel
theorem dX1_mayBe_59 : decode cX1_mayBe 59 = .ok (.ireturn, 1) := by decide +kernel
theorem dX1_row_0 : decode cX1_row 0 = .ok (.iload_n 1, 1) := by decide +kernel
theorem dX1_row_1 : decode cX1_row 1 = .ok (.tableswitch 42 0 2 #[27, 32, 37], 27) := by decide +kernel
theorem dX1_row_28 : decode cX1_row 28 = .ok (.aload_n 0, 1) := by decide +kernel
theorem dX1_row_29 : decode cX1_row 29 = .ok (.getfield 18, 3) := by decide +kernel
theorem dX1_row_32 : decode cX1_row 32 = .ok (.areturn, 1) := by decide +kernel
theorem dX1_row_33 : decode cX1_row 33 = .ok (.aload_n 0, 1) := by decide +kernel
theorem dX1_row_34 : decode cX1_row 34 = .ok (.getfield 21, 3) := by decide +kernel
theorem dX1_row_37 : decode cX1_row 37 = .ok (.areturn, 1) := by decide +kernel
theorem dX1_row_38 : decode cX1_row 38 = .ok (.aload_n 0, 1) := by decide +kernel
theorem dX1_row_39 : decode cX1_row 39 = .ok (.getfield 24, 3) := by decide +kernel
theorem dX1_row_42 : decode cX1_row 42 = .ok (.areturn, 1) := by decide +kernel
theorem dX1_row_43 : decode cX1_row 43 = .ok (.aload_n 0, 1) := by decide +kernel
theorem dX1_row_44 : decode cX1_row 44 = .ok (.getfield 27, 3) := by decide +kernel
theorem dX1_row_47 : decode cX1_row 47 = .ok (.areturn, 1) := by decide +kernel
theorem dX1_everyVersion_0 : decode cX1_everyVersion 0 = .ok (.iconst 1, 1) := by decide +kernel
theorem dX1_everyVersion_1 : decode cX1_everyVersion 1 = .ok (.aload_n 0, 1) := by decide +kernel
theorem dX1_everyVersion_2 : decode cX1_everyVersion 2 = .ok (.getfield 30, 3) := by decide +kernel
theorem dX1_everyVersion_5 : decode cX1_everyVersion 5 = .ok (.ishl, 1) := by decide +kernel
theorem dX1_everyVersion_6 : decode cX1_everyVersion 6 = .ok (.iconst 1, 1) := by decide +kernel
theorem dX1_everyVersion_7 : decode cX1_everyVersion 7 = .ok (.isub, 1) := by decide +kernel
theorem dX1_everyVersion_8 : decode cX1_everyVersion 8 = .ok (.ireturn, 1) := by decide +kernel
theorem dX1_hearing_0 : decode cX1_hearing 0 = .ok (.iconst 0, 1) := by decide +kernel
theorem dX1_hearing_1 : decode cX1_hearing 1 = .ok (.istore_n 1, 1) := by decide +kernel
theorem dX1_hearing_2 : decode cX1_hearing 2 = .ok (.iconst 0, 1) := by decide +kernel
theorem dX1_hearing_3 : decode cX1_hearing 3 = .ok (.istore_n 2, 1) := by decide +kernel
theorem dX1_hearing_4 : decode cX1_hearing 4 = .ok (.iload_n 2, 1) := by decide +kernel
theorem dX1_hearing_5 : decode cX1_hearing 5 = .ok (.aload_n 0, 1) := by decide +kernel
theorem dX1_hearing_6 : decode cX1_hearing 6 = .ok (.getfield 30, 3) := by decide +kernel
theorem dX1_hearing_9 : decode cX1_hearing 9 = .ok (.if_icmp .ge 24, 3) := by decide +kernel
theorem dX1_hearing_12 : decode cX1_hearing 12 = .ok (.aload_n 0, 1) := by decide +kernel
theorem dX1_hearing_13 : decode cX1_hearing 13 = .ok (.getfield 27, 3) := by decide +kernel
theorem dX1_hearing_16 : decode cX1_hearing 16 = .ok (.iload_n 2, 1) := by decide +kernel
theorem dX1_hearing_17 : decode cX1_hearing 17 = .ok (.iaload, 1) := by decide +kernel
theorem dX1_hearing_18 : decode cX1_hearing 18 = .ok (.ifCond .ne 9, 3) := by decide +kernel
theorem dX1_hearing_21 : decode cX1_hearing 21 = .ok (.iload_n 1, 1) := by decide +kernel
theorem dX1_hearing_22 : decode cX1_hearing 22 = .ok (.iconst 1, 1) := by decide +kernel
theorem dX1_hearing_23 : decode cX1_hearing 23 = .ok (.iload_n 2, 1) := by decide +kernel
theorem dX1_hearing_24 : decode cX1_hearing 24 = .ok (.ishl, 1) := by decide +kernel
theorem dX1_hearing_25 : decode cX1_hearing 25 = .ok (.ior, 1) := by decide +kernel
theorem dX1_hearing_26 : decode cX1_hearing 26 = .ok (.istore_n 1, 1) := by decide +kernel
theorem dX1_hearing_27 : decode cX1_hearing 27 = .ok (.iinc 2 1, 3) := by decide +kernel
theorem dX1_hearing_30 : decode cX1_hearing 30 = .ok (.goto (-26), 3) := by decide +kernel
theorem dX1_hearing_33 : decode cX1_hearing 33 = .ok (.iload_n 1, 1) := by decide +kernel
theorem dX1_hearing_34 : decode cX1_hearing 34 = .ok (.ireturn, 1) := by decide +kernel
theorem dX1_twinsOf_0 : decode cX1_twinsOf 0 = .ok (.aload_n 0, 1) := by decide +kernel
theorem dX1_twinsOf_1 : decode cX1_twinsOf 1 = .ok (.invokevirtual 46, 3) := by decide +kernel
theorem dX1_twinsOf_4 : decode cX1_twinsOf 4 = .ok (.istore_n 2, 1) := by decide +kernel
theorem dX1_twinsOf_5 : decode cX1_twinsOf 5 = .ok (.iconst 0, 1) := by decide +kernel
theorem dX1_twinsOf_6 : decode cX1_twinsOf 6 = .ok (.istore_n 3, 1) := by decide +kernel
theorem dX1_twinsOf_7 : decode cX1_twinsOf 7 = .ok (.iconst 0, 1) := by decide +kernel
theorem dX1_twinsOf_8 : decode cX1_twinsOf 8 = .ok (.istore 4, 2) := by decide +kernel
theorem dX1_twinsOf_10 : decode cX1_twinsOf 10 = .ok (.iload 4, 2) := by decide +kernel
theorem dX1_twinsOf_12 : decode cX1_twinsOf 12 = .ok (.aload_n 0, 1) := by decide +kernel
theorem dX1_twinsOf_13 : decode cX1_twinsOf 13 = .ok (.getfield 30, 3) := by decide +kernel
theorem dX1_twinsOf_16 : decode cX1_twinsOf 16 = .ok (.if_icmp .ge 35, 3) := by decide +kernel
theorem dX1_twinsOf_19 : decode cX1_twinsOf 19 = .ok (.aload_n 0, 1) := by decide +kernel
theorem dX1_twinsOf_20 : decode cX1_twinsOf 20 = .ok (.getfield 15, 3) := by decide +kernel
theorem dX1_twinsOf_23 : decode cX1_twinsOf 23 = .ok (.iload 4, 2) := by decide +kernel
theorem dX1_twinsOf_25 : decode cX1_twinsOf 25 = .ok (.iaload, 1) := by decide +kernel
theorem dX1_twinsOf_26 : decode cX1_twinsOf 26 = .ok (.aload_n 0, 1) := by decide +kernel
theorem dX1_twinsOf_27 : decode cX1_twinsOf 27 = .ok (.getfield 15, 3) := by decide +kernel
theorem dX1_twinsOf_30 : decode cX1_twinsOf 30 = .ok (.iload_n 1, 1) := by decide +kernel
theorem dX1_twinsOf_31 : decode cX1_twinsOf 31 = .ok (.iaload, 1) := by decide +kernel
theorem dX1_twinsOf_32 : decode cX1_twinsOf 32 = .ok (.ixor, 1) := by decide +kernel
theorem dX1_twinsOf_33 : decode cX1_twinsOf 33 = .ok (.iload_n 2, 1) := by decide +kernel
theorem dX1_twinsOf_34 : decode cX1_twinsOf 34 = .ok (.iand, 1) := by decide +kernel
theorem dX1_twinsOf_35 : decode cX1_twinsOf 35 = .ok (.ifCond .ne 10, 3) := by decide +kernel
theorem dX1_twinsOf_38 : decode cX1_twinsOf 38 = .ok (.iload_n 3, 1) := by decide +kernel
theorem dX1_twinsOf_39 : decode cX1_twinsOf 39 = .ok (.iconst 1, 1) := by decide +kernel
theorem dX1_twinsOf_40 : decode cX1_twinsOf 40 = .ok (.iload 4, 2) := by decide +kernel
theorem dX1_twinsOf_42 : decode cX1_twinsOf 42 = .ok (.ishl, 1) := by decide +kernel
theorem dX1_twinsOf_43 : decode cX1_twinsOf 43 = .ok (.ior, 1) := by decide +kernel
theorem dX1_twinsOf_44 : decode cX1_twinsOf 44 = .ok (.istore_n 3, 1) := by decide +kernel
theorem dX1_twinsOf_45 : decode cX1_twinsOf 45 = .ok (.iinc 4 1, 3) := by decide +kernel
theorem dX1_twinsOf_48 : decode cX1_twinsOf 48 = .ok (.goto (-38), 3) := by decide +kernel
theorem dX1_twinsOf_51 : decode cX1_twinsOf 51 = .ok (.iload_n 3, 1) := by decide +kernel
theorem dX1_twinsOf_52 : decode cX1_twinsOf 52 = .ok (.ireturn, 1) := by decide +kernel
theorem dX1_sizes_0 : decode cX1_sizes 0 = .ok (.iconst 0, 1) := by decide +kernel
theorem dX1_sizes_1 : decode cX1_sizes 1 = .ok (.istore_n 2, 1) := by decide +kernel
theorem dX1_sizes_2 : decode cX1_sizes 2 = .ok (.iconst 0, 1) := by decide +kernel
theorem dX1_sizes_3 : decode cX1_sizes 3 = .ok (.istore_n 3, 1) := by decide +kernel
theorem dX1_sizes_4 : decode cX1_sizes 4 = .ok (.iload_n 3, 1) := by decide +kernel
theorem dX1_sizes_5 : decode cX1_sizes 5 = .ok (.aload_n 0, 1) := by decide +kernel
theorem dX1_sizes_6 : decode cX1_sizes 6 = .ok (.getfield 30, 3) := by decide +kernel
theorem dX1_sizes_9 : decode cX1_sizes 9 = .ok (.if_icmp .ge 26, 3) := by decide +kernel
theorem dX1_sizes_12 : decode cX1_sizes 12 = .ok (.iload_n 1, 1) := by decide +kernel
theorem dX1_sizes_13 : decode cX1_sizes 13 = .ok (.iload_n 3, 1) := by decide +kernel
theorem dX1_sizes_14 : decode cX1_sizes 14 = .ok (.invokestatic 38, 3) := by decide +kernel
theorem dX1_sizes_17 : decode cX1_sizes 17 = .ok (.ifCond .eq 12, 3) := by decide +kernel
theorem dX1_sizes_20 : decode cX1_sizes 20 = .ok (.iload_n 2, 1) := by decide +kernel
theorem dX1_sizes_21 : decode cX1_sizes 21 = .ok (.aload_n 0, 1) := by decide +kernel
theorem dX1_sizes_22 : decode cX1_sizes 22 = .ok (.getfield 18, 3) := by decide +kernel
theorem dX1_sizes_25 : decode cX1_sizes 25 = .ok (.iload_n 3, 1) := by decide +kernel
theorem dX1_sizes_26 : decode cX1_sizes 26 = .ok (.iaload, 1) := by decide +kernel
theorem dX1_sizes_27 : decode cX1_sizes 27 = .ok (.iadd, 1) := by decide +kernel
theorem dX1_sizes_28 : decode cX1_sizes 28 = .ok (.istore_n 2, 1) := by decide +kernel
theorem dX1_sizes_29 : decode cX1_sizes 29 = .ok (.iinc 3 1, 3) := by decide +kernel
theorem dX1_sizes_32 : decode cX1_sizes 32 = .ok (.goto (-28), 3) := by decide +kernel
theorem dX1_sizes_35 : decode cX1_sizes 35 = .ok (.iload_n 2, 1) := by decide +kernel
theorem dX1_sizes_36 : decode cX1_sizes 36 = .ok (.ireturn, 1) := by decide +kernel
theorem dX2_init_0 : decode cX2_init 0 = .ok (.aload_n 0, 1) := by decide +kernel
theorem dX2_init_1 : decode cX2_init 1 = .ok (.invokespecial 3, 3) := by decide +kernel
theorem dX2_init_4 : decode cX2_init 4 = .ok (.aload_n 0, 1) := by decide +kernel
theorem dX2_init_5 : decode cX2_init 5 = .ok (.bipush 12, 2) := by decide +kernel
theorem dX2_init_7 : decode cX2_init 7 = .ok (.newarray .int, 2) := by decide +kernel
theorem dX2_init_9 : decode cX2_init 9 = .ok (.putfield 9, 3) := by decide +kernel
theorem dX2_init_12 : decode cX2_init 12 = .ok (.aload_n 0, 1) := by decide +kernel
theorem dX2_init_13 : decode cX2_init 13 = .ok (.bipush 12, 2) := by decide +kernel
theorem dX2_init_15 : decode cX2_init 15 = .ok (.newarray .boolean, 2) := by decide +kernel
theorem dX2_init_17 : decode cX2_init 17 = .ok (.putfield 15, 3) := by decide +kernel
theorem dX2_init_20 : decode cX2_init 20 = .ok (.return_, 1) := by decide +kernel
theorem dX2_add_0 : decode cX2_add 0 = .ok (.aload_n 0, 1) := by decide +kernel
theorem dX2_add_1 : decode cX2_add 1 = .ok (.getfield 19, 3) := by decide +kernel
theorem dX2_add_4 : decode cX2_add 4 = .ok (.istore_n 3, 1) := by decide +kernel
theorem dX2_add_5 : decode cX2_add 5 = .ok (.iload_n 3, 1) := by decide +kernel
theorem dX2_add_6 : decode cX2_add 6 = .ok (.bipush 12, 2) := by decide +kernel
theorem dX2_add_8 : decode cX2_add 8 = .ok (.if_icmp .lt 6, 3) := by decide +kernel
theorem dX2_add_11 : decode cX2_add 11 = .ok (.bipush (-4), 2) := by decide +kernel
theorem dX2_add_13 : decode cX2_add 13 = .ok (.ireturn, 1) := by decide +kernel
theorem dX2_add_14 : decode cX2_add 14 = .ok (.aload_n 0, 1) := by decide +kernel
theorem dX2_add_15 : decode cX2_add 15 = .ok (.getfield 9, 3) := by decide +kernel
theorem dX2_add_18 : decode cX2_add 18 = .ok (.iload_n 3, 1) := by decide +kernel
theorem dX2_add_19 : decode cX2_add 19 = .ok (.iload_n 1, 1) := by decide +kernel
theorem dX2_add_20 : decode cX2_add 20 = .ok (.iastore, 1) := by decide +kernel
theorem dX2_add_21 : decode cX2_add 21 = .ok (.aload_n 0, 1) := by decide +kernel
theorem dX2_add_22 : decode cX2_add 22 = .ok (.getfield 15, 3) := by decide +kernel
theorem dX2_add_25 : decode cX2_add 25 = .ok (.iload_n 3, 1) := by decide +kernel
theorem dX2_add_26 : decode cX2_add 26 = .ok (.iload_n 2, 1) := by decide +kernel
theorem dX2_add_27 : decode cX2_add 27 = .ok (.bastore, 1) := by decide +kernel
theorem dX2_add_28 : decode cX2_add 28 = .ok (.aload_n 0, 1) := by decide +kernel
theorem dX2_add_29 : decode cX2_add 29 = .ok (.iload_n 3, 1) := by decide +kernel
theorem dX2_add_30 : decode cX2_add 30 = .ok (.iconst 1, 1) := by decide +kernel
theorem dX2_add_31 : decode cX2_add 31 = .ok (.iadd, 1) := by decide +kernel
theorem dX2_add_32 : decode cX2_add 32 = .ok (.putfield 19, 3) := by decide +kernel
theorem dX2_add_35 : decode cX2_add 35 = .ok (.iload_n 3, 1) := by decide +kernel
theorem dX2_add_36 : decode cX2_add 36 = .ok (.ireturn, 1) := by decide +kernel
theorem dX2_holdsTestOf_0 : decode cX2_holdsTestOf 0 = .ok (.iconst 0, 1) := by decide +kernel
theorem dX2_holdsTestOf_1 : decode cX2_holdsTestOf 1 = .ok (.istore_n 2, 1) := by decide +kernel
theorem dX2_holdsTestOf_2 : decode cX2_holdsTestOf 2 = .ok (.iload_n 2, 1) := by decide +kernel
theorem dX2_holdsTestOf_3 : decode cX2_holdsTestOf 3 = .ok (.aload_n 0, 1) := by decide +kernel
theorem dX2_holdsTestOf_4 : decode cX2_holdsTestOf 4 = .ok (.getfield 19, 3) := by decide +kernel
theorem dX2_holdsTestOf_7 : decode cX2_holdsTestOf 7 = .ok (.if_icmp .ge 21, 3) := by decide +kernel
theorem dX2_holdsTestOf_10 : decode cX2_holdsTestOf 10 = .ok (.aload_n 0, 1) := by decide +kernel
theorem dX2_holdsTestOf_11 : decode cX2_holdsTestOf 11 = .ok (.getfield 9, 3) := by decide +kernel
theorem dX2_holdsTestOf_14 : decode cX2_holdsTestOf 14 = .ok (.iload_n 2, 1) := by decide +kernel
theorem dX2_holdsTestOf_15 : decode cX2_holdsTestOf 15 = .ok (.iaload, 1) := by decide +kernel
theorem dX2_holdsTestOf_16 : decode cX2_holdsTestOf 16 = .ok (.iload_n 1, 1) := by decide +kernel
theorem dX2_holdsTestOf_17 : decode cX2_holdsTestOf 17 = .ok (.if_icmp .ne 5, 3) := by decide +kernel
theorem dX2_holdsTestOf_20 : decode cX2_holdsTestOf 20 = .ok (.iconst 1, 1) := by decide +kernel
theorem dX2_holdsTestOf_21 : decode cX2_holdsTestOf 21 = .ok (.ireturn, 1) := by decide +kernel
theorem dX2_holdsTestOf_22 : decode cX2_holdsTestOf 22 = .ok (.iinc 2 1, 3) := by decide +kernel
theorem dX2_holdsTestOf_25 : decode cX2_holdsTestOf 25 = .ok (.goto (-23), 3) := by decide +kernel
theorem dX2_holdsTestOf_28 : decode cX2_holdsTestOf 28 = .ok (.iconst 0, 1) := by decide +kernel
theorem dX2_holdsTestOf_29 : decode cX2_holdsTestOf 29 = .ok (.ireturn, 1) := by decide +kernel
theorem dX3_init_0 : decode cX3_init 0 = .ok (.aload_n 0, 1) := by decide +kernel
theorem dX3_init_1 : decode cX3_init 1 = .ok (.invokespecial 3, 3) := by decide +kernel
theorem dX3_init_4 : decode cX3_init 4 = .ok (.aload_n 0, 1) := by decide +kernel
theorem dX3_init_5 : decode cX3_init 5 = .ok (.sipush 4096, 3) := by decide +kernel
theorem dX3_init_8 : decode cX3_init 8 = .ok (.newarray .int, 2) := by decide +kernel
theorem dX3_init_10 : decode cX3_init 10 = .ok (.putfield 9, 3) := by decide +kernel
theorem dX3_init_13 : decode cX3_init 13 = .ok (.aload_n 0, 1) := by decide +kernel
theorem dX3_init_14 : decode cX3_init 14 = .ok (.aload_n 1, 1) := by decide +kernel
theorem dX3_init_15 : decode cX3_init 15 = .ok (.putfield 15, 3) := by decide +kernel
theorem dX3_init_18 : decode cX3_init 18 = .ok (.aload_n 0, 1) := by decide +kernel
theorem dX3_init_19 : decode cX3_init 19 = .ok (.iload_n 2, 1) := by decide +kernel
theorem dX3_init_20 : decode cX3_init 20 = .ok (.putfield 19, 3) := by decide +kernel
theorem dX3_init_23 : decode cX3_init 23 = .ok (.return_, 1) := by decide +kernel
theorem dX3_price_0 : decode cX3_price 0 = .ok (.aload_n 0, 1) := by decide +kernel
theorem dX3_price_1 : decode cX3_price 1 = .ok (.invokevirtual 23, 3) := by decide +kernel
theorem dX3_price_4 : decode cX3_price 4 = .ok (.aload_n 0, 1) := by decide +kernel
theorem dX3_price_5 : decode cX3_price 5 = .ok (.iload_n 1, 1) := by decide +kernel
theorem dX3_price_6 : decode cX3_price 6 = .ok (.iconst 0, 1) := by decide +kernel
theorem dX3_price_7 : decode cX3_price 7 = .ok (.invokevirtual 26, 3) := by decide +kernel
theorem dX3_price_10 : decode cX3_price 10 = .ok (.ireturn, 1) := by decide +kernel
theorem dX3_start_0 : decode cX3_start 0 = .ok (.aload_n 0, 1) := by decide +kernel
theorem dX3_start_1 : decode cX3_start 1 = .ok (.invokevirtual 23, 3) := by decide +kernel
theorem dX3_start_4 : decode cX3_start 4 = .ok (.aload_n 0, 1) := by decide +kernel
theorem dX3_start_5 : decode cX3_start 5 = .ok (.iload_n 1, 1) := by decide +kernel
theorem dX3_start_6 : decode cX3_start 6 = .ok (.iconst 0, 1) := by decide +kernel
theorem dX3_start_7 : decode cX3_start 7 = .ok (.invokevirtual 26, 3) := by decide +kernel
theorem dX3_start_10 : decode cX3_start 10 = .ok (.istore_n 2, 1) := by decide +kernel
theorem dX3_start_11 : decode cX3_start 11 = .ok (.iconst 0, 1) := by decide +kernel
theorem dX3_start_12 : decode cX3_start 12 = .ok (.istore_n 3, 1) := by decide +kernel
theorem dX3_start_13 : decode cX3_start 13 = .ok (.iload_n 3, 1) := by decide +kernel
theorem dX3_start_14 : decode cX3_start 14 = .ok (.aload_n 0, 1) := by decide +kernel
theorem dX3_start_15 : decode cX3_start 15 = .ok (.getfield 15, 3) := by decide +kernel
theorem dX3_start_18 : decode cX3_start 18 = .ok (.getfield 30, 3) := by decide +kernel
theorem dX3_start_21 : decode cX3_start 21 = .ok (.if_icmp .ge 31, 3) := by decide +kernel
theorem dX3_start_24 : decode cX3_start 24 = .ok (.aload_n 0, 1) := by decide +kernel
theorem dX3_start_25 : decode cX3_start 25 = .ok (.iload_n 3, 1) := by decide +kernel
theorem dX3_start_26 : decode cX3_start 26 = .ok (.iload_n 1, 1) := by decide +kernel
theorem dX3_start_27 : decode cX3_start 27 = .ok (.invokevirtual 36, 3) := by decide +kernel
theorem dX3_start_30 : decode cX3_start 30 = .ok (.ifCond .eq 16, 3) := by decide +kernel
theorem dX3_start_33 : decode cX3_start 33 = .ok (.aload_n 0, 1) := by decide +kernel
theorem dX3_start_34 : decode cX3_start 34 = .ok (.iload_n 3, 1) := by decide +kernel
theorem dX3_start_35 : decode cX3_start 35 = .ok (.iload_n 1, 1) := by decide +kernel
theorem dX3_start_36 : decode cX3_start 36 = .ok (.iconst 0, 1) := by decide +kernel
theorem dX3_start_37 : decode cX3_start 37 = .ok (.invokevirtual 40, 3) := by decide +kernel
theorem dX3_start_40 : decode cX3_start 40 = .ok (.iload_n 2, 1) := by decide +kernel
theorem dX3_start_41 : decode cX3_start 41 = .ok (.if_icmp .ne 5, 3) := by decide +kernel
theorem dX3_start_44 : decode cX3_start 44 = .ok (.iload_n 3, 1) := by decide +kernel
theorem dX3_start_45 : decode cX3_start 45 = .ok (.ireturn, 1) := by decide +kernel
theorem dX3_start_46 : decode cX3_start 46 = .ok (.iinc 3 1, 3) := by decide +kernel
theorem dX3_start_49 : decode cX3_start 49 = .ok (.goto (-36), 3) := by decide +kernel
theorem dX3_start_52 : decode cX3_start 52 = .ok (.bipush (-6), 2) := by decide +kernel
theorem dX3_start_54 : decode cX3_start 54 = .ok (.ireturn, 1) := by decide +kernel
theorem dX3_refresh_0 : decode cX3_refresh 0 = .ok (.aload_n 0, 1) := by decide +kernel
theorem dX3_refresh_1 : decode cX3_refresh 1 = .ok (.getfield 44, 3) := by decide +kernel
theorem dX3_refresh_4 : decode cX3_refresh 4 = .ok (.ifCond .eq 16, 3) := by decide +kernel
theorem dX3_refresh_7 : decode cX3_refresh 7 = .ok (.aload_n 0, 1) := by decide +kernel
theorem dX3_refresh_8 : decode cX3_refresh 8 = .ok (.getfield 9, 3) := by decide +kernel
theorem dX3_refresh_11 : decode cX3_refresh 11 = .ok (.iconst 0, 1) := by decide +kernel
theorem dX3_refresh_12 : decode cX3_refresh 12 = .ok (.invokestatic 47, 3) := by decide +kernel
theorem dX3_refresh_15 : decode cX3_refresh 15 = .ok (.aload_n 0, 1) := by decide +kernel
theorem dX3_refresh_16 : decode cX3_refresh 16 = .ok (.iconst 0, 1) := by decide +kernel
theorem dX3_refresh_17 : decode cX3_refresh 17 = .ok (.putfield 44, 3) := by decide +kernel
theorem dX3_refresh_20 : decode cX3_refresh 20 = .ok (.return_, 1) := by decide +kernel
theorem dX3_parts_0 : decode cX3_parts 0 = .ok (.iload_n 2, 1) := by decide +kernel
theorem dX3_parts_1 : decode cX3_parts 1 = .ok (.aload_n 0, 1) := by decide +kernel
theorem dX3_parts_2 : decode cX3_parts 2 = .ok (.getfield 15, 3) := by decide +kernel
theorem dX3_parts_5 : decode cX3_parts 5 = .ok (.getfield 53, 3) := by decide +kernel
theorem dX3_parts_8 : decode cX3_parts 8 = .ok (.iload_n 1, 1) := by decide +kernel
theorem dX3_parts_9 : decode cX3_parts 9 = .ok (.iaload, 1) := by decide +kernel
theorem dX3_parts_10 : decode cX3_parts 10 = .ok (.iand, 1) := by decide +kernel
theorem dX3_parts_11 : decode cX3_parts 11 = .ok (.istore_n 3, 1) := by decide +kernel
theorem dX3_parts_12 : decode cX3_parts 12 = .ok (.aload_n 0, 1) := by decide +kernel
theorem dX3_parts_13 : decode cX3_parts 13 = .ok (.getfield 15, 3) := by decide +kernel
theorem dX3_parts_16 : decode cX3_parts 16 = .ok (.iload_n 1, 1) := by decide +kernel
theorem dX3_parts_17 : decode cX3_parts 17 = .ok (.invokevirtual 56, 3) := by decide +kernel
theorem dX3_parts_20 : decode cX3_parts 20 = .ok (.ifCond .eq 16, 3) := by decide +kernel
theorem dX3_parts_23 : decode cX3_parts 23 = .ok (.iload_n 3, 1) := by decide +kernel
theorem dX3_parts_24 : decode cX3_parts 24 = .ok (.ifCond .eq 12, 3) := by decide +kernel
theorem dX3_parts_27 : decode cX3_parts 27 = .ok (.iload_n 3, 1) := by decide +kernel
theorem dX3_parts_28 : decode cX3_parts 28 = .ok (.iload_n 2, 1) := by decide +kernel
theorem dX3_parts_29 : decode cX3_parts 29 = .ok (.if_icmp .eq 7, 3) := by decide +kernel
theorem dX3_parts_32 : decode cX3_parts 32 = .ok (.iconst 1, 1) := by decide +kernel
theorem dX3_parts_33 : decode cX3_parts 33 = .ok (.goto 4, 3) := by decide +kernel
theorem dX3_parts_36 : decode cX3_parts 36 = .ok (.iconst 0, 1) := by decide +kernel
theorem dX3_parts_37 : decode cX3_parts 37 = .ok (.ireturn, 1) := by decide +kernel
theorem dX3_priceAt_0 : decode cX3_priceAt 0 = .ok (.iload_n 2, 1) := by decide +kernel
theorem dX3_priceAt_1 : decode cX3_priceAt 1 = .ok (.bipush 12, 2) := by decide +kernel
theorem dX3_priceAt_3 : decode cX3_priceAt 3 = .ok (.if_icmp .gt 14, 3) := by decide +kernel
theorem dX3_priceAt_6 : decode cX3_priceAt 6 = .ok (.iload_n 1, 1) := by decide +kernel
theorem dX3_priceAt_7 : decode cX3_priceAt 7 = .ok (.iconst 0, 1) := by decide +kernel
theorem dX3_priceAt_8 : decode cX3_priceAt 8 = .ok (.sipush 4095, 3) := by decide +kernel
theorem dX3_priceAt_11 : decode cX3_priceAt 11 = .ok (.invokestatic 60, 3) := by decide +kernel
theorem dX3_priceAt_14 : decode cX3_priceAt 14 = .ok (.ifCond .ne 5, 3) := by decide +kernel
theorem dX3_priceAt_17 : decode cX3_priceAt 17 = .ok (.iconst 0, 1) := by decide +kernel
theorem dX3_priceAt_18 : decode cX3_priceAt 18 = .ok (.ireturn, 1) := by decide +kernel
theorem dX3_priceAt_19 : decode cX3_priceAt 19 = .ok (.aload_n 0, 1) := by decide +kernel
theorem dX3_priceAt_20 : decode cX3_priceAt 20 = .ok (.getfield 9, 3) := by decide +kernel
theorem dX3_priceAt_23 : decode cX3_priceAt 23 = .ok (.iload_n 1, 1) := by decide +kernel
theorem dX3_priceAt_24 : decode cX3_priceAt 24 = .ok (.iaload, 1) := by decide +kernel
theorem dX3_priceAt_25 : decode cX3_priceAt 25 = .ok (.ifCond .le 12, 3) := by decide +kernel
theorem dX3_priceAt_28 : decode cX3_priceAt 28 = .ok (.aload_n 0, 1) := by decide +kernel
theorem dX3_priceAt_29 : decode cX3_priceAt 29 = .ok (.getfield 9, 3) := by decide +kernel
theorem dX3_priceAt_32 : decode cX3_priceAt 32 = .ok (.iload_n 1, 1) := by decide +kernel
theorem dX3_priceAt_33 : decode cX3_priceAt 33 = .ok (.iaload, 1) := by decide +kernel
theorem dX3_priceAt_34 : decode cX3_priceAt 34 = .ok (.iconst 1, 1) := by decide +kernel
theorem dX3_priceAt_35 : decode cX3_priceAt 35 = .ok (.isub, 1) := by decide +kernel
theorem dX3_priceAt_36 : decode cX3_priceAt 36 = .ok (.ireturn, 1) := by decide +kernel
theorem dX3_priceAt_37 : decode cX3_priceAt 37 = .ok (.iconst (-1), 1) := by decide +kernel
theorem dX3_priceAt_38 : decode cX3_priceAt 38 = .ok (.istore_n 3, 1) := by decide +kernel
theorem dX3_priceAt_39 : decode cX3_priceAt 39 = .ok (.iconst 0, 1) := by decide +kernel
theorem dX3_priceAt_40 : decode cX3_priceAt 40 = .ok (.istore 4, 2) := by decide +kernel
theorem dX3_priceAt_42 : decode cX3_priceAt 42 = .ok (.iload 4, 2) := by decide +kernel
theorem dX3_priceAt_44 : decode cX3_priceAt 44 = .ok (.aload_n 0, 1) := by decide +kernel
theorem dX3_priceAt_45 : decode cX3_priceAt 45 = .ok (.getfield 15, 3) := by decide +kernel
theorem dX3_priceAt_48 : decode cX3_priceAt 48 = .ok (.getfield 30, 3) := by decide +kernel
theorem dX3_priceAt_51 : decode cX3_priceAt 51 = .ok (.if_icmp .ge 45, 3) := by decide +kernel
theorem dX3_priceAt_54 : decode cX3_priceAt 54 = .ok (.aload_n 0, 1) := by decide +kernel
theorem dX3_priceAt_55 : decode cX3_priceAt 55 = .ok (.iload 4, 2) := by decide +kernel
theorem dX3_priceAt_57 : decode cX3_priceAt 57 = .ok (.iload_n 1, 1) := by decide +kernel
theorem dX3_priceAt_58 : decode cX3_priceAt 58 = .ok (.invokevirtual 36, 3) := by decide +kernel
theorem dX3_priceAt_61 : decode cX3_priceAt 61 = .ok (.ifCond .eq 29, 3) := by decide +kernel
theorem dX3_priceAt_64 : decode cX3_priceAt 64 = .ok (.aload_n 0, 1) := by decide +kernel
theorem dX3_priceAt_65 : decode cX3_priceAt 65 = .ok (.iload 4, 2) := by decide +kernel
theorem dX3_priceAt_67 : decode cX3_priceAt 67 = .ok (.iload_n 1, 1) := by decide +kernel
theorem dX3_priceAt_68 : decode cX3_priceAt 68 = .ok (.iload_n 2, 1) := by decide +kernel
theorem dX3_priceAt_69 : decode cX3_priceAt 69 = .ok (.invokevirtual 40, 3) := by decide +kernel
theorem dX3_priceAt_72 : decode cX3_priceAt 72 = .ok (.istore 5, 2) := by decide +kernel
theorem dX3_priceAt_74 : decode cX3_priceAt 74 = .ok (.iload_n 3, 1) := by decide +kernel
theorem dX3_priceAt_75 : decode cX3_priceAt 75 = .ok (.ifCond .ge 8, 3) := by decide +kernel
theorem dX3_priceAt_78 : decode cX3_priceAt 78 = .ok (.iload 5, 2) := by decide +kernel
theorem dX3_priceAt_80 : decode cX3_priceAt 80 = .ok (.goto 9, 3) := by decide +kernel
theorem dX3_priceAt_83 : decode cX3_priceAt 83 = .ok (.iload_n 3, 1) := by decide +kernel
theorem dX3_priceAt_84 : decode cX3_priceAt 84 = .ok (.iload 5, 2) := by decide +kernel
theorem dX3_priceAt_86 : decode cX3_priceAt 86 = .ok (.invokestatic 64, 3) := by decide +kernel
theorem dX3_priceAt_89 : decode cX3_priceAt 89 = .ok (.istore_n 3, 1) := by decide +kernel
theorem dX3_priceAt_90 : decode cX3_priceAt 90 = .ok (.iinc 4 1, 3) := by decide +kernel
theorem dX3_priceAt_93 : decode cX3_priceAt 93 = .ok (.goto (-51), 3) := by decide +kernel
theorem dX3_priceAt_96 : decode cX3_priceAt 96 = .ok (.iconst 0, 1) := by decide +kernel
theorem dX3_priceAt_97 : decode cX3_priceAt 97 = .ok (.iload_n 3, 1) := by decide +kernel
theorem dX3_priceAt_98 : decode cX3_priceAt 98 = .ok (.invokestatic 69, 3) := by decide +kernel
theorem dX3_priceAt_101 : decode cX3_priceAt 101 = .ok (.istore_n 3, 1) := by decide +kernel
theorem dX3_priceAt_102 : decode cX3_priceAt 102 = .ok (.aload_n 0, 1) := by decide +kernel
theorem dX3_priceAt_103 : decode cX3_priceAt 103 = .ok (.getfield 9, 3) := by decide +kernel
theorem dX3_priceAt_106 : decode cX3_priceAt 106 = .ok (.iload_n 1, 1) := by decide +kernel
theorem dX3_priceAt_107 : decode cX3_priceAt 107 = .ok (.iload_n 3, 1) := by decide +kernel
theorem dX3_priceAt_108 : decode cX3_priceAt 108 = .ok (.iconst 1, 1) := by decide +kernel
theorem dX3_priceAt_109 : decode cX3_priceAt 109 = .ok (.iadd, 1) := by decide +kernel
theorem dX3_priceAt_110 : decode cX3_priceAt 110 = .ok (.iastore, 1) := by decide +kernel
theorem dX3_priceAt_111 : decode cX3_priceAt 111 = .ok (.iload_n 3, 1) := by decide +kernel
theorem dX3_priceAt_112 : decode cX3_priceAt 112 = .ok (.ireturn, 1) := by decide +kernel
theorem dX3_priceBy_0 : decode cX3_priceBy 0 = .ok (.aload_n 0, 1) := by decide +kernel
theorem dX3_priceBy_1 : decode cX3_priceBy 1 = .ok (.iload_n 2, 1) := by decide +kernel
theorem dX3_priceBy_2 : decode cX3_priceBy 2 = .ok (.aload_n 0, 1) := by decide +kernel
theorem dX3_priceBy_3 : decode cX3_priceBy 3 = .ok (.getfield 15, 3) := by decide +kernel
theorem dX3_priceBy_6 : decode cX3_priceBy 6 = .ok (.getfield 53, 3) := by decide +kernel
theorem dX3_priceBy_9 : decode cX3_priceBy 9 = .ok (.iload_n 1, 1) := by decide +kernel
theorem dX3_priceBy_10 : decode cX3_priceBy 10 = .ok (.iaload, 1) := by decide +kernel
theorem dX3_priceBy_11 : decode cX3_priceBy 11 = .ok (.iand, 1) := by decide +kernel
theorem dX3_priceBy_12 : decode cX3_priceBy 12 = .ok (.iload_n 3, 1) := by decide +kernel
theorem dX3_priceBy_13 : decode cX3_priceBy 13 = .ok (.iconst 1, 1) := by decide +kernel
theorem dX3_priceBy_14 : decode cX3_priceBy 14 = .ok (.iadd, 1) := by decide +kernel
theorem dX3_priceBy_15 : decode cX3_priceBy 15 = .ok (.invokevirtual 26, 3) := by decide +kernel
theorem dX3_priceBy_18 : decode cX3_priceBy 18 = .ok (.istore 4, 2) := by decide +kernel
theorem dX3_priceBy_20 : decode cX3_priceBy 20 = .ok (.aload_n 0, 1) := by decide +kernel
theorem dX3_priceBy_21 : decode cX3_priceBy 21 = .ok (.iload_n 2, 1) := by decide +kernel
theorem dX3_priceBy_22 : decode cX3_priceBy 22 = .ok (.aload_n 0, 1) := by decide +kernel
theorem dX3_priceBy_23 : decode cX3_priceBy 23 = .ok (.getfield 15, 3) := by decide +kernel
theorem dX3_priceBy_26 : decode cX3_priceBy 26 = .ok (.getfield 53, 3) := by decide +kernel
theorem dX3_priceBy_29 : decode cX3_priceBy 29 = .ok (.iload_n 1, 1) := by decide +kernel
theorem dX3_priceBy_30 : decode cX3_priceBy 30 = .ok (.iaload, 1) := by decide +kernel
theorem dX3_priceBy_31 : decode cX3_priceBy 31 = .ok (.iconst (-1), 1) := by decide +kernel
theorem dX3_priceBy_32 : decode cX3_priceBy 32 = .ok (.ixor, 1) := by decide +kernel
theorem dX3_priceBy_33 : decode cX3_priceBy 33 = .ok (.iand, 1) := by decide +kernel
theorem dX3_priceBy_34 : decode cX3_priceBy 34 = .ok (.iload_n 3, 1) := by decide +kernel
theorem dX3_priceBy_35 : decode cX3_priceBy 35 = .ok (.iconst 1, 1) := by decide +kernel
theorem dX3_priceBy_36 : decode cX3_priceBy 36 = .ok (.iadd, 1) := by decide +kernel
theorem dX3_priceBy_37 : decode cX3_priceBy 37 = .ok (.invokevirtual 26, 3) := by decide +kernel
theorem dX3_priceBy_40 : decode cX3_priceBy 40 = .ok (.istore 5, 2) := by decide +kernel
theorem dX3_priceBy_42 : decode cX3_priceBy 42 = .ok (.aload_n 0, 1) := by decide +kernel
theorem dX3_priceBy_43 : decode cX3_priceBy 43 = .ok (.getfield 19, 3) := by decide +kernel
theorem dX3_priceBy_46 : decode cX3_priceBy 46 = .ok (.ifCond .eq 28, 3) := by decide +kernel
theorem dX3_priceBy_49 : decode cX3_priceBy 49 = .ok (.aload_n 0, 1) := by decide +kernel
theorem dX3_priceBy_50 : decode cX3_priceBy 50 = .ok (.getfield 15, 3) := by decide +kernel
theorem dX3_priceBy_53 : decode cX3_priceBy 53 = .ok (.getfield 72, 3) := by decide +kernel
theorem dX3_priceBy_56 : decode cX3_priceBy 56 = .ok (.iload_n 1, 1) := by decide +kernel
theorem dX3_priceBy_57 : decode cX3_priceBy 57 = .ok (.iaload, 1) := by decide +kernel
theorem dX3_priceBy_58 : decode cX3_priceBy 58 = .ok (.aload_n 0, 1) := by decide +kernel
theorem dX3_priceBy_59 : decode cX3_priceBy 59 = .ok (.getfield 15, 3) := by decide +kernel
theorem dX3_priceBy_62 : decode cX3_priceBy 62 = .ok (.iload_n 2, 1) := by decide +kernel
theorem dX3_priceBy_63 : decode cX3_priceBy 63 = .ok (.invokevirtual 75, 3) := by decide +kernel
theorem dX3_priceBy_66 : decode cX3_priceBy 66 = .ok (.imul, 1) := by decide +kernel
theorem dX3_priceBy_67 : decode cX3_priceBy 67 = .ok (.iload 4, 2) := by decide +kernel
theorem dX3_priceBy_69 : decode cX3_priceBy 69 = .ok (.iadd, 1) := by decide +kernel
theorem dX3_priceBy_70 : decode cX3_priceBy 70 = .ok (.iload 5, 2) := by decide +kernel
theorem dX3_priceBy_72 : decode cX3_priceBy 72 = .ok (.iadd, 1) := by decide +kernel
theorem dX3_priceBy_73 : decode cX3_priceBy 73 = .ok (.ireturn, 1) := by decide +kernel
theorem dX3_priceBy_74 : decode cX3_priceBy 74 = .ok (.iconst 1, 1) := by decide +kernel
theorem dX3_priceBy_75 : decode cX3_priceBy 75 = .ok (.iload 4, 2) := by decide +kernel
theorem dX3_priceBy_77 : decode cX3_priceBy 77 = .ok (.iload 5, 2) := by decide +kernel
theorem dX3_priceBy_79 : decode cX3_priceBy 79 = .ok (.invokestatic 69, 3) := by decide +kernel
theorem dX3_priceBy_82 : decode cX3_priceBy 82 = .ok (.iadd, 1) := by decide +kernel
theorem dX3_priceBy_83 : decode cX3_priceBy 83 = .ok (.ireturn, 1) := by decide +kernel
theorem dX4_init_0 : decode cX4_init 0 = .ok (.aload_n 0, 1) := by decide +kernel
theorem dX4_init_1 : decode cX4_init 1 = .ok (.invokespecial 3, 3) := by decide +kernel
theorem dX4_init_4 : decode cX4_init 4 = .ok (.aload_n 0, 1) := by decide +kernel
theorem dX4_init_5 : decode cX4_init 5 = .ok (.iconst 5, 1) := by decide +kernel
theorem dX4_init_6 : decode cX4_init 6 = .ok (.newarray .int, 2) := by decide +kernel
theorem dX4_init_8 : decode cX4_init 8 = .ok (.putfield 9, 3) := by decide +kernel
theorem dX4_init_11 : decode cX4_init 11 = .ok (.aload_n 0, 1) := by decide +kernel
theorem dX4_init_12 : decode cX4_init 12 = .ok (.sipush 210, 3) := by decide +kernel
theorem dX4_init_15 : decode cX4_init 15 = .ok (.newarray .int, 2) := by decide +kernel
theorem dX4_init_17 : decode cX4_init 17 = .ok (.putfield 15, 3) := by decide +kernel
theorem dX4_init_20 : decode cX4_init 20 = .ok (.aload_n 0, 1) := by decide +kernel
theorem dX4_init_21 : decode cX4_init 21 = .ok (.sipush 210, 3) := by decide +kernel
theorem dX4_init_24 : decode cX4_init 24 = .ok (.newarray .long, 2) := by decide +kernel
theorem dX4_init_26 : decode cX4_init 26 = .ok (.putfield 18, 3) := by decide +kernel
theorem dX4_init_29 : decode cX4_init 29 = .ok (.aload_n 0, 1) := by decide +kernel
theorem dX4_init_30 : decode cX4_init 30 = .ok (.sipush 210, 3) := by decide +kernel
theorem dX4_init_33 : decode cX4_init 33 = .ok (.newarray .int, 2) := by decide +kernel
theorem dX4_init_35 : decode cX4_init 35 = .ok (.putfield 22, 3) := by decide +kernel
theorem dX4_init_38 : decode cX4_init 38 = .ok (.aload_n 0, 1) := by decide +kernel
theorem dX4_init_39 : decode cX4_init 39 = .ok (.aload_n 1, 1) := by decide +kernel
theorem dX4_init_40 : decode cX4_init 40 = .ok (.putfield 25, 3) := by decide +kernel
theorem dX4_init_43 : decode cX4_init 43 = .ok (.aload_n 0, 1) := by decide +kernel
theorem dX4_init_44 : decode cX4_init 44 = .ok (.aload_n 2, 1) := by decide +kernel
theorem dX4_init_45 : decode cX4_init 45 = .ok (.putfield 29, 3) := by decide +kernel
theorem dX4_init_48 : decode cX4_init 48 = .ok (.aload_n 0, 1) := by decide +kernel
theorem dX4_init_49 : decode cX4_init 49 = .ok (.getfield 9, 3) := by decide +kernel
theorem dX4_init_52 : decode cX4_init 52 = .ok (.iconst 2, 1) := by decide +kernel
theorem dX4_init_53 : decode cX4_init 53 = .ok (.iconst 1, 1) := by decide +kernel
theorem dX4_init_54 : decode cX4_init 54 = .ok (.iastore, 1) := by decide +kernel
theorem dX4_init_55 : decode cX4_init 55 = .ok (.return_, 1) := by decide +kernel
theorem dX4_failingOf_0 : decode cX4_failingOf 0 = .ok (.aload_n 0, 1) := by decide +kernel
theorem dX4_failingOf_1 : decode cX4_failingOf 1 = .ok (.getfield 25, 3) := by decide +kernel
theorem dX4_failingOf_4 : decode cX4_failingOf 4 = .ok (.getfield 33, 3) := by decide +kernel
theorem dX4_failingOf_7 : decode cX4_failingOf 7 = .ok (.iload_n 2, 1) := by decide +kernel
theorem dX4_failingOf_8 : decode cX4_failingOf 8 = .ok (.iaload, 1) := by decide +kernel
theorem dX4_failingOf_9 : decode cX4_failingOf 9 = .ok (.istore 4, 2) := by decide +kernel
theorem dX4_failingOf_11 : decode cX4_failingOf 11 = .ok (.iload_n 1, 1) := by decide +kernel
theorem dX4_failingOf_12 : decode cX4_failingOf 12 = .ok (.lookupswitch 56 #[(1, 28), (2, 41)], 28) := by decide +kernel
theorem dX4_failingOf_40 : decode cX4_failingOf 40 = .ok (.iload 4, 2) := by decide +kernel
theorem dX4_failingOf_42 : decode cX4_failingOf 42 = .ok (.aload_n 0, 1) := by decide +kernel
theorem dX4_failingOf_43 : decode cX4_failingOf 43 = .ok (.getfield 25, 3) := by decide +kernel
theorem dX4_failingOf_46 : decode cX4_failingOf 46 = .ok (.getfield 33, 3) := by decide +kernel
theorem dX4_failingOf_49 : decode cX4_failingOf 49 = .ok (.iload_n 3, 1) := by decide +kernel
theorem dX4_failingOf_50 : decode cX4_failingOf 50 = .ok (.iaload, 1) := by decide +kernel
theorem dX4_failingOf_51 : decode cX4_failingOf 51 = .ok (.iand, 1) := by decide +kernel
theorem dX4_failingOf_52 : decode cX4_failingOf 52 = .ok (.ireturn, 1) := by decide +kernel
theorem dX4_failingOf_53 : decode cX4_failingOf 53 = .ok (.iload 4, 2) := by decide +kernel
theorem dX4_failingOf_55 : decode cX4_failingOf 55 = .ok (.aload_n 0, 1) := by decide +kernel
theorem dX4_failingOf_56 : decode cX4_failingOf 56 = .ok (.getfield 25, 3) := by decide +kernel
theorem dX4_failingOf_59 : decode cX4_failingOf 59 = .ok (.getfield 33, 3) := by decide +kernel
theorem dX4_failingOf_62 : decode cX4_failingOf 62 = .ok (.iload_n 3, 1) := by decide +kernel
theorem dX4_failingOf_63 : decode cX4_failingOf 63 = .ok (.iaload, 1) := by decide +kernel
theorem dX4_failingOf_64 : decode cX4_failingOf 64 = .ok (.iconst (-1), 1) := by decide +kernel
theorem dX4_failingOf_65 : decode cX4_failingOf 65 = .ok (.ixor, 1) := by decide +kernel
theorem dX4_failingOf_66 : decode cX4_failingOf 66 = .ok (.iand, 1) := by decide +kernel
theorem dX4_failingOf_67 : decode cX4_failingOf 67 = .ok (.ireturn, 1) := by decide +kernel
theorem dX4_failingOf_68 : decode cX4_failingOf 68 = .ok (.iload 4, 2) := by decide +kernel
theorem dX4_failingOf_70 : decode cX4_failingOf 70 = .ok (.ireturn, 1) := by decide +kernel
theorem dX4_tenths_0 : decode cX4_tenths 0 = .ok (.iload_n 1, 1) := by decide +kernel
theorem dX4_tenths_1 : decode cX4_tenths 1 = .ok (.ifCond .eq 26, 3) := by decide +kernel
theorem dX4_tenths_4 : decode cX4_tenths 4 = .ok (.iload_n 2, 1) := by decide +kernel
theorem dX4_tenths_5 : decode cX4_tenths 5 = .ok (.ifCond .eq 12, 3) := by decide +kernel
theorem dX4_tenths_8 : decode cX4_tenths 8 = .ok (.aload_n 0, 1) := by decide +kernel
theorem dX4_tenths_9 : decode cX4_tenths 9 = .ok (.getfield 9, 3) := by decide +kernel
theorem dX4_tenths_12 : decode cX4_tenths 12 = .ok (.iconst 0, 1) := by decide +kernel
theorem dX4_tenths_13 : decode cX4_tenths 13 = .ok (.iaload, 1) := by decide +kernel
theorem dX4_tenths_14 : decode cX4_tenths 14 = .ok (.goto 12, 3) := by decide +kernel
theorem dX4_tenths_17 : decode cX4_tenths 17 = .ok (.bipush 10, 2) := by decide +kernel
theorem dX4_tenths_19 : decode cX4_tenths 19 = .ok (.aload_n 0, 1) := by decide +kernel
theorem dX4_tenths_20 : decode cX4_tenths 20 = .ok (.getfield 9, 3) := by decide +kernel
theorem dX4_tenths_23 : decode cX4_tenths 23 = .ok (.iconst 0, 1) := by decide +kernel
theorem dX4_tenths_24 : decode cX4_tenths 24 = .ok (.iaload, 1) := by decide +kernel
theorem dX4_tenths_25 : decode cX4_tenths 25 = .ok (.isub, 1) := by decide +kernel
theorem dX4_tenths_26 : decode cX4_tenths 26 = .ok (.ireturn, 1) := by decide +kernel
theorem dX4_tenths_27 : decode cX4_tenths 27 = .ok (.iload_n 2, 1) := by decide +kernel
theorem dX4_tenths_28 : decode cX4_tenths 28 = .ok (.ifCond .eq 15, 3) := by decide +kernel
theorem dX4_tenths_31 : decode cX4_tenths 31 = .ok (.bipush 10, 2) := by decide +kernel
theorem dX4_tenths_33 : decode cX4_tenths 33 = .ok (.aload_n 0, 1) := by decide +kernel
theorem dX4_tenths_34 : decode cX4_tenths 34 = .ok (.getfield 9, 3) := by decide +kernel
theorem dX4_tenths_37 : decode cX4_tenths 37 = .ok (.iconst 1, 1) := by decide +kernel
theorem dX4_tenths_38 : decode cX4_tenths 38 = .ok (.iaload, 1) := by decide +kernel
theorem dX4_tenths_39 : decode cX4_tenths 39 = .ok (.isub, 1) := by decide +kernel
theorem dX4_tenths_40 : decode cX4_tenths 40 = .ok (.goto 9, 3) := by decide +kernel
theorem dX4_tenths_43 : decode cX4_tenths 43 = .ok (.aload_n 0, 1) := by decide +kernel
theorem dX4_tenths_44 : decode cX4_tenths 44 = .ok (.getfield 9, 3) := by decide +kernel
theorem dX4_tenths_47 : decode cX4_tenths 47 = .ok (.iconst 1, 1) := by decide +kernel
theorem dX4_tenths_48 : decode cX4_tenths 48 = .ok (.iaload, 1) := by decide +kernel
theorem dX4_tenths_49 : decode cX4_tenths 49 = .ok (.ireturn, 1) := by decide +kernel
theorem dX4_weightOf_0 : decode cX4_weightOf 0 = .ok (.aload_n 0, 1) := by decide +kernel
theorem dX4_weightOf_1 : decode cX4_weightOf 1 = .ok (.getfield 9, 3) := by decide +kernel
theorem dX4_weightOf_4 : decode cX4_weightOf 4 = .ok (.iconst 2, 1) := by decide +kernel
theorem dX4_weightOf_5 : decode cX4_weightOf 5 = .ok (.iload_n 1, 1) := by decide +kernel
theorem dX4_weightOf_6 : decode cX4_weightOf 6 = .ok (.iadd, 1) := by decide +kernel
theorem dX4_weightOf_7 : decode cX4_weightOf 7 = .ok (.iaload, 1) := by decide +kernel
theorem dX4_weightOf_8 : decode cX4_weightOf 8 = .ok (.aload_n 0, 1) := by decide +kernel
theorem dX4_weightOf_9 : decode cX4_weightOf 9 = .ok (.getfield 25, 3) := by decide +kernel
theorem dX4_weightOf_12 : decode cX4_weightOf 12 = .ok (.getfield 38, 3) := by decide +kernel
theorem dX4_weightOf_15 : decode cX4_weightOf 15 = .ok (.iload_n 2, 1) := by decide +kernel
theorem dX4_weightOf_16 : decode cX4_weightOf 16 = .ok (.iaload, 1) := by decide +kernel
theorem dX4_weightOf_17 : decode cX4_weightOf 17 = .ok (.imul, 1) := by decide +kernel
theorem dX4_weightOf_18 : decode cX4_weightOf 18 = .ok (.i2l, 1) := by decide +kernel
theorem dX4_weightOf_19 : decode cX4_weightOf 19 = .ok (.lstore 4, 2) := by decide +kernel
theorem dX4_weightOf_21 : decode cX4_weightOf 21 = .ok (.iload_n 1, 1) := by decide +kernel
theorem dX4_weightOf_22 : decode cX4_weightOf 22 = .ok (.ifCond .eq 18, 3) := by decide +kernel
theorem dX4_weightOf_25 : decode cX4_weightOf 25 = .ok (.lload 4, 2) := by decide +kernel
theorem dX4_weightOf_27 : decode cX4_weightOf 27 = .ok (.aload_n 0, 1) := by decide +kernel
theorem dX4_weightOf_28 : decode cX4_weightOf 28 = .ok (.getfield 25, 3) := by decide +kernel
theorem dX4_weightOf_31 : decode cX4_weightOf 31 = .ok (.getfield 38, 3) := by decide +kernel
theorem dX4_weightOf_34 : decode cX4_weightOf 34 = .ok (.iload_n 3, 1) := by decide +kernel
theorem dX4_weightOf_35 : decode cX4_weightOf 35 = .ok (.iaload, 1) := by decide +kernel
theorem dX4_weightOf_36 : decode cX4_weightOf 36 = .ok (.i2l, 1) := by decide +kernel
theorem dX4_weightOf_37 : decode cX4_weightOf 37 = .ok (.lmul, 1) := by decide +kernel
theorem dX4_weightOf_38 : decode cX4_weightOf 38 = .ok (.lstore 4, 2) := by decide +kernel
theorem dX4_weightOf_40 : decode cX4_weightOf 40 = .ok (.aload_n 0, 1) := by decide +kernel
theorem dX4_weightOf_41 : decode cX4_weightOf 41 = .ok (.iload_n 1, 1) := by decide +kernel
theorem dX4_weightOf_42 : decode cX4_weightOf 42 = .ok (.iload_n 2, 1) := by decide +kernel
theorem dX4_weightOf_43 : decode cX4_weightOf 43 = .ok (.iload_n 3, 1) := by decide +kernel
theorem dX4_weightOf_44 : decode cX4_weightOf 44 = .ok (.invokevirtual 41, 3) := by decide +kernel
theorem dX4_weightOf_47 : decode cX4_weightOf 47 = .ok (.istore 6, 2) := by decide +kernel
theorem dX4_weightOf_49 : decode cX4_weightOf 49 = .ok (.iconst 0, 1) := by decide +kernel
theorem dX4_weightOf_50 : decode cX4_weightOf 50 = .ok (.istore 7, 2) := by decide +kernel
theorem dX4_weightOf_52 : decode cX4_weightOf 52 = .ok (.iload 7, 2) := by decide +kernel
theorem dX4_weightOf_54 : decode cX4_weightOf 54 = .ok (.aload_n 0, 1) := by decide +kernel
theorem dX4_weightOf_55 : decode cX4_weightOf 55 = .ok (.getfield 29, 3) := by decide +kernel
theorem dX4_weightOf_58 : decode cX4_weightOf 58 = .ok (.getfield 45, 3) := by decide +kernel
theorem dX4_weightOf_61 : decode cX4_weightOf 61 = .ok (.if_icmp .ge 51, 3) := by decide +kernel
theorem dX4_weightOf_64 : decode cX4_weightOf 64 = .ok (.lload 4, 2) := by decide +kernel
theorem dX4_weightOf_66 : decode cX4_weightOf 66 = .ok (.lconst 0, 1) := by decide +kernel
theorem dX4_weightOf_67 : decode cX4_weightOf 67 = .ok (.lcmp, 1) := by decide +kernel
theorem dX4_weightOf_68 : decode cX4_weightOf 68 = .ok (.ifCond .eq 44, 3) := by decide +kernel
theorem dX4_weightOf_71 : decode cX4_weightOf 71 = .ok (.lload 4, 2) := by decide +kernel
theorem dX4_weightOf_73 : decode cX4_weightOf 73 = .ok (.aload_n 0, 1) := by decide +kernel
theorem dX4_weightOf_74 : decode cX4_weightOf 74 = .ok (.iload 6, 2) := by decide +kernel
theorem dX4_weightOf_76 : decode cX4_weightOf 76 = .ok (.aload_n 0, 1) := by decide +kernel
theorem dX4_weightOf_77 : decode cX4_weightOf 77 = .ok (.getfield 29, 3) := by decide +kernel
theorem dX4_weightOf_80 : decode cX4_weightOf 80 = .ok (.getfield 51, 3) := by decide +kernel
theorem dX4_weightOf_83 : decode cX4_weightOf 83 = .ok (.iload 7, 2) := by decide +kernel
theorem dX4_weightOf_85 : decode cX4_weightOf 85 = .ok (.iaload, 1) := by decide +kernel
theorem dX4_weightOf_86 : decode cX4_weightOf 86 = .ok (.invokestatic 54, 3) := by decide +kernel
theorem dX4_weightOf_89 : decode cX4_weightOf 89 = .ok (.aload_n 0, 1) := by decide +kernel
theorem dX4_weightOf_90 : decode cX4_weightOf 90 = .ok (.getfield 29, 3) := by decide +kernel
theorem dX4_weightOf_93 : decode cX4_weightOf 93 = .ok (.getfield 58, 3) := by decide +kernel
theorem dX4_weightOf_96 : decode cX4_weightOf 96 = .ok (.iload 7, 2) := by decide +kernel
theorem dX4_weightOf_98 : decode cX4_weightOf 98 = .ok (.baload, 1) := by decide +kernel
theorem dX4_weightOf_99 : decode cX4_weightOf 99 = .ok (.invokevirtual 62, 3) := by decide +kernel
theorem dX4_weightOf_102 : decode cX4_weightOf 102 = .ok (.i2l, 1) := by decide +kernel
theorem dX4_weightOf_103 : decode cX4_weightOf 103 = .ok (.lmul, 1) := by decide +kernel
theorem dX4_weightOf_104 : decode cX4_weightOf 104 = .ok (.lstore 4, 2) := by decide +kernel
theorem dX4_weightOf_106 : decode cX4_weightOf 106 = .ok (.iinc 7 1, 3) := by decide +kernel
theorem dX4_weightOf_109 : decode cX4_weightOf 109 = .ok (.goto (-57), 3) := by decide +kernel
theorem dX4_weightOf_112 : decode cX4_weightOf 112 = .ok (.lload 4, 2) := by decide +kernel
theorem dX4_weightOf_114 : decode cX4_weightOf 114 = .ok (.lreturn, 1) := by decide +kernel
theorem dX4_weigh_0 : decode cX4_weigh 0 = .ok (.aload_n 0, 1) := by decide +kernel
theorem dX4_weigh_1 : decode cX4_weigh 1 = .ok (.iconst 0, 1) := by decide +kernel
theorem dX4_weigh_2 : decode cX4_weigh 2 = .ok (.putfield 66, 3) := by decide +kernel
theorem dX4_weigh_5 : decode cX4_weigh 5 = .ok (.aload_n 0, 1) := by decide +kernel
theorem dX4_weigh_6 : decode cX4_weigh 6 = .ok (.lconst 0, 1) := by decide +kernel
theorem dX4_weigh_7 : decode cX4_weigh 7 = .ok (.putfield 67, 3) := by decide +kernel
theorem dX4_weigh_10 : decode cX4_weigh 10 = .ok (.aload_n 0, 1) := by decide +kernel
theorem dX4_weigh_11 : decode cX4_weigh 11 = .ok (.iconst 0, 1) := by decide +kernel
theorem dX4_weigh_12 : decode cX4_weigh 12 = .ok (.putfield 71, 3) := by decide +kernel
theorem dX4_weigh_15 : decode cX4_weigh 15 = .ok (.aload_n 0, 1) := by decide +kernel
theorem dX4_weigh_16 : decode cX4_weigh 16 = .ok (.lconst 0, 1) := by decide +kernel
theorem dX4_weigh_17 : decode cX4_weigh 17 = .ok (.putfield 74, 3) := by decide +kernel
theorem dX4_weigh_20 : decode cX4_weigh 20 = .ok (.iconst 0, 1) := by decide +kernel
theorem dX4_weigh_21 : decode cX4_weigh 21 = .ok (.istore_n 1, 1) := by decide +kernel
theorem dX4_weigh_22 : decode cX4_weigh 22 = .ok (.iload_n 1, 1) := by decide +kernel
theorem dX4_weigh_23 : decode cX4_weigh 23 = .ok (.iconst 3, 1) := by decide +kernel
theorem dX4_weigh_24 : decode cX4_weigh 24 = .ok (.if_icmp .ge 34, 3) := by decide +kernel
theorem dX4_weigh_27 : decode cX4_weigh 27 = .ok (.iconst 0, 1) := by decide +kernel
theorem dX4_weigh_28 : decode cX4_weigh 28 = .ok (.istore_n 2, 1) := by decide +kernel
theorem dX4_weigh_29 : decode cX4_weigh 29 = .ok (.iload_n 2, 1) := by decide +kernel
theorem dX4_weigh_30 : decode cX4_weigh 30 = .ok (.aload_n 0, 1) := by decide +kernel
theorem dX4_weigh_31 : decode cX4_weigh 31 = .ok (.getfield 25, 3) := by decide +kernel
theorem dX4_weigh_34 : decode cX4_weigh 34 = .ok (.getfield 77, 3) := by decide +kernel
theorem dX4_weigh_37 : decode cX4_weigh 37 = .ok (.if_icmp .ge 15, 3) := by decide +kernel
theorem dX4_weigh_40 : decode cX4_weigh 40 = .ok (.aload_n 0, 1) := by decide +kernel
theorem dX4_weigh_41 : decode cX4_weigh 41 = .ok (.iload_n 1, 1) := by decide +kernel
theorem dX4_weigh_42 : decode cX4_weigh 42 = .ok (.iload_n 2, 1) := by decide +kernel
theorem dX4_weigh_43 : decode cX4_weigh 43 = .ok (.invokevirtual 78, 3) := by decide +kernel
theorem dX4_weigh_46 : decode cX4_weigh 46 = .ok (.iinc 2 1, 3) := by decide +kernel
theorem dX4_weigh_49 : decode cX4_weigh 49 = .ok (.goto (-20), 3) := by decide +kernel
theorem dX4_weigh_52 : decode cX4_weigh 52 = .ok (.iinc 1 1, 3) := by decide +kernel
theorem dX4_weigh_55 : decode cX4_weigh 55 = .ok (.goto (-33), 3) := by decide +kernel
theorem dX4_weigh_58 : decode cX4_weigh 58 = .ok (.return_, 1) := by decide +kernel
theorem dX4_weighFrom_0 : decode cX4_weighFrom 0 = .ok (.iload_n 1, 1) := by decide +kernel
theorem dX4_weighFrom_1 : decode cX4_weighFrom 1 = .ok (.ifCond .ne 7, 3) := by decide +kernel
theorem dX4_weighFrom_4 : decode cX4_weighFrom 4 = .ok (.iload_n 2, 1) := by decide +kernel
theorem dX4_weighFrom_5 : decode cX4_weighFrom 5 = .ok (.goto 15, 3) := by decide +kernel
theorem dX4_weighFrom_8 : decode cX4_weighFrom 8 = .ok (.iload_n 1, 1) := by decide +kernel
theorem dX4_weighFrom_9 : decode cX4_weighFrom 9 = .ok (.iconst 1, 1) := by decide +kernel
theorem dX4_weighFrom_10 : decode cX4_weighFrom 10 = .ok (.if_icmp .ne 9, 3) := by decide +kernel
theorem dX4_weighFrom_13 : decode cX4_weighFrom 13 = .ok (.iload_n 2, 1) := by decide +kernel
theorem dX4_weighFrom_14 : decode cX4_weighFrom 14 = .ok (.iconst 1, 1) := by decide +kernel
theorem dX4_weighFrom_15 : decode cX4_weighFrom 15 = .ok (.iadd, 1) := by decide +kernel
theorem dX4_weighFrom_16 : decode cX4_weighFrom 16 = .ok (.goto 4, 3) := by decide +kernel
theorem dX4_weighFrom_19 : decode cX4_weighFrom 19 = .ok (.iconst 0, 1) := by decide +kernel
theorem dX4_weighFrom_20 : decode cX4_weighFrom 20 = .ok (.istore_n 3, 1) := by decide +kernel
theorem dX4_weighFrom_21 : decode cX4_weighFrom 21 = .ok (.iload_n 1, 1) := by decide +kernel
theorem dX4_weighFrom_22 : decode cX4_weighFrom 22 = .ok (.ifCond .ne 9, 3) := by decide +kernel
theorem dX4_weighFrom_25 : decode cX4_weighFrom 25 = .ok (.iload_n 2, 1) := by decide +kernel
theorem dX4_weighFrom_26 : decode cX4_weighFrom 26 = .ok (.iconst 1, 1) := by decide +kernel
theorem dX4_weighFrom_27 : decode cX4_weighFrom 27 = .ok (.iadd, 1) := by decide +kernel
theorem dX4_weighFrom_28 : decode cX4_weighFrom 28 = .ok (.goto 10, 3) := by decide +kernel
theorem dX4_weighFrom_31 : decode cX4_weighFrom 31 = .ok (.aload_n 0, 1) := by decide +kernel
theorem dX4_weighFrom_32 : decode cX4_weighFrom 32 = .ok (.getfield 25, 3) := by decide +kernel
theorem dX4_weighFrom_35 : decode cX4_weighFrom 35 = .ok (.getfield 77, 3) := by decide +kernel
theorem dX4_weighFrom_38 : decode cX4_weighFrom 38 = .ok (.istore 4, 2) := by decide +kernel
theorem dX4_weighFrom_40 : decode cX4_weighFrom 40 = .ok (.iload_n 3, 1) := by decide +kernel
theorem dX4_weighFrom_41 : decode cX4_weighFrom 41 = .ok (.istore 5, 2) := by decide +kernel
theorem dX4_weighFrom_43 : decode cX4_weighFrom 43 = .ok (.iload 5, 2) := by decide +kernel
theorem dX4_weighFrom_45 : decode cX4_weighFrom 45 = .ok (.iload 4, 2) := by decide +kernel
theorem dX4_weighFrom_47 : decode cX4_weighFrom 47 = .ok (.if_icmp .ge 28, 3) := by decide +kernel
theorem dX4_weighFrom_50 : decode cX4_weighFrom 50 = .ok (.iload_n 1, 1) := by decide +kernel
theorem dX4_weighFrom_51 : decode cX4_weighFrom 51 = .ok (.iconst 2, 1) := by decide +kernel
theorem dX4_weighFrom_52 : decode cX4_weighFrom 52 = .ok (.if_icmp .ne 9, 3) := by decide +kernel
theorem dX4_weighFrom_55 : decode cX4_weighFrom 55 = .ok (.iload 5, 2) := by decide +kernel
theorem dX4_weighFrom_57 : decode cX4_weighFrom 57 = .ok (.iload_n 2, 1) := by decide +kernel
theorem dX4_weighFrom_58 : decode cX4_weighFrom 58 = .ok (.if_icmp .eq 11, 3) := by decide +kernel
theorem dX4_weighFrom_61 : decode cX4_weighFrom 61 = .ok (.aload_n 0, 1) := by decide +kernel
theorem dX4_weighFrom_62 : decode cX4_weighFrom 62 = .ok (.iload_n 1, 1) := by decide +kernel
theorem dX4_weighFrom_63 : decode cX4_weighFrom 63 = .ok (.iload_n 2, 1) := by decide +kernel
theorem dX4_weighFrom_64 : decode cX4_weighFrom 64 = .ok (.iload 5, 2) := by decide +kernel
theorem dX4_weighFrom_66 : decode cX4_weighFrom 66 = .ok (.invokevirtual 82, 3) := by decide +kernel
theorem dX4_weighFrom_69 : decode cX4_weighFrom 69 = .ok (.iinc 5 1, 3) := by decide +kernel
theorem dX4_weighFrom_72 : decode cX4_weighFrom 72 = .ok (.goto (-29), 3) := by decide +kernel
theorem dX4_weighFrom_75 : decode cX4_weighFrom 75 = .ok (.return_, 1) := by decide +kernel
theorem dX4_take_0 : decode cX4_take 0 = .ok (.aload_n 0, 1) := by decide +kernel
theorem dX4_take_1 : decode cX4_take 1 = .ok (.iload_n 1, 1) := by decide +kernel
theorem dX4_take_2 : decode cX4_take 2 = .ok (.iload_n 2, 1) := by decide +kernel
theorem dX4_take_3 : decode cX4_take 3 = .ok (.iload_n 3, 1) := by decide +kernel
theorem dX4_take_4 : decode cX4_take 4 = .ok (.invokevirtual 86, 3) := by decide +kernel
theorem dX4_take_7 : decode cX4_take 7 = .ok (.lstore 4, 2) := by decide +kernel
theorem dX4_take_9 : decode cX4_take 9 = .ok (.lload 4, 2) := by decide +kernel
theorem dX4_take_11 : decode cX4_take 11 = .ok (.lconst 0, 1) := by decide +kernel
theorem dX4_take_12 : decode cX4_take 12 = .ok (.lcmp, 1) := by decide +kernel
theorem dX4_take_13 : decode cX4_take 13 = .ok (.ifCond .eq 13, 3) := by decide +kernel
theorem dX4_take_16 : decode cX4_take 16 = .ok (.aload_n 0, 1) := by decide +kernel
theorem dX4_take_17 : decode cX4_take 17 = .ok (.getfield 66, 3) := by decide +kernel
theorem dX4_take_20 : decode cX4_take 20 = .ok (.sipush 210, 3) := by decide +kernel
theorem dX4_take_23 : decode cX4_take 23 = .ok (.if_icmp .lt 4, 3) := by decide +kernel
theorem dX4_take_26 : decode cX4_take 26 = .ok (.return_, 1) := by decide +kernel
theorem dX4_take_27 : decode cX4_take 27 = .ok (.aload_n 0, 1) := by decide +kernel
theorem dX4_take_28 : decode cX4_take 28 = .ok (.getfield 15, 3) := by decide +kernel
theorem dX4_take_31 : decode cX4_take 31 = .ok (.aload_n 0, 1) := by decide +kernel
theorem dX4_take_32 : decode cX4_take 32 = .ok (.getfield 66, 3) := by decide +kernel
theorem dX4_take_35 : decode cX4_take 35 = .ok (.iload_n 1, 1) := by decide +kernel
theorem dX4_take_36 : decode cX4_take 36 = .ok (.iload_n 2, 1) := by decide +kernel
theorem dX4_take_37 : decode cX4_take 37 = .ok (.iload_n 3, 1) := by decide +kernel
theorem dX4_take_38 : decode cX4_take 38 = .ok (.invokestatic 90, 3) := by decide +kernel
theorem dX4_take_41 : decode cX4_take 41 = .ok (.iastore, 1) := by decide +kernel
theorem dX4_take_42 : decode cX4_take 42 = .ok (.aload_n 0, 1) := by decide +kernel
theorem dX4_take_43 : decode cX4_take 43 = .ok (.getfield 18, 3) := by decide +kernel
theorem dX4_take_46 : decode cX4_take 46 = .ok (.aload_n 0, 1) := by decide +kernel
theorem dX4_take_47 : decode cX4_take 47 = .ok (.getfield 66, 3) := by decide +kernel
theorem dX4_take_50 : decode cX4_take 50 = .ok (.lload 4, 2) := by decide +kernel
theorem dX4_take_52 : decode cX4_take 52 = .ok (.lastore, 1) := by decide +kernel
theorem dX4_take_53 : decode cX4_take 53 = .ok (.aload_n 0, 1) := by decide +kernel
theorem dX4_take_54 : decode cX4_take 54 = .ok (.getfield 22, 3) := by decide +kernel
theorem dX4_take_57 : decode cX4_take 57 = .ok (.aload_n 0, 1) := by decide +kernel
theorem dX4_take_58 : decode cX4_take 58 = .ok (.getfield 66, 3) := by decide +kernel
theorem dX4_take_61 : decode cX4_take 61 = .ok (.aload_n 0, 1) := by decide +kernel
theorem dX4_take_62 : decode cX4_take 62 = .ok (.iload_n 1, 1) := by decide +kernel
theorem dX4_take_63 : decode cX4_take 63 = .ok (.iload_n 2, 1) := by decide +kernel
theorem dX4_take_64 : decode cX4_take 64 = .ok (.iload_n 3, 1) := by decide +kernel
theorem dX4_take_65 : decode cX4_take 65 = .ok (.invokevirtual 41, 3) := by decide +kernel
theorem dX4_take_68 : decode cX4_take 68 = .ok (.iastore, 1) := by decide +kernel
theorem dX4_take_69 : decode cX4_take 69 = .ok (.aload_n 0, 1) := by decide +kernel
theorem dX4_take_70 : decode cX4_take 70 = .ok (.dup, 1) := by decide +kernel
theorem dX4_take_71 : decode cX4_take 71 = .ok (.getfield 67, 3) := by decide +kernel
theorem dX4_take_74 : decode cX4_take 74 = .ok (.lload 4, 2) := by decide +kernel
theorem dX4_take_76 : decode cX4_take 76 = .ok (.ladd, 1) := by decide +kernel
theorem dX4_take_77 : decode cX4_take 77 = .ok (.putfield 67, 3) := by decide +kernel
theorem dX4_take_80 : decode cX4_take 80 = .ok (.lload 4, 2) := by decide +kernel
theorem dX4_take_82 : decode cX4_take 82 = .ok (.aload_n 0, 1) := by decide +kernel
theorem dX4_take_83 : decode cX4_take 83 = .ok (.getfield 74, 3) := by decide +kernel
theorem dX4_take_86 : decode cX4_take 86 = .ok (.lcmp, 1) := by decide +kernel
theorem dX4_take_87 : decode cX4_take 87 = .ok (.ifCond .le 22, 3) := by decide +kernel
theorem dX4_take_90 : decode cX4_take 90 = .ok (.aload_n 0, 1) := by decide +kernel
theorem dX4_take_91 : decode cX4_take 91 = .ok (.lload 4, 2) := by decide +kernel
theorem dX4_take_93 : decode cX4_take 93 = .ok (.putfield 74, 3) := by decide +kernel
theorem dX4_take_96 : decode cX4_take 96 = .ok (.aload_n 0, 1) := by decide +kernel
theorem dX4_take_97 : decode cX4_take 97 = .ok (.aload_n 0, 1) := by decide +kernel
theorem dX4_take_98 : decode cX4_take 98 = .ok (.getfield 15, 3) := by decide +kernel
theorem dX4_take_101 : decode cX4_take 101 = .ok (.aload_n 0, 1) := by decide +kernel
theorem dX4_take_102 : decode cX4_take 102 = .ok (.getfield 66, 3) := by decide +kernel
theorem dX4_take_105 : decode cX4_take 105 = .ok (.iaload, 1) := by decide +kernel
theorem dX4_take_106 : decode cX4_take 106 = .ok (.putfield 71, 3) := by decide +kernel
theorem dX4_take_109 : decode cX4_take 109 = .ok (.aload_n 0, 1) := by decide +kernel
theorem dX4_take_110 : decode cX4_take 110 = .ok (.dup, 1) := by decide +kernel
theorem dX4_take_111 : decode cX4_take 111 = .ok (.getfield 66, 3) := by decide +kernel
theorem dX4_take_114 : decode cX4_take 114 = .ok (.iconst 1, 1) := by decide +kernel
theorem dX4_take_115 : decode cX4_take 115 = .ok (.iadd, 1) := by decide +kernel
theorem dX4_take_116 : decode cX4_take 116 = .ok (.putfield 66, 3) := by decide +kernel
theorem dX4_take_119 : decode cX4_take 119 = .ok (.return_, 1) := by decide +kernel
theorem dX4_weightOfSort_0 : decode cX4_weightOfSort 0 = .ok (.lconst 0, 1) := by decide +kernel
theorem dX4_weightOfSort_1 : decode cX4_weightOfSort 1 = .ok (.lstore_n 2, 1) := by decide +kernel
theorem dX4_weightOfSort_2 : decode cX4_weightOfSort 2 = .ok (.iconst 0, 1) := by decide +kernel
theorem dX4_weightOfSort_3 : decode cX4_weightOfSort 3 = .ok (.istore 4, 2) := by decide +kernel
theorem dX4_weightOfSort_5 : decode cX4_weightOfSort 5 = .ok (.iload 4, 2) := by decide +kernel
theorem dX4_weightOfSort_7 : decode cX4_weightOfSort 7 = .ok (.aload_n 0, 1) := by decide +kernel
theorem dX4_weightOfSort_8 : decode cX4_weightOfSort 8 = .ok (.getfield 66, 3) := by decide +kernel
theorem dX4_weightOfSort_11 : decode cX4_weightOfSort 11 = .ok (.if_icmp .ge 33, 3) := by decide +kernel
theorem dX4_weightOfSort_14 : decode cX4_weightOfSort 14 = .ok (.aload_n 0, 1) := by decide +kernel
theorem dX4_weightOfSort_15 : decode cX4_weightOfSort 15 = .ok (.getfield 15, 3) := by decide +kernel
theorem dX4_weightOfSort_18 : decode cX4_weightOfSort 18 = .ok (.iload 4, 2) := by decide +kernel
theorem dX4_weightOfSort_20 : decode cX4_weightOfSort 20 = .ok (.iaload, 1) := by decide +kernel
theorem dX4_weightOfSort_21 : decode cX4_weightOfSort 21 = .ok (.invokestatic 93, 3) := by decide +kernel
theorem dX4_weightOfSort_24 : decode cX4_weightOfSort 24 = .ok (.iload_n 1, 1) := by decide +kernel
theorem dX4_weightOfSort_25 : decode cX4_weightOfSort 25 = .ok (.if_icmp .ne 13, 3) := by decide +kernel
theorem dX4_weightOfSort_28 : decode cX4_weightOfSort 28 = .ok (.lload_n 2, 1) := by decide +kernel
theorem dX4_weightOfSort_29 : decode cX4_weightOfSort 29 = .ok (.aload_n 0, 1) := by decide +kernel
theorem dX4_weightOfSort_30 : decode cX4_weightOfSort 30 = .ok (.getfield 18, 3) := by decide +kernel
theorem dX4_weightOfSort_33 : decode cX4_weightOfSort 33 = .ok (.iload 4, 2) := by decide +kernel
theorem dX4_weightOfSort_35 : decode cX4_weightOfSort 35 = .ok (.laload, 1) := by decide +kernel
theorem dX4_weightOfSort_36 : decode cX4_weightOfSort 36 = .ok (.ladd, 1) := by decide +kernel
theorem dX4_weightOfSort_37 : decode cX4_weightOfSort 37 = .ok (.lstore_n 2, 1) := by decide +kernel
theorem dX4_weightOfSort_38 : decode cX4_weightOfSort 38 = .ok (.iinc 4 1, 3) := by decide +kernel
theorem dX4_weightOfSort_41 : decode cX4_weightOfSort 41 = .ok (.goto (-36), 3) := by decide +kernel
theorem dX4_weightOfSort_44 : decode cX4_weightOfSort 44 = .ok (.lload_n 2, 1) := by decide +kernel
theorem dX4_weightOfSort_45 : decode cX4_weightOfSort 45 = .ok (.lreturn, 1) := by decide +kernel
theorem dX4_weightBlaming_0 : decode cX4_weightBlaming 0 = .ok (.lconst 0, 1) := by decide +kernel
theorem dX4_weightBlaming_1 : decode cX4_weightBlaming 1 = .ok (.lstore_n 2, 1) := by decide +kernel
theorem dX4_weightBlaming_2 : decode cX4_weightBlaming 2 = .ok (.iconst 0, 1) := by decide +kernel
theorem dX4_weightBlaming_3 : decode cX4_weightBlaming 3 = .ok (.istore 4, 2) := by decide +kernel
theorem dX4_weightBlaming_5 : decode cX4_weightBlaming 5 = .ok (.iload 4, 2) := by decide +kernel
theorem dX4_weightBlaming_7 : decode cX4_weightBlaming 7 = .ok (.aload_n 0, 1) := by decide +kernel
theorem dX4_weightBlaming_8 : decode cX4_weightBlaming 8 = .ok (.getfield 66, 3) := by decide +kernel
theorem dX4_weightBlaming_11 : decode cX4_weightBlaming 11 = .ok (.if_icmp .ge 73, 3) := by decide +kernel
theorem dX4_weightBlaming_14 : decode cX4_weightBlaming 14 = .ok (.aload_n 0, 1) := by decide +kernel
theorem dX4_weightBlaming_15 : decode cX4_weightBlaming 15 = .ok (.getfield 15, 3) := by decide +kernel
theorem dX4_weightBlaming_18 : decode cX4_weightBlaming 18 = .ok (.iload 4, 2) := by decide +kernel
theorem dX4_weightBlaming_20 : decode cX4_weightBlaming 20 = .ok (.iaload, 1) := by decide +kernel
theorem dX4_weightBlaming_21 : decode cX4_weightBlaming 21 = .ok (.invokestatic 93, 3) := by decide +kernel
theorem dX4_weightBlaming_24 : decode cX4_weightBlaming 24 = .ok (.iconst 1, 1) := by decide +kernel
theorem dX4_weightBlaming_25 : decode cX4_weightBlaming 25 = .ok (.if_icmp .ne 21, 3) := by decide +kernel
theorem dX4_weightBlaming_28 : decode cX4_weightBlaming 28 = .ok (.aload_n 0, 1) := by decide +kernel
theorem dX4_weightBlaming_29 : decode cX4_weightBlaming 29 = .ok (.getfield 15, 3) := by decide +kernel
theorem dX4_weightBlaming_32 : decode cX4_weightBlaming 32 = .ok (.iload 4, 2) := by decide +kernel
theorem dX4_weightBlaming_34 : decode cX4_weightBlaming 34 = .ok (.iaload, 1) := by decide +kernel
theorem dX4_weightBlaming_35 : decode cX4_weightBlaming 35 = .ok (.invokestatic 97, 3) := by decide +kernel
theorem dX4_weightBlaming_38 : decode cX4_weightBlaming 38 = .ok (.iload_n 1, 1) := by decide +kernel
theorem dX4_weightBlaming_39 : decode cX4_weightBlaming 39 = .ok (.if_icmp .ne 7, 3) := by decide +kernel
theorem dX4_weightBlaming_42 : decode cX4_weightBlaming 42 = .ok (.iconst 1, 1) := by decide +kernel
theorem dX4_weightBlaming_43 : decode cX4_weightBlaming 43 = .ok (.goto 4, 3) := by decide +kernel
theorem dX4_weightBlaming_46 : decode cX4_weightBlaming 46 = .ok (.iconst 0, 1) := by decide +kernel
theorem dX4_weightBlaming_47 : decode cX4_weightBlaming 47 = .ok (.istore 5, 2) := by decide +kernel
theorem dX4_weightBlaming_49 : decode cX4_weightBlaming 49 = .ok (.aload_n 0, 1) := by decide +kernel
theorem dX4_weightBlaming_50 : decode cX4_weightBlaming 50 = .ok (.getfield 15, 3) := by decide +kernel
theorem dX4_weightBlaming_53 : decode cX4_weightBlaming 53 = .ok (.iload 4, 2) := by decide +kernel
theorem dX4_weightBlaming_55 : decode cX4_weightBlaming 55 = .ok (.iaload, 1) := by decide +kernel
theorem dX4_weightBlaming_56 : decode cX4_weightBlaming 56 = .ok (.invokestatic 100, 3) := by decide +kernel
theorem dX4_weightBlaming_59 : decode cX4_weightBlaming 59 = .ok (.iload_n 1, 1) := by decide +kernel
theorem dX4_weightBlaming_60 : decode cX4_weightBlaming 60 = .ok (.if_icmp .eq 8, 3) := by decide +kernel
theorem dX4_weightBlaming_63 : decode cX4_weightBlaming 63 = .ok (.iload 5, 2) := by decide +kernel
theorem dX4_weightBlaming_65 : decode cX4_weightBlaming 65 = .ok (.ifCond .eq 13, 3) := by decide +kernel
theorem dX4_weightBlaming_68 : decode cX4_weightBlaming 68 = .ok (.lload_n 2, 1) := by decide +kernel
theorem dX4_weightBlaming_69 : decode cX4_weightBlaming 69 = .ok (.aload_n 0, 1) := by decide +kernel
theorem dX4_weightBlaming_70 : decode cX4_weightBlaming 70 = .ok (.getfield 18, 3) := by decide +kernel
theorem dX4_weightBlaming_73 : decode cX4_weightBlaming 73 = .ok (.iload 4, 2) := by decide +kernel
theorem dX4_weightBlaming_75 : decode cX4_weightBlaming 75 = .ok (.laload, 1) := by decide +kernel
theorem dX4_weightBlaming_76 : decode cX4_weightBlaming 76 = .ok (.ladd, 1) := by decide +kernel
theorem dX4_weightBlaming_77 : decode cX4_weightBlaming 77 = .ok (.lstore_n 2, 1) := by decide +kernel
theorem dX4_weightBlaming_78 : decode cX4_weightBlaming 78 = .ok (.iinc 4 1, 3) := by decide +kernel
theorem dX4_weightBlaming_81 : decode cX4_weightBlaming 81 = .ok (.goto (-76), 3) := by decide +kernel
theorem dX4_weightBlaming_84 : decode cX4_weightBlaming 84 = .ok (.lload_n 2, 1) := by decide +kernel
theorem dX4_weightBlaming_85 : decode cX4_weightBlaming 85 = .ok (.lreturn, 1) := by decide +kernel
theorem dX4_hopeWeight_0 : decode cX4_hopeWeight 0 = .ok (.lconst 0, 1) := by decide +kernel
theorem dX4_hopeWeight_1 : decode cX4_hopeWeight 1 = .ok (.lstore_n 2, 1) := by decide +kernel
theorem dX4_hopeWeight_2 : decode cX4_hopeWeight 2 = .ok (.lconst 0, 1) := by decide +kernel
theorem dX4_hopeWeight_3 : decode cX4_hopeWeight 3 = .ok (.lstore 4, 2) := by decide +kernel
theorem dX4_hopeWeight_5 : decode cX4_hopeWeight 5 = .ok (.iconst 0, 1) := by decide +kernel
theorem dX4_hopeWeight_6 : decode cX4_hopeWeight 6 = .ok (.istore 6, 2) := by decide +kernel
theorem dX4_hopeWeight_8 : decode cX4_hopeWeight 8 = .ok (.iload 6, 2) := by decide +kernel
theorem dX4_hopeWeight_10 : decode cX4_hopeWeight 10 = .ok (.aload_n 0, 1) := by decide +kernel
theorem dX4_hopeWeight_11 : decode cX4_hopeWeight 11 = .ok (.getfield 66, 3) := by decide +kernel
theorem dX4_hopeWeight_14 : decode cX4_hopeWeight 14 = .ok (.if_icmp .ge 66, 3) := by decide +kernel
theorem dX4_hopeWeight_17 : decode cX4_hopeWeight 17 = .ok (.aload_n 0, 1) := by decide +kernel
theorem dX4_hopeWeight_18 : decode cX4_hopeWeight 18 = .ok (.getfield 22, 3) := by decide +kernel
theorem dX4_hopeWeight_21 : decode cX4_hopeWeight 21 = .ok (.iload 6, 2) := by decide +kernel
theorem dX4_hopeWeight_23 : decode cX4_hopeWeight 23 = .ok (.iaload, 1) := by decide +kernel
theorem dX4_hopeWeight_24 : decode cX4_hopeWeight 24 = .ok (.iload_n 1, 1) := by decide +kernel
theorem dX4_hopeWeight_25 : decode cX4_hopeWeight 25 = .ok (.invokestatic 54, 3) := by decide +kernel
theorem dX4_hopeWeight_28 : decode cX4_hopeWeight 28 = .ok (.istore 7, 2) := by decide +kernel
theorem dX4_hopeWeight_30 : decode cX4_hopeWeight 30 = .ok (.lload_n 2, 1) := by decide +kernel
theorem dX4_hopeWeight_31 : decode cX4_hopeWeight 31 = .ok (.aload_n 0, 1) := by decide +kernel
theorem dX4_hopeWeight_32 : decode cX4_hopeWeight 32 = .ok (.getfield 18, 3) := by decide +kernel
theorem dX4_hopeWeight_35 : decode cX4_hopeWeight 35 = .ok (.iload 6, 2) := by decide +kernel
theorem dX4_hopeWeight_37 : decode cX4_hopeWeight 37 = .ok (.laload, 1) := by decide +kernel
theorem dX4_hopeWeight_38 : decode cX4_hopeWeight 38 = .ok (.aload_n 0, 1) := by decide +kernel
theorem dX4_hopeWeight_39 : decode cX4_hopeWeight 39 = .ok (.iload 7, 2) := by decide +kernel
theorem dX4_hopeWeight_41 : decode cX4_hopeWeight 41 = .ok (.iconst 1, 1) := by decide +kernel
theorem dX4_hopeWeight_42 : decode cX4_hopeWeight 42 = .ok (.invokevirtual 62, 3) := by decide +kernel
theorem dX4_hopeWeight_45 : decode cX4_hopeWeight 45 = .ok (.i2l, 1) := by decide +kernel
theorem dX4_hopeWeight_46 : decode cX4_hopeWeight 46 = .ok (.lmul, 1) := by decide +kernel
theorem dX4_hopeWeight_47 : decode cX4_hopeWeight 47 = .ok (.invokestatic 103, 3) := by decide +kernel
theorem dX4_hopeWeight_50 : decode cX4_hopeWeight 50 = .ok (.lstore_n 2, 1) := by decide +kernel
theorem dX4_hopeWeight_51 : decode cX4_hopeWeight 51 = .ok (.lload 4, 2) := by decide +kernel
theorem dX4_hopeWeight_53 : decode cX4_hopeWeight 53 = .ok (.aload_n 0, 1) := by decide +kernel
theorem dX4_hopeWeight_54 : decode cX4_hopeWeight 54 = .ok (.getfield 18, 3) := by decide +kernel
theorem dX4_hopeWeight_57 : decode cX4_hopeWeight 57 = .ok (.iload 6, 2) := by decide +kernel
theorem dX4_hopeWeight_59 : decode cX4_hopeWeight 59 = .ok (.laload, 1) := by decide +kernel
theorem dX4_hopeWeight_60 : decode cX4_hopeWeight 60 = .ok (.aload_n 0, 1) := by decide +kernel
theorem dX4_hopeWeight_61 : decode cX4_hopeWeight 61 = .ok (.iload 7, 2) := by decide +kernel
theorem dX4_hopeWeight_63 : decode cX4_hopeWeight 63 = .ok (.iconst 0, 1) := by decide +kernel
theorem dX4_hopeWeight_64 : decode cX4_hopeWeight 64 = .ok (.invokevirtual 62, 3) := by decide +kernel
theorem dX4_hopeWeight_67 : decode cX4_hopeWeight 67 = .ok (.i2l, 1) := by decide +kernel
theorem dX4_hopeWeight_68 : decode cX4_hopeWeight 68 = .ok (.lmul, 1) := by decide +kernel
theorem dX4_hopeWeight_69 : decode cX4_hopeWeight 69 = .ok (.invokestatic 103, 3) := by decide +kernel
theorem dX4_hopeWeight_72 : decode cX4_hopeWeight 72 = .ok (.lstore 4, 2) := by decide +kernel
theorem dX4_hopeWeight_74 : decode cX4_hopeWeight 74 = .ok (.iinc 6 1, 3) := by decide +kernel
theorem dX4_hopeWeight_77 : decode cX4_hopeWeight 77 = .ok (.goto (-69), 3) := by decide +kernel
theorem dX4_hopeWeight_80 : decode cX4_hopeWeight 80 = .ok (.lload_n 2, 1) := by decide +kernel
theorem dX4_hopeWeight_81 : decode cX4_hopeWeight 81 = .ok (.lload 4, 2) := by decide +kernel
theorem dX4_hopeWeight_83 : decode cX4_hopeWeight 83 = .ok (.ladd, 1) := by decide +kernel
theorem dX4_hopeWeight_84 : decode cX4_hopeWeight 84 = .ok (.lreturn, 1) := by decide +kernel
theorem dX4_gap_0 : decode cX4_gap 0 = .ok (.lconst 0, 1) := by decide +kernel
theorem dX4_gap_1 : decode cX4_gap 1 = .ok (.lstore_n 2, 1) := by decide +kernel
theorem dX4_gap_2 : decode cX4_gap 2 = .ok (.iconst 0, 1) := by decide +kernel
theorem dX4_gap_3 : decode cX4_gap 3 = .ok (.istore 4, 2) := by decide +kernel
theorem dX4_gap_5 : decode cX4_gap 5 = .ok (.iload 4, 2) := by decide +kernel
theorem dX4_gap_7 : decode cX4_gap 7 = .ok (.aload_n 0, 1) := by decide +kernel
theorem dX4_gap_8 : decode cX4_gap 8 = .ok (.getfield 66, 3) := by decide +kernel
theorem dX4_gap_11 : decode cX4_gap 11 = .ok (.if_icmp .ge 33, 3) := by decide +kernel
theorem dX4_gap_14 : decode cX4_gap 14 = .ok (.aload_n 0, 1) := by decide +kernel
theorem dX4_gap_15 : decode cX4_gap 15 = .ok (.getfield 22, 3) := by decide +kernel
theorem dX4_gap_18 : decode cX4_gap 18 = .ok (.iload 4, 2) := by decide +kernel
theorem dX4_gap_20 : decode cX4_gap 20 = .ok (.iaload, 1) := by decide +kernel
theorem dX4_gap_21 : decode cX4_gap 21 = .ok (.iload_n 1, 1) := by decide +kernel
theorem dX4_gap_22 : decode cX4_gap 22 = .ok (.invokestatic 54, 3) := by decide +kernel
theorem dX4_gap_25 : decode cX4_gap 25 = .ok (.ifCond .eq 13, 3) := by decide +kernel
theorem dX4_gap_28 : decode cX4_gap 28 = .ok (.lload_n 2, 1) := by decide +kernel
theorem dX4_gap_29 : decode cX4_gap 29 = .ok (.aload_n 0, 1) := by decide +kernel
theorem dX4_gap_30 : decode cX4_gap 30 = .ok (.getfield 18, 3) := by decide +kernel
theorem dX4_gap_33 : decode cX4_gap 33 = .ok (.iload 4, 2) := by decide +kernel
theorem dX4_gap_35 : decode cX4_gap 35 = .ok (.laload, 1) := by decide +kernel
theorem dX4_gap_36 : decode cX4_gap 36 = .ok (.ladd, 1) := by decide +kernel
theorem dX4_gap_37 : decode cX4_gap 37 = .ok (.lstore_n 2, 1) := by decide +kernel
theorem dX4_gap_38 : decode cX4_gap 38 = .ok (.iinc 4 1, 3) := by decide +kernel
theorem dX4_gap_41 : decode cX4_gap 41 = .ok (.goto (-36), 3) := by decide +kernel
theorem dX4_gap_44 : decode cX4_gap 44 = .ok (.aload_n 0, 1) := by decide +kernel
theorem dX4_gap_45 : decode cX4_gap 45 = .ok (.getfield 67, 3) := by decide +kernel
theorem dX4_gap_48 : decode cX4_gap 48 = .ok (.ldc2_w 109, 3) := by decide +kernel
theorem dX4_gap_51 : decode cX4_gap 51 = .ok (.lload_n 2, 1) := by decide +kernel
theorem dX4_gap_52 : decode cX4_gap 52 = .ok (.lmul, 1) := by decide +kernel
theorem dX4_gap_53 : decode cX4_gap 53 = .ok (.lsub, 1) := by decide +kernel
theorem dX4_gap_54 : decode cX4_gap 54 = .ok (.invokestatic 111, 3) := by decide +kernel
theorem dX4_gap_57 : decode cX4_gap 57 = .ok (.lreturn, 1) := by decide +kernel
theorem dX4_nextVersion_0 : decode cX4_nextVersion 0 = .ok (.bipush (-6), 2) := by decide +kernel
theorem dX4_nextVersion_2 : decode cX4_nextVersion 2 = .ok (.istore_n 2, 1) := by decide +kernel
theorem dX4_nextVersion_3 : decode cX4_nextVersion 3 = .ok (.lconst 0, 1) := by decide +kernel
theorem dX4_nextVersion_4 : decode cX4_nextVersion 4 = .ok (.lstore_n 3, 1) := by decide +kernel
theorem dX4_nextVersion_5 : decode cX4_nextVersion 5 = .ok (.iconst 0, 1) := by decide +kernel
theorem dX4_nextVersion_6 : decode cX4_nextVersion 6 = .ok (.istore 5, 2) := by decide +kernel
theorem dX4_nextVersion_8 : decode cX4_nextVersion 8 = .ok (.iload 5, 2) := by decide +kernel
theorem dX4_nextVersion_10 : decode cX4_nextVersion 10 = .ok (.aload_n 0, 1) := by decide +kernel
theorem dX4_nextVersion_11 : decode cX4_nextVersion 11 = .ok (.getfield 25, 3) := by decide +kernel
theorem dX4_nextVersion_14 : decode cX4_nextVersion 14 = .ok (.getfield 77, 3) := by decide +kernel
theorem dX4_nextVersion_17 : decode cX4_nextVersion 17 = .ok (.if_icmp .ge 112, 3) := by decide +kernel
theorem dX4_nextVersion_20 : decode cX4_nextVersion 20 = .ok (.aload_n 0, 1) := by decide +kernel
theorem dX4_nextVersion_21 : decode cX4_nextVersion 21 = .ok (.getfield 25, 3) := by decide +kernel
theorem dX4_nextVersion_24 : decode cX4_nextVersion 24 = .ok (.iload 5, 2) := by decide +kernel
theorem dX4_nextVersion_26 : decode cX4_nextVersion 26 = .ok (.invokevirtual 115, 3) := by decide +kernel
theorem dX4_nextVersion_29 : decode cX4_nextVersion 29 = .ok (.ifCond .ne 6, 3) := by decide +kernel
theorem dX4_nextVersion_32 : decode cX4_nextVersion 32 = .ok (.goto 91, 3) := by decide +kernel
theorem dX4_nextVersion_35 : decode cX4_nextVersion 35 = .ok (.iload_n 1, 1) := by decide +kernel
theorem dX4_nextVersion_36 : decode cX4_nextVersion 36 = .ok (.ifCond .ne 12, 3) := by decide +kernel
theorem dX4_nextVersion_39 : decode cX4_nextVersion 39 = .ok (.aload_n 0, 1) := by decide +kernel
theorem dX4_nextVersion_40 : decode cX4_nextVersion 40 = .ok (.iload 5, 2) := by decide +kernel
theorem dX4_nextVersion_42 : decode cX4_nextVersion 42 = .ok (.invokevirtual 119, 3) := by decide +kernel
theorem dX4_nextVersion_45 : decode cX4_nextVersion 45 = .ok (.goto 10, 3) := by decide +kernel
theorem dX4_nextVersion_48 : decode cX4_nextVersion 48 = .ok (.aload_n 0, 1) := by decide +kernel
theorem dX4_nextVersion_49 : decode cX4_nextVersion 49 = .ok (.iload 5, 2) := by decide +kernel
theorem dX4_nextVersion_51 : decode cX4_nextVersion 51 = .ok (.invokevirtual 123, 3) := by decide +kernel
theorem dX4_nextVersion_54 : decode cX4_nextVersion 54 = .ok (.lneg, 1) := by decide +kernel
theorem dX4_nextVersion_55 : decode cX4_nextVersion 55 = .ok (.lstore 6, 2) := by decide +kernel
theorem dX4_nextVersion_57 : decode cX4_nextVersion 57 = .ok (.iload_n 2, 1) := by decide +kernel
theorem dX4_nextVersion_58 : decode cX4_nextVersion 58 = .ok (.bipush (-6), 2) := by decide +kernel
theorem dX4_nextVersion_60 : decode cX4_nextVersion 60 = .ok (.if_icmp .eq 36, 3) := by decide +kernel
theorem dX4_nextVersion_63 : decode cX4_nextVersion 63 = .ok (.lload 6, 2) := by decide +kernel
theorem dX4_nextVersion_65 : decode cX4_nextVersion 65 = .ok (.lload_n 3, 1) := by decide +kernel
theorem dX4_nextVersion_66 : decode cX4_nextVersion 66 = .ok (.lcmp, 1) := by decide +kernel
theorem dX4_nextVersion_67 : decode cX4_nextVersion 67 = .ok (.ifCond .ne 29, 3) := by decide +kernel
theorem dX4_nextVersion_70 : decode cX4_nextVersion 70 = .ok (.aload_n 0, 1) := by decide +kernel
theorem dX4_nextVersion_71 : decode cX4_nextVersion 71 = .ok (.getfield 25, 3) := by decide +kernel
theorem dX4_nextVersion_74 : decode cX4_nextVersion 74 = .ok (.getfield 126, 3) := by decide +kernel
theorem dX4_nextVersion_77 : decode cX4_nextVersion 77 = .ok (.iload 5, 2) := by decide +kernel
theorem dX4_nextVersion_79 : decode cX4_nextVersion 79 = .ok (.iaload, 1) := by decide +kernel
theorem dX4_nextVersion_80 : decode cX4_nextVersion 80 = .ok (.aload_n 0, 1) := by decide +kernel
theorem dX4_nextVersion_81 : decode cX4_nextVersion 81 = .ok (.getfield 25, 3) := by decide +kernel
theorem dX4_nextVersion_84 : decode cX4_nextVersion 84 = .ok (.getfield 126, 3) := by decide +kernel
theorem dX4_nextVersion_87 : decode cX4_nextVersion 87 = .ok (.iload_n 2, 1) := by decide +kernel
theorem dX4_nextVersion_88 : decode cX4_nextVersion 88 = .ok (.iaload, 1) := by decide +kernel
theorem dX4_nextVersion_89 : decode cX4_nextVersion 89 = .ok (.if_icmp .ge 7, 3) := by decide +kernel
theorem dX4_nextVersion_92 : decode cX4_nextVersion 92 = .ok (.iconst 1, 1) := by decide +kernel
theorem dX4_nextVersion_93 : decode cX4_nextVersion 93 = .ok (.goto 4, 3) := by decide +kernel
theorem dX4_nextVersion_96 : decode cX4_nextVersion 96 = .ok (.iconst 0, 1) := by decide +kernel
theorem dX4_nextVersion_97 : decode cX4_nextVersion 97 = .ok (.istore 8, 2) := by decide +kernel
theorem dX4_nextVersion_99 : decode cX4_nextVersion 99 = .ok (.iload_n 2, 1) := by decide +kernel
theorem dX4_nextVersion_100 : decode cX4_nextVersion 100 = .ok (.bipush (-6), 2) := by decide +kernel
theorem dX4_nextVersion_102 : decode cX4_nextVersion 102 = .ok (.if_icmp .eq 15, 3) := by decide +kernel
theorem dX4_nextVersion_105 : decode cX4_nextVersion 105 = .ok (.lload 6, 2) := by decide +kernel
theorem dX4_nextVersion_107 : decode cX4_nextVersion 107 = .ok (.lload_n 3, 1) := by decide +kernel
theorem dX4_nextVersion_108 : decode cX4_nextVersion 108 = .ok (.lcmp, 1) := by decide +kernel
theorem dX4_nextVersion_109 : decode cX4_nextVersion 109 = .ok (.ifCond .lt 8, 3) := by decide +kernel
theorem dX4_nextVersion_112 : decode cX4_nextVersion 112 = .ok (.iload 8, 2) := by decide +kernel
theorem dX4_nextVersion_114 : decode cX4_nextVersion 114 = .ok (.ifCond .eq 9, 3) := by decide +kernel
theorem dX4_nextVersion_117 : decode cX4_nextVersion 117 = .ok (.iload 5, 2) := by decide +kernel
theorem dX4_nextVersion_119 : decode cX4_nextVersion 119 = .ok (.istore_n 2, 1) := by decide +kernel
theorem dX4_nextVersion_120 : decode cX4_nextVersion 120 = .ok (.lload 6, 2) := by decide +kernel
theorem dX4_nextVersion_122 : decode cX4_nextVersion 122 = .ok (.lstore_n 3, 1) := by decide +kernel
theorem dX4_nextVersion_123 : decode cX4_nextVersion 123 = .ok (.iinc 5 1, 3) := by decide +kernel
theorem dX4_nextVersion_126 : decode cX4_nextVersion 126 = .ok (.goto (-118), 3) := by decide +kernel
theorem dX4_nextVersion_129 : decode cX4_nextVersion 129 = .ok (.iload_n 2, 1) := by decide +kernel
theorem dX4_nextVersion_130 : decode cX4_nextVersion 130 = .ok (.ireturn, 1) := by decide +kernel
theorem dX4_guessIsBelow_0 : decode cX4_guessIsBelow 0 = .ok (.aload_n 0, 1) := by decide +kernel
theorem dX4_guessIsBelow_1 : decode cX4_guessIsBelow 1 = .ok (.getfield 67, 3) := by decide +kernel
theorem dX4_guessIsBelow_4 : decode cX4_guessIsBelow 4 = .ok (.lconst 0, 1) := by decide +kernel
theorem dX4_guessIsBelow_5 : decode cX4_guessIsBelow 5 = .ok (.lcmp, 1) := by decide +kernel
theorem dX4_guessIsBelow_6 : decode cX4_guessIsBelow 6 = .ok (.ifCond .eq 22, 3) := by decide +kernel
theorem dX4_guessIsBelow_9 : decode cX4_guessIsBelow 9 = .ok (.ldc2_w 129, 3) := by decide +kernel
theorem dX4_guessIsBelow_12 : decode cX4_guessIsBelow 12 = .ok (.aload_n 0, 1) := by decide +kernel
theorem dX4_guessIsBelow_13 : decode cX4_guessIsBelow 13 = .ok (.getfield 74, 3) := by decide +kernel
theorem dX4_guessIsBelow_16 : decode cX4_guessIsBelow 16 = .ok (.lmul, 1) := by decide +kernel
theorem dX4_guessIsBelow_17 : decode cX4_guessIsBelow 17 = .ok (.iload_n 1, 1) := by decide +kernel
theorem dX4_guessIsBelow_18 : decode cX4_guessIsBelow 18 = .ok (.i2l, 1) := by decide +kernel
theorem dX4_guessIsBelow_19 : decode cX4_guessIsBelow 19 = .ok (.aload_n 0, 1) := by decide +kernel
theorem dX4_guessIsBelow_20 : decode cX4_guessIsBelow 20 = .ok (.getfield 67, 3) := by decide +kernel
theorem dX4_guessIsBelow_23 : decode cX4_guessIsBelow 23 = .ok (.lmul, 1) := by decide +kernel
theorem dX4_guessIsBelow_24 : decode cX4_guessIsBelow 24 = .ok (.lcmp, 1) := by decide +kernel
theorem dX4_guessIsBelow_25 : decode cX4_guessIsBelow 25 = .ok (.ifCond .ge 7, 3) := by decide +kernel
theorem dX4_guessIsBelow_28 : decode cX4_guessIsBelow 28 = .ok (.iconst 1, 1) := by decide +kernel
theorem dX4_guessIsBelow_29 : decode cX4_guessIsBelow 29 = .ok (.goto 4, 3) := by decide +kernel
theorem dX4_guessIsBelow_32 : decode cX4_guessIsBelow 32 = .ok (.iconst 0, 1) := by decide +kernel
theorem dX4_guessIsBelow_33 : decode cX4_guessIsBelow 33 = .ok (.ireturn, 1) := by decide +kernel
theorem dX5_init_0 : decode cX5_init 0 = .ok (.aload_n 0, 1) := by decide +kernel
theorem dX5_init_1 : decode cX5_init 1 = .ok (.invokespecial 3, 3) := by decide +kernel
theorem dX5_init_4 : decode cX5_init 4 = .ok (.aload_n 0, 1) := by decide +kernel
theorem dX5_init_5 : decode cX5_init 5 = .ok (.bipush 40, 2) := by decide +kernel
theorem dX5_init_7 : decode cX5_init 7 = .ok (.newarray .int, 2) := by decide +kernel
theorem dX5_init_9 : decode cX5_init 9 = .ok (.putfield 9, 3) := by decide +kernel
theorem dX5_init_12 : decode cX5_init 12 = .ok (.aload_n 0, 1) := by decide +kernel
theorem dX5_init_13 : decode cX5_init 13 = .ok (.bipush 42, 2) := by decide +kernel
theorem dX5_init_15 : decode cX5_init 15 = .ok (.newarray .int, 2) := by decide +kernel
theorem dX5_init_17 : decode cX5_init 17 = .ok (.putfield 15, 3) := by decide +kernel
theorem dX5_init_20 : decode cX5_init 20 = .ok (.return_, 1) := by decide +kernel
theorem dX5_add_0 : decode cX5_add 0 = .ok (.aload_n 0, 1) := by decide +kernel
theorem dX5_add_1 : decode cX5_add 1 = .ok (.getfield 18, 3) := by decide +kernel
theorem dX5_add_4 : decode cX5_add 4 = .ok (.bipush 40, 2) := by decide +kernel
theorem dX5_add_6 : decode cX5_add 6 = .ok (.if_icmp .lt 6, 3) := by decide +kernel
theorem dX5_add_9 : decode cX5_add 9 = .ok (.bipush (-4), 2) := by decide +kernel
theorem dX5_add_11 : decode cX5_add 11 = .ok (.ireturn, 1) := by decide +kernel
theorem dX5_add_12 : decode cX5_add 12 = .ok (.aload_n 0, 1) := by decide +kernel
theorem dX5_add_13 : decode cX5_add 13 = .ok (.getfield 9, 3) := by decide +kernel
theorem dX5_add_16 : decode cX5_add 16 = .ok (.aload_n 0, 1) := by decide +kernel
theorem dX5_add_17 : decode cX5_add 17 = .ok (.getfield 18, 3) := by decide +kernel
theorem dX5_add_20 : decode cX5_add 20 = .ok (.iload_n 1, 1) := by decide +kernel
theorem dX5_add_21 : decode cX5_add 21 = .ok (.iastore, 1) := by decide +kernel
theorem dX5_add_22 : decode cX5_add 22 = .ok (.aload_n 0, 1) := by decide +kernel
theorem dX5_add_23 : decode cX5_add 23 = .ok (.dup, 1) := by decide +kernel
theorem dX5_add_24 : decode cX5_add 24 = .ok (.getfield 18, 3) := by decide +kernel
theorem dX5_add_27 : decode cX5_add 27 = .ok (.iconst 1, 1) := by decide +kernel
theorem dX5_add_28 : decode cX5_add 28 = .ok (.iadd, 1) := by decide +kernel
theorem dX5_add_29 : decode cX5_add 29 = .ok (.putfield 18, 3) := by decide +kernel
theorem dX5_add_32 : decode cX5_add 32 = .ok (.aload_n 0, 1) := by decide +kernel
theorem dX5_add_33 : decode cX5_add 33 = .ok (.getfield 18, 3) := by decide +kernel
theorem dX5_add_36 : decode cX5_add 36 = .ok (.ireturn, 1) := by decide +kernel
theorem dX5_textsOf_0 : decode cX5_textsOf 0 = .ok (.iload_n 0, 1) := by decide +kernel
theorem dX5_textsOf_1 : decode cX5_textsOf 1 = .ok (.bipush 97, 2) := by decide +kernel
theorem dX5_textsOf_3 : decode cX5_textsOf 3 = .ok (.if_icmp .lt 11, 3) := by decide +kernel
theorem dX5_textsOf_6 : decode cX5_textsOf 6 = .ok (.iload_n 0, 1) := by decide +kernel
theorem dX5_textsOf_7 : decode cX5_textsOf 7 = .ok (.bipush 109, 2) := by decide +kernel
theorem dX5_textsOf_9 : decode cX5_textsOf 9 = .ok (.if_icmp .ge 5, 3) := by decide +kernel
theorem dX5_textsOf_12 : decode cX5_textsOf 12 = .ok (.iconst 0, 1) := by decide +kernel
theorem dX5_textsOf_13 : decode cX5_textsOf 13 = .ok (.ireturn, 1) := by decide +kernel
theorem dX5_textsOf_14 : decode cX5_textsOf 14 = .ok (.iload_n 0, 1) := by decide +kernel
theorem dX5_textsOf_15 : decode cX5_textsOf 15 = .ok (.lookupswitch 37 #[(33, 33), (38, 35), (124, 35)], 33) := by decide +kernel
theorem dX5_textsOf_48 : decode cX5_textsOf 48 = .ok (.iconst 1, 1) := by decide +kernel
theorem dX5_textsOf_49 : decode cX5_textsOf 49 = .ok (.ireturn, 1) := by decide +kernel
theorem dX5_textsOf_50 : decode cX5_textsOf 50 = .ok (.iconst 2, 1) := by decide +kernel
theorem dX5_textsOf_51 : decode cX5_textsOf 51 = .ok (.ireturn, 1) := by decide +kernel
theorem dX5_textsOf_52 : decode cX5_textsOf 52 = .ok (.iconst (-1), 1) := by decide +kernel
theorem dX5_textsOf_53 : decode cX5_textsOf 53 = .ok (.ireturn, 1) := by decide +kernel
theorem dX5_firstFault_0 : decode cX5_firstFault 0 = .ok (.iconst 1, 1) := by decide +kernel
theorem dX5_firstFault_1 : decode cX5_firstFault 1 = .ok (.istore_n 1, 1) := by decide +kernel
theorem dX5_firstFault_2 : decode cX5_firstFault 2 = .ok (.aload_n 0, 1) := by decide +kernel
theorem dX5_firstFault_3 : decode cX5_firstFault 3 = .ok (.getfield 15, 3) := by decide +kernel
theorem dX5_firstFault_6 : decode cX5_firstFault 6 = .ok (.iconst 0, 1) := by decide +kernel
theorem dX5_firstFault_7 : decode cX5_firstFault 7 = .ok (.iconst 0, 1) := by decide +kernel
theorem dX5_firstFault_8 : decode cX5_firstFault 8 = .ok (.iastore, 1) := by decide +kernel
theorem dX5_firstFault_9 : decode cX5_firstFault 9 = .ok (.iconst 0, 1) := by decide +kernel
theorem dX5_firstFault_10 : decode cX5_firstFault 10 = .ok (.istore_n 2, 1) := by decide +kernel
theorem dX5_firstFault_11 : decode cX5_firstFault 11 = .ok (.iload_n 2, 1) := by decide +kernel
theorem dX5_firstFault_12 : decode cX5_firstFault 12 = .ok (.aload_n 0, 1) := by decide +kernel
theorem dX5_firstFault_13 : decode cX5_firstFault 13 = .ok (.getfield 18, 3) := by decide +kernel
theorem dX5_firstFault_16 : decode cX5_firstFault 16 = .ok (.if_icmp .ge 83, 3) := by decide +kernel
theorem dX5_firstFault_19 : decode cX5_firstFault 19 = .ok (.iload_n 1, 1) := by decide +kernel
theorem dX5_firstFault_20 : decode cX5_firstFault 20 = .ok (.ifCond .ne 5, 3) := by decide +kernel
theorem dX5_firstFault_23 : decode cX5_firstFault 23 = .ok (.iload_n 2, 1) := by decide +kernel
theorem dX5_firstFault_24 : decode cX5_firstFault 24 = .ok (.ireturn, 1) := by decide +kernel
theorem dX5_firstFault_25 : decode cX5_firstFault 25 = .ok (.iinc 1 (-1), 3) := by decide +kernel
theorem dX5_firstFault_28 : decode cX5_firstFault 28 = .ok (.aload_n 0, 1) := by decide +kernel
theorem dX5_firstFault_29 : decode cX5_firstFault 29 = .ok (.getfield 15, 3) := by decide +kernel
theorem dX5_firstFault_32 : decode cX5_firstFault 32 = .ok (.iload_n 1, 1) := by decide +kernel
theorem dX5_firstFault_33 : decode cX5_firstFault 33 = .ok (.iaload, 1) := by decide +kernel
