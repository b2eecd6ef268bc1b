theorem dX8_step_0 : decode cX8_step 0 = .ok (.aload_n 0, 1) := by decide +kernel
theorem dX8_step_1 : decode cX8_step 1 = .ok (.iload_n 3, 1) := by decide +kernel
theorem dX8_step_2 : decode cX8_step 2 = .ok (.iload 4, 2) := by decide +kernel
theorem dX8_step_4 : decode cX8_step 4 = .ok (.invokevirtual 76, 3) := by decide +kernel
theorem dX8_step_7 : decode cX8_step 7 = .ok (.i2l, 1) := by decide +kernel
theorem dX8_step_8 : decode cX8_step 8 = .ok (.aload_n 0, 1) := by decide +kernel
theorem dX8_step_9 : decode cX8_step 9 = .ok (.iload 4, 2) := by decide +kernel
theorem dX8_step_11 : decode cX8_step 11 = .ok (.aload_n 0, 1) := by decide +kernel
theorem dX8_step_12 : decode cX8_step 12 = .ok (.iload_n 1, 1) := by decide +kernel
theorem dX8_step_13 : decode cX8_step 13 = .ok (.iload_n 2, 1) := by decide +kernel
theorem dX8_step_14 : decode cX8_step 14 = .ok (.iconst 1, 1) := by decide +kernel
theorem dX8_step_15 : decode cX8_step 15 = .ok (.iadd, 1) := by decide +kernel
theorem dX8_step_16 : decode cX8_step 16 = .ok (.invokevirtual 69, 3) := by decide +kernel
theorem dX8_step_19 : decode cX8_step 19 = .ok (.invokevirtual 73, 3) := by decide +kernel
theorem dX8_step_22 : decode cX8_step 22 = .ok (.i2l, 1) := by decide +kernel
theorem dX8_step_23 : decode cX8_step 23 = .ok (.lmul, 1) := by decide +kernel
theorem dX8_step_24 : decode cX8_step 24 = .ok (.lreturn, 1) := by decide +kernel
theorem dX8_laysBehind_0 : decode cX8_laysBehind 0 = .ok (.lconst 0, 1) := by decide +kernel
theorem dX8_laysBehind_1 : decode cX8_laysBehind 1 = .ok (.lstore 4, 2) := by decide +kernel
theorem dX8_laysBehind_3 : decode cX8_laysBehind 3 = .ok (.lconst 0, 1) := by decide +kernel
theorem dX8_laysBehind_4 : decode cX8_laysBehind 4 = .ok (.lstore 6, 2) := by decide +kernel
theorem dX8_laysBehind_6 : decode cX8_laysBehind 6 = .ok (.lconst 0, 1) := by decide +kernel
theorem dX8_laysBehind_7 : decode cX8_laysBehind 7 = .ok (.lstore 8, 2) := by decide +kernel
theorem dX8_laysBehind_9 : decode cX8_laysBehind 9 = .ok (.iconst 0, 1) := by decide +kernel
theorem dX8_laysBehind_10 : decode cX8_laysBehind 10 = .ok (.istore 10, 2) := by decide +kernel
theorem dX8_laysBehind_12 : decode cX8_laysBehind 12 = .ok (.iload 10, 2) := by decide +kernel
theorem dX8_laysBehind_14 : decode cX8_laysBehind 14 = .ok (.aload_n 0, 1) := by decide +kernel
theorem dX8_laysBehind_15 : decode cX8_laysBehind 15 = .ok (.getfield 7, 3) := by decide +kernel
theorem dX8_laysBehind_18 : decode cX8_laysBehind 18 = .ok (.iconst 0, 1) := by decide +kernel
theorem dX8_laysBehind_19 : decode cX8_laysBehind 19 = .ok (.iaload, 1) := by decide +kernel
theorem dX8_laysBehind_20 : decode cX8_laysBehind 20 = .ok (.if_icmp .ge 105, 3) := by decide +kernel
theorem dX8_laysBehind_23 : decode cX8_laysBehind 23 = .ok (.aload_n 0, 1) := by decide +kernel
theorem dX8_laysBehind_24 : decode cX8_laysBehind 24 = .ok (.iload_n 1, 1) := by decide +kernel
theorem dX8_laysBehind_25 : decode cX8_laysBehind 25 = .ok (.iload_n 2, 1) := by decide +kernel
theorem dX8_laysBehind_26 : decode cX8_laysBehind 26 = .ok (.iload_n 3, 1) := by decide +kernel
theorem dX8_laysBehind_27 : decode cX8_laysBehind 27 = .ok (.iload 10, 2) := by decide +kernel
theorem dX8_laysBehind_29 : decode cX8_laysBehind 29 = .ok (.invokevirtual 83, 3) := by decide +kernel
theorem dX8_laysBehind_32 : decode cX8_laysBehind 32 = .ok (.lstore 11, 2) := by decide +kernel
theorem dX8_laysBehind_34 : decode cX8_laysBehind 34 = .ok (.lload 11, 2) := by decide +kernel
theorem dX8_laysBehind_36 : decode cX8_laysBehind 36 = .ok (.aload_n 0, 1) := by decide +kernel
theorem dX8_laysBehind_37 : decode cX8_laysBehind 37 = .ok (.getfield 32, 3) := by decide +kernel
theorem dX8_laysBehind_40 : decode cX8_laysBehind 40 = .ok (.iconst 4, 1) := by decide +kernel
theorem dX8_laysBehind_41 : decode cX8_laysBehind 41 = .ok (.iload_n 2, 1) := by decide +kernel
theorem dX8_laysBehind_42 : decode cX8_laysBehind 42 = .ok (.imul, 1) := by decide +kernel
theorem dX8_laysBehind_43 : decode cX8_laysBehind 43 = .ok (.iconst 4, 1) := by decide +kernel
theorem dX8_laysBehind_44 : decode cX8_laysBehind 44 = .ok (.iadd, 1) := by decide +kernel
theorem dX8_laysBehind_45 : decode cX8_laysBehind 45 = .ok (.iload 10, 2) := by decide +kernel
theorem dX8_laysBehind_47 : decode cX8_laysBehind 47 = .ok (.iadd, 1) := by decide +kernel
theorem dX8_laysBehind_48 : decode cX8_laysBehind 48 = .ok (.laload, 1) := by decide +kernel
theorem dX8_laysBehind_49 : decode cX8_laysBehind 49 = .ok (.lmul, 1) := by decide +kernel
theorem dX8_laysBehind_50 : decode cX8_laysBehind 50 = .ok (.lstore 13, 2) := by decide +kernel
theorem dX8_laysBehind_52 : decode cX8_laysBehind 52 = .ok (.lload 4, 2) := by decide +kernel
theorem dX8_laysBehind_54 : decode cX8_laysBehind 54 = .ok (.lload 11, 2) := by decide +kernel
theorem dX8_laysBehind_56 : decode cX8_laysBehind 56 = .ok (.aload_n 0, 1) := by decide +kernel
theorem dX8_laysBehind_57 : decode cX8_laysBehind 57 = .ok (.getfield 29, 3) := by decide +kernel
theorem dX8_laysBehind_60 : decode cX8_laysBehind 60 = .ok (.iconst 4, 1) := by decide +kernel
theorem dX8_laysBehind_61 : decode cX8_laysBehind 61 = .ok (.iload_n 2, 1) := by decide +kernel
theorem dX8_laysBehind_62 : decode cX8_laysBehind 62 = .ok (.imul, 1) := by decide +kernel
theorem dX8_laysBehind_63 : decode cX8_laysBehind 63 = .ok (.iconst 4, 1) := by decide +kernel
theorem dX8_laysBehind_64 : decode cX8_laysBehind 64 = .ok (.iadd, 1) := by decide +kernel
theorem dX8_laysBehind_65 : decode cX8_laysBehind 65 = .ok (.iload 10, 2) := by decide +kernel
theorem dX8_laysBehind_67 : decode cX8_laysBehind 67 = .ok (.iadd, 1) := by decide +kernel
theorem dX8_laysBehind_68 : decode cX8_laysBehind 68 = .ok (.laload, 1) := by decide +kernel
theorem dX8_laysBehind_69 : decode cX8_laysBehind 69 = .ok (.lmul, 1) := by decide +kernel
theorem dX8_laysBehind_70 : decode cX8_laysBehind 70 = .ok (.ladd, 1) := by decide +kernel
theorem dX8_laysBehind_71 : decode cX8_laysBehind 71 = .ok (.lstore 4, 2) := by decide +kernel
theorem dX8_laysBehind_73 : decode cX8_laysBehind 73 = .ok (.lload 13, 2) := by decide +kernel
theorem dX8_laysBehind_75 : decode cX8_laysBehind 75 = .ok (.lload 6, 2) := by decide +kernel
theorem dX8_laysBehind_77 : decode cX8_laysBehind 77 = .ok (.lcmp, 1) := by decide +kernel
theorem dX8_laysBehind_78 : decode cX8_laysBehind 78 = .ok (.ifCond .le 8, 3) := by decide +kernel
theorem dX8_laysBehind_81 : decode cX8_laysBehind 81 = .ok (.lload 13, 2) := by decide +kernel
theorem dX8_laysBehind_83 : decode cX8_laysBehind 83 = .ok (.goto 5, 3) := by decide +kernel
theorem dX8_laysBehind_86 : decode cX8_laysBehind 86 = .ok (.lload 6, 2) := by decide +kernel
theorem dX8_laysBehind_88 : decode cX8_laysBehind 88 = .ok (.lstore 6, 2) := by decide +kernel
theorem dX8_laysBehind_90 : decode cX8_laysBehind 90 = .ok (.lload 8, 2) := by decide +kernel
theorem dX8_laysBehind_92 : decode cX8_laysBehind 92 = .ok (.lload 11, 2) := by decide +kernel
theorem dX8_laysBehind_94 : decode cX8_laysBehind 94 = .ok (.lconst 0, 1) := by decide +kernel
theorem dX8_laysBehind_95 : decode cX8_laysBehind 95 = .ok (.lcmp, 1) := by decide +kernel
theorem dX8_laysBehind_96 : decode cX8_laysBehind 96 = .ok (.ifCond .le 19, 3) := by decide +kernel
theorem dX8_laysBehind_99 : decode cX8_laysBehind 99 = .ok (.aload_n 0, 1) := by decide +kernel
theorem dX8_laysBehind_100 : decode cX8_laysBehind 100 = .ok (.getfield 35, 3) := by decide +kernel
theorem dX8_laysBehind_103 : decode cX8_laysBehind 103 = .ok (.iconst 4, 1) := by decide +kernel
theorem dX8_laysBehind_104 : decode cX8_laysBehind 104 = .ok (.iload_n 2, 1) := by decide +kernel
theorem dX8_laysBehind_105 : decode cX8_laysBehind 105 = .ok (.imul, 1) := by decide +kernel
theorem dX8_laysBehind_106 : decode cX8_laysBehind 106 = .ok (.iconst 4, 1) := by decide +kernel
theorem dX8_laysBehind_107 : decode cX8_laysBehind 107 = .ok (.iadd, 1) := by decide +kernel
theorem dX8_laysBehind_108 : decode cX8_laysBehind 108 = .ok (.iload 10, 2) := by decide +kernel
theorem dX8_laysBehind_110 : decode cX8_laysBehind 110 = .ok (.iadd, 1) := by decide +kernel
theorem dX8_laysBehind_111 : decode cX8_laysBehind 111 = .ok (.laload, 1) := by decide +kernel
theorem dX8_laysBehind_112 : decode cX8_laysBehind 112 = .ok (.goto 4, 3) := by decide +kernel
theorem dX8_laysBehind_115 : decode cX8_laysBehind 115 = .ok (.lconst 0, 1) := by decide +kernel
theorem dX8_laysBehind_116 : decode cX8_laysBehind 116 = .ok (.ladd, 1) := by decide +kernel
theorem dX8_laysBehind_117 : decode cX8_laysBehind 117 = .ok (.lstore 8, 2) := by decide +kernel
theorem dX8_laysBehind_119 : decode cX8_laysBehind 119 = .ok (.iinc 10 1, 3) := by decide +kernel
theorem dX8_laysBehind_122 : decode cX8_laysBehind 122 = .ok (.goto (-110), 3) := by decide +kernel
theorem dX8_laysBehind_125 : decode cX8_laysBehind 125 = .ok (.aload_n 0, 1) := by decide +kernel
theorem dX8_laysBehind_126 : decode cX8_laysBehind 126 = .ok (.getfield 29, 3) := by decide +kernel
theorem dX8_laysBehind_129 : decode cX8_laysBehind 129 = .ok (.iconst 4, 1) := by decide +kernel
theorem dX8_laysBehind_130 : decode cX8_laysBehind 130 = .ok (.iload_n 2, 1) := by decide +kernel
theorem dX8_laysBehind_131 : decode cX8_laysBehind 131 = .ok (.imul, 1) := by decide +kernel
theorem dX8_laysBehind_132 : decode cX8_laysBehind 132 = .ok (.iload_n 3, 1) := by decide +kernel
theorem dX8_laysBehind_133 : decode cX8_laysBehind 133 = .ok (.iadd, 1) := by decide +kernel
theorem dX8_laysBehind_134 : decode cX8_laysBehind 134 = .ok (.lload 4, 2) := by decide +kernel
theorem dX8_laysBehind_136 : decode cX8_laysBehind 136 = .ok (.lastore, 1) := by decide +kernel
theorem dX8_laysBehind_137 : decode cX8_laysBehind 137 = .ok (.aload_n 0, 1) := by decide +kernel
theorem dX8_laysBehind_138 : decode cX8_laysBehind 138 = .ok (.getfield 32, 3) := by decide +kernel
theorem dX8_laysBehind_141 : decode cX8_laysBehind 141 = .ok (.iconst 4, 1) := by decide +kernel
theorem dX8_laysBehind_142 : decode cX8_laysBehind 142 = .ok (.iload_n 2, 1) := by decide +kernel
theorem dX8_laysBehind_143 : decode cX8_laysBehind 143 = .ok (.imul, 1) := by decide +kernel
theorem dX8_laysBehind_144 : decode cX8_laysBehind 144 = .ok (.iload_n 3, 1) := by decide +kernel
theorem dX8_laysBehind_145 : decode cX8_laysBehind 145 = .ok (.iadd, 1) := by decide +kernel
theorem dX8_laysBehind_146 : decode cX8_laysBehind 146 = .ok (.lload 6, 2) := by decide +kernel
theorem dX8_laysBehind_148 : decode cX8_laysBehind 148 = .ok (.lastore, 1) := by decide +kernel
theorem dX8_laysBehind_149 : decode cX8_laysBehind 149 = .ok (.aload_n 0, 1) := by decide +kernel
theorem dX8_laysBehind_150 : decode cX8_laysBehind 150 = .ok (.getfield 35, 3) := by decide +kernel
theorem dX8_laysBehind_153 : decode cX8_laysBehind 153 = .ok (.iconst 4, 1) := by decide +kernel
theorem dX8_laysBehind_154 : decode cX8_laysBehind 154 = .ok (.iload_n 2, 1) := by decide +kernel
theorem dX8_laysBehind_155 : decode cX8_laysBehind 155 = .ok (.imul, 1) := by decide +kernel
theorem dX8_laysBehind_156 : decode cX8_laysBehind 156 = .ok (.iload_n 3, 1) := by decide +kernel
theorem dX8_laysBehind_157 : decode cX8_laysBehind 157 = .ok (.iadd, 1) := by decide +kernel
theorem dX8_laysBehind_158 : decode cX8_laysBehind 158 = .ok (.lload 8, 2) := by decide +kernel
theorem dX8_laysBehind_160 : decode cX8_laysBehind 160 = .ok (.lastore, 1) := by decide +kernel
theorem dX8_laysBehind_161 : decode cX8_laysBehind 161 = .ok (.return_, 1) := by decide +kernel
theorem dX8_weightAt_0 : decode cX8_weightAt 0 = .ok (.aload_n 0, 1) := by decide +kernel
theorem dX8_weightAt_1 : decode cX8_weightAt 1 = .ok (.getfield 25, 3) := by decide +kernel
theorem dX8_weightAt_4 : decode cX8_weightAt 4 = .ok (.iconst 4, 1) := by decide +kernel
theorem dX8_weightAt_5 : decode cX8_weightAt 5 = .ok (.iload_n 1, 1) := by decide +kernel
theorem dX8_weightAt_6 : decode cX8_weightAt 6 = .ok (.imul, 1) := by decide +kernel
theorem dX8_weightAt_7 : decode cX8_weightAt 7 = .ok (.iload_n 2, 1) := by decide +kernel
theorem dX8_weightAt_8 : decode cX8_weightAt 8 = .ok (.iadd, 1) := by decide +kernel
theorem dX8_weightAt_9 : decode cX8_weightAt 9 = .ok (.laload, 1) := by decide +kernel
theorem dX8_weightAt_10 : decode cX8_weightAt 10 = .ok (.aload_n 0, 1) := by decide +kernel
theorem dX8_weightAt_11 : decode cX8_weightAt 11 = .ok (.getfield 29, 3) := by decide +kernel
theorem dX8_weightAt_14 : decode cX8_weightAt 14 = .ok (.iconst 4, 1) := by decide +kernel
theorem dX8_weightAt_15 : decode cX8_weightAt 15 = .ok (.iload_n 1, 1) := by decide +kernel
theorem dX8_weightAt_16 : decode cX8_weightAt 16 = .ok (.imul, 1) := by decide +kernel
theorem dX8_weightAt_17 : decode cX8_weightAt 17 = .ok (.iload_n 2, 1) := by decide +kernel
theorem dX8_weightAt_18 : decode cX8_weightAt 18 = .ok (.iadd, 1) := by decide +kernel
theorem dX8_weightAt_19 : decode cX8_weightAt 19 = .ok (.laload, 1) := by decide +kernel
theorem dX8_weightAt_20 : decode cX8_weightAt 20 = .ok (.lmul, 1) := by decide +kernel
theorem dX8_weightAt_21 : decode cX8_weightAt 21 = .ok (.lreturn, 1) := by decide +kernel
theorem dX8_total_0 : decode cX8_total 0 = .ok (.lconst 0, 1) := by decide +kernel
theorem dX8_total_1 : decode cX8_total 1 = .ok (.lstore_n 1, 1) := by decide +kernel
theorem dX8_total_2 : decode cX8_total 2 = .ok (.iconst 0, 1) := by decide +kernel
theorem dX8_total_3 : decode cX8_total 3 = .ok (.istore_n 3, 1) := by decide +kernel
theorem dX8_total_4 : decode cX8_total 4 = .ok (.iload_n 3, 1) := by decide +kernel
theorem dX8_total_5 : decode cX8_total 5 = .ok (.aload_n 0, 1) := by decide +kernel
theorem dX8_total_6 : decode cX8_total 6 = .ok (.getfield 7, 3) := by decide +kernel
theorem dX8_total_9 : decode cX8_total 9 = .ok (.iconst 0, 1) := by decide +kernel
theorem dX8_total_10 : decode cX8_total 10 = .ok (.iaload, 1) := by decide +kernel
theorem dX8_total_11 : decode cX8_total 11 = .ok (.if_icmp .ge 18, 3) := by decide +kernel
theorem dX8_total_14 : decode cX8_total 14 = .ok (.lload_n 1, 1) := by decide +kernel
theorem dX8_total_15 : decode cX8_total 15 = .ok (.aload_n 0, 1) := by decide +kernel
theorem dX8_total_16 : decode cX8_total 16 = .ok (.iconst 0, 1) := by decide +kernel
theorem dX8_total_17 : decode cX8_total 17 = .ok (.iload_n 3, 1) := by decide +kernel
theorem dX8_total_18 : decode cX8_total 18 = .ok (.invokevirtual 87, 3) := by decide +kernel
theorem dX8_total_21 : decode cX8_total 21 = .ok (.ladd, 1) := by decide +kernel
theorem dX8_total_22 : decode cX8_total 22 = .ok (.lstore_n 1, 1) := by decide +kernel
theorem dX8_total_23 : decode cX8_total 23 = .ok (.iinc 3 1, 3) := by decide +kernel
theorem dX8_total_26 : decode cX8_total 26 = .ok (.goto (-22), 3) := by decide +kernel
theorem dX8_total_29 : decode cX8_total 29 = .ok (.lload_n 1, 1) := by decide +kernel
theorem dX8_total_30 : decode cX8_total 30 = .ok (.lreturn, 1) := by decide +kernel
theorem dX8_runsThatCount_0 : decode cX8_runsThatCount 0 = .ok (.lconst 0, 1) := by decide +kernel
theorem dX8_runsThatCount_1 : decode cX8_runsThatCount 1 = .ok (.lstore_n 1, 1) := by decide +kernel
theorem dX8_runsThatCount_2 : decode cX8_runsThatCount 2 = .ok (.iconst 0, 1) := by decide +kernel
theorem dX8_runsThatCount_3 : decode cX8_runsThatCount 3 = .ok (.istore_n 3, 1) := by decide +kernel
theorem dX8_runsThatCount_4 : decode cX8_runsThatCount 4 = .ok (.iload_n 3, 1) := by decide +kernel
theorem dX8_runsThatCount_5 : decode cX8_runsThatCount 5 = .ok (.aload_n 0, 1) := by decide +kernel
theorem dX8_runsThatCount_6 : decode cX8_runsThatCount 6 = .ok (.getfield 7, 3) := by decide +kernel
theorem dX8_runsThatCount_9 : decode cX8_runsThatCount 9 = .ok (.iconst 0, 1) := by decide +kernel
theorem dX8_runsThatCount_10 : decode cX8_runsThatCount 10 = .ok (.iaload, 1) := by decide +kernel
theorem dX8_runsThatCount_11 : decode cX8_runsThatCount 11 = .ok (.if_icmp .ge 33, 3) := by decide +kernel
theorem dX8_runsThatCount_14 : decode cX8_runsThatCount 14 = .ok (.lload_n 1, 1) := by decide +kernel
theorem dX8_runsThatCount_15 : decode cX8_runsThatCount 15 = .ok (.aload_n 0, 1) := by decide +kernel
theorem dX8_runsThatCount_16 : decode cX8_runsThatCount 16 = .ok (.getfield 25, 3) := by decide +kernel
theorem dX8_runsThatCount_19 : decode cX8_runsThatCount 19 = .ok (.iload_n 3, 1) := by decide +kernel
theorem dX8_runsThatCount_20 : decode cX8_runsThatCount 20 = .ok (.laload, 1) := by decide +kernel
theorem dX8_runsThatCount_21 : decode cX8_runsThatCount 21 = .ok (.lconst 0, 1) := by decide +kernel
theorem dX8_runsThatCount_22 : decode cX8_runsThatCount 22 = .ok (.lcmp, 1) := by decide +kernel
theorem dX8_runsThatCount_23 : decode cX8_runsThatCount 23 = .ok (.ifCond .le 12, 3) := by decide +kernel
theorem dX8_runsThatCount_26 : decode cX8_runsThatCount 26 = .ok (.aload_n 0, 1) := by decide +kernel
theorem dX8_runsThatCount_27 : decode cX8_runsThatCount 27 = .ok (.getfield 35, 3) := by decide +kernel
theorem dX8_runsThatCount_30 : decode cX8_runsThatCount 30 = .ok (.iload_n 3, 1) := by decide +kernel
theorem dX8_runsThatCount_31 : decode cX8_runsThatCount 31 = .ok (.laload, 1) := by decide +kernel
theorem dX8_runsThatCount_32 : decode cX8_runsThatCount 32 = .ok (.goto 4, 3) := by decide +kernel
theorem dX8_runsThatCount_35 : decode cX8_runsThatCount 35 = .ok (.lconst 0, 1) := by decide +kernel
theorem dX8_runsThatCount_36 : decode cX8_runsThatCount 36 = .ok (.ladd, 1) := by decide +kernel
theorem dX8_runsThatCount_37 : decode cX8_runsThatCount 37 = .ok (.lstore_n 1, 1) := by decide +kernel
theorem dX8_runsThatCount_38 : decode cX8_runsThatCount 38 = .ok (.iinc 3 1, 3) := by decide +kernel
theorem dX8_runsThatCount_41 : decode cX8_runsThatCount 41 = .ok (.goto (-37), 3) := by decide +kernel
theorem dX8_runsThatCount_44 : decode cX8_runsThatCount 44 = .ok (.lload_n 1, 1) := by decide +kernel
theorem dX8_runsThatCount_45 : decode cX8_runsThatCount 45 = .ok (.lreturn, 1) := by decide +kernel
theorem dX8_bestWeight_0 : decode cX8_bestWeight 0 = .ok (.lconst 0, 1) := by decide +kernel
theorem dX8_bestWeight_1 : decode cX8_bestWeight 1 = .ok (.lstore_n 1, 1) := by decide +kernel
theorem dX8_bestWeight_2 : decode cX8_bestWeight 2 = .ok (.iconst 0, 1) := by decide +kernel
theorem dX8_bestWeight_3 : decode cX8_bestWeight 3 = .ok (.istore_n 3, 1) := by decide +kernel
theorem dX8_bestWeight_4 : decode cX8_bestWeight 4 = .ok (.iload_n 3, 1) := by decide +kernel
theorem dX8_bestWeight_5 : decode cX8_bestWeight 5 = .ok (.aload_n 0, 1) := by decide +kernel
theorem dX8_bestWeight_6 : decode cX8_bestWeight 6 = .ok (.getfield 7, 3) := by decide +kernel
theorem dX8_bestWeight_9 : decode cX8_bestWeight 9 = .ok (.iconst 0, 1) := by decide +kernel
theorem dX8_bestWeight_10 : decode cX8_bestWeight 10 = .ok (.iaload, 1) := by decide +kernel
theorem dX8_bestWeight_11 : decode cX8_bestWeight 11 = .ok (.if_icmp .ge 38, 3) := by decide +kernel
theorem dX8_bestWeight_14 : decode cX8_bestWeight 14 = .ok (.aload_n 0, 1) := by decide +kernel
theorem dX8_bestWeight_15 : decode cX8_bestWeight 15 = .ok (.getfield 25, 3) := by decide +kernel
theorem dX8_bestWeight_18 : decode cX8_bestWeight 18 = .ok (.iload_n 3, 1) := by decide +kernel
theorem dX8_bestWeight_19 : decode cX8_bestWeight 19 = .ok (.laload, 1) := by decide +kernel
theorem dX8_bestWeight_20 : decode cX8_bestWeight 20 = .ok (.aload_n 0, 1) := by decide +kernel
theorem dX8_bestWeight_21 : decode cX8_bestWeight 21 = .ok (.getfield 32, 3) := by decide +kernel
theorem dX8_bestWeight_24 : decode cX8_bestWeight 24 = .ok (.iload_n 3, 1) := by decide +kernel
theorem dX8_bestWeight_25 : decode cX8_bestWeight 25 = .ok (.laload, 1) := by decide +kernel
theorem dX8_bestWeight_26 : decode cX8_bestWeight 26 = .ok (.lmul, 1) := by decide +kernel
theorem dX8_bestWeight_27 : decode cX8_bestWeight 27 = .ok (.lstore 4, 2) := by decide +kernel
theorem dX8_bestWeight_29 : decode cX8_bestWeight 29 = .ok (.lload 4, 2) := by decide +kernel
theorem dX8_bestWeight_31 : decode cX8_bestWeight 31 = .ok (.lload_n 1, 1) := by decide +kernel
theorem dX8_bestWeight_32 : decode cX8_bestWeight 32 = .ok (.lcmp, 1) := by decide +kernel
theorem dX8_bestWeight_33 : decode cX8_bestWeight 33 = .ok (.ifCond .le 8, 3) := by decide +kernel
theorem dX8_bestWeight_36 : decode cX8_bestWeight 36 = .ok (.lload 4, 2) := by decide +kernel
theorem dX8_bestWeight_38 : decode cX8_bestWeight 38 = .ok (.goto 4, 3) := by decide +kernel
theorem dX8_bestWeight_41 : decode cX8_bestWeight 41 = .ok (.lload_n 1, 1) := by decide +kernel
theorem dX8_bestWeight_42 : decode cX8_bestWeight 42 = .ok (.lstore_n 1, 1) := by decide +kernel
theorem dX8_bestWeight_43 : decode cX8_bestWeight 43 = .ok (.iinc 3 1, 3) := by decide +kernel
theorem dX8_bestWeight_46 : decode cX8_bestWeight 46 = .ok (.goto (-42), 3) := by decide +kernel
theorem dX8_bestWeight_49 : decode cX8_bestWeight 49 = .ok (.lload_n 1, 1) := by decide +kernel
theorem dX8_bestWeight_50 : decode cX8_bestWeight 50 = .ok (.lreturn, 1) := by decide +kernel
theorem dX8_shareOf_0 : decode cX8_shareOf 0 = .ok (.lload_n 0, 1) := by decide +kernel
theorem dX8_shareOf_1 : decode cX8_shareOf 1 = .ok (.lload_n 2, 1) := by decide +kernel
theorem dX8_shareOf_2 : decode cX8_shareOf 2 = .ok (.ldiv, 1) := by decide +kernel
theorem dX8_shareOf_3 : decode cX8_shareOf 3 = .ok (.lstore 4, 2) := by decide +kernel
theorem dX8_shareOf_5 : decode cX8_shareOf 5 = .ok (.lload_n 0, 1) := by decide +kernel
theorem dX8_shareOf_6 : decode cX8_shareOf 6 = .ok (.lload_n 2, 1) := by decide +kernel
theorem dX8_shareOf_7 : decode cX8_shareOf 7 = .ok (.lrem, 1) := by decide +kernel
theorem dX8_shareOf_8 : decode cX8_shareOf 8 = .ok (.lstore 6, 2) := by decide +kernel
theorem dX8_shareOf_10 : decode cX8_shareOf 10 = .ok (.iconst 0, 1) := by decide +kernel
theorem dX8_shareOf_11 : decode cX8_shareOf 11 = .ok (.istore 8, 2) := by decide +kernel
theorem dX8_shareOf_13 : decode cX8_shareOf 13 = .ok (.iload 8, 2) := by decide +kernel
theorem dX8_shareOf_15 : decode cX8_shareOf 15 = .ok (.iconst 3, 1) := by decide +kernel
theorem dX8_shareOf_16 : decode cX8_shareOf 16 = .ok (.if_icmp .ge 36, 3) := by decide +kernel
theorem dX8_shareOf_19 : decode cX8_shareOf 19 = .ok (.lload 6, 2) := by decide +kernel
theorem dX8_shareOf_21 : decode cX8_shareOf 21 = .ok (.ldc2_w 91, 3) := by decide +kernel
theorem dX8_shareOf_24 : decode cX8_shareOf 24 = .ok (.lmul, 1) := by decide +kernel
theorem dX8_shareOf_25 : decode cX8_shareOf 25 = .ok (.lstore 6, 2) := by decide +kernel
theorem dX8_shareOf_27 : decode cX8_shareOf 27 = .ok (.ldc2_w 91, 3) := by decide +kernel
theorem dX8_shareOf_30 : decode cX8_shareOf 30 = .ok (.lload 4, 2) := by decide +kernel
theorem dX8_shareOf_32 : decode cX8_shareOf 32 = .ok (.lmul, 1) := by decide +kernel
theorem dX8_shareOf_33 : decode cX8_shareOf 33 = .ok (.lload 6, 2) := by decide +kernel
theorem dX8_shareOf_35 : decode cX8_shareOf 35 = .ok (.lload_n 2, 1) := by decide +kernel
theorem dX8_shareOf_36 : decode cX8_shareOf 36 = .ok (.ldiv, 1) := by decide +kernel
theorem dX8_shareOf_37 : decode cX8_shareOf 37 = .ok (.ladd, 1) := by decide +kernel
theorem dX8_shareOf_38 : decode cX8_shareOf 38 = .ok (.lstore 4, 2) := by decide +kernel
theorem dX8_shareOf_40 : decode cX8_shareOf 40 = .ok (.lload 6, 2) := by decide +kernel
theorem dX8_shareOf_42 : decode cX8_shareOf 42 = .ok (.lload_n 2, 1) := by decide +kernel
theorem dX8_shareOf_43 : decode cX8_shareOf 43 = .ok (.lrem, 1) := by decide +kernel
theorem dX8_shareOf_44 : decode cX8_shareOf 44 = .ok (.lstore 6, 2) := by decide +kernel
theorem dX8_shareOf_46 : decode cX8_shareOf 46 = .ok (.iinc 8 1, 3) := by decide +kernel
theorem dX8_shareOf_49 : decode cX8_shareOf 49 = .ok (.goto (-36), 3) := by decide +kernel
theorem dX8_shareOf_52 : decode cX8_shareOf 52 = .ok (.lload 4, 2) := by decide +kernel
theorem dX8_shareOf_54 : decode cX8_shareOf 54 = .ok (.l2i, 1) := by decide +kernel
theorem dX8_shareOf_55 : decode cX8_shareOf 55 = .ok (.ireturn, 1) := by decide +kernel
theorem dX8_bestAt_0 : decode cX8_bestAt 0 = .ok (.aload_n 0, 1) := by decide +kernel
theorem dX8_bestAt_1 : decode cX8_bestAt 1 = .ok (.invokevirtual 93, 3) := by decide +kernel
theorem dX8_bestAt_4 : decode cX8_bestAt 4 = .ok (.lstore_n 3, 1) := by decide +kernel
theorem dX8_bestAt_5 : decode cX8_bestAt 5 = .ok (.iconst 0, 1) := by decide +kernel
theorem dX8_bestAt_6 : decode cX8_bestAt 6 = .ok (.istore 5, 2) := by decide +kernel
theorem dX8_bestAt_8 : decode cX8_bestAt 8 = .ok (.aload_n 0, 1) := by decide +kernel
theorem dX8_bestAt_9 : decode cX8_bestAt 9 = .ok (.getfield 25, 3) := by decide +kernel
theorem dX8_bestAt_12 : decode cX8_bestAt 12 = .ok (.iload 5, 2) := by decide +kernel
theorem dX8_bestAt_14 : decode cX8_bestAt 14 = .ok (.laload, 1) := by decide +kernel
theorem dX8_bestAt_15 : decode cX8_bestAt 15 = .ok (.aload_n 0, 1) := by decide +kernel
theorem dX8_bestAt_16 : decode cX8_bestAt 16 = .ok (.getfield 32, 3) := by decide +kernel
theorem dX8_bestAt_19 : decode cX8_bestAt 19 = .ok (.iload 5, 2) := by decide +kernel
theorem dX8_bestAt_21 : decode cX8_bestAt 21 = .ok (.laload, 1) := by decide +kernel
theorem dX8_bestAt_22 : decode cX8_bestAt 22 = .ok (.lmul, 1) := by decide +kernel
theorem dX8_bestAt_23 : decode cX8_bestAt 23 = .ok (.lload_n 3, 1) := by decide +kernel
theorem dX8_bestAt_24 : decode cX8_bestAt 24 = .ok (.lcmp, 1) := by decide +kernel
theorem dX8_bestAt_25 : decode cX8_bestAt 25 = .ok (.ifCond .eq 9, 3) := by decide +kernel
theorem dX8_bestAt_28 : decode cX8_bestAt 28 = .ok (.iinc 5 1, 3) := by decide +kernel
theorem dX8_bestAt_31 : decode cX8_bestAt 31 = .ok (.goto (-23), 3) := by decide +kernel
theorem dX8_bestAt_34 : decode cX8_bestAt 34 = .ok (.iconst 0, 1) := by decide +kernel
theorem dX8_bestAt_35 : decode cX8_bestAt 35 = .ok (.istore 6, 2) := by decide +kernel
theorem dX8_bestAt_37 : decode cX8_bestAt 37 = .ok (.iload 6, 2) := by decide +kernel
theorem dX8_bestAt_39 : decode cX8_bestAt 39 = .ok (.iload_n 2, 1) := by decide +kernel
theorem dX8_bestAt_40 : decode cX8_bestAt 40 = .ok (.if_icmp .ge 64, 3) := by decide +kernel
theorem dX8_bestAt_43 : decode cX8_bestAt 43 = .ok (.iconst 0, 1) := by decide +kernel
theorem dX8_bestAt_44 : decode cX8_bestAt 44 = .ok (.istore 7, 2) := by decide +kernel
theorem dX8_bestAt_46 : decode cX8_bestAt 46 = .ok (.aload_n 0, 1) := by decide +kernel
theorem dX8_bestAt_47 : decode cX8_bestAt 47 = .ok (.iload_n 1, 1) := by decide +kernel
theorem dX8_bestAt_48 : decode cX8_bestAt 48 = .ok (.iload 6, 2) := by decide +kernel
theorem dX8_bestAt_50 : decode cX8_bestAt 50 = .ok (.iload 5, 2) := by decide +kernel
theorem dX8_bestAt_52 : decode cX8_bestAt 52 = .ok (.iload 7, 2) := by decide +kernel
theorem dX8_bestAt_54 : decode cX8_bestAt 54 = .ok (.invokevirtual 83, 3) := by decide +kernel
theorem dX8_bestAt_57 : decode cX8_bestAt 57 = .ok (.aload_n 0, 1) := by decide +kernel
theorem dX8_bestAt_58 : decode cX8_bestAt 58 = .ok (.getfield 32, 3) := by decide +kernel
theorem dX8_bestAt_61 : decode cX8_bestAt 61 = .ok (.iconst 4, 1) := by decide +kernel
theorem dX8_bestAt_62 : decode cX8_bestAt 62 = .ok (.iload 6, 2) := by decide +kernel
theorem dX8_bestAt_64 : decode cX8_bestAt 64 = .ok (.imul, 1) := by decide +kernel
theorem dX8_bestAt_65 : decode cX8_bestAt 65 = .ok (.iconst 4, 1) := by decide +kernel
theorem dX8_bestAt_66 : decode cX8_bestAt 66 = .ok (.iadd, 1) := by decide +kernel
theorem dX8_bestAt_67 : decode cX8_bestAt 67 = .ok (.iload 7, 2) := by decide +kernel
theorem dX8_bestAt_69 : decode cX8_bestAt 69 = .ok (.iadd, 1) := by decide +kernel
theorem dX8_bestAt_70 : decode cX8_bestAt 70 = .ok (.laload, 1) := by decide +kernel
theorem dX8_bestAt_71 : decode cX8_bestAt 71 = .ok (.lmul, 1) := by decide +kernel
theorem dX8_bestAt_72 : decode cX8_bestAt 72 = .ok (.aload_n 0, 1) := by decide +kernel
theorem dX8_bestAt_73 : decode cX8_bestAt 73 = .ok (.getfield 32, 3) := by decide +kernel
theorem dX8_bestAt_76 : decode cX8_bestAt 76 = .ok (.iconst 4, 1) := by decide +kernel
theorem dX8_bestAt_77 : decode cX8_bestAt 77 = .ok (.iload 6, 2) := by decide +kernel
theorem dX8_bestAt_79 : decode cX8_bestAt 79 = .ok (.imul, 1) := by decide +kernel
theorem dX8_bestAt_80 : decode cX8_bestAt 80 = .ok (.iload 5, 2) := by decide +kernel
theorem dX8_bestAt_82 : decode cX8_bestAt 82 = .ok (.iadd, 1) := by decide +kernel
theorem dX8_bestAt_83 : decode cX8_bestAt 83 = .ok (.laload, 1) := by decide +kernel
theorem dX8_bestAt_84 : decode cX8_bestAt 84 = .ok (.lcmp, 1) := by decide +kernel
theorem dX8_bestAt_85 : decode cX8_bestAt 85 = .ok (.ifCond .eq 9, 3) := by decide +kernel
theorem dX8_bestAt_88 : decode cX8_bestAt 88 = .ok (.iinc 7 1, 3) := by decide +kernel
theorem dX8_bestAt_91 : decode cX8_bestAt 91 = .ok (.goto (-45), 3) := by decide +kernel
theorem dX8_bestAt_94 : decode cX8_bestAt 94 = .ok (.iload 7, 2) := by decide +kernel
theorem dX8_bestAt_96 : decode cX8_bestAt 96 = .ok (.istore 5, 2) := by decide +kernel
theorem dX8_bestAt_98 : decode cX8_bestAt 98 = .ok (.iinc 6 1, 3) := by decide +kernel
theorem dX8_bestAt_101 : decode cX8_bestAt 101 = .ok (.goto (-64), 3) := by decide +kernel
theorem dX8_bestAt_104 : decode cX8_bestAt 104 = .ok (.iload 5, 2) := by decide +kernel
theorem dX8_bestAt_106 : decode cX8_bestAt 106 = .ok (.ireturn, 1) := by decide +kernel
theorem dX8_runAt_0 : decode cX8_runAt 0 = .ok (.iload_n 2, 1) := by decide +kernel
theorem dX8_runAt_1 : decode cX8_runAt 1 = .ok (.i2l, 1) := by decide +kernel
theorem dX8_runAt_2 : decode cX8_runAt 2 = .ok (.lstore 4, 2) := by decide +kernel
theorem dX8_runAt_4 : decode cX8_runAt 4 = .ok (.iconst 0, 1) := by decide +kernel
theorem dX8_runAt_5 : decode cX8_runAt 5 = .ok (.istore 6, 2) := by decide +kernel
theorem dX8_runAt_7 : decode cX8_runAt 7 = .ok (.aload_n 0, 1) := by decide +kernel
theorem dX8_runAt_8 : decode cX8_runAt 8 = .ok (.getfield 25, 3) := by decide +kernel
theorem dX8_runAt_11 : decode cX8_runAt 11 = .ok (.iload 6, 2) := by decide +kernel
theorem dX8_runAt_13 : decode cX8_runAt 13 = .ok (.laload, 1) := by decide +kernel
theorem dX8_runAt_14 : decode cX8_runAt 14 = .ok (.lconst 0, 1) := by decide +kernel
theorem dX8_runAt_15 : decode cX8_runAt 15 = .ok (.lcmp, 1) := by decide +kernel
theorem dX8_runAt_16 : decode cX8_runAt 16 = .ok (.ifCond .eq 16, 3) := by decide +kernel
theorem dX8_runAt_19 : decode cX8_runAt 19 = .ok (.lload 4, 2) := by decide +kernel
theorem dX8_runAt_21 : decode cX8_runAt 21 = .ok (.aload_n 0, 1) := by decide +kernel
theorem dX8_runAt_22 : decode cX8_runAt 22 = .ok (.getfield 35, 3) := by decide +kernel
theorem dX8_runAt_25 : decode cX8_runAt 25 = .ok (.iload 6, 2) := by decide +kernel
theorem dX8_runAt_27 : decode cX8_runAt 27 = .ok (.laload, 1) := by decide +kernel
theorem dX8_runAt_28 : decode cX8_runAt 28 = .ok (.lcmp, 1) := by decide +kernel
theorem dX8_runAt_29 : decode cX8_runAt 29 = .ok (.ifCond .lt 37, 3) := by decide +kernel
theorem dX8_runAt_32 : decode cX8_runAt 32 = .ok (.lload 4, 2) := by decide +kernel
theorem dX8_runAt_34 : decode cX8_runAt 34 = .ok (.aload_n 0, 1) := by decide +kernel
theorem dX8_runAt_35 : decode cX8_runAt 35 = .ok (.getfield 25, 3) := by decide +kernel
theorem dX8_runAt_38 : decode cX8_runAt 38 = .ok (.iload 6, 2) := by decide +kernel
theorem dX8_runAt_40 : decode cX8_runAt 40 = .ok (.laload, 1) := by decide +kernel
theorem dX8_runAt_41 : decode cX8_runAt 41 = .ok (.lconst 0, 1) := by decide +kernel
theorem dX8_runAt_42 : decode cX8_runAt 42 = .ok (.lcmp, 1) := by decide +kernel
theorem dX8_runAt_43 : decode cX8_runAt 43 = .ok (.ifCond .le 13, 3) := by decide +kernel
theorem dX8_runAt_46 : decode cX8_runAt 46 = .ok (.aload_n 0, 1) := by decide +kernel
theorem dX8_runAt_47 : decode cX8_runAt 47 = .ok (.getfield 35, 3) := by decide +kernel
theorem dX8_runAt_50 : decode cX8_runAt 50 = .ok (.iload 6, 2) := by decide +kernel
theorem dX8_runAt_52 : decode cX8_runAt 52 = .ok (.laload, 1) := by decide +kernel
theorem dX8_runAt_53 : decode cX8_runAt 53 = .ok (.goto 4, 3) := by decide +kernel
theorem dX8_runAt_56 : decode cX8_runAt 56 = .ok (.lconst 0, 1) := by decide +kernel
theorem dX8_runAt_57 : decode cX8_runAt 57 = .ok (.lsub, 1) := by decide +kernel
theorem dX8_runAt_58 : decode cX8_runAt 58 = .ok (.lstore 4, 2) := by decide +kernel
theorem dX8_runAt_60 : decode cX8_runAt 60 = .ok (.iinc 6 1, 3) := by decide +kernel
theorem dX8_runAt_63 : decode cX8_runAt 63 = .ok (.goto (-56), 3) := by decide +kernel
theorem dX8_runAt_66 : decode cX8_runAt 66 = .ok (.iconst 0, 1) := by decide +kernel
theorem dX8_runAt_67 : decode cX8_runAt 67 = .ok (.istore 7, 2) := by decide +kernel
theorem dX8_runAt_69 : decode cX8_runAt 69 = .ok (.iload 7, 2) := by decide +kernel
theorem dX8_runAt_71 : decode cX8_runAt 71 = .ok (.iload_n 3, 1) := by decide +kernel
theorem dX8_runAt_72 : decode cX8_runAt 72 = .ok (.if_icmp .ge 120, 3) := by decide +kernel
theorem dX8_runAt_75 : decode cX8_runAt 75 = .ok (.iconst 0, 1) := by decide +kernel
theorem dX8_runAt_76 : decode cX8_runAt 76 = .ok (.istore 8, 2) := by decide +kernel
theorem dX8_runAt_78 : decode cX8_runAt 78 = .ok (.aload_n 0, 1) := by decide +kernel
theorem dX8_runAt_79 : decode cX8_runAt 79 = .ok (.iload_n 1, 1) := by decide +kernel
theorem dX8_runAt_80 : decode cX8_runAt 80 = .ok (.iload 7, 2) := by decide +kernel
theorem dX8_runAt_82 : decode cX8_runAt 82 = .ok (.iload 6, 2) := by decide +kernel
theorem dX8_runAt_84 : decode cX8_runAt 84 = .ok (.iconst 0, 1) := by decide +kernel
theorem dX8_runAt_85 : decode cX8_runAt 85 = .ok (.invokevirtual 83, 3) := by decide +kernel
theorem dX8_runAt_88 : decode cX8_runAt 88 = .ok (.lconst 0, 1) := by decide +kernel
theorem dX8_runAt_89 : decode cX8_runAt 89 = .ok (.lcmp, 1) := by decide +kernel
theorem dX8_runAt_90 : decode cX8_runAt 90 = .ok (.ifCond .le 7, 3) := by decide +kernel
theorem dX8_runAt_93 : decode cX8_runAt 93 = .ok (.iconst 1, 1) := by decide +kernel
theorem dX8_runAt_94 : decode cX8_runAt 94 = .ok (.goto 4, 3) := by decide +kernel
theorem dX8_runAt_97 : decode cX8_runAt 97 = .ok (.iconst 0, 1) := by decide +kernel
theorem dX8_runAt_98 : decode cX8_runAt 98 = .ok (.istore 9, 2) := by decide +kernel
theorem dX8_runAt_100 : decode cX8_runAt 100 = .ok (.iload 9, 2) := by decide +kernel
theorem dX8_runAt_102 : decode cX8_runAt 102 = .ok (.ifCond .eq 23, 3) := by decide +kernel
theorem dX8_runAt_105 : decode cX8_runAt 105 = .ok (.lload 4, 2) := by decide +kernel
theorem dX8_runAt_107 : decode cX8_runAt 107 = .ok (.aload_n 0, 1) := by decide +kernel
theorem dX8_runAt_108 : decode cX8_runAt 108 = .ok (.getfield 35, 3) := by decide +kernel
theorem dX8_runAt_111 : decode cX8_runAt 111 = .ok (.iconst 4, 1) := by decide +kernel
theorem dX8_runAt_112 : decode cX8_runAt 112 = .ok (.iload 7, 2) := by decide +kernel
theorem dX8_runAt_114 : decode cX8_runAt 114 = .ok (.imul, 1) := by decide +kernel
theorem dX8_runAt_115 : decode cX8_runAt 115 = .ok (.iconst 4, 1) := by decide +kernel
theorem dX8_runAt_116 : decode cX8_runAt 116 = .ok (.iadd, 1) := by decide +kernel
theorem dX8_runAt_117 : decode cX8_runAt 117 = .ok (.iload 8, 2) := by decide +kernel
theorem dX8_runAt_119 : decode cX8_runAt 119 = .ok (.iadd, 1) := by decide +kernel
theorem dX8_runAt_120 : decode cX8_runAt 120 = .ok (.laload, 1) := by decide +kernel
theorem dX8_runAt_121 : decode cX8_runAt 121 = .ok (.lcmp, 1) := by decide +kernel
theorem dX8_runAt_122 : decode cX8_runAt 122 = .ok (.ifCond .lt 60, 3) := by decide +kernel
theorem dX8_runAt_125 : decode cX8_runAt 125 = .ok (.lload 4, 2) := by decide +kernel
theorem dX8_runAt_127 : decode cX8_runAt 127 = .ok (.iload 9, 2) := by decide +kernel
theorem dX8_runAt_129 : decode cX8_runAt 129 = .ok (.ifCond .eq 20, 3) := by decide +kernel
theorem dX8_runAt_132 : decode cX8_runAt 132 = .ok (.aload_n 0, 1) := by decide +kernel
theorem dX8_runAt_133 : decode cX8_runAt 133 = .ok (.getfield 35, 3) := by decide +kernel
theorem dX8_runAt_136 : decode cX8_runAt 136 = .ok (.iconst 4, 1) := by decide +kernel
theorem dX8_runAt_137 : decode cX8_runAt 137 = .ok (.iload 7, 2) := by decide +kernel
theorem dX8_runAt_139 : decode cX8_runAt 139 = .ok (.imul, 1) := by decide +kernel
theorem dX8_runAt_140 : decode cX8_runAt 140 = .ok (.iconst 4, 1) := by decide +kernel
theorem dX8_runAt_141 : decode cX8_runAt 141 = .ok (.iadd, 1) := by decide +kernel
theorem dX8_runAt_142 : decode cX8_runAt 142 = .ok (.iload 8, 2) := by decide +kernel
theorem dX8_runAt_144 : decode cX8_runAt 144 = .ok (.iadd, 1) := by decide +kernel
theorem dX8_runAt_145 : decode cX8_runAt 145 = .ok (.laload, 1) := by decide +kernel
theorem dX8_runAt_146 : decode cX8_runAt 146 = .ok (.goto 4, 3) := by decide +kernel
theorem dX8_runAt_149 : decode cX8_runAt 149 = .ok (.lconst 0, 1) := by decide +kernel
theorem dX8_runAt_150 : decode cX8_runAt 150 = .ok (.lsub, 1) := by decide +kernel
theorem dX8_runAt_151 : decode cX8_runAt 151 = .ok (.lstore 4, 2) := by decide +kernel
theorem dX8_runAt_153 : decode cX8_runAt 153 = .ok (.iinc 8 1, 3) := by decide +kernel
theorem dX8_runAt_156 : decode cX8_runAt 156 = .ok (.aload_n 0, 1) := by decide +kernel
theorem dX8_runAt_157 : decode cX8_runAt 157 = .ok (.iload_n 1, 1) := by decide +kernel
theorem dX8_runAt_158 : decode cX8_runAt 158 = .ok (.iload 7, 2) := by decide +kernel
theorem dX8_runAt_160 : decode cX8_runAt 160 = .ok (.iload 6, 2) := by decide +kernel
theorem dX8_runAt_162 : decode cX8_runAt 162 = .ok (.iload 8, 2) := by decide +kernel
theorem dX8_runAt_164 : decode cX8_runAt 164 = .ok (.invokevirtual 83, 3) := by decide +kernel
theorem dX8_runAt_167 : decode cX8_runAt 167 = .ok (.lconst 0, 1) := by decide +kernel
theorem dX8_runAt_168 : decode cX8_runAt 168 = .ok (.lcmp, 1) := by decide +kernel
theorem dX8_runAt_169 : decode cX8_runAt 169 = .ok (.ifCond .le 7, 3) := by decide +kernel
theorem dX8_runAt_172 : decode cX8_runAt 172 = .ok (.iconst 1, 1) := by decide +kernel
theorem dX8_runAt_173 : decode cX8_runAt 173 = .ok (.goto 4, 3) := by decide +kernel
theorem dX8_runAt_176 : decode cX8_runAt 176 = .ok (.iconst 0, 1) := by decide +kernel
theorem dX8_runAt_177 : decode cX8_runAt 177 = .ok (.istore 9, 2) := by decide +kernel
theorem dX8_runAt_179 : decode cX8_runAt 179 = .ok (.goto (-79), 3) := by decide +kernel
theorem dX8_runAt_182 : decode cX8_runAt 182 = .ok (.iload 8, 2) := by decide +kernel
theorem dX8_runAt_184 : decode cX8_runAt 184 = .ok (.istore 6, 2) := by decide +kernel
theorem dX8_runAt_186 : decode cX8_runAt 186 = .ok (.iinc 7 1, 3) := by decide +kernel
theorem dX8_runAt_189 : decode cX8_runAt 189 = .ok (.goto (-120), 3) := by decide +kernel
theorem dX8_runAt_192 : decode cX8_runAt 192 = .ok (.iload 6, 2) := by decide +kernel
theorem dX8_runAt_194 : decode cX8_runAt 194 = .ok (.ireturn, 1) := by decide +kernel
theorem dX8_likeliestAt_0 : decode cX8_likeliestAt 0 = .ok (.iconst 0, 1) := by decide +kernel
theorem dX8_likeliestAt_1 : decode cX8_likeliestAt 1 = .ok (.istore_n 2, 1) := by decide +kernel
theorem dX8_likeliestAt_2 : decode cX8_likeliestAt 2 = .ok (.iconst 1, 1) := by decide +kernel
theorem dX8_likeliestAt_3 : decode cX8_likeliestAt 3 = .ok (.istore_n 3, 1) := by decide +kernel
theorem dX8_likeliestAt_4 : decode cX8_likeliestAt 4 = .ok (.iload_n 3, 1) := by decide +kernel
theorem dX8_likeliestAt_5 : decode cX8_likeliestAt 5 = .ok (.aload_n 0, 1) := by decide +kernel
theorem dX8_likeliestAt_6 : decode cX8_likeliestAt 6 = .ok (.getfield 7, 3) := by decide +kernel
theorem dX8_likeliestAt_9 : decode cX8_likeliestAt 9 = .ok (.iconst 0, 1) := by decide +kernel
theorem dX8_likeliestAt_10 : decode cX8_likeliestAt 10 = .ok (.iaload, 1) := by decide +kernel
theorem dX8_likeliestAt_11 : decode cX8_likeliestAt 11 = .ok (.if_icmp .ge 31, 3) := by decide +kernel
theorem dX8_likeliestAt_14 : decode cX8_likeliestAt 14 = .ok (.aload_n 0, 1) := by decide +kernel
theorem dX8_likeliestAt_15 : decode cX8_likeliestAt 15 = .ok (.iload_n 1, 1) := by decide +kernel
theorem dX8_likeliestAt_16 : decode cX8_likeliestAt 16 = .ok (.iload_n 3, 1) := by decide +kernel
theorem dX8_likeliestAt_17 : decode cX8_likeliestAt 17 = .ok (.invokevirtual 87, 3) := by decide +kernel
theorem dX8_likeliestAt_20 : decode cX8_likeliestAt 20 = .ok (.aload_n 0, 1) := by decide +kernel
theorem dX8_likeliestAt_21 : decode cX8_likeliestAt 21 = .ok (.iload_n 1, 1) := by decide +kernel
theorem dX8_likeliestAt_22 : decode cX8_likeliestAt 22 = .ok (.iload_n 2, 1) := by decide +kernel
theorem dX8_likeliestAt_23 : decode cX8_likeliestAt 23 = .ok (.invokevirtual 87, 3) := by decide +kernel
theorem dX8_likeliestAt_26 : decode cX8_likeliestAt 26 = .ok (.lcmp, 1) := by decide +kernel
theorem dX8_likeliestAt_27 : decode cX8_likeliestAt 27 = .ok (.ifCond .le 7, 3) := by decide +kernel
theorem dX8_likeliestAt_30 : decode cX8_likeliestAt 30 = .ok (.iload_n 3, 1) := by decide +kernel
theorem dX8_likeliestAt_31 : decode cX8_likeliestAt 31 = .ok (.goto 4, 3) := by decide +kernel
theorem dX8_likeliestAt_34 : decode cX8_likeliestAt 34 = .ok (.iload_n 2, 1) := by decide +kernel
theorem dX8_likeliestAt_35 : decode cX8_likeliestAt 35 = .ok (.istore_n 2, 1) := by decide +kernel
theorem dX8_likeliestAt_36 : decode cX8_likeliestAt 36 = .ok (.iinc 3 1, 3) := by decide +kernel
theorem dX8_likeliestAt_39 : decode cX8_likeliestAt 39 = .ok (.goto (-35), 3) := by decide +kernel
theorem dX8_likeliestAt_42 : decode cX8_likeliestAt 42 = .ok (.iload_n 2, 1) := by decide +kernel
theorem dX8_likeliestAt_43 : decode cX8_likeliestAt 43 = .ok (.ireturn, 1) := by decide +kernel
theorem dX8_placeOf_0 : decode cX8_placeOf 0 = .ok (.iload_n 1, 1) := by decide +kernel
theorem dX8_placeOf_1 : decode cX8_placeOf 1 = .ok (.iconst 0, 1) := by decide +kernel
theorem dX8_placeOf_2 : decode cX8_placeOf 2 = .ok (.iconst 2, 1) := by decide +kernel
theorem dX8_placeOf_3 : decode cX8_placeOf 3 = .ok (.invokestatic 58, 3) := by decide +kernel
theorem dX8_placeOf_6 : decode cX8_placeOf 6 = .ok (.ifCond .ne 6, 3) := by decide +kernel
theorem dX8_placeOf_9 : decode cX8_placeOf 9 = .ok (.bipush (-2), 2) := by decide +kernel
theorem dX8_placeOf_11 : decode cX8_placeOf 11 = .ok (.ireturn, 1) := by decide +kernel
theorem dX8_placeOf_12 : decode cX8_placeOf 12 = .ok (.iload_n 1, 1) := by decide +kernel
theorem dX8_placeOf_13 : decode cX8_placeOf 13 = .ok (.ifCond .ne 15, 3) := by decide +kernel
theorem dX8_placeOf_16 : decode cX8_placeOf 16 = .ok (.iload_n 3, 1) := by decide +kernel
theorem dX8_placeOf_17 : decode cX8_placeOf 17 = .ok (.ifCond .ne 7, 3) := by decide +kernel
theorem dX8_placeOf_20 : decode cX8_placeOf 20 = .ok (.iconst 1, 1) := by decide +kernel
theorem dX8_placeOf_21 : decode cX8_placeOf 21 = .ok (.goto 26, 3) := by decide +kernel
theorem dX8_placeOf_24 : decode cX8_placeOf 24 = .ok (.iconst 0, 1) := by decide +kernel
theorem dX8_placeOf_25 : decode cX8_placeOf 25 = .ok (.goto 22, 3) := by decide +kernel
theorem dX8_placeOf_28 : decode cX8_placeOf 28 = .ok (.iload_n 1, 1) := by decide +kernel
theorem dX8_placeOf_29 : decode cX8_placeOf 29 = .ok (.iconst 1, 1) := by decide +kernel
theorem dX8_placeOf_30 : decode cX8_placeOf 30 = .ok (.if_icmp .ne 11, 3) := by decide +kernel
theorem dX8_placeOf_33 : decode cX8_placeOf 33 = .ok (.aload_n 0, 1) := by decide +kernel
theorem dX8_placeOf_34 : decode cX8_placeOf 34 = .ok (.iload_n 3, 1) := by decide +kernel
theorem dX8_placeOf_35 : decode cX8_placeOf 35 = .ok (.invokevirtual 97, 3) := by decide +kernel
theorem dX8_placeOf_38 : decode cX8_placeOf 38 = .ok (.goto 9, 3) := by decide +kernel
theorem dX8_placeOf_41 : decode cX8_placeOf 41 = .ok (.iload_n 3, 1) := by decide +kernel
theorem dX8_placeOf_42 : decode cX8_placeOf 42 = .ok (.iconst 0, 1) := by decide +kernel
theorem dX8_placeOf_43 : decode cX8_placeOf 43 = .ok (.iconst 2, 1) := by decide +kernel
theorem dX8_placeOf_44 : decode cX8_placeOf 44 = .ok (.invokestatic 58, 3) := by decide +kernel
theorem dX8_placeOf_47 : decode cX8_placeOf 47 = .ok (.istore 4, 2) := by decide +kernel
theorem dX8_placeOf_49 : decode cX8_placeOf 49 = .ok (.aload_n 0, 1) := by decide +kernel
theorem dX8_placeOf_50 : decode cX8_placeOf 50 = .ok (.iload_n 2, 1) := by decide +kernel
theorem dX8_placeOf_51 : decode cX8_placeOf 51 = .ok (.invokevirtual 97, 3) := by decide +kernel
theorem dX8_placeOf_54 : decode cX8_placeOf 54 = .ok (.ifCond .eq 8, 3) := by decide +kernel
theorem dX8_placeOf_57 : decode cX8_placeOf 57 = .ok (.iload 4, 2) := by decide +kernel
theorem dX8_placeOf_59 : decode cX8_placeOf 59 = .ok (.ifCond .ne 5, 3) := by decide +kernel
theorem dX8_placeOf_62 : decode cX8_placeOf 62 = .ok (.iconst (-1), 1) := by decide +kernel
theorem dX8_placeOf_63 : decode cX8_placeOf 63 = .ok (.ireturn, 1) := by decide +kernel
theorem dX8_placeOf_64 : decode cX8_placeOf 64 = .ok (.iload_n 1, 1) := by decide +kernel
theorem dX8_placeOf_65 : decode cX8_placeOf 65 = .ok (.ifCond .ne 9, 3) := by decide +kernel
theorem dX8_placeOf_68 : decode cX8_placeOf 68 = .ok (.iconst 3, 1) := by decide +kernel
theorem dX8_placeOf_69 : decode cX8_placeOf 69 = .ok (.iload_n 2, 1) := by decide +kernel
theorem dX8_placeOf_70 : decode cX8_placeOf 70 = .ok (.iadd, 1) := by decide +kernel
theorem dX8_placeOf_71 : decode cX8_placeOf 71 = .ok (.goto 27, 3) := by decide +kernel
theorem dX8_placeOf_74 : decode cX8_placeOf 74 = .ok (.iload_n 1, 1) := by decide +kernel
theorem dX8_placeOf_75 : decode cX8_placeOf 75 = .ok (.iconst 1, 1) := by decide +kernel
theorem dX8_placeOf_76 : decode cX8_placeOf 76 = .ok (.if_icmp .ne 14, 3) := by decide +kernel
theorem dX8_placeOf_79 : decode cX8_placeOf 79 = .ok (.bipush 7, 2) := by decide +kernel
theorem dX8_placeOf_81 : decode cX8_placeOf 81 = .ok (.iconst 4, 1) := by decide +kernel
theorem dX8_placeOf_82 : decode cX8_placeOf 82 = .ok (.iload_n 2, 1) := by decide +kernel
theorem dX8_placeOf_83 : decode cX8_placeOf 83 = .ok (.imul, 1) := by decide +kernel
theorem dX8_placeOf_84 : decode cX8_placeOf 84 = .ok (.iadd, 1) := by decide +kernel
theorem dX8_placeOf_85 : decode cX8_placeOf 85 = .ok (.iload_n 3, 1) := by decide +kernel
theorem dX8_placeOf_86 : decode cX8_placeOf 86 = .ok (.iadd, 1) := by decide +kernel
theorem dX8_placeOf_87 : decode cX8_placeOf 87 = .ok (.goto 11, 3) := by decide +kernel
theorem dX8_placeOf_90 : decode cX8_placeOf 90 = .ok (.bipush 23, 2) := by decide +kernel
theorem dX8_placeOf_92 : decode cX8_placeOf 92 = .ok (.iconst 3, 1) := by decide +kernel
theorem dX8_placeOf_93 : decode cX8_placeOf 93 = .ok (.iload_n 2, 1) := by decide +kernel
theorem dX8_placeOf_94 : decode cX8_placeOf 94 = .ok (.imul, 1) := by decide +kernel
theorem dX8_placeOf_95 : decode cX8_placeOf 95 = .ok (.iadd, 1) := by decide +kernel
theorem dX8_placeOf_96 : decode cX8_placeOf 96 = .ok (.iload_n 3, 1) := by decide +kernel
theorem dX8_placeOf_97 : decode cX8_placeOf 97 = .ok (.iadd, 1) := by decide +kernel
theorem dX8_placeOf_98 : decode cX8_placeOf 98 = .ok (.ireturn, 1) := by decide +kernel
theorem dX8_setWeight_0 : decode cX8_setWeight 0 = .ok (.aload_n 0, 1) := by decide +kernel
theorem dX8_setWeight_1 : decode cX8_setWeight 1 = .ok (.iconst 0, 1) := by decide +kernel
theorem dX8_setWeight_2 : decode cX8_setWeight 2 = .ok (.putfield 50, 3) := by decide +kernel
theorem dX8_setWeight_5 : decode cX8_setWeight 5 = .ok (.aload_n 0, 1) := by decide +kernel
theorem dX8_setWeight_6 : decode cX8_setWeight 6 = .ok (.iload_n 1, 1) := by decide +kernel
theorem dX8_setWeight_7 : decode cX8_setWeight 7 = .ok (.iload_n 2, 1) := by decide +kernel
theorem dX8_setWeight_8 : decode cX8_setWeight 8 = .ok (.iload_n 3, 1) := by decide +kernel
theorem dX8_setWeight_9 : decode cX8_setWeight 9 = .ok (.invokevirtual 101, 3) := by decide +kernel
theorem dX8_setWeight_12 : decode cX8_setWeight 12 = .ok (.istore 5, 2) := by decide +kernel
theorem dX8_setWeight_14 : decode cX8_setWeight 14 = .ok (.iload 5, 2) := by decide +kernel
theorem dX8_setWeight_16 : decode cX8_setWeight 16 = .ok (.ifCond .ge 6, 3) := by decide +kernel
theorem dX8_setWeight_19 : decode cX8_setWeight 19 = .ok (.iload 5, 2) := by decide +kernel
theorem dX8_setWeight_21 : decode cX8_setWeight 21 = .ok (.ireturn, 1) := by decide +kernel
theorem dX8_setWeight_22 : decode cX8_setWeight 22 = .ok (.iload 4, 2) := by decide +kernel
theorem dX8_setWeight_24 : decode cX8_setWeight 24 = .ok (.iconst 0, 1) := by decide +kernel
theorem dX8_setWeight_25 : decode cX8_setWeight 25 = .ok (.bipush 6, 2) := by decide +kernel
theorem dX8_setWeight_27 : decode cX8_setWeight 27 = .ok (.invokestatic 58, 3) := by decide +kernel
theorem dX8_setWeight_30 : decode cX8_setWeight 30 = .ok (.ifCond .ne 6, 3) := by decide +kernel
theorem dX8_setWeight_33 : decode cX8_setWeight 33 = .ok (.bipush (-2), 2) := by decide +kernel
theorem dX8_setWeight_35 : decode cX8_setWeight 35 = .ok (.ireturn, 1) := by decide +kernel
theorem dX8_setWeight_36 : decode cX8_setWeight 36 = .ok (.aload_n 0, 1) := by decide +kernel
theorem dX8_setWeight_37 : decode cX8_setWeight 37 = .ok (.getfield 7, 3) := by decide +kernel
theorem dX8_setWeight_40 : decode cX8_setWeight 40 = .ok (.iload 5, 2) := by decide +kernel
theorem dX8_setWeight_42 : decode cX8_setWeight 42 = .ok (.iaload, 1) := by decide +kernel
theorem dX8_setWeight_43 : decode cX8_setWeight 43 = .ok (.istore 6, 2) := by decide +kernel
theorem dX8_setWeight_45 : decode cX8_setWeight 45 = .ok (.iload 6, 2) := by decide +kernel
theorem dX8_setWeight_47 : decode cX8_setWeight 47 = .ok (.iload 4, 2) := by decide +kernel
theorem dX8_setWeight_49 : decode cX8_setWeight 49 = .ok (.if_icmp .ne 6, 3) := by decide +kernel
theorem dX8_setWeight_52 : decode cX8_setWeight 52 = .ok (.bipush (-5), 2) := by decide +kernel
theorem dX8_setWeight_54 : decode cX8_setWeight 54 = .ok (.ireturn, 1) := by decide +kernel
theorem dX8_setWeight_55 : decode cX8_setWeight 55 = .ok (.aload_n 0, 1) := by decide +kernel
theorem dX8_setWeight_56 : decode cX8_setWeight 56 = .ok (.invokevirtual 105, 3) := by decide +kernel
theorem dX8_setWeight_59 : decode cX8_setWeight 59 = .ok (.aload_n 0, 1) := by decide +kernel
theorem dX8_setWeight_60 : decode cX8_setWeight 60 = .ok (.getfield 7, 3) := by decide +kernel
theorem dX8_setWeight_63 : decode cX8_setWeight 63 = .ok (.iload 5, 2) := by decide +kernel
theorem dX8_setWeight_65 : decode cX8_setWeight 65 = .ok (.iload 4, 2) := by decide +kernel
theorem dX8_setWeight_67 : decode cX8_setWeight 67 = .ok (.iastore, 1) := by decide +kernel
theorem dX8_setWeight_68 : decode cX8_setWeight 68 = .ok (.iload 6, 2) := by decide +kernel
theorem dX8_setWeight_70 : decode cX8_setWeight 70 = .ok (.ireturn, 1) := by decide +kernel
theorem dX8_addState_0 : decode cX8_addState 0 = .ok (.aload_n 0, 1) := by decide +kernel
theorem dX8_addState_1 : decode cX8_addState 1 = .ok (.iconst 0, 1) := by decide +kernel
theorem dX8_addState_2 : decode cX8_addState 2 = .ok (.putfield 50, 3) := by decide +kernel
theorem dX8_addState_5 : decode cX8_addState 5 = .ok (.aload_n 0, 1) := by decide +kernel
theorem dX8_addState_6 : decode cX8_addState 6 = .ok (.getfield 7, 3) := by decide +kernel
theorem dX8_addState_9 : decode cX8_addState 9 = .ok (.iconst 0, 1) := by decide +kernel
theorem dX8_addState_10 : decode cX8_addState 10 = .ok (.iaload, 1) := by decide +kernel
theorem dX8_addState_11 : decode cX8_addState 11 = .ok (.iconst 4, 1) := by decide +kernel
theorem dX8_addState_12 : decode cX8_addState 12 = .ok (.if_icmp .ne 6, 3) := by decide +kernel
theorem dX8_addState_15 : decode cX8_addState 15 = .ok (.bipush (-3), 2) := by decide +kernel
theorem dX8_addState_17 : decode cX8_addState 17 = .ok (.ireturn, 1) := by decide +kernel
theorem dX8_addState_18 : decode cX8_addState 18 = .ok (.aload_n 0, 1) := by decide +kernel
theorem dX8_addState_19 : decode cX8_addState 19 = .ok (.invokevirtual 105, 3) := by decide +kernel
theorem dX8_addState_22 : decode cX8_addState 22 = .ok (.aload_n 0, 1) := by decide +kernel
theorem dX8_addState_23 : decode cX8_addState 23 = .ok (.getfield 7, 3) := by decide +kernel
theorem dX8_addState_26 : decode cX8_addState 26 = .ok (.iconst 0, 1) := by decide +kernel
theorem dX8_addState_27 : decode cX8_addState 27 = .ok (.dup2, 1) := by decide +kernel
theorem dX8_addState_28 : decode cX8_addState 28 = .ok (.iaload, 1) := by decide +kernel
theorem dX8_addState_29 : decode cX8_addState 29 = .ok (.iconst 1, 1) := by decide +kernel
theorem dX8_addState_30 : decode cX8_addState 30 = .ok (.iadd, 1) := by decide +kernel
theorem dX8_addState_31 : decode cX8_addState 31 = .ok (.iastore, 1) := by decide +kernel
theorem dX8_addState_32 : decode cX8_addState 32 = .ok (.aload_n 0, 1) := by decide +kernel
theorem dX8_addState_33 : decode cX8_addState 33 = .ok (.aload_n 0, 1) := by decide +kernel
theorem dX8_addState_34 : decode cX8_addState 34 = .ok (.getfield 7, 3) := by decide +kernel
theorem dX8_addState_37 : decode cX8_addState 37 = .ok (.iconst 0, 1) := by decide +kernel
theorem dX8_addState_38 : decode cX8_addState 38 = .ok (.iaload, 1) := by decide +kernel
theorem dX8_addState_39 : decode cX8_addState 39 = .ok (.iconst 1, 1) := by decide +kernel
theorem dX8_addState_40 : decode cX8_addState 40 = .ok (.isub, 1) := by decide +kernel
theorem dX8_addState_41 : decode cX8_addState 41 = .ok (.invokevirtual 54, 3) := by decide +kernel
theorem dX8_addState_44 : decode cX8_addState 44 = .ok (.aload_n 0, 1) := by decide +kernel
theorem dX8_addState_45 : decode cX8_addState 45 = .ok (.getfield 7, 3) := by decide +kernel
theorem dX8_addState_48 : decode cX8_addState 48 = .ok (.iconst 0, 1) := by decide +kernel
theorem dX8_addState_49 : decode cX8_addState 49 = .ok (.iaload, 1) := by decide +kernel
theorem dX8_addState_50 : decode cX8_addState 50 = .ok (.iconst 1, 1) := by decide +kernel
theorem dX8_addState_51 : decode cX8_addState 51 = .ok (.isub, 1) := by decide +kernel
theorem dX8_addState_52 : decode cX8_addState 52 = .ok (.ireturn, 1) := by decide +kernel
theorem dX8_split_0 : decode cX8_split 0 = .ok (.aload_n 0, 1) := by decide +kernel
theorem dX8_split_1 : decode cX8_split 1 = .ok (.iconst 0, 1) := by decide +kernel
theorem dX8_split_2 : decode cX8_split 2 = .ok (.putfield 50, 3) := by decide +kernel
theorem dX8_split_5 : decode cX8_split 5 = .ok (.aload_n 0, 1) := by decide +kernel
theorem dX8_split_6 : decode cX8_split 6 = .ok (.iload_n 1, 1) := by decide +kernel
theorem dX8_split_7 : decode cX8_split 7 = .ok (.invokevirtual 97, 3) := by decide +kernel
theorem dX8_split_10 : decode cX8_split 10 = .ok (.ifCond .ne 5, 3) := by decide +kernel
theorem dX8_split_13 : decode cX8_split 13 = .ok (.iconst (-1), 1) := by decide +kernel
theorem dX8_split_14 : decode cX8_split 14 = .ok (.ireturn, 1) := by decide +kernel
theorem dX8_split_15 : decode cX8_split 15 = .ok (.aload_n 0, 1) := by decide +kernel
theorem dX8_split_16 : decode cX8_split 16 = .ok (.getfield 7, 3) := by decide +kernel
theorem dX8_split_19 : decode cX8_split 19 = .ok (.iconst 0, 1) := by decide +kernel
theorem dX8_split_20 : decode cX8_split 20 = .ok (.iaload, 1) := by decide +kernel
theorem dX8_split_21 : decode cX8_split 21 = .ok (.iconst 4, 1) := by decide +kernel
theorem dX8_split_22 : decode cX8_split 22 = .ok (.if_icmp .ne 6, 3) := by decide +kernel
theorem dX8_split_25 : decode cX8_split 25 = .ok (.bipush (-3), 2) := by decide +kernel
theorem dX8_split_27 : decode cX8_split 27 = .ok (.ireturn, 1) := by decide +kernel
theorem dX8_split_28 : decode cX8_split 28 = .ok (.aload_n 0, 1) := by decide +kernel
theorem dX8_split_29 : decode cX8_split 29 = .ok (.invokevirtual 105, 3) := by decide +kernel
theorem dX8_split_32 : decode cX8_split 32 = .ok (.aload_n 0, 1) := by decide +kernel
theorem dX8_split_33 : decode cX8_split 33 = .ok (.getfield 7, 3) := by decide +kernel
theorem dX8_split_36 : decode cX8_split 36 = .ok (.iconst 0, 1) := by decide +kernel
theorem dX8_split_37 : decode cX8_split 37 = .ok (.iaload, 1) := by decide +kernel
theorem dX8_split_38 : decode cX8_split 38 = .ok (.istore_n 2, 1) := by decide +kernel
theorem dX8_split_39 : decode cX8_split 39 = .ok (.aload_n 0, 1) := by decide +kernel
theorem dX8_split_40 : decode cX8_split 40 = .ok (.iload_n 1, 1) := by decide +kernel
theorem dX8_split_41 : decode cX8_split 41 = .ok (.iload_n 1, 1) := by decide +kernel
theorem dX8_split_42 : decode cX8_split 42 = .ok (.invokevirtual 76, 3) := by decide +kernel
theorem dX8_split_45 : decode cX8_split 45 = .ok (.istore_n 3, 1) := by decide +kernel
theorem dX8_split_46 : decode cX8_split 46 = .ok (.aload_n 0, 1) := by decide +kernel
theorem dX8_split_47 : decode cX8_split 47 = .ok (.getfield 7, 3) := by decide +kernel
theorem dX8_split_50 : decode cX8_split 50 = .ok (.iconst 0, 1) := by decide +kernel
theorem dX8_split_51 : decode cX8_split 51 = .ok (.dup2, 1) := by decide +kernel
theorem dX8_split_52 : decode cX8_split 52 = .ok (.iaload, 1) := by decide +kernel
theorem dX8_split_53 : decode cX8_split 53 = .ok (.iconst 1, 1) := by decide +kernel
theorem dX8_split_54 : decode cX8_split 54 = .ok (.iadd, 1) := by decide +kernel
theorem dX8_split_55 : decode cX8_split 55 = .ok (.iastore, 1) := by decide +kernel
theorem dX8_split_56 : decode cX8_split 56 = .ok (.aload_n 0, 1) := by decide +kernel
theorem dX8_split_57 : decode cX8_split 57 = .ok (.getfield 7, 3) := by decide +kernel
theorem dX8_split_60 : decode cX8_split 60 = .ok (.iconst 3, 1) := by decide +kernel
theorem dX8_split_61 : decode cX8_split 61 = .ok (.iload_n 2, 1) := by decide +kernel
theorem dX8_split_62 : decode cX8_split 62 = .ok (.iadd, 1) := by decide +kernel
theorem dX8_split_63 : decode cX8_split 63 = .ok (.aload_n 0, 1) := by decide +kernel
theorem dX8_split_64 : decode cX8_split 64 = .ok (.getfield 7, 3) := by decide +kernel
theorem dX8_split_67 : decode cX8_split 67 = .ok (.iconst 3, 1) := by decide +kernel
theorem dX8_split_68 : decode cX8_split 68 = .ok (.iload_n 1, 1) := by decide +kernel
theorem dX8_split_69 : decode cX8_split 69 = .ok (.iadd, 1) := by decide +kernel
theorem dX8_split_70 : decode cX8_split 70 = .ok (.iaload, 1) := by decide +kernel
theorem dX8_split_71 : decode cX8_split 71 = .ok (.iastore, 1) := by decide +kernel
theorem dX8_split_72 : decode cX8_split 72 = .ok (.iconst 0, 1) := by decide +kernel
theorem dX8_split_73 : decode cX8_split 73 = .ok (.istore 4, 2) := by decide +kernel
theorem dX8_split_75 : decode cX8_split 75 = .ok (.iload 4, 2) := by decide +kernel
theorem dX8_split_77 : decode cX8_split 77 = .ok (.iconst 3, 1) := by decide +kernel
theorem dX8_split_78 : decode cX8_split 78 = .ok (.if_icmp .ge 30, 3) := by decide +kernel
theorem dX8_split_81 : decode cX8_split 81 = .ok (.aload_n 0, 1) := by decide +kernel
theorem dX8_split_82 : decode cX8_split 82 = .ok (.getfield 7, 3) := by decide +kernel
theorem dX8_split_85 : decode cX8_split 85 = .ok (.bipush 23, 2) := by decide +kernel
theorem dX8_split_87 : decode cX8_split 87 = .ok (.iconst 3, 1) := by decide +kernel
theorem dX8_split_88 : decode cX8_split 88 = .ok (.iload_n 2, 1) := by decide +kernel
theorem dX8_split_89 : decode cX8_split 89 = .ok (.imul, 1) := by decide +kernel
theorem dX8_split_90 : decode cX8_split 90 = .ok (.iadd, 1) := by decide +kernel
theorem dX8_split_91 : decode cX8_split 91 = .ok (.iload 4, 2) := by decide +kernel
theorem dX8_split_93 : decode cX8_split 93 = .ok (.iadd, 1) := by decide +kernel
theorem dX8_split_94 : decode cX8_split 94 = .ok (.aload_n 0, 1) := by decide +kernel
theorem dX8_split_95 : decode cX8_split 95 = .ok (.iload_n 1, 1) := by decide +kernel
theorem dX8_split_96 : decode cX8_split 96 = .ok (.iload 4, 2) := by decide +kernel
theorem dX8_split_98 : decode cX8_split 98 = .ok (.invokevirtual 73, 3) := by decide +kernel
theorem dX8_split_101 : decode cX8_split 101 = .ok (.iastore, 1) := by decide +kernel
theorem dX8_split_102 : decode cX8_split 102 = .ok (.iinc 4 1, 3) := by decide +kernel
theorem dX8_split_105 : decode cX8_split 105 = .ok (.goto (-30), 3) := by decide +kernel
theorem dX8_split_108 : decode cX8_split 108 = .ok (.iconst 0, 1) := by decide +kernel
theorem dX8_split_109 : decode cX8_split 109 = .ok (.istore 4, 2) := by decide +kernel
theorem dX8_split_111 : decode cX8_split 111 = .ok (.iload 4, 2) := by decide +kernel
theorem dX8_split_113 : decode cX8_split 113 = .ok (.iload_n 2, 1) := by decide +kernel
theorem dX8_split_114 : decode cX8_split 114 = .ok (.if_icmp .ge 51, 3) := by decide +kernel
theorem dX8_split_117 : decode cX8_split 117 = .ok (.aload_n 0, 1) := by decide +kernel
theorem dX8_split_118 : decode cX8_split 118 = .ok (.getfield 7, 3) := by decide +kernel
theorem dX8_split_121 : decode cX8_split 121 = .ok (.bipush 7, 2) := by decide +kernel
theorem dX8_split_123 : decode cX8_split 123 = .ok (.iconst 4, 1) := by decide +kernel
theorem dX8_split_124 : decode cX8_split 124 = .ok (.iload_n 2, 1) := by decide +kernel
theorem dX8_split_125 : decode cX8_split 125 = .ok (.imul, 1) := by decide +kernel
theorem dX8_split_126 : decode cX8_split 126 = .ok (.iadd, 1) := by decide +kernel
theorem dX8_split_127 : decode cX8_split 127 = .ok (.iload 4, 2) := by decide +kernel
theorem dX8_split_129 : decode cX8_split 129 = .ok (.iadd, 1) := by decide +kernel
theorem dX8_split_130 : decode cX8_split 130 = .ok (.aload_n 0, 1) := by decide +kernel
theorem dX8_split_131 : decode cX8_split 131 = .ok (.iload_n 1, 1) := by decide +kernel
theorem dX8_split_132 : decode cX8_split 132 = .ok (.iload 4, 2) := by decide +kernel
theorem dX8_split_134 : decode cX8_split 134 = .ok (.invokevirtual 76, 3) := by decide +kernel
theorem dX8_split_137 : decode cX8_split 137 = .ok (.iastore, 1) := by decide +kernel
theorem dX8_split_138 : decode cX8_split 138 = .ok (.aload_n 0, 1) := by decide +kernel
theorem dX8_split_139 : decode cX8_split 139 = .ok (.getfield 7, 3) := by decide +kernel
theorem dX8_split_142 : decode cX8_split 142 = .ok (.bipush 7, 2) := by decide +kernel
theorem dX8_split_144 : decode cX8_split 144 = .ok (.iconst 4, 1) := by decide +kernel
theorem dX8_split_145 : decode cX8_split 145 = .ok (.iload 4, 2) := by decide +kernel
theorem dX8_split_147 : decode cX8_split 147 = .ok (.imul, 1) := by decide +kernel
theorem dX8_split_148 : decode cX8_split 148 = .ok (.iadd, 1) := by decide +kernel
theorem dX8_split_149 : decode cX8_split 149 = .ok (.iload_n 2, 1) := by decide +kernel
theorem dX8_split_150 : decode cX8_split 150 = .ok (.iadd, 1) := by decide +kernel
theorem dX8_split_151 : decode cX8_split 151 = .ok (.aload_n 0, 1) := by decide +kernel
theorem dX8_split_152 : decode cX8_split 152 = .ok (.iload 4, 2) := by decide +kernel
theorem dX8_split_154 : decode cX8_split 154 = .ok (.iload_n 1, 1) := by decide +kernel
theorem dX8_split_155 : decode cX8_split 155 = .ok (.invokevirtual 76, 3) := by decide +kernel
theorem dX8_split_158 : decode cX8_split 158 = .ok (.iastore, 1) := by decide +kernel
theorem dX8_split_159 : decode cX8_split 159 = .ok (.iinc 4 1, 3) := by decide +kernel
theorem dX8_split_162 : decode cX8_split 162 = .ok (.goto (-51), 3) := by decide +kernel
theorem dX8_split_165 : decode cX8_split 165 = .ok (.aload_n 0, 1) := by decide +kernel
theorem dX8_split_166 : decode cX8_split 166 = .ok (.getfield 7, 3) := by decide +kernel
theorem dX8_split_169 : decode cX8_split 169 = .ok (.bipush 7, 2) := by decide +kernel
theorem dX8_split_171 : decode cX8_split 171 = .ok (.iconst 4, 1) := by decide +kernel
theorem dX8_split_172 : decode cX8_split 172 = .ok (.iload_n 2, 1) := by decide +kernel
theorem dX8_split_173 : decode cX8_split 173 = .ok (.imul, 1) := by decide +kernel
theorem dX8_split_174 : decode cX8_split 174 = .ok (.iadd, 1) := by decide +kernel
theorem dX8_split_175 : decode cX8_split 175 = .ok (.iload_n 2, 1) := by decide +kernel
theorem dX8_split_176 : decode cX8_split 176 = .ok (.iadd, 1) := by decide +kernel
theorem dX8_split_177 : decode cX8_split 177 = .ok (.iload_n 3, 1) := by decide +kernel
theorem dX8_split_178 : decode cX8_split 178 = .ok (.iastore, 1) := by decide +kernel
theorem dX8_split_179 : decode cX8_split 179 = .ok (.iload_n 2, 1) := by decide +kernel
theorem dX8_split_180 : decode cX8_split 180 = .ok (.ireturn, 1) := by decide +kernel
theorem dX8_drops_0 : decode cX8_drops 0 = .ok (.iconst 0, 1) := by decide +kernel
theorem dX8_drops_1 : decode cX8_drops 1 = .ok (.istore_n 2, 1) := by decide +kernel
theorem dX8_drops_2 : decode cX8_drops 2 = .ok (.iload_n 2, 1) := by decide +kernel
theorem dX8_drops_3 : decode cX8_drops 3 = .ok (.aload_n 0, 1) := by decide +kernel
theorem dX8_drops_4 : decode cX8_drops 4 = .ok (.getfield 7, 3) := by decide +kernel
theorem dX8_drops_7 : decode cX8_drops 7 = .ok (.iconst 0, 1) := by decide +kernel
theorem dX8_drops_8 : decode cX8_drops 8 = .ok (.iaload, 1) := by decide +kernel
theorem dX8_drops_9 : decode cX8_drops 9 = .ok (.if_icmp .ge 50, 3) := by decide +kernel
theorem dX8_drops_12 : decode cX8_drops 12 = .ok (.iload_n 1, 1) := by decide +kernel
theorem dX8_drops_13 : decode cX8_drops 13 = .ok (.istore_n 3, 1) := by decide +kernel
theorem dX8_drops_14 : decode cX8_drops 14 = .ok (.iload_n 3, 1) := by decide +kernel
theorem dX8_drops_15 : decode cX8_drops 15 = .ok (.aload_n 0, 1) := by decide +kernel
theorem dX8_drops_16 : decode cX8_drops 16 = .ok (.getfield 7, 3) := by decide +kernel
theorem dX8_drops_19 : decode cX8_drops 19 = .ok (.iconst 0, 1) := by decide +kernel
theorem dX8_drops_20 : decode cX8_drops 20 = .ok (.iaload, 1) := by decide +kernel
theorem dX8_drops_21 : decode cX8_drops 21 = .ok (.iconst 1, 1) := by decide +kernel
theorem dX8_drops_22 : decode cX8_drops 22 = .ok (.isub, 1) := by decide +kernel
theorem dX8_drops_23 : decode cX8_drops 23 = .ok (.if_icmp .ge 30, 3) := by decide +kernel
theorem dX8_drops_26 : decode cX8_drops 26 = .ok (.aload_n 0, 1) := by decide +kernel
theorem dX8_drops_27 : decode cX8_drops 27 = .ok (.getfield 7, 3) := by decide +kernel
theorem dX8_drops_30 : decode cX8_drops 30 = .ok (.bipush 7, 2) := by decide +kernel
theorem dX8_drops_32 : decode cX8_drops 32 = .ok (.iconst 4, 1) := by decide +kernel
theorem dX8_drops_33 : decode cX8_drops 33 = .ok (.iload_n 2, 1) := by decide +kernel
theorem dX8_drops_34 : decode cX8_drops 34 = .ok (.imul, 1) := by decide +kernel
theorem dX8_drops_35 : decode cX8_drops 35 = .ok (.iadd, 1) := by decide +kernel
theorem dX8_drops_36 : decode cX8_drops 36 = .ok (.iload_n 3, 1) := by decide +kernel
theorem dX8_drops_37 : decode cX8_drops 37 = .ok (.iadd, 1) := by decide +kernel
theorem dX8_drops_38 : decode cX8_drops 38 = .ok (.aload_n 0, 1) := by decide +kernel
theorem dX8_drops_39 : decode cX8_drops 39 = .ok (.iload_n 2, 1) := by decide +kernel
theorem dX8_drops_40 : decode cX8_drops 40 = .ok (.iload_n 3, 1) := by decide +kernel
theorem dX8_drops_41 : decode cX8_drops 41 = .ok (.iconst 1, 1) := by decide +kernel
theorem dX8_drops_42 : decode cX8_drops 42 = .ok (.iadd, 1) := by decide +kernel
theorem dX8_drops_43 : decode cX8_drops 43 = .ok (.invokevirtual 76, 3) := by decide +kernel
theorem dX8_drops_46 : decode cX8_drops 46 = .ok (.iastore, 1) := by decide +kernel
theorem dX8_drops_47 : decode cX8_drops 47 = .ok (.iinc 3 1, 3) := by decide +kernel
theorem dX8_drops_50 : decode cX8_drops 50 = .ok (.goto (-36), 3) := by decide +kernel
theorem dX8_drops_53 : decode cX8_drops 53 = .ok (.iinc 2 1, 3) := by decide +kernel
theorem dX8_drops_56 : decode cX8_drops 56 = .ok (.goto (-54), 3) := by decide +kernel
theorem dX8_drops_59 : decode cX8_drops 59 = .ok (.iload_n 1, 1) := by decide +kernel
theorem dX8_drops_60 : decode cX8_drops 60 = .ok (.istore_n 2, 1) := by decide +kernel
theorem dX8_drops_61 : decode cX8_drops 61 = .ok (.iload_n 2, 1) := by decide +kernel
theorem dX8_drops_62 : decode cX8_drops 62 = .ok (.aload_n 0, 1) := by decide +kernel
theorem dX8_drops_63 : decode cX8_drops 63 = .ok (.getfield 7, 3) := by decide +kernel
theorem dX8_drops_66 : decode cX8_drops 66 = .ok (.iconst 0, 1) := by decide +kernel
theorem dX8_drops_67 : decode cX8_drops 67 = .ok (.iaload, 1) := by decide +kernel
theorem dX8_drops_68 : decode cX8_drops 68 = .ok (.iconst 1, 1) := by decide +kernel
theorem dX8_drops_69 : decode cX8_drops 69 = .ok (.isub, 1) := by decide +kernel
theorem dX8_drops_70 : decode cX8_drops 70 = .ok (.if_icmp .ge 102, 3) := by decide +kernel
theorem dX8_drops_73 : decode cX8_drops 73 = .ok (.aload_n 0, 1) := by decide +kernel
theorem dX8_drops_74 : decode cX8_drops 74 = .ok (.getfield 7, 3) := by decide +kernel
theorem dX8_drops_77 : decode cX8_drops 77 = .ok (.iconst 3, 1) := by decide +kernel
theorem dX8_drops_78 : decode cX8_drops 78 = .ok (.iload_n 2, 1) := by decide +kernel
theorem dX8_drops_79 : decode cX8_drops 79 = .ok (.iadd, 1) := by decide +kernel
theorem dX8_drops_80 : decode cX8_drops 80 = .ok (.aload_n 0, 1) := by decide +kernel
theorem dX8_drops_81 : decode cX8_drops 81 = .ok (.getfield 7, 3) := by decide +kernel
theorem dX8_drops_84 : decode cX8_drops 84 = .ok (.iconst 3, 1) := by decide +kernel
theorem dX8_drops_85 : decode cX8_drops 85 = .ok (.iload_n 2, 1) := by decide +kernel
theorem dX8_drops_86 : decode cX8_drops 86 = .ok (.iadd, 1) := by decide +kernel
theorem dX8_drops_87 : decode cX8_drops 87 = .ok (.iconst 1, 1) := by decide +kernel
theorem dX8_drops_88 : decode cX8_drops 88 = .ok (.iadd, 1) := by decide +kernel
theorem dX8_drops_89 : decode cX8_drops 89 = .ok (.iaload, 1) := by decide +kernel
theorem dX8_drops_90 : decode cX8_drops 90 = .ok (.iastore, 1) := by decide +kernel
theorem dX8_drops_91 : decode cX8_drops 91 = .ok (.iconst 0, 1) := by decide +kernel
theorem dX8_drops_92 : decode cX8_drops 92 = .ok (.istore_n 3, 1) := by decide +kernel
theorem dX8_drops_93 : decode cX8_drops 93 = .ok (.iload_n 3, 1) := by decide +kernel
theorem dX8_drops_94 : decode cX8_drops 94 = .ok (.aload_n 0, 1) := by decide +kernel
theorem dX8_drops_95 : decode cX8_drops 95 = .ok (.getfield 7, 3) := by decide +kernel
theorem dX8_drops_98 : decode cX8_drops 98 = .ok (.iconst 0, 1) := by decide +kernel
theorem dX8_drops_99 : decode cX8_drops 99 = .ok (.iaload, 1) := by decide +kernel
theorem dX8_drops_100 : decode cX8_drops 100 = .ok (.iconst 1, 1) := by decide +kernel
theorem dX8_drops_101 : decode cX8_drops 101 = .ok (.isub, 1) := by decide +kernel
theorem dX8_drops_102 : decode cX8_drops 102 = .ok (.if_icmp .ge 30, 3) := by decide +kernel
theorem dX8_drops_105 : decode cX8_drops 105 = .ok (.aload_n 0, 1) := by decide +kernel
theorem dX8_drops_106 : decode cX8_drops 106 = .ok (.getfield 7, 3) := by decide +kernel
theorem dX8_drops_109 : decode cX8_drops 109 = .ok (.bipush 7, 2) := by decide +kernel
theorem dX8_drops_111 : decode cX8_drops 111 = .ok (.iconst 4, 1) := by decide +kernel
theorem dX8_drops_112 : decode cX8_drops 112 = .ok (.iload_n 2, 1) := by decide +kernel
theorem dX8_drops_113 : decode cX8_drops 113 = .ok (.imul, 1) := by decide +kernel
theorem dX8_drops_114 : decode cX8_drops 114 = .ok (.iadd, 1) := by decide +kernel
theorem dX8_drops_115 : decode cX8_drops 115 = .ok (.iload_n 3, 1) := by decide +kernel
theorem dX8_drops_116 : decode cX8_drops 116 = .ok (.iadd, 1) := by decide +kernel
theorem dX8_drops_117 : decode cX8_drops 117 = .ok (.aload_n 0, 1) := by decide +kernel
theorem dX8_drops_118 : decode cX8_drops 118 = .ok (.iload_n 2, 1) := by decide +kernel
theorem dX8_drops_119 : decode cX8_drops 119 = .ok (.iconst 1, 1) := by decide +kernel
theorem dX8_drops_120 : decode cX8_drops 120 = .ok (.iadd, 1) := by decide +kernel
theorem dX8_drops_121 : decode cX8_drops 121 = .ok (.iload_n 3, 1) := by decide +kernel
theorem dX8_drops_122 : decode cX8_drops 122 = .ok (.invokevirtual 76, 3) := by decide +kernel
theorem dX8_drops_125 : decode cX8_drops 125 = .ok (.iastore, 1) := by decide +kernel
theorem dX8_drops_126 : decode cX8_drops 126 = .ok (.iinc 3 1, 3) := by decide +kernel
theorem dX8_drops_129 : decode cX8_drops 129 = .ok (.goto (-36), 3) := by decide +kernel
theorem dX8_drops_132 : decode cX8_drops 132 = .ok (.iconst 0, 1) := by decide +kernel
theorem dX8_drops_133 : decode cX8_drops 133 = .ok (.istore_n 3, 1) := by decide +kernel
theorem dX8_drops_134 : decode cX8_drops 134 = .ok (.iload_n 3, 1) := by decide +kernel
theorem dX8_drops_135 : decode cX8_drops 135 = .ok (.iconst 3, 1) := by decide +kernel
theorem dX8_drops_136 : decode cX8_drops 136 = .ok (.if_icmp .ge 30, 3) := by decide +kernel
theorem dX8_drops_139 : decode cX8_drops 139 = .ok (.aload_n 0, 1) := by decide +kernel
theorem dX8_drops_140 : decode cX8_drops 140 = .ok (.getfield 7, 3) := by decide +kernel
theorem dX8_drops_143 : decode cX8_drops 143 = .ok (.bipush 23, 2) := by decide +kernel
theorem dX8_drops_145 : decode cX8_drops 145 = .ok (.iconst 3, 1) := by decide +kernel
theorem dX8_drops_146 : decode cX8_drops 146 = .ok (.iload_n 2, 1) := by decide +kernel
theorem dX8_drops_147 : decode cX8_drops 147 = .ok (.imul, 1) := by decide +kernel
theorem dX8_drops_148 : decode cX8_drops 148 = .ok (.iadd, 1) := by decide +kernel
theorem dX8_drops_149 : decode cX8_drops 149 = .ok (.iload_n 3, 1) := by decide +kernel
theorem dX8_drops_150 : decode cX8_drops 150 = .ok (.iadd, 1) := by decide +kernel
theorem dX8_drops_151 : decode cX8_drops 151 = .ok (.aload_n 0, 1) := by decide +kernel
theorem dX8_drops_152 : decode cX8_drops 152 = .ok (.iload_n 2, 1) := by decide +kernel
theorem dX8_drops_153 : decode cX8_drops 153 = .ok (.iconst 1, 1) := by decide +kernel
theorem dX8_drops_154 : decode cX8_drops 154 = .ok (.iadd, 1) := by decide +kernel
theorem dX8_drops_155 : decode cX8_drops 155 = .ok (.iload_n 3, 1) := by decide +kernel
theorem dX8_drops_156 : decode cX8_drops 156 = .ok (.invokevirtual 73, 3) := by decide +kernel
theorem dX8_drops_159 : decode cX8_drops 159 = .ok (.iastore, 1) := by decide +kernel
theorem dX8_drops_160 : decode cX8_drops 160 = .ok (.iinc 3 1, 3) := by decide +kernel
theorem dX8_drops_163 : decode cX8_drops 163 = .ok (.goto (-29), 3) := by decide +kernel
theorem dX8_drops_166 : decode cX8_drops 166 = .ok (.iinc 2 1, 3) := by decide +kernel
theorem dX8_drops_169 : decode cX8_drops 169 = .ok (.goto (-108), 3) := by decide +kernel
theorem dX8_drops_172 : decode cX8_drops 172 = .ok (.aload_n 0, 1) := by decide +kernel
theorem dX8_drops_173 : decode cX8_drops 173 = .ok (.getfield 7, 3) := by decide +kernel
theorem dX8_drops_176 : decode cX8_drops 176 = .ok (.iconst 0, 1) := by decide +kernel
theorem dX8_drops_177 : decode cX8_drops 177 = .ok (.dup2, 1) := by decide +kernel
theorem dX8_drops_178 : decode cX8_drops 178 = .ok (.iaload, 1) := by decide +kernel
theorem dX8_drops_179 : decode cX8_drops 179 = .ok (.iconst 1, 1) := by decide +kernel
theorem dX8_drops_180 : decode cX8_drops 180 = .ok (.isub, 1) := by decide +kernel
theorem dX8_drops_181 : decode cX8_drops 181 = .ok (.iastore, 1) := by decide +kernel
theorem dX8_drops_182 : decode cX8_drops 182 = .ok (.aload_n 0, 1) := by decide +kernel
theorem dX8_drops_183 : decode cX8_drops 183 = .ok (.aload_n 0, 1) := by decide +kernel
theorem dX8_drops_184 : decode cX8_drops 184 = .ok (.getfield 7, 3) := by decide +kernel
theorem dX8_drops_187 : decode cX8_drops 187 = .ok (.iconst 0, 1) := by decide +kernel
theorem dX8_drops_188 : decode cX8_drops 188 = .ok (.iaload, 1) := by decide +kernel
theorem dX8_drops_189 : decode cX8_drops 189 = .ok (.invokevirtual 108, 3) := by decide +kernel
theorem dX8_drops_192 : decode cX8_drops 192 = .ok (.return_, 1) := by decide +kernel
theorem dX8_clears_0 : decode cX8_clears 0 = .ok (.aload_n 0, 1) := by decide +kernel
theorem dX8_clears_1 : decode cX8_clears 1 = .ok (.getfield 7, 3) := by decide +kernel
theorem dX8_clears_4 : decode cX8_clears 4 = .ok (.iconst 3, 1) := by decide +kernel
theorem dX8_clears_5 : decode cX8_clears 5 = .ok (.iload_n 1, 1) := by decide +kernel
theorem dX8_clears_6 : decode cX8_clears 6 = .ok (.iadd, 1) := by decide +kernel
theorem dX8_clears_7 : decode cX8_clears 7 = .ok (.iconst 0, 1) := by decide +kernel
theorem dX8_clears_8 : decode cX8_clears 8 = .ok (.iastore, 1) := by decide +kernel
theorem dX8_clears_9 : decode cX8_clears 9 = .ok (.iconst 0, 1) := by decide +kernel
theorem dX8_clears_10 : decode cX8_clears 10 = .ok (.istore_n 2, 1) := by decide +kernel
theorem dX8_clears_11 : decode cX8_clears 11 = .ok (.iload_n 2, 1) := by decide +kernel
theorem dX8_clears_12 : decode cX8_clears 12 = .ok (.iconst 4, 1) := by decide +kernel
theorem dX8_clears_13 : decode cX8_clears 13 = .ok (.if_icmp .ge 37, 3) := by decide +kernel
theorem dX8_clears_16 : decode cX8_clears 16 = .ok (.aload_n 0, 1) := by decide +kernel
theorem dX8_clears_17 : decode cX8_clears 17 = .ok (.getfield 7, 3) := by decide +kernel
theorem dX8_clears_20 : decode cX8_clears 20 = .ok (.bipush 7, 2) := by decide +kernel
theorem dX8_clears_22 : decode cX8_clears 22 = .ok (.iconst 4, 1) := by decide +kernel
theorem dX8_clears_23 : decode cX8_clears 23 = .ok (.iload_n 1, 1) := by decide +kernel
theorem dX8_clears_24 : decode cX8_clears 24 = .ok (.imul, 1) := by decide +kernel
theorem dX8_clears_25 : decode cX8_clears 25 = .ok (.iadd, 1) := by decide +kernel
theorem dX8_clears_26 : decode cX8_clears 26 = .ok (.iload_n 2, 1) := by decide +kernel
theorem dX8_clears_27 : decode cX8_clears 27 = .ok (.iadd, 1) := by decide +kernel
theorem dX8_clears_28 : decode cX8_clears 28 = .ok (.iconst 0, 1) := by decide +kernel
theorem dX8_clears_29 : decode cX8_clears 29 = .ok (.iastore, 1) := by decide +kernel
theorem dX8_clears_30 : decode cX8_clears 30 = .ok (.aload_n 0, 1) := by decide +kernel
theorem dX8_clears_31 : decode cX8_clears 31 = .ok (.getfield 7, 3) := by decide +kernel
theorem dX8_clears_34 : decode cX8_clears 34 = .ok (.bipush 7, 2) := by decide +kernel
theorem dX8_clears_36 : decode cX8_clears 36 = .ok (.iconst 4, 1) := by decide +kernel
theorem dX8_clears_37 : decode cX8_clears 37 = .ok (.iload_n 2, 1) := by decide +kernel
theorem dX8_clears_38 : decode cX8_clears 38 = .ok (.imul, 1) := by decide +kernel
theorem dX8_clears_39 : decode cX8_clears 39 = .ok (.iadd, 1) := by decide +kernel
theorem dX8_clears_40 : decode cX8_clears 40 = .ok (.iload_n 1, 1) := by decide +kernel
theorem dX8_clears_41 : decode cX8_clears 41 = .ok (.iadd, 1) := by decide +kernel
theorem dX8_clears_42 : decode cX8_clears 42 = .ok (.iconst 0, 1) := by decide +kernel
theorem dX8_clears_43 : decode cX8_clears 43 = .ok (.iastore, 1) := by decide +kernel
theorem dX8_clears_44 : decode cX8_clears 44 = .ok (.iinc 2 1, 3) := by decide +kernel
theorem dX8_clears_47 : decode cX8_clears 47 = .ok (.goto (-36), 3) := by decide +kernel
theorem dX8_clears_50 : decode cX8_clears 50 = .ok (.iconst 0, 1) := by decide +kernel
theorem dX8_clears_51 : decode cX8_clears 51 = .ok (.istore_n 2, 1) := by decide +kernel
theorem dX8_clears_52 : decode cX8_clears 52 = .ok (.iload_n 2, 1) := by decide +kernel
theorem dX8_clears_53 : decode cX8_clears 53 = .ok (.iconst 3, 1) := by decide +kernel
theorem dX8_clears_54 : decode cX8_clears 54 = .ok (.if_icmp .ge 23, 3) := by decide +kernel
theorem dX8_clears_57 : decode cX8_clears 57 = .ok (.aload_n 0, 1) := by decide +kernel
theorem dX8_clears_58 : decode cX8_clears 58 = .ok (.getfield 7, 3) := by decide +kernel
theorem dX8_clears_61 : decode cX8_clears 61 = .ok (.bipush 23, 2) := by decide +kernel
theorem dX8_clears_63 : decode cX8_clears 63 = .ok (.iconst 3, 1) := by decide +kernel
theorem dX8_clears_64 : decode cX8_clears 64 = .ok (.iload_n 1, 1) := by decide +kernel
theorem dX8_clears_65 : decode cX8_clears 65 = .ok (.imul, 1) := by decide +kernel
theorem dX8_clears_66 : decode cX8_clears 66 = .ok (.iadd, 1) := by decide +kernel
theorem dX8_clears_67 : decode cX8_clears 67 = .ok (.iload_n 2, 1) := by decide +kernel
theorem dX8_clears_68 : decode cX8_clears 68 = .ok (.iadd, 1) := by decide +kernel
theorem dX8_clears_69 : decode cX8_clears 69 = .ok (.iconst 0, 1) := by decide +kernel
theorem dX8_clears_70 : decode cX8_clears 70 = .ok (.iastore, 1) := by decide +kernel
theorem dX8_clears_71 : decode cX8_clears 71 = .ok (.iinc 2 1, 3) := by decide +kernel
theorem dX8_clears_74 : decode cX8_clears 74 = .ok (.goto (-22), 3) := by decide +kernel
theorem dX8_clears_77 : decode cX8_clears 77 = .ok (.return_, 1) := by decide +kernel
theorem dX8_capped_0 : decode cX8_capped 0 = .ok (.iload_n 0, 1) := by decide +kernel
theorem dX8_capped_1 : decode cX8_capped 1 = .ok (.bipush 6, 2) := by decide +kernel
theorem dX8_capped_3 : decode cX8_capped 3 = .ok (.if_icmp .le 8, 3) := by decide +kernel
theorem dX8_capped_6 : decode cX8_capped 6 = .ok (.bipush 6, 2) := by decide +kernel
theorem dX8_capped_8 : decode cX8_capped 8 = .ok (.goto 4, 3) := by decide +kernel
theorem dX8_capped_11 : decode cX8_capped 11 = .ok (.iload_n 0, 1) := by decide +kernel
theorem dX8_capped_12 : decode cX8_capped 12 = .ok (.ireturn, 1) := by decide +kernel
theorem dX8_join_0 : decode cX8_join 0 = .ok (.aload_n 0, 1) := by decide +kernel
theorem dX8_join_1 : decode cX8_join 1 = .ok (.iconst 0, 1) := by decide +kernel
theorem dX8_join_2 : decode cX8_join 2 = .ok (.putfield 50, 3) := by decide +kernel
theorem dX8_join_5 : decode cX8_join 5 = .ok (.aload_n 0, 1) := by decide +kernel
theorem dX8_join_6 : decode cX8_join 6 = .ok (.iload_n 1, 1) := by decide +kernel
theorem dX8_join_7 : decode cX8_join 7 = .ok (.invokevirtual 97, 3) := by decide +kernel
theorem dX8_join_10 : decode cX8_join 10 = .ok (.ifCond .eq 11, 3) := by decide +kernel
theorem dX8_join_13 : decode cX8_join 13 = .ok (.aload_n 0, 1) := by decide +kernel
theorem dX8_join_14 : decode cX8_join 14 = .ok (.iload_n 2, 1) := by decide +kernel
theorem dX8_join_15 : decode cX8_join 15 = .ok (.invokevirtual 97, 3) := by decide +kernel
theorem dX8_join_18 : decode cX8_join 18 = .ok (.ifCond .ne 5, 3) := by decide +kernel
theorem dX8_join_21 : decode cX8_join 21 = .ok (.iconst (-1), 1) := by decide +kernel
theorem dX8_join_22 : decode cX8_join 22 = .ok (.ireturn, 1) := by decide +kernel
theorem dX8_join_23 : decode cX8_join 23 = .ok (.iload_n 1, 1) := by decide +kernel
theorem dX8_join_24 : decode cX8_join 24 = .ok (.iload_n 2, 1) := by decide +kernel
theorem dX8_join_25 : decode cX8_join 25 = .ok (.if_icmp .ne 6, 3) := by decide +kernel
theorem dX8_join_28 : decode cX8_join 28 = .ok (.bipush (-2), 2) := by decide +kernel
theorem dX8_join_30 : decode cX8_join 30 = .ok (.ireturn, 1) := by decide +kernel
theorem dX8_join_31 : decode cX8_join 31 = .ok (.aload_n 0, 1) := by decide +kernel
theorem dX8_join_32 : decode cX8_join 32 = .ok (.invokevirtual 105, 3) := by decide +kernel
theorem dX8_join_35 : decode cX8_join 35 = .ok (.iload_n 1, 1) := by decide +kernel
theorem dX8_join_36 : decode cX8_join 36 = .ok (.iload_n 2, 1) := by decide +kernel
theorem dX8_join_37 : decode cX8_join 37 = .ok (.if_icmp .ge 7, 3) := by decide +kernel
theorem dX8_join_40 : decode cX8_join 40 = .ok (.iload_n 1, 1) := by decide +kernel
theorem dX8_join_41 : decode cX8_join 41 = .ok (.goto 4, 3) := by decide +kernel
theorem dX8_join_44 : decode cX8_join 44 = .ok (.iload_n 2, 1) := by decide +kernel
theorem dX8_join_45 : decode cX8_join 45 = .ok (.istore_n 3, 1) := by decide +kernel
theorem dX8_join_46 : decode cX8_join 46 = .ok (.iload_n 1, 1) := by decide +kernel
theorem dX8_join_47 : decode cX8_join 47 = .ok (.iload_n 2, 1) := by decide +kernel
theorem dX8_join_48 : decode cX8_join 48 = .ok (.iadd, 1) := by decide +kernel
theorem dX8_join_49 : decode cX8_join 49 = .ok (.iload_n 3, 1) := by decide +kernel
theorem dX8_join_50 : decode cX8_join 50 = .ok (.isub, 1) := by decide +kernel
theorem dX8_join_51 : decode cX8_join 51 = .ok (.istore 4, 2) := by decide +kernel
theorem dX8_join_53 : decode cX8_join 53 = .ok (.aload_n 0, 1) := by decide +kernel
theorem dX8_join_54 : decode cX8_join 54 = .ok (.iload_n 3, 1) := by decide +kernel
theorem dX8_join_55 : decode cX8_join 55 = .ok (.iload_n 3, 1) := by decide +kernel
theorem dX8_join_56 : decode cX8_join 56 = .ok (.invokevirtual 76, 3) := by decide +kernel
theorem dX8_join_59 : decode cX8_join 59 = .ok (.aload_n 0, 1) := by decide +kernel
theorem dX8_join_60 : decode cX8_join 60 = .ok (.iload_n 3, 1) := by decide +kernel
theorem dX8_join_61 : decode cX8_join 61 = .ok (.iload 4, 2) := by decide +kernel
theorem dX8_join_63 : decode cX8_join 63 = .ok (.invokevirtual 76, 3) := by decide +kernel
theorem dX8_join_66 : decode cX8_join 66 = .ok (.iadd, 1) := by decide +kernel
theorem dX8_join_67 : decode cX8_join 67 = .ok (.aload_n 0, 1) := by decide +kernel
theorem dX8_join_68 : decode cX8_join 68 = .ok (.iload 4, 2) := by decide +kernel
theorem dX8_join_70 : decode cX8_join 70 = .ok (.iload_n 3, 1) := by decide +kernel
theorem dX8_join_71 : decode cX8_join 71 = .ok (.invokevirtual 76, 3) := by decide +kernel
theorem dX8_join_74 : decode cX8_join 74 = .ok (.iadd, 1) := by decide +kernel
theorem dX8_join_75 : decode cX8_join 75 = .ok (.aload_n 0, 1) := by decide +kernel
theorem dX8_join_76 : decode cX8_join 76 = .ok (.iload 4, 2) := by decide +kernel
theorem dX8_join_78 : decode cX8_join 78 = .ok (.iload 4, 2) := by decide +kernel
theorem dX8_join_80 : decode cX8_join 80 = .ok (.invokevirtual 76, 3) := by decide +kernel
theorem dX8_join_83 : decode cX8_join 83 = .ok (.iadd, 1) := by decide +kernel
theorem dX8_join_84 : decode cX8_join 84 = .ok (.invokestatic 111, 3) := by decide +kernel
theorem dX8_join_87 : decode cX8_join 87 = .ok (.istore 5, 2) := by decide +kernel
theorem dX8_join_89 : decode cX8_join 89 = .ok (.aload_n 0, 1) := by decide +kernel
theorem dX8_join_90 : decode cX8_join 90 = .ok (.getfield 7, 3) := by decide +kernel
theorem dX8_join_93 : decode cX8_join 93 = .ok (.iconst 3, 1) := by decide +kernel
theorem dX8_join_94 : decode cX8_join 94 = .ok (.iload_n 3, 1) := by decide +kernel
theorem dX8_join_95 : decode cX8_join 95 = .ok (.iadd, 1) := by decide +kernel
theorem dX8_join_96 : decode cX8_join 96 = .ok (.aload_n 0, 1) := by decide +kernel
theorem dX8_join_97 : decode cX8_join 97 = .ok (.getfield 7, 3) := by decide +kernel
theorem dX8_join_100 : decode cX8_join 100 = .ok (.iconst 3, 1) := by decide +kernel
theorem dX8_join_101 : decode cX8_join 101 = .ok (.iload_n 3, 1) := by decide +kernel
theorem dX8_join_102 : decode cX8_join 102 = .ok (.iadd, 1) := by decide +kernel
theorem dX8_join_103 : decode cX8_join 103 = .ok (.iaload, 1) := by decide +kernel
theorem dX8_join_104 : decode cX8_join 104 = .ok (.aload_n 0, 1) := by decide +kernel
theorem dX8_join_105 : decode cX8_join 105 = .ok (.getfield 7, 3) := by decide +kernel
theorem dX8_join_108 : decode cX8_join 108 = .ok (.iconst 3, 1) := by decide +kernel
theorem dX8_join_109 : decode cX8_join 109 = .ok (.iload 4, 2) := by decide +kernel
theorem dX8_join_111 : decode cX8_join 111 = .ok (.iadd, 1) := by decide +kernel
theorem dX8_join_112 : decode cX8_join 112 = .ok (.iaload, 1) := by decide +kernel
theorem dX8_join_113 : decode cX8_join 113 = .ok (.iadd, 1) := by decide +kernel
theorem dX8_join_114 : decode cX8_join 114 = .ok (.invokestatic 111, 3) := by decide +kernel
theorem dX8_join_117 : decode cX8_join 117 = .ok (.iastore, 1) := by decide +kernel
theorem dX8_join_118 : decode cX8_join 118 = .ok (.iconst 0, 1) := by decide +kernel
theorem dX8_join_119 : decode cX8_join 119 = .ok (.istore 6, 2) := by decide +kernel
theorem dX8_join_121 : decode cX8_join 121 = .ok (.iload 6, 2) := by decide +kernel
theorem dX8_join_123 : decode cX8_join 123 = .ok (.iconst 3, 1) := by decide +kernel
theorem dX8_join_124 : decode cX8_join 124 = .ok (.if_icmp .ge 42, 3) := by decide +kernel
theorem dX8_join_127 : decode cX8_join 127 = .ok (.aload_n 0, 1) := by decide +kernel
theorem dX8_join_128 : decode cX8_join 128 = .ok (.getfield 7, 3) := by decide +kernel
theorem dX8_join_131 : decode cX8_join 131 = .ok (.bipush 23, 2) := by decide +kernel
theorem dX8_join_133 : decode cX8_join 133 = .ok (.iconst 3, 1) := by decide +kernel
theorem dX8_join_134 : decode cX8_join 134 = .ok (.iload_n 3, 1) := by decide +kernel
theorem dX8_join_135 : decode cX8_join 135 = .ok (.imul, 1) := by decide +kernel
theorem dX8_join_136 : decode cX8_join 136 = .ok (.iadd, 1) := by decide +kernel
theorem dX8_join_137 : decode cX8_join 137 = .ok (.iload 6, 2) := by decide +kernel
theorem dX8_join_139 : decode cX8_join 139 = .ok (.iadd, 1) := by decide +kernel
theorem dX8_join_140 : decode cX8_join 140 = .ok (.aload_n 0, 1) := by decide +kernel
theorem dX8_join_141 : decode cX8_join 141 = .ok (.iload_n 3, 1) := by decide +kernel
theorem dX8_join_142 : decode cX8_join 142 = .ok (.iload 6, 2) := by decide +kernel
theorem dX8_join_144 : decode cX8_join 144 = .ok (.invokevirtual 73, 3) := by decide +kernel
theorem dX8_join_147 : decode cX8_join 147 = .ok (.aload_n 0, 1) := by decide +kernel
theorem dX8_join_148 : decode cX8_join 148 = .ok (.iload 4, 2) := by decide +kernel
theorem dX8_join_150 : decode cX8_join 150 = .ok (.iload 6, 2) := by decide +kernel
theorem dX8_join_152 : decode cX8_join 152 = .ok (.invokevirtual 73, 3) := by decide +kernel
theorem dX8_join_155 : decode cX8_join 155 = .ok (.iadd, 1) := by decide +kernel
theorem dX8_join_156 : decode cX8_join 156 = .ok (.invokestatic 111, 3) := by decide +kernel
theorem dX8_join_159 : decode cX8_join 159 = .ok (.iastore, 1) := by decide +kernel
theorem dX8_join_160 : decode cX8_join 160 = .ok (.iinc 6 1, 3) := by decide +kernel
theorem dX8_join_163 : decode cX8_join 163 = .ok (.goto (-42), 3) := by decide +kernel
theorem dX8_join_166 : decode cX8_join 166 = .ok (.iconst 0, 1) := by decide +kernel
theorem dX8_join_167 : decode cX8_join 167 = .ok (.istore 6, 2) := by decide +kernel
theorem dX8_join_169 : decode cX8_join 169 = .ok (.iload 6, 2) := by decide +kernel
theorem dX8_join_171 : decode cX8_join 171 = .ok (.aload_n 0, 1) := by decide +kernel
theorem dX8_join_172 : decode cX8_join 172 = .ok (.getfield 7, 3) := by decide +kernel
theorem dX8_join_175 : decode cX8_join 175 = .ok (.iconst 0, 1) := by decide +kernel
theorem dX8_join_176 : decode cX8_join 176 = .ok (.iaload, 1) := by decide +kernel
theorem dX8_join_177 : decode cX8_join 177 = .ok (.if_icmp .ge 88, 3) := by decide +kernel
theorem dX8_join_180 : decode cX8_join 180 = .ok (.iload 6, 2) := by decide +kernel
theorem dX8_join_182 : decode cX8_join 182 = .ok (.iload_n 3, 1) := by decide +kernel
theorem dX8_join_183 : decode cX8_join 183 = .ok (.if_icmp .eq 76, 3) := by decide +kernel
theorem dX8_join_186 : decode cX8_join 186 = .ok (.iload 6, 2) := by decide +kernel
theorem dX8_join_188 : decode cX8_join 188 = .ok (.iload 4, 2) := by decide +kernel
theorem dX8_join_190 : decode cX8_join 190 = .ok (.if_icmp .eq 69, 3) := by decide +kernel
theorem dX8_join_193 : decode cX8_join 193 = .ok (.aload_n 0, 1) := by decide +kernel
theorem dX8_join_194 : decode cX8_join 194 = .ok (.getfield 7, 3) := by decide +kernel
theorem dX8_join_197 : decode cX8_join 197 = .ok (.bipush 7, 2) := by decide +kernel
theorem dX8_join_199 : decode cX8_join 199 = .ok (.iconst 4, 1) := by decide +kernel
theorem dX8_join_200 : decode cX8_join 200 = .ok (.iload_n 3, 1) := by decide +kernel
theorem dX8_join_201 : decode cX8_join 201 = .ok (.imul, 1) := by decide +kernel
theorem dX8_join_202 : decode cX8_join 202 = .ok (.iadd, 1) := by decide +kernel
theorem dX8_join_203 : decode cX8_join 203 = .ok (.iload 6, 2) := by decide +kernel
theorem dX8_join_205 : decode cX8_join 205 = .ok (.iadd, 1) := by decide +kernel
theorem dX8_join_206 : decode cX8_join 206 = .ok (.aload_n 0, 1) := by decide +kernel
theorem dX8_join_207 : decode cX8_join 207 = .ok (.iload_n 3, 1) := by decide +kernel
theorem dX8_join_208 : decode cX8_join 208 = .ok (.iload 6, 2) := by decide +kernel
theorem dX8_join_210 : decode cX8_join 210 = .ok (.invokevirtual 76, 3) := by decide +kernel
theorem dX8_join_213 : decode cX8_join 213 = .ok (.aload_n 0, 1) := by decide +kernel
theorem dX8_join_214 : decode cX8_join 214 = .ok (.iload 4, 2) := by decide +kernel
theorem dX8_join_216 : decode cX8_join 216 = .ok (.iload 6, 2) := by decide +kernel
theorem dX8_join_218 : decode cX8_join 218 = .ok (.invokevirtual 76, 3) := by decide +kernel
theorem dX8_join_221 : decode cX8_join 221 = .ok (.iadd, 1) := by decide +kernel
theorem dX8_join_222 : decode cX8_join 222 = .ok (.invokestatic 111, 3) := by decide +kernel
theorem dX8_join_225 : decode cX8_join 225 = .ok (.iastore, 1) := by decide +kernel
theorem dX8_join_226 : decode cX8_join 226 = .ok (.aload_n 0, 1) := by decide +kernel
theorem dX8_join_227 : decode cX8_join 227 = .ok (.getfield 7, 3) := by decide +kernel
theorem dX8_join_230 : decode cX8_join 230 = .ok (.bipush 7, 2) := by decide +kernel
theorem dX8_join_232 : decode cX8_join 232 = .ok (.iconst 4, 1) := by decide +kernel
theorem dX8_join_233 : decode cX8_join 233 = .ok (.iload 6, 2) := by decide +kernel
theorem dX8_join_235 : decode cX8_join 235 = .ok (.imul, 1) := by decide +kernel
theorem dX8_join_236 : decode cX8_join 236 = .ok (.iadd, 1) := by decide +kernel
theorem dX8_join_237 : decode cX8_join 237 = .ok (.iload_n 3, 1) := by decide +kernel
theorem dX8_join_238 : decode cX8_join 238 = .ok (.iadd, 1) := by decide +kernel
theorem dX8_join_239 : decode cX8_join 239 = .ok (.aload_n 0, 1) := by decide +kernel
theorem dX8_join_240 : decode cX8_join 240 = .ok (.iload 6, 2) := by decide +kernel
theorem dX8_join_242 : decode cX8_join 242 = .ok (.iload_n 3, 1) := by decide +kernel
theorem dX8_join_243 : decode cX8_join 243 = .ok (.invokevirtual 76, 3) := by decide +kernel
theorem dX8_join_246 : decode cX8_join 246 = .ok (.aload_n 0, 1) := by decide +kernel
theorem dX8_join_247 : decode cX8_join 247 = .ok (.iload 6, 2) := by decide +kernel
theorem dX8_join_249 : decode cX8_join 249 = .ok (.iload 4, 2) := by decide +kernel
theorem dX8_join_251 : decode cX8_join 251 = .ok (.invokevirtual 76, 3) := by decide +kernel
theorem dX8_join_254 : decode cX8_join 254 = .ok (.iadd, 1) := by decide +kernel
theorem dX8_join_255 : decode cX8_join 255 = .ok (.invokestatic 111, 3) := by decide +kernel
theorem dX8_join_258 : decode cX8_join 258 = .ok (.iastore, 1) := by decide +kernel
theorem dX8_join_259 : decode cX8_join 259 = .ok (.iinc 6 1, 3) := by decide +kernel
theorem dX8_join_262 : decode cX8_join 262 = .ok (.goto (-93), 3) := by decide +kernel
theorem dX8_join_265 : decode cX8_join 265 = .ok (.aload_n 0, 1) := by decide +kernel
theorem dX8_join_266 : decode cX8_join 266 = .ok (.getfield 7, 3) := by decide +kernel
theorem dX8_join_269 : decode cX8_join 269 = .ok (.bipush 7, 2) := by decide +kernel
theorem dX8_join_271 : decode cX8_join 271 = .ok (.iconst 4, 1) := by decide +kernel
theorem dX8_join_272 : decode cX8_join 272 = .ok (.iload_n 3, 1) := by decide +kernel
theorem dX8_join_273 : decode cX8_join 273 = .ok (.imul, 1) := by decide +kernel
theorem dX8_join_274 : decode cX8_join 274 = .ok (.iadd, 1) := by decide +kernel
theorem dX8_join_275 : decode cX8_join 275 = .ok (.iload_n 3, 1) := by decide +kernel
theorem dX8_join_276 : decode cX8_join 276 = .ok (.iadd, 1) := by decide +kernel
theorem dX8_join_277 : decode cX8_join 277 = .ok (.iload 5, 2) := by decide +kernel
theorem dX8_join_279 : decode cX8_join 279 = .ok (.iastore, 1) := by decide +kernel
theorem dX8_join_280 : decode cX8_join 280 = .ok (.aload_n 0, 1) := by decide +kernel
theorem dX8_join_281 : decode cX8_join 281 = .ok (.iload 4, 2) := by decide +kernel
theorem dX8_join_283 : decode cX8_join 283 = .ok (.invokevirtual 114, 3) := by decide +kernel
theorem dX8_join_286 : decode cX8_join 286 = .ok (.aload_n 0, 1) := by decide +kernel
theorem dX8_join_287 : decode cX8_join 287 = .ok (.getfield 7, 3) := by decide +kernel
theorem dX8_join_290 : decode cX8_join 290 = .ok (.iconst 0, 1) := by decide +kernel
theorem dX8_join_291 : decode cX8_join 291 = .ok (.iaload, 1) := by decide +kernel
theorem dX8_join_292 : decode cX8_join 292 = .ok (.ireturn, 1) := by decide +kernel
theorem dX8_removeState_0 : decode cX8_removeState 0 = .ok (.aload_n 0, 1) := by decide +kernel
theorem dX8_removeState_1 : decode cX8_removeState 1 = .ok (.iconst 0, 1) := by decide +kernel
theorem dX8_removeState_2 : decode cX8_removeState 2 = .ok (.putfield 50, 3) := by decide +kernel
theorem dX8_removeState_5 : decode cX8_removeState 5 = .ok (.aload_n 0, 1) := by decide +kernel
theorem dX8_removeState_6 : decode cX8_removeState 6 = .ok (.iload_n 1, 1) := by decide +kernel
theorem dX8_removeState_7 : decode cX8_removeState 7 = .ok (.invokevirtual 97, 3) := by decide +kernel
theorem dX8_removeState_10 : decode cX8_removeState 10 = .ok (.ifCond .ne 5, 3) := by decide +kernel
theorem dX8_removeState_13 : decode cX8_removeState 13 = .ok (.iconst (-1), 1) := by decide +kernel
theorem dX8_removeState_14 : decode cX8_removeState 14 = .ok (.ireturn, 1) := by decide +kernel
theorem dX8_removeState_15 : decode cX8_removeState 15 = .ok (.aload_n 0, 1) := by decide +kernel
theorem dX8_removeState_16 : decode cX8_removeState 16 = .ok (.getfield 7, 3) := by decide +kernel
theorem dX8_removeState_19 : decode cX8_removeState 19 = .ok (.iconst 0, 1) := by decide +kernel
theorem dX8_removeState_20 : decode cX8_removeState 20 = .ok (.iaload, 1) := by decide +kernel
theorem dX8_removeState_21 : decode cX8_removeState 21 = .ok (.iconst 1, 1) := by decide +kernel
theorem dX8_removeState_22 : decode cX8_removeState 22 = .ok (.if_icmp .ne 6, 3) := by decide +kernel
theorem dX8_removeState_25 : decode cX8_removeState 25 = .ok (.bipush (-4), 2) := by decide +kernel
theorem dX8_removeState_27 : decode cX8_removeState 27 = .ok (.ireturn, 1) := by decide +kernel
theorem dX8_removeState_28 : decode cX8_removeState 28 = .ok (.aload_n 0, 1) := by decide +kernel
theorem dX8_removeState_29 : decode cX8_removeState 29 = .ok (.invokevirtual 105, 3) := by decide +kernel
theorem dX8_removeState_32 : decode cX8_removeState 32 = .ok (.aload_n 0, 1) := by decide +kernel
theorem dX8_removeState_33 : decode cX8_removeState 33 = .ok (.iload_n 1, 1) := by decide +kernel
theorem dX8_removeState_34 : decode cX8_removeState 34 = .ok (.invokevirtual 114, 3) := by decide +kernel
theorem dX8_removeState_37 : decode cX8_removeState 37 = .ok (.aload_n 0, 1) := by decide +kernel
theorem dX8_removeState_38 : decode cX8_removeState 38 = .ok (.getfield 7, 3) := by decide +kernel
theorem dX8_removeState_41 : decode cX8_removeState 41 = .ok (.iconst 0, 1) := by decide +kernel
theorem dX8_removeState_42 : decode cX8_removeState 42 = .ok (.iaload, 1) := by decide +kernel
theorem dX8_removeState_43 : decode cX8_removeState 43 = .ok (.ireturn, 1) := by decide +kernel
theorem dX8_setBound_0 : decode cX8_setBound 0 = .ok (.aload_n 0, 1) := by decide +kernel
theorem dX8_setBound_1 : decode cX8_setBound 1 = .ok (.iconst 0, 1) := by decide +kernel
theorem dX8_setBound_2 : decode cX8_setBound 2 = .ok (.putfield 50, 3) := by decide +kernel
theorem dX8_setBound_5 : decode cX8_setBound 5 = .ok (.iload_n 1, 1) := by decide +kernel
theorem dX8_setBound_6 : decode cX8_setBound 6 = .ok (.sipush 500, 3) := by decide +kernel
theorem dX8_setBound_9 : decode cX8_setBound 9 = .ok (.sipush 1000, 3) := by decide +kernel
theorem dX8_setBound_12 : decode cX8_setBound 12 = .ok (.invokestatic 58, 3) := by decide +kernel
theorem dX8_setBound_15 : decode cX8_setBound 15 = .ok (.ifCond .ne 6, 3) := by decide +kernel
theorem dX8_setBound_18 : decode cX8_setBound 18 = .ok (.bipush (-2), 2) := by decide +kernel
theorem dX8_setBound_20 : decode cX8_setBound 20 = .ok (.ireturn, 1) := by decide +kernel
theorem dX8_setBound_21 : decode cX8_setBound 21 = .ok (.aload_n 0, 1) := by decide +kernel
theorem dX8_setBound_22 : decode cX8_setBound 22 = .ok (.getfield 7, 3) := by decide +kernel
theorem dX8_setBound_25 : decode cX8_setBound 25 = .ok (.iconst 2, 1) := by decide +kernel
theorem dX8_setBound_26 : decode cX8_setBound 26 = .ok (.iaload, 1) := by decide +kernel
theorem dX8_setBound_27 : decode cX8_setBound 27 = .ok (.istore_n 2, 1) := by decide +kernel
theorem dX8_setBound_28 : decode cX8_setBound 28 = .ok (.iload_n 2, 1) := by decide +kernel
theorem dX8_setBound_29 : decode cX8_setBound 29 = .ok (.iload_n 1, 1) := by decide +kernel
theorem dX8_setBound_30 : decode cX8_setBound 30 = .ok (.if_icmp .ne 6, 3) := by decide +kernel
theorem dX8_setBound_33 : decode cX8_setBound 33 = .ok (.bipush (-5), 2) := by decide +kernel
theorem dX8_setBound_35 : decode cX8_setBound 35 = .ok (.ireturn, 1) := by decide +kernel
theorem dX8_setBound_36 : decode cX8_setBound 36 = .ok (.aload_n 0, 1) := by decide +kernel
theorem dX8_setBound_37 : decode cX8_setBound 37 = .ok (.invokevirtual 105, 3) := by decide +kernel
theorem dX8_setBound_40 : decode cX8_setBound 40 = .ok (.aload_n 0, 1) := by decide +kernel
theorem dX8_setBound_41 : decode cX8_setBound 41 = .ok (.getfield 7, 3) := by decide +kernel
theorem dX8_setBound_44 : decode cX8_setBound 44 = .ok (.iconst 2, 1) := by decide +kernel
theorem dX8_setBound_45 : decode cX8_setBound 45 = .ok (.iload_n 1, 1) := by decide +kernel
theorem dX8_setBound_46 : decode cX8_setBound 46 = .ok (.iastore, 1) := by decide +kernel
theorem dX8_setBound_47 : decode cX8_setBound 47 = .ok (.iload_n 2, 1) := by decide +kernel
theorem dX8_setBound_48 : decode cX8_setBound 48 = .ok (.ireturn, 1) := by decide +kernel
theorem dX8_letter_0 : decode cX8_letter 0 = .ok (.aload_n 0, 1) := by decide +kernel
theorem dX8_letter_1 : decode cX8_letter 1 = .ok (.getfield 117, 3) := by decide +kernel
theorem dX8_letter_4 : decode cX8_letter 4 = .ok (.aload_n 0, 1) := by decide +kernel
theorem dX8_letter_5 : decode cX8_letter 5 = .ok (.getfield 120, 3) := by decide +kernel
theorem dX8_letter_8 : decode cX8_letter 8 = .ok (.if_icmp .ge 15, 3) := by decide +kernel
theorem dX8_letter_11 : decode cX8_letter 11 = .ok (.aload_n 0, 1) := by decide +kernel
theorem dX8_letter_12 : decode cX8_letter 12 = .ok (.getfield 22, 3) := by decide +kernel
theorem dX8_letter_15 : decode cX8_letter 15 = .ok (.aload_n 0, 1) := by decide +kernel
theorem dX8_letter_16 : decode cX8_letter 16 = .ok (.getfield 117, 3) := by decide +kernel
theorem dX8_letter_19 : decode cX8_letter 19 = .ok (.iaload, 1) := by decide +kernel
theorem dX8_letter_20 : decode cX8_letter 20 = .ok (.goto 4, 3) := by decide +kernel
theorem dX8_letter_23 : decode cX8_letter 23 = .ok (.iconst 0, 1) := by decide +kernel
theorem dX8_letter_24 : decode cX8_letter 24 = .ok (.ireturn, 1) := by decide +kernel
theorem dX8_readsSample_0 : decode cX8_readsSample 0 = .ok (.iconst 0, 1) := by decide +kernel
theorem dX8_readsSample_1 : decode cX8_readsSample 1 = .ok (.istore_n 1, 1) := by decide +kernel
theorem dX8_readsSample_2 : decode cX8_readsSample 2 = .ok (.iload_n 1, 1) := by decide +kernel
theorem dX8_readsSample_3 : decode cX8_readsSample 3 = .ok (.bipush 7, 2) := by decide +kernel
theorem dX8_readsSample_5 : decode cX8_readsSample 5 = .ok (.if_icmp .ge 56, 3) := by decide +kernel
theorem dX8_readsSample_8 : decode cX8_readsSample 8 = .ok (.aload_n 0, 1) := by decide +kernel
theorem dX8_readsSample_9 : decode cX8_readsSample 9 = .ok (.invokevirtual 123, 3) := by decide +kernel
theorem dX8_readsSample_12 : decode cX8_readsSample 12 = .ok (.bipush 97, 2) := by decide +kernel
theorem dX8_readsSample_14 : decode cX8_readsSample 14 = .ok (.bipush 99, 2) := by decide +kernel
theorem dX8_readsSample_16 : decode cX8_readsSample 16 = .ok (.invokestatic 58, 3) := by decide +kernel
theorem dX8_readsSample_19 : decode cX8_readsSample 19 = .ok (.ifCond .eq 42, 3) := by decide +kernel
theorem dX8_readsSample_22 : decode cX8_readsSample 22 = .ok (.aload_n 0, 1) := by decide +kernel
theorem dX8_readsSample_23 : decode cX8_readsSample 23 = .ok (.getfield 47, 3) := by decide +kernel
theorem dX8_readsSample_26 : decode cX8_readsSample 26 = .ok (.bipush 8, 2) := by decide +kernel
theorem dX8_readsSample_28 : decode cX8_readsSample 28 = .ok (.aload_n 0, 1) := by decide +kernel
theorem dX8_readsSample_29 : decode cX8_readsSample 29 = .ok (.getfield 127, 3) := by decide +kernel
theorem dX8_readsSample_32 : decode cX8_readsSample 32 = .ok (.imul, 1) := by decide +kernel
theorem dX8_readsSample_33 : decode cX8_readsSample 33 = .ok (.iconst 1, 1) := by decide +kernel
theorem dX8_readsSample_34 : decode cX8_readsSample 34 = .ok (.iadd, 1) := by decide +kernel
theorem dX8_readsSample_35 : decode cX8_readsSample 35 = .ok (.iload_n 1, 1) := by decide +kernel
theorem dX8_readsSample_36 : decode cX8_readsSample 36 = .ok (.iadd, 1) := by decide +kernel
theorem dX8_readsSample_37 : decode cX8_readsSample 37 = .ok (.aload_n 0, 1) := by decide +kernel
theorem dX8_readsSample_38 : decode cX8_readsSample 38 = .ok (.invokevirtual 123, 3) := by decide +kernel
theorem dX8_readsSample_41 : decode cX8_readsSample 41 = .ok (.bipush 97, 2) := by decide +kernel
theorem dX8_readsSample_43 : decode cX8_readsSample 43 = .ok (.isub, 1) := by decide +kernel
theorem dX8_readsSample_44 : decode cX8_readsSample 44 = .ok (.iastore, 1) := by decide +kernel
theorem dX8_readsSample_45 : decode cX8_readsSample 45 = .ok (.iinc 1 1, 3) := by decide +kernel
theorem dX8_readsSample_48 : decode cX8_readsSample 48 = .ok (.aload_n 0, 1) := by decide +kernel
theorem dX8_readsSample_49 : decode cX8_readsSample 49 = .ok (.dup, 1) := by decide +kernel
theorem dX8_readsSample_50 : decode cX8_readsSample 50 = .ok (.getfield 117, 3) := by decide +kernel
theorem dX8_readsSample_53 : decode cX8_readsSample 53 = .ok (.iconst 1, 1) := by decide +kernel
theorem dX8_readsSample_54 : decode cX8_readsSample 54 = .ok (.iadd, 1) := by decide +kernel
theorem dX8_readsSample_55 : decode cX8_readsSample 55 = .ok (.putfield 117, 3) := by decide +kernel
theorem dX8_readsSample_58 : decode cX8_readsSample 58 = .ok (.goto (-56), 3) := by decide +kernel
theorem dX8_readsSample_61 : decode cX8_readsSample 61 = .ok (.aload_n 0, 1) := by decide +kernel
theorem dX8_readsSample_62 : decode cX8_readsSample 62 = .ok (.getfield 47, 3) := by decide +kernel
theorem dX8_readsSample_65 : decode cX8_readsSample 65 = .ok (.bipush 8, 2) := by decide +kernel
theorem dX8_readsSample_67 : decode cX8_readsSample 67 = .ok (.aload_n 0, 1) := by decide +kernel
theorem dX8_readsSample_68 : decode cX8_readsSample 68 = .ok (.getfield 127, 3) := by decide +kernel
theorem dX8_readsSample_71 : decode cX8_readsSample 71 = .ok (.imul, 1) := by decide +kernel
theorem dX8_readsSample_72 : decode cX8_readsSample 72 = .ok (.iload_n 1, 1) := by decide +kernel
theorem dX8_readsSample_73 : decode cX8_readsSample 73 = .ok (.iastore, 1) := by decide +kernel
theorem dX8_readsSample_74 : decode cX8_readsSample 74 = .ok (.aload_n 0, 1) := by decide +kernel
theorem dX8_readsSample_75 : decode cX8_readsSample 75 = .ok (.iload_n 1, 1) := by decide +kernel
theorem dX8_readsSample_76 : decode cX8_readsSample 76 = .ok (.ifCond .le 7, 3) := by decide +kernel
theorem dX8_readsSample_79 : decode cX8_readsSample 79 = .ok (.iconst 1, 1) := by decide +kernel
theorem dX8_readsSample_80 : decode cX8_readsSample 80 = .ok (.goto 4, 3) := by decide +kernel
theorem dX8_readsSample_83 : decode cX8_readsSample 83 = .ok (.iconst 0, 1) := by decide +kernel
theorem dX8_readsSample_84 : decode cX8_readsSample 84 = .ok (.putfield 130, 3) := by decide +kernel
theorem dX8_readsSample_87 : decode cX8_readsSample 87 = .ok (.aload_n 0, 1) := by decide +kernel
theorem dX8_readsSample_88 : decode cX8_readsSample 88 = .ok (.dup, 1) := by decide +kernel
theorem dX8_readsSample_89 : decode cX8_readsSample 89 = .ok (.getfield 127, 3) := by decide +kernel
theorem dX8_readsSample_92 : decode cX8_readsSample 92 = .ok (.iconst 1, 1) := by decide +kernel
theorem dX8_readsSample_93 : decode cX8_readsSample 93 = .ok (.iadd, 1) := by decide +kernel
theorem dX8_readsSample_94 : decode cX8_readsSample 94 = .ok (.putfield 127, 3) := by decide +kernel
theorem dX8_readsSample_97 : decode cX8_readsSample 97 = .ok (.return_, 1) := by decide +kernel
theorem dX8_reads_0 : decode cX8_reads 0 = .ok (.aload_n 0, 1) := by decide +kernel
theorem dX8_reads_1 : decode cX8_reads 1 = .ok (.iconst 0, 1) := by decide +kernel
theorem dX8_reads_2 : decode cX8_reads 2 = .ok (.putfield 117, 3) := by decide +kernel
theorem dX8_reads_5 : decode cX8_reads 5 = .ok (.aload_n 0, 1) := by decide +kernel
theorem dX8_reads_6 : decode cX8_reads 6 = .ok (.iconst 1, 1) := by decide +kernel
theorem dX8_reads_7 : decode cX8_reads 7 = .ok (.putfield 130, 3) := by decide +kernel
theorem dX8_reads_10 : decode cX8_reads 10 = .ok (.aload_n 0, 1) := by decide +kernel
theorem dX8_reads_11 : decode cX8_reads 11 = .ok (.iconst 0, 1) := by decide +kernel
theorem dX8_reads_12 : decode cX8_reads 12 = .ok (.putfield 127, 3) := by decide +kernel
theorem dX8_reads_15 : decode cX8_reads 15 = .ok (.aload_n 0, 1) := by decide +kernel
theorem dX8_reads_16 : decode cX8_reads 16 = .ok (.invokevirtual 134, 3) := by decide +kernel
theorem dX8_reads_19 : decode cX8_reads 19 = .ok (.aload_n 0, 1) := by decide +kernel
theorem dX8_reads_20 : decode cX8_reads 20 = .ok (.getfield 130, 3) := by decide +kernel
theorem dX8_reads_23 : decode cX8_reads 23 = .ok (.ifCond .eq 67, 3) := by decide +kernel
theorem dX8_reads_26 : decode cX8_reads 26 = .ok (.aload_n 0, 1) := by decide +kernel
theorem dX8_reads_27 : decode cX8_reads 27 = .ok (.getfield 117, 3) := by decide +kernel
theorem dX8_reads_30 : decode cX8_reads 30 = .ok (.aload_n 0, 1) := by decide +kernel
theorem dX8_reads_31 : decode cX8_reads 31 = .ok (.getfield 120, 3) := by decide +kernel
theorem dX8_reads_34 : decode cX8_reads 34 = .ok (.if_icmp .ge 56, 3) := by decide +kernel
theorem dX8_reads_37 : decode cX8_reads 37 = .ok (.aload_n 0, 1) := by decide +kernel
theorem dX8_reads_38 : decode cX8_reads 38 = .ok (.aload_n 0, 1) := by decide +kernel
theorem dX8_reads_39 : decode cX8_reads 39 = .ok (.invokevirtual 123, 3) := by decide +kernel
theorem dX8_reads_42 : decode cX8_reads 42 = .ok (.bipush 59, 2) := by decide +kernel
theorem dX8_reads_44 : decode cX8_reads 44 = .ok (.if_icmp .ne 7, 3) := by decide +kernel
theorem dX8_reads_47 : decode cX8_reads 47 = .ok (.iconst 1, 1) := by decide +kernel
theorem dX8_reads_48 : decode cX8_reads 48 = .ok (.goto 4, 3) := by decide +kernel
theorem dX8_reads_51 : decode cX8_reads 51 = .ok (.iconst 0, 1) := by decide +kernel
theorem dX8_reads_52 : decode cX8_reads 52 = .ok (.putfield 130, 3) := by decide +kernel
theorem dX8_reads_55 : decode cX8_reads 55 = .ok (.aload_n 0, 1) := by decide +kernel
theorem dX8_reads_56 : decode cX8_reads 56 = .ok (.dup, 1) := by decide +kernel
theorem dX8_reads_57 : decode cX8_reads 57 = .ok (.getfield 117, 3) := by decide +kernel
theorem dX8_reads_60 : decode cX8_reads 60 = .ok (.aload_n 0, 1) := by decide +kernel
theorem dX8_reads_61 : decode cX8_reads 61 = .ok (.getfield 130, 3) := by decide +kernel
theorem dX8_reads_64 : decode cX8_reads 64 = .ok (.ifCond .eq 7, 3) := by decide +kernel
theorem dX8_reads_67 : decode cX8_reads 67 = .ok (.iconst 1, 1) := by decide +kernel
theorem dX8_reads_68 : decode cX8_reads 68 = .ok (.goto 4, 3) := by decide +kernel
theorem dX8_reads_71 : decode cX8_reads 71 = .ok (.iconst 0, 1) := by decide +kernel
theorem dX8_reads_72 : decode cX8_reads 72 = .ok (.iadd, 1) := by decide +kernel
theorem dX8_reads_73 : decode cX8_reads 73 = .ok (.putfield 117, 3) := by decide +kernel
theorem dX8_reads_76 : decode cX8_reads 76 = .ok (.aload_n 0, 1) := by decide +kernel
theorem dX8_reads_77 : decode cX8_reads 77 = .ok (.getfield 130, 3) := by decide +kernel
theorem dX8_reads_80 : decode cX8_reads 80 = .ok (.ifCond .eq (-61), 3) := by decide +kernel
theorem dX8_reads_83 : decode cX8_reads 83 = .ok (.aload_n 0, 1) := by decide +kernel
theorem dX8_reads_84 : decode cX8_reads 84 = .ok (.invokevirtual 134, 3) := by decide +kernel
theorem dX8_reads_87 : decode cX8_reads 87 = .ok (.goto (-68), 3) := by decide +kernel
theorem dX8_reads_90 : decode cX8_reads 90 = .ok (.aload_n 0, 1) := by decide +kernel
theorem dX8_reads_91 : decode cX8_reads 91 = .ok (.getfield 130, 3) := by decide +kernel
theorem dX8_reads_94 : decode cX8_reads 94 = .ok (.ifCond .eq 8, 3) := by decide +kernel
theorem dX8_reads_97 : decode cX8_reads 97 = .ok (.bipush (-5), 2) := by decide +kernel
theorem dX8_reads_99 : decode cX8_reads 99 = .ok (.goto 7, 3) := by decide +kernel
theorem dX8_reads_102 : decode cX8_reads 102 = .ok (.aload_n 0, 1) := by decide +kernel
theorem dX8_reads_103 : decode cX8_reads 103 = .ok (.getfield 117, 3) := by decide +kernel
theorem dX8_reads_106 : decode cX8_reads 106 = .ok (.ireturn, 1) := by decide +kernel
theorem dX8_addSamples_0 : decode cX8_addSamples 0 = .ok (.aload_n 0, 1) := by decide +kernel
theorem dX8_addSamples_1 : decode cX8_addSamples 1 = .ok (.iconst 0, 1) := by decide +kernel
theorem dX8_addSamples_2 : decode cX8_addSamples 2 = .ok (.putfield 50, 3) := by decide +kernel
theorem dX8_addSamples_5 : decode cX8_addSamples 5 = .ok (.aload_n 0, 1) := by decide +kernel
theorem dX8_addSamples_6 : decode cX8_addSamples 6 = .ok (.invokevirtual 137, 3) := by decide +kernel
theorem dX8_addSamples_9 : decode cX8_addSamples 9 = .ok (.istore_n 1, 1) := by decide +kernel
theorem dX8_addSamples_10 : decode cX8_addSamples 10 = .ok (.iload_n 1, 1) := by decide +kernel
theorem dX8_addSamples_11 : decode cX8_addSamples 11 = .ok (.bipush (-5), 2) := by decide +kernel
theorem dX8_addSamples_13 : decode cX8_addSamples 13 = .ok (.if_icmp .eq 8, 3) := by decide +kernel
theorem dX8_addSamples_16 : decode cX8_addSamples 16 = .ok (.bipush (-100), 2) := by decide +kernel
theorem dX8_addSamples_18 : decode cX8_addSamples 18 = .ok (.iload_n 1, 1) := by decide +kernel
theorem dX8_addSamples_19 : decode cX8_addSamples 19 = .ok (.isub, 1) := by decide +kernel
theorem dX8_addSamples_20 : decode cX8_addSamples 20 = .ok (.ireturn, 1) := by decide +kernel
theorem dX8_addSamples_21 : decode cX8_addSamples 21 = .ok (.aload_n 0, 1) := by decide +kernel
theorem dX8_addSamples_22 : decode cX8_addSamples 22 = .ok (.getfield 7, 3) := by decide +kernel
theorem dX8_addSamples_25 : decode cX8_addSamples 25 = .ok (.iconst 1, 1) := by decide +kernel
theorem dX8_addSamples_26 : decode cX8_addSamples 26 = .ok (.iaload, 1) := by decide +kernel
theorem dX8_addSamples_27 : decode cX8_addSamples 27 = .ok (.aload_n 0, 1) := by decide +kernel
theorem dX8_addSamples_28 : decode cX8_addSamples 28 = .ok (.getfield 127, 3) := by decide +kernel
theorem dX8_addSamples_31 : decode cX8_addSamples 31 = .ok (.iadd, 1) := by decide +kernel
theorem dX8_addSamples_32 : decode cX8_addSamples 32 = .ok (.bipush 6, 2) := by decide +kernel
theorem dX8_addSamples_34 : decode cX8_addSamples 34 = .ok (.if_icmp .le 6, 3) := by decide +kernel
theorem dX8_addSamples_37 : decode cX8_addSamples 37 = .ok (.bipush (-3), 2) := by decide +kernel
theorem dX8_addSamples_39 : decode cX8_addSamples 39 = .ok (.ireturn, 1) := by decide +kernel
theorem dX8_addSamples_40 : decode cX8_addSamples 40 = .ok (.aload_n 0, 1) := by decide +kernel
theorem dX8_addSamples_41 : decode cX8_addSamples 41 = .ok (.invokevirtual 105, 3) := by decide +kernel
theorem dX8_addSamples_44 : decode cX8_addSamples 44 = .ok (.iconst 0, 1) := by decide +kernel
theorem dX8_addSamples_45 : decode cX8_addSamples 45 = .ok (.istore_n 2, 1) := by decide +kernel
theorem dX8_addSamples_46 : decode cX8_addSamples 46 = .ok (.iload_n 2, 1) := by decide +kernel
theorem dX8_addSamples_47 : decode cX8_addSamples 47 = .ok (.aload_n 0, 1) := by decide +kernel
theorem dX8_addSamples_48 : decode cX8_addSamples 48 = .ok (.getfield 127, 3) := by decide +kernel
theorem dX8_addSamples_51 : decode cX8_addSamples 51 = .ok (.if_icmp .ge 80, 3) := by decide +kernel
theorem dX8_addSamples_54 : decode cX8_addSamples 54 = .ok (.iconst 0, 1) := by decide +kernel
theorem dX8_addSamples_55 : decode cX8_addSamples 55 = .ok (.istore_n 3, 1) := by decide +kernel
theorem dX8_addSamples_56 : decode cX8_addSamples 56 = .ok (.iload_n 3, 1) := by decide +kernel
theorem dX8_addSamples_57 : decode cX8_addSamples 57 = .ok (.bipush 8, 2) := by decide +kernel
theorem dX8_addSamples_59 : decode cX8_addSamples 59 = .ok (.if_icmp .ge 56, 3) := by decide +kernel
theorem dX8_addSamples_62 : decode cX8_addSamples 62 = .ok (.aload_n 0, 1) := by decide +kernel
theorem dX8_addSamples_63 : decode cX8_addSamples 63 = .ok (.getfield 7, 3) := by decide +kernel
theorem dX8_addSamples_66 : decode cX8_addSamples 66 = .ok (.bipush 35, 2) := by decide +kernel
theorem dX8_addSamples_68 : decode cX8_addSamples 68 = .ok (.bipush 8, 2) := by decide +kernel
theorem dX8_addSamples_70 : decode cX8_addSamples 70 = .ok (.aload_n 0, 1) := by decide +kernel
theorem dX8_addSamples_71 : decode cX8_addSamples 71 = .ok (.getfield 7, 3) := by decide +kernel
theorem dX8_addSamples_74 : decode cX8_addSamples 74 = .ok (.iconst 1, 1) := by decide +kernel
theorem dX8_addSamples_75 : decode cX8_addSamples 75 = .ok (.iaload, 1) := by decide +kernel
theorem dX8_addSamples_76 : decode cX8_addSamples 76 = .ok (.imul, 1) := by decide +kernel
theorem dX8_addSamples_77 : decode cX8_addSamples 77 = .ok (.iadd, 1) := by decide +kernel
theorem dX8_addSamples_78 : decode cX8_addSamples 78 = .ok (.iload_n 3, 1) := by decide +kernel
theorem dX8_addSamples_79 : decode cX8_addSamples 79 = .ok (.iadd, 1) := by decide +kernel
theorem dX8_addSamples_80 : decode cX8_addSamples 80 = .ok (.iload_n 3, 1) := by decide +kernel
theorem dX8_addSamples_81 : decode cX8_addSamples 81 = .ok (.aload_n 0, 1) := by decide +kernel
theorem dX8_addSamples_82 : decode cX8_addSamples 82 = .ok (.getfield 47, 3) := by decide +kernel
theorem dX8_addSamples_85 : decode cX8_addSamples 85 = .ok (.bipush 8, 2) := by decide +kernel
theorem dX8_addSamples_87 : decode cX8_addSamples 87 = .ok (.iload_n 2, 1) := by decide +kernel
theorem dX8_addSamples_88 : decode cX8_addSamples 88 = .ok (.imul, 1) := by decide +kernel
theorem dX8_addSamples_89 : decode cX8_addSamples 89 = .ok (.iaload, 1) := by decide +kernel
theorem dX8_addSamples_90 : decode cX8_addSamples 90 = .ok (.if_icmp .gt 17, 3) := by decide +kernel
theorem dX8_addSamples_93 : decode cX8_addSamples 93 = .ok (.aload_n 0, 1) := by decide +kernel
theorem dX8_addSamples_94 : decode cX8_addSamples 94 = .ok (.getfield 47, 3) := by decide +kernel
theorem dX8_addSamples_97 : decode cX8_addSamples 97 = .ok (.bipush 8, 2) := by decide +kernel
theorem dX8_addSamples_99 : decode cX8_addSamples 99 = .ok (.iload_n 2, 1) := by decide +kernel
theorem dX8_addSamples_100 : decode cX8_addSamples 100 = .ok (.imul, 1) := by decide +kernel
theorem dX8_addSamples_101 : decode cX8_addSamples 101 = .ok (.iload_n 3, 1) := by decide +kernel
theorem dX8_addSamples_102 : decode cX8_addSamples 102 = .ok (.iadd, 1) := by decide +kernel
theorem dX8_addSamples_103 : decode cX8_addSamples 103 = .ok (.iaload, 1) := by decide +kernel
theorem dX8_addSamples_104 : decode cX8_addSamples 104 = .ok (.goto 4, 3) := by decide +kernel
theorem dX8_addSamples_107 : decode cX8_addSamples 107 = .ok (.iconst 0, 1) := by decide +kernel
theorem dX8_addSamples_108 : decode cX8_addSamples 108 = .ok (.iastore, 1) := by decide +kernel
theorem dX8_addSamples_109 : decode cX8_addSamples 109 = .ok (.iinc 3 1, 3) := by decide +kernel
theorem dX8_addSamples_112 : decode cX8_addSamples 112 = .ok (.goto (-56), 3) := by decide +kernel
theorem dX8_addSamples_115 : decode cX8_addSamples 115 = .ok (.aload_n 0, 1) := by decide +kernel
theorem dX8_addSamples_116 : decode cX8_addSamples 116 = .ok (.getfield 7, 3) := by decide +kernel
theorem dX8_addSamples_119 : decode cX8_addSamples 119 = .ok (.iconst 1, 1) := by decide +kernel
theorem dX8_addSamples_120 : decode cX8_addSamples 120 = .ok (.dup2, 1) := by decide +kernel
theorem dX8_addSamples_121 : decode cX8_addSamples 121 = .ok (.iaload, 1) := by decide +kernel
theorem dX8_addSamples_122 : decode cX8_addSamples 122 = .ok (.iconst 1, 1) := by decide +kernel
theorem dX8_addSamples_123 : decode cX8_addSamples 123 = .ok (.iadd, 1) := by decide +kernel
theorem dX8_addSamples_124 : decode cX8_addSamples 124 = .ok (.iastore, 1) := by decide +kernel
theorem dX8_addSamples_125 : decode cX8_addSamples 125 = .ok (.iinc 2 1, 3) := by decide +kernel
theorem dX8_addSamples_128 : decode cX8_addSamples 128 = .ok (.goto (-82), 3) := by decide +kernel
theorem dX8_addSamples_131 : decode cX8_addSamples 131 = .ok (.aload_n 0, 1) := by decide +kernel
theorem dX8_addSamples_132 : decode cX8_addSamples 132 = .ok (.getfield 127, 3) := by decide +kernel
theorem dX8_addSamples_135 : decode cX8_addSamples 135 = .ok (.ireturn, 1) := by decide +kernel
theorem dX8_removeSample_0 : decode cX8_removeSample 0 = .ok (.aload_n 0, 1) := by decide +kernel
theorem dX8_removeSample_1 : decode cX8_removeSample 1 = .ok (.iconst 0, 1) := by decide +kernel
theorem dX8_removeSample_2 : decode cX8_removeSample 2 = .ok (.putfield 50, 3) := by decide +kernel
theorem dX8_removeSample_5 : decode cX8_removeSample 5 = .ok (.aload_n 0, 1) := by decide +kernel
theorem dX8_removeSample_6 : decode cX8_removeSample 6 = .ok (.iload_n 1, 1) := by decide +kernel
theorem dX8_removeSample_7 : decode cX8_removeSample 7 = .ok (.invokevirtual 140, 3) := by decide +kernel
theorem dX8_removeSample_10 : decode cX8_removeSample 10 = .ok (.ifCond .ne 5, 3) := by decide +kernel
theorem dX8_removeSample_13 : decode cX8_removeSample 13 = .ok (.iconst (-1), 1) := by decide +kernel
theorem dX8_removeSample_14 : decode cX8_removeSample 14 = .ok (.ireturn, 1) := by decide +kernel
theorem dX8_removeSample_15 : decode cX8_removeSample 15 = .ok (.aload_n 0, 1) := by decide +kernel
theorem dX8_removeSample_16 : decode cX8_removeSample 16 = .ok (.invokevirtual 105, 3) := by decide +kernel
theorem dX8_removeSample_19 : decode cX8_removeSample 19 = .ok (.aload_n 0, 1) := by decide +kernel
theorem dX8_removeSample_20 : decode cX8_removeSample 20 = .ok (.getfield 7, 3) := by decide +kernel
theorem dX8_removeSample_23 : decode cX8_removeSample 23 = .ok (.iconst 1, 1) := by decide +kernel
theorem dX8_removeSample_24 : decode cX8_removeSample 24 = .ok (.dup2, 1) := by decide +kernel
theorem dX8_removeSample_25 : decode cX8_removeSample 25 = .ok (.iaload, 1) := by decide +kernel
theorem dX8_removeSample_26 : decode cX8_removeSample 26 = .ok (.iconst 1, 1) := by decide +kernel
theorem dX8_removeSample_27 : decode cX8_removeSample 27 = .ok (.isub, 1) := by decide +kernel
theorem dX8_removeSample_28 : decode cX8_removeSample 28 = .ok (.iastore, 1) := by decide +kernel
theorem dX8_removeSample_29 : decode cX8_removeSample 29 = .ok (.bipush 8, 2) := by decide +kernel
theorem dX8_removeSample_31 : decode cX8_removeSample 31 = .ok (.iload_n 1, 1) := by decide +kernel
theorem dX8_removeSample_32 : decode cX8_removeSample 32 = .ok (.imul, 1) := by decide +kernel
theorem dX8_removeSample_33 : decode cX8_removeSample 33 = .ok (.istore_n 2, 1) := by decide +kernel
theorem dX8_removeSample_34 : decode cX8_removeSample 34 = .ok (.iload_n 2, 1) := by decide +kernel
theorem dX8_removeSample_35 : decode cX8_removeSample 35 = .ok (.bipush 8, 2) := by decide +kernel
theorem dX8_removeSample_37 : decode cX8_removeSample 37 = .ok (.aload_n 0, 1) := by decide +kernel
theorem dX8_removeSample_38 : decode cX8_removeSample 38 = .ok (.getfield 7, 3) := by decide +kernel
theorem dX8_removeSample_41 : decode cX8_removeSample 41 = .ok (.iconst 1, 1) := by decide +kernel
theorem dX8_removeSample_42 : decode cX8_removeSample 42 = .ok (.iaload, 1) := by decide +kernel
theorem dX8_removeSample_43 : decode cX8_removeSample 43 = .ok (.imul, 1) := by decide +kernel
theorem dX8_removeSample_44 : decode cX8_removeSample 44 = .ok (.if_icmp .ge 30, 3) := by decide +kernel
theorem dX8_removeSample_47 : decode cX8_removeSample 47 = .ok (.aload_n 0, 1) := by decide +kernel
theorem dX8_removeSample_48 : decode cX8_removeSample 48 = .ok (.getfield 7, 3) := by decide +kernel
theorem dX8_removeSample_51 : decode cX8_removeSample 51 = .ok (.bipush 35, 2) := by decide +kernel
theorem dX8_removeSample_53 : decode cX8_removeSample 53 = .ok (.iload_n 2, 1) := by decide +kernel
theorem dX8_removeSample_54 : decode cX8_removeSample 54 = .ok (.iadd, 1) := by decide +kernel
theorem dX8_removeSample_55 : decode cX8_removeSample 55 = .ok (.aload_n 0, 1) := by decide +kernel
theorem dX8_removeSample_56 : decode cX8_removeSample 56 = .ok (.getfield 7, 3) := by decide +kernel
theorem dX8_removeSample_59 : decode cX8_removeSample 59 = .ok (.bipush 35, 2) := by decide +kernel
theorem dX8_removeSample_61 : decode cX8_removeSample 61 = .ok (.iload_n 2, 1) := by decide +kernel
theorem dX8_removeSample_62 : decode cX8_removeSample 62 = .ok (.iadd, 1) := by decide +kernel
theorem dX8_removeSample_63 : decode cX8_removeSample 63 = .ok (.bipush 8, 2) := by decide +kernel
theorem dX8_removeSample_65 : decode cX8_removeSample 65 = .ok (.iadd, 1) := by decide +kernel
theorem dX8_removeSample_66 : decode cX8_removeSample 66 = .ok (.iaload, 1) := by decide +kernel
theorem dX8_removeSample_67 : decode cX8_removeSample 67 = .ok (.iastore, 1) := by decide +kernel
theorem dX8_removeSample_68 : decode cX8_removeSample 68 = .ok (.iinc 2 1, 3) := by decide +kernel
theorem dX8_removeSample_71 : decode cX8_removeSample 71 = .ok (.goto (-37), 3) := by decide +kernel
theorem dX8_removeSample_74 : decode cX8_removeSample 74 = .ok (.iconst 0, 1) := by decide +kernel
theorem dX8_removeSample_75 : decode cX8_removeSample 75 = .ok (.istore_n 2, 1) := by decide +kernel
theorem dX8_removeSample_76 : decode cX8_removeSample 76 = .ok (.iload_n 2, 1) := by decide +kernel
theorem dX8_removeSample_77 : decode cX8_removeSample 77 = .ok (.bipush 8, 2) := by decide +kernel
theorem dX8_removeSample_79 : decode cX8_removeSample 79 = .ok (.if_icmp .ge 29, 3) := by decide +kernel
theorem dX8_removeSample_82 : decode cX8_removeSample 82 = .ok (.aload_n 0, 1) := by decide +kernel
theorem dX8_removeSample_83 : decode cX8_removeSample 83 = .ok (.getfield 7, 3) := by decide +kernel
theorem dX8_removeSample_86 : decode cX8_removeSample 86 = .ok (.bipush 35, 2) := by decide +kernel
theorem dX8_removeSample_88 : decode cX8_removeSample 88 = .ok (.bipush 8, 2) := by decide +kernel
theorem dX8_removeSample_90 : decode cX8_removeSample 90 = .ok (.aload_n 0, 1) := by decide +kernel
theorem dX8_removeSample_91 : decode cX8_removeSample 91 = .ok (.getfield 7, 3) := by decide +kernel
theorem dX8_removeSample_94 : decode cX8_removeSample 94 = .ok (.iconst 1, 1) := by decide +kernel
theorem dX8_removeSample_95 : decode cX8_removeSample 95 = .ok (.iaload, 1) := by decide +kernel
theorem dX8_removeSample_96 : decode cX8_removeSample 96 = .ok (.imul, 1) := by decide +kernel
theorem dX8_removeSample_97 : decode cX8_removeSample 97 = .ok (.iadd, 1) := by decide +kernel
theorem dX8_removeSample_98 : decode cX8_removeSample 98 = .ok (.iload_n 2, 1) := by decide +kernel
theorem dX8_removeSample_99 : decode cX8_removeSample 99 = .ok (.iadd, 1) := by decide +kernel
theorem dX8_removeSample_100 : decode cX8_removeSample 100 = .ok (.iconst 0, 1) := by decide +kernel
theorem dX8_removeSample_101 : decode cX8_removeSample 101 = .ok (.iastore, 1) := by decide +kernel
theorem dX8_removeSample_102 : decode cX8_removeSample 102 = .ok (.iinc 2 1, 3) := by decide +kernel
theorem dX8_removeSample_105 : decode cX8_removeSample 105 = .ok (.goto (-29), 3) := by decide +kernel
theorem dX8_removeSample_108 : decode cX8_removeSample 108 = .ok (.aload_n 0, 1) := by decide +kernel
theorem dX8_removeSample_109 : decode cX8_removeSample 109 = .ok (.getfield 7, 3) := by decide +kernel
theorem dX8_removeSample_112 : decode cX8_removeSample 112 = .ok (.iconst 1, 1) := by decide +kernel
theorem dX8_removeSample_113 : decode cX8_removeSample 113 = .ok (.iaload, 1) := by decide +kernel
theorem dX8_removeSample_114 : decode cX8_removeSample 114 = .ok (.ireturn, 1) := by decide +kernel
theorem dX8_counts_0 : decode cX8_counts 0 = .ok (.iconst 0, 1) := by decide +kernel
theorem dX8_counts_1 : decode cX8_counts 1 = .ok (.istore 4, 2) := by decide +kernel
theorem dX8_counts_3 : decode cX8_counts 3 = .ok (.iload 4, 2) := by decide +kernel
theorem dX8_counts_5 : decode cX8_counts 5 = .ok (.aload_n 0, 1) := by decide +kernel
theorem dX8_counts_6 : decode cX8_counts 6 = .ok (.getfield 7, 3) := by decide +kernel
theorem dX8_counts_9 : decode cX8_counts 9 = .ok (.iconst 0, 1) := by decide +kernel
theorem dX8_counts_10 : decode cX8_counts 10 = .ok (.iaload, 1) := by decide +kernel
theorem dX8_counts_11 : decode cX8_counts 11 = .ok (.if_icmp .ge 234, 3) := by decide +kernel
theorem dX8_counts_14 : decode cX8_counts 14 = .ok (.aload_n 0, 1) := by decide +kernel
theorem dX8_counts_15 : decode cX8_counts 15 = .ok (.getfield 38, 3) := by decide +kernel
theorem dX8_counts_18 : decode cX8_counts 18 = .ok (.iload 4, 2) := by decide +kernel
theorem dX8_counts_20 : decode cX8_counts 20 = .ok (.dup2, 1) := by decide +kernel
theorem dX8_counts_21 : decode cX8_counts 21 = .ok (.laload, 1) := by decide +kernel
theorem dX8_counts_22 : decode cX8_counts 22 = .ok (.aload_n 0, 1) := by decide +kernel
theorem dX8_counts_23 : decode cX8_counts 23 = .ok (.iconst 0, 1) := by decide +kernel
theorem dX8_counts_24 : decode cX8_counts 24 = .ok (.iload 4, 2) := by decide +kernel
theorem dX8_counts_26 : decode cX8_counts 26 = .ok (.invokevirtual 87, 3) := by decide +kernel
theorem dX8_counts_29 : decode cX8_counts 29 = .ok (.lload_n 2, 1) := by decide +kernel
theorem dX8_counts_30 : decode cX8_counts 30 = .ok (.invokestatic 143, 3) := by decide +kernel
theorem dX8_counts_33 : decode cX8_counts 33 = .ok (.i2l, 1) := by decide +kernel
theorem dX8_counts_34 : decode cX8_counts 34 = .ok (.ladd, 1) := by decide +kernel
theorem dX8_counts_35 : decode cX8_counts 35 = .ok (.lastore, 1) := by decide +kernel
theorem dX8_counts_36 : decode cX8_counts 36 = .ok (.iconst 0, 1) := by decide +kernel
theorem dX8_counts_37 : decode cX8_counts 37 = .ok (.istore 5, 2) := by decide +kernel
theorem dX8_counts_39 : decode cX8_counts 39 = .ok (.iload 5, 2) := by decide +kernel
theorem dX8_counts_41 : decode cX8_counts 41 = .ok (.aload_n 0, 1) := by decide +kernel
theorem dX8_counts_42 : decode cX8_counts 42 = .ok (.getfield 7, 3) := by decide +kernel
theorem dX8_counts_45 : decode cX8_counts 45 = .ok (.iconst 0, 1) := by decide +kernel
theorem dX8_counts_46 : decode cX8_counts 46 = .ok (.iaload, 1) := by decide +kernel
theorem dX8_counts_47 : decode cX8_counts 47 = .ok (.if_icmp .ge 101, 3) := by decide +kernel
theorem dX8_counts_50 : decode cX8_counts 50 = .ok (.lconst 0, 1) := by decide +kernel
theorem dX8_counts_51 : decode cX8_counts 51 = .ok (.lstore 6, 2) := by decide +kernel
theorem dX8_counts_53 : decode cX8_counts 53 = .ok (.iconst 0, 1) := by decide +kernel
theorem dX8_counts_54 : decode cX8_counts 54 = .ok (.istore 8, 2) := by decide +kernel
theorem dX8_counts_56 : decode cX8_counts 56 = .ok (.iload 8, 2) := by decide +kernel
theorem dX8_counts_58 : decode cX8_counts 58 = .ok (.aload_n 0, 1) := by decide +kernel
theorem dX8_counts_59 : decode cX8_counts 59 = .ok (.iload_n 1, 1) := by decide +kernel
theorem dX8_counts_60 : decode cX8_counts 60 = .ok (.invokevirtual 65, 3) := by decide +kernel
theorem dX8_counts_63 : decode cX8_counts 63 = .ok (.iconst 1, 1) := by decide +kernel
theorem dX8_counts_64 : decode cX8_counts 64 = .ok (.isub, 1) := by decide +kernel
theorem dX8_counts_65 : decode cX8_counts 65 = .ok (.if_icmp .ge 53, 3) := by decide +kernel
theorem dX8_counts_68 : decode cX8_counts 68 = .ok (.lload 6, 2) := by decide +kernel
theorem dX8_counts_70 : decode cX8_counts 70 = .ok (.aload_n 0, 1) := by decide +kernel
theorem dX8_counts_71 : decode cX8_counts 71 = .ok (.getfield 25, 3) := by decide +kernel
theorem dX8_counts_74 : decode cX8_counts 74 = .ok (.iconst 4, 1) := by decide +kernel
theorem dX8_counts_75 : decode cX8_counts 75 = .ok (.iload 8, 2) := by decide +kernel
theorem dX8_counts_77 : decode cX8_counts 77 = .ok (.imul, 1) := by decide +kernel
theorem dX8_counts_78 : decode cX8_counts 78 = .ok (.iload 4, 2) := by decide +kernel
theorem dX8_counts_80 : decode cX8_counts 80 = .ok (.iadd, 1) := by decide +kernel
theorem dX8_counts_81 : decode cX8_counts 81 = .ok (.laload, 1) := by decide +kernel
theorem dX8_counts_82 : decode cX8_counts 82 = .ok (.aload_n 0, 1) := by decide +kernel
theorem dX8_counts_83 : decode cX8_counts 83 = .ok (.iload_n 1, 1) := by decide +kernel
theorem dX8_counts_84 : decode cX8_counts 84 = .ok (.iload 8, 2) := by decide +kernel
theorem dX8_counts_86 : decode cX8_counts 86 = .ok (.iload 4, 2) := by decide +kernel
theorem dX8_counts_88 : decode cX8_counts 88 = .ok (.iload 5, 2) := by decide +kernel
theorem dX8_counts_90 : decode cX8_counts 90 = .ok (.invokevirtual 83, 3) := by decide +kernel
theorem dX8_counts_93 : decode cX8_counts 93 = .ok (.lmul, 1) := by decide +kernel
theorem dX8_counts_94 : decode cX8_counts 94 = .ok (.aload_n 0, 1) := by decide +kernel
theorem dX8_counts_95 : decode cX8_counts 95 = .ok (.getfield 29, 3) := by decide +kernel
theorem dX8_counts_98 : decode cX8_counts 98 = .ok (.iconst 4, 1) := by decide +kernel
theorem dX8_counts_99 : decode cX8_counts 99 = .ok (.iload 8, 2) := by decide +kernel
theorem dX8_counts_101 : decode cX8_counts 101 = .ok (.imul, 1) := by decide +kernel
theorem dX8_counts_102 : decode cX8_counts 102 = .ok (.iconst 4, 1) := by decide +kernel
theorem dX8_counts_103 : decode cX8_counts 103 = .ok (.iadd, 1) := by decide +kernel
theorem dX8_counts_104 : decode cX8_counts 104 = .ok (.iload 5, 2) := by decide +kernel
theorem dX8_counts_106 : decode cX8_counts 106 = .ok (.iadd, 1) := by decide +kernel
theorem dX8_counts_107 : decode cX8_counts 107 = .ok (.laload, 1) := by decide +kernel
theorem dX8_counts_108 : decode cX8_counts 108 = .ok (.lmul, 1) := by decide +kernel
theorem dX8_counts_109 : decode cX8_counts 109 = .ok (.ladd, 1) := by decide +kernel
theorem dX8_counts_110 : decode cX8_counts 110 = .ok (.lstore 6, 2) := by decide +kernel
theorem dX8_counts_112 : decode cX8_counts 112 = .ok (.iinc 8 1, 3) := by decide +kernel
theorem dX8_counts_115 : decode cX8_counts 115 = .ok (.goto (-59), 3) := by decide +kernel
theorem dX8_counts_118 : decode cX8_counts 118 = .ok (.aload_n 0, 1) := by decide +kernel
theorem dX8_counts_119 : decode cX8_counts 119 = .ok (.getfield 38, 3) := by decide +kernel
theorem dX8_counts_122 : decode cX8_counts 122 = .ok (.iconst 4, 1) := by decide +kernel
theorem dX8_counts_123 : decode cX8_counts 123 = .ok (.iconst 4, 1) := by decide +kernel
theorem dX8_counts_124 : decode cX8_counts 124 = .ok (.iload 4, 2) := by decide +kernel
theorem dX8_counts_126 : decode cX8_counts 126 = .ok (.imul, 1) := by decide +kernel
theorem dX8_counts_127 : decode cX8_counts 127 = .ok (.iadd, 1) := by decide +kernel
theorem dX8_counts_128 : decode cX8_counts 128 = .ok (.iload 5, 2) := by decide +kernel
theorem dX8_counts_130 : decode cX8_counts 130 = .ok (.iadd, 1) := by decide +kernel
theorem dX8_counts_131 : decode cX8_counts 131 = .ok (.dup2, 1) := by decide +kernel
theorem dX8_counts_132 : decode cX8_counts 132 = .ok (.laload, 1) := by decide +kernel
theorem dX8_counts_133 : decode cX8_counts 133 = .ok (.lload 6, 2) := by decide +kernel
theorem dX8_counts_135 : decode cX8_counts 135 = .ok (.lload_n 2, 1) := by decide +kernel
theorem dX8_counts_136 : decode cX8_counts 136 = .ok (.invokestatic 143, 3) := by decide +kernel
theorem dX8_counts_139 : decode cX8_counts 139 = .ok (.i2l, 1) := by decide +kernel
theorem dX8_counts_140 : decode cX8_counts 140 = .ok (.ladd, 1) := by decide +kernel
theorem dX8_counts_141 : decode cX8_counts 141 = .ok (.lastore, 1) := by decide +kernel
theorem dX8_counts_142 : decode cX8_counts 142 = .ok (.iinc 5 1, 3) := by decide +kernel
theorem dX8_counts_145 : decode cX8_counts 145 = .ok (.goto (-106), 3) := by decide +kernel
theorem dX8_counts_148 : decode cX8_counts 148 = .ok (.iconst 0, 1) := by decide +kernel
theorem dX8_counts_149 : decode cX8_counts 149 = .ok (.istore 5, 2) := by decide +kernel
theorem dX8_counts_151 : decode cX8_counts 151 = .ok (.iload 5, 2) := by decide +kernel
theorem dX8_counts_153 : decode cX8_counts 153 = .ok (.iconst 3, 1) := by decide +kernel
theorem dX8_counts_154 : decode cX8_counts 154 = .ok (.if_icmp .ge 85, 3) := by decide +kernel
theorem dX8_counts_157 : decode cX8_counts 157 = .ok (.lconst 0, 1) := by decide +kernel
theorem dX8_counts_158 : decode cX8_counts 158 = .ok (.lstore 6, 2) := by decide +kernel
theorem dX8_counts_160 : decode cX8_counts 160 = .ok (.iconst 0, 1) := by decide +kernel
theorem dX8_counts_161 : decode cX8_counts 161 = .ok (.istore 8, 2) := by decide +kernel
theorem dX8_counts_163 : decode cX8_counts 163 = .ok (.iload 8, 2) := by decide +kernel
theorem dX8_counts_165 : decode cX8_counts 165 = .ok (.aload_n 0, 1) := by decide +kernel
theorem dX8_counts_166 : decode cX8_counts 166 = .ok (.iload_n 1, 1) := by decide +kernel
theorem dX8_counts_167 : decode cX8_counts 167 = .ok (.invokevirtual 65, 3) := by decide +kernel
theorem dX8_counts_170 : decode cX8_counts 170 = .ok (.if_icmp .ge 38, 3) := by decide +kernel
theorem dX8_counts_173 : decode cX8_counts 173 = .ok (.lload 6, 2) := by decide +kernel
theorem dX8_counts_175 : decode cX8_counts 175 = .ok (.aload_n 0, 1) := by decide +kernel
theorem dX8_counts_176 : decode cX8_counts 176 = .ok (.iload_n 1, 1) := by decide +kernel
theorem dX8_counts_177 : decode cX8_counts 177 = .ok (.iload 8, 2) := by decide +kernel
theorem dX8_counts_179 : decode cX8_counts 179 = .ok (.invokevirtual 69, 3) := by decide +kernel
theorem dX8_counts_182 : decode cX8_counts 182 = .ok (.iload 5, 2) := by decide +kernel
theorem dX8_counts_184 : decode cX8_counts 184 = .ok (.if_icmp .ne 14, 3) := by decide +kernel
theorem dX8_counts_187 : decode cX8_counts 187 = .ok (.aload_n 0, 1) := by decide +kernel
theorem dX8_counts_188 : decode cX8_counts 188 = .ok (.iload 8, 2) := by decide +kernel
theorem dX8_counts_190 : decode cX8_counts 190 = .ok (.iload 4, 2) := by decide +kernel
theorem dX8_counts_192 : decode cX8_counts 192 = .ok (.invokevirtual 87, 3) := by decide +kernel
theorem dX8_counts_195 : decode cX8_counts 195 = .ok (.goto 4, 3) := by decide +kernel
theorem dX8_counts_198 : decode cX8_counts 198 = .ok (.lconst 0, 1) := by decide +kernel
theorem dX8_counts_199 : decode cX8_counts 199 = .ok (.ladd, 1) := by decide +kernel
theorem dX8_counts_200 : decode cX8_counts 200 = .ok (.lstore 6, 2) := by decide +kernel
theorem dX8_counts_202 : decode cX8_counts 202 = .ok (.iinc 8 1, 3) := by decide +kernel
theorem dX8_counts_205 : decode cX8_counts 205 = .ok (.goto (-42), 3) := by decide +kernel
theorem dX8_counts_208 : decode cX8_counts 208 = .ok (.aload_n 0, 1) := by decide +kernel
theorem dX8_counts_209 : decode cX8_counts 209 = .ok (.getfield 38, 3) := by decide +kernel
theorem dX8_counts_212 : decode cX8_counts 212 = .ok (.bipush 20, 2) := by decide +kernel
theorem dX8_counts_214 : decode cX8_counts 214 = .ok (.iconst 3, 1) := by decide +kernel
theorem dX8_counts_215 : decode cX8_counts 215 = .ok (.iload 4, 2) := by decide +kernel
theorem dX8_counts_217 : decode cX8_counts 217 = .ok (.imul, 1) := by decide +kernel
theorem dX8_counts_218 : decode cX8_counts 218 = .ok (.iadd, 1) := by decide +kernel
theorem dX8_counts_219 : decode cX8_counts 219 = .ok (.iload 5, 2) := by decide +kernel
theorem dX8_counts_221 : decode cX8_counts 221 = .ok (.iadd, 1) := by decide +kernel
theorem dX8_counts_222 : decode cX8_counts 222 = .ok (.dup2, 1) := by decide +kernel
theorem dX8_counts_223 : decode cX8_counts 223 = .ok (.laload, 1) := by decide +kernel
theorem dX8_counts_224 : decode cX8_counts 224 = .ok (.lload 6, 2) := by decide +kernel
theorem dX8_counts_226 : decode cX8_counts 226 = .ok (.lload_n 2, 1) := by decide +kernel
theorem dX8_counts_227 : decode cX8_counts 227 = .ok (.invokestatic 143, 3) := by decide +kernel
theorem dX8_counts_230 : decode cX8_counts 230 = .ok (.i2l, 1) := by decide +kernel
theorem dX8_counts_231 : decode cX8_counts 231 = .ok (.ladd, 1) := by decide +kernel
theorem dX8_counts_232 : decode cX8_counts 232 = .ok (.lastore, 1) := by decide +kernel
theorem dX8_counts_233 : decode cX8_counts 233 = .ok (.iinc 5 1, 3) := by decide +kernel
theorem dX8_counts_236 : decode cX8_counts 236 = .ok (.goto (-85), 3) := by decide +kernel
theorem dX8_counts_239 : decode cX8_counts 239 = .ok (.iinc 4 1, 3) := by decide +kernel
theorem dX8_counts_242 : decode cX8_counts 242 = .ok (.goto (-239), 3) := by decide +kernel
theorem dX8_counts_245 : decode cX8_counts 245 = .ok (.return_, 1) := by decide +kernel
