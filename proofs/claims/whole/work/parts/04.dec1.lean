theorem dX0_init_0 : decode cX0_init 0 = .ok (.aload_n 0, 1) := by decide +kernel
theorem dX0_init_1 : decode cX0_init 1 = .ok (.invokespecial 3, 3) := by decide +kernel
theorem dX0_init_4 : decode cX0_init 4 = .ok (.aload_n 0, 1) := by decide +kernel
theorem dX0_init_5 : decode cX0_init 5 = .ok (.aload_n 1, 1) := by decide +kernel
theorem dX0_init_6 : decode cX0_init 6 = .ok (.putfield 9, 3) := by decide +kernel
theorem dX0_init_9 : decode cX0_init 9 = .ok (.aload_n 0, 1) := by decide +kernel
theorem dX0_init_10 : decode cX0_init 10 = .ok (.bipush 28, 2) := by decide +kernel
theorem dX0_init_12 : decode cX0_init 12 = .ok (.newarray .long, 2) := by decide +kernel
theorem dX0_init_14 : decode cX0_init 14 = .ok (.putfield 15, 3) := by decide +kernel
theorem dX0_init_17 : decode cX0_init 17 = .ok (.aload_n 0, 1) := by decide +kernel
theorem dX0_init_18 : decode cX0_init 18 = .ok (.bipush 7, 2) := by decide +kernel
theorem dX0_init_20 : decode cX0_init 20 = .ok (.newarray .int, 2) := by decide +kernel
theorem dX0_init_22 : decode cX0_init 22 = .ok (.putfield 19, 3) := by decide +kernel
theorem dX0_init_25 : decode cX0_init 25 = .ok (.return_, 1) := by decide +kernel
theorem dX0_read_0 : decode cX0_read 0 = .ok (.aload_n 0, 1) := by decide +kernel
theorem dX0_read_1 : decode cX0_read 1 = .ok (.getfield 9, 3) := by decide +kernel
theorem dX0_read_4 : decode cX0_read 4 = .ok (.getfield 23, 3) := by decide +kernel
theorem dX0_read_7 : decode cX0_read 7 = .ok (.iload_n 1, 1) := by decide +kernel
theorem dX0_read_8 : decode cX0_read 8 = .ok (.iaload, 1) := by decide +kernel
theorem dX0_read_9 : decode cX0_read 9 = .ok (.istore_n 2, 1) := by decide +kernel
theorem dX0_read_10 : decode cX0_read 10 = .ok (.iload_n 2, 1) := by decide +kernel
theorem dX0_read_11 : decode cX0_read 11 = .ok (.iconst 1, 1) := by decide +kernel
theorem dX0_read_12 : decode cX0_read 12 = .ok (.isub, 1) := by decide +kernel
theorem dX0_read_13 : decode cX0_read 13 = .ok (.istore_n 3, 1) := by decide +kernel
theorem dX0_read_14 : decode cX0_read 14 = .ok (.iload_n 3, 1) := by decide +kernel
theorem dX0_read_15 : decode cX0_read 15 = .ok (.ifCond .lt 83, 3) := by decide +kernel
theorem dX0_read_18 : decode cX0_read 18 = .ok (.iconst 0, 1) := by decide +kernel
theorem dX0_read_19 : decode cX0_read 19 = .ok (.istore 4, 2) := by decide +kernel
theorem dX0_read_21 : decode cX0_read 21 = .ok (.iload 4, 2) := by decide +kernel
theorem dX0_read_23 : decode cX0_read 23 = .ok (.aload_n 0, 1) := by decide +kernel
theorem dX0_read_24 : decode cX0_read 24 = .ok (.getfield 9, 3) := by decide +kernel
theorem dX0_read_27 : decode cX0_read 27 = .ok (.getfield 28, 3) := by decide +kernel
theorem dX0_read_30 : decode cX0_read 30 = .ok (.if_icmp .ge 62, 3) := by decide +kernel
theorem dX0_read_33 : decode cX0_read 33 = .ok (.iload_n 3, 1) := by decide +kernel
theorem dX0_read_34 : decode cX0_read 34 = .ok (.iload_n 2, 1) := by decide +kernel
theorem dX0_read_35 : decode cX0_read 35 = .ok (.iconst 1, 1) := by decide +kernel
theorem dX0_read_36 : decode cX0_read 36 = .ok (.isub, 1) := by decide +kernel
theorem dX0_read_37 : decode cX0_read 37 = .ok (.if_icmp .ne 7, 3) := by decide +kernel
theorem dX0_read_40 : decode cX0_read 40 = .ok (.lconst 1, 1) := by decide +kernel
theorem dX0_read_41 : decode cX0_read 41 = .ok (.goto 17, 3) := by decide +kernel
theorem dX0_read_44 : decode cX0_read 44 = .ok (.aload_n 0, 1) := by decide +kernel
theorem dX0_read_45 : decode cX0_read 45 = .ok (.iload_n 3, 1) := by decide +kernel
theorem dX0_read_46 : decode cX0_read 46 = .ok (.iload 4, 2) := by decide +kernel
theorem dX0_read_48 : decode cX0_read 48 = .ok (.aload_n 0, 1) := by decide +kernel
theorem dX0_read_49 : decode cX0_read 49 = .ok (.iload_n 3, 1) := by decide +kernel
theorem dX0_read_50 : decode cX0_read 50 = .ok (.iload 4, 2) := by decide +kernel
theorem dX0_read_52 : decode cX0_read 52 = .ok (.invokevirtual 32, 3) := by decide +kernel
theorem dX0_read_55 : decode cX0_read 55 = .ok (.invokevirtual 36, 3) := by decide +kernel
theorem dX0_read_58 : decode cX0_read 58 = .ok (.lstore 5, 2) := by decide +kernel
theorem dX0_read_60 : decode cX0_read 60 = .ok (.aload_n 0, 1) := by decide +kernel
theorem dX0_read_61 : decode cX0_read 61 = .ok (.getfield 15, 3) := by decide +kernel
theorem dX0_read_64 : decode cX0_read 64 = .ok (.iload_n 3, 1) := by decide +kernel
theorem dX0_read_65 : decode cX0_read 65 = .ok (.iconst 4, 1) := by decide +kernel
theorem dX0_read_66 : decode cX0_read 66 = .ok (.imul, 1) := by decide +kernel
theorem dX0_read_67 : decode cX0_read 67 = .ok (.iload 4, 2) := by decide +kernel
theorem dX0_read_69 : decode cX0_read 69 = .ok (.iadd, 1) := by decide +kernel
theorem dX0_read_70 : decode cX0_read 70 = .ok (.aload_n 0, 1) := by decide +kernel
theorem dX0_read_71 : decode cX0_read 71 = .ok (.getfield 9, 3) := by decide +kernel
theorem dX0_read_74 : decode cX0_read 74 = .ok (.iload 4, 2) := by decide +kernel
theorem dX0_read_76 : decode cX0_read 76 = .ok (.iload_n 1, 1) := by decide +kernel
theorem dX0_read_77 : decode cX0_read 77 = .ok (.iload_n 3, 1) := by decide +kernel
theorem dX0_read_78 : decode cX0_read 78 = .ok (.invokevirtual 40, 3) := by decide +kernel
theorem dX0_read_81 : decode cX0_read 81 = .ok (.i2l, 1) := by decide +kernel
theorem dX0_read_82 : decode cX0_read 82 = .ok (.lload 5, 2) := by decide +kernel
theorem dX0_read_84 : decode cX0_read 84 = .ok (.lmul, 1) := by decide +kernel
theorem dX0_read_85 : decode cX0_read 85 = .ok (.lastore, 1) := by decide +kernel
theorem dX0_read_86 : decode cX0_read 86 = .ok (.iinc 4 1, 3) := by decide +kernel
theorem dX0_read_89 : decode cX0_read 89 = .ok (.goto (-68), 3) := by decide +kernel
theorem dX0_read_92 : decode cX0_read 92 = .ok (.iinc 3 (-1), 3) := by decide +kernel
theorem dX0_read_95 : decode cX0_read 95 = .ok (.goto (-81), 3) := by decide +kernel
theorem dX0_read_98 : decode cX0_read 98 = .ok (.aload_n 0, 1) := by decide +kernel
theorem dX0_read_99 : decode cX0_read 99 = .ok (.getfield 19, 3) := by decide +kernel
theorem dX0_read_102 : decode cX0_read 102 = .ok (.iconst 0, 1) := by decide +kernel
theorem dX0_read_103 : decode cX0_read 103 = .ok (.aload_n 0, 1) := by decide +kernel
theorem dX0_read_104 : decode cX0_read 104 = .ok (.invokevirtual 44, 3) := by decide +kernel
theorem dX0_read_107 : decode cX0_read 107 = .ok (.iastore, 1) := by decide +kernel
theorem dX0_read_108 : decode cX0_read 108 = .ok (.aload_n 0, 1) := by decide +kernel
theorem dX0_read_109 : decode cX0_read 109 = .ok (.aload_n 0, 1) := by decide +kernel
theorem dX0_read_110 : decode cX0_read 110 = .ok (.aload_n 0, 1) := by decide +kernel
theorem dX0_read_111 : decode cX0_read 111 = .ok (.getfield 19, 3) := by decide +kernel
theorem dX0_read_114 : decode cX0_read 114 = .ok (.iconst 0, 1) := by decide +kernel
theorem dX0_read_115 : decode cX0_read 115 = .ok (.iaload, 1) := by decide +kernel
theorem dX0_read_116 : decode cX0_read 116 = .ok (.invokevirtual 48, 3) := by decide +kernel
theorem dX0_read_119 : decode cX0_read 119 = .ok (.putfield 52, 3) := by decide +kernel
theorem dX0_read_122 : decode cX0_read 122 = .ok (.iconst 1, 1) := by decide +kernel
theorem dX0_read_123 : decode cX0_read 123 = .ok (.istore_n 3, 1) := by decide +kernel
theorem dX0_read_124 : decode cX0_read 124 = .ok (.iload_n 3, 1) := by decide +kernel
theorem dX0_read_125 : decode cX0_read 125 = .ok (.iload_n 2, 1) := by decide +kernel
theorem dX0_read_126 : decode cX0_read 126 = .ok (.if_icmp .ge 30, 3) := by decide +kernel
theorem dX0_read_129 : decode cX0_read 129 = .ok (.aload_n 0, 1) := by decide +kernel
theorem dX0_read_130 : decode cX0_read 130 = .ok (.getfield 19, 3) := by decide +kernel
theorem dX0_read_133 : decode cX0_read 133 = .ok (.iload_n 3, 1) := by decide +kernel
theorem dX0_read_134 : decode cX0_read 134 = .ok (.aload_n 0, 1) := by decide +kernel
theorem dX0_read_135 : decode cX0_read 135 = .ok (.iload_n 3, 1) := by decide +kernel
theorem dX0_read_136 : decode cX0_read 136 = .ok (.iconst 1, 1) := by decide +kernel
theorem dX0_read_137 : decode cX0_read 137 = .ok (.isub, 1) := by decide +kernel
theorem dX0_read_138 : decode cX0_read 138 = .ok (.aload_n 0, 1) := by decide +kernel
theorem dX0_read_139 : decode cX0_read 139 = .ok (.getfield 19, 3) := by decide +kernel
theorem dX0_read_142 : decode cX0_read 142 = .ok (.iload_n 3, 1) := by decide +kernel
theorem dX0_read_143 : decode cX0_read 143 = .ok (.iconst 1, 1) := by decide +kernel
theorem dX0_read_144 : decode cX0_read 144 = .ok (.isub, 1) := by decide +kernel
theorem dX0_read_145 : decode cX0_read 145 = .ok (.iaload, 1) := by decide +kernel
theorem dX0_read_146 : decode cX0_read 146 = .ok (.invokevirtual 32, 3) := by decide +kernel
theorem dX0_read_149 : decode cX0_read 149 = .ok (.iastore, 1) := by decide +kernel
theorem dX0_read_150 : decode cX0_read 150 = .ok (.iinc 3 1, 3) := by decide +kernel
theorem dX0_read_153 : decode cX0_read 153 = .ok (.goto (-29), 3) := by decide +kernel
theorem dX0_read_156 : decode cX0_read 156 = .ok (.return_, 1) := by decide +kernel
theorem dX0_beginning_0 : decode cX0_beginning 0 = .ok (.aload_n 0, 1) := by decide +kernel
theorem dX0_beginning_1 : decode cX0_beginning 1 = .ok (.getfield 9, 3) := by decide +kernel
theorem dX0_beginning_4 : decode cX0_beginning 4 = .ok (.iload_n 1, 1) := by decide +kernel
theorem dX0_beginning_5 : decode cX0_beginning 5 = .ok (.invokevirtual 56, 3) := by decide +kernel
theorem dX0_beginning_8 : decode cX0_beginning 8 = .ok (.i2l, 1) := by decide +kernel
theorem dX0_beginning_9 : decode cX0_beginning 9 = .ok (.aload_n 0, 1) := by decide +kernel
theorem dX0_beginning_10 : decode cX0_beginning 10 = .ok (.getfield 15, 3) := by decide +kernel
theorem dX0_beginning_13 : decode cX0_beginning 13 = .ok (.iload_n 1, 1) := by decide +kernel
theorem dX0_beginning_14 : decode cX0_beginning 14 = .ok (.laload, 1) := by decide +kernel
theorem dX0_beginning_15 : decode cX0_beginning 15 = .ok (.lmul, 1) := by decide +kernel
theorem dX0_beginning_16 : decode cX0_beginning 16 = .ok (.lreturn, 1) := by decide +kernel
theorem dX0_going_0 : decode cX0_going 0 = .ok (.aload_n 0, 1) := by decide +kernel
theorem dX0_going_1 : decode cX0_going 1 = .ok (.getfield 9, 3) := by decide +kernel
theorem dX0_going_4 : decode cX0_going 4 = .ok (.iload_n 2, 1) := by decide +kernel
theorem dX0_going_5 : decode cX0_going 5 = .ok (.iload_n 3, 1) := by decide +kernel
theorem dX0_going_6 : decode cX0_going 6 = .ok (.invokevirtual 60, 3) := by decide +kernel
theorem dX0_going_9 : decode cX0_going 9 = .ok (.i2l, 1) := by decide +kernel
theorem dX0_going_10 : decode cX0_going 10 = .ok (.aload_n 0, 1) := by decide +kernel
theorem dX0_going_11 : decode cX0_going 11 = .ok (.getfield 15, 3) := by decide +kernel
theorem dX0_going_14 : decode cX0_going 14 = .ok (.iload_n 1, 1) := by decide +kernel
theorem dX0_going_15 : decode cX0_going 15 = .ok (.iconst 1, 1) := by decide +kernel
theorem dX0_going_16 : decode cX0_going 16 = .ok (.iadd, 1) := by decide +kernel
theorem dX0_going_17 : decode cX0_going 17 = .ok (.iconst 4, 1) := by decide +kernel
theorem dX0_going_18 : decode cX0_going 18 = .ok (.imul, 1) := by decide +kernel
theorem dX0_going_19 : decode cX0_going 19 = .ok (.iload_n 3, 1) := by decide +kernel
theorem dX0_going_20 : decode cX0_going 20 = .ok (.iadd, 1) := by decide +kernel
theorem dX0_going_21 : decode cX0_going 21 = .ok (.laload, 1) := by decide +kernel
theorem dX0_going_22 : decode cX0_going 22 = .ok (.lmul, 1) := by decide +kernel
theorem dX0_going_23 : decode cX0_going 23 = .ok (.lreturn, 1) := by decide +kernel
theorem dX0_firstOf_0 : decode cX0_firstOf 0 = .ok (.iconst 0, 1) := by decide +kernel
theorem dX0_firstOf_1 : decode cX0_firstOf 1 = .ok (.istore_n 1, 1) := by decide +kernel
theorem dX0_firstOf_2 : decode cX0_firstOf 2 = .ok (.iconst 1, 1) := by decide +kernel
theorem dX0_firstOf_3 : decode cX0_firstOf 3 = .ok (.istore_n 2, 1) := by decide +kernel
theorem dX0_firstOf_4 : decode cX0_firstOf 4 = .ok (.iload_n 2, 1) := by decide +kernel
theorem dX0_firstOf_5 : decode cX0_firstOf 5 = .ok (.aload_n 0, 1) := by decide +kernel
theorem dX0_firstOf_6 : decode cX0_firstOf 6 = .ok (.getfield 9, 3) := by decide +kernel
theorem dX0_firstOf_9 : decode cX0_firstOf 9 = .ok (.getfield 28, 3) := by decide +kernel
theorem dX0_firstOf_12 : decode cX0_firstOf 12 = .ok (.if_icmp .ge 25, 3) := by decide +kernel
theorem dX0_firstOf_15 : decode cX0_firstOf 15 = .ok (.aload_n 0, 1) := by decide +kernel
theorem dX0_firstOf_16 : decode cX0_firstOf 16 = .ok (.iload_n 2, 1) := by decide +kernel
theorem dX0_firstOf_17 : decode cX0_firstOf 17 = .ok (.invokevirtual 48, 3) := by decide +kernel
theorem dX0_firstOf_20 : decode cX0_firstOf 20 = .ok (.aload_n 0, 1) := by decide +kernel
theorem dX0_firstOf_21 : decode cX0_firstOf 21 = .ok (.iload_n 1, 1) := by decide +kernel
theorem dX0_firstOf_22 : decode cX0_firstOf 22 = .ok (.invokevirtual 48, 3) := by decide +kernel
theorem dX0_firstOf_25 : decode cX0_firstOf 25 = .ok (.lcmp, 1) := by decide +kernel
theorem dX0_firstOf_26 : decode cX0_firstOf 26 = .ok (.ifCond .le 5, 3) := by decide +kernel
theorem dX0_firstOf_29 : decode cX0_firstOf 29 = .ok (.iload_n 2, 1) := by decide +kernel
theorem dX0_firstOf_30 : decode cX0_firstOf 30 = .ok (.istore_n 1, 1) := by decide +kernel
theorem dX0_firstOf_31 : decode cX0_firstOf 31 = .ok (.iinc 2 1, 3) := by decide +kernel
theorem dX0_firstOf_34 : decode cX0_firstOf 34 = .ok (.goto (-30), 3) := by decide +kernel
theorem dX0_firstOf_37 : decode cX0_firstOf 37 = .ok (.iload_n 1, 1) := by decide +kernel
theorem dX0_firstOf_38 : decode cX0_firstOf 38 = .ok (.ireturn, 1) := by decide +kernel
theorem dX0_nextOf_0 : decode cX0_nextOf 0 = .ok (.iconst 0, 1) := by decide +kernel
theorem dX0_nextOf_1 : decode cX0_nextOf 1 = .ok (.istore_n 3, 1) := by decide +kernel
theorem dX0_nextOf_2 : decode cX0_nextOf 2 = .ok (.iconst 1, 1) := by decide +kernel
theorem dX0_nextOf_3 : decode cX0_nextOf 3 = .ok (.istore 4, 2) := by decide +kernel
theorem dX0_nextOf_5 : decode cX0_nextOf 5 = .ok (.iload 4, 2) := by decide +kernel
theorem dX0_nextOf_7 : decode cX0_nextOf 7 = .ok (.aload_n 0, 1) := by decide +kernel
theorem dX0_nextOf_8 : decode cX0_nextOf 8 = .ok (.getfield 9, 3) := by decide +kernel
theorem dX0_nextOf_11 : decode cX0_nextOf 11 = .ok (.getfield 28, 3) := by decide +kernel
theorem dX0_nextOf_14 : decode cX0_nextOf 14 = .ok (.if_icmp .ge 31, 3) := by decide +kernel
theorem dX0_nextOf_17 : decode cX0_nextOf 17 = .ok (.aload_n 0, 1) := by decide +kernel
theorem dX0_nextOf_18 : decode cX0_nextOf 18 = .ok (.iload_n 1, 1) := by decide +kernel
theorem dX0_nextOf_19 : decode cX0_nextOf 19 = .ok (.iload_n 2, 1) := by decide +kernel
theorem dX0_nextOf_20 : decode cX0_nextOf 20 = .ok (.iload 4, 2) := by decide +kernel
theorem dX0_nextOf_22 : decode cX0_nextOf 22 = .ok (.invokevirtual 36, 3) := by decide +kernel
theorem dX0_nextOf_25 : decode cX0_nextOf 25 = .ok (.aload_n 0, 1) := by decide +kernel
theorem dX0_nextOf_26 : decode cX0_nextOf 26 = .ok (.iload_n 1, 1) := by decide +kernel
theorem dX0_nextOf_27 : decode cX0_nextOf 27 = .ok (.iload_n 2, 1) := by decide +kernel
theorem dX0_nextOf_28 : decode cX0_nextOf 28 = .ok (.iload_n 3, 1) := by decide +kernel
theorem dX0_nextOf_29 : decode cX0_nextOf 29 = .ok (.invokevirtual 36, 3) := by decide +kernel
theorem dX0_nextOf_32 : decode cX0_nextOf 32 = .ok (.lcmp, 1) := by decide +kernel
theorem dX0_nextOf_33 : decode cX0_nextOf 33 = .ok (.ifCond .le 6, 3) := by decide +kernel
theorem dX0_nextOf_36 : decode cX0_nextOf 36 = .ok (.iload 4, 2) := by decide +kernel
theorem dX0_nextOf_38 : decode cX0_nextOf 38 = .ok (.istore_n 3, 1) := by decide +kernel
theorem dX0_nextOf_39 : decode cX0_nextOf 39 = .ok (.iinc 4 1, 3) := by decide +kernel
theorem dX0_nextOf_42 : decode cX0_nextOf 42 = .ok (.goto (-37), 3) := by decide +kernel
theorem dX0_nextOf_45 : decode cX0_nextOf 45 = .ok (.iload_n 3, 1) := by decide +kernel
theorem dX0_nextOf_46 : decode cX0_nextOf 46 = .ok (.ireturn, 1) := by decide +kernel
theorem dX1_init_0 : decode cX1_init 0 = .ok (.aload_n 0, 1) := by decide +kernel
theorem dX1_init_1 : decode cX1_init 1 = .ok (.invokespecial 3, 3) := by decide +kernel
theorem dX1_init_4 : decode cX1_init 4 = .ok (.aload_n 0, 1) := by decide +kernel
theorem dX1_init_5 : decode cX1_init 5 = .ok (.iconst 4, 1) := by decide +kernel
theorem dX1_init_6 : decode cX1_init 6 = .ok (.anewarray 9, 3) := by decide +kernel
theorem dX1_init_9 : decode cX1_init 9 = .ok (.putfield 11, 3) := by decide +kernel
theorem dX1_init_12 : decode cX1_init 12 = .ok (.iconst 0, 1) := by decide +kernel
theorem dX1_init_13 : decode cX1_init 13 = .ok (.istore_n 1, 1) := by decide +kernel
theorem dX1_init_14 : decode cX1_init 14 = .ok (.iload_n 1, 1) := by decide +kernel
theorem dX1_init_15 : decode cX1_init 15 = .ok (.iconst 4, 1) := by decide +kernel
theorem dX1_init_16 : decode cX1_init 16 = .ok (.if_icmp .ge 22, 3) := by decide +kernel
theorem dX1_init_19 : decode cX1_init 19 = .ok (.aload_n 0, 1) := by decide +kernel
theorem dX1_init_20 : decode cX1_init 20 = .ok (.getfield 11, 3) := by decide +kernel
theorem dX1_init_23 : decode cX1_init 23 = .ok (.iload_n 1, 1) := by decide +kernel
theorem dX1_init_24 : decode cX1_init 24 = .ok (.new 9, 3) := by decide +kernel
theorem dX1_init_27 : decode cX1_init 27 = .ok (.dup, 1) := by decide +kernel
theorem dX1_init_28 : decode cX1_init 28 = .ok (.invokespecial 17, 3) := by decide +kernel
theorem dX1_init_31 : decode cX1_init 31 = .ok (.aastore, 1) := by decide +kernel
theorem dX1_init_32 : decode cX1_init 32 = .ok (.iinc 1 1, 3) := by decide +kernel
theorem dX1_init_35 : decode cX1_init 35 = .ok (.goto (-21), 3) := by decide +kernel
theorem dX1_init_38 : decode cX1_init 38 = .ok (.return_, 1) := by decide +kernel
theorem dX1_record_0 : decode cX1_record 0 = .ok (.aload_n 0, 1) := by decide +kernel
theorem dX1_record_1 : decode cX1_record 1 = .ok (.getfield 18, 3) := by decide +kernel
theorem dX1_record_4 : decode cX1_record 4 = .ok (.iconst 4, 1) := by decide +kernel
theorem dX1_record_5 : decode cX1_record 5 = .ok (.if_icmp .ne 7, 3) := by decide +kernel
theorem dX1_record_8 : decode cX1_record 8 = .ok (.aload_n 0, 1) := by decide +kernel
theorem dX1_record_9 : decode cX1_record 9 = .ok (.invokevirtual 22, 3) := by decide +kernel
theorem dX1_record_12 : decode cX1_record 12 = .ok (.aload_n 0, 1) := by decide +kernel
theorem dX1_record_13 : decode cX1_record 13 = .ok (.getfield 11, 3) := by decide +kernel
theorem dX1_record_16 : decode cX1_record 16 = .ok (.aload_n 0, 1) := by decide +kernel
theorem dX1_record_17 : decode cX1_record 17 = .ok (.getfield 18, 3) := by decide +kernel
theorem dX1_record_20 : decode cX1_record 20 = .ok (.aaload, 1) := by decide +kernel
theorem dX1_record_21 : decode cX1_record 21 = .ok (.aload_n 1, 1) := by decide +kernel
theorem dX1_record_22 : decode cX1_record 22 = .ok (.invokevirtual 25, 3) := by decide +kernel
theorem dX1_record_25 : decode cX1_record 25 = .ok (.aload_n 0, 1) := by decide +kernel
theorem dX1_record_26 : decode cX1_record 26 = .ok (.dup, 1) := by decide +kernel
theorem dX1_record_27 : decode cX1_record 27 = .ok (.getfield 18, 3) := by decide +kernel
theorem dX1_record_30 : decode cX1_record 30 = .ok (.iconst 1, 1) := by decide +kernel
theorem dX1_record_31 : decode cX1_record 31 = .ok (.iadd, 1) := by decide +kernel
theorem dX1_record_32 : decode cX1_record 32 = .ok (.putfield 18, 3) := by decide +kernel
theorem dX1_record_35 : decode cX1_record 35 = .ok (.return_, 1) := by decide +kernel
theorem dX1_dropOldest_0 : decode cX1_dropOldest 0 = .ok (.aload_n 0, 1) := by decide +kernel
theorem dX1_dropOldest_1 : decode cX1_dropOldest 1 = .ok (.getfield 11, 3) := by decide +kernel
theorem dX1_dropOldest_4 : decode cX1_dropOldest 4 = .ok (.iconst 0, 1) := by decide +kernel
theorem dX1_dropOldest_5 : decode cX1_dropOldest 5 = .ok (.aaload, 1) := by decide +kernel
theorem dX1_dropOldest_6 : decode cX1_dropOldest 6 = .ok (.astore_n 1, 1) := by decide +kernel
theorem dX1_dropOldest_7 : decode cX1_dropOldest 7 = .ok (.iconst 1, 1) := by decide +kernel
theorem dX1_dropOldest_8 : decode cX1_dropOldest 8 = .ok (.istore_n 2, 1) := by decide +kernel
theorem dX1_dropOldest_9 : decode cX1_dropOldest 9 = .ok (.iload_n 2, 1) := by decide +kernel
theorem dX1_dropOldest_10 : decode cX1_dropOldest 10 = .ok (.iconst 4, 1) := by decide +kernel
theorem dX1_dropOldest_11 : decode cX1_dropOldest 11 = .ok (.if_icmp .ge 23, 3) := by decide +kernel
theorem dX1_dropOldest_14 : decode cX1_dropOldest 14 = .ok (.aload_n 0, 1) := by decide +kernel
theorem dX1_dropOldest_15 : decode cX1_dropOldest 15 = .ok (.getfield 11, 3) := by decide +kernel
theorem dX1_dropOldest_18 : decode cX1_dropOldest 18 = .ok (.iload_n 2, 1) := by decide +kernel
theorem dX1_dropOldest_19 : decode cX1_dropOldest 19 = .ok (.iconst 1, 1) := by decide +kernel
theorem dX1_dropOldest_20 : decode cX1_dropOldest 20 = .ok (.isub, 1) := by decide +kernel
theorem dX1_dropOldest_21 : decode cX1_dropOldest 21 = .ok (.aload_n 0, 1) := by decide +kernel
theorem dX1_dropOldest_22 : decode cX1_dropOldest 22 = .ok (.getfield 11, 3) := by decide +kernel
theorem dX1_dropOldest_25 : decode cX1_dropOldest 25 = .ok (.iload_n 2, 1) := by decide +kernel
theorem dX1_dropOldest_26 : decode cX1_dropOldest 26 = .ok (.aaload, 1) := by decide +kernel
theorem dX1_dropOldest_27 : decode cX1_dropOldest 27 = .ok (.aastore, 1) := by decide +kernel
theorem dX1_dropOldest_28 : decode cX1_dropOldest 28 = .ok (.iinc 2 1, 3) := by decide +kernel
theorem dX1_dropOldest_31 : decode cX1_dropOldest 31 = .ok (.goto (-22), 3) := by decide +kernel
theorem dX1_dropOldest_34 : decode cX1_dropOldest 34 = .ok (.aload_n 0, 1) := by decide +kernel
theorem dX1_dropOldest_35 : decode cX1_dropOldest 35 = .ok (.getfield 11, 3) := by decide +kernel
theorem dX1_dropOldest_38 : decode cX1_dropOldest 38 = .ok (.iconst 3, 1) := by decide +kernel
theorem dX1_dropOldest_39 : decode cX1_dropOldest 39 = .ok (.aload_n 1, 1) := by decide +kernel
theorem dX1_dropOldest_40 : decode cX1_dropOldest 40 = .ok (.aastore, 1) := by decide +kernel
theorem dX1_dropOldest_41 : decode cX1_dropOldest 41 = .ok (.aload_n 0, 1) := by decide +kernel
theorem dX1_dropOldest_42 : decode cX1_dropOldest 42 = .ok (.dup, 1) := by decide +kernel
theorem dX1_dropOldest_43 : decode cX1_dropOldest 43 = .ok (.getfield 18, 3) := by decide +kernel
theorem dX1_dropOldest_46 : decode cX1_dropOldest 46 = .ok (.iconst 1, 1) := by decide +kernel
theorem dX1_dropOldest_47 : decode cX1_dropOldest 47 = .ok (.isub, 1) := by decide +kernel
theorem dX1_dropOldest_48 : decode cX1_dropOldest 48 = .ok (.putfield 18, 3) := by decide +kernel
theorem dX1_dropOldest_51 : decode cX1_dropOldest 51 = .ok (.return_, 1) := by decide +kernel
theorem dX1_takeLatest_0 : decode cX1_takeLatest 0 = .ok (.aload_n 0, 1) := by decide +kernel
theorem dX1_takeLatest_1 : decode cX1_takeLatest 1 = .ok (.dup, 1) := by decide +kernel
theorem dX1_takeLatest_2 : decode cX1_takeLatest 2 = .ok (.getfield 18, 3) := by decide +kernel
theorem dX1_takeLatest_5 : decode cX1_takeLatest 5 = .ok (.iconst 1, 1) := by decide +kernel
theorem dX1_takeLatest_6 : decode cX1_takeLatest 6 = .ok (.isub, 1) := by decide +kernel
theorem dX1_takeLatest_7 : decode cX1_takeLatest 7 = .ok (.putfield 18, 3) := by decide +kernel
theorem dX1_takeLatest_10 : decode cX1_takeLatest 10 = .ok (.aload_n 1, 1) := by decide +kernel
theorem dX1_takeLatest_11 : decode cX1_takeLatest 11 = .ok (.aload_n 0, 1) := by decide +kernel
theorem dX1_takeLatest_12 : decode cX1_takeLatest 12 = .ok (.getfield 11, 3) := by decide +kernel
theorem dX1_takeLatest_15 : decode cX1_takeLatest 15 = .ok (.aload_n 0, 1) := by decide +kernel
theorem dX1_takeLatest_16 : decode cX1_takeLatest 16 = .ok (.getfield 18, 3) := by decide +kernel
theorem dX1_takeLatest_19 : decode cX1_takeLatest 19 = .ok (.aaload, 1) := by decide +kernel
theorem dX1_takeLatest_20 : decode cX1_takeLatest 20 = .ok (.invokevirtual 25, 3) := by decide +kernel
theorem dX1_takeLatest_23 : decode cX1_takeLatest 23 = .ok (.return_, 1) := by decide +kernel
theorem dX2_init_0 : decode cX2_init 0 = .ok (.aload_n 0, 1) := by decide +kernel
theorem dX2_init_1 : decode cX2_init 1 = .ok (.invokespecial 3, 3) := by decide +kernel
theorem dX2_init_4 : decode cX2_init 4 = .ok (.aload_n 0, 1) := by decide +kernel
theorem dX2_init_5 : decode cX2_init 5 = .ok (.aload_n 1, 1) := by decide +kernel
theorem dX2_init_6 : decode cX2_init 6 = .ok (.putfield 9, 3) := by decide +kernel
theorem dX2_init_9 : decode cX2_init 9 = .ok (.aload_n 0, 1) := by decide +kernel
theorem dX2_init_10 : decode cX2_init 10 = .ok (.aload_n 2, 1) := by decide +kernel
theorem dX2_init_11 : decode cX2_init 11 = .ok (.putfield 15, 3) := by decide +kernel
theorem dX2_init_14 : decode cX2_init 14 = .ok (.aload_n 0, 1) := by decide +kernel
theorem dX2_init_15 : decode cX2_init 15 = .ok (.bipush 32, 2) := by decide +kernel
theorem dX2_init_17 : decode cX2_init 17 = .ok (.newarray .int, 2) := by decide +kernel
theorem dX2_init_19 : decode cX2_init 19 = .ok (.putfield 21, 3) := by decide +kernel
theorem dX2_init_22 : decode cX2_init 22 = .ok (.aload_n 0, 1) := by decide +kernel
theorem dX2_init_23 : decode cX2_init 23 = .ok (.bipush 32, 2) := by decide +kernel
theorem dX2_init_25 : decode cX2_init 25 = .ok (.newarray .int, 2) := by decide +kernel
theorem dX2_init_27 : decode cX2_init 27 = .ok (.putfield 25, 3) := by decide +kernel
theorem dX2_init_30 : decode cX2_init 30 = .ok (.return_, 1) := by decide +kernel
theorem dX2_prepareRound_0 : decode cX2_prepareRound 0 = .ok (.aload_n 0, 1) := by decide +kernel
theorem dX2_prepareRound_1 : decode cX2_prepareRound 1 = .ok (.getfield 21, 3) := by decide +kernel
theorem dX2_prepareRound_4 : decode cX2_prepareRound 4 = .ok (.iconst 0, 1) := by decide +kernel
theorem dX2_prepareRound_5 : decode cX2_prepareRound 5 = .ok (.invokestatic 28, 3) := by decide +kernel
theorem dX2_prepareRound_8 : decode cX2_prepareRound 8 = .ok (.iconst 0, 1) := by decide +kernel
theorem dX2_prepareRound_9 : decode cX2_prepareRound 9 = .ok (.istore_n 1, 1) := by decide +kernel
theorem dX2_prepareRound_10 : decode cX2_prepareRound 10 = .ok (.iload_n 1, 1) := by decide +kernel
theorem dX2_prepareRound_11 : decode cX2_prepareRound 11 = .ok (.aload_n 0, 1) := by decide +kernel
theorem dX2_prepareRound_12 : decode cX2_prepareRound 12 = .ok (.getfield 9, 3) := by decide +kernel
theorem dX2_prepareRound_15 : decode cX2_prepareRound 15 = .ok (.getfield 34, 3) := by decide +kernel
theorem dX2_prepareRound_18 : decode cX2_prepareRound 18 = .ok (.if_icmp .ge 33, 3) := by decide +kernel
theorem dX2_prepareRound_21 : decode cX2_prepareRound 21 = .ok (.aload_n 0, 1) := by decide +kernel
theorem dX2_prepareRound_22 : decode cX2_prepareRound 22 = .ok (.getfield 15, 3) := by decide +kernel
theorem dX2_prepareRound_25 : decode cX2_prepareRound 25 = .ok (.iload_n 1, 1) := by decide +kernel
theorem dX2_prepareRound_26 : decode cX2_prepareRound 26 = .ok (.invokevirtual 38, 3) := by decide +kernel
theorem dX2_prepareRound_29 : decode cX2_prepareRound 29 = .ok (.aload_n 0, 1) := by decide +kernel
theorem dX2_prepareRound_30 : decode cX2_prepareRound 30 = .ok (.getfield 15, 3) := by decide +kernel
theorem dX2_prepareRound_33 : decode cX2_prepareRound 33 = .ok (.getfield 44, 3) := by decide +kernel
theorem dX2_prepareRound_36 : decode cX2_prepareRound 36 = .ok (.lconst 0, 1) := by decide +kernel
theorem dX2_prepareRound_37 : decode cX2_prepareRound 37 = .ok (.lcmp, 1) := by decide +kernel
theorem dX2_prepareRound_38 : decode cX2_prepareRound 38 = .ok (.ifCond .le 7, 3) := by decide +kernel
theorem dX2_prepareRound_41 : decode cX2_prepareRound 41 = .ok (.aload_n 0, 1) := by decide +kernel
theorem dX2_prepareRound_42 : decode cX2_prepareRound 42 = .ok (.invokevirtual 48, 3) := by decide +kernel
theorem dX2_prepareRound_45 : decode cX2_prepareRound 45 = .ok (.iinc 1 1, 3) := by decide +kernel
theorem dX2_prepareRound_48 : decode cX2_prepareRound 48 = .ok (.goto (-38), 3) := by decide +kernel
theorem dX2_prepareRound_51 : decode cX2_prepareRound 51 = .ok (.aload_n 0, 1) := by decide +kernel
theorem dX2_prepareRound_52 : decode cX2_prepareRound 52 = .ok (.getfield 9, 3) := by decide +kernel
theorem dX2_prepareRound_55 : decode cX2_prepareRound 55 = .ok (.getfield 51, 3) := by decide +kernel
theorem dX2_prepareRound_58 : decode cX2_prepareRound 58 = .ok (.iconst 0, 1) := by decide +kernel
theorem dX2_prepareRound_59 : decode cX2_prepareRound 59 = .ok (.aload_n 0, 1) := by decide +kernel
theorem dX2_prepareRound_60 : decode cX2_prepareRound 60 = .ok (.getfield 25, 3) := by decide +kernel
theorem dX2_prepareRound_63 : decode cX2_prepareRound 63 = .ok (.iconst 0, 1) := by decide +kernel
theorem dX2_prepareRound_64 : decode cX2_prepareRound 64 = .ok (.bipush 32, 2) := by decide +kernel
theorem dX2_prepareRound_66 : decode cX2_prepareRound 66 = .ok (.invokestatic 54, 3) := by decide +kernel
theorem dX2_prepareRound_69 : decode cX2_prepareRound 69 = .ok (.aload_n 0, 1) := by decide +kernel
theorem dX2_prepareRound_70 : decode cX2_prepareRound 70 = .ok (.iconst 0, 1) := by decide +kernel
theorem dX2_prepareRound_71 : decode cX2_prepareRound 71 = .ok (.iconst 0, 1) := by decide +kernel
theorem dX2_prepareRound_72 : decode cX2_prepareRound 72 = .ok (.invokevirtual 60, 3) := by decide +kernel
theorem dX2_prepareRound_75 : decode cX2_prepareRound 75 = .ok (.iconst 0, 1) := by decide +kernel
theorem dX2_prepareRound_76 : decode cX2_prepareRound 76 = .ok (.istore_n 1, 1) := by decide +kernel
theorem dX2_prepareRound_77 : decode cX2_prepareRound 77 = .ok (.iload_n 1, 1) := by decide +kernel
theorem dX2_prepareRound_78 : decode cX2_prepareRound 78 = .ok (.aload_n 0, 1) := by decide +kernel
theorem dX2_prepareRound_79 : decode cX2_prepareRound 79 = .ok (.getfield 9, 3) := by decide +kernel
theorem dX2_prepareRound_82 : decode cX2_prepareRound 82 = .ok (.getfield 64, 3) := by decide +kernel
theorem dX2_prepareRound_85 : decode cX2_prepareRound 85 = .ok (.if_icmp .ge 21, 3) := by decide +kernel
theorem dX2_prepareRound_88 : decode cX2_prepareRound 88 = .ok (.aload_n 0, 1) := by decide +kernel
theorem dX2_prepareRound_89 : decode cX2_prepareRound 89 = .ok (.iconst 1, 1) := by decide +kernel
theorem dX2_prepareRound_90 : decode cX2_prepareRound 90 = .ok (.iload_n 1, 1) := by decide +kernel
theorem dX2_prepareRound_91 : decode cX2_prepareRound 91 = .ok (.invokevirtual 60, 3) := by decide +kernel
theorem dX2_prepareRound_94 : decode cX2_prepareRound 94 = .ok (.aload_n 0, 1) := by decide +kernel
theorem dX2_prepareRound_95 : decode cX2_prepareRound 95 = .ok (.iconst 2, 1) := by decide +kernel
theorem dX2_prepareRound_96 : decode cX2_prepareRound 96 = .ok (.iload_n 1, 1) := by decide +kernel
theorem dX2_prepareRound_97 : decode cX2_prepareRound 97 = .ok (.invokevirtual 60, 3) := by decide +kernel
theorem dX2_prepareRound_100 : decode cX2_prepareRound 100 = .ok (.iinc 1 1, 3) := by decide +kernel
theorem dX2_prepareRound_103 : decode cX2_prepareRound 103 = .ok (.goto (-26), 3) := by decide +kernel
theorem dX2_prepareRound_106 : decode cX2_prepareRound 106 = .ok (.aload_n 0, 1) := by decide +kernel
theorem dX2_prepareRound_107 : decode cX2_prepareRound 107 = .ok (.invokevirtual 67, 3) := by decide +kernel
theorem dX2_prepareRound_110 : decode cX2_prepareRound 110 = .ok (.ireturn, 1) := by decide +kernel
theorem dX2_finishRound_0 : decode cX2_finishRound 0 = .ok (.aload_n 0, 1) := by decide +kernel
theorem dX2_finishRound_1 : decode cX2_finishRound 1 = .ok (.getfield 25, 3) := by decide +kernel
theorem dX2_finishRound_4 : decode cX2_finishRound 4 = .ok (.iconst 0, 1) := by decide +kernel
theorem dX2_finishRound_5 : decode cX2_finishRound 5 = .ok (.aload_n 0, 1) := by decide +kernel
theorem dX2_finishRound_6 : decode cX2_finishRound 6 = .ok (.getfield 9, 3) := by decide +kernel
theorem dX2_finishRound_9 : decode cX2_finishRound 9 = .ok (.getfield 51, 3) := by decide +kernel
theorem dX2_finishRound_12 : decode cX2_finishRound 12 = .ok (.iconst 0, 1) := by decide +kernel
theorem dX2_finishRound_13 : decode cX2_finishRound 13 = .ok (.bipush 32, 2) := by decide +kernel
theorem dX2_finishRound_15 : decode cX2_finishRound 15 = .ok (.invokestatic 54, 3) := by decide +kernel
theorem dX2_finishRound_18 : decode cX2_finishRound 18 = .ok (.return_, 1) := by decide +kernel
theorem dX2_countSample_0 : decode cX2_countSample 0 = .ok (.iconst 0, 1) := by decide +kernel
theorem dX2_countSample_1 : decode cX2_countSample 1 = .ok (.istore_n 1, 1) := by decide +kernel
theorem dX2_countSample_2 : decode cX2_countSample 2 = .ok (.iload_n 1, 1) := by decide +kernel
theorem dX2_countSample_3 : decode cX2_countSample 3 = .ok (.aload_n 0, 1) := by decide +kernel
theorem dX2_countSample_4 : decode cX2_countSample 4 = .ok (.getfield 9, 3) := by decide +kernel
theorem dX2_countSample_7 : decode cX2_countSample 7 = .ok (.getfield 64, 3) := by decide +kernel
theorem dX2_countSample_10 : decode cX2_countSample 10 = .ok (.if_icmp .ge 98, 3) := by decide +kernel
theorem dX2_countSample_13 : decode cX2_countSample 13 = .ok (.aload_n 0, 1) := by decide +kernel
theorem dX2_countSample_14 : decode cX2_countSample 14 = .ok (.iconst 0, 1) := by decide +kernel
theorem dX2_countSample_15 : decode cX2_countSample 15 = .ok (.iload_n 1, 1) := by decide +kernel
theorem dX2_countSample_16 : decode cX2_countSample 16 = .ok (.iconst 0, 1) := by decide +kernel
theorem dX2_countSample_17 : decode cX2_countSample 17 = .ok (.invokestatic 71, 3) := by decide +kernel
theorem dX2_countSample_20 : decode cX2_countSample 20 = .ok (.aload_n 0, 1) := by decide +kernel
theorem dX2_countSample_21 : decode cX2_countSample 21 = .ok (.getfield 15, 3) := by decide +kernel
theorem dX2_countSample_24 : decode cX2_countSample 24 = .ok (.iconst 0, 1) := by decide +kernel
theorem dX2_countSample_25 : decode cX2_countSample 25 = .ok (.iload_n 1, 1) := by decide +kernel
theorem dX2_countSample_26 : decode cX2_countSample 26 = .ok (.invokevirtual 75, 3) := by decide +kernel
theorem dX2_countSample_29 : decode cX2_countSample 29 = .ok (.invokevirtual 79, 3) := by decide +kernel
theorem dX2_countSample_32 : decode cX2_countSample 32 = .ok (.iconst 0, 1) := by decide +kernel
theorem dX2_countSample_33 : decode cX2_countSample 33 = .ok (.istore_n 2, 1) := by decide +kernel
theorem dX2_countSample_34 : decode cX2_countSample 34 = .ok (.iload_n 2, 1) := by decide +kernel
theorem dX2_countSample_35 : decode cX2_countSample 35 = .ok (.aload_n 0, 1) := by decide +kernel
theorem dX2_countSample_36 : decode cX2_countSample 36 = .ok (.getfield 9, 3) := by decide +kernel
theorem dX2_countSample_39 : decode cX2_countSample 39 = .ok (.getfield 64, 3) := by decide +kernel
theorem dX2_countSample_42 : decode cX2_countSample 42 = .ok (.if_icmp .ge 28, 3) := by decide +kernel
theorem dX2_countSample_45 : decode cX2_countSample 45 = .ok (.aload_n 0, 1) := by decide +kernel
theorem dX2_countSample_46 : decode cX2_countSample 46 = .ok (.iconst 1, 1) := by decide +kernel
theorem dX2_countSample_47 : decode cX2_countSample 47 = .ok (.iload_n 1, 1) := by decide +kernel
theorem dX2_countSample_48 : decode cX2_countSample 48 = .ok (.iload_n 2, 1) := by decide +kernel
theorem dX2_countSample_49 : decode cX2_countSample 49 = .ok (.invokestatic 71, 3) := by decide +kernel
theorem dX2_countSample_52 : decode cX2_countSample 52 = .ok (.aload_n 0, 1) := by decide +kernel
theorem dX2_countSample_53 : decode cX2_countSample 53 = .ok (.getfield 15, 3) := by decide +kernel
theorem dX2_countSample_56 : decode cX2_countSample 56 = .ok (.iload_n 1, 1) := by decide +kernel
theorem dX2_countSample_57 : decode cX2_countSample 57 = .ok (.iload_n 2, 1) := by decide +kernel
theorem dX2_countSample_58 : decode cX2_countSample 58 = .ok (.invokevirtual 83, 3) := by decide +kernel
theorem dX2_countSample_61 : decode cX2_countSample 61 = .ok (.invokevirtual 79, 3) := by decide +kernel
theorem dX2_countSample_64 : decode cX2_countSample 64 = .ok (.iinc 2 1, 3) := by decide +kernel
theorem dX2_countSample_67 : decode cX2_countSample 67 = .ok (.goto (-33), 3) := by decide +kernel
theorem dX2_countSample_70 : decode cX2_countSample 70 = .ok (.iconst 0, 1) := by decide +kernel
theorem dX2_countSample_71 : decode cX2_countSample 71 = .ok (.istore_n 2, 1) := by decide +kernel
theorem dX2_countSample_72 : decode cX2_countSample 72 = .ok (.iload_n 2, 1) := by decide +kernel
theorem dX2_countSample_73 : decode cX2_countSample 73 = .ok (.iconst 3, 1) := by decide +kernel
theorem dX2_countSample_74 : decode cX2_countSample 74 = .ok (.if_icmp .ge 28, 3) := by decide +kernel
theorem dX2_countSample_77 : decode cX2_countSample 77 = .ok (.aload_n 0, 1) := by decide +kernel
theorem dX2_countSample_78 : decode cX2_countSample 78 = .ok (.iconst 2, 1) := by decide +kernel
theorem dX2_countSample_79 : decode cX2_countSample 79 = .ok (.iload_n 1, 1) := by decide +kernel
theorem dX2_countSample_80 : decode cX2_countSample 80 = .ok (.iload_n 2, 1) := by decide +kernel
theorem dX2_countSample_81 : decode cX2_countSample 81 = .ok (.invokestatic 71, 3) := by decide +kernel
theorem dX2_countSample_84 : decode cX2_countSample 84 = .ok (.aload_n 0, 1) := by decide +kernel
theorem dX2_countSample_85 : decode cX2_countSample 85 = .ok (.getfield 15, 3) := by decide +kernel
theorem dX2_countSample_88 : decode cX2_countSample 88 = .ok (.iload_n 1, 1) := by decide +kernel
theorem dX2_countSample_89 : decode cX2_countSample 89 = .ok (.iload_n 2, 1) := by decide +kernel
theorem dX2_countSample_90 : decode cX2_countSample 90 = .ok (.invokevirtual 86, 3) := by decide +kernel
theorem dX2_countSample_93 : decode cX2_countSample 93 = .ok (.invokevirtual 79, 3) := by decide +kernel
theorem dX2_countSample_96 : decode cX2_countSample 96 = .ok (.iinc 2 1, 3) := by decide +kernel
theorem dX2_countSample_99 : decode cX2_countSample 99 = .ok (.goto (-27), 3) := by decide +kernel
theorem dX2_countSample_102 : decode cX2_countSample 102 = .ok (.iinc 1 1, 3) := by decide +kernel
theorem dX2_countSample_105 : decode cX2_countSample 105 = .ok (.goto (-103), 3) := by decide +kernel
theorem dX2_countSample_108 : decode cX2_countSample 108 = .ok (.return_, 1) := by decide +kernel
theorem dX2_addCount_0 : decode cX2_addCount 0 = .ok (.aload_n 0, 1) := by decide +kernel
theorem dX2_addCount_1 : decode cX2_addCount 1 = .ok (.getfield 21, 3) := by decide +kernel
theorem dX2_addCount_4 : decode cX2_addCount 4 = .ok (.iload_n 1, 1) := by decide +kernel
theorem dX2_addCount_5 : decode cX2_addCount 5 = .ok (.dup2, 1) := by decide +kernel
theorem dX2_addCount_6 : decode cX2_addCount 6 = .ok (.iaload, 1) := by decide +kernel
theorem dX2_addCount_7 : decode cX2_addCount 7 = .ok (.lload_n 2, 1) := by decide +kernel
theorem dX2_addCount_8 : decode cX2_addCount 8 = .ok (.aload_n 0, 1) := by decide +kernel
theorem dX2_addCount_9 : decode cX2_addCount 9 = .ok (.getfield 15, 3) := by decide +kernel
theorem dX2_addCount_12 : decode cX2_addCount 12 = .ok (.getfield 44, 3) := by decide +kernel
theorem dX2_addCount_15 : decode cX2_addCount 15 = .ok (.invokestatic 89, 3) := by decide +kernel
theorem dX2_addCount_18 : decode cX2_addCount 18 = .ok (.iadd, 1) := by decide +kernel
theorem dX2_addCount_19 : decode cX2_addCount 19 = .ok (.iastore, 1) := by decide +kernel
theorem dX2_addCount_20 : decode cX2_addCount 20 = .ok (.return_, 1) := by decide +kernel
theorem dX2_makeFamily_0 : decode cX2_makeFamily 0 = .ok (.aload_n 0, 1) := by decide +kernel
theorem dX2_makeFamily_1 : decode cX2_makeFamily 1 = .ok (.getfield 9, 3) := by decide +kernel
theorem dX2_makeFamily_4 : decode cX2_makeFamily 4 = .ok (.iload_n 1, 1) := by decide +kernel
theorem dX2_makeFamily_5 : decode cX2_makeFamily 5 = .ok (.invokevirtual 93, 3) := by decide +kernel
theorem dX2_makeFamily_8 : decode cX2_makeFamily 8 = .ok (.istore_n 3, 1) := by decide +kernel
theorem dX2_makeFamily_9 : decode cX2_makeFamily 9 = .ok (.iconst 0, 1) := by decide +kernel
theorem dX2_makeFamily_10 : decode cX2_makeFamily 10 = .ok (.istore 4, 2) := by decide +kernel
theorem dX2_makeFamily_12 : decode cX2_makeFamily 12 = .ok (.iconst 0, 1) := by decide +kernel
theorem dX2_makeFamily_13 : decode cX2_makeFamily 13 = .ok (.istore 5, 2) := by decide +kernel
theorem dX2_makeFamily_15 : decode cX2_makeFamily 15 = .ok (.iload 5, 2) := by decide +kernel
theorem dX2_makeFamily_17 : decode cX2_makeFamily 17 = .ok (.iload_n 3, 1) := by decide +kernel
theorem dX2_makeFamily_18 : decode cX2_makeFamily 18 = .ok (.if_icmp .ge 28, 3) := by decide +kernel
theorem dX2_makeFamily_21 : decode cX2_makeFamily 21 = .ok (.iload 4, 2) := by decide +kernel
theorem dX2_makeFamily_23 : decode cX2_makeFamily 23 = .ok (.aload_n 0, 1) := by decide +kernel
theorem dX2_makeFamily_24 : decode cX2_makeFamily 24 = .ok (.getfield 21, 3) := by decide +kernel
theorem dX2_makeFamily_27 : decode cX2_makeFamily 27 = .ok (.iload_n 1, 1) := by decide +kernel
theorem dX2_makeFamily_28 : decode cX2_makeFamily 28 = .ok (.iload_n 2, 1) := by decide +kernel
theorem dX2_makeFamily_29 : decode cX2_makeFamily 29 = .ok (.iload 5, 2) := by decide +kernel
theorem dX2_makeFamily_31 : decode cX2_makeFamily 31 = .ok (.invokestatic 97, 3) := by decide +kernel
theorem dX2_makeFamily_34 : decode cX2_makeFamily 34 = .ok (.iaload, 1) := by decide +kernel
theorem dX2_makeFamily_35 : decode cX2_makeFamily 35 = .ok (.invokestatic 100, 3) := by decide +kernel
theorem dX2_makeFamily_38 : decode cX2_makeFamily 38 = .ok (.istore 4, 2) := by decide +kernel
theorem dX2_makeFamily_40 : decode cX2_makeFamily 40 = .ok (.iinc 5 1, 3) := by decide +kernel
theorem dX2_makeFamily_43 : decode cX2_makeFamily 43 = .ok (.goto (-28), 3) := by decide +kernel
theorem dX2_makeFamily_46 : decode cX2_makeFamily 46 = .ok (.iload 4, 2) := by decide +kernel
theorem dX2_makeFamily_48 : decode cX2_makeFamily 48 = .ok (.ifCond .gt 4, 3) := by decide +kernel
theorem dX2_makeFamily_51 : decode cX2_makeFamily 51 = .ok (.return_, 1) := by decide +kernel
theorem dX2_makeFamily_52 : decode cX2_makeFamily 52 = .ok (.iconst 0, 1) := by decide +kernel
theorem dX2_makeFamily_53 : decode cX2_makeFamily 53 = .ok (.istore 5, 2) := by decide +kernel
theorem dX2_makeFamily_55 : decode cX2_makeFamily 55 = .ok (.iload 5, 2) := by decide +kernel
theorem dX2_makeFamily_57 : decode cX2_makeFamily 57 = .ok (.iload_n 3, 1) := by decide +kernel
theorem dX2_makeFamily_58 : decode cX2_makeFamily 58 = .ok (.if_icmp .ge 43, 3) := by decide +kernel
theorem dX2_makeFamily_61 : decode cX2_makeFamily 61 = .ok (.iload_n 1, 1) := by decide +kernel
theorem dX2_makeFamily_62 : decode cX2_makeFamily 62 = .ok (.iload_n 2, 1) := by decide +kernel
theorem dX2_makeFamily_63 : decode cX2_makeFamily 63 = .ok (.iload 5, 2) := by decide +kernel
theorem dX2_makeFamily_65 : decode cX2_makeFamily 65 = .ok (.invokestatic 97, 3) := by decide +kernel
theorem dX2_makeFamily_68 : decode cX2_makeFamily 68 = .ok (.istore 6, 2) := by decide +kernel
theorem dX2_makeFamily_70 : decode cX2_makeFamily 70 = .ok (.aload_n 0, 1) := by decide +kernel
theorem dX2_makeFamily_71 : decode cX2_makeFamily 71 = .ok (.getfield 25, 3) := by decide +kernel
theorem dX2_makeFamily_74 : decode cX2_makeFamily 74 = .ok (.iload 6, 2) := by decide +kernel
theorem dX2_makeFamily_76 : decode cX2_makeFamily 76 = .ok (.bipush 6, 2) := by decide +kernel
theorem dX2_makeFamily_78 : decode cX2_makeFamily 78 = .ok (.aload_n 0, 1) := by decide +kernel
theorem dX2_makeFamily_79 : decode cX2_makeFamily 79 = .ok (.getfield 21, 3) := by decide +kernel
theorem dX2_makeFamily_82 : decode cX2_makeFamily 82 = .ok (.iload 6, 2) := by decide +kernel
theorem dX2_makeFamily_84 : decode cX2_makeFamily 84 = .ok (.iaload, 1) := by decide +kernel
theorem dX2_makeFamily_85 : decode cX2_makeFamily 85 = .ok (.imul, 1) := by decide +kernel
theorem dX2_makeFamily_86 : decode cX2_makeFamily 86 = .ok (.iload 4, 2) := by decide +kernel
theorem dX2_makeFamily_88 : decode cX2_makeFamily 88 = .ok (.iconst 2, 1) := by decide +kernel
theorem dX2_makeFamily_89 : decode cX2_makeFamily 89 = .ok (.idiv, 1) := by decide +kernel
theorem dX2_makeFamily_90 : decode cX2_makeFamily 90 = .ok (.iadd, 1) := by decide +kernel
theorem dX2_makeFamily_91 : decode cX2_makeFamily 91 = .ok (.iload 4, 2) := by decide +kernel
theorem dX2_makeFamily_93 : decode cX2_makeFamily 93 = .ok (.idiv, 1) := by decide +kernel
theorem dX2_makeFamily_94 : decode cX2_makeFamily 94 = .ok (.iastore, 1) := by decide +kernel
theorem dX2_makeFamily_95 : decode cX2_makeFamily 95 = .ok (.iinc 5 1, 3) := by decide +kernel
theorem dX2_makeFamily_98 : decode cX2_makeFamily 98 = .ok (.goto (-43), 3) := by decide +kernel
theorem dX2_makeFamily_101 : decode cX2_makeFamily 101 = .ok (.return_, 1) := by decide +kernel
theorem dX2_differs_0 : decode cX2_differs 0 = .ok (.iconst 0, 1) := by decide +kernel
theorem dX2_differs_1 : decode cX2_differs 1 = .ok (.istore_n 1, 1) := by decide +kernel
theorem dX2_differs_2 : decode cX2_differs 2 = .ok (.iload_n 1, 1) := by decide +kernel
theorem dX2_differs_3 : decode cX2_differs 3 = .ok (.bipush 32, 2) := by decide +kernel
theorem dX2_differs_5 : decode cX2_differs 5 = .ok (.if_icmp .ge 29, 3) := by decide +kernel
theorem dX2_differs_8 : decode cX2_differs 8 = .ok (.aload_n 0, 1) := by decide +kernel
theorem dX2_differs_9 : decode cX2_differs 9 = .ok (.getfield 25, 3) := by decide +kernel
theorem dX2_differs_12 : decode cX2_differs 12 = .ok (.iload_n 1, 1) := by decide +kernel
theorem dX2_differs_13 : decode cX2_differs 13 = .ok (.iaload, 1) := by decide +kernel
theorem dX2_differs_14 : decode cX2_differs 14 = .ok (.aload_n 0, 1) := by decide +kernel
theorem dX2_differs_15 : decode cX2_differs 15 = .ok (.getfield 9, 3) := by decide +kernel
theorem dX2_differs_18 : decode cX2_differs 18 = .ok (.getfield 51, 3) := by decide +kernel
theorem dX2_differs_21 : decode cX2_differs 21 = .ok (.iload_n 1, 1) := by decide +kernel
theorem dX2_differs_22 : decode cX2_differs 22 = .ok (.iaload, 1) := by decide +kernel
theorem dX2_differs_23 : decode cX2_differs 23 = .ok (.if_icmp .eq 5, 3) := by decide +kernel
theorem dX2_differs_26 : decode cX2_differs 26 = .ok (.iconst 1, 1) := by decide +kernel
theorem dX2_differs_27 : decode cX2_differs 27 = .ok (.ireturn, 1) := by decide +kernel
theorem dX2_differs_28 : decode cX2_differs 28 = .ok (.iinc 1 1, 3) := by decide +kernel
theorem dX2_differs_31 : decode cX2_differs 31 = .ok (.goto (-29), 3) := by decide +kernel
theorem dX2_differs_34 : decode cX2_differs 34 = .ok (.iconst 0, 1) := by decide +kernel
theorem dX2_differs_35 : decode cX2_differs 35 = .ok (.ireturn, 1) := by decide +kernel
theorem dX3_init_0 : decode cX3_init 0 = .ok (.aload_n 0, 1) := by decide +kernel
theorem dX3_init_1 : decode cX3_init 1 = .ok (.invokespecial 5, 3) := by decide +kernel
theorem dX3_init_4 : decode cX3_init 4 = .ok (.aload_n 0, 1) := by decide +kernel
theorem dX3_init_5 : decode cX3_init 5 = .ok (.bipush 32, 2) := by decide +kernel
theorem dX3_init_7 : decode cX3_init 7 = .ok (.newarray .int, 2) := by decide +kernel
theorem dX3_init_9 : decode cX3_init 9 = .ok (.putfield 11, 3) := by decide +kernel
theorem dX3_init_12 : decode cX3_init 12 = .ok (.iconst 0, 1) := by decide +kernel
theorem dX3_init_13 : decode cX3_init 13 = .ok (.istore_n 1, 1) := by decide +kernel
theorem dX3_init_14 : decode cX3_init 14 = .ok (.iload_n 1, 1) := by decide +kernel
theorem dX3_init_15 : decode cX3_init 15 = .ok (.bipush 32, 2) := by decide +kernel
theorem dX3_init_17 : decode cX3_init 17 = .ok (.if_icmp .ge 16, 3) := by decide +kernel
theorem dX3_init_20 : decode cX3_init 20 = .ok (.aload_n 0, 1) := by decide +kernel
theorem dX3_init_21 : decode cX3_init 21 = .ok (.getfield 11, 3) := by decide +kernel
theorem dX3_init_24 : decode cX3_init 24 = .ok (.iload_n 1, 1) := by decide +kernel
theorem dX3_init_25 : decode cX3_init 25 = .ok (.iconst 1, 1) := by decide +kernel
theorem dX3_init_26 : decode cX3_init 26 = .ok (.iastore, 1) := by decide +kernel
theorem dX3_init_27 : decode cX3_init 27 = .ok (.iinc 1 1, 3) := by decide +kernel
theorem dX3_init_30 : decode cX3_init 30 = .ok (.goto (-16), 3) := by decide +kernel
theorem dX3_init_33 : decode cX3_init 33 = .ok (.aload_n 0, 1) := by decide +kernel
theorem dX3_init_34 : decode cX3_init 34 = .ok (.iconst 2, 1) := by decide +kernel
theorem dX3_init_35 : decode cX3_init 35 = .ok (.putfield 15, 3) := by decide +kernel
theorem dX3_init_38 : decode cX3_init 38 = .ok (.aload_n 0, 1) := by decide +kernel
theorem dX3_init_39 : decode cX3_init 39 = .ok (.sipush 800, 3) := by decide +kernel
theorem dX3_init_42 : decode cX3_init 42 = .ok (.putfield 19, 3) := by decide +kernel
theorem dX3_init_45 : decode cX3_init 45 = .ok (.aload_n 0, 1) := by decide +kernel
theorem dX3_init_46 : decode cX3_init 46 = .ok (.bipush 6, 2) := by decide +kernel
theorem dX3_init_48 : decode cX3_init 48 = .ok (.newarray .int, 2) := by decide +kernel
theorem dX3_init_50 : decode cX3_init 50 = .ok (.putfield 22, 3) := by decide +kernel
theorem dX3_init_53 : decode cX3_init 53 = .ok (.aload_n 0, 1) := by decide +kernel
theorem dX3_init_54 : decode cX3_init 54 = .ok (.bipush 42, 2) := by decide +kernel
theorem dX3_init_56 : decode cX3_init 56 = .ok (.newarray .int, 2) := by decide +kernel
theorem dX3_init_58 : decode cX3_init 58 = .ok (.putfield 25, 3) := by decide +kernel
theorem dX3_init_61 : decode cX3_init 61 = .ok (.return_, 1) := by decide +kernel
theorem dX3_copyFrom_0 : decode cX3_copyFrom 0 = .ok (.aload_n 1, 1) := by decide +kernel
theorem dX3_copyFrom_1 : decode cX3_copyFrom 1 = .ok (.getfield 11, 3) := by decide +kernel
theorem dX3_copyFrom_4 : decode cX3_copyFrom 4 = .ok (.iconst 0, 1) := by decide +kernel
theorem dX3_copyFrom_5 : decode cX3_copyFrom 5 = .ok (.aload_n 0, 1) := by decide +kernel
theorem dX3_copyFrom_6 : decode cX3_copyFrom 6 = .ok (.getfield 11, 3) := by decide +kernel
theorem dX3_copyFrom_9 : decode cX3_copyFrom 9 = .ok (.iconst 0, 1) := by decide +kernel
theorem dX3_copyFrom_10 : decode cX3_copyFrom 10 = .ok (.bipush 32, 2) := by decide +kernel
theorem dX3_copyFrom_12 : decode cX3_copyFrom 12 = .ok (.invokestatic 28, 3) := by decide +kernel
theorem dX3_copyFrom_15 : decode cX3_copyFrom 15 = .ok (.aload_n 0, 1) := by decide +kernel
theorem dX3_copyFrom_16 : decode cX3_copyFrom 16 = .ok (.aload_n 1, 1) := by decide +kernel
theorem dX3_copyFrom_17 : decode cX3_copyFrom 17 = .ok (.getfield 15, 3) := by decide +kernel
theorem dX3_copyFrom_20 : decode cX3_copyFrom 20 = .ok (.putfield 15, 3) := by decide +kernel
theorem dX3_copyFrom_23 : decode cX3_copyFrom 23 = .ok (.aload_n 0, 1) := by decide +kernel
theorem dX3_copyFrom_24 : decode cX3_copyFrom 24 = .ok (.aload_n 1, 1) := by decide +kernel
theorem dX3_copyFrom_25 : decode cX3_copyFrom 25 = .ok (.getfield 19, 3) := by decide +kernel
theorem dX3_copyFrom_28 : decode cX3_copyFrom 28 = .ok (.putfield 19, 3) := by decide +kernel
theorem dX3_copyFrom_31 : decode cX3_copyFrom 31 = .ok (.aload_n 1, 1) := by decide +kernel
theorem dX3_copyFrom_32 : decode cX3_copyFrom 32 = .ok (.getfield 22, 3) := by decide +kernel
theorem dX3_copyFrom_35 : decode cX3_copyFrom 35 = .ok (.iconst 0, 1) := by decide +kernel
theorem dX3_copyFrom_36 : decode cX3_copyFrom 36 = .ok (.aload_n 0, 1) := by decide +kernel
theorem dX3_copyFrom_37 : decode cX3_copyFrom 37 = .ok (.getfield 22, 3) := by decide +kernel
theorem dX3_copyFrom_40 : decode cX3_copyFrom 40 = .ok (.iconst 0, 1) := by decide +kernel
theorem dX3_copyFrom_41 : decode cX3_copyFrom 41 = .ok (.bipush 6, 2) := by decide +kernel
theorem dX3_copyFrom_43 : decode cX3_copyFrom 43 = .ok (.invokestatic 28, 3) := by decide +kernel
theorem dX3_copyFrom_46 : decode cX3_copyFrom 46 = .ok (.aload_n 1, 1) := by decide +kernel
theorem dX3_copyFrom_47 : decode cX3_copyFrom 47 = .ok (.getfield 25, 3) := by decide +kernel
theorem dX3_copyFrom_50 : decode cX3_copyFrom 50 = .ok (.iconst 0, 1) := by decide +kernel
theorem dX3_copyFrom_51 : decode cX3_copyFrom 51 = .ok (.aload_n 0, 1) := by decide +kernel
theorem dX3_copyFrom_52 : decode cX3_copyFrom 52 = .ok (.getfield 25, 3) := by decide +kernel
theorem dX3_copyFrom_55 : decode cX3_copyFrom 55 = .ok (.iconst 0, 1) := by decide +kernel
theorem dX3_copyFrom_56 : decode cX3_copyFrom 56 = .ok (.bipush 42, 2) := by decide +kernel
theorem dX3_copyFrom_58 : decode cX3_copyFrom 58 = .ok (.invokestatic 28, 3) := by decide +kernel
theorem dX3_copyFrom_61 : decode cX3_copyFrom 61 = .ok (.aload_n 0, 1) := by decide +kernel
theorem dX3_copyFrom_62 : decode cX3_copyFrom 62 = .ok (.aload_n 1, 1) := by decide +kernel
theorem dX3_copyFrom_63 : decode cX3_copyFrom 63 = .ok (.getfield 34, 3) := by decide +kernel
theorem dX3_copyFrom_66 : decode cX3_copyFrom 66 = .ok (.putfield 34, 3) := by decide +kernel
theorem dX3_copyFrom_69 : decode cX3_copyFrom 69 = .ok (.return_, 1) := by decide +kernel
theorem dX3_hasState_0 : decode cX3_hasState 0 = .ok (.iload_n 1, 1) := by decide +kernel
theorem dX3_hasState_1 : decode cX3_hasState 1 = .ok (.ifCond .lt 15, 3) := by decide +kernel
theorem dX3_hasState_4 : decode cX3_hasState 4 = .ok (.iload_n 1, 1) := by decide +kernel
theorem dX3_hasState_5 : decode cX3_hasState 5 = .ok (.aload_n 0, 1) := by decide +kernel
theorem dX3_hasState_6 : decode cX3_hasState 6 = .ok (.getfield 15, 3) := by decide +kernel
theorem dX3_hasState_9 : decode cX3_hasState 9 = .ok (.if_icmp .ge 7, 3) := by decide +kernel
theorem dX3_hasState_12 : decode cX3_hasState 12 = .ok (.iconst 1, 1) := by decide +kernel
theorem dX3_hasState_13 : decode cX3_hasState 13 = .ok (.goto 4, 3) := by decide +kernel
theorem dX3_hasState_16 : decode cX3_hasState 16 = .ok (.iconst 0, 1) := by decide +kernel
theorem dX3_hasState_17 : decode cX3_hasState 17 = .ok (.ireturn, 1) := by decide +kernel
theorem dX3_hasSample_0 : decode cX3_hasSample 0 = .ok (.iload_n 1, 1) := by decide +kernel
theorem dX3_hasSample_1 : decode cX3_hasSample 1 = .ok (.ifCond .lt 15, 3) := by decide +kernel
theorem dX3_hasSample_4 : decode cX3_hasSample 4 = .ok (.iload_n 1, 1) := by decide +kernel
theorem dX3_hasSample_5 : decode cX3_hasSample 5 = .ok (.aload_n 0, 1) := by decide +kernel
theorem dX3_hasSample_6 : decode cX3_hasSample 6 = .ok (.getfield 34, 3) := by decide +kernel
theorem dX3_hasSample_9 : decode cX3_hasSample 9 = .ok (.if_icmp .ge 7, 3) := by decide +kernel
theorem dX3_hasSample_12 : decode cX3_hasSample 12 = .ok (.iconst 1, 1) := by decide +kernel
theorem dX3_hasSample_13 : decode cX3_hasSample 13 = .ok (.goto 4, 3) := by decide +kernel
theorem dX3_hasSample_16 : decode cX3_hasSample 16 = .ok (.iconst 0, 1) := by decide +kernel
theorem dX3_hasSample_17 : decode cX3_hasSample 17 = .ok (.ireturn, 1) := by decide +kernel
theorem dX3_hasPlace_0 : decode cX3_hasPlace 0 = .ok (.aload_n 0, 1) := by decide +kernel
theorem dX3_hasPlace_1 : decode cX3_hasPlace 1 = .ok (.iload_n 1, 1) := by decide +kernel
theorem dX3_hasPlace_2 : decode cX3_hasPlace 2 = .ok (.invokevirtual 37, 3) := by decide +kernel
theorem dX3_hasPlace_5 : decode cX3_hasPlace 5 = .ok (.ifCond .eq 21, 3) := by decide +kernel
theorem dX3_hasPlace_8 : decode cX3_hasPlace 8 = .ok (.iload_n 2, 1) := by decide +kernel
theorem dX3_hasPlace_9 : decode cX3_hasPlace 9 = .ok (.ifCond .lt 17, 3) := by decide +kernel
theorem dX3_hasPlace_12 : decode cX3_hasPlace 12 = .ok (.iload_n 2, 1) := by decide +kernel
theorem dX3_hasPlace_13 : decode cX3_hasPlace 13 = .ok (.aload_n 0, 1) := by decide +kernel
theorem dX3_hasPlace_14 : decode cX3_hasPlace 14 = .ok (.getfield 22, 3) := by decide +kernel
theorem dX3_hasPlace_17 : decode cX3_hasPlace 17 = .ok (.iload_n 1, 1) := by decide +kernel
theorem dX3_hasPlace_18 : decode cX3_hasPlace 18 = .ok (.iaload, 1) := by decide +kernel
theorem dX3_hasPlace_19 : decode cX3_hasPlace 19 = .ok (.if_icmp .ge 7, 3) := by decide +kernel
theorem dX3_hasPlace_22 : decode cX3_hasPlace 22 = .ok (.iconst 1, 1) := by decide +kernel
theorem dX3_hasPlace_23 : decode cX3_hasPlace 23 = .ok (.goto 4, 3) := by decide +kernel
theorem dX3_hasPlace_26 : decode cX3_hasPlace 26 = .ok (.iconst 0, 1) := by decide +kernel
theorem dX3_hasPlace_27 : decode cX3_hasPlace 27 = .ok (.ireturn, 1) := by decide +kernel
theorem dX3_hasWeight_0 : decode cX3_hasWeight 0 = .ok (.iload_n 1, 1) := by decide +kernel
theorem dX3_hasWeight_1 : decode cX3_hasWeight 1 = .ok (.ifCond .ne 7, 3) := by decide +kernel
theorem dX3_hasWeight_4 : decode cX3_hasWeight 4 = .ok (.iconst 1, 1) := by decide +kernel
theorem dX3_hasWeight_5 : decode cX3_hasWeight 5 = .ok (.goto 8, 3) := by decide +kernel
theorem dX3_hasWeight_8 : decode cX3_hasWeight 8 = .ok (.aload_n 0, 1) := by decide +kernel
theorem dX3_hasWeight_9 : decode cX3_hasWeight 9 = .ok (.iload_n 1, 1) := by decide +kernel
theorem dX3_hasWeight_10 : decode cX3_hasWeight 10 = .ok (.invokevirtual 41, 3) := by decide +kernel
theorem dX3_hasWeight_13 : decode cX3_hasWeight 13 = .ok (.istore 4, 2) := by decide +kernel
theorem dX3_hasWeight_15 : decode cX3_hasWeight 15 = .ok (.aload_n 0, 1) := by decide +kernel
theorem dX3_hasWeight_16 : decode cX3_hasWeight 16 = .ok (.iload_n 2, 1) := by decide +kernel
theorem dX3_hasWeight_17 : decode cX3_hasWeight 17 = .ok (.invokevirtual 45, 3) := by decide +kernel
theorem dX3_hasWeight_20 : decode cX3_hasWeight 20 = .ok (.ifCond .eq 17, 3) := by decide +kernel
theorem dX3_hasWeight_23 : decode cX3_hasWeight 23 = .ok (.iload_n 3, 1) := by decide +kernel
theorem dX3_hasWeight_24 : decode cX3_hasWeight 24 = .ok (.ifCond .lt 13, 3) := by decide +kernel
theorem dX3_hasWeight_27 : decode cX3_hasWeight 27 = .ok (.iload_n 3, 1) := by decide +kernel
theorem dX3_hasWeight_28 : decode cX3_hasWeight 28 = .ok (.iload 4, 2) := by decide +kernel
theorem dX3_hasWeight_30 : decode cX3_hasWeight 30 = .ok (.if_icmp .ge 7, 3) := by decide +kernel
theorem dX3_hasWeight_33 : decode cX3_hasWeight 33 = .ok (.iconst 1, 1) := by decide +kernel
theorem dX3_hasWeight_34 : decode cX3_hasWeight 34 = .ok (.goto 4, 3) := by decide +kernel
theorem dX3_hasWeight_37 : decode cX3_hasWeight 37 = .ok (.iconst 0, 1) := by decide +kernel
theorem dX3_hasWeight_38 : decode cX3_hasWeight 38 = .ok (.ireturn, 1) := by decide +kernel
theorem dX3_cellOf_0 : decode cX3_cellOf 0 = .ok (.iload_n 0, 1) := by decide +kernel
theorem dX3_cellOf_1 : decode cX3_cellOf 1 = .ok (.ifCond .ne 7, 3) := by decide +kernel
theorem dX3_cellOf_4 : decode cX3_cellOf 4 = .ok (.iconst 0, 1) := by decide +kernel
theorem dX3_cellOf_5 : decode cX3_cellOf 5 = .ok (.goto 13, 3) := by decide +kernel
theorem dX3_cellOf_8 : decode cX3_cellOf 8 = .ok (.iload_n 0, 1) := by decide +kernel
theorem dX3_cellOf_9 : decode cX3_cellOf 9 = .ok (.iconst 1, 1) := by decide +kernel
theorem dX3_cellOf_10 : decode cX3_cellOf 10 = .ok (.if_icmp .ne 7, 3) := by decide +kernel
theorem dX3_cellOf_13 : decode cX3_cellOf 13 = .ok (.iconst 1, 1) := by decide +kernel
theorem dX3_cellOf_14 : decode cX3_cellOf 14 = .ok (.goto 4, 3) := by decide +kernel
theorem dX3_cellOf_17 : decode cX3_cellOf 17 = .ok (.iconst 5, 1) := by decide +kernel
theorem dX3_cellOf_18 : decode cX3_cellOf 18 = .ok (.istore_n 3, 1) := by decide +kernel
theorem dX3_cellOf_19 : decode cX3_cellOf 19 = .ok (.iload_n 1, 1) := by decide +kernel
theorem dX3_cellOf_20 : decode cX3_cellOf 20 = .ok (.bipush 8, 2) := by decide +kernel
theorem dX3_cellOf_22 : decode cX3_cellOf 22 = .ok (.imul, 1) := by decide +kernel
theorem dX3_cellOf_23 : decode cX3_cellOf 23 = .ok (.iload_n 3, 1) := by decide +kernel
theorem dX3_cellOf_24 : decode cX3_cellOf 24 = .ok (.iadd, 1) := by decide +kernel
theorem dX3_cellOf_25 : decode cX3_cellOf 25 = .ok (.iload_n 2, 1) := by decide +kernel
theorem dX3_cellOf_26 : decode cX3_cellOf 26 = .ok (.iadd, 1) := by decide +kernel
theorem dX3_cellOf_27 : decode cX3_cellOf 27 = .ok (.ireturn, 1) := by decide +kernel
theorem dX3_familySize_0 : decode cX3_familySize 0 = .ok (.iload_n 1, 1) := by decide +kernel
theorem dX3_familySize_1 : decode cX3_familySize 1 = .ok (.iconst 2, 1) := by decide +kernel
theorem dX3_familySize_2 : decode cX3_familySize 2 = .ok (.if_icmp .ne 7, 3) := by decide +kernel
theorem dX3_familySize_5 : decode cX3_familySize 5 = .ok (.iconst 3, 1) := by decide +kernel
theorem dX3_familySize_6 : decode cX3_familySize 6 = .ok (.goto 7, 3) := by decide +kernel
theorem dX3_familySize_9 : decode cX3_familySize 9 = .ok (.aload_n 0, 1) := by decide +kernel
theorem dX3_familySize_10 : decode cX3_familySize 10 = .ok (.getfield 15, 3) := by decide +kernel
theorem dX3_familySize_13 : decode cX3_familySize 13 = .ok (.ireturn, 1) := by decide +kernel
theorem dX3_memberCell_0 : decode cX3_memberCell 0 = .ok (.iload_n 0, 1) := by decide +kernel
theorem dX3_memberCell_1 : decode cX3_memberCell 1 = .ok (.ifCond .ne 12, 3) := by decide +kernel
theorem dX3_memberCell_4 : decode cX3_memberCell 4 = .ok (.iload_n 0, 1) := by decide +kernel
theorem dX3_memberCell_5 : decode cX3_memberCell 5 = .ok (.iload_n 2, 1) := by decide +kernel
theorem dX3_memberCell_6 : decode cX3_memberCell 6 = .ok (.iconst 0, 1) := by decide +kernel
theorem dX3_memberCell_7 : decode cX3_memberCell 7 = .ok (.invokestatic 48, 3) := by decide +kernel
theorem dX3_memberCell_10 : decode cX3_memberCell 10 = .ok (.goto 9, 3) := by decide +kernel
theorem dX3_memberCell_13 : decode cX3_memberCell 13 = .ok (.iload_n 0, 1) := by decide +kernel
theorem dX3_memberCell_14 : decode cX3_memberCell 14 = .ok (.iload_n 1, 1) := by decide +kernel
theorem dX3_memberCell_15 : decode cX3_memberCell 15 = .ok (.iload_n 2, 1) := by decide +kernel
theorem dX3_memberCell_16 : decode cX3_memberCell 16 = .ok (.invokestatic 48, 3) := by decide +kernel
theorem dX3_memberCell_19 : decode cX3_memberCell 19 = .ok (.ireturn, 1) := by decide +kernel
theorem dX3_begin_0 : decode cX3_begin 0 = .ok (.aload_n 0, 1) := by decide +kernel
theorem dX3_begin_1 : decode cX3_begin 1 = .ok (.getfield 11, 3) := by decide +kernel
theorem dX3_begin_4 : decode cX3_begin 4 = .ok (.iload_n 1, 1) := by decide +kernel
theorem dX3_begin_5 : decode cX3_begin 5 = .ok (.bipush 8, 2) := by decide +kernel
theorem dX3_begin_7 : decode cX3_begin 7 = .ok (.imul, 1) := by decide +kernel
theorem dX3_begin_8 : decode cX3_begin 8 = .ok (.iaload, 1) := by decide +kernel
theorem dX3_begin_9 : decode cX3_begin 9 = .ok (.ireturn, 1) := by decide +kernel
theorem dX3_go_0 : decode cX3_go 0 = .ok (.aload_n 0, 1) := by decide +kernel
theorem dX3_go_1 : decode cX3_go 1 = .ok (.getfield 11, 3) := by decide +kernel
theorem dX3_go_4 : decode cX3_go 4 = .ok (.iload_n 1, 1) := by decide +kernel
theorem dX3_go_5 : decode cX3_go 5 = .ok (.bipush 8, 2) := by decide +kernel
theorem dX3_go_7 : decode cX3_go 7 = .ok (.imul, 1) := by decide +kernel
theorem dX3_go_8 : decode cX3_go 8 = .ok (.iconst 1, 1) := by decide +kernel
theorem dX3_go_9 : decode cX3_go 9 = .ok (.iadd, 1) := by decide +kernel
theorem dX3_go_10 : decode cX3_go 10 = .ok (.iload_n 2, 1) := by decide +kernel
theorem dX3_go_11 : decode cX3_go 11 = .ok (.iadd, 1) := by decide +kernel
theorem dX3_go_12 : decode cX3_go 12 = .ok (.iaload, 1) := by decide +kernel
theorem dX3_go_13 : decode cX3_go 13 = .ok (.ireturn, 1) := by decide +kernel
theorem dX3_show_0 : decode cX3_show 0 = .ok (.aload_n 0, 1) := by decide +kernel
theorem dX3_show_1 : decode cX3_show 1 = .ok (.getfield 11, 3) := by decide +kernel
theorem dX3_show_4 : decode cX3_show 4 = .ok (.iload_n 1, 1) := by decide +kernel
theorem dX3_show_5 : decode cX3_show 5 = .ok (.bipush 8, 2) := by decide +kernel
theorem dX3_show_7 : decode cX3_show 7 = .ok (.imul, 1) := by decide +kernel
theorem dX3_show_8 : decode cX3_show 8 = .ok (.iconst 5, 1) := by decide +kernel
theorem dX3_show_9 : decode cX3_show 9 = .ok (.iadd, 1) := by decide +kernel
theorem dX3_show_10 : decode cX3_show 10 = .ok (.iload_n 2, 1) := by decide +kernel
theorem dX3_show_11 : decode cX3_show 11 = .ok (.iadd, 1) := by decide +kernel
theorem dX3_show_12 : decode cX3_show 12 = .ok (.iaload, 1) := by decide +kernel
theorem dX3_show_13 : decode cX3_show 13 = .ok (.ireturn, 1) := by decide +kernel
theorem dX3_signAt_0 : decode cX3_signAt 0 = .ok (.aload_n 0, 1) := by decide +kernel
theorem dX3_signAt_1 : decode cX3_signAt 1 = .ok (.getfield 25, 3) := by decide +kernel
theorem dX3_signAt_4 : decode cX3_signAt 4 = .ok (.iload_n 1, 1) := by decide +kernel
theorem dX3_signAt_5 : decode cX3_signAt 5 = .ok (.bipush 7, 2) := by decide +kernel
theorem dX3_signAt_7 : decode cX3_signAt 7 = .ok (.imul, 1) := by decide +kernel
theorem dX3_signAt_8 : decode cX3_signAt 8 = .ok (.iload_n 2, 1) := by decide +kernel
theorem dX3_signAt_9 : decode cX3_signAt 9 = .ok (.iadd, 1) := by decide +kernel
theorem dX3_signAt_10 : decode cX3_signAt 10 = .ok (.iaload, 1) := by decide +kernel
theorem dX3_signAt_11 : decode cX3_signAt 11 = .ok (.ireturn, 1) := by decide +kernel
theorem dX3_showAt_0 : decode cX3_showAt 0 = .ok (.aload_n 0, 1) := by decide +kernel
theorem dX3_showAt_1 : decode cX3_showAt 1 = .ok (.iload_n 1, 1) := by decide +kernel
theorem dX3_showAt_2 : decode cX3_showAt 2 = .ok (.aload_n 0, 1) := by decide +kernel
theorem dX3_showAt_3 : decode cX3_showAt 3 = .ok (.iload_n 2, 1) := by decide +kernel
theorem dX3_showAt_4 : decode cX3_showAt 4 = .ok (.iload_n 3, 1) := by decide +kernel
theorem dX3_showAt_5 : decode cX3_showAt 5 = .ok (.invokevirtual 52, 3) := by decide +kernel
theorem dX3_showAt_8 : decode cX3_showAt 8 = .ok (.invokevirtual 56, 3) := by decide +kernel
theorem dX3_showAt_11 : decode cX3_showAt 11 = .ok (.ireturn, 1) := by decide +kernel
theorem dX3_allSigns_0 : decode cX3_allSigns 0 = .ok (.iconst 0, 1) := by decide +kernel
theorem dX3_allSigns_1 : decode cX3_allSigns 1 = .ok (.istore_n 1, 1) := by decide +kernel
theorem dX3_allSigns_2 : decode cX3_allSigns 2 = .ok (.iconst 0, 1) := by decide +kernel
theorem dX3_allSigns_3 : decode cX3_allSigns 3 = .ok (.istore_n 2, 1) := by decide +kernel
theorem dX3_allSigns_4 : decode cX3_allSigns 4 = .ok (.iload_n 2, 1) := by decide +kernel
theorem dX3_allSigns_5 : decode cX3_allSigns 5 = .ok (.aload_n 0, 1) := by decide +kernel
theorem dX3_allSigns_6 : decode cX3_allSigns 6 = .ok (.getfield 34, 3) := by decide +kernel
theorem dX3_allSigns_9 : decode cX3_allSigns 9 = .ok (.if_icmp .ge 18, 3) := by decide +kernel
theorem dX3_allSigns_12 : decode cX3_allSigns 12 = .ok (.iload_n 1, 1) := by decide +kernel
theorem dX3_allSigns_13 : decode cX3_allSigns 13 = .ok (.aload_n 0, 1) := by decide +kernel
theorem dX3_allSigns_14 : decode cX3_allSigns 14 = .ok (.getfield 22, 3) := by decide +kernel
theorem dX3_allSigns_17 : decode cX3_allSigns 17 = .ok (.iload_n 2, 1) := by decide +kernel
theorem dX3_allSigns_18 : decode cX3_allSigns 18 = .ok (.iaload, 1) := by decide +kernel
theorem dX3_allSigns_19 : decode cX3_allSigns 19 = .ok (.iadd, 1) := by decide +kernel
theorem dX3_allSigns_20 : decode cX3_allSigns 20 = .ok (.istore_n 1, 1) := by decide +kernel
theorem dX3_allSigns_21 : decode cX3_allSigns 21 = .ok (.iinc 2 1, 3) := by decide +kernel
theorem dX3_allSigns_24 : decode cX3_allSigns 24 = .ok (.goto (-20), 3) := by decide +kernel
theorem dX3_allSigns_27 : decode cX3_allSigns 27 = .ok (.iload_n 1, 1) := by decide +kernel
theorem dX3_allSigns_28 : decode cX3_allSigns 28 = .ok (.ireturn, 1) := by decide +kernel
theorem dX3_oddsOf_0 : decode cX3_oddsOf 0 = .ok (.aload_n 0, 1) := by decide +kernel
theorem dX3_oddsOf_1 : decode cX3_oddsOf 1 = .ok (.iload_n 1, 1) := by decide +kernel
theorem dX3_oddsOf_2 : decode cX3_oddsOf 2 = .ok (.invokevirtual 41, 3) := by decide +kernel
theorem dX3_oddsOf_5 : decode cX3_oddsOf 5 = .ok (.istore 4, 2) := by decide +kernel
theorem dX3_oddsOf_7 : decode cX3_oddsOf 7 = .ok (.iconst 0, 1) := by decide +kernel
theorem dX3_oddsOf_8 : decode cX3_oddsOf 8 = .ok (.istore 5, 2) := by decide +kernel
theorem dX3_oddsOf_10 : decode cX3_oddsOf 10 = .ok (.iconst 0, 1) := by decide +kernel
theorem dX3_oddsOf_11 : decode cX3_oddsOf 11 = .ok (.istore 6, 2) := by decide +kernel
theorem dX3_oddsOf_13 : decode cX3_oddsOf 13 = .ok (.iload 6, 2) := by decide +kernel
theorem dX3_oddsOf_15 : decode cX3_oddsOf 15 = .ok (.iload 4, 2) := by decide +kernel
theorem dX3_oddsOf_17 : decode cX3_oddsOf 17 = .ok (.if_icmp .ge 26, 3) := by decide +kernel
theorem dX3_oddsOf_20 : decode cX3_oddsOf 20 = .ok (.iload 5, 2) := by decide +kernel
theorem dX3_oddsOf_22 : decode cX3_oddsOf 22 = .ok (.aload_n 0, 1) := by decide +kernel
theorem dX3_oddsOf_23 : decode cX3_oddsOf 23 = .ok (.getfield 11, 3) := by decide +kernel
theorem dX3_oddsOf_26 : decode cX3_oddsOf 26 = .ok (.iload_n 1, 1) := by decide +kernel
theorem dX3_oddsOf_27 : decode cX3_oddsOf 27 = .ok (.iload_n 2, 1) := by decide +kernel
theorem dX3_oddsOf_28 : decode cX3_oddsOf 28 = .ok (.iload 6, 2) := by decide +kernel
theorem dX3_oddsOf_30 : decode cX3_oddsOf 30 = .ok (.invokestatic 59, 3) := by decide +kernel
theorem dX3_oddsOf_33 : decode cX3_oddsOf 33 = .ok (.iaload, 1) := by decide +kernel
theorem dX3_oddsOf_34 : decode cX3_oddsOf 34 = .ok (.iadd, 1) := by decide +kernel
theorem dX3_oddsOf_35 : decode cX3_oddsOf 35 = .ok (.istore 5, 2) := by decide +kernel
theorem dX3_oddsOf_37 : decode cX3_oddsOf 37 = .ok (.iinc 6 1, 3) := by decide +kernel
theorem dX3_oddsOf_40 : decode cX3_oddsOf 40 = .ok (.goto (-27), 3) := by decide +kernel
theorem dX3_oddsOf_43 : decode cX3_oddsOf 43 = .ok (.iload 5, 2) := by decide +kernel
theorem dX3_oddsOf_45 : decode cX3_oddsOf 45 = .ok (.ifCond .gt 5, 3) := by decide +kernel
theorem dX3_oddsOf_48 : decode cX3_oddsOf 48 = .ok (.iconst 0, 1) := by decide +kernel
theorem dX3_oddsOf_49 : decode cX3_oddsOf 49 = .ok (.ireturn, 1) := by decide +kernel
theorem dX3_oddsOf_50 : decode cX3_oddsOf 50 = .ok (.iload_n 1, 1) := by decide +kernel
theorem dX3_oddsOf_51 : decode cX3_oddsOf 51 = .ok (.ifCond .ne 7, 3) := by decide +kernel
theorem dX3_oddsOf_54 : decode cX3_oddsOf 54 = .ok (.iload_n 2, 1) := by decide +kernel
theorem dX3_oddsOf_55 : decode cX3_oddsOf 55 = .ok (.goto 4, 3) := by decide +kernel
theorem dX3_oddsOf_58 : decode cX3_oddsOf 58 = .ok (.iload_n 3, 1) := by decide +kernel
theorem dX3_oddsOf_59 : decode cX3_oddsOf 59 = .ok (.istore 6, 2) := by decide +kernel
theorem dX3_oddsOf_61 : decode cX3_oddsOf 61 = .ok (.sipush 1000, 3) := by decide +kernel
theorem dX3_oddsOf_64 : decode cX3_oddsOf 64 = .ok (.aload_n 0, 1) := by decide +kernel
theorem dX3_oddsOf_65 : decode cX3_oddsOf 65 = .ok (.getfield 11, 3) := by decide +kernel
theorem dX3_oddsOf_68 : decode cX3_oddsOf 68 = .ok (.iload_n 1, 1) := by decide +kernel
theorem dX3_oddsOf_69 : decode cX3_oddsOf 69 = .ok (.iload_n 2, 1) := by decide +kernel
theorem dX3_oddsOf_70 : decode cX3_oddsOf 70 = .ok (.iload 6, 2) := by decide +kernel
theorem dX3_oddsOf_72 : decode cX3_oddsOf 72 = .ok (.invokestatic 59, 3) := by decide +kernel
theorem dX3_oddsOf_75 : decode cX3_oddsOf 75 = .ok (.iaload, 1) := by decide +kernel
theorem dX3_oddsOf_76 : decode cX3_oddsOf 76 = .ok (.imul, 1) := by decide +kernel
theorem dX3_oddsOf_77 : decode cX3_oddsOf 77 = .ok (.istore 7, 2) := by decide +kernel
theorem dX3_oddsOf_79 : decode cX3_oddsOf 79 = .ok (.sipush 1000, 3) := by decide +kernel
theorem dX3_oddsOf_82 : decode cX3_oddsOf 82 = .ok (.istore 8, 2) := by decide +kernel
theorem dX3_oddsOf_84 : decode cX3_oddsOf 84 = .ok (.iconst 0, 1) := by decide +kernel
theorem dX3_oddsOf_85 : decode cX3_oddsOf 85 = .ok (.istore 9, 2) := by decide +kernel
theorem dX3_oddsOf_87 : decode cX3_oddsOf 87 = .ok (.iconst 0, 1) := by decide +kernel
theorem dX3_oddsOf_88 : decode cX3_oddsOf 88 = .ok (.istore 10, 2) := by decide +kernel
theorem dX3_oddsOf_90 : decode cX3_oddsOf 90 = .ok (.iload 10, 2) := by decide +kernel
theorem dX3_oddsOf_92 : decode cX3_oddsOf 92 = .ok (.iload 4, 2) := by decide +kernel
theorem dX3_oddsOf_94 : decode cX3_oddsOf 94 = .ok (.if_icmp .ge 73, 3) := by decide +kernel
theorem dX3_oddsOf_97 : decode cX3_oddsOf 97 = .ok (.sipush 1000, 3) := by decide +kernel
theorem dX3_oddsOf_100 : decode cX3_oddsOf 100 = .ok (.aload_n 0, 1) := by decide +kernel
theorem dX3_oddsOf_101 : decode cX3_oddsOf 101 = .ok (.getfield 11, 3) := by decide +kernel
theorem dX3_oddsOf_104 : decode cX3_oddsOf 104 = .ok (.iload_n 1, 1) := by decide +kernel
theorem dX3_oddsOf_105 : decode cX3_oddsOf 105 = .ok (.iload_n 2, 1) := by decide +kernel
theorem dX3_oddsOf_106 : decode cX3_oddsOf 106 = .ok (.iload 10, 2) := by decide +kernel
theorem dX3_oddsOf_108 : decode cX3_oddsOf 108 = .ok (.invokestatic 59, 3) := by decide +kernel
theorem dX3_oddsOf_111 : decode cX3_oddsOf 111 = .ok (.iaload, 1) := by decide +kernel
theorem dX3_oddsOf_112 : decode cX3_oddsOf 112 = .ok (.imul, 1) := by decide +kernel
theorem dX3_oddsOf_113 : decode cX3_oddsOf 113 = .ok (.istore 11, 2) := by decide +kernel
theorem dX3_oddsOf_115 : decode cX3_oddsOf 115 = .ok (.iload 8, 2) := by decide +kernel
theorem dX3_oddsOf_117 : decode cX3_oddsOf 117 = .ok (.iload 11, 2) := by decide +kernel
theorem dX3_oddsOf_119 : decode cX3_oddsOf 119 = .ok (.iload 5, 2) := by decide +kernel
theorem dX3_oddsOf_121 : decode cX3_oddsOf 121 = .ok (.idiv, 1) := by decide +kernel
theorem dX3_oddsOf_122 : decode cX3_oddsOf 122 = .ok (.isub, 1) := by decide +kernel
theorem dX3_oddsOf_123 : decode cX3_oddsOf 123 = .ok (.istore 8, 2) := by decide +kernel
theorem dX3_oddsOf_125 : decode cX3_oddsOf 125 = .ok (.iload 11, 2) := by decide +kernel
theorem dX3_oddsOf_127 : decode cX3_oddsOf 127 = .ok (.iload 5, 2) := by decide +kernel
theorem dX3_oddsOf_129 : decode cX3_oddsOf 129 = .ok (.irem, 1) := by decide +kernel
theorem dX3_oddsOf_130 : decode cX3_oddsOf 130 = .ok (.iload 7, 2) := by decide +kernel
theorem dX3_oddsOf_132 : decode cX3_oddsOf 132 = .ok (.iload 5, 2) := by decide +kernel
theorem dX3_oddsOf_134 : decode cX3_oddsOf 134 = .ok (.irem, 1) := by decide +kernel
theorem dX3_oddsOf_135 : decode cX3_oddsOf 135 = .ok (.if_icmp .gt 23, 3) := by decide +kernel
theorem dX3_oddsOf_138 : decode cX3_oddsOf 138 = .ok (.iload 11, 2) := by decide +kernel
theorem dX3_oddsOf_140 : decode cX3_oddsOf 140 = .ok (.iload 5, 2) := by decide +kernel
theorem dX3_oddsOf_142 : decode cX3_oddsOf 142 = .ok (.irem, 1) := by decide +kernel
theorem dX3_oddsOf_143 : decode cX3_oddsOf 143 = .ok (.iload 7, 2) := by decide +kernel
theorem dX3_oddsOf_145 : decode cX3_oddsOf 145 = .ok (.iload 5, 2) := by decide +kernel
theorem dX3_oddsOf_147 : decode cX3_oddsOf 147 = .ok (.irem, 1) := by decide +kernel
theorem dX3_oddsOf_148 : decode cX3_oddsOf 148 = .ok (.if_icmp .ne 13, 3) := by decide +kernel
theorem dX3_oddsOf_151 : decode cX3_oddsOf 151 = .ok (.iload 10, 2) := by decide +kernel
theorem dX3_oddsOf_153 : decode cX3_oddsOf 153 = .ok (.iload 6, 2) := by decide +kernel
theorem dX3_oddsOf_155 : decode cX3_oddsOf 155 = .ok (.if_icmp .ge 6, 3) := by decide +kernel
theorem dX3_oddsOf_158 : decode cX3_oddsOf 158 = .ok (.iinc 9 1, 3) := by decide +kernel
theorem dX3_oddsOf_161 : decode cX3_oddsOf 161 = .ok (.iinc 10 1, 3) := by decide +kernel
theorem dX3_oddsOf_164 : decode cX3_oddsOf 164 = .ok (.goto (-74), 3) := by decide +kernel
theorem dX3_oddsOf_167 : decode cX3_oddsOf 167 = .ok (.iload 7, 2) := by decide +kernel
theorem dX3_oddsOf_169 : decode cX3_oddsOf 169 = .ok (.iload 5, 2) := by decide +kernel
theorem dX3_oddsOf_171 : decode cX3_oddsOf 171 = .ok (.idiv, 1) := by decide +kernel
theorem dX3_oddsOf_172 : decode cX3_oddsOf 172 = .ok (.iload 9, 2) := by decide +kernel
theorem dX3_oddsOf_174 : decode cX3_oddsOf 174 = .ok (.iload 8, 2) := by decide +kernel
theorem dX3_oddsOf_176 : decode cX3_oddsOf 176 = .ok (.if_icmp .ge 7, 3) := by decide +kernel
theorem dX3_oddsOf_179 : decode cX3_oddsOf 179 = .ok (.iconst 1, 1) := by decide +kernel
theorem dX3_oddsOf_180 : decode cX3_oddsOf 180 = .ok (.goto 4, 3) := by decide +kernel
theorem dX3_oddsOf_183 : decode cX3_oddsOf 183 = .ok (.iconst 0, 1) := by decide +kernel
theorem dX3_oddsOf_184 : decode cX3_oddsOf 184 = .ok (.iadd, 1) := by decide +kernel
theorem dX3_oddsOf_185 : decode cX3_oddsOf 185 = .ok (.ireturn, 1) := by decide +kernel
theorem dX3_appendState_0 : decode cX3_appendState 0 = .ok (.aload_n 0, 1) := by decide +kernel
theorem dX3_appendState_1 : decode cX3_appendState 1 = .ok (.getfield 15, 3) := by decide +kernel
theorem dX3_appendState_4 : decode cX3_appendState 4 = .ok (.istore_n 1, 1) := by decide +kernel
theorem dX3_appendState_5 : decode cX3_appendState 5 = .ok (.aload_n 0, 1) := by decide +kernel
theorem dX3_appendState_6 : decode cX3_appendState 6 = .ok (.dup, 1) := by decide +kernel
theorem dX3_appendState_7 : decode cX3_appendState 7 = .ok (.getfield 15, 3) := by decide +kernel
theorem dX3_appendState_10 : decode cX3_appendState 10 = .ok (.iconst 1, 1) := by decide +kernel
theorem dX3_appendState_11 : decode cX3_appendState 11 = .ok (.iadd, 1) := by decide +kernel
theorem dX3_appendState_12 : decode cX3_appendState 12 = .ok (.putfield 15, 3) := by decide +kernel
theorem dX3_appendState_15 : decode cX3_appendState 15 = .ok (.iload_n 1, 1) := by decide +kernel
theorem dX3_appendState_16 : decode cX3_appendState 16 = .ok (.bipush 8, 2) := by decide +kernel
theorem dX3_appendState_18 : decode cX3_appendState 18 = .ok (.imul, 1) := by decide +kernel
theorem dX3_appendState_19 : decode cX3_appendState 19 = .ok (.istore_n 2, 1) := by decide +kernel
theorem dX3_appendState_20 : decode cX3_appendState 20 = .ok (.iload_n 2, 1) := by decide +kernel
theorem dX3_appendState_21 : decode cX3_appendState 21 = .ok (.iload_n 1, 1) := by decide +kernel
theorem dX3_appendState_22 : decode cX3_appendState 22 = .ok (.iconst 1, 1) := by decide +kernel
theorem dX3_appendState_23 : decode cX3_appendState 23 = .ok (.iadd, 1) := by decide +kernel
theorem dX3_appendState_24 : decode cX3_appendState 24 = .ok (.bipush 8, 2) := by decide +kernel
theorem dX3_appendState_26 : decode cX3_appendState 26 = .ok (.imul, 1) := by decide +kernel
theorem dX3_appendState_27 : decode cX3_appendState 27 = .ok (.if_icmp .ge 16, 3) := by decide +kernel
theorem dX3_appendState_30 : decode cX3_appendState 30 = .ok (.aload_n 0, 1) := by decide +kernel
theorem dX3_appendState_31 : decode cX3_appendState 31 = .ok (.getfield 11, 3) := by decide +kernel
theorem dX3_appendState_34 : decode cX3_appendState 34 = .ok (.iload_n 2, 1) := by decide +kernel
theorem dX3_appendState_35 : decode cX3_appendState 35 = .ok (.iconst 1, 1) := by decide +kernel
theorem dX3_appendState_36 : decode cX3_appendState 36 = .ok (.iastore, 1) := by decide +kernel
theorem dX3_appendState_37 : decode cX3_appendState 37 = .ok (.iinc 2 1, 3) := by decide +kernel
theorem dX3_appendState_40 : decode cX3_appendState 40 = .ok (.goto (-20), 3) := by decide +kernel
theorem dX3_appendState_43 : decode cX3_appendState 43 = .ok (.iconst 0, 1) := by decide +kernel
theorem dX3_appendState_44 : decode cX3_appendState 44 = .ok (.istore_n 2, 1) := by decide +kernel
theorem dX3_appendState_45 : decode cX3_appendState 45 = .ok (.iload_n 2, 1) := by decide +kernel
theorem dX3_appendState_46 : decode cX3_appendState 46 = .ok (.iload_n 1, 1) := by decide +kernel
theorem dX3_appendState_47 : decode cX3_appendState 47 = .ok (.if_icmp .ge 21, 3) := by decide +kernel
theorem dX3_appendState_50 : decode cX3_appendState 50 = .ok (.aload_n 0, 1) := by decide +kernel
theorem dX3_appendState_51 : decode cX3_appendState 51 = .ok (.getfield 11, 3) := by decide +kernel
theorem dX3_appendState_54 : decode cX3_appendState 54 = .ok (.iconst 1, 1) := by decide +kernel
theorem dX3_appendState_55 : decode cX3_appendState 55 = .ok (.iload_n 2, 1) := by decide +kernel
theorem dX3_appendState_56 : decode cX3_appendState 56 = .ok (.iload_n 1, 1) := by decide +kernel
theorem dX3_appendState_57 : decode cX3_appendState 57 = .ok (.invokestatic 48, 3) := by decide +kernel
theorem dX3_appendState_60 : decode cX3_appendState 60 = .ok (.iconst 1, 1) := by decide +kernel
theorem dX3_appendState_61 : decode cX3_appendState 61 = .ok (.iastore, 1) := by decide +kernel
theorem dX3_appendState_62 : decode cX3_appendState 62 = .ok (.iinc 2 1, 3) := by decide +kernel
theorem dX3_appendState_65 : decode cX3_appendState 65 = .ok (.goto (-20), 3) := by decide +kernel
theorem dX3_appendState_68 : decode cX3_appendState 68 = .ok (.return_, 1) := by decide +kernel
theorem dX3_appendTwin_0 : decode cX3_appendTwin 0 = .ok (.aload_n 0, 1) := by decide +kernel
theorem dX3_appendTwin_1 : decode cX3_appendTwin 1 = .ok (.getfield 15, 3) := by decide +kernel
theorem dX3_appendTwin_4 : decode cX3_appendTwin 4 = .ok (.istore_n 2, 1) := by decide +kernel
theorem dX3_appendTwin_5 : decode cX3_appendTwin 5 = .ok (.aload_n 0, 1) := by decide +kernel
theorem dX3_appendTwin_6 : decode cX3_appendTwin 6 = .ok (.dup, 1) := by decide +kernel
theorem dX3_appendTwin_7 : decode cX3_appendTwin 7 = .ok (.getfield 15, 3) := by decide +kernel
theorem dX3_appendTwin_10 : decode cX3_appendTwin 10 = .ok (.iconst 1, 1) := by decide +kernel
theorem dX3_appendTwin_11 : decode cX3_appendTwin 11 = .ok (.iadd, 1) := by decide +kernel
theorem dX3_appendTwin_12 : decode cX3_appendTwin 12 = .ok (.putfield 15, 3) := by decide +kernel
theorem dX3_appendTwin_15 : decode cX3_appendTwin 15 = .ok (.aload_n 0, 1) := by decide +kernel
theorem dX3_appendTwin_16 : decode cX3_appendTwin 16 = .ok (.getfield 11, 3) := by decide +kernel
theorem dX3_appendTwin_19 : decode cX3_appendTwin 19 = .ok (.iload_n 1, 1) := by decide +kernel
theorem dX3_appendTwin_20 : decode cX3_appendTwin 20 = .ok (.bipush 8, 2) := by decide +kernel
theorem dX3_appendTwin_22 : decode cX3_appendTwin 22 = .ok (.imul, 1) := by decide +kernel
theorem dX3_appendTwin_23 : decode cX3_appendTwin 23 = .ok (.aload_n 0, 1) := by decide +kernel
theorem dX3_appendTwin_24 : decode cX3_appendTwin 24 = .ok (.getfield 11, 3) := by decide +kernel
theorem dX3_appendTwin_27 : decode cX3_appendTwin 27 = .ok (.iload_n 2, 1) := by decide +kernel
theorem dX3_appendTwin_28 : decode cX3_appendTwin 28 = .ok (.bipush 8, 2) := by decide +kernel
theorem dX3_appendTwin_30 : decode cX3_appendTwin 30 = .ok (.imul, 1) := by decide +kernel
theorem dX3_appendTwin_31 : decode cX3_appendTwin 31 = .ok (.bipush 8, 2) := by decide +kernel
theorem dX3_appendTwin_33 : decode cX3_appendTwin 33 = .ok (.invokestatic 28, 3) := by decide +kernel
theorem dX3_appendTwin_36 : decode cX3_appendTwin 36 = .ok (.iconst 0, 1) := by decide +kernel
theorem dX3_appendTwin_37 : decode cX3_appendTwin 37 = .ok (.istore_n 3, 1) := by decide +kernel
theorem dX3_appendTwin_38 : decode cX3_appendTwin 38 = .ok (.iload_n 3, 1) := by decide +kernel
theorem dX3_appendTwin_39 : decode cX3_appendTwin 39 = .ok (.aload_n 0, 1) := by decide +kernel
theorem dX3_appendTwin_40 : decode cX3_appendTwin 40 = .ok (.getfield 15, 3) := by decide +kernel
theorem dX3_appendTwin_43 : decode cX3_appendTwin 43 = .ok (.if_icmp .ge 26, 3) := by decide +kernel
theorem dX3_appendTwin_46 : decode cX3_appendTwin 46 = .ok (.aload_n 0, 1) := by decide +kernel
theorem dX3_appendTwin_47 : decode cX3_appendTwin 47 = .ok (.getfield 11, 3) := by decide +kernel
theorem dX3_appendTwin_50 : decode cX3_appendTwin 50 = .ok (.iconst 1, 1) := by decide +kernel
theorem dX3_appendTwin_51 : decode cX3_appendTwin 51 = .ok (.iload_n 3, 1) := by decide +kernel
theorem dX3_appendTwin_52 : decode cX3_appendTwin 52 = .ok (.iload_n 2, 1) := by decide +kernel
theorem dX3_appendTwin_53 : decode cX3_appendTwin 53 = .ok (.invokestatic 48, 3) := by decide +kernel
theorem dX3_appendTwin_56 : decode cX3_appendTwin 56 = .ok (.aload_n 0, 1) := by decide +kernel
theorem dX3_appendTwin_57 : decode cX3_appendTwin 57 = .ok (.iload_n 3, 1) := by decide +kernel
theorem dX3_appendTwin_58 : decode cX3_appendTwin 58 = .ok (.iload_n 1, 1) := by decide +kernel
theorem dX3_appendTwin_59 : decode cX3_appendTwin 59 = .ok (.invokevirtual 62, 3) := by decide +kernel
theorem dX3_appendTwin_62 : decode cX3_appendTwin 62 = .ok (.iastore, 1) := by decide +kernel
theorem dX3_appendTwin_63 : decode cX3_appendTwin 63 = .ok (.iinc 3 1, 3) := by decide +kernel
theorem dX3_appendTwin_66 : decode cX3_appendTwin 66 = .ok (.goto (-28), 3) := by decide +kernel
theorem dX3_appendTwin_69 : decode cX3_appendTwin 69 = .ok (.return_, 1) := by decide +kernel
theorem dX3_merge_0 : decode cX3_merge 0 = .ok (.aload_n 0, 1) := by decide +kernel
theorem dX3_merge_1 : decode cX3_merge 1 = .ok (.iload_n 1, 1) := by decide +kernel
theorem dX3_merge_2 : decode cX3_merge 2 = .ok (.iload_n 1, 1) := by decide +kernel
theorem dX3_merge_3 : decode cX3_merge 3 = .ok (.invokevirtual 62, 3) := by decide +kernel
theorem dX3_merge_6 : decode cX3_merge 6 = .ok (.aload_n 0, 1) := by decide +kernel
theorem dX3_merge_7 : decode cX3_merge 7 = .ok (.iload_n 1, 1) := by decide +kernel
theorem dX3_merge_8 : decode cX3_merge 8 = .ok (.iload_n 2, 1) := by decide +kernel
theorem dX3_merge_9 : decode cX3_merge 9 = .ok (.invokevirtual 62, 3) := by decide +kernel
theorem dX3_merge_12 : decode cX3_merge 12 = .ok (.iadd, 1) := by decide +kernel
theorem dX3_merge_13 : decode cX3_merge 13 = .ok (.aload_n 0, 1) := by decide +kernel
theorem dX3_merge_14 : decode cX3_merge 14 = .ok (.iload_n 2, 1) := by decide +kernel
theorem dX3_merge_15 : decode cX3_merge 15 = .ok (.iload_n 1, 1) := by decide +kernel
theorem dX3_merge_16 : decode cX3_merge 16 = .ok (.invokevirtual 62, 3) := by decide +kernel
theorem dX3_merge_19 : decode cX3_merge 19 = .ok (.iadd, 1) := by decide +kernel
theorem dX3_merge_20 : decode cX3_merge 20 = .ok (.aload_n 0, 1) := by decide +kernel
theorem dX3_merge_21 : decode cX3_merge 21 = .ok (.iload_n 2, 1) := by decide +kernel
theorem dX3_merge_22 : decode cX3_merge 22 = .ok (.iload_n 2, 1) := by decide +kernel
theorem dX3_merge_23 : decode cX3_merge 23 = .ok (.invokevirtual 62, 3) := by decide +kernel
theorem dX3_merge_26 : decode cX3_merge 26 = .ok (.iadd, 1) := by decide +kernel
theorem dX3_merge_27 : decode cX3_merge 27 = .ok (.istore_n 3, 1) := by decide +kernel
theorem dX3_merge_28 : decode cX3_merge 28 = .ok (.iconst 0, 1) := by decide +kernel
theorem dX3_merge_29 : decode cX3_merge 29 = .ok (.istore 4, 2) := by decide +kernel
theorem dX3_merge_31 : decode cX3_merge 31 = .ok (.iload 4, 2) := by decide +kernel
theorem dX3_merge_33 : decode cX3_merge 33 = .ok (.bipush 8, 2) := by decide +kernel
theorem dX3_merge_35 : decode cX3_merge 35 = .ok (.if_icmp .ge 27, 3) := by decide +kernel
theorem dX3_merge_38 : decode cX3_merge 38 = .ok (.aload_n 0, 1) := by decide +kernel
theorem dX3_merge_39 : decode cX3_merge 39 = .ok (.iload_n 1, 1) := by decide +kernel
theorem dX3_merge_40 : decode cX3_merge 40 = .ok (.bipush 8, 2) := by decide +kernel
theorem dX3_merge_42 : decode cX3_merge 42 = .ok (.imul, 1) := by decide +kernel
theorem dX3_merge_43 : decode cX3_merge 43 = .ok (.iload 4, 2) := by decide +kernel
theorem dX3_merge_45 : decode cX3_merge 45 = .ok (.iadd, 1) := by decide +kernel
theorem dX3_merge_46 : decode cX3_merge 46 = .ok (.iload_n 2, 1) := by decide +kernel
theorem dX3_merge_47 : decode cX3_merge 47 = .ok (.bipush 8, 2) := by decide +kernel
theorem dX3_merge_49 : decode cX3_merge 49 = .ok (.imul, 1) := by decide +kernel
theorem dX3_merge_50 : decode cX3_merge 50 = .ok (.iload 4, 2) := by decide +kernel
theorem dX3_merge_52 : decode cX3_merge 52 = .ok (.iadd, 1) := by decide +kernel
theorem dX3_merge_53 : decode cX3_merge 53 = .ok (.invokevirtual 65, 3) := by decide +kernel
theorem dX3_merge_56 : decode cX3_merge 56 = .ok (.iinc 4 1, 3) := by decide +kernel
theorem dX3_merge_59 : decode cX3_merge 59 = .ok (.goto (-28), 3) := by decide +kernel
theorem dX3_merge_62 : decode cX3_merge 62 = .ok (.iconst 0, 1) := by decide +kernel
theorem dX3_merge_63 : decode cX3_merge 63 = .ok (.istore 4, 2) := by decide +kernel
theorem dX3_merge_65 : decode cX3_merge 65 = .ok (.iload 4, 2) := by decide +kernel
theorem dX3_merge_67 : decode cX3_merge 67 = .ok (.aload_n 0, 1) := by decide +kernel
theorem dX3_merge_68 : decode cX3_merge 68 = .ok (.getfield 15, 3) := by decide +kernel
theorem dX3_merge_71 : decode cX3_merge 71 = .ok (.if_icmp .ge 27, 3) := by decide +kernel
theorem dX3_merge_74 : decode cX3_merge 74 = .ok (.aload_n 0, 1) := by decide +kernel
theorem dX3_merge_75 : decode cX3_merge 75 = .ok (.iconst 1, 1) := by decide +kernel
theorem dX3_merge_76 : decode cX3_merge 76 = .ok (.iload 4, 2) := by decide +kernel
theorem dX3_merge_78 : decode cX3_merge 78 = .ok (.iload_n 1, 1) := by decide +kernel
theorem dX3_merge_79 : decode cX3_merge 79 = .ok (.invokestatic 48, 3) := by decide +kernel
theorem dX3_merge_82 : decode cX3_merge 82 = .ok (.iconst 1, 1) := by decide +kernel
theorem dX3_merge_83 : decode cX3_merge 83 = .ok (.iload 4, 2) := by decide +kernel
theorem dX3_merge_85 : decode cX3_merge 85 = .ok (.iload_n 2, 1) := by decide +kernel
theorem dX3_merge_86 : decode cX3_merge 86 = .ok (.invokestatic 48, 3) := by decide +kernel
theorem dX3_merge_89 : decode cX3_merge 89 = .ok (.invokevirtual 65, 3) := by decide +kernel
theorem dX3_merge_92 : decode cX3_merge 92 = .ok (.iinc 4 1, 3) := by decide +kernel
theorem dX3_merge_95 : decode cX3_merge 95 = .ok (.goto (-30), 3) := by decide +kernel
theorem dX3_merge_98 : decode cX3_merge 98 = .ok (.aload_n 0, 1) := by decide +kernel
theorem dX3_merge_99 : decode cX3_merge 99 = .ok (.getfield 11, 3) := by decide +kernel
theorem dX3_merge_102 : decode cX3_merge 102 = .ok (.iconst 1, 1) := by decide +kernel
theorem dX3_merge_103 : decode cX3_merge 103 = .ok (.iload_n 1, 1) := by decide +kernel
theorem dX3_merge_104 : decode cX3_merge 104 = .ok (.iload_n 1, 1) := by decide +kernel
theorem dX3_merge_105 : decode cX3_merge 105 = .ok (.invokestatic 48, 3) := by decide +kernel
theorem dX3_merge_108 : decode cX3_merge 108 = .ok (.iload_n 3, 1) := by decide +kernel
theorem dX3_merge_109 : decode cX3_merge 109 = .ok (.bipush 6, 2) := by decide +kernel
theorem dX3_merge_111 : decode cX3_merge 111 = .ok (.invokestatic 69, 3) := by decide +kernel
theorem dX3_merge_114 : decode cX3_merge 114 = .ok (.iastore, 1) := by decide +kernel
theorem dX3_merge_115 : decode cX3_merge 115 = .ok (.aload_n 0, 1) := by decide +kernel
theorem dX3_merge_116 : decode cX3_merge 116 = .ok (.iload_n 2, 1) := by decide +kernel
theorem dX3_merge_117 : decode cX3_merge 117 = .ok (.invokevirtual 74, 3) := by decide +kernel
theorem dX3_merge_120 : decode cX3_merge 120 = .ok (.return_, 1) := by decide +kernel
theorem dX3_addInto_0 : decode cX3_addInto 0 = .ok (.aload_n 0, 1) := by decide +kernel
theorem dX3_addInto_1 : decode cX3_addInto 1 = .ok (.getfield 11, 3) := by decide +kernel
theorem dX3_addInto_4 : decode cX3_addInto 4 = .ok (.iload_n 1, 1) := by decide +kernel
theorem dX3_addInto_5 : decode cX3_addInto 5 = .ok (.aload_n 0, 1) := by decide +kernel
theorem dX3_addInto_6 : decode cX3_addInto 6 = .ok (.getfield 11, 3) := by decide +kernel
theorem dX3_addInto_9 : decode cX3_addInto 9 = .ok (.iload_n 1, 1) := by decide +kernel
theorem dX3_addInto_10 : decode cX3_addInto 10 = .ok (.iaload, 1) := by decide +kernel
theorem dX3_addInto_11 : decode cX3_addInto 11 = .ok (.aload_n 0, 1) := by decide +kernel
theorem dX3_addInto_12 : decode cX3_addInto 12 = .ok (.getfield 11, 3) := by decide +kernel
theorem dX3_addInto_15 : decode cX3_addInto 15 = .ok (.iload_n 2, 1) := by decide +kernel
theorem dX3_addInto_16 : decode cX3_addInto 16 = .ok (.iaload, 1) := by decide +kernel
theorem dX3_addInto_17 : decode cX3_addInto 17 = .ok (.iadd, 1) := by decide +kernel
theorem dX3_addInto_18 : decode cX3_addInto 18 = .ok (.bipush 6, 2) := by decide +kernel
theorem dX3_addInto_20 : decode cX3_addInto 20 = .ok (.invokestatic 69, 3) := by decide +kernel
theorem dX3_addInto_23 : decode cX3_addInto 23 = .ok (.iastore, 1) := by decide +kernel
theorem dX3_addInto_24 : decode cX3_addInto 24 = .ok (.return_, 1) := by decide +kernel
theorem dX3_dropState_0 : decode cX3_dropState 0 = .ok (.aload_n 0, 1) := by decide +kernel
theorem dX3_dropState_1 : decode cX3_dropState 1 = .ok (.getfield 15, 3) := by decide +kernel
theorem dX3_dropState_4 : decode cX3_dropState 4 = .ok (.iconst 1, 1) := by decide +kernel
theorem dX3_dropState_5 : decode cX3_dropState 5 = .ok (.isub, 1) := by decide +kernel
theorem dX3_dropState_6 : decode cX3_dropState 6 = .ok (.iload_n 1, 1) := by decide +kernel
theorem dX3_dropState_7 : decode cX3_dropState 7 = .ok (.isub, 1) := by decide +kernel
theorem dX3_dropState_8 : decode cX3_dropState 8 = .ok (.istore_n 2, 1) := by decide +kernel
theorem dX3_dropState_9 : decode cX3_dropState 9 = .ok (.aload_n 0, 1) := by decide +kernel
theorem dX3_dropState_10 : decode cX3_dropState 10 = .ok (.getfield 11, 3) := by decide +kernel
theorem dX3_dropState_13 : decode cX3_dropState 13 = .ok (.iload_n 1, 1) := by decide +kernel
theorem dX3_dropState_14 : decode cX3_dropState 14 = .ok (.iconst 1, 1) := by decide +kernel
theorem dX3_dropState_15 : decode cX3_dropState 15 = .ok (.iadd, 1) := by decide +kernel
theorem dX3_dropState_16 : decode cX3_dropState 16 = .ok (.bipush 8, 2) := by decide +kernel
theorem dX3_dropState_18 : decode cX3_dropState 18 = .ok (.imul, 1) := by decide +kernel
theorem dX3_dropState_19 : decode cX3_dropState 19 = .ok (.aload_n 0, 1) := by decide +kernel
theorem dX3_dropState_20 : decode cX3_dropState 20 = .ok (.getfield 11, 3) := by decide +kernel
theorem dX3_dropState_23 : decode cX3_dropState 23 = .ok (.iload_n 1, 1) := by decide +kernel
theorem dX3_dropState_24 : decode cX3_dropState 24 = .ok (.bipush 8, 2) := by decide +kernel
theorem dX3_dropState_26 : decode cX3_dropState 26 = .ok (.imul, 1) := by decide +kernel
theorem dX3_dropState_27 : decode cX3_dropState 27 = .ok (.iload_n 2, 1) := by decide +kernel
theorem dX3_dropState_28 : decode cX3_dropState 28 = .ok (.bipush 8, 2) := by decide +kernel
theorem dX3_dropState_30 : decode cX3_dropState 30 = .ok (.imul, 1) := by decide +kernel
theorem dX3_dropState_31 : decode cX3_dropState 31 = .ok (.invokestatic 28, 3) := by decide +kernel
theorem dX3_dropState_34 : decode cX3_dropState 34 = .ok (.aload_n 0, 1) := by decide +kernel
theorem dX3_dropState_35 : decode cX3_dropState 35 = .ok (.dup, 1) := by decide +kernel
theorem dX3_dropState_36 : decode cX3_dropState 36 = .ok (.getfield 15, 3) := by decide +kernel
theorem dX3_dropState_39 : decode cX3_dropState 39 = .ok (.iconst 1, 1) := by decide +kernel
theorem dX3_dropState_40 : decode cX3_dropState 40 = .ok (.isub, 1) := by decide +kernel
theorem dX3_dropState_41 : decode cX3_dropState 41 = .ok (.putfield 15, 3) := by decide +kernel
theorem dX3_dropState_44 : decode cX3_dropState 44 = .ok (.iconst 0, 1) := by decide +kernel
theorem dX3_dropState_45 : decode cX3_dropState 45 = .ok (.istore_n 3, 1) := by decide +kernel
theorem dX3_dropState_46 : decode cX3_dropState 46 = .ok (.iload_n 3, 1) := by decide +kernel
theorem dX3_dropState_47 : decode cX3_dropState 47 = .ok (.aload_n 0, 1) := by decide +kernel
theorem dX3_dropState_48 : decode cX3_dropState 48 = .ok (.getfield 15, 3) := by decide +kernel
theorem dX3_dropState_51 : decode cX3_dropState 51 = .ok (.if_icmp .ge 48, 3) := by decide +kernel
theorem dX3_dropState_54 : decode cX3_dropState 54 = .ok (.iload_n 1, 1) := by decide +kernel
theorem dX3_dropState_55 : decode cX3_dropState 55 = .ok (.istore 4, 2) := by decide +kernel
theorem dX3_dropState_57 : decode cX3_dropState 57 = .ok (.iload 4, 2) := by decide +kernel
theorem dX3_dropState_59 : decode cX3_dropState 59 = .ok (.aload_n 0, 1) := by decide +kernel
theorem dX3_dropState_60 : decode cX3_dropState 60 = .ok (.getfield 15, 3) := by decide +kernel
theorem dX3_dropState_63 : decode cX3_dropState 63 = .ok (.if_icmp .ge 30, 3) := by decide +kernel
theorem dX3_dropState_66 : decode cX3_dropState 66 = .ok (.aload_n 0, 1) := by decide +kernel
theorem dX3_dropState_67 : decode cX3_dropState 67 = .ok (.getfield 11, 3) := by decide +kernel
theorem dX3_dropState_70 : decode cX3_dropState 70 = .ok (.iconst 1, 1) := by decide +kernel
theorem dX3_dropState_71 : decode cX3_dropState 71 = .ok (.iload_n 3, 1) := by decide +kernel
theorem dX3_dropState_72 : decode cX3_dropState 72 = .ok (.iload 4, 2) := by decide +kernel
theorem dX3_dropState_74 : decode cX3_dropState 74 = .ok (.invokestatic 48, 3) := by decide +kernel
theorem dX3_dropState_77 : decode cX3_dropState 77 = .ok (.aload_n 0, 1) := by decide +kernel
theorem dX3_dropState_78 : decode cX3_dropState 78 = .ok (.iload_n 3, 1) := by decide +kernel
theorem dX3_dropState_79 : decode cX3_dropState 79 = .ok (.iload 4, 2) := by decide +kernel
theorem dX3_dropState_81 : decode cX3_dropState 81 = .ok (.iconst 1, 1) := by decide +kernel
theorem dX3_dropState_82 : decode cX3_dropState 82 = .ok (.iadd, 1) := by decide +kernel
theorem dX3_dropState_83 : decode cX3_dropState 83 = .ok (.invokevirtual 62, 3) := by decide +kernel
theorem dX3_dropState_86 : decode cX3_dropState 86 = .ok (.iastore, 1) := by decide +kernel
theorem dX3_dropState_87 : decode cX3_dropState 87 = .ok (.iinc 4 1, 3) := by decide +kernel
theorem dX3_dropState_90 : decode cX3_dropState 90 = .ok (.goto (-33), 3) := by decide +kernel
theorem dX3_dropState_93 : decode cX3_dropState 93 = .ok (.iinc 3 1, 3) := by decide +kernel
theorem dX3_dropState_96 : decode cX3_dropState 96 = .ok (.goto (-50), 3) := by decide +kernel
theorem dX3_dropState_99 : decode cX3_dropState 99 = .ok (.return_, 1) := by decide +kernel
theorem dX3_beginSample_0 : decode cX3_beginSample 0 = .ok (.aload_n 0, 1) := by decide +kernel
theorem dX3_beginSample_1 : decode cX3_beginSample 1 = .ok (.getfield 22, 3) := by decide +kernel
theorem dX3_beginSample_4 : decode cX3_beginSample 4 = .ok (.aload_n 0, 1) := by decide +kernel
theorem dX3_beginSample_5 : decode cX3_beginSample 5 = .ok (.getfield 34, 3) := by decide +kernel
theorem dX3_beginSample_8 : decode cX3_beginSample 8 = .ok (.iconst 0, 1) := by decide +kernel
theorem dX3_beginSample_9 : decode cX3_beginSample 9 = .ok (.iastore, 1) := by decide +kernel
theorem dX3_beginSample_10 : decode cX3_beginSample 10 = .ok (.aload_n 0, 1) := by decide +kernel
theorem dX3_beginSample_11 : decode cX3_beginSample 11 = .ok (.dup, 1) := by decide +kernel
theorem dX3_beginSample_12 : decode cX3_beginSample 12 = .ok (.getfield 34, 3) := by decide +kernel
theorem dX3_beginSample_15 : decode cX3_beginSample 15 = .ok (.iconst 1, 1) := by decide +kernel
theorem dX3_beginSample_16 : decode cX3_beginSample 16 = .ok (.iadd, 1) := by decide +kernel
theorem dX3_beginSample_17 : decode cX3_beginSample 17 = .ok (.putfield 34, 3) := by decide +kernel
theorem dX3_beginSample_20 : decode cX3_beginSample 20 = .ok (.return_, 1) := by decide +kernel
theorem dX3_appendSign_0 : decode cX3_appendSign 0 = .ok (.aload_n 0, 1) := by decide +kernel
theorem dX3_appendSign_1 : decode cX3_appendSign 1 = .ok (.getfield 34, 3) := by decide +kernel
theorem dX3_appendSign_4 : decode cX3_appendSign 4 = .ok (.iconst 1, 1) := by decide +kernel
theorem dX3_appendSign_5 : decode cX3_appendSign 5 = .ok (.isub, 1) := by decide +kernel
theorem dX3_appendSign_6 : decode cX3_appendSign 6 = .ok (.istore_n 2, 1) := by decide +kernel
theorem dX3_appendSign_7 : decode cX3_appendSign 7 = .ok (.aload_n 0, 1) := by decide +kernel
theorem dX3_appendSign_8 : decode cX3_appendSign 8 = .ok (.getfield 25, 3) := by decide +kernel
theorem dX3_appendSign_11 : decode cX3_appendSign 11 = .ok (.iload_n 2, 1) := by decide +kernel
theorem dX3_appendSign_12 : decode cX3_appendSign 12 = .ok (.bipush 7, 2) := by decide +kernel
theorem dX3_appendSign_14 : decode cX3_appendSign 14 = .ok (.imul, 1) := by decide +kernel
theorem dX3_appendSign_15 : decode cX3_appendSign 15 = .ok (.aload_n 0, 1) := by decide +kernel
theorem dX3_appendSign_16 : decode cX3_appendSign 16 = .ok (.getfield 22, 3) := by decide +kernel
theorem dX3_appendSign_19 : decode cX3_appendSign 19 = .ok (.iload_n 2, 1) := by decide +kernel
theorem dX3_appendSign_20 : decode cX3_appendSign 20 = .ok (.iaload, 1) := by decide +kernel
theorem dX3_appendSign_21 : decode cX3_appendSign 21 = .ok (.iadd, 1) := by decide +kernel
theorem dX3_appendSign_22 : decode cX3_appendSign 22 = .ok (.iload_n 1, 1) := by decide +kernel
theorem dX3_appendSign_23 : decode cX3_appendSign 23 = .ok (.iastore, 1) := by decide +kernel
theorem dX3_appendSign_24 : decode cX3_appendSign 24 = .ok (.aload_n 0, 1) := by decide +kernel
theorem dX3_appendSign_25 : decode cX3_appendSign 25 = .ok (.getfield 22, 3) := by decide +kernel
theorem dX3_appendSign_28 : decode cX3_appendSign 28 = .ok (.iload_n 2, 1) := by decide +kernel
theorem dX3_appendSign_29 : decode cX3_appendSign 29 = .ok (.dup2, 1) := by decide +kernel
theorem dX3_appendSign_30 : decode cX3_appendSign 30 = .ok (.iaload, 1) := by decide +kernel
theorem dX3_appendSign_31 : decode cX3_appendSign 31 = .ok (.iconst 1, 1) := by decide +kernel
theorem dX3_appendSign_32 : decode cX3_appendSign 32 = .ok (.iadd, 1) := by decide +kernel
theorem dX3_appendSign_33 : decode cX3_appendSign 33 = .ok (.iastore, 1) := by decide +kernel
theorem dX3_appendSign_34 : decode cX3_appendSign 34 = .ok (.return_, 1) := by decide +kernel
theorem dX3_dropSample_0 : decode cX3_dropSample 0 = .ok (.aload_n 0, 1) := by decide +kernel
theorem dX3_dropSample_1 : decode cX3_dropSample 1 = .ok (.getfield 34, 3) := by decide +kernel
theorem dX3_dropSample_4 : decode cX3_dropSample 4 = .ok (.iconst 1, 1) := by decide +kernel
theorem dX3_dropSample_5 : decode cX3_dropSample 5 = .ok (.isub, 1) := by decide +kernel
theorem dX3_dropSample_6 : decode cX3_dropSample 6 = .ok (.iload_n 1, 1) := by decide +kernel
theorem dX3_dropSample_7 : decode cX3_dropSample 7 = .ok (.isub, 1) := by decide +kernel
theorem dX3_dropSample_8 : decode cX3_dropSample 8 = .ok (.istore_n 2, 1) := by decide +kernel
theorem dX3_dropSample_9 : decode cX3_dropSample 9 = .ok (.aload_n 0, 1) := by decide +kernel
theorem dX3_dropSample_10 : decode cX3_dropSample 10 = .ok (.getfield 22, 3) := by decide +kernel
theorem dX3_dropSample_13 : decode cX3_dropSample 13 = .ok (.iload_n 1, 1) := by decide +kernel
theorem dX3_dropSample_14 : decode cX3_dropSample 14 = .ok (.iconst 1, 1) := by decide +kernel
theorem dX3_dropSample_15 : decode cX3_dropSample 15 = .ok (.iadd, 1) := by decide +kernel
theorem dX3_dropSample_16 : decode cX3_dropSample 16 = .ok (.aload_n 0, 1) := by decide +kernel
theorem dX3_dropSample_17 : decode cX3_dropSample 17 = .ok (.getfield 22, 3) := by decide +kernel
theorem dX3_dropSample_20 : decode cX3_dropSample 20 = .ok (.iload_n 1, 1) := by decide +kernel
theorem dX3_dropSample_21 : decode cX3_dropSample 21 = .ok (.iload_n 2, 1) := by decide +kernel
theorem dX3_dropSample_22 : decode cX3_dropSample 22 = .ok (.invokestatic 28, 3) := by decide +kernel
theorem dX3_dropSample_25 : decode cX3_dropSample 25 = .ok (.iload_n 1, 1) := by decide +kernel
theorem dX3_dropSample_26 : decode cX3_dropSample 26 = .ok (.iconst 1, 1) := by decide +kernel
theorem dX3_dropSample_27 : decode cX3_dropSample 27 = .ok (.iadd, 1) := by decide +kernel
theorem dX3_dropSample_28 : decode cX3_dropSample 28 = .ok (.bipush 7, 2) := by decide +kernel
theorem dX3_dropSample_30 : decode cX3_dropSample 30 = .ok (.imul, 1) := by decide +kernel
theorem dX3_dropSample_31 : decode cX3_dropSample 31 = .ok (.istore_n 3, 1) := by decide +kernel
theorem dX3_dropSample_32 : decode cX3_dropSample 32 = .ok (.aload_n 0, 1) := by decide +kernel
theorem dX3_dropSample_33 : decode cX3_dropSample 33 = .ok (.getfield 25, 3) := by decide +kernel
theorem dX3_dropSample_36 : decode cX3_dropSample 36 = .ok (.iload_n 3, 1) := by decide +kernel
theorem dX3_dropSample_37 : decode cX3_dropSample 37 = .ok (.aload_n 0, 1) := by decide +kernel
theorem dX3_dropSample_38 : decode cX3_dropSample 38 = .ok (.getfield 25, 3) := by decide +kernel
theorem dX3_dropSample_41 : decode cX3_dropSample 41 = .ok (.iload_n 1, 1) := by decide +kernel
theorem dX3_dropSample_42 : decode cX3_dropSample 42 = .ok (.bipush 7, 2) := by decide +kernel
theorem dX3_dropSample_44 : decode cX3_dropSample 44 = .ok (.imul, 1) := by decide +kernel
theorem dX3_dropSample_45 : decode cX3_dropSample 45 = .ok (.iload_n 2, 1) := by decide +kernel
theorem dX3_dropSample_46 : decode cX3_dropSample 46 = .ok (.bipush 7, 2) := by decide +kernel
theorem dX3_dropSample_48 : decode cX3_dropSample 48 = .ok (.imul, 1) := by decide +kernel
theorem dX3_dropSample_49 : decode cX3_dropSample 49 = .ok (.invokestatic 28, 3) := by decide +kernel
theorem dX3_dropSample_52 : decode cX3_dropSample 52 = .ok (.aload_n 0, 1) := by decide +kernel
theorem dX3_dropSample_53 : decode cX3_dropSample 53 = .ok (.dup, 1) := by decide +kernel
theorem dX3_dropSample_54 : decode cX3_dropSample 54 = .ok (.getfield 34, 3) := by decide +kernel
theorem dX3_dropSample_57 : decode cX3_dropSample 57 = .ok (.iconst 1, 1) := by decide +kernel
theorem dX3_dropSample_58 : decode cX3_dropSample 58 = .ok (.isub, 1) := by decide +kernel
theorem dX3_dropSample_59 : decode cX3_dropSample 59 = .ok (.putfield 34, 3) := by decide +kernel
theorem dX3_dropSample_62 : decode cX3_dropSample 62 = .ok (.return_, 1) := by decide +kernel
theorem dX4_init_0 : decode cX4_init 0 = .ok (.aload_n 0, 1) := by decide +kernel
theorem dX4_init_1 : decode cX4_init 1 = .ok (.invokespecial 3, 3) := by decide +kernel
theorem dX4_init_4 : decode cX4_init 4 = .ok (.aload_n 0, 1) := by decide +kernel
theorem dX4_init_5 : decode cX4_init 5 = .ok (.aload_n 1, 1) := by decide +kernel
theorem dX4_init_6 : decode cX4_init 6 = .ok (.putfield 9, 3) := by decide +kernel
theorem dX4_init_9 : decode cX4_init 9 = .ok (.aload_n 0, 1) := by decide +kernel
theorem dX4_init_10 : decode cX4_init 10 = .ok (.bipush 28, 2) := by decide +kernel
theorem dX4_init_12 : decode cX4_init 12 = .ok (.newarray .int, 2) := by decide +kernel
theorem dX4_init_14 : decode cX4_init 14 = .ok (.putfield 15, 3) := by decide +kernel
theorem dX4_init_17 : decode cX4_init 17 = .ok (.return_, 1) := by decide +kernel
theorem dX4_read_0 : decode cX4_read 0 = .ok (.aload_n 0, 1) := by decide +kernel
theorem dX4_read_1 : decode cX4_read 1 = .ok (.getfield 9, 3) := by decide +kernel
theorem dX4_read_4 : decode cX4_read 4 = .ok (.getfield 19, 3) := by decide +kernel
theorem dX4_read_7 : decode cX4_read 7 = .ok (.iload_n 1, 1) := by decide +kernel
theorem dX4_read_8 : decode cX4_read 8 = .ok (.iaload, 1) := by decide +kernel
theorem dX4_read_9 : decode cX4_read 9 = .ok (.istore_n 2, 1) := by decide +kernel
theorem dX4_read_10 : decode cX4_read 10 = .ok (.iload_n 2, 1) := by decide +kernel
theorem dX4_read_11 : decode cX4_read 11 = .ok (.iconst 1, 1) := by decide +kernel
theorem dX4_read_12 : decode cX4_read 12 = .ok (.isub, 1) := by decide +kernel
theorem dX4_read_13 : decode cX4_read 13 = .ok (.istore_n 3, 1) := by decide +kernel
theorem dX4_read_14 : decode cX4_read 14 = .ok (.iload_n 3, 1) := by decide +kernel
theorem dX4_read_15 : decode cX4_read 15 = .ok (.ifCond .lt 93, 3) := by decide +kernel
theorem dX4_read_18 : decode cX4_read 18 = .ok (.iconst 0, 1) := by decide +kernel
theorem dX4_read_19 : decode cX4_read 19 = .ok (.istore 4, 2) := by decide +kernel
theorem dX4_read_21 : decode cX4_read 21 = .ok (.iload 4, 2) := by decide +kernel
theorem dX4_read_23 : decode cX4_read 23 = .ok (.aload_n 0, 1) := by decide +kernel
theorem dX4_read_24 : decode cX4_read 24 = .ok (.getfield 9, 3) := by decide +kernel
theorem dX4_read_27 : decode cX4_read 27 = .ok (.getfield 24, 3) := by decide +kernel
theorem dX4_read_30 : decode cX4_read 30 = .ok (.if_icmp .ge 72, 3) := by decide +kernel
theorem dX4_read_33 : decode cX4_read 33 = .ok (.iload_n 3, 1) := by decide +kernel
theorem dX4_read_34 : decode cX4_read 34 = .ok (.iload_n 2, 1) := by decide +kernel
theorem dX4_read_35 : decode cX4_read 35 = .ok (.iconst 1, 1) := by decide +kernel
theorem dX4_read_36 : decode cX4_read 36 = .ok (.isub, 1) := by decide +kernel
theorem dX4_read_37 : decode cX4_read 37 = .ok (.if_icmp .ne 7, 3) := by decide +kernel
theorem dX4_read_40 : decode cX4_read 40 = .ok (.iconst 1, 1) := by decide +kernel
theorem dX4_read_41 : decode cX4_read 41 = .ok (.goto 10, 3) := by decide +kernel
theorem dX4_read_44 : decode cX4_read 44 = .ok (.aload_n 0, 1) := by decide +kernel
theorem dX4_read_45 : decode cX4_read 45 = .ok (.iload_n 3, 1) := by decide +kernel
theorem dX4_read_46 : decode cX4_read 46 = .ok (.iload 4, 2) := by decide +kernel
theorem dX4_read_48 : decode cX4_read 48 = .ok (.invokevirtual 28, 3) := by decide +kernel
theorem dX4_read_51 : decode cX4_read 51 = .ok (.istore 5, 2) := by decide +kernel
theorem dX4_read_53 : decode cX4_read 53 = .ok (.aload_n 0, 1) := by decide +kernel
theorem dX4_read_54 : decode cX4_read 54 = .ok (.getfield 9, 3) := by decide +kernel
theorem dX4_read_57 : decode cX4_read 57 = .ok (.iload 4, 2) := by decide +kernel
theorem dX4_read_59 : decode cX4_read 59 = .ok (.iload_n 1, 1) := by decide +kernel
theorem dX4_read_60 : decode cX4_read 60 = .ok (.iload_n 3, 1) := by decide +kernel
theorem dX4_read_61 : decode cX4_read 61 = .ok (.invokevirtual 32, 3) := by decide +kernel
theorem dX4_read_64 : decode cX4_read 64 = .ok (.ifCond .le 7, 3) := by decide +kernel
theorem dX4_read_67 : decode cX4_read 67 = .ok (.iconst 1, 1) := by decide +kernel
theorem dX4_read_68 : decode cX4_read 68 = .ok (.goto 4, 3) := by decide +kernel
theorem dX4_read_71 : decode cX4_read 71 = .ok (.iconst 0, 1) := by decide +kernel
theorem dX4_read_72 : decode cX4_read 72 = .ok (.istore 6, 2) := by decide +kernel
theorem dX4_read_74 : decode cX4_read 74 = .ok (.aload_n 0, 1) := by decide +kernel
theorem dX4_read_75 : decode cX4_read 75 = .ok (.getfield 15, 3) := by decide +kernel
theorem dX4_read_78 : decode cX4_read 78 = .ok (.iload_n 3, 1) := by decide +kernel
theorem dX4_read_79 : decode cX4_read 79 = .ok (.iconst 4, 1) := by decide +kernel
theorem dX4_read_80 : decode cX4_read 80 = .ok (.imul, 1) := by decide +kernel
theorem dX4_read_81 : decode cX4_read 81 = .ok (.iload 4, 2) := by decide +kernel
theorem dX4_read_83 : decode cX4_read 83 = .ok (.iadd, 1) := by decide +kernel
theorem dX4_read_84 : decode cX4_read 84 = .ok (.iload 6, 2) := by decide +kernel
theorem dX4_read_86 : decode cX4_read 86 = .ok (.ifCond .eq 8, 3) := by decide +kernel
theorem dX4_read_89 : decode cX4_read 89 = .ok (.iload 5, 2) := by decide +kernel
theorem dX4_read_91 : decode cX4_read 91 = .ok (.goto 4, 3) := by decide +kernel
theorem dX4_read_94 : decode cX4_read 94 = .ok (.iconst 0, 1) := by decide +kernel
theorem dX4_read_95 : decode cX4_read 95 = .ok (.iastore, 1) := by decide +kernel
theorem dX4_read_96 : decode cX4_read 96 = .ok (.iinc 4 1, 3) := by decide +kernel
theorem dX4_read_99 : decode cX4_read 99 = .ok (.goto (-78), 3) := by decide +kernel
theorem dX4_read_102 : decode cX4_read 102 = .ok (.iinc 3 (-1), 3) := by decide +kernel
theorem dX4_read_105 : decode cX4_read 105 = .ok (.goto (-91), 3) := by decide +kernel
theorem dX4_read_108 : decode cX4_read 108 = .ok (.aload_n 0, 1) := by decide +kernel
theorem dX4_read_109 : decode cX4_read 109 = .ok (.iconst 0, 1) := by decide +kernel
theorem dX4_read_110 : decode cX4_read 110 = .ok (.putfield 36, 3) := by decide +kernel
theorem dX4_read_113 : decode cX4_read 113 = .ok (.iconst 0, 1) := by decide +kernel
theorem dX4_read_114 : decode cX4_read 114 = .ok (.istore_n 3, 1) := by decide +kernel
theorem dX4_read_115 : decode cX4_read 115 = .ok (.iload_n 3, 1) := by decide +kernel
theorem dX4_read_116 : decode cX4_read 116 = .ok (.aload_n 0, 1) := by decide +kernel
theorem dX4_read_117 : decode cX4_read 117 = .ok (.getfield 9, 3) := by decide +kernel
theorem dX4_read_120 : decode cX4_read 120 = .ok (.getfield 24, 3) := by decide +kernel
theorem dX4_read_123 : decode cX4_read 123 = .ok (.if_icmp .ge 25, 3) := by decide +kernel
theorem dX4_read_126 : decode cX4_read 126 = .ok (.aload_n 0, 1) := by decide +kernel
theorem dX4_read_127 : decode cX4_read 127 = .ok (.dup, 1) := by decide +kernel
theorem dX4_read_128 : decode cX4_read 128 = .ok (.getfield 36, 3) := by decide +kernel
theorem dX4_read_131 : decode cX4_read 131 = .ok (.aload_n 0, 1) := by decide +kernel
theorem dX4_read_132 : decode cX4_read 132 = .ok (.iconst 0, 1) := by decide +kernel
theorem dX4_read_133 : decode cX4_read 133 = .ok (.iconst 0, 1) := by decide +kernel
theorem dX4_read_134 : decode cX4_read 134 = .ok (.iload_n 3, 1) := by decide +kernel
theorem dX4_read_135 : decode cX4_read 135 = .ok (.invokevirtual 39, 3) := by decide +kernel
theorem dX4_read_138 : decode cX4_read 138 = .ok (.iadd, 1) := by decide +kernel
theorem dX4_read_139 : decode cX4_read 139 = .ok (.putfield 36, 3) := by decide +kernel
theorem dX4_read_142 : decode cX4_read 142 = .ok (.iinc 3 1, 3) := by decide +kernel
theorem dX4_read_145 : decode cX4_read 145 = .ok (.goto (-30), 3) := by decide +kernel
theorem dX4_read_148 : decode cX4_read 148 = .ok (.return_, 1) := by decide +kernel
theorem dX4_partsBehind_0 : decode cX4_partsBehind 0 = .ok (.iconst 0, 1) := by decide +kernel
theorem dX4_partsBehind_1 : decode cX4_partsBehind 1 = .ok (.istore_n 3, 1) := by decide +kernel
theorem dX4_partsBehind_2 : decode cX4_partsBehind 2 = .ok (.iconst 0, 1) := by decide +kernel
theorem dX4_partsBehind_3 : decode cX4_partsBehind 3 = .ok (.istore 4, 2) := by decide +kernel
theorem dX4_partsBehind_5 : decode cX4_partsBehind 5 = .ok (.iload 4, 2) := by decide +kernel
theorem dX4_partsBehind_7 : decode cX4_partsBehind 7 = .ok (.aload_n 0, 1) := by decide +kernel
theorem dX4_partsBehind_8 : decode cX4_partsBehind 8 = .ok (.getfield 9, 3) := by decide +kernel
theorem dX4_partsBehind_11 : decode cX4_partsBehind 11 = .ok (.getfield 24, 3) := by decide +kernel
theorem dX4_partsBehind_14 : decode cX4_partsBehind 14 = .ok (.if_icmp .ge 22, 3) := by decide +kernel
theorem dX4_partsBehind_17 : decode cX4_partsBehind 17 = .ok (.iload_n 3, 1) := by decide +kernel
theorem dX4_partsBehind_18 : decode cX4_partsBehind 18 = .ok (.aload_n 0, 1) := by decide +kernel
theorem dX4_partsBehind_19 : decode cX4_partsBehind 19 = .ok (.iload_n 1, 1) := by decide +kernel
theorem dX4_partsBehind_20 : decode cX4_partsBehind 20 = .ok (.iconst 1, 1) := by decide +kernel
theorem dX4_partsBehind_21 : decode cX4_partsBehind 21 = .ok (.iadd, 1) := by decide +kernel
theorem dX4_partsBehind_22 : decode cX4_partsBehind 22 = .ok (.iload_n 2, 1) := by decide +kernel
theorem dX4_partsBehind_23 : decode cX4_partsBehind 23 = .ok (.iload 4, 2) := by decide +kernel
theorem dX4_partsBehind_25 : decode cX4_partsBehind 25 = .ok (.invokevirtual 39, 3) := by decide +kernel
theorem dX4_partsBehind_28 : decode cX4_partsBehind 28 = .ok (.iadd, 1) := by decide +kernel
theorem dX4_partsBehind_29 : decode cX4_partsBehind 29 = .ok (.istore_n 3, 1) := by decide +kernel
theorem dX4_partsBehind_30 : decode cX4_partsBehind 30 = .ok (.iinc 4 1, 3) := by decide +kernel
theorem dX4_partsBehind_33 : decode cX4_partsBehind 33 = .ok (.goto (-28), 3) := by decide +kernel
theorem dX4_partsBehind_36 : decode cX4_partsBehind 36 = .ok (.iload_n 3, 1) := by decide +kernel
theorem dX4_partsBehind_37 : decode cX4_partsBehind 37 = .ok (.ireturn, 1) := by decide +kernel
theorem dX4_entering_0 : decode cX4_entering 0 = .ok (.iload_n 1, 1) := by decide +kernel
theorem dX4_entering_1 : decode cX4_entering 1 = .ok (.ifCond .ne 14, 3) := by decide +kernel
theorem dX4_entering_4 : decode cX4_entering 4 = .ok (.aload_n 0, 1) := by decide +kernel
theorem dX4_entering_5 : decode cX4_entering 5 = .ok (.getfield 9, 3) := by decide +kernel
theorem dX4_entering_8 : decode cX4_entering 8 = .ok (.iload_n 3, 1) := by decide +kernel
theorem dX4_entering_9 : decode cX4_entering 9 = .ok (.invokevirtual 42, 3) := by decide +kernel
theorem dX4_entering_12 : decode cX4_entering 12 = .ok (.goto 12, 3) := by decide +kernel
theorem dX4_entering_15 : decode cX4_entering 15 = .ok (.aload_n 0, 1) := by decide +kernel
theorem dX4_entering_16 : decode cX4_entering 16 = .ok (.getfield 9, 3) := by decide +kernel
theorem dX4_entering_19 : decode cX4_entering 19 = .ok (.iload_n 2, 1) := by decide +kernel
theorem dX4_entering_20 : decode cX4_entering 20 = .ok (.iload_n 3, 1) := by decide +kernel
theorem dX4_entering_21 : decode cX4_entering 21 = .ok (.invokevirtual 46, 3) := by decide +kernel
theorem dX4_entering_24 : decode cX4_entering 24 = .ok (.istore 4, 2) := by decide +kernel
theorem dX4_entering_26 : decode cX4_entering 26 = .ok (.iload 4, 2) := by decide +kernel
theorem dX4_entering_28 : decode cX4_entering 28 = .ok (.ifCond .le 16, 3) := by decide +kernel
theorem dX4_entering_31 : decode cX4_entering 31 = .ok (.aload_n 0, 1) := by decide +kernel
theorem dX4_entering_32 : decode cX4_entering 32 = .ok (.getfield 15, 3) := by decide +kernel
theorem dX4_entering_35 : decode cX4_entering 35 = .ok (.iload_n 1, 1) := by decide +kernel
theorem dX4_entering_36 : decode cX4_entering 36 = .ok (.iconst 4, 1) := by decide +kernel
theorem dX4_entering_37 : decode cX4_entering 37 = .ok (.imul, 1) := by decide +kernel
theorem dX4_entering_38 : decode cX4_entering 38 = .ok (.iload_n 3, 1) := by decide +kernel
theorem dX4_entering_39 : decode cX4_entering 39 = .ok (.iadd, 1) := by decide +kernel
theorem dX4_entering_40 : decode cX4_entering 40 = .ok (.iaload, 1) := by decide +kernel
theorem dX4_entering_41 : decode cX4_entering 41 = .ok (.goto 4, 3) := by decide +kernel
theorem dX4_entering_44 : decode cX4_entering 44 = .ok (.iconst 0, 1) := by decide +kernel
theorem dX4_entering_45 : decode cX4_entering 45 = .ok (.ireturn, 1) := by decide +kernel
theorem dX4_stateAt_0 : decode cX4_stateAt 0 = .ok (.iload_n 1, 1) := by decide +kernel
theorem dX4_stateAt_1 : decode cX4_stateAt 1 = .ok (.istore_n 3, 1) := by decide +kernel
theorem dX4_stateAt_2 : decode cX4_stateAt 2 = .ok (.iconst 0, 1) := by decide +kernel
theorem dX4_stateAt_3 : decode cX4_stateAt 3 = .ok (.istore 4, 2) := by decide +kernel
theorem dX4_stateAt_5 : decode cX4_stateAt 5 = .ok (.iconst 0, 1) := by decide +kernel
theorem dX4_stateAt_6 : decode cX4_stateAt 6 = .ok (.istore 5, 2) := by decide +kernel
theorem dX4_stateAt_8 : decode cX4_stateAt 8 = .ok (.iload 5, 2) := by decide +kernel
theorem dX4_stateAt_10 : decode cX4_stateAt 10 = .ok (.iload_n 2, 1) := by decide +kernel
theorem dX4_stateAt_11 : decode cX4_stateAt 11 = .ok (.if_icmp .gt 63, 3) := by decide +kernel
theorem dX4_stateAt_14 : decode cX4_stateAt 14 = .ok (.iload 4, 2) := by decide +kernel
theorem dX4_stateAt_16 : decode cX4_stateAt 16 = .ok (.istore 6, 2) := by decide +kernel
theorem dX4_stateAt_18 : decode cX4_stateAt 18 = .ok (.iconst 0, 1) := by decide +kernel
theorem dX4_stateAt_19 : decode cX4_stateAt 19 = .ok (.istore 4, 2) := by decide +kernel
theorem dX4_stateAt_21 : decode cX4_stateAt 21 = .ok (.iload 4, 2) := by decide +kernel
theorem dX4_stateAt_23 : decode cX4_stateAt 23 = .ok (.aload_n 0, 1) := by decide +kernel
theorem dX4_stateAt_24 : decode cX4_stateAt 24 = .ok (.getfield 9, 3) := by decide +kernel
theorem dX4_stateAt_27 : decode cX4_stateAt 27 = .ok (.getfield 24, 3) := by decide +kernel
theorem dX4_stateAt_30 : decode cX4_stateAt 30 = .ok (.iconst 1, 1) := by decide +kernel
theorem dX4_stateAt_31 : decode cX4_stateAt 31 = .ok (.isub, 1) := by decide +kernel
theorem dX4_stateAt_32 : decode cX4_stateAt 32 = .ok (.if_icmp .ge 36, 3) := by decide +kernel
theorem dX4_stateAt_35 : decode cX4_stateAt 35 = .ok (.iload_n 3, 1) := by decide +kernel
theorem dX4_stateAt_36 : decode cX4_stateAt 36 = .ok (.aload_n 0, 1) := by decide +kernel
theorem dX4_stateAt_37 : decode cX4_stateAt 37 = .ok (.iload 5, 2) := by decide +kernel
theorem dX4_stateAt_39 : decode cX4_stateAt 39 = .ok (.iload 6, 2) := by decide +kernel
theorem dX4_stateAt_41 : decode cX4_stateAt 41 = .ok (.iload 4, 2) := by decide +kernel
theorem dX4_stateAt_43 : decode cX4_stateAt 43 = .ok (.invokevirtual 39, 3) := by decide +kernel
theorem dX4_stateAt_46 : decode cX4_stateAt 46 = .ok (.if_icmp .lt 22, 3) := by decide +kernel
theorem dX4_stateAt_49 : decode cX4_stateAt 49 = .ok (.iload_n 3, 1) := by decide +kernel
theorem dX4_stateAt_50 : decode cX4_stateAt 50 = .ok (.aload_n 0, 1) := by decide +kernel
theorem dX4_stateAt_51 : decode cX4_stateAt 51 = .ok (.iload 5, 2) := by decide +kernel
theorem dX4_stateAt_53 : decode cX4_stateAt 53 = .ok (.iload 6, 2) := by decide +kernel
theorem dX4_stateAt_55 : decode cX4_stateAt 55 = .ok (.iload 4, 2) := by decide +kernel
theorem dX4_stateAt_57 : decode cX4_stateAt 57 = .ok (.invokevirtual 39, 3) := by decide +kernel
theorem dX4_stateAt_60 : decode cX4_stateAt 60 = .ok (.isub, 1) := by decide +kernel
theorem dX4_stateAt_61 : decode cX4_stateAt 61 = .ok (.istore_n 3, 1) := by decide +kernel
theorem dX4_stateAt_62 : decode cX4_stateAt 62 = .ok (.iinc 4 1, 3) := by decide +kernel
theorem dX4_stateAt_65 : decode cX4_stateAt 65 = .ok (.goto (-44), 3) := by decide +kernel
theorem dX4_stateAt_68 : decode cX4_stateAt 68 = .ok (.iinc 5 1, 3) := by decide +kernel
theorem dX4_stateAt_71 : decode cX4_stateAt 71 = .ok (.goto (-63), 3) := by decide +kernel
theorem dX4_stateAt_74 : decode cX4_stateAt 74 = .ok (.iload 4, 2) := by decide +kernel
theorem dX4_stateAt_76 : decode cX4_stateAt 76 = .ok (.ireturn, 1) := by decide +kernel
theorem dX5_init_0 : decode cX5_init 0 = .ok (.aload_n 0, 1) := by decide +kernel
theorem dX5_init_1 : decode cX5_init 1 = .ok (.invokespecial 3, 3) := by decide +kernel
theorem dX5_init_4 : decode cX5_init 4 = .ok (.aload_n 0, 1) := by decide +kernel
theorem dX5_init_5 : decode cX5_init 5 = .ok (.bipush 60, 2) := by decide +kernel
theorem dX5_init_7 : decode cX5_init 7 = .ok (.newarray .char, 2) := by decide +kernel
theorem dX5_init_9 : decode cX5_init 9 = .ok (.putfield 9, 3) := by decide +kernel
theorem dX5_init_12 : decode cX5_init 12 = .ok (.return_, 1) := by decide +kernel
theorem dX5_append_0 : decode cX5_append 0 = .ok (.aload_n 0, 1) := by decide +kernel
theorem dX5_append_1 : decode cX5_append 1 = .ok (.getfield 9, 3) := by decide +kernel
theorem dX5_append_4 : decode cX5_append 4 = .ok (.aload_n 0, 1) := by decide +kernel
theorem dX5_append_5 : decode cX5_append 5 = .ok (.getfield 15, 3) := by decide +kernel
theorem dX5_append_8 : decode cX5_append 8 = .ok (.iload_n 1, 1) := by decide +kernel
theorem dX5_append_9 : decode cX5_append 9 = .ok (.castore, 1) := by decide +kernel
theorem dX5_append_10 : decode cX5_append 10 = .ok (.aload_n 0, 1) := by decide +kernel
theorem dX5_append_11 : decode cX5_append 11 = .ok (.dup, 1) := by decide +kernel
theorem dX5_append_12 : decode cX5_append 12 = .ok (.getfield 15, 3) := by decide +kernel
theorem dX5_append_15 : decode cX5_append 15 = .ok (.iconst 1, 1) := by decide +kernel
theorem dX5_append_16 : decode cX5_append 16 = .ok (.iadd, 1) := by decide +kernel
theorem dX5_append_17 : decode cX5_append 17 = .ok (.putfield 15, 3) := by decide +kernel
theorem dX5_append_20 : decode cX5_append 20 = .ok (.return_, 1) := by decide +kernel
theorem dX5_empty_0 : decode cX5_empty 0 = .ok (.aload_n 0, 1) := by decide +kernel
theorem dX5_empty_1 : decode cX5_empty 1 = .ok (.iconst 0, 1) := by decide +kernel
theorem dX5_empty_2 : decode cX5_empty 2 = .ok (.putfield 15, 3) := by decide +kernel
theorem dX5_empty_5 : decode cX5_empty 5 = .ok (.return_, 1) := by decide +kernel
theorem dX5_fault_0 : decode cX5_fault 0 = .ok (.iconst 0, 1) := by decide +kernel
theorem dX5_fault_1 : decode cX5_fault 1 = .ok (.istore_n 1, 1) := by decide +kernel
theorem dX5_fault_2 : decode cX5_fault 2 = .ok (.iconst 0, 1) := by decide +kernel
theorem dX5_fault_3 : decode cX5_fault 3 = .ok (.istore_n 2, 1) := by decide +kernel
theorem dX5_fault_4 : decode cX5_fault 4 = .ok (.iload_n 2, 1) := by decide +kernel
theorem dX5_fault_5 : decode cX5_fault 5 = .ok (.aload_n 0, 1) := by decide +kernel
theorem dX5_fault_6 : decode cX5_fault 6 = .ok (.getfield 15, 3) := by decide +kernel
theorem dX5_fault_9 : decode cX5_fault 9 = .ok (.if_icmp .ge 52, 3) := by decide +kernel
theorem dX5_fault_12 : decode cX5_fault 12 = .ok (.aload_n 0, 1) := by decide +kernel
theorem dX5_fault_13 : decode cX5_fault 13 = .ok (.getfield 9, 3) := by decide +kernel
theorem dX5_fault_16 : decode cX5_fault 16 = .ok (.iload_n 2, 1) := by decide +kernel
theorem dX5_fault_17 : decode cX5_fault 17 = .ok (.caload, 1) := by decide +kernel
theorem dX5_fault_18 : decode cX5_fault 18 = .ok (.istore_n 3, 1) := by decide +kernel
theorem dX5_fault_19 : decode cX5_fault 19 = .ok (.iload_n 3, 1) := by decide +kernel
theorem dX5_fault_20 : decode cX5_fault 20 = .ok (.invokestatic 19, 3) := by decide +kernel
theorem dX5_fault_23 : decode cX5_fault 23 = .ok (.ifCond .eq 15, 3) := by decide +kernel
theorem dX5_fault_26 : decode cX5_fault 26 = .ok (.iload_n 1, 1) := by decide +kernel
theorem dX5_fault_27 : decode cX5_fault 27 = .ok (.bipush 7, 2) := by decide +kernel
theorem dX5_fault_29 : decode cX5_fault 29 = .ok (.if_icmp .ge 9, 3) := by decide +kernel
theorem dX5_fault_32 : decode cX5_fault 32 = .ok (.iinc 1 1, 3) := by decide +kernel
theorem dX5_fault_35 : decode cX5_fault 35 = .ok (.goto 20, 3) := by decide +kernel
theorem dX5_fault_38 : decode cX5_fault 38 = .ok (.iload_n 3, 1) := by decide +kernel
theorem dX5_fault_39 : decode cX5_fault 39 = .ok (.bipush 59, 2) := by decide +kernel
theorem dX5_fault_41 : decode cX5_fault 41 = .ok (.if_icmp .ne 12, 3) := by decide +kernel
theorem dX5_fault_44 : decode cX5_fault 44 = .ok (.iload_n 1, 1) := by decide +kernel
theorem dX5_fault_45 : decode cX5_fault 45 = .ok (.ifCond .le 8, 3) := by decide +kernel
theorem dX5_fault_48 : decode cX5_fault 48 = .ok (.iconst 0, 1) := by decide +kernel
theorem dX5_fault_49 : decode cX5_fault 49 = .ok (.istore_n 1, 1) := by decide +kernel
theorem dX5_fault_50 : decode cX5_fault 50 = .ok (.goto 5, 3) := by decide +kernel
theorem dX5_fault_53 : decode cX5_fault 53 = .ok (.iload_n 2, 1) := by decide +kernel
theorem dX5_fault_54 : decode cX5_fault 54 = .ok (.ireturn, 1) := by decide +kernel
theorem dX5_fault_55 : decode cX5_fault 55 = .ok (.iinc 2 1, 3) := by decide +kernel
theorem dX5_fault_58 : decode cX5_fault 58 = .ok (.goto (-54), 3) := by decide +kernel
theorem dX5_fault_61 : decode cX5_fault 61 = .ok (.iload_n 1, 1) := by decide +kernel
theorem dX5_fault_62 : decode cX5_fault 62 = .ok (.ifCond .le 7, 3) := by decide +kernel
theorem dX5_fault_65 : decode cX5_fault 65 = .ok (.iconst (-1), 1) := by decide +kernel
theorem dX5_fault_66 : decode cX5_fault 66 = .ok (.goto 7, 3) := by decide +kernel
theorem dX5_fault_69 : decode cX5_fault 69 = .ok (.aload_n 0, 1) := by decide +kernel
theorem dX5_fault_70 : decode cX5_fault 70 = .ok (.getfield 15, 3) := by decide +kernel
theorem dX5_fault_73 : decode cX5_fault 73 = .ok (.ireturn, 1) := by decide +kernel
theorem dX5_isLetter_0 : decode cX5_isLetter 0 = .ok (.iload_n 0, 1) := by decide +kernel
theorem dX5_isLetter_1 : decode cX5_isLetter 1 = .ok (.bipush 97, 2) := by decide +kernel
theorem dX5_isLetter_3 : decode cX5_isLetter 3 = .ok (.if_icmp .lt 13, 3) := by decide +kernel
theorem dX5_isLetter_6 : decode cX5_isLetter 6 = .ok (.iload_n 0, 1) := by decide +kernel
theorem dX5_isLetter_7 : decode cX5_isLetter 7 = .ok (.bipush 99, 2) := by decide +kernel
theorem dX5_isLetter_9 : decode cX5_isLetter 9 = .ok (.if_icmp .gt 7, 3) := by decide +kernel
theorem dX5_isLetter_12 : decode cX5_isLetter 12 = .ok (.iconst 1, 1) := by decide +kernel
theorem dX5_isLetter_13 : decode cX5_isLetter 13 = .ok (.goto 4, 3) := by decide +kernel
theorem dX5_isLetter_16 : decode cX5_isLetter 16 = .ok (.iconst 0, 1) := by decide +kernel
theorem dX5_isLetter_17 : decode cX5_isLetter 17 = .ok (.ireturn, 1) := by decide +kernel
theorem dX5_samples_0 : decode cX5_samples 0 = .ok (.iconst 1, 1) := by decide +kernel
theorem dX5_samples_1 : decode cX5_samples 1 = .ok (.istore_n 1, 1) := by decide +kernel
theorem dX5_samples_2 : decode cX5_samples 2 = .ok (.iconst 0, 1) := by decide +kernel
theorem dX5_samples_3 : decode cX5_samples 3 = .ok (.istore_n 2, 1) := by decide +kernel
theorem dX5_samples_4 : decode cX5_samples 4 = .ok (.iload_n 2, 1) := by decide +kernel
theorem dX5_samples_5 : decode cX5_samples 5 = .ok (.aload_n 0, 1) := by decide +kernel
theorem dX5_samples_6 : decode cX5_samples 6 = .ok (.getfield 15, 3) := by decide +kernel
theorem dX5_samples_9 : decode cX5_samples 9 = .ok (.if_icmp .ge 23, 3) := by decide +kernel
theorem dX5_samples_12 : decode cX5_samples 12 = .ok (.aload_n 0, 1) := by decide +kernel
theorem dX5_samples_13 : decode cX5_samples 13 = .ok (.getfield 9, 3) := by decide +kernel
theorem dX5_samples_16 : decode cX5_samples 16 = .ok (.iload_n 2, 1) := by decide +kernel
theorem dX5_samples_17 : decode cX5_samples 17 = .ok (.caload, 1) := by decide +kernel
theorem dX5_samples_18 : decode cX5_samples 18 = .ok (.bipush 59, 2) := by decide +kernel
theorem dX5_samples_20 : decode cX5_samples 20 = .ok (.if_icmp .ne 6, 3) := by decide +kernel
theorem dX5_samples_23 : decode cX5_samples 23 = .ok (.iinc 1 1, 3) := by decide +kernel
theorem dX5_samples_26 : decode cX5_samples 26 = .ok (.iinc 2 1, 3) := by decide +kernel
theorem dX5_samples_29 : decode cX5_samples 29 = .ok (.goto (-25), 3) := by decide +kernel
theorem dX5_samples_32 : decode cX5_samples 32 = .ok (.iload_n 1, 1) := by decide +kernel
theorem dX5_samples_33 : decode cX5_samples 33 = .ok (.ireturn, 1) := by decide +kernel
theorem dX5_appendTo_0 : decode cX5_appendTo 0 = .ok (.aload_n 1, 1) := by decide +kernel
theorem dX5_appendTo_1 : decode cX5_appendTo 1 = .ok (.invokevirtual 23, 3) := by decide +kernel
theorem dX5_appendTo_4 : decode cX5_appendTo 4 = .ok (.iconst 0, 1) := by decide +kernel
theorem dX5_appendTo_5 : decode cX5_appendTo 5 = .ok (.istore_n 2, 1) := by decide +kernel
theorem dX5_appendTo_6 : decode cX5_appendTo 6 = .ok (.iload_n 2, 1) := by decide +kernel
theorem dX5_appendTo_7 : decode cX5_appendTo 7 = .ok (.aload_n 0, 1) := by decide +kernel
theorem dX5_appendTo_8 : decode cX5_appendTo 8 = .ok (.getfield 15, 3) := by decide +kernel
theorem dX5_appendTo_11 : decode cX5_appendTo 11 = .ok (.if_icmp .ge 40, 3) := by decide +kernel
theorem dX5_appendTo_14 : decode cX5_appendTo 14 = .ok (.aload_n 0, 1) := by decide +kernel
theorem dX5_appendTo_15 : decode cX5_appendTo 15 = .ok (.getfield 9, 3) := by decide +kernel
theorem dX5_appendTo_18 : decode cX5_appendTo 18 = .ok (.iload_n 2, 1) := by decide +kernel
theorem dX5_appendTo_19 : decode cX5_appendTo 19 = .ok (.caload, 1) := by decide +kernel
theorem dX5_appendTo_20 : decode cX5_appendTo 20 = .ok (.bipush 59, 2) := by decide +kernel
theorem dX5_appendTo_22 : decode cX5_appendTo 22 = .ok (.if_icmp .ne 10, 3) := by decide +kernel
theorem dX5_appendTo_25 : decode cX5_appendTo 25 = .ok (.aload_n 1, 1) := by decide +kernel
theorem dX5_appendTo_26 : decode cX5_appendTo 26 = .ok (.invokevirtual 23, 3) := by decide +kernel
theorem dX5_appendTo_29 : decode cX5_appendTo 29 = .ok (.goto 16, 3) := by decide +kernel
theorem dX5_appendTo_32 : decode cX5_appendTo 32 = .ok (.aload_n 1, 1) := by decide +kernel
theorem dX5_appendTo_33 : decode cX5_appendTo 33 = .ok (.aload_n 0, 1) := by decide +kernel
theorem dX5_appendTo_34 : decode cX5_appendTo 34 = .ok (.getfield 9, 3) := by decide +kernel
theorem dX5_appendTo_37 : decode cX5_appendTo 37 = .ok (.iload_n 2, 1) := by decide +kernel
theorem dX5_appendTo_38 : decode cX5_appendTo 38 = .ok (.caload, 1) := by decide +kernel
theorem dX5_appendTo_39 : decode cX5_appendTo 39 = .ok (.bipush 97, 2) := by decide +kernel
theorem dX5_appendTo_41 : decode cX5_appendTo 41 = .ok (.isub, 1) := by decide +kernel
theorem dX5_appendTo_42 : decode cX5_appendTo 42 = .ok (.invokevirtual 28, 3) := by decide +kernel
theorem dX5_appendTo_45 : decode cX5_appendTo 45 = .ok (.iinc 2 1, 3) := by decide +kernel
theorem dX5_appendTo_48 : decode cX5_appendTo 48 = .ok (.goto (-42), 3) := by decide +kernel
theorem dX5_appendTo_51 : decode cX5_appendTo 51 = .ok (.return_, 1) := by decide +kernel
theorem dX6_init_0 : decode cX6_init 0 = .ok (.aload_n 0, 1) := by decide +kernel
theorem dX6_init_1 : decode cX6_init 1 = .ok (.invokespecial 3, 3) := by decide +kernel
theorem dX6_init_4 : decode cX6_init 4 = .ok (.aload_n 0, 1) := by decide +kernel
theorem dX6_init_5 : decode cX6_init 5 = .ok (.aload_n 1, 1) := by decide +kernel
theorem dX6_init_6 : decode cX6_init 6 = .ok (.putfield 9, 3) := by decide +kernel
theorem dX6_init_9 : decode cX6_init 9 = .ok (.aload_n 0, 1) := by decide +kernel
theorem dX6_init_10 : decode cX6_init 10 = .ok (.bipush 28, 2) := by decide +kernel
theorem dX6_init_12 : decode cX6_init 12 = .ok (.newarray .long, 2) := by decide +kernel
theorem dX6_init_14 : decode cX6_init 14 = .ok (.putfield 15, 3) := by decide +kernel
theorem dX6_init_17 : decode cX6_init 17 = .ok (.aload_n 0, 1) := by decide +kernel
theorem dX6_init_18 : decode cX6_init 18 = .ok (.bipush 28, 2) := by decide +kernel
theorem dX6_init_20 : decode cX6_init 20 = .ok (.newarray .long, 2) := by decide +kernel
theorem dX6_init_22 : decode cX6_init 22 = .ok (.putfield 19, 3) := by decide +kernel
theorem dX6_init_25 : decode cX6_init 25 = .ok (.return_, 1) := by decide +kernel
theorem dX6_read_0 : decode cX6_read 0 = .ok (.aload_n 0, 1) := by decide +kernel
theorem dX6_read_1 : decode cX6_read 1 = .ok (.iload_n 1, 1) := by decide +kernel
theorem dX6_read_2 : decode cX6_read 2 = .ok (.putfield 22, 3) := by decide +kernel
theorem dX6_read_5 : decode cX6_read 5 = .ok (.aload_n 0, 1) := by decide +kernel
theorem dX6_read_6 : decode cX6_read 6 = .ok (.aload_n 0, 1) := by decide +kernel
theorem dX6_read_7 : decode cX6_read 7 = .ok (.getfield 9, 3) := by decide +kernel
theorem dX6_read_10 : decode cX6_read 10 = .ok (.getfield 26, 3) := by decide +kernel
theorem dX6_read_13 : decode cX6_read 13 = .ok (.iload_n 1, 1) := by decide +kernel
theorem dX6_read_14 : decode cX6_read 14 = .ok (.iaload, 1) := by decide +kernel
theorem dX6_read_15 : decode cX6_read 15 = .ok (.putfield 32, 3) := by decide +kernel
theorem dX6_read_18 : decode cX6_read 18 = .ok (.iconst 0, 1) := by decide +kernel
theorem dX6_read_19 : decode cX6_read 19 = .ok (.istore_n 2, 1) := by decide +kernel
theorem dX6_read_20 : decode cX6_read 20 = .ok (.iload_n 2, 1) := by decide +kernel
theorem dX6_read_21 : decode cX6_read 21 = .ok (.aload_n 0, 1) := by decide +kernel
theorem dX6_read_22 : decode cX6_read 22 = .ok (.getfield 32, 3) := by decide +kernel
theorem dX6_read_25 : decode cX6_read 25 = .ok (.if_icmp .ge 44, 3) := by decide +kernel
theorem dX6_read_28 : decode cX6_read 28 = .ok (.iconst 0, 1) := by decide +kernel
theorem dX6_read_29 : decode cX6_read 29 = .ok (.istore_n 3, 1) := by decide +kernel
theorem dX6_read_30 : decode cX6_read 30 = .ok (.iload_n 3, 1) := by decide +kernel
theorem dX6_read_31 : decode cX6_read 31 = .ok (.aload_n 0, 1) := by decide +kernel
theorem dX6_read_32 : decode cX6_read 32 = .ok (.getfield 9, 3) := by decide +kernel
theorem dX6_read_35 : decode cX6_read 35 = .ok (.getfield 35, 3) := by decide +kernel
theorem dX6_read_38 : decode cX6_read 38 = .ok (.if_icmp .ge 25, 3) := by decide +kernel
theorem dX6_read_41 : decode cX6_read 41 = .ok (.aload_n 0, 1) := by decide +kernel
theorem dX6_read_42 : decode cX6_read 42 = .ok (.getfield 15, 3) := by decide +kernel
theorem dX6_read_45 : decode cX6_read 45 = .ok (.iload_n 2, 1) := by decide +kernel
theorem dX6_read_46 : decode cX6_read 46 = .ok (.iconst 4, 1) := by decide +kernel
theorem dX6_read_47 : decode cX6_read 47 = .ok (.imul, 1) := by decide +kernel
theorem dX6_read_48 : decode cX6_read 48 = .ok (.iload_n 3, 1) := by decide +kernel
theorem dX6_read_49 : decode cX6_read 49 = .ok (.iadd, 1) := by decide +kernel
theorem dX6_read_50 : decode cX6_read 50 = .ok (.aload_n 0, 1) := by decide +kernel
theorem dX6_read_51 : decode cX6_read 51 = .ok (.iload_n 2, 1) := by decide +kernel
theorem dX6_read_52 : decode cX6_read 52 = .ok (.iload_n 3, 1) := by decide +kernel
theorem dX6_read_53 : decode cX6_read 53 = .ok (.invokevirtual 38, 3) := by decide +kernel
theorem dX6_read_56 : decode cX6_read 56 = .ok (.lastore, 1) := by decide +kernel
theorem dX6_read_57 : decode cX6_read 57 = .ok (.iinc 3 1, 3) := by decide +kernel
theorem dX6_read_60 : decode cX6_read 60 = .ok (.goto (-30), 3) := by decide +kernel
theorem dX6_read_63 : decode cX6_read 63 = .ok (.iinc 2 1, 3) := by decide +kernel
theorem dX6_read_66 : decode cX6_read 66 = .ok (.goto (-46), 3) := by decide +kernel
theorem dX6_read_69 : decode cX6_read 69 = .ok (.aload_n 0, 1) := by decide +kernel
theorem dX6_read_70 : decode cX6_read 70 = .ok (.getfield 32, 3) := by decide +kernel
theorem dX6_read_73 : decode cX6_read 73 = .ok (.iconst 1, 1) := by decide +kernel
theorem dX6_read_74 : decode cX6_read 74 = .ok (.isub, 1) := by decide +kernel
theorem dX6_read_75 : decode cX6_read 75 = .ok (.istore_n 2, 1) := by decide +kernel
theorem dX6_read_76 : decode cX6_read 76 = .ok (.iload_n 2, 1) := by decide +kernel
theorem dX6_read_77 : decode cX6_read 77 = .ok (.ifCond .lt 44, 3) := by decide +kernel
theorem dX6_read_80 : decode cX6_read 80 = .ok (.iconst 0, 1) := by decide +kernel
theorem dX6_read_81 : decode cX6_read 81 = .ok (.istore_n 3, 1) := by decide +kernel
theorem dX6_read_82 : decode cX6_read 82 = .ok (.iload_n 3, 1) := by decide +kernel
theorem dX6_read_83 : decode cX6_read 83 = .ok (.aload_n 0, 1) := by decide +kernel
theorem dX6_read_84 : decode cX6_read 84 = .ok (.getfield 9, 3) := by decide +kernel
theorem dX6_read_87 : decode cX6_read 87 = .ok (.getfield 35, 3) := by decide +kernel
theorem dX6_read_90 : decode cX6_read 90 = .ok (.if_icmp .ge 25, 3) := by decide +kernel
theorem dX6_read_93 : decode cX6_read 93 = .ok (.aload_n 0, 1) := by decide +kernel
theorem dX6_read_94 : decode cX6_read 94 = .ok (.getfield 19, 3) := by decide +kernel
theorem dX6_read_97 : decode cX6_read 97 = .ok (.iload_n 2, 1) := by decide +kernel
theorem dX6_read_98 : decode cX6_read 98 = .ok (.iconst 4, 1) := by decide +kernel
theorem dX6_read_99 : decode cX6_read 99 = .ok (.imul, 1) := by decide +kernel
theorem dX6_read_100 : decode cX6_read 100 = .ok (.iload_n 3, 1) := by decide +kernel
theorem dX6_read_101 : decode cX6_read 101 = .ok (.iadd, 1) := by decide +kernel
theorem dX6_read_102 : decode cX6_read 102 = .ok (.aload_n 0, 1) := by decide +kernel
theorem dX6_read_103 : decode cX6_read 103 = .ok (.iload_n 2, 1) := by decide +kernel
theorem dX6_read_104 : decode cX6_read 104 = .ok (.iload_n 3, 1) := by decide +kernel
theorem dX6_read_105 : decode cX6_read 105 = .ok (.invokevirtual 42, 3) := by decide +kernel
theorem dX6_read_108 : decode cX6_read 108 = .ok (.lastore, 1) := by decide +kernel
theorem dX6_read_109 : decode cX6_read 109 = .ok (.iinc 3 1, 3) := by decide +kernel
theorem dX6_read_112 : decode cX6_read 112 = .ok (.goto (-30), 3) := by decide +kernel
theorem dX6_read_115 : decode cX6_read 115 = .ok (.iinc 2 (-1), 3) := by decide +kernel
theorem dX6_read_118 : decode cX6_read 118 = .ok (.goto (-42), 3) := by decide +kernel
theorem dX6_read_121 : decode cX6_read 121 = .ok (.aload_n 0, 1) := by decide +kernel
theorem dX6_read_122 : decode cX6_read 122 = .ok (.lconst 0, 1) := by decide +kernel
theorem dX6_read_123 : decode cX6_read 123 = .ok (.putfield 45, 3) := by decide +kernel
theorem dX6_read_126 : decode cX6_read 126 = .ok (.iconst 0, 1) := by decide +kernel
theorem dX6_read_127 : decode cX6_read 127 = .ok (.istore_n 2, 1) := by decide +kernel
theorem dX6_read_128 : decode cX6_read 128 = .ok (.iload_n 2, 1) := by decide +kernel
theorem dX6_read_129 : decode cX6_read 129 = .ok (.aload_n 0, 1) := by decide +kernel
theorem dX6_read_130 : decode cX6_read 130 = .ok (.getfield 9, 3) := by decide +kernel
theorem dX6_read_133 : decode cX6_read 133 = .ok (.getfield 35, 3) := by decide +kernel
theorem dX6_read_136 : decode cX6_read 136 = .ok (.if_icmp .ge 24, 3) := by decide +kernel
theorem dX6_read_139 : decode cX6_read 139 = .ok (.aload_n 0, 1) := by decide +kernel
theorem dX6_read_140 : decode cX6_read 140 = .ok (.dup, 1) := by decide +kernel
theorem dX6_read_141 : decode cX6_read 141 = .ok (.getfield 45, 3) := by decide +kernel
theorem dX6_read_144 : decode cX6_read 144 = .ok (.aload_n 0, 1) := by decide +kernel
theorem dX6_read_145 : decode cX6_read 145 = .ok (.iconst 0, 1) := by decide +kernel
theorem dX6_read_146 : decode cX6_read 146 = .ok (.iload_n 2, 1) := by decide +kernel
theorem dX6_read_147 : decode cX6_read 147 = .ok (.invokevirtual 49, 3) := by decide +kernel
theorem dX6_read_150 : decode cX6_read 150 = .ok (.ladd, 1) := by decide +kernel
theorem dX6_read_151 : decode cX6_read 151 = .ok (.putfield 45, 3) := by decide +kernel
theorem dX6_read_154 : decode cX6_read 154 = .ok (.iinc 2 1, 3) := by decide +kernel
theorem dX6_read_157 : decode cX6_read 157 = .ok (.goto (-29), 3) := by decide +kernel
theorem dX6_read_160 : decode cX6_read 160 = .ok (.return_, 1) := by decide +kernel
