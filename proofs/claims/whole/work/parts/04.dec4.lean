theorem dX8_learnsFamily_0 : decode cX8_learnsFamily 0 = .ok (.lconst 0, 1) := by decide +kernel
theorem dX8_learnsFamily_1 : decode cX8_learnsFamily 1 = .ok (.lstore_n 3, 1) := by decide +kernel
theorem dX8_learnsFamily_2 : decode cX8_learnsFamily 2 = .ok (.iconst 0, 1) := by decide +kernel
theorem dX8_learnsFamily_3 : decode cX8_learnsFamily 3 = .ok (.istore 5, 2) := by decide +kernel
theorem dX8_learnsFamily_5 : decode cX8_learnsFamily 5 = .ok (.iload 5, 2) := by decide +kernel
theorem dX8_learnsFamily_7 : decode cX8_learnsFamily 7 = .ok (.iload_n 2, 1) := by decide +kernel
theorem dX8_learnsFamily_8 : decode cX8_learnsFamily 8 = .ok (.if_icmp .ge 41, 3) := by decide +kernel
theorem dX8_learnsFamily_11 : decode cX8_learnsFamily 11 = .ok (.aload_n 0, 1) := by decide +kernel
theorem dX8_learnsFamily_12 : decode cX8_learnsFamily 12 = .ok (.getfield 38, 3) := by decide +kernel
theorem dX8_learnsFamily_15 : decode cX8_learnsFamily 15 = .ok (.iload_n 1, 1) := by decide +kernel
theorem dX8_learnsFamily_16 : decode cX8_learnsFamily 16 = .ok (.iconst 3, 1) := by decide +kernel
theorem dX8_learnsFamily_17 : decode cX8_learnsFamily 17 = .ok (.isub, 1) := by decide +kernel
theorem dX8_learnsFamily_18 : decode cX8_learnsFamily 18 = .ok (.iload 5, 2) := by decide +kernel
theorem dX8_learnsFamily_20 : decode cX8_learnsFamily 20 = .ok (.iadd, 1) := by decide +kernel
theorem dX8_learnsFamily_21 : decode cX8_learnsFamily 21 = .ok (.laload, 1) := by decide +kernel
theorem dX8_learnsFamily_22 : decode cX8_learnsFamily 22 = .ok (.lload_n 3, 1) := by decide +kernel
theorem dX8_learnsFamily_23 : decode cX8_learnsFamily 23 = .ok (.lcmp, 1) := by decide +kernel
theorem dX8_learnsFamily_24 : decode cX8_learnsFamily 24 = .ok (.ifCond .le 17, 3) := by decide +kernel
theorem dX8_learnsFamily_27 : decode cX8_learnsFamily 27 = .ok (.aload_n 0, 1) := by decide +kernel
theorem dX8_learnsFamily_28 : decode cX8_learnsFamily 28 = .ok (.getfield 38, 3) := by decide +kernel
theorem dX8_learnsFamily_31 : decode cX8_learnsFamily 31 = .ok (.iload_n 1, 1) := by decide +kernel
theorem dX8_learnsFamily_32 : decode cX8_learnsFamily 32 = .ok (.iconst 3, 1) := by decide +kernel
theorem dX8_learnsFamily_33 : decode cX8_learnsFamily 33 = .ok (.isub, 1) := by decide +kernel
theorem dX8_learnsFamily_34 : decode cX8_learnsFamily 34 = .ok (.iload 5, 2) := by decide +kernel
theorem dX8_learnsFamily_36 : decode cX8_learnsFamily 36 = .ok (.iadd, 1) := by decide +kernel
theorem dX8_learnsFamily_37 : decode cX8_learnsFamily 37 = .ok (.laload, 1) := by decide +kernel
theorem dX8_learnsFamily_38 : decode cX8_learnsFamily 38 = .ok (.goto 4, 3) := by decide +kernel
theorem dX8_learnsFamily_41 : decode cX8_learnsFamily 41 = .ok (.lload_n 3, 1) := by decide +kernel
theorem dX8_learnsFamily_42 : decode cX8_learnsFamily 42 = .ok (.lstore_n 3, 1) := by decide +kernel
theorem dX8_learnsFamily_43 : decode cX8_learnsFamily 43 = .ok (.iinc 5 1, 3) := by decide +kernel
theorem dX8_learnsFamily_46 : decode cX8_learnsFamily 46 = .ok (.goto (-41), 3) := by decide +kernel
theorem dX8_learnsFamily_49 : decode cX8_learnsFamily 49 = .ok (.iconst 0, 1) := by decide +kernel
theorem dX8_learnsFamily_50 : decode cX8_learnsFamily 50 = .ok (.istore 5, 2) := by decide +kernel
theorem dX8_learnsFamily_52 : decode cX8_learnsFamily 52 = .ok (.iconst 0, 1) := by decide +kernel
theorem dX8_learnsFamily_53 : decode cX8_learnsFamily 53 = .ok (.istore 6, 2) := by decide +kernel
theorem dX8_learnsFamily_55 : decode cX8_learnsFamily 55 = .ok (.iload 6, 2) := by decide +kernel
theorem dX8_learnsFamily_57 : decode cX8_learnsFamily 57 = .ok (.iload_n 2, 1) := by decide +kernel
theorem dX8_learnsFamily_58 : decode cX8_learnsFamily 58 = .ok (.if_icmp .ge 78, 3) := by decide +kernel
theorem dX8_learnsFamily_61 : decode cX8_learnsFamily 61 = .ok (.lload_n 3, 1) := by decide +kernel
theorem dX8_learnsFamily_62 : decode cX8_learnsFamily 62 = .ok (.lconst 0, 1) := by decide +kernel
theorem dX8_learnsFamily_63 : decode cX8_learnsFamily 63 = .ok (.lcmp, 1) := by decide +kernel
theorem dX8_learnsFamily_64 : decode cX8_learnsFamily 64 = .ok (.ifCond .le 72, 3) := by decide +kernel
theorem dX8_learnsFamily_67 : decode cX8_learnsFamily 67 = .ok (.ldc2_w 147, 3) := by decide +kernel
theorem dX8_learnsFamily_70 : decode cX8_learnsFamily 70 = .ok (.aload_n 0, 1) := by decide +kernel
theorem dX8_learnsFamily_71 : decode cX8_learnsFamily 71 = .ok (.getfield 38, 3) := by decide +kernel
theorem dX8_learnsFamily_74 : decode cX8_learnsFamily 74 = .ok (.iload_n 1, 1) := by decide +kernel
theorem dX8_learnsFamily_75 : decode cX8_learnsFamily 75 = .ok (.iconst 3, 1) := by decide +kernel
theorem dX8_learnsFamily_76 : decode cX8_learnsFamily 76 = .ok (.isub, 1) := by decide +kernel
theorem dX8_learnsFamily_77 : decode cX8_learnsFamily 77 = .ok (.iload 6, 2) := by decide +kernel
theorem dX8_learnsFamily_79 : decode cX8_learnsFamily 79 = .ok (.iadd, 1) := by decide +kernel
theorem dX8_learnsFamily_80 : decode cX8_learnsFamily 80 = .ok (.laload, 1) := by decide +kernel
theorem dX8_learnsFamily_81 : decode cX8_learnsFamily 81 = .ok (.lmul, 1) := by decide +kernel
theorem dX8_learnsFamily_82 : decode cX8_learnsFamily 82 = .ok (.lload_n 3, 1) := by decide +kernel
theorem dX8_learnsFamily_83 : decode cX8_learnsFamily 83 = .ok (.ldc2_w 149, 3) := by decide +kernel
theorem dX8_learnsFamily_86 : decode cX8_learnsFamily 86 = .ok (.ldiv, 1) := by decide +kernel
theorem dX8_learnsFamily_87 : decode cX8_learnsFamily 87 = .ok (.ladd, 1) := by decide +kernel
theorem dX8_learnsFamily_88 : decode cX8_learnsFamily 88 = .ok (.lload_n 3, 1) := by decide +kernel
theorem dX8_learnsFamily_89 : decode cX8_learnsFamily 89 = .ok (.ldiv, 1) := by decide +kernel
theorem dX8_learnsFamily_90 : decode cX8_learnsFamily 90 = .ok (.l2i, 1) := by decide +kernel
theorem dX8_learnsFamily_91 : decode cX8_learnsFamily 91 = .ok (.istore 7, 2) := by decide +kernel
theorem dX8_learnsFamily_93 : decode cX8_learnsFamily 93 = .ok (.iload 5, 2) := by decide +kernel
theorem dX8_learnsFamily_95 : decode cX8_learnsFamily 95 = .ok (.ifCond .ne 17, 3) := by decide +kernel
theorem dX8_learnsFamily_98 : decode cX8_learnsFamily 98 = .ok (.iload 7, 2) := by decide +kernel
theorem dX8_learnsFamily_100 : decode cX8_learnsFamily 100 = .ok (.aload_n 0, 1) := by decide +kernel
theorem dX8_learnsFamily_101 : decode cX8_learnsFamily 101 = .ok (.getfield 7, 3) := by decide +kernel
theorem dX8_learnsFamily_104 : decode cX8_learnsFamily 104 = .ok (.iload_n 1, 1) := by decide +kernel
theorem dX8_learnsFamily_105 : decode cX8_learnsFamily 105 = .ok (.iload 6, 2) := by decide +kernel
theorem dX8_learnsFamily_107 : decode cX8_learnsFamily 107 = .ok (.iadd, 1) := by decide +kernel
theorem dX8_learnsFamily_108 : decode cX8_learnsFamily 108 = .ok (.iaload, 1) := by decide +kernel
theorem dX8_learnsFamily_109 : decode cX8_learnsFamily 109 = .ok (.if_icmp .eq 7, 3) := by decide +kernel
theorem dX8_learnsFamily_112 : decode cX8_learnsFamily 112 = .ok (.iconst 1, 1) := by decide +kernel
theorem dX8_learnsFamily_113 : decode cX8_learnsFamily 113 = .ok (.goto 4, 3) := by decide +kernel
theorem dX8_learnsFamily_116 : decode cX8_learnsFamily 116 = .ok (.iconst 0, 1) := by decide +kernel
theorem dX8_learnsFamily_117 : decode cX8_learnsFamily 117 = .ok (.istore 5, 2) := by decide +kernel
theorem dX8_learnsFamily_119 : decode cX8_learnsFamily 119 = .ok (.aload_n 0, 1) := by decide +kernel
theorem dX8_learnsFamily_120 : decode cX8_learnsFamily 120 = .ok (.getfield 7, 3) := by decide +kernel
theorem dX8_learnsFamily_123 : decode cX8_learnsFamily 123 = .ok (.iload_n 1, 1) := by decide +kernel
theorem dX8_learnsFamily_124 : decode cX8_learnsFamily 124 = .ok (.iload 6, 2) := by decide +kernel
theorem dX8_learnsFamily_126 : decode cX8_learnsFamily 126 = .ok (.iadd, 1) := by decide +kernel
theorem dX8_learnsFamily_127 : decode cX8_learnsFamily 127 = .ok (.iload 7, 2) := by decide +kernel
theorem dX8_learnsFamily_129 : decode cX8_learnsFamily 129 = .ok (.iastore, 1) := by decide +kernel
theorem dX8_learnsFamily_130 : decode cX8_learnsFamily 130 = .ok (.iinc 6 1, 3) := by decide +kernel
theorem dX8_learnsFamily_133 : decode cX8_learnsFamily 133 = .ok (.goto (-78), 3) := by decide +kernel
theorem dX8_learnsFamily_136 : decode cX8_learnsFamily 136 = .ok (.iload 5, 2) := by decide +kernel
theorem dX8_learnsFamily_138 : decode cX8_learnsFamily 138 = .ok (.ireturn, 1) := by decide +kernel
theorem dX8_learnsOnce_0 : decode cX8_learnsOnce 0 = .ok (.iconst 0, 1) := by decide +kernel
theorem dX8_learnsOnce_1 : decode cX8_learnsOnce 1 = .ok (.istore_n 1, 1) := by decide +kernel
theorem dX8_learnsOnce_2 : decode cX8_learnsOnce 2 = .ok (.iload_n 1, 1) := by decide +kernel
theorem dX8_learnsOnce_3 : decode cX8_learnsOnce 3 = .ok (.bipush 32, 2) := by decide +kernel
theorem dX8_learnsOnce_5 : decode cX8_learnsOnce 5 = .ok (.if_icmp .ge 16, 3) := by decide +kernel
theorem dX8_learnsOnce_8 : decode cX8_learnsOnce 8 = .ok (.aload_n 0, 1) := by decide +kernel
theorem dX8_learnsOnce_9 : decode cX8_learnsOnce 9 = .ok (.getfield 38, 3) := by decide +kernel
theorem dX8_learnsOnce_12 : decode cX8_learnsOnce 12 = .ok (.iload_n 1, 1) := by decide +kernel
theorem dX8_learnsOnce_13 : decode cX8_learnsOnce 13 = .ok (.lconst 0, 1) := by decide +kernel
theorem dX8_learnsOnce_14 : decode cX8_learnsOnce 14 = .ok (.lastore, 1) := by decide +kernel
theorem dX8_learnsOnce_15 : decode cX8_learnsOnce 15 = .ok (.iinc 1 1, 3) := by decide +kernel
theorem dX8_learnsOnce_18 : decode cX8_learnsOnce 18 = .ok (.goto (-16), 3) := by decide +kernel
theorem dX8_learnsOnce_21 : decode cX8_learnsOnce 21 = .ok (.iconst 0, 1) := by decide +kernel
theorem dX8_learnsOnce_22 : decode cX8_learnsOnce 22 = .ok (.istore_n 1, 1) := by decide +kernel
theorem dX8_learnsOnce_23 : decode cX8_learnsOnce 23 = .ok (.iload_n 1, 1) := by decide +kernel
theorem dX8_learnsOnce_24 : decode cX8_learnsOnce 24 = .ok (.aload_n 0, 1) := by decide +kernel
theorem dX8_learnsOnce_25 : decode cX8_learnsOnce 25 = .ok (.getfield 7, 3) := by decide +kernel
theorem dX8_learnsOnce_28 : decode cX8_learnsOnce 28 = .ok (.iconst 1, 1) := by decide +kernel
theorem dX8_learnsOnce_29 : decode cX8_learnsOnce 29 = .ok (.iaload, 1) := by decide +kernel
theorem dX8_learnsOnce_30 : decode cX8_learnsOnce 30 = .ok (.if_icmp .ge 31, 3) := by decide +kernel
theorem dX8_learnsOnce_33 : decode cX8_learnsOnce 33 = .ok (.aload_n 0, 1) := by decide +kernel
theorem dX8_learnsOnce_34 : decode cX8_learnsOnce 34 = .ok (.iload_n 1, 1) := by decide +kernel
theorem dX8_learnsOnce_35 : decode cX8_learnsOnce 35 = .ok (.invokevirtual 151, 3) := by decide +kernel
theorem dX8_learnsOnce_38 : decode cX8_learnsOnce 38 = .ok (.aload_n 0, 1) := by decide +kernel
theorem dX8_learnsOnce_39 : decode cX8_learnsOnce 39 = .ok (.invokevirtual 154, 3) := by decide +kernel
theorem dX8_learnsOnce_42 : decode cX8_learnsOnce 42 = .ok (.lstore_n 2, 1) := by decide +kernel
theorem dX8_learnsOnce_43 : decode cX8_learnsOnce 43 = .ok (.lload_n 2, 1) := by decide +kernel
theorem dX8_learnsOnce_44 : decode cX8_learnsOnce 44 = .ok (.lconst 0, 1) := by decide +kernel
theorem dX8_learnsOnce_45 : decode cX8_learnsOnce 45 = .ok (.lcmp, 1) := by decide +kernel
theorem dX8_learnsOnce_46 : decode cX8_learnsOnce 46 = .ok (.ifCond .le 9, 3) := by decide +kernel
theorem dX8_learnsOnce_49 : decode cX8_learnsOnce 49 = .ok (.aload_n 0, 1) := by decide +kernel
theorem dX8_learnsOnce_50 : decode cX8_learnsOnce 50 = .ok (.iload_n 1, 1) := by decide +kernel
theorem dX8_learnsOnce_51 : decode cX8_learnsOnce 51 = .ok (.lload_n 2, 1) := by decide +kernel
theorem dX8_learnsOnce_52 : decode cX8_learnsOnce 52 = .ok (.invokevirtual 157, 3) := by decide +kernel
theorem dX8_learnsOnce_55 : decode cX8_learnsOnce 55 = .ok (.iinc 1 1, 3) := by decide +kernel
theorem dX8_learnsOnce_58 : decode cX8_learnsOnce 58 = .ok (.goto (-35), 3) := by decide +kernel
theorem dX8_learnsOnce_61 : decode cX8_learnsOnce 61 = .ok (.aload_n 0, 1) := by decide +kernel
theorem dX8_learnsOnce_62 : decode cX8_learnsOnce 62 = .ok (.iconst 3, 1) := by decide +kernel
theorem dX8_learnsOnce_63 : decode cX8_learnsOnce 63 = .ok (.aload_n 0, 1) := by decide +kernel
theorem dX8_learnsOnce_64 : decode cX8_learnsOnce 64 = .ok (.getfield 7, 3) := by decide +kernel
theorem dX8_learnsOnce_67 : decode cX8_learnsOnce 67 = .ok (.iconst 0, 1) := by decide +kernel
theorem dX8_learnsOnce_68 : decode cX8_learnsOnce 68 = .ok (.iaload, 1) := by decide +kernel
theorem dX8_learnsOnce_69 : decode cX8_learnsOnce 69 = .ok (.invokevirtual 160, 3) := by decide +kernel
theorem dX8_learnsOnce_72 : decode cX8_learnsOnce 72 = .ok (.istore_n 1, 1) := by decide +kernel
theorem dX8_learnsOnce_73 : decode cX8_learnsOnce 73 = .ok (.iconst 0, 1) := by decide +kernel
theorem dX8_learnsOnce_74 : decode cX8_learnsOnce 74 = .ok (.istore_n 2, 1) := by decide +kernel
theorem dX8_learnsOnce_75 : decode cX8_learnsOnce 75 = .ok (.iload_n 2, 1) := by decide +kernel
theorem dX8_learnsOnce_76 : decode cX8_learnsOnce 76 = .ok (.aload_n 0, 1) := by decide +kernel
theorem dX8_learnsOnce_77 : decode cX8_learnsOnce 77 = .ok (.getfield 7, 3) := by decide +kernel
theorem dX8_learnsOnce_80 : decode cX8_learnsOnce 80 = .ok (.iconst 0, 1) := by decide +kernel
theorem dX8_learnsOnce_81 : decode cX8_learnsOnce 81 = .ok (.iaload, 1) := by decide +kernel
theorem dX8_learnsOnce_82 : decode cX8_learnsOnce 82 = .ok (.if_icmp .ge 62, 3) := by decide +kernel
theorem dX8_learnsOnce_85 : decode cX8_learnsOnce 85 = .ok (.aload_n 0, 1) := by decide +kernel
theorem dX8_learnsOnce_86 : decode cX8_learnsOnce 86 = .ok (.bipush 7, 2) := by decide +kernel
theorem dX8_learnsOnce_88 : decode cX8_learnsOnce 88 = .ok (.iconst 4, 1) := by decide +kernel
theorem dX8_learnsOnce_89 : decode cX8_learnsOnce 89 = .ok (.iload_n 2, 1) := by decide +kernel
theorem dX8_learnsOnce_90 : decode cX8_learnsOnce 90 = .ok (.imul, 1) := by decide +kernel
theorem dX8_learnsOnce_91 : decode cX8_learnsOnce 91 = .ok (.iadd, 1) := by decide +kernel
theorem dX8_learnsOnce_92 : decode cX8_learnsOnce 92 = .ok (.aload_n 0, 1) := by decide +kernel
theorem dX8_learnsOnce_93 : decode cX8_learnsOnce 93 = .ok (.getfield 7, 3) := by decide +kernel
theorem dX8_learnsOnce_96 : decode cX8_learnsOnce 96 = .ok (.iconst 0, 1) := by decide +kernel
theorem dX8_learnsOnce_97 : decode cX8_learnsOnce 97 = .ok (.iaload, 1) := by decide +kernel
theorem dX8_learnsOnce_98 : decode cX8_learnsOnce 98 = .ok (.invokevirtual 160, 3) := by decide +kernel
theorem dX8_learnsOnce_101 : decode cX8_learnsOnce 101 = .ok (.ifCond .ne 7, 3) := by decide +kernel
theorem dX8_learnsOnce_104 : decode cX8_learnsOnce 104 = .ok (.iload_n 1, 1) := by decide +kernel
theorem dX8_learnsOnce_105 : decode cX8_learnsOnce 105 = .ok (.ifCond .eq 7, 3) := by decide +kernel
theorem dX8_learnsOnce_108 : decode cX8_learnsOnce 108 = .ok (.iconst 1, 1) := by decide +kernel
theorem dX8_learnsOnce_109 : decode cX8_learnsOnce 109 = .ok (.goto 4, 3) := by decide +kernel
theorem dX8_learnsOnce_112 : decode cX8_learnsOnce 112 = .ok (.iconst 0, 1) := by decide +kernel
theorem dX8_learnsOnce_113 : decode cX8_learnsOnce 113 = .ok (.istore_n 1, 1) := by decide +kernel
theorem dX8_learnsOnce_114 : decode cX8_learnsOnce 114 = .ok (.aload_n 0, 1) := by decide +kernel
theorem dX8_learnsOnce_115 : decode cX8_learnsOnce 115 = .ok (.bipush 23, 2) := by decide +kernel
theorem dX8_learnsOnce_117 : decode cX8_learnsOnce 117 = .ok (.iconst 3, 1) := by decide +kernel
theorem dX8_learnsOnce_118 : decode cX8_learnsOnce 118 = .ok (.iload_n 2, 1) := by decide +kernel
theorem dX8_learnsOnce_119 : decode cX8_learnsOnce 119 = .ok (.imul, 1) := by decide +kernel
theorem dX8_learnsOnce_120 : decode cX8_learnsOnce 120 = .ok (.iadd, 1) := by decide +kernel
theorem dX8_learnsOnce_121 : decode cX8_learnsOnce 121 = .ok (.iconst 3, 1) := by decide +kernel
theorem dX8_learnsOnce_122 : decode cX8_learnsOnce 122 = .ok (.invokevirtual 160, 3) := by decide +kernel
theorem dX8_learnsOnce_125 : decode cX8_learnsOnce 125 = .ok (.ifCond .ne 7, 3) := by decide +kernel
theorem dX8_learnsOnce_128 : decode cX8_learnsOnce 128 = .ok (.iload_n 1, 1) := by decide +kernel
theorem dX8_learnsOnce_129 : decode cX8_learnsOnce 129 = .ok (.ifCond .eq 7, 3) := by decide +kernel
theorem dX8_learnsOnce_132 : decode cX8_learnsOnce 132 = .ok (.iconst 1, 1) := by decide +kernel
theorem dX8_learnsOnce_133 : decode cX8_learnsOnce 133 = .ok (.goto 4, 3) := by decide +kernel
theorem dX8_learnsOnce_136 : decode cX8_learnsOnce 136 = .ok (.iconst 0, 1) := by decide +kernel
theorem dX8_learnsOnce_137 : decode cX8_learnsOnce 137 = .ok (.istore_n 1, 1) := by decide +kernel
theorem dX8_learnsOnce_138 : decode cX8_learnsOnce 138 = .ok (.iinc 2 1, 3) := by decide +kernel
theorem dX8_learnsOnce_141 : decode cX8_learnsOnce 141 = .ok (.goto (-66), 3) := by decide +kernel
theorem dX8_learnsOnce_144 : decode cX8_learnsOnce 144 = .ok (.iload_n 1, 1) := by decide +kernel
theorem dX8_learnsOnce_145 : decode cX8_learnsOnce 145 = .ok (.ireturn, 1) := by decide +kernel
theorem dX8_learn_0 : decode cX8_learn 0 = .ok (.aload_n 0, 1) := by decide +kernel
theorem dX8_learn_1 : decode cX8_learn 1 = .ok (.iconst 0, 1) := by decide +kernel
theorem dX8_learn_2 : decode cX8_learn 2 = .ok (.putfield 50, 3) := by decide +kernel
theorem dX8_learn_5 : decode cX8_learn 5 = .ok (.iload_n 1, 1) := by decide +kernel
theorem dX8_learn_6 : decode cX8_learn 6 = .ok (.iconst 1, 1) := by decide +kernel
theorem dX8_learn_7 : decode cX8_learn 7 = .ok (.bipush 20, 2) := by decide +kernel
theorem dX8_learn_9 : decode cX8_learn 9 = .ok (.invokestatic 58, 3) := by decide +kernel
theorem dX8_learn_12 : decode cX8_learn 12 = .ok (.ifCond .ne 6, 3) := by decide +kernel
theorem dX8_learn_15 : decode cX8_learn 15 = .ok (.bipush (-2), 2) := by decide +kernel
theorem dX8_learn_17 : decode cX8_learn 17 = .ok (.ireturn, 1) := by decide +kernel
theorem dX8_learn_18 : decode cX8_learn 18 = .ok (.iconst 0, 1) := by decide +kernel
theorem dX8_learn_19 : decode cX8_learn 19 = .ok (.istore_n 2, 1) := by decide +kernel
theorem dX8_learn_20 : decode cX8_learn 20 = .ok (.iload_n 2, 1) := by decide +kernel
theorem dX8_learn_21 : decode cX8_learn 21 = .ok (.bipush 83, 2) := by decide +kernel
theorem dX8_learn_23 : decode cX8_learn 23 = .ok (.if_icmp .ge 21, 3) := by decide +kernel
theorem dX8_learn_26 : decode cX8_learn 26 = .ok (.aload_n 0, 1) := by decide +kernel
theorem dX8_learn_27 : decode cX8_learn 27 = .ok (.getfield 13, 3) := by decide +kernel
theorem dX8_learn_30 : decode cX8_learn 30 = .ok (.iload_n 2, 1) := by decide +kernel
theorem dX8_learn_31 : decode cX8_learn 31 = .ok (.aload_n 0, 1) := by decide +kernel
theorem dX8_learn_32 : decode cX8_learn 32 = .ok (.getfield 7, 3) := by decide +kernel
theorem dX8_learn_35 : decode cX8_learn 35 = .ok (.iload_n 2, 1) := by decide +kernel
theorem dX8_learn_36 : decode cX8_learn 36 = .ok (.iaload, 1) := by decide +kernel
theorem dX8_learn_37 : decode cX8_learn 37 = .ok (.iastore, 1) := by decide +kernel
theorem dX8_learn_38 : decode cX8_learn 38 = .ok (.iinc 2 1, 3) := by decide +kernel
theorem dX8_learn_41 : decode cX8_learn 41 = .ok (.goto (-21), 3) := by decide +kernel
theorem dX8_learn_44 : decode cX8_learn 44 = .ok (.iconst 0, 1) := by decide +kernel
theorem dX8_learn_45 : decode cX8_learn 45 = .ok (.istore_n 2, 1) := by decide +kernel
theorem dX8_learn_46 : decode cX8_learn 46 = .ok (.iload_n 2, 1) := by decide +kernel
theorem dX8_learn_47 : decode cX8_learn 47 = .ok (.iload_n 1, 1) := by decide +kernel
theorem dX8_learn_48 : decode cX8_learn 48 = .ok (.if_icmp .ge 16, 3) := by decide +kernel
theorem dX8_learn_51 : decode cX8_learn 51 = .ok (.aload_n 0, 1) := by decide +kernel
theorem dX8_learn_52 : decode cX8_learn 52 = .ok (.invokevirtual 164, 3) := by decide +kernel
theorem dX8_learn_55 : decode cX8_learn 55 = .ok (.ifCond .eq 9, 3) := by decide +kernel
theorem dX8_learn_58 : decode cX8_learn 58 = .ok (.iinc 2 1, 3) := by decide +kernel
theorem dX8_learn_61 : decode cX8_learn 61 = .ok (.goto (-15), 3) := by decide +kernel
theorem dX8_learn_64 : decode cX8_learn 64 = .ok (.iload_n 2, 1) := by decide +kernel
theorem dX8_learn_65 : decode cX8_learn 65 = .ok (.ifCond .ne 6, 3) := by decide +kernel
theorem dX8_learn_68 : decode cX8_learn 68 = .ok (.bipush (-5), 2) := by decide +kernel
theorem dX8_learn_70 : decode cX8_learn 70 = .ok (.ireturn, 1) := by decide +kernel
theorem dX8_learn_71 : decode cX8_learn 71 = .ok (.aload_n 0, 1) := by decide +kernel
theorem dX8_learn_72 : decode cX8_learn 72 = .ok (.invokevirtual 168, 3) := by decide +kernel
theorem dX8_learn_75 : decode cX8_learn 75 = .ok (.aload_n 0, 1) := by decide +kernel
theorem dX8_learn_76 : decode cX8_learn 76 = .ok (.invokevirtual 105, 3) := by decide +kernel
theorem dX8_learn_79 : decode cX8_learn 79 = .ok (.aload_n 0, 1) := by decide +kernel
theorem dX8_learn_80 : decode cX8_learn 80 = .ok (.invokevirtual 168, 3) := by decide +kernel
theorem dX8_learn_83 : decode cX8_learn 83 = .ok (.iload_n 2, 1) := by decide +kernel
theorem dX8_learn_84 : decode cX8_learn 84 = .ok (.ireturn, 1) := by decide +kernel
theorem dX8_swapsAside_0 : decode cX8_swapsAside 0 = .ok (.iconst 0, 1) := by decide +kernel
theorem dX8_swapsAside_1 : decode cX8_swapsAside 1 = .ok (.istore_n 1, 1) := by decide +kernel
theorem dX8_swapsAside_2 : decode cX8_swapsAside 2 = .ok (.iload_n 1, 1) := by decide +kernel
theorem dX8_swapsAside_3 : decode cX8_swapsAside 3 = .ok (.bipush 83, 2) := by decide +kernel
theorem dX8_swapsAside_5 : decode cX8_swapsAside 5 = .ok (.if_icmp .ge 35, 3) := by decide +kernel
theorem dX8_swapsAside_8 : decode cX8_swapsAside 8 = .ok (.aload_n 0, 1) := by decide +kernel
theorem dX8_swapsAside_9 : decode cX8_swapsAside 9 = .ok (.getfield 7, 3) := by decide +kernel
theorem dX8_swapsAside_12 : decode cX8_swapsAside 12 = .ok (.iload_n 1, 1) := by decide +kernel
theorem dX8_swapsAside_13 : decode cX8_swapsAside 13 = .ok (.iaload, 1) := by decide +kernel
theorem dX8_swapsAside_14 : decode cX8_swapsAside 14 = .ok (.istore_n 2, 1) := by decide +kernel
theorem dX8_swapsAside_15 : decode cX8_swapsAside 15 = .ok (.aload_n 0, 1) := by decide +kernel
theorem dX8_swapsAside_16 : decode cX8_swapsAside 16 = .ok (.getfield 7, 3) := by decide +kernel
theorem dX8_swapsAside_19 : decode cX8_swapsAside 19 = .ok (.iload_n 1, 1) := by decide +kernel
theorem dX8_swapsAside_20 : decode cX8_swapsAside 20 = .ok (.aload_n 0, 1) := by decide +kernel
theorem dX8_swapsAside_21 : decode cX8_swapsAside 21 = .ok (.getfield 13, 3) := by decide +kernel
theorem dX8_swapsAside_24 : decode cX8_swapsAside 24 = .ok (.iload_n 1, 1) := by decide +kernel
theorem dX8_swapsAside_25 : decode cX8_swapsAside 25 = .ok (.iaload, 1) := by decide +kernel
theorem dX8_swapsAside_26 : decode cX8_swapsAside 26 = .ok (.iastore, 1) := by decide +kernel
theorem dX8_swapsAside_27 : decode cX8_swapsAside 27 = .ok (.aload_n 0, 1) := by decide +kernel
theorem dX8_swapsAside_28 : decode cX8_swapsAside 28 = .ok (.getfield 13, 3) := by decide +kernel
theorem dX8_swapsAside_31 : decode cX8_swapsAside 31 = .ok (.iload_n 1, 1) := by decide +kernel
theorem dX8_swapsAside_32 : decode cX8_swapsAside 32 = .ok (.iload_n 2, 1) := by decide +kernel
theorem dX8_swapsAside_33 : decode cX8_swapsAside 33 = .ok (.iastore, 1) := by decide +kernel
theorem dX8_swapsAside_34 : decode cX8_swapsAside 34 = .ok (.iinc 1 1, 3) := by decide +kernel
theorem dX8_swapsAside_37 : decode cX8_swapsAside 37 = .ok (.goto (-35), 3) := by decide +kernel
theorem dX8_swapsAside_40 : decode cX8_swapsAside 40 = .ok (.return_, 1) := by decide +kernel
theorem dX8_type_0 : decode cX8_type 0 = .ok (.aload_n 0, 1) := by decide +kernel
theorem dX8_type_1 : decode cX8_type 1 = .ok (.iconst 0, 1) := by decide +kernel
theorem dX8_type_2 : decode cX8_type 2 = .ok (.putfield 50, 3) := by decide +kernel
theorem dX8_type_5 : decode cX8_type 5 = .ok (.aload_n 0, 1) := by decide +kernel
theorem dX8_type_6 : decode cX8_type 6 = .ok (.getfield 120, 3) := by decide +kernel
theorem dX8_type_9 : decode cX8_type 9 = .ok (.bipush 60, 2) := by decide +kernel
theorem dX8_type_11 : decode cX8_type 11 = .ok (.if_icmp .ne 6, 3) := by decide +kernel
theorem dX8_type_14 : decode cX8_type 14 = .ok (.bipush (-3), 2) := by decide +kernel
theorem dX8_type_16 : decode cX8_type 16 = .ok (.ireturn, 1) := by decide +kernel
theorem dX8_type_17 : decode cX8_type 17 = .ok (.aload_n 0, 1) := by decide +kernel
theorem dX8_type_18 : decode cX8_type 18 = .ok (.getfield 22, 3) := by decide +kernel
theorem dX8_type_21 : decode cX8_type 21 = .ok (.aload_n 0, 1) := by decide +kernel
theorem dX8_type_22 : decode cX8_type 22 = .ok (.getfield 120, 3) := by decide +kernel
theorem dX8_type_25 : decode cX8_type 25 = .ok (.iload_n 1, 1) := by decide +kernel
theorem dX8_type_26 : decode cX8_type 26 = .ok (.iastore, 1) := by decide +kernel
theorem dX8_type_27 : decode cX8_type 27 = .ok (.aload_n 0, 1) := by decide +kernel
theorem dX8_type_28 : decode cX8_type 28 = .ok (.dup, 1) := by decide +kernel
theorem dX8_type_29 : decode cX8_type 29 = .ok (.getfield 120, 3) := by decide +kernel
theorem dX8_type_32 : decode cX8_type 32 = .ok (.iconst 1, 1) := by decide +kernel
theorem dX8_type_33 : decode cX8_type 33 = .ok (.iadd, 1) := by decide +kernel
theorem dX8_type_34 : decode cX8_type 34 = .ok (.putfield 120, 3) := by decide +kernel
theorem dX8_type_37 : decode cX8_type 37 = .ok (.aload_n 0, 1) := by decide +kernel
theorem dX8_type_38 : decode cX8_type 38 = .ok (.getfield 120, 3) := by decide +kernel
theorem dX8_type_41 : decode cX8_type 41 = .ok (.ireturn, 1) := by decide +kernel
theorem dX8_clearText_0 : decode cX8_clearText 0 = .ok (.aload_n 0, 1) := by decide +kernel
theorem dX8_clearText_1 : decode cX8_clearText 1 = .ok (.iconst 0, 1) := by decide +kernel
theorem dX8_clearText_2 : decode cX8_clearText 2 = .ok (.putfield 50, 3) := by decide +kernel
theorem dX8_clearText_5 : decode cX8_clearText 5 = .ok (.aload_n 0, 1) := by decide +kernel
theorem dX8_clearText_6 : decode cX8_clearText 6 = .ok (.getfield 120, 3) := by decide +kernel
theorem dX8_clearText_9 : decode cX8_clearText 9 = .ok (.istore_n 1, 1) := by decide +kernel
theorem dX8_clearText_10 : decode cX8_clearText 10 = .ok (.aload_n 0, 1) := by decide +kernel
theorem dX8_clearText_11 : decode cX8_clearText 11 = .ok (.iconst 0, 1) := by decide +kernel
theorem dX8_clearText_12 : decode cX8_clearText 12 = .ok (.putfield 120, 3) := by decide +kernel
theorem dX8_clearText_15 : decode cX8_clearText 15 = .ok (.iload_n 1, 1) := by decide +kernel
theorem dX8_clearText_16 : decode cX8_clearText 16 = .ok (.ireturn, 1) := by decide +kernel
theorem dX8_undo_0 : decode cX8_undo 0 = .ok (.aload_n 0, 1) := by decide +kernel
theorem dX8_undo_1 : decode cX8_undo 1 = .ok (.iconst 0, 1) := by decide +kernel
theorem dX8_undo_2 : decode cX8_undo 2 = .ok (.putfield 50, 3) := by decide +kernel
theorem dX8_undo_5 : decode cX8_undo 5 = .ok (.aload_n 0, 1) := by decide +kernel
theorem dX8_undo_6 : decode cX8_undo 6 = .ok (.getfield 62, 3) := by decide +kernel
theorem dX8_undo_9 : decode cX8_undo 9 = .ok (.ifCond .ne 6, 3) := by decide +kernel
theorem dX8_undo_12 : decode cX8_undo 12 = .ok (.bipush (-5), 2) := by decide +kernel
theorem dX8_undo_14 : decode cX8_undo 14 = .ok (.ireturn, 1) := by decide +kernel
theorem dX8_undo_15 : decode cX8_undo 15 = .ok (.aload_n 0, 1) := by decide +kernel
theorem dX8_undo_16 : decode cX8_undo 16 = .ok (.dup, 1) := by decide +kernel
theorem dX8_undo_17 : decode cX8_undo 17 = .ok (.getfield 62, 3) := by decide +kernel
theorem dX8_undo_20 : decode cX8_undo 20 = .ok (.iconst 1, 1) := by decide +kernel
theorem dX8_undo_21 : decode cX8_undo 21 = .ok (.isub, 1) := by decide +kernel
theorem dX8_undo_22 : decode cX8_undo 22 = .ok (.putfield 62, 3) := by decide +kernel
theorem dX8_undo_25 : decode cX8_undo 25 = .ok (.iconst 0, 1) := by decide +kernel
theorem dX8_undo_26 : decode cX8_undo 26 = .ok (.istore_n 1, 1) := by decide +kernel
theorem dX8_undo_27 : decode cX8_undo 27 = .ok (.iload_n 1, 1) := by decide +kernel
theorem dX8_undo_28 : decode cX8_undo 28 = .ok (.bipush 83, 2) := by decide +kernel
theorem dX8_undo_30 : decode cX8_undo 30 = .ok (.if_icmp .ge 29, 3) := by decide +kernel
theorem dX8_undo_33 : decode cX8_undo 33 = .ok (.aload_n 0, 1) := by decide +kernel
theorem dX8_undo_34 : decode cX8_undo 34 = .ok (.getfield 7, 3) := by decide +kernel
theorem dX8_undo_37 : decode cX8_undo 37 = .ok (.iload_n 1, 1) := by decide +kernel
theorem dX8_undo_38 : decode cX8_undo 38 = .ok (.aload_n 0, 1) := by decide +kernel
theorem dX8_undo_39 : decode cX8_undo 39 = .ok (.getfield 16, 3) := by decide +kernel
theorem dX8_undo_42 : decode cX8_undo 42 = .ok (.bipush 83, 2) := by decide +kernel
theorem dX8_undo_44 : decode cX8_undo 44 = .ok (.aload_n 0, 1) := by decide +kernel
theorem dX8_undo_45 : decode cX8_undo 45 = .ok (.getfield 62, 3) := by decide +kernel
theorem dX8_undo_48 : decode cX8_undo 48 = .ok (.imul, 1) := by decide +kernel
theorem dX8_undo_49 : decode cX8_undo 49 = .ok (.iload_n 1, 1) := by decide +kernel
theorem dX8_undo_50 : decode cX8_undo 50 = .ok (.iadd, 1) := by decide +kernel
theorem dX8_undo_51 : decode cX8_undo 51 = .ok (.iaload, 1) := by decide +kernel
theorem dX8_undo_52 : decode cX8_undo 52 = .ok (.iastore, 1) := by decide +kernel
theorem dX8_undo_53 : decode cX8_undo 53 = .ok (.iinc 1 1, 3) := by decide +kernel
theorem dX8_undo_56 : decode cX8_undo 56 = .ok (.goto (-29), 3) := by decide +kernel
theorem dX8_undo_59 : decode cX8_undo 59 = .ok (.aload_n 0, 1) := by decide +kernel
theorem dX8_undo_60 : decode cX8_undo 60 = .ok (.getfield 62, 3) := by decide +kernel
theorem dX8_undo_63 : decode cX8_undo 63 = .ok (.ireturn, 1) := by decide +kernel
theorem dX8_keep_0 : decode cX8_keep 0 = .ok (.aload_n 0, 1) := by decide +kernel
theorem dX8_keep_1 : decode cX8_keep 1 = .ok (.iconst 0, 1) := by decide +kernel
theorem dX8_keep_2 : decode cX8_keep 2 = .ok (.putfield 50, 3) := by decide +kernel
theorem dX8_keep_5 : decode cX8_keep 5 = .ok (.iconst 0, 1) := by decide +kernel
theorem dX8_keep_6 : decode cX8_keep 6 = .ok (.istore_n 1, 1) := by decide +kernel
theorem dX8_keep_7 : decode cX8_keep 7 = .ok (.iload_n 1, 1) := by decide +kernel
theorem dX8_keep_8 : decode cX8_keep 8 = .ok (.bipush 83, 2) := by decide +kernel
theorem dX8_keep_10 : decode cX8_keep 10 = .ok (.if_icmp .ge 21, 3) := by decide +kernel
theorem dX8_keep_13 : decode cX8_keep 13 = .ok (.aload_n 0, 1) := by decide +kernel
theorem dX8_keep_14 : decode cX8_keep 14 = .ok (.getfield 19, 3) := by decide +kernel
theorem dX8_keep_17 : decode cX8_keep 17 = .ok (.iload_n 1, 1) := by decide +kernel
theorem dX8_keep_18 : decode cX8_keep 18 = .ok (.aload_n 0, 1) := by decide +kernel
theorem dX8_keep_19 : decode cX8_keep 19 = .ok (.getfield 7, 3) := by decide +kernel
theorem dX8_keep_22 : decode cX8_keep 22 = .ok (.iload_n 1, 1) := by decide +kernel
theorem dX8_keep_23 : decode cX8_keep 23 = .ok (.iaload, 1) := by decide +kernel
theorem dX8_keep_24 : decode cX8_keep 24 = .ok (.iastore, 1) := by decide +kernel
theorem dX8_keep_25 : decode cX8_keep 25 = .ok (.iinc 1 1, 3) := by decide +kernel
theorem dX8_keep_28 : decode cX8_keep 28 = .ok (.goto (-21), 3) := by decide +kernel
theorem dX8_keep_31 : decode cX8_keep 31 = .ok (.aload_n 0, 1) := by decide +kernel
theorem dX8_keep_32 : decode cX8_keep 32 = .ok (.iconst 1, 1) := by decide +kernel
theorem dX8_keep_33 : decode cX8_keep 33 = .ok (.putfield 171, 3) := by decide +kernel
theorem dX8_keep_36 : decode cX8_keep 36 = .ok (.aload_n 0, 1) := by decide +kernel
theorem dX8_keep_37 : decode cX8_keep 37 = .ok (.getfield 7, 3) := by decide +kernel
theorem dX8_keep_40 : decode cX8_keep 40 = .ok (.iconst 1, 1) := by decide +kernel
theorem dX8_keep_41 : decode cX8_keep 41 = .ok (.iaload, 1) := by decide +kernel
theorem dX8_keep_42 : decode cX8_keep 42 = .ok (.ireturn, 1) := by decide +kernel
theorem dX8_restore_0 : decode cX8_restore 0 = .ok (.aload_n 0, 1) := by decide +kernel
theorem dX8_restore_1 : decode cX8_restore 1 = .ok (.iconst 0, 1) := by decide +kernel
theorem dX8_restore_2 : decode cX8_restore 2 = .ok (.putfield 50, 3) := by decide +kernel
theorem dX8_restore_5 : decode cX8_restore 5 = .ok (.aload_n 0, 1) := by decide +kernel
theorem dX8_restore_6 : decode cX8_restore 6 = .ok (.getfield 171, 3) := by decide +kernel
theorem dX8_restore_9 : decode cX8_restore 9 = .ok (.ifCond .ne 6, 3) := by decide +kernel
theorem dX8_restore_12 : decode cX8_restore 12 = .ok (.bipush (-5), 2) := by decide +kernel
theorem dX8_restore_14 : decode cX8_restore 14 = .ok (.ireturn, 1) := by decide +kernel
theorem dX8_restore_15 : decode cX8_restore 15 = .ok (.aload_n 0, 1) := by decide +kernel
theorem dX8_restore_16 : decode cX8_restore 16 = .ok (.invokevirtual 105, 3) := by decide +kernel
theorem dX8_restore_19 : decode cX8_restore 19 = .ok (.iconst 0, 1) := by decide +kernel
theorem dX8_restore_20 : decode cX8_restore 20 = .ok (.istore_n 1, 1) := by decide +kernel
theorem dX8_restore_21 : decode cX8_restore 21 = .ok (.iload_n 1, 1) := by decide +kernel
theorem dX8_restore_22 : decode cX8_restore 22 = .ok (.bipush 83, 2) := by decide +kernel
theorem dX8_restore_24 : decode cX8_restore 24 = .ok (.if_icmp .ge 21, 3) := by decide +kernel
theorem dX8_restore_27 : decode cX8_restore 27 = .ok (.aload_n 0, 1) := by decide +kernel
theorem dX8_restore_28 : decode cX8_restore 28 = .ok (.getfield 7, 3) := by decide +kernel
theorem dX8_restore_31 : decode cX8_restore 31 = .ok (.iload_n 1, 1) := by decide +kernel
theorem dX8_restore_32 : decode cX8_restore 32 = .ok (.aload_n 0, 1) := by decide +kernel
theorem dX8_restore_33 : decode cX8_restore 33 = .ok (.getfield 19, 3) := by decide +kernel
theorem dX8_restore_36 : decode cX8_restore 36 = .ok (.iload_n 1, 1) := by decide +kernel
theorem dX8_restore_37 : decode cX8_restore 37 = .ok (.iaload, 1) := by decide +kernel
theorem dX8_restore_38 : decode cX8_restore 38 = .ok (.iastore, 1) := by decide +kernel
theorem dX8_restore_39 : decode cX8_restore 39 = .ok (.iinc 1 1, 3) := by decide +kernel
theorem dX8_restore_42 : decode cX8_restore 42 = .ok (.goto (-21), 3) := by decide +kernel
theorem dX8_restore_45 : decode cX8_restore 45 = .ok (.aload_n 0, 1) := by decide +kernel
theorem dX8_restore_46 : decode cX8_restore 46 = .ok (.getfield 7, 3) := by decide +kernel
theorem dX8_restore_49 : decode cX8_restore 49 = .ok (.iconst 1, 1) := by decide +kernel
theorem dX8_restore_50 : decode cX8_restore 50 = .ok (.iaload, 1) := by decide +kernel
theorem dX8_restore_51 : decode cX8_restore 51 = .ok (.ireturn, 1) := by decide +kernel
theorem dX8_laysOdds_0 : decode cX8_laysOdds 0 = .ok (.iconst 0, 1) := by decide +kernel
theorem dX8_laysOdds_1 : decode cX8_laysOdds 1 = .ok (.istore_n 3, 1) := by decide +kernel
theorem dX8_laysOdds_2 : decode cX8_laysOdds 2 = .ok (.sipush 1000, 3) := by decide +kernel
theorem dX8_laysOdds_5 : decode cX8_laysOdds 5 = .ok (.istore 4, 2) := by decide +kernel
theorem dX8_laysOdds_7 : decode cX8_laysOdds 7 = .ok (.iconst 0, 1) := by decide +kernel
theorem dX8_laysOdds_8 : decode cX8_laysOdds 8 = .ok (.istore 5, 2) := by decide +kernel
theorem dX8_laysOdds_10 : decode cX8_laysOdds 10 = .ok (.iload 5, 2) := by decide +kernel
theorem dX8_laysOdds_12 : decode cX8_laysOdds 12 = .ok (.iload_n 2, 1) := by decide +kernel
theorem dX8_laysOdds_13 : decode cX8_laysOdds 13 = .ok (.if_icmp .ge 21, 3) := by decide +kernel
theorem dX8_laysOdds_16 : decode cX8_laysOdds 16 = .ok (.iload_n 3, 1) := by decide +kernel
theorem dX8_laysOdds_17 : decode cX8_laysOdds 17 = .ok (.aload_n 0, 1) := by decide +kernel
theorem dX8_laysOdds_18 : decode cX8_laysOdds 18 = .ok (.getfield 7, 3) := by decide +kernel
theorem dX8_laysOdds_21 : decode cX8_laysOdds 21 = .ok (.iload_n 1, 1) := by decide +kernel
theorem dX8_laysOdds_22 : decode cX8_laysOdds 22 = .ok (.iload 5, 2) := by decide +kernel
theorem dX8_laysOdds_24 : decode cX8_laysOdds 24 = .ok (.iadd, 1) := by decide +kernel
theorem dX8_laysOdds_25 : decode cX8_laysOdds 25 = .ok (.iaload, 1) := by decide +kernel
theorem dX8_laysOdds_26 : decode cX8_laysOdds 26 = .ok (.iadd, 1) := by decide +kernel
theorem dX8_laysOdds_27 : decode cX8_laysOdds 27 = .ok (.istore_n 3, 1) := by decide +kernel
theorem dX8_laysOdds_28 : decode cX8_laysOdds 28 = .ok (.iinc 5 1, 3) := by decide +kernel
theorem dX8_laysOdds_31 : decode cX8_laysOdds 31 = .ok (.goto (-21), 3) := by decide +kernel
theorem dX8_laysOdds_34 : decode cX8_laysOdds 34 = .ok (.iconst 0, 1) := by decide +kernel
theorem dX8_laysOdds_35 : decode cX8_laysOdds 35 = .ok (.istore 5, 2) := by decide +kernel
theorem dX8_laysOdds_37 : decode cX8_laysOdds 37 = .ok (.iload 5, 2) := by decide +kernel
theorem dX8_laysOdds_39 : decode cX8_laysOdds 39 = .ok (.iload_n 2, 1) := by decide +kernel
theorem dX8_laysOdds_40 : decode cX8_laysOdds 40 = .ok (.if_icmp .ge 81, 3) := by decide +kernel
theorem dX8_laysOdds_43 : decode cX8_laysOdds 43 = .ok (.aload_n 0, 1) := by decide +kernel
theorem dX8_laysOdds_44 : decode cX8_laysOdds 44 = .ok (.getfield 44, 3) := by decide +kernel
theorem dX8_laysOdds_47 : decode cX8_laysOdds 47 = .ok (.iload 5, 2) := by decide +kernel
theorem dX8_laysOdds_49 : decode cX8_laysOdds 49 = .ok (.iload_n 3, 1) := by decide +kernel
theorem dX8_laysOdds_50 : decode cX8_laysOdds 50 = .ok (.ifCond .ne 7, 3) := by decide +kernel
theorem dX8_laysOdds_53 : decode cX8_laysOdds 53 = .ok (.iconst 0, 1) := by decide +kernel
theorem dX8_laysOdds_54 : decode cX8_laysOdds 54 = .ok (.goto 18, 3) := by decide +kernel
theorem dX8_laysOdds_57 : decode cX8_laysOdds 57 = .ok (.sipush 1000, 3) := by decide +kernel
theorem dX8_laysOdds_60 : decode cX8_laysOdds 60 = .ok (.aload_n 0, 1) := by decide +kernel
theorem dX8_laysOdds_61 : decode cX8_laysOdds 61 = .ok (.getfield 7, 3) := by decide +kernel
theorem dX8_laysOdds_64 : decode cX8_laysOdds 64 = .ok (.iload_n 1, 1) := by decide +kernel
theorem dX8_laysOdds_65 : decode cX8_laysOdds 65 = .ok (.iload 5, 2) := by decide +kernel
theorem dX8_laysOdds_67 : decode cX8_laysOdds 67 = .ok (.iadd, 1) := by decide +kernel
theorem dX8_laysOdds_68 : decode cX8_laysOdds 68 = .ok (.iaload, 1) := by decide +kernel
theorem dX8_laysOdds_69 : decode cX8_laysOdds 69 = .ok (.imul, 1) := by decide +kernel
theorem dX8_laysOdds_70 : decode cX8_laysOdds 70 = .ok (.iload_n 3, 1) := by decide +kernel
theorem dX8_laysOdds_71 : decode cX8_laysOdds 71 = .ok (.idiv, 1) := by decide +kernel
theorem dX8_laysOdds_72 : decode cX8_laysOdds 72 = .ok (.iastore, 1) := by decide +kernel
theorem dX8_laysOdds_73 : decode cX8_laysOdds 73 = .ok (.aload_n 0, 1) := by decide +kernel
theorem dX8_laysOdds_74 : decode cX8_laysOdds 74 = .ok (.getfield 41, 3) := by decide +kernel
theorem dX8_laysOdds_77 : decode cX8_laysOdds 77 = .ok (.iload 5, 2) := by decide +kernel
theorem dX8_laysOdds_79 : decode cX8_laysOdds 79 = .ok (.iload_n 3, 1) := by decide +kernel
theorem dX8_laysOdds_80 : decode cX8_laysOdds 80 = .ok (.ifCond .ne 7, 3) := by decide +kernel
theorem dX8_laysOdds_83 : decode cX8_laysOdds 83 = .ok (.iconst 0, 1) := by decide +kernel
theorem dX8_laysOdds_84 : decode cX8_laysOdds 84 = .ok (.goto 18, 3) := by decide +kernel
theorem dX8_laysOdds_87 : decode cX8_laysOdds 87 = .ok (.sipush 1000, 3) := by decide +kernel
theorem dX8_laysOdds_90 : decode cX8_laysOdds 90 = .ok (.aload_n 0, 1) := by decide +kernel
theorem dX8_laysOdds_91 : decode cX8_laysOdds 91 = .ok (.getfield 7, 3) := by decide +kernel
theorem dX8_laysOdds_94 : decode cX8_laysOdds 94 = .ok (.iload_n 1, 1) := by decide +kernel
theorem dX8_laysOdds_95 : decode cX8_laysOdds 95 = .ok (.iload 5, 2) := by decide +kernel
theorem dX8_laysOdds_97 : decode cX8_laysOdds 97 = .ok (.iadd, 1) := by decide +kernel
theorem dX8_laysOdds_98 : decode cX8_laysOdds 98 = .ok (.iaload, 1) := by decide +kernel
theorem dX8_laysOdds_99 : decode cX8_laysOdds 99 = .ok (.imul, 1) := by decide +kernel
theorem dX8_laysOdds_100 : decode cX8_laysOdds 100 = .ok (.iload_n 3, 1) := by decide +kernel
theorem dX8_laysOdds_101 : decode cX8_laysOdds 101 = .ok (.irem, 1) := by decide +kernel
theorem dX8_laysOdds_102 : decode cX8_laysOdds 102 = .ok (.iastore, 1) := by decide +kernel
theorem dX8_laysOdds_103 : decode cX8_laysOdds 103 = .ok (.iload 4, 2) := by decide +kernel
theorem dX8_laysOdds_105 : decode cX8_laysOdds 105 = .ok (.aload_n 0, 1) := by decide +kernel
theorem dX8_laysOdds_106 : decode cX8_laysOdds 106 = .ok (.getfield 44, 3) := by decide +kernel
theorem dX8_laysOdds_109 : decode cX8_laysOdds 109 = .ok (.iload 5, 2) := by decide +kernel
theorem dX8_laysOdds_111 : decode cX8_laysOdds 111 = .ok (.iaload, 1) := by decide +kernel
theorem dX8_laysOdds_112 : decode cX8_laysOdds 112 = .ok (.isub, 1) := by decide +kernel
theorem dX8_laysOdds_113 : decode cX8_laysOdds 113 = .ok (.istore 4, 2) := by decide +kernel
theorem dX8_laysOdds_115 : decode cX8_laysOdds 115 = .ok (.iinc 5 1, 3) := by decide +kernel
theorem dX8_laysOdds_118 : decode cX8_laysOdds 118 = .ok (.goto (-81), 3) := by decide +kernel
theorem dX8_laysOdds_121 : decode cX8_laysOdds 121 = .ok (.iload 4, 2) := by decide +kernel
theorem dX8_laysOdds_123 : decode cX8_laysOdds 123 = .ok (.ifCond .le 76, 3) := by decide +kernel
theorem dX8_laysOdds_126 : decode cX8_laysOdds 126 = .ok (.iload_n 3, 1) := by decide +kernel
theorem dX8_laysOdds_127 : decode cX8_laysOdds 127 = .ok (.ifCond .le 72, 3) := by decide +kernel
theorem dX8_laysOdds_130 : decode cX8_laysOdds 130 = .ok (.iconst 0, 1) := by decide +kernel
theorem dX8_laysOdds_131 : decode cX8_laysOdds 131 = .ok (.istore 5, 2) := by decide +kernel
theorem dX8_laysOdds_133 : decode cX8_laysOdds 133 = .ok (.iconst 1, 1) := by decide +kernel
theorem dX8_laysOdds_134 : decode cX8_laysOdds 134 = .ok (.istore 6, 2) := by decide +kernel
theorem dX8_laysOdds_136 : decode cX8_laysOdds 136 = .ok (.iload 6, 2) := by decide +kernel
theorem dX8_laysOdds_138 : decode cX8_laysOdds 138 = .ok (.iload_n 2, 1) := by decide +kernel
theorem dX8_laysOdds_139 : decode cX8_laysOdds 139 = .ok (.if_icmp .ge 35, 3) := by decide +kernel
theorem dX8_laysOdds_142 : decode cX8_laysOdds 142 = .ok (.aload_n 0, 1) := by decide +kernel
theorem dX8_laysOdds_143 : decode cX8_laysOdds 143 = .ok (.getfield 41, 3) := by decide +kernel
theorem dX8_laysOdds_146 : decode cX8_laysOdds 146 = .ok (.iload 6, 2) := by decide +kernel
theorem dX8_laysOdds_148 : decode cX8_laysOdds 148 = .ok (.iaload, 1) := by decide +kernel
theorem dX8_laysOdds_149 : decode cX8_laysOdds 149 = .ok (.aload_n 0, 1) := by decide +kernel
theorem dX8_laysOdds_150 : decode cX8_laysOdds 150 = .ok (.getfield 41, 3) := by decide +kernel
theorem dX8_laysOdds_153 : decode cX8_laysOdds 153 = .ok (.iload 5, 2) := by decide +kernel
theorem dX8_laysOdds_155 : decode cX8_laysOdds 155 = .ok (.iaload, 1) := by decide +kernel
theorem dX8_laysOdds_156 : decode cX8_laysOdds 156 = .ok (.if_icmp .le 8, 3) := by decide +kernel
theorem dX8_laysOdds_159 : decode cX8_laysOdds 159 = .ok (.iload 6, 2) := by decide +kernel
theorem dX8_laysOdds_161 : decode cX8_laysOdds 161 = .ok (.goto 5, 3) := by decide +kernel
theorem dX8_laysOdds_164 : decode cX8_laysOdds 164 = .ok (.iload 5, 2) := by decide +kernel
theorem dX8_laysOdds_166 : decode cX8_laysOdds 166 = .ok (.istore 5, 2) := by decide +kernel
theorem dX8_laysOdds_168 : decode cX8_laysOdds 168 = .ok (.iinc 6 1, 3) := by decide +kernel
theorem dX8_laysOdds_171 : decode cX8_laysOdds 171 = .ok (.goto (-35), 3) := by decide +kernel
theorem dX8_laysOdds_174 : decode cX8_laysOdds 174 = .ok (.aload_n 0, 1) := by decide +kernel
theorem dX8_laysOdds_175 : decode cX8_laysOdds 175 = .ok (.getfield 44, 3) := by decide +kernel
theorem dX8_laysOdds_178 : decode cX8_laysOdds 178 = .ok (.iload 5, 2) := by decide +kernel
theorem dX8_laysOdds_180 : decode cX8_laysOdds 180 = .ok (.dup2, 1) := by decide +kernel
theorem dX8_laysOdds_181 : decode cX8_laysOdds 181 = .ok (.iaload, 1) := by decide +kernel
theorem dX8_laysOdds_182 : decode cX8_laysOdds 182 = .ok (.iconst 1, 1) := by decide +kernel
theorem dX8_laysOdds_183 : decode cX8_laysOdds 183 = .ok (.iadd, 1) := by decide +kernel
theorem dX8_laysOdds_184 : decode cX8_laysOdds 184 = .ok (.iastore, 1) := by decide +kernel
theorem dX8_laysOdds_185 : decode cX8_laysOdds 185 = .ok (.aload_n 0, 1) := by decide +kernel
theorem dX8_laysOdds_186 : decode cX8_laysOdds 186 = .ok (.getfield 41, 3) := by decide +kernel
theorem dX8_laysOdds_189 : decode cX8_laysOdds 189 = .ok (.iload 5, 2) := by decide +kernel
theorem dX8_laysOdds_191 : decode cX8_laysOdds 191 = .ok (.iconst (-1), 1) := by decide +kernel
theorem dX8_laysOdds_192 : decode cX8_laysOdds 192 = .ok (.iastore, 1) := by decide +kernel
theorem dX8_laysOdds_193 : decode cX8_laysOdds 193 = .ok (.iinc 4 (-1), 3) := by decide +kernel
theorem dX8_laysOdds_196 : decode cX8_laysOdds 196 = .ok (.goto (-75), 3) := by decide +kernel
theorem dX8_laysOdds_199 : decode cX8_laysOdds 199 = .ok (.return_, 1) := by decide +kernel
theorem dX8_weight_0 : decode cX8_weight 0 = .ok (.aload_n 0, 1) := by decide +kernel
theorem dX8_weight_1 : decode cX8_weight 1 = .ok (.iconst 0, 1) := by decide +kernel
theorem dX8_weight_2 : decode cX8_weight 2 = .ok (.putfield 50, 3) := by decide +kernel
theorem dX8_weight_5 : decode cX8_weight 5 = .ok (.aload_n 0, 1) := by decide +kernel
theorem dX8_weight_6 : decode cX8_weight 6 = .ok (.iload_n 1, 1) := by decide +kernel
theorem dX8_weight_7 : decode cX8_weight 7 = .ok (.iload_n 2, 1) := by decide +kernel
theorem dX8_weight_8 : decode cX8_weight 8 = .ok (.iload_n 3, 1) := by decide +kernel
theorem dX8_weight_9 : decode cX8_weight 9 = .ok (.invokevirtual 101, 3) := by decide +kernel
theorem dX8_weight_12 : decode cX8_weight 12 = .ok (.istore 5, 2) := by decide +kernel
theorem dX8_weight_14 : decode cX8_weight 14 = .ok (.iload 5, 2) := by decide +kernel
theorem dX8_weight_16 : decode cX8_weight 16 = .ok (.ifCond .lt 8, 3) := by decide +kernel
theorem dX8_weight_19 : decode cX8_weight 19 = .ok (.iload 4, 2) := by decide +kernel
theorem dX8_weight_21 : decode cX8_weight 21 = .ok (.ifCond .ne 23, 3) := by decide +kernel
theorem dX8_weight_24 : decode cX8_weight 24 = .ok (.iload 5, 2) := by decide +kernel
theorem dX8_weight_26 : decode cX8_weight 26 = .ok (.ifCond .ge 8, 3) := by decide +kernel
theorem dX8_weight_29 : decode cX8_weight 29 = .ok (.iload 5, 2) := by decide +kernel
theorem dX8_weight_31 : decode cX8_weight 31 = .ok (.goto 20, 3) := by decide +kernel
theorem dX8_weight_34 : decode cX8_weight 34 = .ok (.aload_n 0, 1) := by decide +kernel
theorem dX8_weight_35 : decode cX8_weight 35 = .ok (.getfield 7, 3) := by decide +kernel
theorem dX8_weight_38 : decode cX8_weight 38 = .ok (.iload 5, 2) := by decide +kernel
theorem dX8_weight_40 : decode cX8_weight 40 = .ok (.iaload, 1) := by decide +kernel
theorem dX8_weight_41 : decode cX8_weight 41 = .ok (.goto 10, 3) := by decide +kernel
theorem dX8_weight_44 : decode cX8_weight 44 = .ok (.aload_n 0, 1) := by decide +kernel
theorem dX8_weight_45 : decode cX8_weight 45 = .ok (.iload_n 1, 1) := by decide +kernel
theorem dX8_weight_46 : decode cX8_weight 46 = .ok (.iload_n 2, 1) := by decide +kernel
theorem dX8_weight_47 : decode cX8_weight 47 = .ok (.iload_n 3, 1) := by decide +kernel
theorem dX8_weight_48 : decode cX8_weight 48 = .ok (.invokevirtual 174, 3) := by decide +kernel
theorem dX8_weight_51 : decode cX8_weight 51 = .ok (.ireturn, 1) := by decide +kernel
theorem dX8_oddsOf_0 : decode cX8_oddsOf 0 = .ok (.aload_n 0, 1) := by decide +kernel
theorem dX8_oddsOf_1 : decode cX8_oddsOf 1 = .ok (.iload_n 1, 1) := by decide +kernel
theorem dX8_oddsOf_2 : decode cX8_oddsOf 2 = .ok (.ifCond .ne 7, 3) := by decide +kernel
theorem dX8_oddsOf_5 : decode cX8_oddsOf 5 = .ok (.iconst 3, 1) := by decide +kernel
theorem dX8_oddsOf_6 : decode cX8_oddsOf 6 = .ok (.goto 23, 3) := by decide +kernel
theorem dX8_oddsOf_9 : decode cX8_oddsOf 9 = .ok (.iload_n 1, 1) := by decide +kernel
theorem dX8_oddsOf_10 : decode cX8_oddsOf 10 = .ok (.iconst 1, 1) := by decide +kernel
theorem dX8_oddsOf_11 : decode cX8_oddsOf 11 = .ok (.if_icmp .ne 12, 3) := by decide +kernel
theorem dX8_oddsOf_14 : decode cX8_oddsOf 14 = .ok (.bipush 7, 2) := by decide +kernel
theorem dX8_oddsOf_16 : decode cX8_oddsOf 16 = .ok (.iconst 4, 1) := by decide +kernel
theorem dX8_oddsOf_17 : decode cX8_oddsOf 17 = .ok (.iload_n 2, 1) := by decide +kernel
theorem dX8_oddsOf_18 : decode cX8_oddsOf 18 = .ok (.imul, 1) := by decide +kernel
theorem dX8_oddsOf_19 : decode cX8_oddsOf 19 = .ok (.iadd, 1) := by decide +kernel
theorem dX8_oddsOf_20 : decode cX8_oddsOf 20 = .ok (.goto 9, 3) := by decide +kernel
theorem dX8_oddsOf_23 : decode cX8_oddsOf 23 = .ok (.bipush 23, 2) := by decide +kernel
theorem dX8_oddsOf_25 : decode cX8_oddsOf 25 = .ok (.iconst 3, 1) := by decide +kernel
theorem dX8_oddsOf_26 : decode cX8_oddsOf 26 = .ok (.iload_n 2, 1) := by decide +kernel
theorem dX8_oddsOf_27 : decode cX8_oddsOf 27 = .ok (.imul, 1) := by decide +kernel
theorem dX8_oddsOf_28 : decode cX8_oddsOf 28 = .ok (.iadd, 1) := by decide +kernel
theorem dX8_oddsOf_29 : decode cX8_oddsOf 29 = .ok (.iload_n 1, 1) := by decide +kernel
theorem dX8_oddsOf_30 : decode cX8_oddsOf 30 = .ok (.iconst 2, 1) := by decide +kernel
theorem dX8_oddsOf_31 : decode cX8_oddsOf 31 = .ok (.if_icmp .ne 7, 3) := by decide +kernel
theorem dX8_oddsOf_34 : decode cX8_oddsOf 34 = .ok (.iconst 3, 1) := by decide +kernel
theorem dX8_oddsOf_35 : decode cX8_oddsOf 35 = .ok (.goto 9, 3) := by decide +kernel
theorem dX8_oddsOf_38 : decode cX8_oddsOf 38 = .ok (.aload_n 0, 1) := by decide +kernel
theorem dX8_oddsOf_39 : decode cX8_oddsOf 39 = .ok (.getfield 7, 3) := by decide +kernel
theorem dX8_oddsOf_42 : decode cX8_oddsOf 42 = .ok (.iconst 0, 1) := by decide +kernel
theorem dX8_oddsOf_43 : decode cX8_oddsOf 43 = .ok (.iaload, 1) := by decide +kernel
theorem dX8_oddsOf_44 : decode cX8_oddsOf 44 = .ok (.invokevirtual 177, 3) := by decide +kernel
theorem dX8_oddsOf_47 : decode cX8_oddsOf 47 = .ok (.aload_n 0, 1) := by decide +kernel
theorem dX8_oddsOf_48 : decode cX8_oddsOf 48 = .ok (.getfield 44, 3) := by decide +kernel
theorem dX8_oddsOf_51 : decode cX8_oddsOf 51 = .ok (.iload_n 1, 1) := by decide +kernel
theorem dX8_oddsOf_52 : decode cX8_oddsOf 52 = .ok (.ifCond .ne 7, 3) := by decide +kernel
theorem dX8_oddsOf_55 : decode cX8_oddsOf 55 = .ok (.iload_n 2, 1) := by decide +kernel
theorem dX8_oddsOf_56 : decode cX8_oddsOf 56 = .ok (.goto 4, 3) := by decide +kernel
theorem dX8_oddsOf_59 : decode cX8_oddsOf 59 = .ok (.iload_n 3, 1) := by decide +kernel
theorem dX8_oddsOf_60 : decode cX8_oddsOf 60 = .ok (.iaload, 1) := by decide +kernel
theorem dX8_oddsOf_61 : decode cX8_oddsOf 61 = .ok (.ireturn, 1) := by decide +kernel
theorem dX8_isPlace_0 : decode cX8_isPlace 0 = .ok (.aload_n 0, 1) := by decide +kernel
theorem dX8_isPlace_1 : decode cX8_isPlace 1 = .ok (.iload_n 1, 1) := by decide +kernel
theorem dX8_isPlace_2 : decode cX8_isPlace 2 = .ok (.invokevirtual 140, 3) := by decide +kernel
theorem dX8_isPlace_5 : decode cX8_isPlace 5 = .ok (.ifCond .eq 22, 3) := by decide +kernel
theorem dX8_isPlace_8 : decode cX8_isPlace 8 = .ok (.iload_n 2, 1) := by decide +kernel
theorem dX8_isPlace_9 : decode cX8_isPlace 9 = .ok (.iconst 0, 1) := by decide +kernel
theorem dX8_isPlace_10 : decode cX8_isPlace 10 = .ok (.aload_n 0, 1) := by decide +kernel
theorem dX8_isPlace_11 : decode cX8_isPlace 11 = .ok (.iload_n 1, 1) := by decide +kernel
theorem dX8_isPlace_12 : decode cX8_isPlace 12 = .ok (.invokevirtual 65, 3) := by decide +kernel
theorem dX8_isPlace_15 : decode cX8_isPlace 15 = .ok (.iconst 1, 1) := by decide +kernel
theorem dX8_isPlace_16 : decode cX8_isPlace 16 = .ok (.isub, 1) := by decide +kernel
theorem dX8_isPlace_17 : decode cX8_isPlace 17 = .ok (.invokestatic 58, 3) := by decide +kernel
theorem dX8_isPlace_20 : decode cX8_isPlace 20 = .ok (.ifCond .eq 7, 3) := by decide +kernel
theorem dX8_isPlace_23 : decode cX8_isPlace 23 = .ok (.iconst 1, 1) := by decide +kernel
theorem dX8_isPlace_24 : decode cX8_isPlace 24 = .ok (.goto 4, 3) := by decide +kernel
theorem dX8_isPlace_27 : decode cX8_isPlace 27 = .ok (.iconst 0, 1) := by decide +kernel
theorem dX8_isPlace_28 : decode cX8_isPlace 28 = .ok (.ireturn, 1) := by decide +kernel
theorem dX8_sign_0 : decode cX8_sign 0 = .ok (.aload_n 0, 1) := by decide +kernel
theorem dX8_sign_1 : decode cX8_sign 1 = .ok (.iconst 0, 1) := by decide +kernel
theorem dX8_sign_2 : decode cX8_sign 2 = .ok (.putfield 50, 3) := by decide +kernel
theorem dX8_sign_5 : decode cX8_sign 5 = .ok (.aload_n 0, 1) := by decide +kernel
theorem dX8_sign_6 : decode cX8_sign 6 = .ok (.iload_n 1, 1) := by decide +kernel
theorem dX8_sign_7 : decode cX8_sign 7 = .ok (.iload_n 2, 1) := by decide +kernel
theorem dX8_sign_8 : decode cX8_sign 8 = .ok (.invokevirtual 181, 3) := by decide +kernel
theorem dX8_sign_11 : decode cX8_sign 11 = .ok (.ifCond .eq 12, 3) := by decide +kernel
theorem dX8_sign_14 : decode cX8_sign 14 = .ok (.aload_n 0, 1) := by decide +kernel
theorem dX8_sign_15 : decode cX8_sign 15 = .ok (.iload_n 1, 1) := by decide +kernel
theorem dX8_sign_16 : decode cX8_sign 16 = .ok (.iload_n 2, 1) := by decide +kernel
theorem dX8_sign_17 : decode cX8_sign 17 = .ok (.invokevirtual 69, 3) := by decide +kernel
theorem dX8_sign_20 : decode cX8_sign 20 = .ok (.goto 4, 3) := by decide +kernel
theorem dX8_sign_23 : decode cX8_sign 23 = .ok (.iconst (-1), 1) := by decide +kernel
theorem dX8_sign_24 : decode cX8_sign 24 = .ok (.ireturn, 1) := by decide +kernel
theorem dX8_ofSample_0 : decode cX8_ofSample 0 = .ok (.aload_n 0, 1) := by decide +kernel
theorem dX8_ofSample_1 : decode cX8_ofSample 1 = .ok (.iconst 0, 1) := by decide +kernel
theorem dX8_ofSample_2 : decode cX8_ofSample 2 = .ok (.putfield 50, 3) := by decide +kernel
theorem dX8_ofSample_5 : decode cX8_ofSample 5 = .ok (.aload_n 0, 1) := by decide +kernel
theorem dX8_ofSample_6 : decode cX8_ofSample 6 = .ok (.iload_n 1, 1) := by decide +kernel
theorem dX8_ofSample_7 : decode cX8_ofSample 7 = .ok (.invokevirtual 140, 3) := by decide +kernel
theorem dX8_ofSample_10 : decode cX8_ofSample 10 = .ok (.ifCond .ne 7, 3) := by decide +kernel
theorem dX8_ofSample_13 : decode cX8_ofSample 13 = .ok (.ldc2_w 184, 3) := by decide +kernel
theorem dX8_ofSample_16 : decode cX8_ofSample 16 = .ok (.lreturn, 1) := by decide +kernel
theorem dX8_ofSample_17 : decode cX8_ofSample 17 = .ok (.iload_n 2, 1) := by decide +kernel
theorem dX8_ofSample_18 : decode cX8_ofSample 18 = .ok (.iconst 0, 1) := by decide +kernel
theorem dX8_ofSample_19 : decode cX8_ofSample 19 = .ok (.iconst 2, 1) := by decide +kernel
theorem dX8_ofSample_20 : decode cX8_ofSample 20 = .ok (.invokestatic 58, 3) := by decide +kernel
theorem dX8_ofSample_23 : decode cX8_ofSample 23 = .ok (.ifCond .ne 7, 3) := by decide +kernel
theorem dX8_ofSample_26 : decode cX8_ofSample 26 = .ok (.ldc2_w 186, 3) := by decide +kernel
theorem dX8_ofSample_29 : decode cX8_ofSample 29 = .ok (.lreturn, 1) := by decide +kernel
theorem dX8_ofSample_30 : decode cX8_ofSample 30 = .ok (.aload_n 0, 1) := by decide +kernel
theorem dX8_ofSample_31 : decode cX8_ofSample 31 = .ok (.iload_n 1, 1) := by decide +kernel
theorem dX8_ofSample_32 : decode cX8_ofSample 32 = .ok (.invokevirtual 151, 3) := by decide +kernel
theorem dX8_ofSample_35 : decode cX8_ofSample 35 = .ok (.iload_n 2, 1) := by decide +kernel
theorem dX8_ofSample_36 : decode cX8_ofSample 36 = .ok (.ifCond .ne 10, 3) := by decide +kernel
theorem dX8_ofSample_39 : decode cX8_ofSample 39 = .ok (.aload_n 0, 1) := by decide +kernel
theorem dX8_ofSample_40 : decode cX8_ofSample 40 = .ok (.invokevirtual 154, 3) := by decide +kernel
theorem dX8_ofSample_43 : decode cX8_ofSample 43 = .ok (.goto 19, 3) := by decide +kernel
theorem dX8_ofSample_46 : decode cX8_ofSample 46 = .ok (.iload_n 2, 1) := by decide +kernel
theorem dX8_ofSample_47 : decode cX8_ofSample 47 = .ok (.iconst 1, 1) := by decide +kernel
theorem dX8_ofSample_48 : decode cX8_ofSample 48 = .ok (.if_icmp .ne 10, 3) := by decide +kernel
theorem dX8_ofSample_51 : decode cX8_ofSample 51 = .ok (.aload_n 0, 1) := by decide +kernel
theorem dX8_ofSample_52 : decode cX8_ofSample 52 = .ok (.invokevirtual 188, 3) := by decide +kernel
theorem dX8_ofSample_55 : decode cX8_ofSample 55 = .ok (.goto 7, 3) := by decide +kernel
theorem dX8_ofSample_58 : decode cX8_ofSample 58 = .ok (.aload_n 0, 1) := by decide +kernel
theorem dX8_ofSample_59 : decode cX8_ofSample 59 = .ok (.invokevirtual 93, 3) := by decide +kernel
theorem dX8_ofSample_62 : decode cX8_ofSample 62 = .ok (.lreturn, 1) := by decide +kernel
theorem dX8_best_0 : decode cX8_best 0 = .ok (.aload_n 0, 1) := by decide +kernel
theorem dX8_best_1 : decode cX8_best 1 = .ok (.iconst 0, 1) := by decide +kernel
theorem dX8_best_2 : decode cX8_best 2 = .ok (.putfield 50, 3) := by decide +kernel
theorem dX8_best_5 : decode cX8_best 5 = .ok (.aload_n 0, 1) := by decide +kernel
theorem dX8_best_6 : decode cX8_best 6 = .ok (.iload_n 1, 1) := by decide +kernel
theorem dX8_best_7 : decode cX8_best 7 = .ok (.iload_n 2, 1) := by decide +kernel
theorem dX8_best_8 : decode cX8_best 8 = .ok (.invokevirtual 181, 3) := by decide +kernel
theorem dX8_best_11 : decode cX8_best 11 = .ok (.ifCond .ne 5, 3) := by decide +kernel
theorem dX8_best_14 : decode cX8_best 14 = .ok (.iconst (-1), 1) := by decide +kernel
theorem dX8_best_15 : decode cX8_best 15 = .ok (.ireturn, 1) := by decide +kernel
theorem dX8_best_16 : decode cX8_best 16 = .ok (.aload_n 0, 1) := by decide +kernel
theorem dX8_best_17 : decode cX8_best 17 = .ok (.iload_n 1, 1) := by decide +kernel
theorem dX8_best_18 : decode cX8_best 18 = .ok (.invokevirtual 151, 3) := by decide +kernel
theorem dX8_best_21 : decode cX8_best 21 = .ok (.aload_n 0, 1) := by decide +kernel
theorem dX8_best_22 : decode cX8_best 22 = .ok (.invokevirtual 93, 3) := by decide +kernel
theorem dX8_best_25 : decode cX8_best 25 = .ok (.lconst 0, 1) := by decide +kernel
theorem dX8_best_26 : decode cX8_best 26 = .ok (.lcmp, 1) := by decide +kernel
theorem dX8_best_27 : decode cX8_best 27 = .ok (.ifCond .ne 8, 3) := by decide +kernel
theorem dX8_best_30 : decode cX8_best 30 = .ok (.bipush (-5), 2) := by decide +kernel
theorem dX8_best_32 : decode cX8_best 32 = .ok (.goto 9, 3) := by decide +kernel
theorem dX8_best_35 : decode cX8_best 35 = .ok (.aload_n 0, 1) := by decide +kernel
theorem dX8_best_36 : decode cX8_best 36 = .ok (.iload_n 1, 1) := by decide +kernel
theorem dX8_best_37 : decode cX8_best 37 = .ok (.iload_n 2, 1) := by decide +kernel
theorem dX8_best_38 : decode cX8_best 38 = .ok (.invokevirtual 191, 3) := by decide +kernel
theorem dX8_best_41 : decode cX8_best 41 = .ok (.ireturn, 1) := by decide +kernel
theorem dX8_share_0 : decode cX8_share 0 = .ok (.aload_n 0, 1) := by decide +kernel
theorem dX8_share_1 : decode cX8_share 1 = .ok (.iconst 0, 1) := by decide +kernel
theorem dX8_share_2 : decode cX8_share 2 = .ok (.putfield 50, 3) := by decide +kernel
theorem dX8_share_5 : decode cX8_share 5 = .ok (.aload_n 0, 1) := by decide +kernel
theorem dX8_share_6 : decode cX8_share 6 = .ok (.iload_n 1, 1) := by decide +kernel
theorem dX8_share_7 : decode cX8_share 7 = .ok (.iload_n 2, 1) := by decide +kernel
theorem dX8_share_8 : decode cX8_share 8 = .ok (.invokevirtual 181, 3) := by decide +kernel
theorem dX8_share_11 : decode cX8_share 11 = .ok (.ifCond .eq 11, 3) := by decide +kernel
theorem dX8_share_14 : decode cX8_share 14 = .ok (.aload_n 0, 1) := by decide +kernel
theorem dX8_share_15 : decode cX8_share 15 = .ok (.iload_n 3, 1) := by decide +kernel
theorem dX8_share_16 : decode cX8_share 16 = .ok (.invokevirtual 97, 3) := by decide +kernel
theorem dX8_share_19 : decode cX8_share 19 = .ok (.ifCond .ne 5, 3) := by decide +kernel
theorem dX8_share_22 : decode cX8_share 22 = .ok (.iconst (-1), 1) := by decide +kernel
theorem dX8_share_23 : decode cX8_share 23 = .ok (.ireturn, 1) := by decide +kernel
theorem dX8_share_24 : decode cX8_share 24 = .ok (.aload_n 0, 1) := by decide +kernel
theorem dX8_share_25 : decode cX8_share 25 = .ok (.iload_n 1, 1) := by decide +kernel
theorem dX8_share_26 : decode cX8_share 26 = .ok (.invokevirtual 151, 3) := by decide +kernel
theorem dX8_share_29 : decode cX8_share 29 = .ok (.aload_n 0, 1) := by decide +kernel
theorem dX8_share_30 : decode cX8_share 30 = .ok (.invokevirtual 154, 3) := by decide +kernel
theorem dX8_share_33 : decode cX8_share 33 = .ok (.lconst 0, 1) := by decide +kernel
theorem dX8_share_34 : decode cX8_share 34 = .ok (.lcmp, 1) := by decide +kernel
theorem dX8_share_35 : decode cX8_share 35 = .ok (.ifCond .ne 8, 3) := by decide +kernel
theorem dX8_share_38 : decode cX8_share 38 = .ok (.bipush (-5), 2) := by decide +kernel
theorem dX8_share_40 : decode cX8_share 40 = .ok (.goto 16, 3) := by decide +kernel
theorem dX8_share_43 : decode cX8_share 43 = .ok (.aload_n 0, 1) := by decide +kernel
theorem dX8_share_44 : decode cX8_share 44 = .ok (.iload_n 2, 1) := by decide +kernel
theorem dX8_share_45 : decode cX8_share 45 = .ok (.iload_n 3, 1) := by decide +kernel
theorem dX8_share_46 : decode cX8_share 46 = .ok (.invokevirtual 87, 3) := by decide +kernel
theorem dX8_share_49 : decode cX8_share 49 = .ok (.aload_n 0, 1) := by decide +kernel
theorem dX8_share_50 : decode cX8_share 50 = .ok (.invokevirtual 154, 3) := by decide +kernel
theorem dX8_share_53 : decode cX8_share 53 = .ok (.invokestatic 143, 3) := by decide +kernel
theorem dX8_share_56 : decode cX8_share 56 = .ok (.ireturn, 1) := by decide +kernel
theorem dX8_likeliest_0 : decode cX8_likeliest 0 = .ok (.aload_n 0, 1) := by decide +kernel
theorem dX8_likeliest_1 : decode cX8_likeliest 1 = .ok (.iconst 0, 1) := by decide +kernel
theorem dX8_likeliest_2 : decode cX8_likeliest 2 = .ok (.putfield 50, 3) := by decide +kernel
theorem dX8_likeliest_5 : decode cX8_likeliest 5 = .ok (.aload_n 0, 1) := by decide +kernel
theorem dX8_likeliest_6 : decode cX8_likeliest 6 = .ok (.iload_n 1, 1) := by decide +kernel
theorem dX8_likeliest_7 : decode cX8_likeliest 7 = .ok (.iload_n 2, 1) := by decide +kernel
theorem dX8_likeliest_8 : decode cX8_likeliest 8 = .ok (.invokevirtual 181, 3) := by decide +kernel
theorem dX8_likeliest_11 : decode cX8_likeliest 11 = .ok (.ifCond .ne 5, 3) := by decide +kernel
theorem dX8_likeliest_14 : decode cX8_likeliest 14 = .ok (.iconst (-1), 1) := by decide +kernel
theorem dX8_likeliest_15 : decode cX8_likeliest 15 = .ok (.ireturn, 1) := by decide +kernel
theorem dX8_likeliest_16 : decode cX8_likeliest 16 = .ok (.aload_n 0, 1) := by decide +kernel
theorem dX8_likeliest_17 : decode cX8_likeliest 17 = .ok (.iload_n 1, 1) := by decide +kernel
theorem dX8_likeliest_18 : decode cX8_likeliest 18 = .ok (.invokevirtual 151, 3) := by decide +kernel
theorem dX8_likeliest_21 : decode cX8_likeliest 21 = .ok (.aload_n 0, 1) := by decide +kernel
theorem dX8_likeliest_22 : decode cX8_likeliest 22 = .ok (.invokevirtual 154, 3) := by decide +kernel
theorem dX8_likeliest_25 : decode cX8_likeliest 25 = .ok (.lconst 0, 1) := by decide +kernel
theorem dX8_likeliest_26 : decode cX8_likeliest 26 = .ok (.lcmp, 1) := by decide +kernel
theorem dX8_likeliest_27 : decode cX8_likeliest 27 = .ok (.ifCond .ne 8, 3) := by decide +kernel
theorem dX8_likeliest_30 : decode cX8_likeliest 30 = .ok (.bipush (-5), 2) := by decide +kernel
theorem dX8_likeliest_32 : decode cX8_likeliest 32 = .ok (.goto 8, 3) := by decide +kernel
theorem dX8_likeliest_35 : decode cX8_likeliest 35 = .ok (.aload_n 0, 1) := by decide +kernel
theorem dX8_likeliest_36 : decode cX8_likeliest 36 = .ok (.iload_n 2, 1) := by decide +kernel
theorem dX8_likeliest_37 : decode cX8_likeliest 37 = .ok (.invokevirtual 194, 3) := by decide +kernel
theorem dX8_likeliest_40 : decode cX8_likeliest 40 = .ok (.ireturn, 1) := by decide +kernel
theorem dX8_doubts_0 : decode cX8_doubts 0 = .ok (.aload_n 0, 1) := by decide +kernel
theorem dX8_doubts_1 : decode cX8_doubts 1 = .ok (.iload_n 1, 1) := by decide +kernel
theorem dX8_doubts_2 : decode cX8_doubts 2 = .ok (.invokevirtual 151, 3) := by decide +kernel
theorem dX8_doubts_5 : decode cX8_doubts 5 = .ok (.aload_n 0, 1) := by decide +kernel
theorem dX8_doubts_6 : decode cX8_doubts 6 = .ok (.invokevirtual 154, 3) := by decide +kernel
theorem dX8_doubts_9 : decode cX8_doubts 9 = .ok (.lstore_n 2, 1) := by decide +kernel
theorem dX8_doubts_10 : decode cX8_doubts 10 = .ok (.iconst 0, 1) := by decide +kernel
theorem dX8_doubts_11 : decode cX8_doubts 11 = .ok (.istore 4, 2) := by decide +kernel
theorem dX8_doubts_13 : decode cX8_doubts 13 = .ok (.iconst 0, 1) := by decide +kernel
theorem dX8_doubts_14 : decode cX8_doubts 14 = .ok (.istore 5, 2) := by decide +kernel
theorem dX8_doubts_16 : decode cX8_doubts 16 = .ok (.iload 5, 2) := by decide +kernel
theorem dX8_doubts_18 : decode cX8_doubts 18 = .ok (.aload_n 0, 1) := by decide +kernel
theorem dX8_doubts_19 : decode cX8_doubts 19 = .ok (.iload_n 1, 1) := by decide +kernel
theorem dX8_doubts_20 : decode cX8_doubts 20 = .ok (.invokevirtual 65, 3) := by decide +kernel
theorem dX8_doubts_23 : decode cX8_doubts 23 = .ok (.if_icmp .ge 53, 3) := by decide +kernel
theorem dX8_doubts_26 : decode cX8_doubts 26 = .ok (.lload_n 2, 1) := by decide +kernel
theorem dX8_doubts_27 : decode cX8_doubts 27 = .ok (.lconst 0, 1) := by decide +kernel
theorem dX8_doubts_28 : decode cX8_doubts 28 = .ok (.lcmp, 1) := by decide +kernel
theorem dX8_doubts_29 : decode cX8_doubts 29 = .ok (.ifCond .le 47, 3) := by decide +kernel
theorem dX8_doubts_32 : decode cX8_doubts 32 = .ok (.iload 4, 2) := by decide +kernel
theorem dX8_doubts_34 : decode cX8_doubts 34 = .ok (.aload_n 0, 1) := by decide +kernel
theorem dX8_doubts_35 : decode cX8_doubts 35 = .ok (.iload 5, 2) := by decide +kernel
theorem dX8_doubts_37 : decode cX8_doubts 37 = .ok (.aload_n 0, 1) := by decide +kernel
theorem dX8_doubts_38 : decode cX8_doubts 38 = .ok (.iload 5, 2) := by decide +kernel
theorem dX8_doubts_40 : decode cX8_doubts 40 = .ok (.invokevirtual 194, 3) := by decide +kernel
theorem dX8_doubts_43 : decode cX8_doubts 43 = .ok (.invokevirtual 87, 3) := by decide +kernel
theorem dX8_doubts_46 : decode cX8_doubts 46 = .ok (.lload_n 2, 1) := by decide +kernel
theorem dX8_doubts_47 : decode cX8_doubts 47 = .ok (.invokestatic 143, 3) := by decide +kernel
theorem dX8_doubts_50 : decode cX8_doubts 50 = .ok (.aload_n 0, 1) := by decide +kernel
theorem dX8_doubts_51 : decode cX8_doubts 51 = .ok (.getfield 7, 3) := by decide +kernel
theorem dX8_doubts_54 : decode cX8_doubts 54 = .ok (.iconst 2, 1) := by decide +kernel
theorem dX8_doubts_55 : decode cX8_doubts 55 = .ok (.iaload, 1) := by decide +kernel
theorem dX8_doubts_56 : decode cX8_doubts 56 = .ok (.if_icmp .ge 10, 3) := by decide +kernel
theorem dX8_doubts_59 : decode cX8_doubts 59 = .ok (.iconst 1, 1) := by decide +kernel
theorem dX8_doubts_60 : decode cX8_doubts 60 = .ok (.iload 5, 2) := by decide +kernel
theorem dX8_doubts_62 : decode cX8_doubts 62 = .ok (.ishl, 1) := by decide +kernel
theorem dX8_doubts_63 : decode cX8_doubts 63 = .ok (.goto 4, 3) := by decide +kernel
theorem dX8_doubts_66 : decode cX8_doubts 66 = .ok (.iconst 0, 1) := by decide +kernel
theorem dX8_doubts_67 : decode cX8_doubts 67 = .ok (.ior, 1) := by decide +kernel
theorem dX8_doubts_68 : decode cX8_doubts 68 = .ok (.istore 4, 2) := by decide +kernel
theorem dX8_doubts_70 : decode cX8_doubts 70 = .ok (.iinc 5 1, 3) := by decide +kernel
theorem dX8_doubts_73 : decode cX8_doubts 73 = .ok (.goto (-57), 3) := by decide +kernel
theorem dX8_doubts_76 : decode cX8_doubts 76 = .ok (.iload 4, 2) := by decide +kernel
theorem dX8_doubts_78 : decode cX8_doubts 78 = .ok (.ireturn, 1) := by decide +kernel
theorem dX8_doubtful_0 : decode cX8_doubtful 0 = .ok (.aload_n 0, 1) := by decide +kernel
theorem dX8_doubtful_1 : decode cX8_doubtful 1 = .ok (.iconst 0, 1) := by decide +kernel
theorem dX8_doubtful_2 : decode cX8_doubtful 2 = .ok (.putfield 50, 3) := by decide +kernel
theorem dX8_doubtful_5 : decode cX8_doubtful 5 = .ok (.aload_n 0, 1) := by decide +kernel
theorem dX8_doubtful_6 : decode cX8_doubtful 6 = .ok (.iload_n 1, 1) := by decide +kernel
theorem dX8_doubtful_7 : decode cX8_doubtful 7 = .ok (.invokevirtual 140, 3) := by decide +kernel
theorem dX8_doubtful_10 : decode cX8_doubtful 10 = .ok (.ifCond .eq 11, 3) := by decide +kernel
theorem dX8_doubtful_13 : decode cX8_doubtful 13 = .ok (.aload_n 0, 1) := by decide +kernel
theorem dX8_doubtful_14 : decode cX8_doubtful 14 = .ok (.iload_n 1, 1) := by decide +kernel
theorem dX8_doubtful_15 : decode cX8_doubtful 15 = .ok (.invokevirtual 197, 3) := by decide +kernel
theorem dX8_doubtful_18 : decode cX8_doubtful 18 = .ok (.goto 4, 3) := by decide +kernel
theorem dX8_doubtful_21 : decode cX8_doubtful 21 = .ok (.iconst (-1), 1) := by decide +kernel
theorem dX8_doubtful_22 : decode cX8_doubtful 22 = .ok (.ireturn, 1) := by decide +kernel
theorem dX8_run_0 : decode cX8_run 0 = .ok (.aload_n 0, 1) := by decide +kernel
theorem dX8_run_1 : decode cX8_run 1 = .ok (.iconst 0, 1) := by decide +kernel
theorem dX8_run_2 : decode cX8_run 2 = .ok (.putfield 50, 3) := by decide +kernel
theorem dX8_run_5 : decode cX8_run 5 = .ok (.aload_n 0, 1) := by decide +kernel
theorem dX8_run_6 : decode cX8_run 6 = .ok (.iload_n 1, 1) := by decide +kernel
theorem dX8_run_7 : decode cX8_run 7 = .ok (.iload_n 3, 1) := by decide +kernel
theorem dX8_run_8 : decode cX8_run 8 = .ok (.invokevirtual 181, 3) := by decide +kernel
theorem dX8_run_11 : decode cX8_run 11 = .ok (.ifCond .ne 5, 3) := by decide +kernel
theorem dX8_run_14 : decode cX8_run 14 = .ok (.iconst (-1), 1) := by decide +kernel
theorem dX8_run_15 : decode cX8_run 15 = .ok (.ireturn, 1) := by decide +kernel
theorem dX8_run_16 : decode cX8_run 16 = .ok (.iload_n 2, 1) := by decide +kernel
theorem dX8_run_17 : decode cX8_run 17 = .ok (.ifCond .ge 6, 3) := by decide +kernel
theorem dX8_run_20 : decode cX8_run 20 = .ok (.bipush (-2), 2) := by decide +kernel
theorem dX8_run_22 : decode cX8_run 22 = .ok (.ireturn, 1) := by decide +kernel
theorem dX8_run_23 : decode cX8_run 23 = .ok (.aload_n 0, 1) := by decide +kernel
theorem dX8_run_24 : decode cX8_run 24 = .ok (.iload_n 1, 1) := by decide +kernel
theorem dX8_run_25 : decode cX8_run 25 = .ok (.invokevirtual 151, 3) := by decide +kernel
theorem dX8_run_28 : decode cX8_run 28 = .ok (.iload_n 2, 1) := by decide +kernel
theorem dX8_run_29 : decode cX8_run 29 = .ok (.i2l, 1) := by decide +kernel
theorem dX8_run_30 : decode cX8_run 30 = .ok (.aload_n 0, 1) := by decide +kernel
theorem dX8_run_31 : decode cX8_run 31 = .ok (.invokevirtual 188, 3) := by decide +kernel
theorem dX8_run_34 : decode cX8_run 34 = .ok (.lcmp, 1) := by decide +kernel
theorem dX8_run_35 : decode cX8_run 35 = .ok (.ifCond .ge 13, 3) := by decide +kernel
theorem dX8_run_38 : decode cX8_run 38 = .ok (.aload_n 0, 1) := by decide +kernel
theorem dX8_run_39 : decode cX8_run 39 = .ok (.iload_n 1, 1) := by decide +kernel
theorem dX8_run_40 : decode cX8_run 40 = .ok (.iload_n 2, 1) := by decide +kernel
theorem dX8_run_41 : decode cX8_run 41 = .ok (.iload_n 3, 1) := by decide +kernel
theorem dX8_run_42 : decode cX8_run 42 = .ok (.invokevirtual 200, 3) := by decide +kernel
theorem dX8_run_45 : decode cX8_run 45 = .ok (.goto 5, 3) := by decide +kernel
theorem dX8_run_48 : decode cX8_run 48 = .ok (.bipush (-5), 2) := by decide +kernel
theorem dX8_run_50 : decode cX8_run 50 = .ok (.ireturn, 1) := by decide +kernel
theorem dX8_weightOfNext_0 : decode cX8_weightOfNext 0 = .ok (.lconst 0, 1) := by decide +kernel
theorem dX8_weightOfNext_1 : decode cX8_weightOfNext 1 = .ok (.lstore_n 3, 1) := by decide +kernel
theorem dX8_weightOfNext_2 : decode cX8_weightOfNext 2 = .ok (.aload_n 0, 1) := by decide +kernel
theorem dX8_weightOfNext_3 : decode cX8_weightOfNext 3 = .ok (.iload_n 1, 1) := by decide +kernel
theorem dX8_weightOfNext_4 : decode cX8_weightOfNext 4 = .ok (.invokevirtual 65, 3) := by decide +kernel
theorem dX8_weightOfNext_7 : decode cX8_weightOfNext 7 = .ok (.iconst 1, 1) := by decide +kernel
theorem dX8_weightOfNext_8 : decode cX8_weightOfNext 8 = .ok (.isub, 1) := by decide +kernel
theorem dX8_weightOfNext_9 : decode cX8_weightOfNext 9 = .ok (.istore 5, 2) := by decide +kernel
theorem dX8_weightOfNext_11 : decode cX8_weightOfNext 11 = .ok (.iconst 0, 1) := by decide +kernel
theorem dX8_weightOfNext_12 : decode cX8_weightOfNext 12 = .ok (.istore 6, 2) := by decide +kernel
theorem dX8_weightOfNext_14 : decode cX8_weightOfNext 14 = .ok (.iload 6, 2) := by decide +kernel
theorem dX8_weightOfNext_16 : decode cX8_weightOfNext 16 = .ok (.aload_n 0, 1) := by decide +kernel
theorem dX8_weightOfNext_17 : decode cX8_weightOfNext 17 = .ok (.getfield 7, 3) := by decide +kernel
theorem dX8_weightOfNext_20 : decode cX8_weightOfNext 20 = .ok (.iconst 0, 1) := by decide +kernel
theorem dX8_weightOfNext_21 : decode cX8_weightOfNext 21 = .ok (.iaload, 1) := by decide +kernel
theorem dX8_weightOfNext_22 : decode cX8_weightOfNext 22 = .ok (.if_icmp .ge 63, 3) := by decide +kernel
theorem dX8_weightOfNext_25 : decode cX8_weightOfNext 25 = .ok (.iconst 0, 1) := by decide +kernel
theorem dX8_weightOfNext_26 : decode cX8_weightOfNext 26 = .ok (.istore 7, 2) := by decide +kernel
theorem dX8_weightOfNext_28 : decode cX8_weightOfNext 28 = .ok (.iload 7, 2) := by decide +kernel
theorem dX8_weightOfNext_30 : decode cX8_weightOfNext 30 = .ok (.aload_n 0, 1) := by decide +kernel
theorem dX8_weightOfNext_31 : decode cX8_weightOfNext 31 = .ok (.getfield 7, 3) := by decide +kernel
theorem dX8_weightOfNext_34 : decode cX8_weightOfNext 34 = .ok (.iconst 0, 1) := by decide +kernel
theorem dX8_weightOfNext_35 : decode cX8_weightOfNext 35 = .ok (.iaload, 1) := by decide +kernel
theorem dX8_weightOfNext_36 : decode cX8_weightOfNext 36 = .ok (.if_icmp .ge 43, 3) := by decide +kernel
theorem dX8_weightOfNext_39 : decode cX8_weightOfNext 39 = .ok (.lload_n 3, 1) := by decide +kernel
theorem dX8_weightOfNext_40 : decode cX8_weightOfNext 40 = .ok (.aload_n 0, 1) := by decide +kernel
theorem dX8_weightOfNext_41 : decode cX8_weightOfNext 41 = .ok (.getfield 25, 3) := by decide +kernel
theorem dX8_weightOfNext_44 : decode cX8_weightOfNext 44 = .ok (.iconst 4, 1) := by decide +kernel
theorem dX8_weightOfNext_45 : decode cX8_weightOfNext 45 = .ok (.iload 5, 2) := by decide +kernel
theorem dX8_weightOfNext_47 : decode cX8_weightOfNext 47 = .ok (.imul, 1) := by decide +kernel
theorem dX8_weightOfNext_48 : decode cX8_weightOfNext 48 = .ok (.iload 6, 2) := by decide +kernel
theorem dX8_weightOfNext_50 : decode cX8_weightOfNext 50 = .ok (.iadd, 1) := by decide +kernel
theorem dX8_weightOfNext_51 : decode cX8_weightOfNext 51 = .ok (.laload, 1) := by decide +kernel
theorem dX8_weightOfNext_52 : decode cX8_weightOfNext 52 = .ok (.aload_n 0, 1) := by decide +kernel
theorem dX8_weightOfNext_53 : decode cX8_weightOfNext 53 = .ok (.iload 6, 2) := by decide +kernel
theorem dX8_weightOfNext_55 : decode cX8_weightOfNext 55 = .ok (.iload 7, 2) := by decide +kernel
theorem dX8_weightOfNext_57 : decode cX8_weightOfNext 57 = .ok (.invokevirtual 76, 3) := by decide +kernel
theorem dX8_weightOfNext_60 : decode cX8_weightOfNext 60 = .ok (.i2l, 1) := by decide +kernel
theorem dX8_weightOfNext_61 : decode cX8_weightOfNext 61 = .ok (.lmul, 1) := by decide +kernel
theorem dX8_weightOfNext_62 : decode cX8_weightOfNext 62 = .ok (.aload_n 0, 1) := by decide +kernel
theorem dX8_weightOfNext_63 : decode cX8_weightOfNext 63 = .ok (.iload 7, 2) := by decide +kernel
theorem dX8_weightOfNext_65 : decode cX8_weightOfNext 65 = .ok (.iload_n 2, 1) := by decide +kernel
theorem dX8_weightOfNext_66 : decode cX8_weightOfNext 66 = .ok (.invokevirtual 73, 3) := by decide +kernel
theorem dX8_weightOfNext_69 : decode cX8_weightOfNext 69 = .ok (.i2l, 1) := by decide +kernel
theorem dX8_weightOfNext_70 : decode cX8_weightOfNext 70 = .ok (.lmul, 1) := by decide +kernel
theorem dX8_weightOfNext_71 : decode cX8_weightOfNext 71 = .ok (.ladd, 1) := by decide +kernel
theorem dX8_weightOfNext_72 : decode cX8_weightOfNext 72 = .ok (.lstore_n 3, 1) := by decide +kernel
theorem dX8_weightOfNext_73 : decode cX8_weightOfNext 73 = .ok (.iinc 7 1, 3) := by decide +kernel
theorem dX8_weightOfNext_76 : decode cX8_weightOfNext 76 = .ok (.goto (-48), 3) := by decide +kernel
theorem dX8_weightOfNext_79 : decode cX8_weightOfNext 79 = .ok (.iinc 6 1, 3) := by decide +kernel
theorem dX8_weightOfNext_82 : decode cX8_weightOfNext 82 = .ok (.goto (-68), 3) := by decide +kernel
theorem dX8_weightOfNext_85 : decode cX8_weightOfNext 85 = .ok (.lload_n 3, 1) := by decide +kernel
theorem dX8_weightOfNext_86 : decode cX8_weightOfNext 86 = .ok (.lreturn, 1) := by decide +kernel
theorem dX8_next_0 : decode cX8_next 0 = .ok (.aload_n 0, 1) := by decide +kernel
theorem dX8_next_1 : decode cX8_next 1 = .ok (.iconst 0, 1) := by decide +kernel
theorem dX8_next_2 : decode cX8_next 2 = .ok (.putfield 50, 3) := by decide +kernel
theorem dX8_next_5 : decode cX8_next 5 = .ok (.aload_n 0, 1) := by decide +kernel
theorem dX8_next_6 : decode cX8_next 6 = .ok (.iload_n 1, 1) := by decide +kernel
theorem dX8_next_7 : decode cX8_next 7 = .ok (.invokevirtual 140, 3) := by decide +kernel
theorem dX8_next_10 : decode cX8_next 10 = .ok (.ifCond .eq 12, 3) := by decide +kernel
theorem dX8_next_13 : decode cX8_next 13 = .ok (.iload_n 2, 1) := by decide +kernel
theorem dX8_next_14 : decode cX8_next 14 = .ok (.iconst 0, 1) := by decide +kernel
theorem dX8_next_15 : decode cX8_next 15 = .ok (.iconst 2, 1) := by decide +kernel
theorem dX8_next_16 : decode cX8_next 16 = .ok (.invokestatic 58, 3) := by decide +kernel
theorem dX8_next_19 : decode cX8_next 19 = .ok (.ifCond .ne 5, 3) := by decide +kernel
theorem dX8_next_22 : decode cX8_next 22 = .ok (.iconst (-1), 1) := by decide +kernel
theorem dX8_next_23 : decode cX8_next 23 = .ok (.ireturn, 1) := by decide +kernel
theorem dX8_next_24 : decode cX8_next 24 = .ok (.aload_n 0, 1) := by decide +kernel
theorem dX8_next_25 : decode cX8_next 25 = .ok (.iload_n 1, 1) := by decide +kernel
theorem dX8_next_26 : decode cX8_next 26 = .ok (.invokevirtual 151, 3) := by decide +kernel
theorem dX8_next_29 : decode cX8_next 29 = .ok (.aload_n 0, 1) := by decide +kernel
theorem dX8_next_30 : decode cX8_next 30 = .ok (.iload_n 1, 1) := by decide +kernel
theorem dX8_next_31 : decode cX8_next 31 = .ok (.iconst 0, 1) := by decide +kernel
theorem dX8_next_32 : decode cX8_next 32 = .ok (.invokevirtual 203, 3) := by decide +kernel
theorem dX8_next_35 : decode cX8_next 35 = .ok (.aload_n 0, 1) := by decide +kernel
theorem dX8_next_36 : decode cX8_next 36 = .ok (.iload_n 1, 1) := by decide +kernel
theorem dX8_next_37 : decode cX8_next 37 = .ok (.iconst 1, 1) := by decide +kernel
theorem dX8_next_38 : decode cX8_next 38 = .ok (.invokevirtual 203, 3) := by decide +kernel
theorem dX8_next_41 : decode cX8_next 41 = .ok (.ladd, 1) := by decide +kernel
theorem dX8_next_42 : decode cX8_next 42 = .ok (.aload_n 0, 1) := by decide +kernel
theorem dX8_next_43 : decode cX8_next 43 = .ok (.iload_n 1, 1) := by decide +kernel
theorem dX8_next_44 : decode cX8_next 44 = .ok (.iconst 2, 1) := by decide +kernel
theorem dX8_next_45 : decode cX8_next 45 = .ok (.invokevirtual 203, 3) := by decide +kernel
theorem dX8_next_48 : decode cX8_next 48 = .ok (.ladd, 1) := by decide +kernel
theorem dX8_next_49 : decode cX8_next 49 = .ok (.lstore_n 3, 1) := by decide +kernel
theorem dX8_next_50 : decode cX8_next 50 = .ok (.lload_n 3, 1) := by decide +kernel
theorem dX8_next_51 : decode cX8_next 51 = .ok (.lconst 0, 1) := by decide +kernel
theorem dX8_next_52 : decode cX8_next 52 = .ok (.lcmp, 1) := by decide +kernel
theorem dX8_next_53 : decode cX8_next 53 = .ok (.ifCond .ne 8, 3) := by decide +kernel
theorem dX8_next_56 : decode cX8_next 56 = .ok (.bipush (-5), 2) := by decide +kernel
theorem dX8_next_58 : decode cX8_next 58 = .ok (.goto 13, 3) := by decide +kernel
theorem dX8_next_61 : decode cX8_next 61 = .ok (.aload_n 0, 1) := by decide +kernel
theorem dX8_next_62 : decode cX8_next 62 = .ok (.iload_n 1, 1) := by decide +kernel
theorem dX8_next_63 : decode cX8_next 63 = .ok (.iload_n 2, 1) := by decide +kernel
theorem dX8_next_64 : decode cX8_next 64 = .ok (.invokevirtual 203, 3) := by decide +kernel
theorem dX8_next_67 : decode cX8_next 67 = .ok (.lload_n 3, 1) := by decide +kernel
theorem dX8_next_68 : decode cX8_next 68 = .ok (.invokestatic 143, 3) := by decide +kernel
theorem dX8_next_71 : decode cX8_next 71 = .ok (.ireturn, 1) := by decide +kernel
theorem dX8_signs_0 : decode cX8_signs 0 = .ok (.iconst 0, 1) := by decide +kernel
theorem dX8_signs_1 : decode cX8_signs 1 = .ok (.istore_n 1, 1) := by decide +kernel
theorem dX8_signs_2 : decode cX8_signs 2 = .ok (.iconst 0, 1) := by decide +kernel
theorem dX8_signs_3 : decode cX8_signs 3 = .ok (.istore_n 2, 1) := by decide +kernel
theorem dX8_signs_4 : decode cX8_signs 4 = .ok (.iload_n 2, 1) := by decide +kernel
theorem dX8_signs_5 : decode cX8_signs 5 = .ok (.aload_n 0, 1) := by decide +kernel
theorem dX8_signs_6 : decode cX8_signs 6 = .ok (.getfield 7, 3) := by decide +kernel
theorem dX8_signs_9 : decode cX8_signs 9 = .ok (.iconst 1, 1) := by decide +kernel
theorem dX8_signs_10 : decode cX8_signs 10 = .ok (.iaload, 1) := by decide +kernel
theorem dX8_signs_11 : decode cX8_signs 11 = .ok (.if_icmp .ge 17, 3) := by decide +kernel
theorem dX8_signs_14 : decode cX8_signs 14 = .ok (.iload_n 1, 1) := by decide +kernel
theorem dX8_signs_15 : decode cX8_signs 15 = .ok (.aload_n 0, 1) := by decide +kernel
theorem dX8_signs_16 : decode cX8_signs 16 = .ok (.iload_n 2, 1) := by decide +kernel
theorem dX8_signs_17 : decode cX8_signs 17 = .ok (.invokevirtual 65, 3) := by decide +kernel
theorem dX8_signs_20 : decode cX8_signs 20 = .ok (.iadd, 1) := by decide +kernel
theorem dX8_signs_21 : decode cX8_signs 21 = .ok (.istore_n 1, 1) := by decide +kernel
theorem dX8_signs_22 : decode cX8_signs 22 = .ok (.iinc 2 1, 3) := by decide +kernel
theorem dX8_signs_25 : decode cX8_signs 25 = .ok (.goto (-21), 3) := by decide +kernel
theorem dX8_signs_28 : decode cX8_signs 28 = .ok (.iload_n 1, 1) := by decide +kernel
theorem dX8_signs_29 : decode cX8_signs 29 = .ok (.ireturn, 1) := by decide +kernel
theorem dX8_overSamples_0 : decode cX8_overSamples 0 = .ok (.iconst 0, 1) := by decide +kernel
theorem dX8_overSamples_1 : decode cX8_overSamples 1 = .ok (.istore_n 2, 1) := by decide +kernel
theorem dX8_overSamples_2 : decode cX8_overSamples 2 = .ok (.iconst 0, 1) := by decide +kernel
theorem dX8_overSamples_3 : decode cX8_overSamples 3 = .ok (.istore_n 3, 1) := by decide +kernel
theorem dX8_overSamples_4 : decode cX8_overSamples 4 = .ok (.iload_n 3, 1) := by decide +kernel
theorem dX8_overSamples_5 : decode cX8_overSamples 5 = .ok (.aload_n 0, 1) := by decide +kernel
theorem dX8_overSamples_6 : decode cX8_overSamples 6 = .ok (.getfield 7, 3) := by decide +kernel
theorem dX8_overSamples_9 : decode cX8_overSamples 9 = .ok (.iconst 1, 1) := by decide +kernel
theorem dX8_overSamples_10 : decode cX8_overSamples 10 = .ok (.iaload, 1) := by decide +kernel
theorem dX8_overSamples_11 : decode cX8_overSamples 11 = .ok (.if_icmp .ge 119, 3) := by decide +kernel
theorem dX8_overSamples_14 : decode cX8_overSamples 14 = .ok (.aload_n 0, 1) := by decide +kernel
theorem dX8_overSamples_15 : decode cX8_overSamples 15 = .ok (.iload_n 3, 1) := by decide +kernel
theorem dX8_overSamples_16 : decode cX8_overSamples 16 = .ok (.invokevirtual 197, 3) := by decide +kernel
theorem dX8_overSamples_19 : decode cX8_overSamples 19 = .ok (.istore 4, 2) := by decide +kernel
theorem dX8_overSamples_21 : decode cX8_overSamples 21 = .ok (.aload_n 0, 1) := by decide +kernel
theorem dX8_overSamples_22 : decode cX8_overSamples 22 = .ok (.invokevirtual 154, 3) := by decide +kernel
theorem dX8_overSamples_25 : decode cX8_overSamples 25 = .ok (.lconst 0, 1) := by decide +kernel
theorem dX8_overSamples_26 : decode cX8_overSamples 26 = .ok (.lcmp, 1) := by decide +kernel
theorem dX8_overSamples_27 : decode cX8_overSamples 27 = .ok (.ifCond .ne 7, 3) := by decide +kernel
theorem dX8_overSamples_30 : decode cX8_overSamples 30 = .ok (.iconst 1, 1) := by decide +kernel
theorem dX8_overSamples_31 : decode cX8_overSamples 31 = .ok (.goto 4, 3) := by decide +kernel
theorem dX8_overSamples_34 : decode cX8_overSamples 34 = .ok (.iconst 0, 1) := by decide +kernel
theorem dX8_overSamples_35 : decode cX8_overSamples 35 = .ok (.istore 5, 2) := by decide +kernel
theorem dX8_overSamples_37 : decode cX8_overSamples 37 = .ok (.iload_n 2, 1) := by decide +kernel
theorem dX8_overSamples_38 : decode cX8_overSamples 38 = .ok (.iload_n 1, 1) := by decide +kernel
theorem dX8_overSamples_39 : decode cX8_overSamples 39 = .ok (.iconst 5, 1) := by decide +kernel
theorem dX8_overSamples_40 : decode cX8_overSamples 40 = .ok (.if_icmp .ne 12, 3) := by decide +kernel
theorem dX8_overSamples_43 : decode cX8_overSamples 43 = .ok (.iload 5, 2) := by decide +kernel
theorem dX8_overSamples_45 : decode cX8_overSamples 45 = .ok (.ifCond .eq 7, 3) := by decide +kernel
theorem dX8_overSamples_48 : decode cX8_overSamples 48 = .ok (.iconst 1, 1) := by decide +kernel
theorem dX8_overSamples_49 : decode cX8_overSamples 49 = .ok (.goto 4, 3) := by decide +kernel
theorem dX8_overSamples_52 : decode cX8_overSamples 52 = .ok (.iconst 0, 1) := by decide +kernel
theorem dX8_overSamples_53 : decode cX8_overSamples 53 = .ok (.iadd, 1) := by decide +kernel
theorem dX8_overSamples_54 : decode cX8_overSamples 54 = .ok (.istore_n 2, 1) := by decide +kernel
theorem dX8_overSamples_55 : decode cX8_overSamples 55 = .ok (.iconst 0, 1) := by decide +kernel
theorem dX8_overSamples_56 : decode cX8_overSamples 56 = .ok (.istore 6, 2) := by decide +kernel
theorem dX8_overSamples_58 : decode cX8_overSamples 58 = .ok (.iload 6, 2) := by decide +kernel
theorem dX8_overSamples_60 : decode cX8_overSamples 60 = .ok (.aload_n 0, 1) := by decide +kernel
theorem dX8_overSamples_61 : decode cX8_overSamples 61 = .ok (.iload_n 3, 1) := by decide +kernel
theorem dX8_overSamples_62 : decode cX8_overSamples 62 = .ok (.invokevirtual 65, 3) := by decide +kernel
theorem dX8_overSamples_65 : decode cX8_overSamples 65 = .ok (.if_icmp .ge 59, 3) := by decide +kernel
theorem dX8_overSamples_68 : decode cX8_overSamples 68 = .ok (.iload_n 2, 1) := by decide +kernel
theorem dX8_overSamples_69 : decode cX8_overSamples 69 = .ok (.iload_n 1, 1) := by decide +kernel
theorem dX8_overSamples_70 : decode cX8_overSamples 70 = .ok (.iconst 4, 1) := by decide +kernel
theorem dX8_overSamples_71 : decode cX8_overSamples 71 = .ok (.if_icmp .ne 13, 3) := by decide +kernel
theorem dX8_overSamples_74 : decode cX8_overSamples 74 = .ok (.iload 4, 2) := by decide +kernel
theorem dX8_overSamples_76 : decode cX8_overSamples 76 = .ok (.iload 6, 2) := by decide +kernel
theorem dX8_overSamples_78 : decode cX8_overSamples 78 = .ok (.ishr, 1) := by decide +kernel
theorem dX8_overSamples_79 : decode cX8_overSamples 79 = .ok (.iconst 1, 1) := by decide +kernel
theorem dX8_overSamples_80 : decode cX8_overSamples 80 = .ok (.iand, 1) := by decide +kernel
theorem dX8_overSamples_81 : decode cX8_overSamples 81 = .ok (.goto 35, 3) := by decide +kernel
theorem dX8_overSamples_84 : decode cX8_overSamples 84 = .ok (.iload_n 1, 1) := by decide +kernel
theorem dX8_overSamples_85 : decode cX8_overSamples 85 = .ok (.bipush 6, 2) := by decide +kernel
theorem dX8_overSamples_87 : decode cX8_overSamples 87 = .ok (.if_icmp .ne 28, 3) := by decide +kernel
theorem dX8_overSamples_90 : decode cX8_overSamples 90 = .ok (.iload 5, 2) := by decide +kernel
theorem dX8_overSamples_92 : decode cX8_overSamples 92 = .ok (.ifCond .ne 23, 3) := by decide +kernel
theorem dX8_overSamples_95 : decode cX8_overSamples 95 = .ok (.aload_n 0, 1) := by decide +kernel
theorem dX8_overSamples_96 : decode cX8_overSamples 96 = .ok (.iload_n 3, 1) := by decide +kernel
theorem dX8_overSamples_97 : decode cX8_overSamples 97 = .ok (.iload 6, 2) := by decide +kernel
theorem dX8_overSamples_99 : decode cX8_overSamples 99 = .ok (.invokevirtual 191, 3) := by decide +kernel
theorem dX8_overSamples_102 : decode cX8_overSamples 102 = .ok (.aload_n 0, 1) := by decide +kernel
theorem dX8_overSamples_103 : decode cX8_overSamples 103 = .ok (.iload 6, 2) := by decide +kernel
theorem dX8_overSamples_105 : decode cX8_overSamples 105 = .ok (.invokevirtual 194, 3) := by decide +kernel
theorem dX8_overSamples_108 : decode cX8_overSamples 108 = .ok (.if_icmp .eq 7, 3) := by decide +kernel
theorem dX8_overSamples_111 : decode cX8_overSamples 111 = .ok (.iconst 1, 1) := by decide +kernel
theorem dX8_overSamples_112 : decode cX8_overSamples 112 = .ok (.goto 4, 3) := by decide +kernel
theorem dX8_overSamples_115 : decode cX8_overSamples 115 = .ok (.iconst 0, 1) := by decide +kernel
theorem dX8_overSamples_116 : decode cX8_overSamples 116 = .ok (.iadd, 1) := by decide +kernel
theorem dX8_overSamples_117 : decode cX8_overSamples 117 = .ok (.istore_n 2, 1) := by decide +kernel
theorem dX8_overSamples_118 : decode cX8_overSamples 118 = .ok (.iinc 6 1, 3) := by decide +kernel
theorem dX8_overSamples_121 : decode cX8_overSamples 121 = .ok (.goto (-63), 3) := by decide +kernel
theorem dX8_overSamples_124 : decode cX8_overSamples 124 = .ok (.iinc 3 1, 3) := by decide +kernel
theorem dX8_overSamples_127 : decode cX8_overSamples 127 = .ok (.goto (-123), 3) := by decide +kernel
theorem dX8_overSamples_130 : decode cX8_overSamples 130 = .ok (.iload_n 2, 1) := by decide +kernel
theorem dX8_overSamples_131 : decode cX8_overSamples 131 = .ok (.ireturn, 1) := by decide +kernel
theorem dX8_count_0 : decode cX8_count 0 = .ok (.aload_n 0, 1) := by decide +kernel
theorem dX8_count_1 : decode cX8_count 1 = .ok (.iconst 0, 1) := by decide +kernel
theorem dX8_count_2 : decode cX8_count 2 = .ok (.putfield 50, 3) := by decide +kernel
theorem dX8_count_5 : decode cX8_count 5 = .ok (.iload_n 1, 1) := by decide +kernel
theorem dX8_count_6 : decode cX8_count 6 = .ok (.tableswitch 78 0 8 #[50, 50, 50, 57, 62, 62, 62, 68, 73], 50) := by decide +kernel
theorem dX8_count_56 : decode cX8_count 56 = .ok (.aload_n 0, 1) := by decide +kernel
theorem dX8_count_57 : decode cX8_count 57 = .ok (.getfield 7, 3) := by decide +kernel
theorem dX8_count_60 : decode cX8_count 60 = .ok (.iload_n 1, 1) := by decide +kernel
theorem dX8_count_61 : decode cX8_count 61 = .ok (.iaload, 1) := by decide +kernel
theorem dX8_count_62 : decode cX8_count 62 = .ok (.ireturn, 1) := by decide +kernel
theorem dX8_count_63 : decode cX8_count 63 = .ok (.aload_n 0, 1) := by decide +kernel
theorem dX8_count_64 : decode cX8_count 64 = .ok (.invokevirtual 206, 3) := by decide +kernel
theorem dX8_count_67 : decode cX8_count 67 = .ok (.ireturn, 1) := by decide +kernel
theorem dX8_count_68 : decode cX8_count 68 = .ok (.aload_n 0, 1) := by decide +kernel
theorem dX8_count_69 : decode cX8_count 69 = .ok (.iload_n 1, 1) := by decide +kernel
theorem dX8_count_70 : decode cX8_count 70 = .ok (.invokevirtual 209, 3) := by decide +kernel
theorem dX8_count_73 : decode cX8_count 73 = .ok (.ireturn, 1) := by decide +kernel
theorem dX8_count_74 : decode cX8_count 74 = .ok (.aload_n 0, 1) := by decide +kernel
theorem dX8_count_75 : decode cX8_count 75 = .ok (.getfield 62, 3) := by decide +kernel
theorem dX8_count_78 : decode cX8_count 78 = .ok (.ireturn, 1) := by decide +kernel
theorem dX8_count_79 : decode cX8_count 79 = .ok (.aload_n 0, 1) := by decide +kernel
theorem dX8_count_80 : decode cX8_count 80 = .ok (.getfield 120, 3) := by decide +kernel
theorem dX8_count_83 : decode cX8_count 83 = .ok (.ireturn, 1) := by decide +kernel
theorem dX8_count_84 : decode cX8_count 84 = .ok (.bipush (-2), 2) := by decide +kernel
theorem dX8_count_86 : decode cX8_count 86 = .ok (.ireturn, 1) := by decide +kernel
theorem dJ6_bitCount_0f7a4_0 : decode cJ6_bitCount_0f7a4 0 = .ok (.iload_n 0, 1) := by decide +kernel
theorem dJ6_bitCount_0f7a4_1 : decode cJ6_bitCount_0f7a4 1 = .ok (.iload_n 0, 1) := by decide +kernel
theorem dJ6_bitCount_0f7a4_2 : decode cJ6_bitCount_0f7a4 2 = .ok (.iconst 1, 1) := by decide +kernel
theorem dJ6_bitCount_0f7a4_3 : decode cJ6_bitCount_0f7a4 3 = .ok (.iushr, 1) := by decide +kernel
theorem dJ6_bitCount_0f7a4_4 : decode cJ6_bitCount_0f7a4 4 = .ok (.ldc_w 265, 3) := by decide +kernel
theorem dJ6_bitCount_0f7a4_7 : decode cJ6_bitCount_0f7a4 7 = .ok (.iand, 1) := by decide +kernel
theorem dJ6_bitCount_0f7a4_8 : decode cJ6_bitCount_0f7a4 8 = .ok (.isub, 1) := by decide +kernel
theorem dJ6_bitCount_0f7a4_9 : decode cJ6_bitCount_0f7a4 9 = .ok (.istore_n 0, 1) := by decide +kernel
theorem dJ6_bitCount_0f7a4_10 : decode cJ6_bitCount_0f7a4 10 = .ok (.iload_n 0, 1) := by decide +kernel
theorem dJ6_bitCount_0f7a4_11 : decode cJ6_bitCount_0f7a4 11 = .ok (.ldc_w 266, 3) := by decide +kernel
theorem dJ6_bitCount_0f7a4_14 : decode cJ6_bitCount_0f7a4 14 = .ok (.iand, 1) := by decide +kernel
theorem dJ6_bitCount_0f7a4_15 : decode cJ6_bitCount_0f7a4 15 = .ok (.iload_n 0, 1) := by decide +kernel
theorem dJ6_bitCount_0f7a4_16 : decode cJ6_bitCount_0f7a4 16 = .ok (.iconst 2, 1) := by decide +kernel
theorem dJ6_bitCount_0f7a4_17 : decode cJ6_bitCount_0f7a4 17 = .ok (.iushr, 1) := by decide +kernel
theorem dJ6_bitCount_0f7a4_18 : decode cJ6_bitCount_0f7a4 18 = .ok (.ldc_w 266, 3) := by decide +kernel
theorem dJ6_bitCount_0f7a4_21 : decode cJ6_bitCount_0f7a4 21 = .ok (.iand, 1) := by decide +kernel
theorem dJ6_bitCount_0f7a4_22 : decode cJ6_bitCount_0f7a4 22 = .ok (.iadd, 1) := by decide +kernel
theorem dJ6_bitCount_0f7a4_23 : decode cJ6_bitCount_0f7a4 23 = .ok (.istore_n 0, 1) := by decide +kernel
theorem dJ6_bitCount_0f7a4_24 : decode cJ6_bitCount_0f7a4 24 = .ok (.iload_n 0, 1) := by decide +kernel
theorem dJ6_bitCount_0f7a4_25 : decode cJ6_bitCount_0f7a4 25 = .ok (.iload_n 0, 1) := by decide +kernel
theorem dJ6_bitCount_0f7a4_26 : decode cJ6_bitCount_0f7a4 26 = .ok (.iconst 4, 1) := by decide +kernel
theorem dJ6_bitCount_0f7a4_27 : decode cJ6_bitCount_0f7a4 27 = .ok (.iushr, 1) := by decide +kernel
theorem dJ6_bitCount_0f7a4_28 : decode cJ6_bitCount_0f7a4 28 = .ok (.iadd, 1) := by decide +kernel
theorem dJ6_bitCount_0f7a4_29 : decode cJ6_bitCount_0f7a4 29 = .ok (.ldc_w 267, 3) := by decide +kernel
theorem dJ6_bitCount_0f7a4_32 : decode cJ6_bitCount_0f7a4 32 = .ok (.iand, 1) := by decide +kernel
theorem dJ6_bitCount_0f7a4_33 : decode cJ6_bitCount_0f7a4 33 = .ok (.istore_n 0, 1) := by decide +kernel
theorem dJ6_bitCount_0f7a4_34 : decode cJ6_bitCount_0f7a4 34 = .ok (.iload_n 0, 1) := by decide +kernel
theorem dJ6_bitCount_0f7a4_35 : decode cJ6_bitCount_0f7a4 35 = .ok (.iload_n 0, 1) := by decide +kernel
theorem dJ6_bitCount_0f7a4_36 : decode cJ6_bitCount_0f7a4 36 = .ok (.bipush 8, 2) := by decide +kernel
theorem dJ6_bitCount_0f7a4_38 : decode cJ6_bitCount_0f7a4 38 = .ok (.iushr, 1) := by decide +kernel
theorem dJ6_bitCount_0f7a4_39 : decode cJ6_bitCount_0f7a4 39 = .ok (.iadd, 1) := by decide +kernel
theorem dJ6_bitCount_0f7a4_40 : decode cJ6_bitCount_0f7a4 40 = .ok (.istore_n 0, 1) := by decide +kernel
theorem dJ6_bitCount_0f7a4_41 : decode cJ6_bitCount_0f7a4 41 = .ok (.iload_n 0, 1) := by decide +kernel
theorem dJ6_bitCount_0f7a4_42 : decode cJ6_bitCount_0f7a4 42 = .ok (.iload_n 0, 1) := by decide +kernel
theorem dJ6_bitCount_0f7a4_43 : decode cJ6_bitCount_0f7a4 43 = .ok (.bipush 16, 2) := by decide +kernel
theorem dJ6_bitCount_0f7a4_45 : decode cJ6_bitCount_0f7a4 45 = .ok (.iushr, 1) := by decide +kernel
theorem dJ6_bitCount_0f7a4_46 : decode cJ6_bitCount_0f7a4 46 = .ok (.iadd, 1) := by decide +kernel
theorem dJ6_bitCount_0f7a4_47 : decode cJ6_bitCount_0f7a4 47 = .ok (.istore_n 0, 1) := by decide +kernel
theorem dJ6_bitCount_0f7a4_48 : decode cJ6_bitCount_0f7a4 48 = .ok (.iload_n 0, 1) := by decide +kernel
theorem dJ6_bitCount_0f7a4_49 : decode cJ6_bitCount_0f7a4 49 = .ok (.bipush 63, 2) := by decide +kernel
theorem dJ6_bitCount_0f7a4_51 : decode cJ6_bitCount_0f7a4 51 = .ok (.iand, 1) := by decide +kernel
theorem dJ6_bitCount_0f7a4_52 : decode cJ6_bitCount_0f7a4 52 = .ok (.ireturn, 1) := by decide +kernel
theorem dJ9_max_7cf53_0 : decode cJ9_max_7cf53 0 = .ok (.iload_n 0, 1) := by decide +kernel
theorem dJ9_max_7cf53_1 : decode cJ9_max_7cf53 1 = .ok (.iload_n 1, 1) := by decide +kernel
theorem dJ9_max_7cf53_2 : decode cJ9_max_7cf53 2 = .ok (.if_icmp .lt 7, 3) := by decide +kernel
theorem dJ9_max_7cf53_5 : decode cJ9_max_7cf53 5 = .ok (.iload_n 0, 1) := by decide +kernel
theorem dJ9_max_7cf53_6 : decode cJ9_max_7cf53 6 = .ok (.goto 4, 3) := by decide +kernel
theorem dJ9_max_7cf53_9 : decode cJ9_max_7cf53 9 = .ok (.iload_n 1, 1) := by decide +kernel
theorem dJ9_max_7cf53_10 : decode cJ9_max_7cf53 10 = .ok (.ireturn, 1) := by decide +kernel
theorem dJ9_min_7cf53_0 : decode cJ9_min_7cf53 0 = .ok (.iload_n 0, 1) := by decide +kernel
theorem dJ9_min_7cf53_1 : decode cJ9_min_7cf53 1 = .ok (.iload_n 1, 1) := by decide +kernel
theorem dJ9_min_7cf53_2 : decode cJ9_min_7cf53 2 = .ok (.if_icmp .gt 7, 3) := by decide +kernel
theorem dJ9_min_7cf53_5 : decode cJ9_min_7cf53 5 = .ok (.iload_n 0, 1) := by decide +kernel
theorem dJ9_min_7cf53_6 : decode cJ9_min_7cf53 6 = .ok (.goto 4, 3) := by decide +kernel
theorem dJ9_min_7cf53_9 : decode cJ9_min_7cf53 9 = .ok (.iload_n 1, 1) := by decide +kernel
theorem dJ9_min_7cf53_10 : decode cJ9_min_7cf53 10 = .ok (.ireturn, 1) := by decide +kernel
theorem dJ7_fill_53178_0 : decode cJ7_fill_53178 0 = .ok (.iconst 0, 1) := by decide +kernel
theorem dJ7_fill_53178_1 : decode cJ7_fill_53178 1 = .ok (.istore_n 2, 1) := by decide +kernel
theorem dJ7_fill_53178_2 : decode cJ7_fill_53178 2 = .ok (.aload_n 0, 1) := by decide +kernel
theorem dJ7_fill_53178_3 : decode cJ7_fill_53178 3 = .ok (.arraylength, 1) := by decide +kernel
theorem dJ7_fill_53178_4 : decode cJ7_fill_53178 4 = .ok (.istore_n 3, 1) := by decide +kernel
theorem dJ7_fill_53178_5 : decode cJ7_fill_53178 5 = .ok (.iload_n 2, 1) := by decide +kernel
theorem dJ7_fill_53178_6 : decode cJ7_fill_53178 6 = .ok (.iload_n 3, 1) := by decide +kernel
theorem dJ7_fill_53178_7 : decode cJ7_fill_53178 7 = .ok (.if_icmp .ge 13, 3) := by decide +kernel
theorem dJ7_fill_53178_10 : decode cJ7_fill_53178 10 = .ok (.aload_n 0, 1) := by decide +kernel
theorem dJ7_fill_53178_11 : decode cJ7_fill_53178 11 = .ok (.iload_n 2, 1) := by decide +kernel
theorem dJ7_fill_53178_12 : decode cJ7_fill_53178 12 = .ok (.iload_n 1, 1) := by decide +kernel
theorem dJ7_fill_53178_13 : decode cJ7_fill_53178 13 = .ok (.iastore, 1) := by decide +kernel
theorem dJ7_fill_53178_14 : decode cJ7_fill_53178 14 = .ok (.iinc 2 1, 3) := by decide +kernel
theorem dJ7_fill_53178_17 : decode cJ7_fill_53178 17 = .ok (.goto (-12), 3) := by decide +kernel
theorem dJ7_fill_53178_20 : decode cJ7_fill_53178 20 = .ok (.return_, 1) := by decide +kernel
theorem dL_law_0 : decode cL_law 0 = .ok (.new 7, 3) := by decide +kernel
theorem dL_law_3 : decode cL_law 3 = .ok (.dup, 1) := by decide +kernel
theorem dL_law_4 : decode cL_law 4 = .ok (.invokespecial 9, 3) := by decide +kernel
theorem dL_law_7 : decode cL_law 7 = .ok (.astore_n 1, 1) := by decide +kernel
theorem dL_law_8 : decode cL_law 8 = .ok (.new 10, 3) := by decide +kernel
theorem dL_law_11 : decode cL_law 11 = .ok (.dup, 1) := by decide +kernel
theorem dL_law_12 : decode cL_law 12 = .ok (.invokespecial 12, 3) := by decide +kernel
theorem dL_law_15 : decode cL_law 15 = .ok (.astore_n 2, 1) := by decide +kernel
theorem dL_law_16 : decode cL_law 16 = .ok (.iconst 0, 1) := by decide +kernel
theorem dL_law_17 : decode cL_law 17 = .ok (.istore_n 3, 1) := by decide +kernel
theorem dL_law_18 : decode cL_law 18 = .ok (.iload_n 3, 1) := by decide +kernel
theorem dL_law_19 : decode cL_law 19 = .ok (.aload_n 0, 1) := by decide +kernel
theorem dL_law_20 : decode cL_law 20 = .ok (.arraylength, 1) := by decide +kernel
theorem dL_law_21 : decode cL_law 21 = .ok (.iconst 5, 1) := by decide +kernel
theorem dL_law_22 : decode cL_law 22 = .ok (.isub, 1) := by decide +kernel
theorem dL_law_23 : decode cL_law 23 = .ok (.if_icmp .gt 798, 3) := by decide +kernel
theorem dL_law_26 : decode cL_law 26 = .ok (.aload_n 0, 1) := by decide +kernel
theorem dL_law_27 : decode cL_law 27 = .ok (.iload_n 3, 1) := by decide +kernel
theorem dL_law_28 : decode cL_law 28 = .ok (.iaload, 1) := by decide +kernel
theorem dL_law_29 : decode cL_law 29 = .ok (.bipush 31, 2) := by decide +kernel
theorem dL_law_31 : decode cL_law 31 = .ok (.iand, 1) := by decide +kernel
theorem dL_law_32 : decode cL_law 32 = .ok (.tableswitch 783 0 23 #[112, 165, 178, 201, 234, 257, 280, 293, 316, 339, 364, 377, 390, 403, 416, 485, 518, 552, 585, 628, 661, 684, 727, 760], 112) := by decide +kernel
theorem dL_law_144 : decode cL_law 144 = .ok (.aload_n 1, 1) := by decide +kernel
theorem dL_law_145 : decode cL_law 145 = .ok (.aload_n 0, 1) := by decide +kernel
theorem dL_law_146 : decode cL_law 146 = .ok (.iload_n 3, 1) := by decide +kernel
theorem dL_law_147 : decode cL_law 147 = .ok (.iconst 1, 1) := by decide +kernel
theorem dL_law_148 : decode cL_law 148 = .ok (.iadd, 1) := by decide +kernel
theorem dL_law_149 : decode cL_law 149 = .ok (.iaload, 1) := by decide +kernel
theorem dL_law_150 : decode cL_law 150 = .ok (.aload_n 0, 1) := by decide +kernel
theorem dL_law_151 : decode cL_law 151 = .ok (.iload_n 3, 1) := by decide +kernel
theorem dL_law_152 : decode cL_law 152 = .ok (.iconst 2, 1) := by decide +kernel
theorem dL_law_153 : decode cL_law 153 = .ok (.iadd, 1) := by decide +kernel
theorem dL_law_154 : decode cL_law 154 = .ok (.iaload, 1) := by decide +kernel
theorem dL_law_155 : decode cL_law 155 = .ok (.aload_n 0, 1) := by decide +kernel
theorem dL_law_156 : decode cL_law 156 = .ok (.iload_n 3, 1) := by decide +kernel
theorem dL_law_157 : decode cL_law 157 = .ok (.iconst 3, 1) := by decide +kernel
theorem dL_law_158 : decode cL_law 158 = .ok (.iadd, 1) := by decide +kernel
theorem dL_law_159 : decode cL_law 159 = .ok (.iaload, 1) := by decide +kernel
theorem dL_law_160 : decode cL_law 160 = .ok (.aload_n 0, 1) := by decide +kernel
theorem dL_law_161 : decode cL_law 161 = .ok (.iload_n 3, 1) := by decide +kernel
theorem dL_law_162 : decode cL_law 162 = .ok (.iconst 4, 1) := by decide +kernel
theorem dL_law_163 : decode cL_law 163 = .ok (.iadd, 1) := by decide +kernel
theorem dL_law_164 : decode cL_law 164 = .ok (.iaload, 1) := by decide +kernel
theorem dL_law_165 : decode cL_law 165 = .ok (.invokevirtual 13, 3) := by decide +kernel
theorem dL_law_168 : decode cL_law 168 = .ok (.aload_n 2, 1) := by decide +kernel
theorem dL_law_169 : decode cL_law 169 = .ok (.aload_n 0, 1) := by decide +kernel
theorem dL_law_170 : decode cL_law 170 = .ok (.iload_n 3, 1) := by decide +kernel
theorem dL_law_171 : decode cL_law 171 = .ok (.iconst 1, 1) := by decide +kernel
theorem dL_law_172 : decode cL_law 172 = .ok (.iadd, 1) := by decide +kernel
theorem dL_law_173 : decode cL_law 173 = .ok (.iaload, 1) := by decide +kernel
theorem dL_law_174 : decode cL_law 174 = .ok (.aload_n 0, 1) := by decide +kernel
theorem dL_law_175 : decode cL_law 175 = .ok (.iload_n 3, 1) := by decide +kernel
theorem dL_law_176 : decode cL_law 176 = .ok (.iconst 2, 1) := by decide +kernel
theorem dL_law_177 : decode cL_law 177 = .ok (.iadd, 1) := by decide +kernel
theorem dL_law_178 : decode cL_law 178 = .ok (.iaload, 1) := by decide +kernel
theorem dL_law_179 : decode cL_law 179 = .ok (.aload_n 0, 1) := by decide +kernel
theorem dL_law_180 : decode cL_law 180 = .ok (.iload_n 3, 1) := by decide +kernel
theorem dL_law_181 : decode cL_law 181 = .ok (.iconst 3, 1) := by decide +kernel
theorem dL_law_182 : decode cL_law 182 = .ok (.iadd, 1) := by decide +kernel
theorem dL_law_183 : decode cL_law 183 = .ok (.iaload, 1) := by decide +kernel
theorem dL_law_184 : decode cL_law 184 = .ok (.aload_n 0, 1) := by decide +kernel
theorem dL_law_185 : decode cL_law 185 = .ok (.iload_n 3, 1) := by decide +kernel
theorem dL_law_186 : decode cL_law 186 = .ok (.iconst 4, 1) := by decide +kernel
theorem dL_law_187 : decode cL_law 187 = .ok (.iadd, 1) := by decide +kernel
theorem dL_law_188 : decode cL_law 188 = .ok (.iaload, 1) := by decide +kernel
theorem dL_law_189 : decode cL_law 189 = .ok (.invokevirtual 17, 3) := by decide +kernel
theorem dL_law_192 : decode cL_law 192 = .ok (.if_icmp .eq 623, 3) := by decide +kernel
theorem dL_law_195 : decode cL_law 195 = .ok (.iconst 0, 1) := by decide +kernel
theorem dL_law_196 : decode cL_law 196 = .ok (.ireturn, 1) := by decide +kernel
theorem dL_law_197 : decode cL_law 197 = .ok (.aload_n 1, 1) := by decide +kernel
theorem dL_law_198 : decode cL_law 198 = .ok (.invokevirtual 18, 3) := by decide +kernel
theorem dL_law_201 : decode cL_law 201 = .ok (.aload_n 2, 1) := by decide +kernel
theorem dL_law_202 : decode cL_law 202 = .ok (.invokevirtual 22, 3) := by decide +kernel
theorem dL_law_205 : decode cL_law 205 = .ok (.if_icmp .eq 610, 3) := by decide +kernel
theorem dL_law_208 : decode cL_law 208 = .ok (.iconst 0, 1) := by decide +kernel
theorem dL_law_209 : decode cL_law 209 = .ok (.ireturn, 1) := by decide +kernel
theorem dL_law_210 : decode cL_law 210 = .ok (.aload_n 1, 1) := by decide +kernel
theorem dL_law_211 : decode cL_law 211 = .ok (.aload_n 0, 1) := by decide +kernel
theorem dL_law_212 : decode cL_law 212 = .ok (.iload_n 3, 1) := by decide +kernel
theorem dL_law_213 : decode cL_law 213 = .ok (.iconst 1, 1) := by decide +kernel
theorem dL_law_214 : decode cL_law 214 = .ok (.iadd, 1) := by decide +kernel
theorem dL_law_215 : decode cL_law 215 = .ok (.iaload, 1) := by decide +kernel
theorem dL_law_216 : decode cL_law 216 = .ok (.invokevirtual 23, 3) := by decide +kernel
theorem dL_law_219 : decode cL_law 219 = .ok (.aload_n 2, 1) := by decide +kernel
theorem dL_law_220 : decode cL_law 220 = .ok (.aload_n 0, 1) := by decide +kernel
theorem dL_law_221 : decode cL_law 221 = .ok (.iload_n 3, 1) := by decide +kernel
theorem dL_law_222 : decode cL_law 222 = .ok (.iconst 1, 1) := by decide +kernel
theorem dL_law_223 : decode cL_law 223 = .ok (.iadd, 1) := by decide +kernel
theorem dL_law_224 : decode cL_law 224 = .ok (.iaload, 1) := by decide +kernel
theorem dL_law_225 : decode cL_law 225 = .ok (.invokevirtual 27, 3) := by decide +kernel
theorem dL_law_228 : decode cL_law 228 = .ok (.if_icmp .eq 587, 3) := by decide +kernel
theorem dL_law_231 : decode cL_law 231 = .ok (.iconst 0, 1) := by decide +kernel
theorem dL_law_232 : decode cL_law 232 = .ok (.ireturn, 1) := by decide +kernel
theorem dL_law_233 : decode cL_law 233 = .ok (.aload_n 1, 1) := by decide +kernel
theorem dL_law_234 : decode cL_law 234 = .ok (.aload_n 0, 1) := by decide +kernel
theorem dL_law_235 : decode cL_law 235 = .ok (.iload_n 3, 1) := by decide +kernel
theorem dL_law_236 : decode cL_law 236 = .ok (.iconst 1, 1) := by decide +kernel
theorem dL_law_237 : decode cL_law 237 = .ok (.iadd, 1) := by decide +kernel
theorem dL_law_238 : decode cL_law 238 = .ok (.iaload, 1) := by decide +kernel
theorem dL_law_239 : decode cL_law 239 = .ok (.aload_n 0, 1) := by decide +kernel
theorem dL_law_240 : decode cL_law 240 = .ok (.iload_n 3, 1) := by decide +kernel
theorem dL_law_241 : decode cL_law 241 = .ok (.iconst 2, 1) := by decide +kernel
theorem dL_law_242 : decode cL_law 242 = .ok (.iadd, 1) := by decide +kernel
theorem dL_law_243 : decode cL_law 243 = .ok (.iaload, 1) := by decide +kernel
theorem dL_law_244 : decode cL_law 244 = .ok (.invokevirtual 28, 3) := by decide +kernel
theorem dL_law_247 : decode cL_law 247 = .ok (.aload_n 2, 1) := by decide +kernel
theorem dL_law_248 : decode cL_law 248 = .ok (.aload_n 0, 1) := by decide +kernel
theorem dL_law_249 : decode cL_law 249 = .ok (.iload_n 3, 1) := by decide +kernel
theorem dL_law_250 : decode cL_law 250 = .ok (.iconst 1, 1) := by decide +kernel
theorem dL_law_251 : decode cL_law 251 = .ok (.iadd, 1) := by decide +kernel
theorem dL_law_252 : decode cL_law 252 = .ok (.iaload, 1) := by decide +kernel
theorem dL_law_253 : decode cL_law 253 = .ok (.aload_n 0, 1) := by decide +kernel
theorem dL_law_254 : decode cL_law 254 = .ok (.iload_n 3, 1) := by decide +kernel
theorem dL_law_255 : decode cL_law 255 = .ok (.iconst 2, 1) := by decide +kernel
theorem dL_law_256 : decode cL_law 256 = .ok (.iadd, 1) := by decide +kernel
theorem dL_law_257 : decode cL_law 257 = .ok (.iaload, 1) := by decide +kernel
theorem dL_law_258 : decode cL_law 258 = .ok (.invokevirtual 32, 3) := by decide +kernel
theorem dL_law_261 : decode cL_law 261 = .ok (.if_icmp .eq 554, 3) := by decide +kernel
theorem dL_law_264 : decode cL_law 264 = .ok (.iconst 0, 1) := by decide +kernel
theorem dL_law_265 : decode cL_law 265 = .ok (.ireturn, 1) := by decide +kernel
theorem dL_law_266 : decode cL_law 266 = .ok (.aload_n 1, 1) := by decide +kernel
theorem dL_law_267 : decode cL_law 267 = .ok (.aload_n 0, 1) := by decide +kernel
theorem dL_law_268 : decode cL_law 268 = .ok (.iload_n 3, 1) := by decide +kernel
theorem dL_law_269 : decode cL_law 269 = .ok (.iconst 1, 1) := by decide +kernel
theorem dL_law_270 : decode cL_law 270 = .ok (.iadd, 1) := by decide +kernel
theorem dL_law_271 : decode cL_law 271 = .ok (.iaload, 1) := by decide +kernel
theorem dL_law_272 : decode cL_law 272 = .ok (.invokevirtual 33, 3) := by decide +kernel
theorem dL_law_275 : decode cL_law 275 = .ok (.aload_n 2, 1) := by decide +kernel
theorem dL_law_276 : decode cL_law 276 = .ok (.aload_n 0, 1) := by decide +kernel
theorem dL_law_277 : decode cL_law 277 = .ok (.iload_n 3, 1) := by decide +kernel
theorem dL_law_278 : decode cL_law 278 = .ok (.iconst 1, 1) := by decide +kernel
theorem dL_law_279 : decode cL_law 279 = .ok (.iadd, 1) := by decide +kernel
theorem dL_law_280 : decode cL_law 280 = .ok (.iaload, 1) := by decide +kernel
theorem dL_law_281 : decode cL_law 281 = .ok (.invokevirtual 36, 3) := by decide +kernel
theorem dL_law_284 : decode cL_law 284 = .ok (.if_icmp .eq 531, 3) := by decide +kernel
theorem dL_law_287 : decode cL_law 287 = .ok (.iconst 0, 1) := by decide +kernel
theorem dL_law_288 : decode cL_law 288 = .ok (.ireturn, 1) := by decide +kernel
theorem dL_law_289 : decode cL_law 289 = .ok (.aload_n 1, 1) := by decide +kernel
theorem dL_law_290 : decode cL_law 290 = .ok (.aload_n 0, 1) := by decide +kernel
theorem dL_law_291 : decode cL_law 291 = .ok (.iload_n 3, 1) := by decide +kernel
theorem dL_law_292 : decode cL_law 292 = .ok (.iconst 1, 1) := by decide +kernel
theorem dL_law_293 : decode cL_law 293 = .ok (.iadd, 1) := by decide +kernel
theorem dL_law_294 : decode cL_law 294 = .ok (.iaload, 1) := by decide +kernel
theorem dL_law_295 : decode cL_law 295 = .ok (.invokevirtual 37, 3) := by decide +kernel
theorem dL_law_298 : decode cL_law 298 = .ok (.aload_n 2, 1) := by decide +kernel
theorem dL_law_299 : decode cL_law 299 = .ok (.aload_n 0, 1) := by decide +kernel
theorem dL_law_300 : decode cL_law 300 = .ok (.iload_n 3, 1) := by decide +kernel
theorem dL_law_301 : decode cL_law 301 = .ok (.iconst 1, 1) := by decide +kernel
theorem dL_law_302 : decode cL_law 302 = .ok (.iadd, 1) := by decide +kernel
theorem dL_law_303 : decode cL_law 303 = .ok (.iaload, 1) := by decide +kernel
theorem dL_law_304 : decode cL_law 304 = .ok (.invokevirtual 40, 3) := by decide +kernel
theorem dL_law_307 : decode cL_law 307 = .ok (.if_icmp .eq 508, 3) := by decide +kernel
theorem dL_law_310 : decode cL_law 310 = .ok (.iconst 0, 1) := by decide +kernel
theorem dL_law_311 : decode cL_law 311 = .ok (.ireturn, 1) := by decide +kernel
theorem dL_law_312 : decode cL_law 312 = .ok (.aload_n 1, 1) := by decide +kernel
theorem dL_law_313 : decode cL_law 313 = .ok (.invokevirtual 41, 3) := by decide +kernel
theorem dL_law_316 : decode cL_law 316 = .ok (.aload_n 2, 1) := by decide +kernel
theorem dL_law_317 : decode cL_law 317 = .ok (.invokevirtual 44, 3) := by decide +kernel
theorem dL_law_320 : decode cL_law 320 = .ok (.if_icmp .eq 495, 3) := by decide +kernel
theorem dL_law_323 : decode cL_law 323 = .ok (.iconst 0, 1) := by decide +kernel
theorem dL_law_324 : decode cL_law 324 = .ok (.ireturn, 1) := by decide +kernel
theorem dL_law_325 : decode cL_law 325 = .ok (.aload_n 1, 1) := by decide +kernel
theorem dL_law_326 : decode cL_law 326 = .ok (.aload_n 0, 1) := by decide +kernel
theorem dL_law_327 : decode cL_law 327 = .ok (.iload_n 3, 1) := by decide +kernel
theorem dL_law_328 : decode cL_law 328 = .ok (.iconst 1, 1) := by decide +kernel
theorem dL_law_329 : decode cL_law 329 = .ok (.iadd, 1) := by decide +kernel
theorem dL_law_330 : decode cL_law 330 = .ok (.iaload, 1) := by decide +kernel
theorem dL_law_331 : decode cL_law 331 = .ok (.invokevirtual 45, 3) := by decide +kernel
theorem dL_law_334 : decode cL_law 334 = .ok (.aload_n 2, 1) := by decide +kernel
theorem dL_law_335 : decode cL_law 335 = .ok (.aload_n 0, 1) := by decide +kernel
theorem dL_law_336 : decode cL_law 336 = .ok (.iload_n 3, 1) := by decide +kernel
theorem dL_law_337 : decode cL_law 337 = .ok (.iconst 1, 1) := by decide +kernel
theorem dL_law_338 : decode cL_law 338 = .ok (.iadd, 1) := by decide +kernel
theorem dL_law_339 : decode cL_law 339 = .ok (.iaload, 1) := by decide +kernel
theorem dL_law_340 : decode cL_law 340 = .ok (.invokevirtual 48, 3) := by decide +kernel
theorem dL_law_343 : decode cL_law 343 = .ok (.if_icmp .eq 472, 3) := by decide +kernel
theorem dL_law_346 : decode cL_law 346 = .ok (.iconst 0, 1) := by decide +kernel
theorem dL_law_347 : decode cL_law 347 = .ok (.ireturn, 1) := by decide +kernel
theorem dL_law_348 : decode cL_law 348 = .ok (.aload_n 1, 1) := by decide +kernel
theorem dL_law_349 : decode cL_law 349 = .ok (.aload_n 0, 1) := by decide +kernel
theorem dL_law_350 : decode cL_law 350 = .ok (.iload_n 3, 1) := by decide +kernel
theorem dL_law_351 : decode cL_law 351 = .ok (.iconst 1, 1) := by decide +kernel
theorem dL_law_352 : decode cL_law 352 = .ok (.iadd, 1) := by decide +kernel
theorem dL_law_353 : decode cL_law 353 = .ok (.iaload, 1) := by decide +kernel
theorem dL_law_354 : decode cL_law 354 = .ok (.invokevirtual 49, 3) := by decide +kernel
theorem dL_law_357 : decode cL_law 357 = .ok (.aload_n 2, 1) := by decide +kernel
theorem dL_law_358 : decode cL_law 358 = .ok (.aload_n 0, 1) := by decide +kernel
theorem dL_law_359 : decode cL_law 359 = .ok (.iload_n 3, 1) := by decide +kernel
theorem dL_law_360 : decode cL_law 360 = .ok (.iconst 1, 1) := by decide +kernel
theorem dL_law_361 : decode cL_law 361 = .ok (.iadd, 1) := by decide +kernel
theorem dL_law_362 : decode cL_law 362 = .ok (.iaload, 1) := by decide +kernel
theorem dL_law_363 : decode cL_law 363 = .ok (.invokevirtual 52, 3) := by decide +kernel
theorem dL_law_366 : decode cL_law 366 = .ok (.if_icmp .eq 449, 3) := by decide +kernel
theorem dL_law_369 : decode cL_law 369 = .ok (.iconst 0, 1) := by decide +kernel
theorem dL_law_370 : decode cL_law 370 = .ok (.ireturn, 1) := by decide +kernel
theorem dL_law_371 : decode cL_law 371 = .ok (.aload_n 1, 1) := by decide +kernel
theorem dL_law_372 : decode cL_law 372 = .ok (.aload_n 0, 1) := by decide +kernel
theorem dL_law_373 : decode cL_law 373 = .ok (.iload_n 3, 1) := by decide +kernel
theorem dL_law_374 : decode cL_law 374 = .ok (.iconst 1, 1) := by decide +kernel
theorem dL_law_375 : decode cL_law 375 = .ok (.iadd, 1) := by decide +kernel
theorem dL_law_376 : decode cL_law 376 = .ok (.iaload, 1) := by decide +kernel
theorem dL_law_377 : decode cL_law 377 = .ok (.i2c, 1) := by decide +kernel
theorem dL_law_378 : decode cL_law 378 = .ok (.invokevirtual 53, 3) := by decide +kernel
theorem dL_law_381 : decode cL_law 381 = .ok (.aload_n 2, 1) := by decide +kernel
theorem dL_law_382 : decode cL_law 382 = .ok (.aload_n 0, 1) := by decide +kernel
theorem dL_law_383 : decode cL_law 383 = .ok (.iload_n 3, 1) := by decide +kernel
theorem dL_law_384 : decode cL_law 384 = .ok (.iconst 1, 1) := by decide +kernel
theorem dL_law_385 : decode cL_law 385 = .ok (.iadd, 1) := by decide +kernel
theorem dL_law_386 : decode cL_law 386 = .ok (.iaload, 1) := by decide +kernel
theorem dL_law_387 : decode cL_law 387 = .ok (.i2c, 1) := by decide +kernel
theorem dL_law_388 : decode cL_law 388 = .ok (.invokevirtual 57, 3) := by decide +kernel
theorem dL_law_391 : decode cL_law 391 = .ok (.if_icmp .eq 424, 3) := by decide +kernel
theorem dL_law_394 : decode cL_law 394 = .ok (.iconst 0, 1) := by decide +kernel
theorem dL_law_395 : decode cL_law 395 = .ok (.ireturn, 1) := by decide +kernel
theorem dL_law_396 : decode cL_law 396 = .ok (.aload_n 1, 1) := by decide +kernel
theorem dL_law_397 : decode cL_law 397 = .ok (.invokevirtual 58, 3) := by decide +kernel
theorem dL_law_400 : decode cL_law 400 = .ok (.aload_n 2, 1) := by decide +kernel
theorem dL_law_401 : decode cL_law 401 = .ok (.invokevirtual 61, 3) := by decide +kernel
theorem dL_law_404 : decode cL_law 404 = .ok (.if_icmp .eq 411, 3) := by decide +kernel
theorem dL_law_407 : decode cL_law 407 = .ok (.iconst 0, 1) := by decide +kernel
theorem dL_law_408 : decode cL_law 408 = .ok (.ireturn, 1) := by decide +kernel
theorem dL_law_409 : decode cL_law 409 = .ok (.aload_n 1, 1) := by decide +kernel
theorem dL_law_410 : decode cL_law 410 = .ok (.invokevirtual 62, 3) := by decide +kernel
theorem dL_law_413 : decode cL_law 413 = .ok (.aload_n 2, 1) := by decide +kernel
theorem dL_law_414 : decode cL_law 414 = .ok (.invokevirtual 65, 3) := by decide +kernel
theorem dL_law_417 : decode cL_law 417 = .ok (.if_icmp .eq 398, 3) := by decide +kernel
theorem dL_law_420 : decode cL_law 420 = .ok (.iconst 0, 1) := by decide +kernel
theorem dL_law_421 : decode cL_law 421 = .ok (.ireturn, 1) := by decide +kernel
theorem dL_law_422 : decode cL_law 422 = .ok (.aload_n 1, 1) := by decide +kernel
theorem dL_law_423 : decode cL_law 423 = .ok (.invokevirtual 66, 3) := by decide +kernel
theorem dL_law_426 : decode cL_law 426 = .ok (.aload_n 2, 1) := by decide +kernel
theorem dL_law_427 : decode cL_law 427 = .ok (.invokevirtual 69, 3) := by decide +kernel
theorem dL_law_430 : decode cL_law 430 = .ok (.if_icmp .eq 385, 3) := by decide +kernel
theorem dL_law_433 : decode cL_law 433 = .ok (.iconst 0, 1) := by decide +kernel
theorem dL_law_434 : decode cL_law 434 = .ok (.ireturn, 1) := by decide +kernel
theorem dL_law_435 : decode cL_law 435 = .ok (.aload_n 1, 1) := by decide +kernel
theorem dL_law_436 : decode cL_law 436 = .ok (.invokevirtual 70, 3) := by decide +kernel
theorem dL_law_439 : decode cL_law 439 = .ok (.aload_n 2, 1) := by decide +kernel
theorem dL_law_440 : decode cL_law 440 = .ok (.invokevirtual 73, 3) := by decide +kernel
theorem dL_law_443 : decode cL_law 443 = .ok (.if_icmp .eq 372, 3) := by decide +kernel
theorem dL_law_446 : decode cL_law 446 = .ok (.iconst 0, 1) := by decide +kernel
theorem dL_law_447 : decode cL_law 447 = .ok (.ireturn, 1) := by decide +kernel
theorem dL_law_448 : decode cL_law 448 = .ok (.aload_n 1, 1) := by decide +kernel
theorem dL_law_449 : decode cL_law 449 = .ok (.aload_n 0, 1) := by decide +kernel
theorem dL_law_450 : decode cL_law 450 = .ok (.iload_n 3, 1) := by decide +kernel
theorem dL_law_451 : decode cL_law 451 = .ok (.iconst 1, 1) := by decide +kernel
theorem dL_law_452 : decode cL_law 452 = .ok (.iadd, 1) := by decide +kernel
theorem dL_law_453 : decode cL_law 453 = .ok (.iaload, 1) := by decide +kernel
theorem dL_law_454 : decode cL_law 454 = .ok (.aload_n 0, 1) := by decide +kernel
theorem dL_law_455 : decode cL_law 455 = .ok (.iload_n 3, 1) := by decide +kernel
theorem dL_law_456 : decode cL_law 456 = .ok (.iconst 2, 1) := by decide +kernel
theorem dL_law_457 : decode cL_law 457 = .ok (.iadd, 1) := by decide +kernel
theorem dL_law_458 : decode cL_law 458 = .ok (.iaload, 1) := by decide +kernel
theorem dL_law_459 : decode cL_law 459 = .ok (.aload_n 0, 1) := by decide +kernel
theorem dL_law_460 : decode cL_law 460 = .ok (.iload_n 3, 1) := by decide +kernel
theorem dL_law_461 : decode cL_law 461 = .ok (.iconst 3, 1) := by decide +kernel
theorem dL_law_462 : decode cL_law 462 = .ok (.iadd, 1) := by decide +kernel
theorem dL_law_463 : decode cL_law 463 = .ok (.iaload, 1) := by decide +kernel
theorem dL_law_464 : decode cL_law 464 = .ok (.aload_n 0, 1) := by decide +kernel
theorem dL_law_465 : decode cL_law 465 = .ok (.iload_n 3, 1) := by decide +kernel
theorem dL_law_466 : decode cL_law 466 = .ok (.iconst 4, 1) := by decide +kernel
theorem dL_law_467 : decode cL_law 467 = .ok (.iadd, 1) := by decide +kernel
theorem dL_law_468 : decode cL_law 468 = .ok (.iaload, 1) := by decide +kernel
theorem dL_law_469 : decode cL_law 469 = .ok (.ifCond .eq 7, 3) := by decide +kernel
theorem dL_law_472 : decode cL_law 472 = .ok (.iconst 1, 1) := by decide +kernel
theorem dL_law_473 : decode cL_law 473 = .ok (.goto 4, 3) := by decide +kernel
theorem dL_law_476 : decode cL_law 476 = .ok (.iconst 0, 1) := by decide +kernel
theorem dL_law_477 : decode cL_law 477 = .ok (.invokevirtual 74, 3) := by decide +kernel
theorem dL_law_480 : decode cL_law 480 = .ok (.aload_n 2, 1) := by decide +kernel
theorem dL_law_481 : decode cL_law 481 = .ok (.aload_n 0, 1) := by decide +kernel
theorem dL_law_482 : decode cL_law 482 = .ok (.iload_n 3, 1) := by decide +kernel
theorem dL_law_483 : decode cL_law 483 = .ok (.iconst 1, 1) := by decide +kernel
theorem dL_law_484 : decode cL_law 484 = .ok (.iadd, 1) := by decide +kernel
theorem dL_law_485 : decode cL_law 485 = .ok (.iaload, 1) := by decide +kernel
theorem dL_law_486 : decode cL_law 486 = .ok (.aload_n 0, 1) := by decide +kernel
theorem dL_law_487 : decode cL_law 487 = .ok (.iload_n 3, 1) := by decide +kernel
theorem dL_law_488 : decode cL_law 488 = .ok (.iconst 2, 1) := by decide +kernel
theorem dL_law_489 : decode cL_law 489 = .ok (.iadd, 1) := by decide +kernel
theorem dL_law_490 : decode cL_law 490 = .ok (.iaload, 1) := by decide +kernel
theorem dL_law_491 : decode cL_law 491 = .ok (.aload_n 0, 1) := by decide +kernel
theorem dL_law_492 : decode cL_law 492 = .ok (.iload_n 3, 1) := by decide +kernel
theorem dL_law_493 : decode cL_law 493 = .ok (.iconst 3, 1) := by decide +kernel
theorem dL_law_494 : decode cL_law 494 = .ok (.iadd, 1) := by decide +kernel
theorem dL_law_495 : decode cL_law 495 = .ok (.iaload, 1) := by decide +kernel
theorem dL_law_496 : decode cL_law 496 = .ok (.aload_n 0, 1) := by decide +kernel
theorem dL_law_497 : decode cL_law 497 = .ok (.iload_n 3, 1) := by decide +kernel
theorem dL_law_498 : decode cL_law 498 = .ok (.iconst 4, 1) := by decide +kernel
theorem dL_law_499 : decode cL_law 499 = .ok (.iadd, 1) := by decide +kernel
theorem dL_law_500 : decode cL_law 500 = .ok (.iaload, 1) := by decide +kernel
theorem dL_law_501 : decode cL_law 501 = .ok (.ifCond .eq 7, 3) := by decide +kernel
theorem dL_law_504 : decode cL_law 504 = .ok (.iconst 1, 1) := by decide +kernel
theorem dL_law_505 : decode cL_law 505 = .ok (.goto 4, 3) := by decide +kernel
theorem dL_law_508 : decode cL_law 508 = .ok (.iconst 0, 1) := by decide +kernel
theorem dL_law_509 : decode cL_law 509 = .ok (.invokevirtual 78, 3) := by decide +kernel
theorem dL_law_512 : decode cL_law 512 = .ok (.if_icmp .eq 303, 3) := by decide +kernel
theorem dL_law_515 : decode cL_law 515 = .ok (.iconst 0, 1) := by decide +kernel
theorem dL_law_516 : decode cL_law 516 = .ok (.ireturn, 1) := by decide +kernel
theorem dL_law_517 : decode cL_law 517 = .ok (.aload_n 1, 1) := by decide +kernel
theorem dL_law_518 : decode cL_law 518 = .ok (.aload_n 0, 1) := by decide +kernel
theorem dL_law_519 : decode cL_law 519 = .ok (.iload_n 3, 1) := by decide +kernel
theorem dL_law_520 : decode cL_law 520 = .ok (.iconst 1, 1) := by decide +kernel
theorem dL_law_521 : decode cL_law 521 = .ok (.iadd, 1) := by decide +kernel
theorem dL_law_522 : decode cL_law 522 = .ok (.iaload, 1) := by decide +kernel
theorem dL_law_523 : decode cL_law 523 = .ok (.aload_n 0, 1) := by decide +kernel
theorem dL_law_524 : decode cL_law 524 = .ok (.iload_n 3, 1) := by decide +kernel
theorem dL_law_525 : decode cL_law 525 = .ok (.iconst 2, 1) := by decide +kernel
theorem dL_law_526 : decode cL_law 526 = .ok (.iadd, 1) := by decide +kernel
theorem dL_law_527 : decode cL_law 527 = .ok (.iaload, 1) := by decide +kernel
theorem dL_law_528 : decode cL_law 528 = .ok (.invokevirtual 79, 3) := by decide +kernel
theorem dL_law_531 : decode cL_law 531 = .ok (.aload_n 2, 1) := by decide +kernel
theorem dL_law_532 : decode cL_law 532 = .ok (.aload_n 0, 1) := by decide +kernel
theorem dL_law_533 : decode cL_law 533 = .ok (.iload_n 3, 1) := by decide +kernel
theorem dL_law_534 : decode cL_law 534 = .ok (.iconst 1, 1) := by decide +kernel
theorem dL_law_535 : decode cL_law 535 = .ok (.iadd, 1) := by decide +kernel
theorem dL_law_536 : decode cL_law 536 = .ok (.iaload, 1) := by decide +kernel
theorem dL_law_537 : decode cL_law 537 = .ok (.aload_n 0, 1) := by decide +kernel
theorem dL_law_538 : decode cL_law 538 = .ok (.iload_n 3, 1) := by decide +kernel
theorem dL_law_539 : decode cL_law 539 = .ok (.iconst 2, 1) := by decide +kernel
theorem dL_law_540 : decode cL_law 540 = .ok (.iadd, 1) := by decide +kernel
theorem dL_law_541 : decode cL_law 541 = .ok (.iaload, 1) := by decide +kernel
theorem dL_law_542 : decode cL_law 542 = .ok (.invokevirtual 82, 3) := by decide +kernel
theorem dL_law_545 : decode cL_law 545 = .ok (.if_icmp .eq 270, 3) := by decide +kernel
theorem dL_law_548 : decode cL_law 548 = .ok (.iconst 0, 1) := by decide +kernel
theorem dL_law_549 : decode cL_law 549 = .ok (.ireturn, 1) := by decide +kernel
theorem dL_law_550 : decode cL_law 550 = .ok (.aload_n 1, 1) := by decide +kernel
theorem dL_law_551 : decode cL_law 551 = .ok (.aload_n 0, 1) := by decide +kernel
theorem dL_law_552 : decode cL_law 552 = .ok (.iload_n 3, 1) := by decide +kernel
theorem dL_law_553 : decode cL_law 553 = .ok (.iconst 1, 1) := by decide +kernel
theorem dL_law_554 : decode cL_law 554 = .ok (.iadd, 1) := by decide +kernel
theorem dL_law_555 : decode cL_law 555 = .ok (.iaload, 1) := by decide +kernel
theorem dL_law_556 : decode cL_law 556 = .ok (.aload_n 0, 1) := by decide +kernel
theorem dL_law_557 : decode cL_law 557 = .ok (.iload_n 3, 1) := by decide +kernel
theorem dL_law_558 : decode cL_law 558 = .ok (.iconst 2, 1) := by decide +kernel
theorem dL_law_559 : decode cL_law 559 = .ok (.iadd, 1) := by decide +kernel
theorem dL_law_560 : decode cL_law 560 = .ok (.iaload, 1) := by decide +kernel
theorem dL_law_561 : decode cL_law 561 = .ok (.invokevirtual 83, 3) := by decide +kernel
theorem dL_law_564 : decode cL_law 564 = .ok (.aload_n 2, 1) := by decide +kernel
theorem dL_law_565 : decode cL_law 565 = .ok (.aload_n 0, 1) := by decide +kernel
theorem dL_law_566 : decode cL_law 566 = .ok (.iload_n 3, 1) := by decide +kernel
theorem dL_law_567 : decode cL_law 567 = .ok (.iconst 1, 1) := by decide +kernel
theorem dL_law_568 : decode cL_law 568 = .ok (.iadd, 1) := by decide +kernel
theorem dL_law_569 : decode cL_law 569 = .ok (.iaload, 1) := by decide +kernel
theorem dL_law_570 : decode cL_law 570 = .ok (.aload_n 0, 1) := by decide +kernel
theorem dL_law_571 : decode cL_law 571 = .ok (.iload_n 3, 1) := by decide +kernel
theorem dL_law_572 : decode cL_law 572 = .ok (.iconst 2, 1) := by decide +kernel
theorem dL_law_573 : decode cL_law 573 = .ok (.iadd, 1) := by decide +kernel
theorem dL_law_574 : decode cL_law 574 = .ok (.iaload, 1) := by decide +kernel
theorem dL_law_575 : decode cL_law 575 = .ok (.invokevirtual 87, 3) := by decide +kernel
theorem dL_law_578 : decode cL_law 578 = .ok (.lcmp, 1) := by decide +kernel
theorem dL_law_579 : decode cL_law 579 = .ok (.ifCond .eq 236, 3) := by decide +kernel
theorem dL_law_582 : decode cL_law 582 = .ok (.iconst 0, 1) := by decide +kernel
theorem dL_law_583 : decode cL_law 583 = .ok (.ireturn, 1) := by decide +kernel
theorem dL_law_584 : decode cL_law 584 = .ok (.aload_n 1, 1) := by decide +kernel
theorem dL_law_585 : decode cL_law 585 = .ok (.aload_n 0, 1) := by decide +kernel
theorem dL_law_586 : decode cL_law 586 = .ok (.iload_n 3, 1) := by decide +kernel
theorem dL_law_587 : decode cL_law 587 = .ok (.iconst 1, 1) := by decide +kernel
theorem dL_law_588 : decode cL_law 588 = .ok (.iadd, 1) := by decide +kernel
theorem dL_law_589 : decode cL_law 589 = .ok (.iaload, 1) := by decide +kernel
theorem dL_law_590 : decode cL_law 590 = .ok (.aload_n 0, 1) := by decide +kernel
theorem dL_law_591 : decode cL_law 591 = .ok (.iload_n 3, 1) := by decide +kernel
theorem dL_law_592 : decode cL_law 592 = .ok (.iconst 2, 1) := by decide +kernel
theorem dL_law_593 : decode cL_law 593 = .ok (.iadd, 1) := by decide +kernel
theorem dL_law_594 : decode cL_law 594 = .ok (.iaload, 1) := by decide +kernel
theorem dL_law_595 : decode cL_law 595 = .ok (.invokevirtual 88, 3) := by decide +kernel
theorem dL_law_598 : decode cL_law 598 = .ok (.aload_n 2, 1) := by decide +kernel
theorem dL_law_599 : decode cL_law 599 = .ok (.aload_n 0, 1) := by decide +kernel
theorem dL_law_600 : decode cL_law 600 = .ok (.iload_n 3, 1) := by decide +kernel
theorem dL_law_601 : decode cL_law 601 = .ok (.iconst 1, 1) := by decide +kernel
theorem dL_law_602 : decode cL_law 602 = .ok (.iadd, 1) := by decide +kernel
theorem dL_law_603 : decode cL_law 603 = .ok (.iaload, 1) := by decide +kernel
theorem dL_law_604 : decode cL_law 604 = .ok (.aload_n 0, 1) := by decide +kernel
theorem dL_law_605 : decode cL_law 605 = .ok (.iload_n 3, 1) := by decide +kernel
theorem dL_law_606 : decode cL_law 606 = .ok (.iconst 2, 1) := by decide +kernel
theorem dL_law_607 : decode cL_law 607 = .ok (.iadd, 1) := by decide +kernel
theorem dL_law_608 : decode cL_law 608 = .ok (.iaload, 1) := by decide +kernel
theorem dL_law_609 : decode cL_law 609 = .ok (.invokevirtual 91, 3) := by decide +kernel
theorem dL_law_612 : decode cL_law 612 = .ok (.if_icmp .eq 203, 3) := by decide +kernel
theorem dL_law_615 : decode cL_law 615 = .ok (.iconst 0, 1) := by decide +kernel
theorem dL_law_616 : decode cL_law 616 = .ok (.ireturn, 1) := by decide +kernel
theorem dL_law_617 : decode cL_law 617 = .ok (.aload_n 1, 1) := by decide +kernel
theorem dL_law_618 : decode cL_law 618 = .ok (.aload_n 0, 1) := by decide +kernel
theorem dL_law_619 : decode cL_law 619 = .ok (.iload_n 3, 1) := by decide +kernel
theorem dL_law_620 : decode cL_law 620 = .ok (.iconst 1, 1) := by decide +kernel
theorem dL_law_621 : decode cL_law 621 = .ok (.iadd, 1) := by decide +kernel
theorem dL_law_622 : decode cL_law 622 = .ok (.iaload, 1) := by decide +kernel
theorem dL_law_623 : decode cL_law 623 = .ok (.aload_n 0, 1) := by decide +kernel
theorem dL_law_624 : decode cL_law 624 = .ok (.iload_n 3, 1) := by decide +kernel
theorem dL_law_625 : decode cL_law 625 = .ok (.iconst 2, 1) := by decide +kernel
theorem dL_law_626 : decode cL_law 626 = .ok (.iadd, 1) := by decide +kernel
theorem dL_law_627 : decode cL_law 627 = .ok (.iaload, 1) := by decide +kernel
theorem dL_law_628 : decode cL_law 628 = .ok (.aload_n 0, 1) := by decide +kernel
theorem dL_law_629 : decode cL_law 629 = .ok (.iload_n 3, 1) := by decide +kernel
theorem dL_law_630 : decode cL_law 630 = .ok (.iconst 3, 1) := by decide +kernel
theorem dL_law_631 : decode cL_law 631 = .ok (.iadd, 1) := by decide +kernel
theorem dL_law_632 : decode cL_law 632 = .ok (.iaload, 1) := by decide +kernel
theorem dL_law_633 : decode cL_law 633 = .ok (.invokevirtual 92, 3) := by decide +kernel
theorem dL_law_636 : decode cL_law 636 = .ok (.aload_n 2, 1) := by decide +kernel
theorem dL_law_637 : decode cL_law 637 = .ok (.aload_n 0, 1) := by decide +kernel
theorem dL_law_638 : decode cL_law 638 = .ok (.iload_n 3, 1) := by decide +kernel
theorem dL_law_639 : decode cL_law 639 = .ok (.iconst 1, 1) := by decide +kernel
theorem dL_law_640 : decode cL_law 640 = .ok (.iadd, 1) := by decide +kernel
theorem dL_law_641 : decode cL_law 641 = .ok (.iaload, 1) := by decide +kernel
theorem dL_law_642 : decode cL_law 642 = .ok (.aload_n 0, 1) := by decide +kernel
theorem dL_law_643 : decode cL_law 643 = .ok (.iload_n 3, 1) := by decide +kernel
theorem dL_law_644 : decode cL_law 644 = .ok (.iconst 2, 1) := by decide +kernel
theorem dL_law_645 : decode cL_law 645 = .ok (.iadd, 1) := by decide +kernel
theorem dL_law_646 : decode cL_law 646 = .ok (.iaload, 1) := by decide +kernel
theorem dL_law_647 : decode cL_law 647 = .ok (.aload_n 0, 1) := by decide +kernel
theorem dL_law_648 : decode cL_law 648 = .ok (.iload_n 3, 1) := by decide +kernel
theorem dL_law_649 : decode cL_law 649 = .ok (.iconst 3, 1) := by decide +kernel
theorem dL_law_650 : decode cL_law 650 = .ok (.iadd, 1) := by decide +kernel
theorem dL_law_651 : decode cL_law 651 = .ok (.iaload, 1) := by decide +kernel
theorem dL_law_652 : decode cL_law 652 = .ok (.invokevirtual 96, 3) := by decide +kernel
theorem dL_law_655 : decode cL_law 655 = .ok (.if_icmp .eq 160, 3) := by decide +kernel
theorem dL_law_658 : decode cL_law 658 = .ok (.iconst 0, 1) := by decide +kernel
theorem dL_law_659 : decode cL_law 659 = .ok (.ireturn, 1) := by decide +kernel
theorem dL_law_660 : decode cL_law 660 = .ok (.aload_n 1, 1) := by decide +kernel
theorem dL_law_661 : decode cL_law 661 = .ok (.aload_n 0, 1) := by decide +kernel
theorem dL_law_662 : decode cL_law 662 = .ok (.iload_n 3, 1) := by decide +kernel
theorem dL_law_663 : decode cL_law 663 = .ok (.iconst 1, 1) := by decide +kernel
theorem dL_law_664 : decode cL_law 664 = .ok (.iadd, 1) := by decide +kernel
theorem dL_law_665 : decode cL_law 665 = .ok (.iaload, 1) := by decide +kernel
theorem dL_law_666 : decode cL_law 666 = .ok (.aload_n 0, 1) := by decide +kernel
theorem dL_law_667 : decode cL_law 667 = .ok (.iload_n 3, 1) := by decide +kernel
theorem dL_law_668 : decode cL_law 668 = .ok (.iconst 2, 1) := by decide +kernel
theorem dL_law_669 : decode cL_law 669 = .ok (.iadd, 1) := by decide +kernel
theorem dL_law_670 : decode cL_law 670 = .ok (.iaload, 1) := by decide +kernel
theorem dL_law_671 : decode cL_law 671 = .ok (.invokevirtual 97, 3) := by decide +kernel
theorem dL_law_674 : decode cL_law 674 = .ok (.aload_n 2, 1) := by decide +kernel
theorem dL_law_675 : decode cL_law 675 = .ok (.aload_n 0, 1) := by decide +kernel
theorem dL_law_676 : decode cL_law 676 = .ok (.iload_n 3, 1) := by decide +kernel
theorem dL_law_677 : decode cL_law 677 = .ok (.iconst 1, 1) := by decide +kernel
theorem dL_law_678 : decode cL_law 678 = .ok (.iadd, 1) := by decide +kernel
theorem dL_law_679 : decode cL_law 679 = .ok (.iaload, 1) := by decide +kernel
theorem dL_law_680 : decode cL_law 680 = .ok (.aload_n 0, 1) := by decide +kernel
theorem dL_law_681 : decode cL_law 681 = .ok (.iload_n 3, 1) := by decide +kernel
theorem dL_law_682 : decode cL_law 682 = .ok (.iconst 2, 1) := by decide +kernel
theorem dL_law_683 : decode cL_law 683 = .ok (.iadd, 1) := by decide +kernel
theorem dL_law_684 : decode cL_law 684 = .ok (.iaload, 1) := by decide +kernel
theorem dL_law_685 : decode cL_law 685 = .ok (.invokevirtual 100, 3) := by decide +kernel
theorem dL_law_688 : decode cL_law 688 = .ok (.if_icmp .eq 127, 3) := by decide +kernel
theorem dL_law_691 : decode cL_law 691 = .ok (.iconst 0, 1) := by decide +kernel
theorem dL_law_692 : decode cL_law 692 = .ok (.ireturn, 1) := by decide +kernel
theorem dL_law_693 : decode cL_law 693 = .ok (.aload_n 1, 1) := by decide +kernel
theorem dL_law_694 : decode cL_law 694 = .ok (.aload_n 0, 1) := by decide +kernel
theorem dL_law_695 : decode cL_law 695 = .ok (.iload_n 3, 1) := by decide +kernel
theorem dL_law_696 : decode cL_law 696 = .ok (.iconst 1, 1) := by decide +kernel
theorem dL_law_697 : decode cL_law 697 = .ok (.iadd, 1) := by decide +kernel
theorem dL_law_698 : decode cL_law 698 = .ok (.iaload, 1) := by decide +kernel
theorem dL_law_699 : decode cL_law 699 = .ok (.invokevirtual 101, 3) := by decide +kernel
theorem dL_law_702 : decode cL_law 702 = .ok (.aload_n 2, 1) := by decide +kernel
theorem dL_law_703 : decode cL_law 703 = .ok (.aload_n 0, 1) := by decide +kernel
theorem dL_law_704 : decode cL_law 704 = .ok (.iload_n 3, 1) := by decide +kernel
theorem dL_law_705 : decode cL_law 705 = .ok (.iconst 1, 1) := by decide +kernel
theorem dL_law_706 : decode cL_law 706 = .ok (.iadd, 1) := by decide +kernel
theorem dL_law_707 : decode cL_law 707 = .ok (.iaload, 1) := by decide +kernel
theorem dL_law_708 : decode cL_law 708 = .ok (.invokevirtual 104, 3) := by decide +kernel
theorem dL_law_711 : decode cL_law 711 = .ok (.if_icmp .eq 104, 3) := by decide +kernel
theorem dL_law_714 : decode cL_law 714 = .ok (.iconst 0, 1) := by decide +kernel
theorem dL_law_715 : decode cL_law 715 = .ok (.ireturn, 1) := by decide +kernel
theorem dL_law_716 : decode cL_law 716 = .ok (.aload_n 1, 1) := by decide +kernel
theorem dL_law_717 : decode cL_law 717 = .ok (.aload_n 0, 1) := by decide +kernel
theorem dL_law_718 : decode cL_law 718 = .ok (.iload_n 3, 1) := by decide +kernel
theorem dL_law_719 : decode cL_law 719 = .ok (.iconst 1, 1) := by decide +kernel
theorem dL_law_720 : decode cL_law 720 = .ok (.iadd, 1) := by decide +kernel
theorem dL_law_721 : decode cL_law 721 = .ok (.iaload, 1) := by decide +kernel
theorem dL_law_722 : decode cL_law 722 = .ok (.aload_n 0, 1) := by decide +kernel
theorem dL_law_723 : decode cL_law 723 = .ok (.iload_n 3, 1) := by decide +kernel
theorem dL_law_724 : decode cL_law 724 = .ok (.iconst 2, 1) := by decide +kernel
theorem dL_law_725 : decode cL_law 725 = .ok (.iadd, 1) := by decide +kernel
theorem dL_law_726 : decode cL_law 726 = .ok (.iaload, 1) := by decide +kernel
theorem dL_law_727 : decode cL_law 727 = .ok (.aload_n 0, 1) := by decide +kernel
theorem dL_law_728 : decode cL_law 728 = .ok (.iload_n 3, 1) := by decide +kernel
theorem dL_law_729 : decode cL_law 729 = .ok (.iconst 3, 1) := by decide +kernel
theorem dL_law_730 : decode cL_law 730 = .ok (.iadd, 1) := by decide +kernel
theorem dL_law_731 : decode cL_law 731 = .ok (.iaload, 1) := by decide +kernel
theorem dL_law_732 : decode cL_law 732 = .ok (.invokevirtual 105, 3) := by decide +kernel
theorem dL_law_735 : decode cL_law 735 = .ok (.aload_n 2, 1) := by decide +kernel
theorem dL_law_736 : decode cL_law 736 = .ok (.aload_n 0, 1) := by decide +kernel
theorem dL_law_737 : decode cL_law 737 = .ok (.iload_n 3, 1) := by decide +kernel
theorem dL_law_738 : decode cL_law 738 = .ok (.iconst 1, 1) := by decide +kernel
theorem dL_law_739 : decode cL_law 739 = .ok (.iadd, 1) := by decide +kernel
theorem dL_law_740 : decode cL_law 740 = .ok (.iaload, 1) := by decide +kernel
theorem dL_law_741 : decode cL_law 741 = .ok (.aload_n 0, 1) := by decide +kernel
theorem dL_law_742 : decode cL_law 742 = .ok (.iload_n 3, 1) := by decide +kernel
theorem dL_law_743 : decode cL_law 743 = .ok (.iconst 2, 1) := by decide +kernel
theorem dL_law_744 : decode cL_law 744 = .ok (.iadd, 1) := by decide +kernel
theorem dL_law_745 : decode cL_law 745 = .ok (.iaload, 1) := by decide +kernel
theorem dL_law_746 : decode cL_law 746 = .ok (.aload_n 0, 1) := by decide +kernel
theorem dL_law_747 : decode cL_law 747 = .ok (.iload_n 3, 1) := by decide +kernel
theorem dL_law_748 : decode cL_law 748 = .ok (.iconst 3, 1) := by decide +kernel
theorem dL_law_749 : decode cL_law 749 = .ok (.iadd, 1) := by decide +kernel
theorem dL_law_750 : decode cL_law 750 = .ok (.iaload, 1) := by decide +kernel
theorem dL_law_751 : decode cL_law 751 = .ok (.invokevirtual 108, 3) := by decide +kernel
theorem dL_law_754 : decode cL_law 754 = .ok (.if_icmp .eq 61, 3) := by decide +kernel
theorem dL_law_757 : decode cL_law 757 = .ok (.iconst 0, 1) := by decide +kernel
theorem dL_law_758 : decode cL_law 758 = .ok (.ireturn, 1) := by decide +kernel
theorem dL_law_759 : decode cL_law 759 = .ok (.aload_n 1, 1) := by decide +kernel
theorem dL_law_760 : decode cL_law 760 = .ok (.aload_n 0, 1) := by decide +kernel
theorem dL_law_761 : decode cL_law 761 = .ok (.iload_n 3, 1) := by decide +kernel
theorem dL_law_762 : decode cL_law 762 = .ok (.iconst 1, 1) := by decide +kernel
theorem dL_law_763 : decode cL_law 763 = .ok (.iadd, 1) := by decide +kernel
theorem dL_law_764 : decode cL_law 764 = .ok (.iaload, 1) := by decide +kernel
theorem dL_law_765 : decode cL_law 765 = .ok (.aload_n 0, 1) := by decide +kernel
theorem dL_law_766 : decode cL_law 766 = .ok (.iload_n 3, 1) := by decide +kernel
theorem dL_law_767 : decode cL_law 767 = .ok (.iconst 2, 1) := by decide +kernel
theorem dL_law_768 : decode cL_law 768 = .ok (.iadd, 1) := by decide +kernel
theorem dL_law_769 : decode cL_law 769 = .ok (.iaload, 1) := by decide +kernel
theorem dL_law_770 : decode cL_law 770 = .ok (.invokevirtual 109, 3) := by decide +kernel
theorem dL_law_773 : decode cL_law 773 = .ok (.aload_n 2, 1) := by decide +kernel
theorem dL_law_774 : decode cL_law 774 = .ok (.aload_n 0, 1) := by decide +kernel
theorem dL_law_775 : decode cL_law 775 = .ok (.iload_n 3, 1) := by decide +kernel
theorem dL_law_776 : decode cL_law 776 = .ok (.iconst 1, 1) := by decide +kernel
theorem dL_law_777 : decode cL_law 777 = .ok (.iadd, 1) := by decide +kernel
theorem dL_law_778 : decode cL_law 778 = .ok (.iaload, 1) := by decide +kernel
theorem dL_law_779 : decode cL_law 779 = .ok (.aload_n 0, 1) := by decide +kernel
theorem dL_law_780 : decode cL_law 780 = .ok (.iload_n 3, 1) := by decide +kernel
theorem dL_law_781 : decode cL_law 781 = .ok (.iconst 2, 1) := by decide +kernel
theorem dL_law_782 : decode cL_law 782 = .ok (.iadd, 1) := by decide +kernel
theorem dL_law_783 : decode cL_law 783 = .ok (.iaload, 1) := by decide +kernel
theorem dL_law_784 : decode cL_law 784 = .ok (.invokevirtual 112, 3) := by decide +kernel
theorem dL_law_787 : decode cL_law 787 = .ok (.if_icmp .eq 28, 3) := by decide +kernel
theorem dL_law_790 : decode cL_law 790 = .ok (.iconst 0, 1) := by decide +kernel
theorem dL_law_791 : decode cL_law 791 = .ok (.ireturn, 1) := by decide +kernel
theorem dL_law_792 : decode cL_law 792 = .ok (.aload_n 1, 1) := by decide +kernel
theorem dL_law_793 : decode cL_law 793 = .ok (.aload_n 0, 1) := by decide +kernel
theorem dL_law_794 : decode cL_law 794 = .ok (.iload_n 3, 1) := by decide +kernel
theorem dL_law_795 : decode cL_law 795 = .ok (.iconst 1, 1) := by decide +kernel
theorem dL_law_796 : decode cL_law 796 = .ok (.iadd, 1) := by decide +kernel
theorem dL_law_797 : decode cL_law 797 = .ok (.iaload, 1) := by decide +kernel
theorem dL_law_798 : decode cL_law 798 = .ok (.invokevirtual 113, 3) := by decide +kernel
theorem dL_law_801 : decode cL_law 801 = .ok (.aload_n 2, 1) := by decide +kernel
theorem dL_law_802 : decode cL_law 802 = .ok (.aload_n 0, 1) := by decide +kernel
theorem dL_law_803 : decode cL_law 803 = .ok (.iload_n 3, 1) := by decide +kernel
theorem dL_law_804 : decode cL_law 804 = .ok (.iconst 1, 1) := by decide +kernel
theorem dL_law_805 : decode cL_law 805 = .ok (.iadd, 1) := by decide +kernel
theorem dL_law_806 : decode cL_law 806 = .ok (.iaload, 1) := by decide +kernel
theorem dL_law_807 : decode cL_law 807 = .ok (.invokevirtual 116, 3) := by decide +kernel
theorem dL_law_810 : decode cL_law 810 = .ok (.if_icmp .eq 5, 3) := by decide +kernel
theorem dL_law_813 : decode cL_law 813 = .ok (.iconst 0, 1) := by decide +kernel
theorem dL_law_814 : decode cL_law 814 = .ok (.ireturn, 1) := by decide +kernel
theorem dL_law_815 : decode cL_law 815 = .ok (.iinc 3 5, 3) := by decide +kernel
theorem dL_law_818 : decode cL_law 818 = .ok (.goto (-800), 3) := by decide +kernel
theorem dL_law_821 : decode cL_law 821 = .ok (.iconst 1, 1) := by decide +kernel
theorem dL_law_822 : decode cL_law 822 = .ok (.ireturn, 1) := by decide +kernel
