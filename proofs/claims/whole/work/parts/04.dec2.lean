theorem dX6_aheadOf_0 : decode cX6_aheadOf 0 = .ok (.lconst 0, 1) := by decide +kernel
theorem dX6_aheadOf_1 : decode cX6_aheadOf 1 = .ok (.lstore_n 3, 1) := by decide +kernel
theorem dX6_aheadOf_2 : decode cX6_aheadOf 2 = .ok (.iload_n 1, 1) := by decide +kernel
theorem dX6_aheadOf_3 : decode cX6_aheadOf 3 = .ok (.ifCond .ne 16, 3) := by decide +kernel
theorem dX6_aheadOf_6 : decode cX6_aheadOf 6 = .ok (.aload_n 0, 1) := by decide +kernel
theorem dX6_aheadOf_7 : decode cX6_aheadOf 7 = .ok (.getfield 9, 3) := by decide +kernel
theorem dX6_aheadOf_10 : decode cX6_aheadOf 10 = .ok (.iload_n 2, 1) := by decide +kernel
theorem dX6_aheadOf_11 : decode cX6_aheadOf 11 = .ok (.invokevirtual 52, 3) := by decide +kernel
theorem dX6_aheadOf_14 : decode cX6_aheadOf 14 = .ok (.i2l, 1) := by decide +kernel
theorem dX6_aheadOf_15 : decode cX6_aheadOf 15 = .ok (.lstore_n 3, 1) := by decide +kernel
theorem dX6_aheadOf_16 : decode cX6_aheadOf 16 = .ok (.goto 52, 3) := by decide +kernel
theorem dX6_aheadOf_19 : decode cX6_aheadOf 19 = .ok (.iconst 0, 1) := by decide +kernel
theorem dX6_aheadOf_20 : decode cX6_aheadOf 20 = .ok (.istore 5, 2) := by decide +kernel
theorem dX6_aheadOf_22 : decode cX6_aheadOf 22 = .ok (.iload 5, 2) := by decide +kernel
theorem dX6_aheadOf_24 : decode cX6_aheadOf 24 = .ok (.aload_n 0, 1) := by decide +kernel
theorem dX6_aheadOf_25 : decode cX6_aheadOf 25 = .ok (.getfield 9, 3) := by decide +kernel
theorem dX6_aheadOf_28 : decode cX6_aheadOf 28 = .ok (.getfield 35, 3) := by decide +kernel
theorem dX6_aheadOf_31 : decode cX6_aheadOf 31 = .ok (.if_icmp .ge 37, 3) := by decide +kernel
theorem dX6_aheadOf_34 : decode cX6_aheadOf 34 = .ok (.lload_n 3, 1) := by decide +kernel
theorem dX6_aheadOf_35 : decode cX6_aheadOf 35 = .ok (.aload_n 0, 1) := by decide +kernel
theorem dX6_aheadOf_36 : decode cX6_aheadOf 36 = .ok (.getfield 15, 3) := by decide +kernel
theorem dX6_aheadOf_39 : decode cX6_aheadOf 39 = .ok (.iload_n 1, 1) := by decide +kernel
theorem dX6_aheadOf_40 : decode cX6_aheadOf 40 = .ok (.iconst 1, 1) := by decide +kernel
theorem dX6_aheadOf_41 : decode cX6_aheadOf 41 = .ok (.isub, 1) := by decide +kernel
theorem dX6_aheadOf_42 : decode cX6_aheadOf 42 = .ok (.iconst 4, 1) := by decide +kernel
theorem dX6_aheadOf_43 : decode cX6_aheadOf 43 = .ok (.imul, 1) := by decide +kernel
theorem dX6_aheadOf_44 : decode cX6_aheadOf 44 = .ok (.iload 5, 2) := by decide +kernel
theorem dX6_aheadOf_46 : decode cX6_aheadOf 46 = .ok (.iadd, 1) := by decide +kernel
theorem dX6_aheadOf_47 : decode cX6_aheadOf 47 = .ok (.laload, 1) := by decide +kernel
theorem dX6_aheadOf_48 : decode cX6_aheadOf 48 = .ok (.aload_n 0, 1) := by decide +kernel
theorem dX6_aheadOf_49 : decode cX6_aheadOf 49 = .ok (.getfield 9, 3) := by decide +kernel
theorem dX6_aheadOf_52 : decode cX6_aheadOf 52 = .ok (.iload 5, 2) := by decide +kernel
theorem dX6_aheadOf_54 : decode cX6_aheadOf 54 = .ok (.iload_n 2, 1) := by decide +kernel
theorem dX6_aheadOf_55 : decode cX6_aheadOf 55 = .ok (.invokevirtual 56, 3) := by decide +kernel
theorem dX6_aheadOf_58 : decode cX6_aheadOf 58 = .ok (.i2l, 1) := by decide +kernel
theorem dX6_aheadOf_59 : decode cX6_aheadOf 59 = .ok (.lmul, 1) := by decide +kernel
theorem dX6_aheadOf_60 : decode cX6_aheadOf 60 = .ok (.ladd, 1) := by decide +kernel
theorem dX6_aheadOf_61 : decode cX6_aheadOf 61 = .ok (.lstore_n 3, 1) := by decide +kernel
theorem dX6_aheadOf_62 : decode cX6_aheadOf 62 = .ok (.iinc 5 1, 3) := by decide +kernel
theorem dX6_aheadOf_65 : decode cX6_aheadOf 65 = .ok (.goto (-43), 3) := by decide +kernel
theorem dX6_aheadOf_68 : decode cX6_aheadOf 68 = .ok (.lload_n 3, 1) := by decide +kernel
theorem dX6_aheadOf_69 : decode cX6_aheadOf 69 = .ok (.aload_n 0, 1) := by decide +kernel
theorem dX6_aheadOf_70 : decode cX6_aheadOf 70 = .ok (.getfield 9, 3) := by decide +kernel
theorem dX6_aheadOf_73 : decode cX6_aheadOf 73 = .ok (.iload_n 2, 1) := by decide +kernel
theorem dX6_aheadOf_74 : decode cX6_aheadOf 74 = .ok (.aload_n 0, 1) := by decide +kernel
theorem dX6_aheadOf_75 : decode cX6_aheadOf 75 = .ok (.getfield 22, 3) := by decide +kernel
theorem dX6_aheadOf_78 : decode cX6_aheadOf 78 = .ok (.iload_n 1, 1) := by decide +kernel
theorem dX6_aheadOf_79 : decode cX6_aheadOf 79 = .ok (.invokevirtual 60, 3) := by decide +kernel
theorem dX6_aheadOf_82 : decode cX6_aheadOf 82 = .ok (.i2l, 1) := by decide +kernel
theorem dX6_aheadOf_83 : decode cX6_aheadOf 83 = .ok (.lmul, 1) := by decide +kernel
theorem dX6_aheadOf_84 : decode cX6_aheadOf 84 = .ok (.lreturn, 1) := by decide +kernel
theorem dX6_behindOf_0 : decode cX6_behindOf 0 = .ok (.iload_n 1, 1) := by decide +kernel
theorem dX6_behindOf_1 : decode cX6_behindOf 1 = .ok (.aload_n 0, 1) := by decide +kernel
theorem dX6_behindOf_2 : decode cX6_behindOf 2 = .ok (.getfield 32, 3) := by decide +kernel
theorem dX6_behindOf_5 : decode cX6_behindOf 5 = .ok (.iconst 1, 1) := by decide +kernel
theorem dX6_behindOf_6 : decode cX6_behindOf 6 = .ok (.isub, 1) := by decide +kernel
theorem dX6_behindOf_7 : decode cX6_behindOf 7 = .ok (.if_icmp .ne 5, 3) := by decide +kernel
theorem dX6_behindOf_10 : decode cX6_behindOf 10 = .ok (.lconst 1, 1) := by decide +kernel
theorem dX6_behindOf_11 : decode cX6_behindOf 11 = .ok (.lreturn, 1) := by decide +kernel
theorem dX6_behindOf_12 : decode cX6_behindOf 12 = .ok (.lconst 0, 1) := by decide +kernel
theorem dX6_behindOf_13 : decode cX6_behindOf 13 = .ok (.lstore_n 3, 1) := by decide +kernel
theorem dX6_behindOf_14 : decode cX6_behindOf 14 = .ok (.iconst 0, 1) := by decide +kernel
theorem dX6_behindOf_15 : decode cX6_behindOf 15 = .ok (.istore 5, 2) := by decide +kernel
theorem dX6_behindOf_17 : decode cX6_behindOf 17 = .ok (.iload 5, 2) := by decide +kernel
theorem dX6_behindOf_19 : decode cX6_behindOf 19 = .ok (.aload_n 0, 1) := by decide +kernel
theorem dX6_behindOf_20 : decode cX6_behindOf 20 = .ok (.getfield 9, 3) := by decide +kernel
theorem dX6_behindOf_23 : decode cX6_behindOf 23 = .ok (.getfield 35, 3) := by decide +kernel
theorem dX6_behindOf_26 : decode cX6_behindOf 26 = .ok (.if_icmp .ge 20, 3) := by decide +kernel
theorem dX6_behindOf_29 : decode cX6_behindOf 29 = .ok (.lload_n 3, 1) := by decide +kernel
theorem dX6_behindOf_30 : decode cX6_behindOf 30 = .ok (.aload_n 0, 1) := by decide +kernel
theorem dX6_behindOf_31 : decode cX6_behindOf 31 = .ok (.iload_n 1, 1) := by decide +kernel
theorem dX6_behindOf_32 : decode cX6_behindOf 32 = .ok (.iload_n 2, 1) := by decide +kernel
theorem dX6_behindOf_33 : decode cX6_behindOf 33 = .ok (.iload 5, 2) := by decide +kernel
theorem dX6_behindOf_35 : decode cX6_behindOf 35 = .ok (.invokevirtual 64, 3) := by decide +kernel
theorem dX6_behindOf_38 : decode cX6_behindOf 38 = .ok (.ladd, 1) := by decide +kernel
theorem dX6_behindOf_39 : decode cX6_behindOf 39 = .ok (.lstore_n 3, 1) := by decide +kernel
theorem dX6_behindOf_40 : decode cX6_behindOf 40 = .ok (.iinc 5 1, 3) := by decide +kernel
theorem dX6_behindOf_43 : decode cX6_behindOf 43 = .ok (.goto (-26), 3) := by decide +kernel
theorem dX6_behindOf_46 : decode cX6_behindOf 46 = .ok (.lload_n 3, 1) := by decide +kernel
theorem dX6_behindOf_47 : decode cX6_behindOf 47 = .ok (.lreturn, 1) := by decide +kernel
theorem dX6_stepBehind_0 : decode cX6_stepBehind 0 = .ok (.aload_n 0, 1) := by decide +kernel
theorem dX6_stepBehind_1 : decode cX6_stepBehind 1 = .ok (.getfield 19, 3) := by decide +kernel
theorem dX6_stepBehind_4 : decode cX6_stepBehind 4 = .ok (.iload_n 1, 1) := by decide +kernel
theorem dX6_stepBehind_5 : decode cX6_stepBehind 5 = .ok (.iconst 1, 1) := by decide +kernel
theorem dX6_stepBehind_6 : decode cX6_stepBehind 6 = .ok (.iadd, 1) := by decide +kernel
theorem dX6_stepBehind_7 : decode cX6_stepBehind 7 = .ok (.iconst 4, 1) := by decide +kernel
theorem dX6_stepBehind_8 : decode cX6_stepBehind 8 = .ok (.imul, 1) := by decide +kernel
theorem dX6_stepBehind_9 : decode cX6_stepBehind 9 = .ok (.iload_n 3, 1) := by decide +kernel
theorem dX6_stepBehind_10 : decode cX6_stepBehind 10 = .ok (.iadd, 1) := by decide +kernel
theorem dX6_stepBehind_11 : decode cX6_stepBehind 11 = .ok (.laload, 1) := by decide +kernel
theorem dX6_stepBehind_12 : decode cX6_stepBehind 12 = .ok (.aload_n 0, 1) := by decide +kernel
theorem dX6_stepBehind_13 : decode cX6_stepBehind 13 = .ok (.getfield 9, 3) := by decide +kernel
theorem dX6_stepBehind_16 : decode cX6_stepBehind 16 = .ok (.iload_n 3, 1) := by decide +kernel
theorem dX6_stepBehind_17 : decode cX6_stepBehind 17 = .ok (.aload_n 0, 1) := by decide +kernel
theorem dX6_stepBehind_18 : decode cX6_stepBehind 18 = .ok (.getfield 22, 3) := by decide +kernel
theorem dX6_stepBehind_21 : decode cX6_stepBehind 21 = .ok (.iload_n 1, 1) := by decide +kernel
theorem dX6_stepBehind_22 : decode cX6_stepBehind 22 = .ok (.iconst 1, 1) := by decide +kernel
theorem dX6_stepBehind_23 : decode cX6_stepBehind 23 = .ok (.iadd, 1) := by decide +kernel
theorem dX6_stepBehind_24 : decode cX6_stepBehind 24 = .ok (.invokevirtual 60, 3) := by decide +kernel
theorem dX6_stepBehind_27 : decode cX6_stepBehind 27 = .ok (.i2l, 1) := by decide +kernel
theorem dX6_stepBehind_28 : decode cX6_stepBehind 28 = .ok (.lmul, 1) := by decide +kernel
theorem dX6_stepBehind_29 : decode cX6_stepBehind 29 = .ok (.lstore 4, 2) := by decide +kernel
theorem dX6_stepBehind_31 : decode cX6_stepBehind 31 = .ok (.lload 4, 2) := by decide +kernel
theorem dX6_stepBehind_33 : decode cX6_stepBehind 33 = .ok (.aload_n 0, 1) := by decide +kernel
theorem dX6_stepBehind_34 : decode cX6_stepBehind 34 = .ok (.getfield 9, 3) := by decide +kernel
theorem dX6_stepBehind_37 : decode cX6_stepBehind 37 = .ok (.iload_n 2, 1) := by decide +kernel
theorem dX6_stepBehind_38 : decode cX6_stepBehind 38 = .ok (.iload_n 3, 1) := by decide +kernel
theorem dX6_stepBehind_39 : decode cX6_stepBehind 39 = .ok (.invokevirtual 56, 3) := by decide +kernel
theorem dX6_stepBehind_42 : decode cX6_stepBehind 42 = .ok (.i2l, 1) := by decide +kernel
theorem dX6_stepBehind_43 : decode cX6_stepBehind 43 = .ok (.lmul, 1) := by decide +kernel
theorem dX6_stepBehind_44 : decode cX6_stepBehind 44 = .ok (.lreturn, 1) := by decide +kernel
theorem dX6_at_0 : decode cX6_at 0 = .ok (.iload_n 1, 1) := by decide +kernel
theorem dX6_at_1 : decode cX6_at 1 = .ok (.iconst 4, 1) := by decide +kernel
theorem dX6_at_2 : decode cX6_at 2 = .ok (.imul, 1) := by decide +kernel
theorem dX6_at_3 : decode cX6_at 3 = .ok (.iload_n 2, 1) := by decide +kernel
theorem dX6_at_4 : decode cX6_at 4 = .ok (.iadd, 1) := by decide +kernel
theorem dX6_at_5 : decode cX6_at 5 = .ok (.istore_n 3, 1) := by decide +kernel
theorem dX6_at_6 : decode cX6_at 6 = .ok (.aload_n 0, 1) := by decide +kernel
theorem dX6_at_7 : decode cX6_at 7 = .ok (.getfield 15, 3) := by decide +kernel
theorem dX6_at_10 : decode cX6_at 10 = .ok (.iload_n 3, 1) := by decide +kernel
theorem dX6_at_11 : decode cX6_at 11 = .ok (.laload, 1) := by decide +kernel
theorem dX6_at_12 : decode cX6_at 12 = .ok (.aload_n 0, 1) := by decide +kernel
theorem dX6_at_13 : decode cX6_at 13 = .ok (.getfield 19, 3) := by decide +kernel
theorem dX6_at_16 : decode cX6_at 16 = .ok (.iload_n 3, 1) := by decide +kernel
theorem dX6_at_17 : decode cX6_at 17 = .ok (.laload, 1) := by decide +kernel
theorem dX6_at_18 : decode cX6_at 18 = .ok (.lmul, 1) := by decide +kernel
theorem dX6_at_19 : decode cX6_at 19 = .ok (.lreturn, 1) := by decide +kernel
theorem dX6_showing_0 : decode cX6_showing 0 = .ok (.lconst 0, 1) := by decide +kernel
theorem dX6_showing_1 : decode cX6_showing 1 = .ok (.lstore_n 3, 1) := by decide +kernel
theorem dX6_showing_2 : decode cX6_showing 2 = .ok (.iconst 0, 1) := by decide +kernel
theorem dX6_showing_3 : decode cX6_showing 3 = .ok (.istore 5, 2) := by decide +kernel
theorem dX6_showing_5 : decode cX6_showing 5 = .ok (.iload 5, 2) := by decide +kernel
theorem dX6_showing_7 : decode cX6_showing 7 = .ok (.aload_n 0, 1) := by decide +kernel
theorem dX6_showing_8 : decode cX6_showing 8 = .ok (.getfield 32, 3) := by decide +kernel
theorem dX6_showing_11 : decode cX6_showing 11 = .ok (.if_icmp .ge 36, 3) := by decide +kernel
theorem dX6_showing_14 : decode cX6_showing 14 = .ok (.aload_n 0, 1) := by decide +kernel
theorem dX6_showing_15 : decode cX6_showing 15 = .ok (.getfield 9, 3) := by decide +kernel
theorem dX6_showing_18 : decode cX6_showing 18 = .ok (.aload_n 0, 1) := by decide +kernel
theorem dX6_showing_19 : decode cX6_showing 19 = .ok (.getfield 22, 3) := by decide +kernel
theorem dX6_showing_22 : decode cX6_showing 22 = .ok (.iload 5, 2) := by decide +kernel
theorem dX6_showing_24 : decode cX6_showing 24 = .ok (.invokevirtual 68, 3) := by decide +kernel
theorem dX6_showing_27 : decode cX6_showing 27 = .ok (.iload_n 2, 1) := by decide +kernel
theorem dX6_showing_28 : decode cX6_showing 28 = .ok (.if_icmp .ne 13, 3) := by decide +kernel
theorem dX6_showing_31 : decode cX6_showing 31 = .ok (.lload_n 3, 1) := by decide +kernel
theorem dX6_showing_32 : decode cX6_showing 32 = .ok (.aload_n 0, 1) := by decide +kernel
theorem dX6_showing_33 : decode cX6_showing 33 = .ok (.iload 5, 2) := by decide +kernel
theorem dX6_showing_35 : decode cX6_showing 35 = .ok (.iload_n 1, 1) := by decide +kernel
theorem dX6_showing_36 : decode cX6_showing 36 = .ok (.invokevirtual 49, 3) := by decide +kernel
theorem dX6_showing_39 : decode cX6_showing 39 = .ok (.ladd, 1) := by decide +kernel
theorem dX6_showing_40 : decode cX6_showing 40 = .ok (.lstore_n 3, 1) := by decide +kernel
theorem dX6_showing_41 : decode cX6_showing 41 = .ok (.iinc 5 1, 3) := by decide +kernel
theorem dX6_showing_44 : decode cX6_showing 44 = .ok (.goto (-39), 3) := by decide +kernel
theorem dX6_showing_47 : decode cX6_showing 47 = .ok (.lload_n 3, 1) := by decide +kernel
theorem dX6_showing_48 : decode cX6_showing 48 = .ok (.lreturn, 1) := by decide +kernel
theorem dX6_goingOn_0 : decode cX6_goingOn 0 = .ok (.lconst 0, 1) := by decide +kernel
theorem dX6_goingOn_1 : decode cX6_goingOn 1 = .ok (.lstore_n 3, 1) := by decide +kernel
theorem dX6_goingOn_2 : decode cX6_goingOn 2 = .ok (.iconst 0, 1) := by decide +kernel
theorem dX6_goingOn_3 : decode cX6_goingOn 3 = .ok (.istore 5, 2) := by decide +kernel
theorem dX6_goingOn_5 : decode cX6_goingOn 5 = .ok (.iload 5, 2) := by decide +kernel
theorem dX6_goingOn_7 : decode cX6_goingOn 7 = .ok (.aload_n 0, 1) := by decide +kernel
theorem dX6_goingOn_8 : decode cX6_goingOn 8 = .ok (.getfield 32, 3) := by decide +kernel
theorem dX6_goingOn_11 : decode cX6_goingOn 11 = .ok (.iconst 1, 1) := by decide +kernel
theorem dX6_goingOn_12 : decode cX6_goingOn 12 = .ok (.isub, 1) := by decide +kernel
theorem dX6_goingOn_13 : decode cX6_goingOn 13 = .ok (.if_icmp .ge 32, 3) := by decide +kernel
theorem dX6_goingOn_16 : decode cX6_goingOn 16 = .ok (.lload_n 3, 1) := by decide +kernel
theorem dX6_goingOn_17 : decode cX6_goingOn 17 = .ok (.aload_n 0, 1) := by decide +kernel
theorem dX6_goingOn_18 : decode cX6_goingOn 18 = .ok (.getfield 15, 3) := by decide +kernel
theorem dX6_goingOn_21 : decode cX6_goingOn 21 = .ok (.iload 5, 2) := by decide +kernel
theorem dX6_goingOn_23 : decode cX6_goingOn 23 = .ok (.iconst 4, 1) := by decide +kernel
theorem dX6_goingOn_24 : decode cX6_goingOn 24 = .ok (.imul, 1) := by decide +kernel
theorem dX6_goingOn_25 : decode cX6_goingOn 25 = .ok (.iload_n 1, 1) := by decide +kernel
theorem dX6_goingOn_26 : decode cX6_goingOn 26 = .ok (.iadd, 1) := by decide +kernel
theorem dX6_goingOn_27 : decode cX6_goingOn 27 = .ok (.laload, 1) := by decide +kernel
theorem dX6_goingOn_28 : decode cX6_goingOn 28 = .ok (.aload_n 0, 1) := by decide +kernel
theorem dX6_goingOn_29 : decode cX6_goingOn 29 = .ok (.iload 5, 2) := by decide +kernel
theorem dX6_goingOn_31 : decode cX6_goingOn 31 = .ok (.iload_n 1, 1) := by decide +kernel
theorem dX6_goingOn_32 : decode cX6_goingOn 32 = .ok (.iload_n 2, 1) := by decide +kernel
theorem dX6_goingOn_33 : decode cX6_goingOn 33 = .ok (.invokevirtual 64, 3) := by decide +kernel
theorem dX6_goingOn_36 : decode cX6_goingOn 36 = .ok (.lmul, 1) := by decide +kernel
theorem dX6_goingOn_37 : decode cX6_goingOn 37 = .ok (.ladd, 1) := by decide +kernel
theorem dX6_goingOn_38 : decode cX6_goingOn 38 = .ok (.lstore_n 3, 1) := by decide +kernel
theorem dX6_goingOn_39 : decode cX6_goingOn 39 = .ok (.iinc 5 1, 3) := by decide +kernel
theorem dX6_goingOn_42 : decode cX6_goingOn 42 = .ok (.goto (-37), 3) := by decide +kernel
theorem dX6_goingOn_45 : decode cX6_goingOn 45 = .ok (.lload_n 3, 1) := by decide +kernel
theorem dX6_goingOn_46 : decode cX6_goingOn 46 = .ok (.lreturn, 1) := by decide +kernel
theorem dX6_behindLast_0 : decode cX6_behindLast 0 = .ok (.lconst 0, 1) := by decide +kernel
theorem dX6_behindLast_1 : decode cX6_behindLast 1 = .ok (.lstore_n 2, 1) := by decide +kernel
theorem dX6_behindLast_2 : decode cX6_behindLast 2 = .ok (.iconst 0, 1) := by decide +kernel
theorem dX6_behindLast_3 : decode cX6_behindLast 3 = .ok (.istore 4, 2) := by decide +kernel
theorem dX6_behindLast_5 : decode cX6_behindLast 5 = .ok (.iload 4, 2) := by decide +kernel
theorem dX6_behindLast_7 : decode cX6_behindLast 7 = .ok (.aload_n 0, 1) := by decide +kernel
theorem dX6_behindLast_8 : decode cX6_behindLast 8 = .ok (.getfield 9, 3) := by decide +kernel
theorem dX6_behindLast_11 : decode cX6_behindLast 11 = .ok (.getfield 35, 3) := by decide +kernel
theorem dX6_behindLast_14 : decode cX6_behindLast 14 = .ok (.if_icmp .ge 79, 3) := by decide +kernel
theorem dX6_behindLast_17 : decode cX6_behindLast 17 = .ok (.lconst 0, 1) := by decide +kernel
theorem dX6_behindLast_18 : decode cX6_behindLast 18 = .ok (.lstore 5, 2) := by decide +kernel
theorem dX6_behindLast_20 : decode cX6_behindLast 20 = .ok (.iconst 0, 1) := by decide +kernel
theorem dX6_behindLast_21 : decode cX6_behindLast 21 = .ok (.istore 7, 2) := by decide +kernel
theorem dX6_behindLast_23 : decode cX6_behindLast 23 = .ok (.iload 7, 2) := by decide +kernel
theorem dX6_behindLast_25 : decode cX6_behindLast 25 = .ok (.aload_n 0, 1) := by decide +kernel
theorem dX6_behindLast_26 : decode cX6_behindLast 26 = .ok (.getfield 9, 3) := by decide +kernel
theorem dX6_behindLast_29 : decode cX6_behindLast 29 = .ok (.getfield 35, 3) := by decide +kernel
theorem dX6_behindLast_32 : decode cX6_behindLast 32 = .ok (.if_icmp .ge 37, 3) := by decide +kernel
theorem dX6_behindLast_35 : decode cX6_behindLast 35 = .ok (.lload 5, 2) := by decide +kernel
theorem dX6_behindLast_37 : decode cX6_behindLast 37 = .ok (.aload_n 0, 1) := by decide +kernel
theorem dX6_behindLast_38 : decode cX6_behindLast 38 = .ok (.getfield 9, 3) := by decide +kernel
theorem dX6_behindLast_41 : decode cX6_behindLast 41 = .ok (.iload 4, 2) := by decide +kernel
theorem dX6_behindLast_43 : decode cX6_behindLast 43 = .ok (.iload 7, 2) := by decide +kernel
theorem dX6_behindLast_45 : decode cX6_behindLast 45 = .ok (.invokevirtual 56, 3) := by decide +kernel
theorem dX6_behindLast_48 : decode cX6_behindLast 48 = .ok (.aload_n 0, 1) := by decide +kernel
theorem dX6_behindLast_49 : decode cX6_behindLast 49 = .ok (.getfield 9, 3) := by decide +kernel
theorem dX6_behindLast_52 : decode cX6_behindLast 52 = .ok (.iload 7, 2) := by decide +kernel
theorem dX6_behindLast_54 : decode cX6_behindLast 54 = .ok (.iload_n 1, 1) := by decide +kernel
theorem dX6_behindLast_55 : decode cX6_behindLast 55 = .ok (.invokevirtual 71, 3) := by decide +kernel
theorem dX6_behindLast_58 : decode cX6_behindLast 58 = .ok (.imul, 1) := by decide +kernel
theorem dX6_behindLast_59 : decode cX6_behindLast 59 = .ok (.i2l, 1) := by decide +kernel
theorem dX6_behindLast_60 : decode cX6_behindLast 60 = .ok (.ladd, 1) := by decide +kernel
theorem dX6_behindLast_61 : decode cX6_behindLast 61 = .ok (.lstore 5, 2) := by decide +kernel
theorem dX6_behindLast_63 : decode cX6_behindLast 63 = .ok (.iinc 7 1, 3) := by decide +kernel
theorem dX6_behindLast_66 : decode cX6_behindLast 66 = .ok (.goto (-43), 3) := by decide +kernel
theorem dX6_behindLast_69 : decode cX6_behindLast 69 = .ok (.lload_n 2, 1) := by decide +kernel
theorem dX6_behindLast_70 : decode cX6_behindLast 70 = .ok (.aload_n 0, 1) := by decide +kernel
theorem dX6_behindLast_71 : decode cX6_behindLast 71 = .ok (.aload_n 0, 1) := by decide +kernel
theorem dX6_behindLast_72 : decode cX6_behindLast 72 = .ok (.getfield 32, 3) := by decide +kernel
theorem dX6_behindLast_75 : decode cX6_behindLast 75 = .ok (.iconst 1, 1) := by decide +kernel
theorem dX6_behindLast_76 : decode cX6_behindLast 76 = .ok (.isub, 1) := by decide +kernel
theorem dX6_behindLast_77 : decode cX6_behindLast 77 = .ok (.iload 4, 2) := by decide +kernel
theorem dX6_behindLast_79 : decode cX6_behindLast 79 = .ok (.invokevirtual 49, 3) := by decide +kernel
theorem dX6_behindLast_82 : decode cX6_behindLast 82 = .ok (.lload 5, 2) := by decide +kernel
theorem dX6_behindLast_84 : decode cX6_behindLast 84 = .ok (.lmul, 1) := by decide +kernel
theorem dX6_behindLast_85 : decode cX6_behindLast 85 = .ok (.ladd, 1) := by decide +kernel
theorem dX6_behindLast_86 : decode cX6_behindLast 86 = .ok (.lstore_n 2, 1) := by decide +kernel
theorem dX6_behindLast_87 : decode cX6_behindLast 87 = .ok (.iinc 4 1, 3) := by decide +kernel
theorem dX6_behindLast_90 : decode cX6_behindLast 90 = .ok (.goto (-85), 3) := by decide +kernel
theorem dX6_behindLast_93 : decode cX6_behindLast 93 = .ok (.lload_n 2, 1) := by decide +kernel
theorem dX6_behindLast_94 : decode cX6_behindLast 94 = .ok (.lreturn, 1) := by decide +kernel
theorem dX6_likeliestAt_0 : decode cX6_likeliestAt 0 = .ok (.iconst 0, 1) := by decide +kernel
theorem dX6_likeliestAt_1 : decode cX6_likeliestAt 1 = .ok (.istore_n 2, 1) := by decide +kernel
theorem dX6_likeliestAt_2 : decode cX6_likeliestAt 2 = .ok (.iconst 1, 1) := by decide +kernel
theorem dX6_likeliestAt_3 : decode cX6_likeliestAt 3 = .ok (.istore_n 3, 1) := by decide +kernel
theorem dX6_likeliestAt_4 : decode cX6_likeliestAt 4 = .ok (.iload_n 3, 1) := by decide +kernel
theorem dX6_likeliestAt_5 : decode cX6_likeliestAt 5 = .ok (.aload_n 0, 1) := by decide +kernel
theorem dX6_likeliestAt_6 : decode cX6_likeliestAt 6 = .ok (.getfield 9, 3) := by decide +kernel
theorem dX6_likeliestAt_9 : decode cX6_likeliestAt 9 = .ok (.getfield 35, 3) := by decide +kernel
theorem dX6_likeliestAt_12 : decode cX6_likeliestAt 12 = .ok (.if_icmp .ge 27, 3) := by decide +kernel
theorem dX6_likeliestAt_15 : decode cX6_likeliestAt 15 = .ok (.aload_n 0, 1) := by decide +kernel
theorem dX6_likeliestAt_16 : decode cX6_likeliestAt 16 = .ok (.iload_n 1, 1) := by decide +kernel
theorem dX6_likeliestAt_17 : decode cX6_likeliestAt 17 = .ok (.iload_n 3, 1) := by decide +kernel
theorem dX6_likeliestAt_18 : decode cX6_likeliestAt 18 = .ok (.invokevirtual 49, 3) := by decide +kernel
theorem dX6_likeliestAt_21 : decode cX6_likeliestAt 21 = .ok (.aload_n 0, 1) := by decide +kernel
theorem dX6_likeliestAt_22 : decode cX6_likeliestAt 22 = .ok (.iload_n 1, 1) := by decide +kernel
theorem dX6_likeliestAt_23 : decode cX6_likeliestAt 23 = .ok (.iload_n 2, 1) := by decide +kernel
theorem dX6_likeliestAt_24 : decode cX6_likeliestAt 24 = .ok (.invokevirtual 49, 3) := by decide +kernel
theorem dX6_likeliestAt_27 : decode cX6_likeliestAt 27 = .ok (.lcmp, 1) := by decide +kernel
theorem dX6_likeliestAt_28 : decode cX6_likeliestAt 28 = .ok (.ifCond .le 5, 3) := by decide +kernel
theorem dX6_likeliestAt_31 : decode cX6_likeliestAt 31 = .ok (.iload_n 3, 1) := by decide +kernel
theorem dX6_likeliestAt_32 : decode cX6_likeliestAt 32 = .ok (.istore_n 2, 1) := by decide +kernel
theorem dX6_likeliestAt_33 : decode cX6_likeliestAt 33 = .ok (.iinc 3 1, 3) := by decide +kernel
theorem dX6_likeliestAt_36 : decode cX6_likeliestAt 36 = .ok (.goto (-32), 3) := by decide +kernel
theorem dX6_likeliestAt_39 : decode cX6_likeliestAt 39 = .ok (.iload_n 2, 1) := by decide +kernel
theorem dX6_likeliestAt_40 : decode cX6_likeliestAt 40 = .ok (.ireturn, 1) := by decide +kernel
theorem dX6_doubtfulPlaces_0 : decode cX6_doubtfulPlaces 0 = .ok (.iconst 0, 1) := by decide +kernel
theorem dX6_doubtfulPlaces_1 : decode cX6_doubtfulPlaces 1 = .ok (.istore_n 1, 1) := by decide +kernel
theorem dX6_doubtfulPlaces_2 : decode cX6_doubtfulPlaces 2 = .ok (.aload_n 0, 1) := by decide +kernel
theorem dX6_doubtfulPlaces_3 : decode cX6_doubtfulPlaces 3 = .ok (.getfield 45, 3) := by decide +kernel
theorem dX6_doubtfulPlaces_6 : decode cX6_doubtfulPlaces 6 = .ok (.lconst 0, 1) := by decide +kernel
theorem dX6_doubtfulPlaces_7 : decode cX6_doubtfulPlaces 7 = .ok (.lcmp, 1) := by decide +kernel
theorem dX6_doubtfulPlaces_8 : decode cX6_doubtfulPlaces 8 = .ok (.ifCond .le 52, 3) := by decide +kernel
theorem dX6_doubtfulPlaces_11 : decode cX6_doubtfulPlaces 11 = .ok (.iconst 0, 1) := by decide +kernel
theorem dX6_doubtfulPlaces_12 : decode cX6_doubtfulPlaces 12 = .ok (.istore_n 2, 1) := by decide +kernel
theorem dX6_doubtfulPlaces_13 : decode cX6_doubtfulPlaces 13 = .ok (.iload_n 2, 1) := by decide +kernel
theorem dX6_doubtfulPlaces_14 : decode cX6_doubtfulPlaces 14 = .ok (.aload_n 0, 1) := by decide +kernel
theorem dX6_doubtfulPlaces_15 : decode cX6_doubtfulPlaces 15 = .ok (.getfield 32, 3) := by decide +kernel
theorem dX6_doubtfulPlaces_18 : decode cX6_doubtfulPlaces 18 = .ok (.if_icmp .ge 42, 3) := by decide +kernel
theorem dX6_doubtfulPlaces_21 : decode cX6_doubtfulPlaces 21 = .ok (.aload_n 0, 1) := by decide +kernel
theorem dX6_doubtfulPlaces_22 : decode cX6_doubtfulPlaces 22 = .ok (.iload_n 2, 1) := by decide +kernel
theorem dX6_doubtfulPlaces_23 : decode cX6_doubtfulPlaces 23 = .ok (.aload_n 0, 1) := by decide +kernel
theorem dX6_doubtfulPlaces_24 : decode cX6_doubtfulPlaces 24 = .ok (.iload_n 2, 1) := by decide +kernel
theorem dX6_doubtfulPlaces_25 : decode cX6_doubtfulPlaces 25 = .ok (.invokevirtual 74, 3) := by decide +kernel
theorem dX6_doubtfulPlaces_28 : decode cX6_doubtfulPlaces 28 = .ok (.invokevirtual 49, 3) := by decide +kernel
theorem dX6_doubtfulPlaces_31 : decode cX6_doubtfulPlaces 31 = .ok (.aload_n 0, 1) := by decide +kernel
theorem dX6_doubtfulPlaces_32 : decode cX6_doubtfulPlaces 32 = .ok (.getfield 45, 3) := by decide +kernel
theorem dX6_doubtfulPlaces_35 : decode cX6_doubtfulPlaces 35 = .ok (.invokestatic 77, 3) := by decide +kernel
theorem dX6_doubtfulPlaces_38 : decode cX6_doubtfulPlaces 38 = .ok (.aload_n 0, 1) := by decide +kernel
theorem dX6_doubtfulPlaces_39 : decode cX6_doubtfulPlaces 39 = .ok (.getfield 9, 3) := by decide +kernel
theorem dX6_doubtfulPlaces_42 : decode cX6_doubtfulPlaces 42 = .ok (.getfield 81, 3) := by decide +kernel
theorem dX6_doubtfulPlaces_45 : decode cX6_doubtfulPlaces 45 = .ok (.if_icmp .ge 9, 3) := by decide +kernel
theorem dX6_doubtfulPlaces_48 : decode cX6_doubtfulPlaces 48 = .ok (.iload_n 1, 1) := by decide +kernel
theorem dX6_doubtfulPlaces_49 : decode cX6_doubtfulPlaces 49 = .ok (.iconst 1, 1) := by decide +kernel
theorem dX6_doubtfulPlaces_50 : decode cX6_doubtfulPlaces 50 = .ok (.iload_n 2, 1) := by decide +kernel
theorem dX6_doubtfulPlaces_51 : decode cX6_doubtfulPlaces 51 = .ok (.ishl, 1) := by decide +kernel
theorem dX6_doubtfulPlaces_52 : decode cX6_doubtfulPlaces 52 = .ok (.ior, 1) := by decide +kernel
theorem dX6_doubtfulPlaces_53 : decode cX6_doubtfulPlaces 53 = .ok (.istore_n 1, 1) := by decide +kernel
theorem dX6_doubtfulPlaces_54 : decode cX6_doubtfulPlaces 54 = .ok (.iinc 2 1, 3) := by decide +kernel
theorem dX6_doubtfulPlaces_57 : decode cX6_doubtfulPlaces 57 = .ok (.goto (-44), 3) := by decide +kernel
theorem dX6_doubtfulPlaces_60 : decode cX6_doubtfulPlaces 60 = .ok (.iload_n 1, 1) := by decide +kernel
theorem dX6_doubtfulPlaces_61 : decode cX6_doubtfulPlaces 61 = .ok (.ireturn, 1) := by decide +kernel
theorem dX7_init_0 : decode cX7_init 0 = .ok (.aload_n 0, 1) := by decide +kernel
theorem dX7_init_1 : decode cX7_init 1 = .ok (.invokespecial 1, 3) := by decide +kernel
theorem dX7_init_4 : decode cX7_init 4 = .ok (.new 7, 3) := by decide +kernel
theorem dX7_init_7 : decode cX7_init 7 = .ok (.dup, 1) := by decide +kernel
theorem dX7_init_8 : decode cX7_init 8 = .ok (.invokespecial 9, 3) := by decide +kernel
theorem dX7_init_11 : decode cX7_init 11 = .ok (.astore_n 1, 1) := by decide +kernel
theorem dX7_init_12 : decode cX7_init 12 = .ok (.new 10, 3) := by decide +kernel
theorem dX7_init_15 : decode cX7_init 15 = .ok (.dup, 1) := by decide +kernel
theorem dX7_init_16 : decode cX7_init 16 = .ok (.aload_n 1, 1) := by decide +kernel
theorem dX7_init_17 : decode cX7_init 17 = .ok (.invokespecial 12, 3) := by decide +kernel
theorem dX7_init_20 : decode cX7_init 20 = .ok (.astore_n 2, 1) := by decide +kernel
theorem dX7_init_21 : decode cX7_init 21 = .ok (.aload_n 0, 1) := by decide +kernel
theorem dX7_init_22 : decode cX7_init 22 = .ok (.aload_n 1, 1) := by decide +kernel
theorem dX7_init_23 : decode cX7_init 23 = .ok (.putfield 15, 3) := by decide +kernel
theorem dX7_init_26 : decode cX7_init 26 = .ok (.aload_n 0, 1) := by decide +kernel
theorem dX7_init_27 : decode cX7_init 27 = .ok (.new 7, 3) := by decide +kernel
theorem dX7_init_30 : decode cX7_init 30 = .ok (.dup, 1) := by decide +kernel
theorem dX7_init_31 : decode cX7_init 31 = .ok (.invokespecial 9, 3) := by decide +kernel
theorem dX7_init_34 : decode cX7_init 34 = .ok (.putfield 21, 3) := by decide +kernel
theorem dX7_init_37 : decode cX7_init 37 = .ok (.aload_n 0, 1) := by decide +kernel
theorem dX7_init_38 : decode cX7_init 38 = .ok (.new 24, 3) := by decide +kernel
theorem dX7_init_41 : decode cX7_init 41 = .ok (.dup, 1) := by decide +kernel
theorem dX7_init_42 : decode cX7_init 42 = .ok (.invokespecial 26, 3) := by decide +kernel
theorem dX7_init_45 : decode cX7_init 45 = .ok (.putfield 27, 3) := by decide +kernel
theorem dX7_init_48 : decode cX7_init 48 = .ok (.aload_n 0, 1) := by decide +kernel
theorem dX7_init_49 : decode cX7_init 49 = .ok (.new 31, 3) := by decide +kernel
theorem dX7_init_52 : decode cX7_init 52 = .ok (.dup, 1) := by decide +kernel
theorem dX7_init_53 : decode cX7_init 53 = .ok (.invokespecial 33, 3) := by decide +kernel
theorem dX7_init_56 : decode cX7_init 56 = .ok (.putfield 34, 3) := by decide +kernel
theorem dX7_init_59 : decode cX7_init 59 = .ok (.aload_n 0, 1) := by decide +kernel
theorem dX7_init_60 : decode cX7_init 60 = .ok (.aload_n 2, 1) := by decide +kernel
theorem dX7_init_61 : decode cX7_init 61 = .ok (.putfield 38, 3) := by decide +kernel
theorem dX7_init_64 : decode cX7_init 64 = .ok (.aload_n 0, 1) := by decide +kernel
theorem dX7_init_65 : decode cX7_init 65 = .ok (.new 42, 3) := by decide +kernel
theorem dX7_init_68 : decode cX7_init 68 = .ok (.dup, 1) := by decide +kernel
theorem dX7_init_69 : decode cX7_init 69 = .ok (.aload_n 1, 1) := by decide +kernel
theorem dX7_init_70 : decode cX7_init 70 = .ok (.invokespecial 44, 3) := by decide +kernel
theorem dX7_init_73 : decode cX7_init 73 = .ok (.putfield 45, 3) := by decide +kernel
theorem dX7_init_76 : decode cX7_init 76 = .ok (.aload_n 0, 1) := by decide +kernel
theorem dX7_init_77 : decode cX7_init 77 = .ok (.new 49, 3) := by decide +kernel
theorem dX7_init_80 : decode cX7_init 80 = .ok (.dup, 1) := by decide +kernel
theorem dX7_init_81 : decode cX7_init 81 = .ok (.aload_n 1, 1) := by decide +kernel
theorem dX7_init_82 : decode cX7_init 82 = .ok (.invokespecial 51, 3) := by decide +kernel
theorem dX7_init_85 : decode cX7_init 85 = .ok (.putfield 52, 3) := by decide +kernel
theorem dX7_init_88 : decode cX7_init 88 = .ok (.aload_n 0, 1) := by decide +kernel
theorem dX7_init_89 : decode cX7_init 89 = .ok (.new 56, 3) := by decide +kernel
theorem dX7_init_92 : decode cX7_init 92 = .ok (.dup, 1) := by decide +kernel
theorem dX7_init_93 : decode cX7_init 93 = .ok (.aload_n 1, 1) := by decide +kernel
theorem dX7_init_94 : decode cX7_init 94 = .ok (.aload_n 2, 1) := by decide +kernel
theorem dX7_init_95 : decode cX7_init 95 = .ok (.invokespecial 58, 3) := by decide +kernel
theorem dX7_init_98 : decode cX7_init 98 = .ok (.putfield 61, 3) := by decide +kernel
theorem dX7_init_101 : decode cX7_init 101 = .ok (.return_, 1) := by decide +kernel
theorem dX7_setWeight_0 : decode cX7_setWeight 0 = .ok (.iload_n 1, 1) := by decide +kernel
theorem dX7_setWeight_1 : decode cX7_setWeight 1 = .ok (.invokestatic 65, 3) := by decide +kernel
theorem dX7_setWeight_4 : decode cX7_setWeight 4 = .ok (.ifCond .ne 6, 3) := by decide +kernel
theorem dX7_setWeight_7 : decode cX7_setWeight 7 = .ok (.bipush (-2), 2) := by decide +kernel
theorem dX7_setWeight_9 : decode cX7_setWeight 9 = .ok (.ireturn, 1) := by decide +kernel
theorem dX7_setWeight_10 : decode cX7_setWeight 10 = .ok (.aload_n 0, 1) := by decide +kernel
theorem dX7_setWeight_11 : decode cX7_setWeight 11 = .ok (.getfield 15, 3) := by decide +kernel
theorem dX7_setWeight_14 : decode cX7_setWeight 14 = .ok (.iload_n 1, 1) := by decide +kernel
theorem dX7_setWeight_15 : decode cX7_setWeight 15 = .ok (.iload_n 2, 1) := by decide +kernel
theorem dX7_setWeight_16 : decode cX7_setWeight 16 = .ok (.iload_n 3, 1) := by decide +kernel
theorem dX7_setWeight_17 : decode cX7_setWeight 17 = .ok (.invokevirtual 69, 3) := by decide +kernel
theorem dX7_setWeight_20 : decode cX7_setWeight 20 = .ok (.ifCond .ne 5, 3) := by decide +kernel
theorem dX7_setWeight_23 : decode cX7_setWeight 23 = .ok (.iconst (-1), 1) := by decide +kernel
theorem dX7_setWeight_24 : decode cX7_setWeight 24 = .ok (.ireturn, 1) := by decide +kernel
theorem dX7_setWeight_25 : decode cX7_setWeight 25 = .ok (.iload 4, 2) := by decide +kernel
theorem dX7_setWeight_27 : decode cX7_setWeight 27 = .ok (.ifCond .lt 10, 3) := by decide +kernel
theorem dX7_setWeight_30 : decode cX7_setWeight 30 = .ok (.iload 4, 2) := by decide +kernel
theorem dX7_setWeight_32 : decode cX7_setWeight 32 = .ok (.bipush 6, 2) := by decide +kernel
theorem dX7_setWeight_34 : decode cX7_setWeight 34 = .ok (.if_icmp .le 6, 3) := by decide +kernel
theorem dX7_setWeight_37 : decode cX7_setWeight 37 = .ok (.bipush (-2), 2) := by decide +kernel
theorem dX7_setWeight_39 : decode cX7_setWeight 39 = .ok (.ireturn, 1) := by decide +kernel
theorem dX7_setWeight_40 : decode cX7_setWeight 40 = .ok (.iload_n 1, 1) := by decide +kernel
theorem dX7_setWeight_41 : decode cX7_setWeight 41 = .ok (.iload_n 2, 1) := by decide +kernel
theorem dX7_setWeight_42 : decode cX7_setWeight 42 = .ok (.iload_n 3, 1) := by decide +kernel
theorem dX7_setWeight_43 : decode cX7_setWeight 43 = .ok (.invokestatic 73, 3) := by decide +kernel
theorem dX7_setWeight_46 : decode cX7_setWeight 46 = .ok (.istore 5, 2) := by decide +kernel
theorem dX7_setWeight_48 : decode cX7_setWeight 48 = .ok (.aload_n 0, 1) := by decide +kernel
theorem dX7_setWeight_49 : decode cX7_setWeight 49 = .ok (.getfield 15, 3) := by decide +kernel
theorem dX7_setWeight_52 : decode cX7_setWeight 52 = .ok (.getfield 77, 3) := by decide +kernel
theorem dX7_setWeight_55 : decode cX7_setWeight 55 = .ok (.iload 5, 2) := by decide +kernel
theorem dX7_setWeight_57 : decode cX7_setWeight 57 = .ok (.iaload, 1) := by decide +kernel
theorem dX7_setWeight_58 : decode cX7_setWeight 58 = .ok (.istore 6, 2) := by decide +kernel
theorem dX7_setWeight_60 : decode cX7_setWeight 60 = .ok (.iload 6, 2) := by decide +kernel
theorem dX7_setWeight_62 : decode cX7_setWeight 62 = .ok (.iload 4, 2) := by decide +kernel
theorem dX7_setWeight_64 : decode cX7_setWeight 64 = .ok (.if_icmp .ne 6, 3) := by decide +kernel
theorem dX7_setWeight_67 : decode cX7_setWeight 67 = .ok (.bipush (-5), 2) := by decide +kernel
theorem dX7_setWeight_69 : decode cX7_setWeight 69 = .ok (.ireturn, 1) := by decide +kernel
theorem dX7_setWeight_70 : decode cX7_setWeight 70 = .ok (.aload_n 0, 1) := by decide +kernel
theorem dX7_setWeight_71 : decode cX7_setWeight 71 = .ok (.getfield 27, 3) := by decide +kernel
theorem dX7_setWeight_74 : decode cX7_setWeight 74 = .ok (.aload_n 0, 1) := by decide +kernel
theorem dX7_setWeight_75 : decode cX7_setWeight 75 = .ok (.getfield 15, 3) := by decide +kernel
theorem dX7_setWeight_78 : decode cX7_setWeight 78 = .ok (.invokevirtual 81, 3) := by decide +kernel
theorem dX7_setWeight_81 : decode cX7_setWeight 81 = .ok (.aload_n 0, 1) := by decide +kernel
theorem dX7_setWeight_82 : decode cX7_setWeight 82 = .ok (.getfield 15, 3) := by decide +kernel
theorem dX7_setWeight_85 : decode cX7_setWeight 85 = .ok (.getfield 77, 3) := by decide +kernel
theorem dX7_setWeight_88 : decode cX7_setWeight 88 = .ok (.iload 5, 2) := by decide +kernel
theorem dX7_setWeight_90 : decode cX7_setWeight 90 = .ok (.iload 4, 2) := by decide +kernel
theorem dX7_setWeight_92 : decode cX7_setWeight 92 = .ok (.iastore, 1) := by decide +kernel
theorem dX7_setWeight_93 : decode cX7_setWeight 93 = .ok (.iload 6, 2) := by decide +kernel
theorem dX7_setWeight_95 : decode cX7_setWeight 95 = .ok (.ireturn, 1) := by decide +kernel
theorem dX7_addState_0 : decode cX7_addState 0 = .ok (.aload_n 0, 1) := by decide +kernel
theorem dX7_addState_1 : decode cX7_addState 1 = .ok (.getfield 15, 3) := by decide +kernel
theorem dX7_addState_4 : decode cX7_addState 4 = .ok (.getfield 84, 3) := by decide +kernel
theorem dX7_addState_7 : decode cX7_addState 7 = .ok (.iconst 4, 1) := by decide +kernel
theorem dX7_addState_8 : decode cX7_addState 8 = .ok (.if_icmp .ne 6, 3) := by decide +kernel
theorem dX7_addState_11 : decode cX7_addState 11 = .ok (.bipush (-3), 2) := by decide +kernel
theorem dX7_addState_13 : decode cX7_addState 13 = .ok (.ireturn, 1) := by decide +kernel
theorem dX7_addState_14 : decode cX7_addState 14 = .ok (.aload_n 0, 1) := by decide +kernel
theorem dX7_addState_15 : decode cX7_addState 15 = .ok (.getfield 27, 3) := by decide +kernel
theorem dX7_addState_18 : decode cX7_addState 18 = .ok (.aload_n 0, 1) := by decide +kernel
theorem dX7_addState_19 : decode cX7_addState 19 = .ok (.getfield 15, 3) := by decide +kernel
theorem dX7_addState_22 : decode cX7_addState 22 = .ok (.invokevirtual 81, 3) := by decide +kernel
theorem dX7_addState_25 : decode cX7_addState 25 = .ok (.aload_n 0, 1) := by decide +kernel
theorem dX7_addState_26 : decode cX7_addState 26 = .ok (.getfield 15, 3) := by decide +kernel
theorem dX7_addState_29 : decode cX7_addState 29 = .ok (.invokevirtual 88, 3) := by decide +kernel
theorem dX7_addState_32 : decode cX7_addState 32 = .ok (.aload_n 0, 1) := by decide +kernel
theorem dX7_addState_33 : decode cX7_addState 33 = .ok (.getfield 15, 3) := by decide +kernel
theorem dX7_addState_36 : decode cX7_addState 36 = .ok (.getfield 84, 3) := by decide +kernel
theorem dX7_addState_39 : decode cX7_addState 39 = .ok (.iconst 1, 1) := by decide +kernel
theorem dX7_addState_40 : decode cX7_addState 40 = .ok (.isub, 1) := by decide +kernel
theorem dX7_addState_41 : decode cX7_addState 41 = .ok (.ireturn, 1) := by decide +kernel
theorem dX7_split_0 : decode cX7_split 0 = .ok (.aload_n 0, 1) := by decide +kernel
theorem dX7_split_1 : decode cX7_split 1 = .ok (.getfield 15, 3) := by decide +kernel
theorem dX7_split_4 : decode cX7_split 4 = .ok (.iload_n 1, 1) := by decide +kernel
theorem dX7_split_5 : decode cX7_split 5 = .ok (.invokevirtual 91, 3) := by decide +kernel
theorem dX7_split_8 : decode cX7_split 8 = .ok (.ifCond .ne 5, 3) := by decide +kernel
theorem dX7_split_11 : decode cX7_split 11 = .ok (.iconst (-1), 1) := by decide +kernel
theorem dX7_split_12 : decode cX7_split 12 = .ok (.ireturn, 1) := by decide +kernel
theorem dX7_split_13 : decode cX7_split 13 = .ok (.aload_n 0, 1) := by decide +kernel
theorem dX7_split_14 : decode cX7_split 14 = .ok (.getfield 15, 3) := by decide +kernel
theorem dX7_split_17 : decode cX7_split 17 = .ok (.getfield 84, 3) := by decide +kernel
theorem dX7_split_20 : decode cX7_split 20 = .ok (.iconst 4, 1) := by decide +kernel
theorem dX7_split_21 : decode cX7_split 21 = .ok (.if_icmp .ne 6, 3) := by decide +kernel
theorem dX7_split_24 : decode cX7_split 24 = .ok (.bipush (-3), 2) := by decide +kernel
theorem dX7_split_26 : decode cX7_split 26 = .ok (.ireturn, 1) := by decide +kernel
theorem dX7_split_27 : decode cX7_split 27 = .ok (.aload_n 0, 1) := by decide +kernel
theorem dX7_split_28 : decode cX7_split 28 = .ok (.getfield 27, 3) := by decide +kernel
theorem dX7_split_31 : decode cX7_split 31 = .ok (.aload_n 0, 1) := by decide +kernel
theorem dX7_split_32 : decode cX7_split 32 = .ok (.getfield 15, 3) := by decide +kernel
theorem dX7_split_35 : decode cX7_split 35 = .ok (.invokevirtual 81, 3) := by decide +kernel
theorem dX7_split_38 : decode cX7_split 38 = .ok (.aload_n 0, 1) := by decide +kernel
theorem dX7_split_39 : decode cX7_split 39 = .ok (.getfield 15, 3) := by decide +kernel
theorem dX7_split_42 : decode cX7_split 42 = .ok (.iload_n 1, 1) := by decide +kernel
theorem dX7_split_43 : decode cX7_split 43 = .ok (.invokevirtual 94, 3) := by decide +kernel
theorem dX7_split_46 : decode cX7_split 46 = .ok (.aload_n 0, 1) := by decide +kernel
theorem dX7_split_47 : decode cX7_split 47 = .ok (.getfield 15, 3) := by decide +kernel
theorem dX7_split_50 : decode cX7_split 50 = .ok (.getfield 84, 3) := by decide +kernel
theorem dX7_split_53 : decode cX7_split 53 = .ok (.iconst 1, 1) := by decide +kernel
theorem dX7_split_54 : decode cX7_split 54 = .ok (.isub, 1) := by decide +kernel
theorem dX7_split_55 : decode cX7_split 55 = .ok (.ireturn, 1) := by decide +kernel
theorem dX7_join_0 : decode cX7_join 0 = .ok (.aload_n 0, 1) := by decide +kernel
theorem dX7_join_1 : decode cX7_join 1 = .ok (.getfield 15, 3) := by decide +kernel
theorem dX7_join_4 : decode cX7_join 4 = .ok (.iload_n 1, 1) := by decide +kernel
theorem dX7_join_5 : decode cX7_join 5 = .ok (.invokevirtual 91, 3) := by decide +kernel
theorem dX7_join_8 : decode cX7_join 8 = .ok (.ifCond .eq 14, 3) := by decide +kernel
theorem dX7_join_11 : decode cX7_join 11 = .ok (.aload_n 0, 1) := by decide +kernel
theorem dX7_join_12 : decode cX7_join 12 = .ok (.getfield 15, 3) := by decide +kernel
theorem dX7_join_15 : decode cX7_join 15 = .ok (.iload_n 2, 1) := by decide +kernel
theorem dX7_join_16 : decode cX7_join 16 = .ok (.invokevirtual 91, 3) := by decide +kernel
theorem dX7_join_19 : decode cX7_join 19 = .ok (.ifCond .ne 5, 3) := by decide +kernel
theorem dX7_join_22 : decode cX7_join 22 = .ok (.iconst (-1), 1) := by decide +kernel
theorem dX7_join_23 : decode cX7_join 23 = .ok (.ireturn, 1) := by decide +kernel
theorem dX7_join_24 : decode cX7_join 24 = .ok (.iload_n 1, 1) := by decide +kernel
theorem dX7_join_25 : decode cX7_join 25 = .ok (.iload_n 2, 1) := by decide +kernel
theorem dX7_join_26 : decode cX7_join 26 = .ok (.if_icmp .ne 6, 3) := by decide +kernel
theorem dX7_join_29 : decode cX7_join 29 = .ok (.bipush (-2), 2) := by decide +kernel
theorem dX7_join_31 : decode cX7_join 31 = .ok (.ireturn, 1) := by decide +kernel
theorem dX7_join_32 : decode cX7_join 32 = .ok (.aload_n 0, 1) := by decide +kernel
theorem dX7_join_33 : decode cX7_join 33 = .ok (.getfield 27, 3) := by decide +kernel
theorem dX7_join_36 : decode cX7_join 36 = .ok (.aload_n 0, 1) := by decide +kernel
theorem dX7_join_37 : decode cX7_join 37 = .ok (.getfield 15, 3) := by decide +kernel
theorem dX7_join_40 : decode cX7_join 40 = .ok (.invokevirtual 81, 3) := by decide +kernel
theorem dX7_join_43 : decode cX7_join 43 = .ok (.aload_n 0, 1) := by decide +kernel
theorem dX7_join_44 : decode cX7_join 44 = .ok (.getfield 15, 3) := by decide +kernel
theorem dX7_join_47 : decode cX7_join 47 = .ok (.iload_n 1, 1) := by decide +kernel
theorem dX7_join_48 : decode cX7_join 48 = .ok (.iload_n 2, 1) := by decide +kernel
theorem dX7_join_49 : decode cX7_join 49 = .ok (.invokestatic 98, 3) := by decide +kernel
theorem dX7_join_52 : decode cX7_join 52 = .ok (.iload_n 1, 1) := by decide +kernel
theorem dX7_join_53 : decode cX7_join 53 = .ok (.iload_n 2, 1) := by decide +kernel
theorem dX7_join_54 : decode cX7_join 54 = .ok (.invokestatic 104, 3) := by decide +kernel
theorem dX7_join_57 : decode cX7_join 57 = .ok (.invokevirtual 107, 3) := by decide +kernel
theorem dX7_join_60 : decode cX7_join 60 = .ok (.aload_n 0, 1) := by decide +kernel
theorem dX7_join_61 : decode cX7_join 61 = .ok (.getfield 15, 3) := by decide +kernel
theorem dX7_join_64 : decode cX7_join 64 = .ok (.getfield 84, 3) := by decide +kernel
theorem dX7_join_67 : decode cX7_join 67 = .ok (.ireturn, 1) := by decide +kernel
theorem dX7_removeState_0 : decode cX7_removeState 0 = .ok (.aload_n 0, 1) := by decide +kernel
theorem dX7_removeState_1 : decode cX7_removeState 1 = .ok (.getfield 15, 3) := by decide +kernel
theorem dX7_removeState_4 : decode cX7_removeState 4 = .ok (.iload_n 1, 1) := by decide +kernel
theorem dX7_removeState_5 : decode cX7_removeState 5 = .ok (.invokevirtual 91, 3) := by decide +kernel
theorem dX7_removeState_8 : decode cX7_removeState 8 = .ok (.ifCond .ne 5, 3) := by decide +kernel
theorem dX7_removeState_11 : decode cX7_removeState 11 = .ok (.iconst (-1), 1) := by decide +kernel
theorem dX7_removeState_12 : decode cX7_removeState 12 = .ok (.ireturn, 1) := by decide +kernel
theorem dX7_removeState_13 : decode cX7_removeState 13 = .ok (.aload_n 0, 1) := by decide +kernel
theorem dX7_removeState_14 : decode cX7_removeState 14 = .ok (.getfield 15, 3) := by decide +kernel
theorem dX7_removeState_17 : decode cX7_removeState 17 = .ok (.getfield 84, 3) := by decide +kernel
theorem dX7_removeState_20 : decode cX7_removeState 20 = .ok (.iconst 1, 1) := by decide +kernel
theorem dX7_removeState_21 : decode cX7_removeState 21 = .ok (.if_icmp .ne 6, 3) := by decide +kernel
theorem dX7_removeState_24 : decode cX7_removeState 24 = .ok (.bipush (-4), 2) := by decide +kernel
theorem dX7_removeState_26 : decode cX7_removeState 26 = .ok (.ireturn, 1) := by decide +kernel
theorem dX7_removeState_27 : decode cX7_removeState 27 = .ok (.aload_n 0, 1) := by decide +kernel
theorem dX7_removeState_28 : decode cX7_removeState 28 = .ok (.getfield 27, 3) := by decide +kernel
theorem dX7_removeState_31 : decode cX7_removeState 31 = .ok (.aload_n 0, 1) := by decide +kernel
theorem dX7_removeState_32 : decode cX7_removeState 32 = .ok (.getfield 15, 3) := by decide +kernel
theorem dX7_removeState_35 : decode cX7_removeState 35 = .ok (.invokevirtual 81, 3) := by decide +kernel
theorem dX7_removeState_38 : decode cX7_removeState 38 = .ok (.aload_n 0, 1) := by decide +kernel
theorem dX7_removeState_39 : decode cX7_removeState 39 = .ok (.getfield 15, 3) := by decide +kernel
theorem dX7_removeState_42 : decode cX7_removeState 42 = .ok (.iload_n 1, 1) := by decide +kernel
theorem dX7_removeState_43 : decode cX7_removeState 43 = .ok (.invokevirtual 111, 3) := by decide +kernel
theorem dX7_removeState_46 : decode cX7_removeState 46 = .ok (.aload_n 0, 1) := by decide +kernel
theorem dX7_removeState_47 : decode cX7_removeState 47 = .ok (.getfield 15, 3) := by decide +kernel
theorem dX7_removeState_50 : decode cX7_removeState 50 = .ok (.getfield 84, 3) := by decide +kernel
theorem dX7_removeState_53 : decode cX7_removeState 53 = .ok (.ireturn, 1) := by decide +kernel
theorem dX7_setBound_0 : decode cX7_setBound 0 = .ok (.iload_n 1, 1) := by decide +kernel
theorem dX7_setBound_1 : decode cX7_setBound 1 = .ok (.sipush 500, 3) := by decide +kernel
theorem dX7_setBound_4 : decode cX7_setBound 4 = .ok (.if_icmp .lt 10, 3) := by decide +kernel
theorem dX7_setBound_7 : decode cX7_setBound 7 = .ok (.iload_n 1, 1) := by decide +kernel
theorem dX7_setBound_8 : decode cX7_setBound 8 = .ok (.sipush 1000, 3) := by decide +kernel
theorem dX7_setBound_11 : decode cX7_setBound 11 = .ok (.if_icmp .le 6, 3) := by decide +kernel
theorem dX7_setBound_14 : decode cX7_setBound 14 = .ok (.bipush (-2), 2) := by decide +kernel
theorem dX7_setBound_16 : decode cX7_setBound 16 = .ok (.ireturn, 1) := by decide +kernel
theorem dX7_setBound_17 : decode cX7_setBound 17 = .ok (.aload_n 0, 1) := by decide +kernel
theorem dX7_setBound_18 : decode cX7_setBound 18 = .ok (.getfield 15, 3) := by decide +kernel
theorem dX7_setBound_21 : decode cX7_setBound 21 = .ok (.getfield 114, 3) := by decide +kernel
theorem dX7_setBound_24 : decode cX7_setBound 24 = .ok (.istore_n 2, 1) := by decide +kernel
theorem dX7_setBound_25 : decode cX7_setBound 25 = .ok (.iload_n 2, 1) := by decide +kernel
theorem dX7_setBound_26 : decode cX7_setBound 26 = .ok (.iload_n 1, 1) := by decide +kernel
theorem dX7_setBound_27 : decode cX7_setBound 27 = .ok (.if_icmp .ne 6, 3) := by decide +kernel
theorem dX7_setBound_30 : decode cX7_setBound 30 = .ok (.bipush (-5), 2) := by decide +kernel
theorem dX7_setBound_32 : decode cX7_setBound 32 = .ok (.ireturn, 1) := by decide +kernel
theorem dX7_setBound_33 : decode cX7_setBound 33 = .ok (.aload_n 0, 1) := by decide +kernel
theorem dX7_setBound_34 : decode cX7_setBound 34 = .ok (.getfield 27, 3) := by decide +kernel
theorem dX7_setBound_37 : decode cX7_setBound 37 = .ok (.aload_n 0, 1) := by decide +kernel
theorem dX7_setBound_38 : decode cX7_setBound 38 = .ok (.getfield 15, 3) := by decide +kernel
theorem dX7_setBound_41 : decode cX7_setBound 41 = .ok (.invokevirtual 81, 3) := by decide +kernel
theorem dX7_setBound_44 : decode cX7_setBound 44 = .ok (.aload_n 0, 1) := by decide +kernel
theorem dX7_setBound_45 : decode cX7_setBound 45 = .ok (.getfield 15, 3) := by decide +kernel
theorem dX7_setBound_48 : decode cX7_setBound 48 = .ok (.iload_n 1, 1) := by decide +kernel
theorem dX7_setBound_49 : decode cX7_setBound 49 = .ok (.putfield 114, 3) := by decide +kernel
theorem dX7_setBound_52 : decode cX7_setBound 52 = .ok (.iload_n 2, 1) := by decide +kernel
theorem dX7_setBound_53 : decode cX7_setBound 53 = .ok (.ireturn, 1) := by decide +kernel
theorem dX7_addSamples_0 : decode cX7_addSamples 0 = .ok (.aload_n 0, 1) := by decide +kernel
theorem dX7_addSamples_1 : decode cX7_addSamples 1 = .ok (.getfield 34, 3) := by decide +kernel
theorem dX7_addSamples_4 : decode cX7_addSamples 4 = .ok (.invokevirtual 117, 3) := by decide +kernel
theorem dX7_addSamples_7 : decode cX7_addSamples 7 = .ok (.istore_n 1, 1) := by decide +kernel
theorem dX7_addSamples_8 : decode cX7_addSamples 8 = .ok (.iload_n 1, 1) := by decide +kernel
theorem dX7_addSamples_9 : decode cX7_addSamples 9 = .ok (.iconst (-1), 1) := by decide +kernel
theorem dX7_addSamples_10 : decode cX7_addSamples 10 = .ok (.if_icmp .eq 8, 3) := by decide +kernel
theorem dX7_addSamples_13 : decode cX7_addSamples 13 = .ok (.bipush (-100), 2) := by decide +kernel
theorem dX7_addSamples_15 : decode cX7_addSamples 15 = .ok (.iload_n 1, 1) := by decide +kernel
theorem dX7_addSamples_16 : decode cX7_addSamples 16 = .ok (.isub, 1) := by decide +kernel
theorem dX7_addSamples_17 : decode cX7_addSamples 17 = .ok (.ireturn, 1) := by decide +kernel
theorem dX7_addSamples_18 : decode cX7_addSamples 18 = .ok (.aload_n 0, 1) := by decide +kernel
theorem dX7_addSamples_19 : decode cX7_addSamples 19 = .ok (.getfield 34, 3) := by decide +kernel
theorem dX7_addSamples_22 : decode cX7_addSamples 22 = .ok (.invokevirtual 121, 3) := by decide +kernel
theorem dX7_addSamples_25 : decode cX7_addSamples 25 = .ok (.istore_n 2, 1) := by decide +kernel
theorem dX7_addSamples_26 : decode cX7_addSamples 26 = .ok (.aload_n 0, 1) := by decide +kernel
theorem dX7_addSamples_27 : decode cX7_addSamples 27 = .ok (.getfield 15, 3) := by decide +kernel
theorem dX7_addSamples_30 : decode cX7_addSamples 30 = .ok (.getfield 124, 3) := by decide +kernel
theorem dX7_addSamples_33 : decode cX7_addSamples 33 = .ok (.iload_n 2, 1) := by decide +kernel
theorem dX7_addSamples_34 : decode cX7_addSamples 34 = .ok (.iadd, 1) := by decide +kernel
theorem dX7_addSamples_35 : decode cX7_addSamples 35 = .ok (.bipush 6, 2) := by decide +kernel
theorem dX7_addSamples_37 : decode cX7_addSamples 37 = .ok (.if_icmp .le 6, 3) := by decide +kernel
theorem dX7_addSamples_40 : decode cX7_addSamples 40 = .ok (.bipush (-3), 2) := by decide +kernel
theorem dX7_addSamples_42 : decode cX7_addSamples 42 = .ok (.ireturn, 1) := by decide +kernel
theorem dX7_addSamples_43 : decode cX7_addSamples 43 = .ok (.aload_n 0, 1) := by decide +kernel
theorem dX7_addSamples_44 : decode cX7_addSamples 44 = .ok (.getfield 27, 3) := by decide +kernel
theorem dX7_addSamples_47 : decode cX7_addSamples 47 = .ok (.aload_n 0, 1) := by decide +kernel
theorem dX7_addSamples_48 : decode cX7_addSamples 48 = .ok (.getfield 15, 3) := by decide +kernel
theorem dX7_addSamples_51 : decode cX7_addSamples 51 = .ok (.invokevirtual 81, 3) := by decide +kernel
theorem dX7_addSamples_54 : decode cX7_addSamples 54 = .ok (.aload_n 0, 1) := by decide +kernel
theorem dX7_addSamples_55 : decode cX7_addSamples 55 = .ok (.getfield 34, 3) := by decide +kernel
theorem dX7_addSamples_58 : decode cX7_addSamples 58 = .ok (.aload_n 0, 1) := by decide +kernel
theorem dX7_addSamples_59 : decode cX7_addSamples 59 = .ok (.getfield 15, 3) := by decide +kernel
theorem dX7_addSamples_62 : decode cX7_addSamples 62 = .ok (.invokevirtual 126, 3) := by decide +kernel
theorem dX7_addSamples_65 : decode cX7_addSamples 65 = .ok (.iload_n 2, 1) := by decide +kernel
theorem dX7_addSamples_66 : decode cX7_addSamples 66 = .ok (.ireturn, 1) := by decide +kernel
theorem dX7_removeSample_0 : decode cX7_removeSample 0 = .ok (.aload_n 0, 1) := by decide +kernel
theorem dX7_removeSample_1 : decode cX7_removeSample 1 = .ok (.getfield 15, 3) := by decide +kernel
theorem dX7_removeSample_4 : decode cX7_removeSample 4 = .ok (.iload_n 1, 1) := by decide +kernel
theorem dX7_removeSample_5 : decode cX7_removeSample 5 = .ok (.invokevirtual 129, 3) := by decide +kernel
theorem dX7_removeSample_8 : decode cX7_removeSample 8 = .ok (.ifCond .ne 5, 3) := by decide +kernel
theorem dX7_removeSample_11 : decode cX7_removeSample 11 = .ok (.iconst (-1), 1) := by decide +kernel
theorem dX7_removeSample_12 : decode cX7_removeSample 12 = .ok (.ireturn, 1) := by decide +kernel
theorem dX7_removeSample_13 : decode cX7_removeSample 13 = .ok (.aload_n 0, 1) := by decide +kernel
theorem dX7_removeSample_14 : decode cX7_removeSample 14 = .ok (.getfield 27, 3) := by decide +kernel
theorem dX7_removeSample_17 : decode cX7_removeSample 17 = .ok (.aload_n 0, 1) := by decide +kernel
theorem dX7_removeSample_18 : decode cX7_removeSample 18 = .ok (.getfield 15, 3) := by decide +kernel
theorem dX7_removeSample_21 : decode cX7_removeSample 21 = .ok (.invokevirtual 81, 3) := by decide +kernel
theorem dX7_removeSample_24 : decode cX7_removeSample 24 = .ok (.aload_n 0, 1) := by decide +kernel
theorem dX7_removeSample_25 : decode cX7_removeSample 25 = .ok (.getfield 15, 3) := by decide +kernel
theorem dX7_removeSample_28 : decode cX7_removeSample 28 = .ok (.iload_n 1, 1) := by decide +kernel
theorem dX7_removeSample_29 : decode cX7_removeSample 29 = .ok (.invokevirtual 132, 3) := by decide +kernel
theorem dX7_removeSample_32 : decode cX7_removeSample 32 = .ok (.aload_n 0, 1) := by decide +kernel
theorem dX7_removeSample_33 : decode cX7_removeSample 33 = .ok (.getfield 15, 3) := by decide +kernel
theorem dX7_removeSample_36 : decode cX7_removeSample 36 = .ok (.getfield 124, 3) := by decide +kernel
theorem dX7_removeSample_39 : decode cX7_removeSample 39 = .ok (.ireturn, 1) := by decide +kernel
theorem dX7_learn_0 : decode cX7_learn 0 = .ok (.iload_n 1, 1) := by decide +kernel
theorem dX7_learn_1 : decode cX7_learn 1 = .ok (.iconst 1, 1) := by decide +kernel
theorem dX7_learn_2 : decode cX7_learn 2 = .ok (.if_icmp .lt 9, 3) := by decide +kernel
theorem dX7_learn_5 : decode cX7_learn 5 = .ok (.iload_n 1, 1) := by decide +kernel
theorem dX7_learn_6 : decode cX7_learn 6 = .ok (.bipush 20, 2) := by decide +kernel
theorem dX7_learn_8 : decode cX7_learn 8 = .ok (.if_icmp .le 6, 3) := by decide +kernel
theorem dX7_learn_11 : decode cX7_learn 11 = .ok (.bipush (-2), 2) := by decide +kernel
theorem dX7_learn_13 : decode cX7_learn 13 = .ok (.ireturn, 1) := by decide +kernel
theorem dX7_learn_14 : decode cX7_learn 14 = .ok (.iconst 0, 1) := by decide +kernel
theorem dX7_learn_15 : decode cX7_learn 15 = .ok (.istore_n 2, 1) := by decide +kernel
theorem dX7_learn_16 : decode cX7_learn 16 = .ok (.iconst 0, 1) := by decide +kernel
theorem dX7_learn_17 : decode cX7_learn 17 = .ok (.istore_n 3, 1) := by decide +kernel
theorem dX7_learn_18 : decode cX7_learn 18 = .ok (.iload_n 3, 1) := by decide +kernel
theorem dX7_learn_19 : decode cX7_learn 19 = .ok (.iload_n 1, 1) := by decide +kernel
theorem dX7_learn_20 : decode cX7_learn 20 = .ok (.if_icmp .ge 44, 3) := by decide +kernel
theorem dX7_learn_23 : decode cX7_learn 23 = .ok (.aload_n 0, 1) := by decide +kernel
theorem dX7_learn_24 : decode cX7_learn 24 = .ok (.getfield 61, 3) := by decide +kernel
theorem dX7_learn_27 : decode cX7_learn 27 = .ok (.invokevirtual 135, 3) := by decide +kernel
theorem dX7_learn_30 : decode cX7_learn 30 = .ok (.ifCond .eq 34, 3) := by decide +kernel
theorem dX7_learn_33 : decode cX7_learn 33 = .ok (.iload_n 2, 1) := by decide +kernel
theorem dX7_learn_34 : decode cX7_learn 34 = .ok (.ifCond .ne 14, 3) := by decide +kernel
theorem dX7_learn_37 : decode cX7_learn 37 = .ok (.aload_n 0, 1) := by decide +kernel
theorem dX7_learn_38 : decode cX7_learn 38 = .ok (.getfield 27, 3) := by decide +kernel
theorem dX7_learn_41 : decode cX7_learn 41 = .ok (.aload_n 0, 1) := by decide +kernel
theorem dX7_learn_42 : decode cX7_learn 42 = .ok (.getfield 15, 3) := by decide +kernel
theorem dX7_learn_45 : decode cX7_learn 45 = .ok (.invokevirtual 81, 3) := by decide +kernel
theorem dX7_learn_48 : decode cX7_learn 48 = .ok (.aload_n 0, 1) := by decide +kernel
theorem dX7_learn_49 : decode cX7_learn 49 = .ok (.getfield 61, 3) := by decide +kernel
theorem dX7_learn_52 : decode cX7_learn 52 = .ok (.invokevirtual 139, 3) := by decide +kernel
theorem dX7_learn_55 : decode cX7_learn 55 = .ok (.iinc 2 1, 3) := by decide +kernel
theorem dX7_learn_58 : decode cX7_learn 58 = .ok (.iinc 3 1, 3) := by decide +kernel
theorem dX7_learn_61 : decode cX7_learn 61 = .ok (.goto (-43), 3) := by decide +kernel
theorem dX7_learn_64 : decode cX7_learn 64 = .ok (.iload_n 2, 1) := by decide +kernel
theorem dX7_learn_65 : decode cX7_learn 65 = .ok (.ifCond .le 7, 3) := by decide +kernel
theorem dX7_learn_68 : decode cX7_learn 68 = .ok (.iload_n 2, 1) := by decide +kernel
theorem dX7_learn_69 : decode cX7_learn 69 = .ok (.goto 5, 3) := by decide +kernel
theorem dX7_learn_72 : decode cX7_learn 72 = .ok (.bipush (-5), 2) := by decide +kernel
theorem dX7_learn_74 : decode cX7_learn 74 = .ok (.ireturn, 1) := by decide +kernel
theorem dX7_type_0 : decode cX7_type 0 = .ok (.aload_n 0, 1) := by decide +kernel
theorem dX7_type_1 : decode cX7_type 1 = .ok (.getfield 34, 3) := by decide +kernel
theorem dX7_type_4 : decode cX7_type 4 = .ok (.getfield 142, 3) := by decide +kernel
theorem dX7_type_7 : decode cX7_type 7 = .ok (.bipush 60, 2) := by decide +kernel
theorem dX7_type_9 : decode cX7_type 9 = .ok (.if_icmp .ne 6, 3) := by decide +kernel
theorem dX7_type_12 : decode cX7_type 12 = .ok (.bipush (-3), 2) := by decide +kernel
theorem dX7_type_14 : decode cX7_type 14 = .ok (.ireturn, 1) := by decide +kernel
theorem dX7_type_15 : decode cX7_type 15 = .ok (.aload_n 0, 1) := by decide +kernel
theorem dX7_type_16 : decode cX7_type 16 = .ok (.getfield 34, 3) := by decide +kernel
theorem dX7_type_19 : decode cX7_type 19 = .ok (.iload_n 1, 1) := by decide +kernel
theorem dX7_type_20 : decode cX7_type 20 = .ok (.invokevirtual 145, 3) := by decide +kernel
theorem dX7_type_23 : decode cX7_type 23 = .ok (.aload_n 0, 1) := by decide +kernel
theorem dX7_type_24 : decode cX7_type 24 = .ok (.getfield 34, 3) := by decide +kernel
theorem dX7_type_27 : decode cX7_type 27 = .ok (.getfield 142, 3) := by decide +kernel
theorem dX7_type_30 : decode cX7_type 30 = .ok (.ireturn, 1) := by decide +kernel
theorem dX7_clearText_0 : decode cX7_clearText 0 = .ok (.aload_n 0, 1) := by decide +kernel
theorem dX7_clearText_1 : decode cX7_clearText 1 = .ok (.getfield 34, 3) := by decide +kernel
theorem dX7_clearText_4 : decode cX7_clearText 4 = .ok (.getfield 142, 3) := by decide +kernel
theorem dX7_clearText_7 : decode cX7_clearText 7 = .ok (.istore_n 1, 1) := by decide +kernel
theorem dX7_clearText_8 : decode cX7_clearText 8 = .ok (.aload_n 0, 1) := by decide +kernel
theorem dX7_clearText_9 : decode cX7_clearText 9 = .ok (.getfield 34, 3) := by decide +kernel
theorem dX7_clearText_12 : decode cX7_clearText 12 = .ok (.invokevirtual 149, 3) := by decide +kernel
theorem dX7_clearText_15 : decode cX7_clearText 15 = .ok (.iload_n 1, 1) := by decide +kernel
theorem dX7_clearText_16 : decode cX7_clearText 16 = .ok (.ireturn, 1) := by decide +kernel
theorem dX7_undo_0 : decode cX7_undo 0 = .ok (.aload_n 0, 1) := by decide +kernel
theorem dX7_undo_1 : decode cX7_undo 1 = .ok (.getfield 27, 3) := by decide +kernel
theorem dX7_undo_4 : decode cX7_undo 4 = .ok (.getfield 152, 3) := by decide +kernel
theorem dX7_undo_7 : decode cX7_undo 7 = .ok (.ifCond .ne 6, 3) := by decide +kernel
theorem dX7_undo_10 : decode cX7_undo 10 = .ok (.bipush (-5), 2) := by decide +kernel
theorem dX7_undo_12 : decode cX7_undo 12 = .ok (.ireturn, 1) := by decide +kernel
theorem dX7_undo_13 : decode cX7_undo 13 = .ok (.aload_n 0, 1) := by decide +kernel
theorem dX7_undo_14 : decode cX7_undo 14 = .ok (.getfield 27, 3) := by decide +kernel
theorem dX7_undo_17 : decode cX7_undo 17 = .ok (.aload_n 0, 1) := by decide +kernel
theorem dX7_undo_18 : decode cX7_undo 18 = .ok (.getfield 15, 3) := by decide +kernel
theorem dX7_undo_21 : decode cX7_undo 21 = .ok (.invokevirtual 155, 3) := by decide +kernel
theorem dX7_undo_24 : decode cX7_undo 24 = .ok (.aload_n 0, 1) := by decide +kernel
theorem dX7_undo_25 : decode cX7_undo 25 = .ok (.getfield 27, 3) := by decide +kernel
theorem dX7_undo_28 : decode cX7_undo 28 = .ok (.getfield 152, 3) := by decide +kernel
theorem dX7_undo_31 : decode cX7_undo 31 = .ok (.ireturn, 1) := by decide +kernel
theorem dX7_keep_0 : decode cX7_keep 0 = .ok (.aload_n 0, 1) := by decide +kernel
theorem dX7_keep_1 : decode cX7_keep 1 = .ok (.getfield 21, 3) := by decide +kernel
theorem dX7_keep_4 : decode cX7_keep 4 = .ok (.aload_n 0, 1) := by decide +kernel
theorem dX7_keep_5 : decode cX7_keep 5 = .ok (.getfield 15, 3) := by decide +kernel
theorem dX7_keep_8 : decode cX7_keep 8 = .ok (.invokevirtual 158, 3) := by decide +kernel
theorem dX7_keep_11 : decode cX7_keep 11 = .ok (.aload_n 0, 1) := by decide +kernel
theorem dX7_keep_12 : decode cX7_keep 12 = .ok (.iconst 1, 1) := by decide +kernel
theorem dX7_keep_13 : decode cX7_keep 13 = .ok (.putfield 161, 3) := by decide +kernel
theorem dX7_keep_16 : decode cX7_keep 16 = .ok (.aload_n 0, 1) := by decide +kernel
theorem dX7_keep_17 : decode cX7_keep 17 = .ok (.getfield 15, 3) := by decide +kernel
theorem dX7_keep_20 : decode cX7_keep 20 = .ok (.getfield 124, 3) := by decide +kernel
theorem dX7_keep_23 : decode cX7_keep 23 = .ok (.ireturn, 1) := by decide +kernel
theorem dX7_restore_0 : decode cX7_restore 0 = .ok (.aload_n 0, 1) := by decide +kernel
theorem dX7_restore_1 : decode cX7_restore 1 = .ok (.getfield 161, 3) := by decide +kernel
theorem dX7_restore_4 : decode cX7_restore 4 = .ok (.ifCond .ne 6, 3) := by decide +kernel
theorem dX7_restore_7 : decode cX7_restore 7 = .ok (.bipush (-5), 2) := by decide +kernel
theorem dX7_restore_9 : decode cX7_restore 9 = .ok (.ireturn, 1) := by decide +kernel
theorem dX7_restore_10 : decode cX7_restore 10 = .ok (.aload_n 0, 1) := by decide +kernel
theorem dX7_restore_11 : decode cX7_restore 11 = .ok (.getfield 27, 3) := by decide +kernel
theorem dX7_restore_14 : decode cX7_restore 14 = .ok (.aload_n 0, 1) := by decide +kernel
theorem dX7_restore_15 : decode cX7_restore 15 = .ok (.getfield 15, 3) := by decide +kernel
theorem dX7_restore_18 : decode cX7_restore 18 = .ok (.invokevirtual 81, 3) := by decide +kernel
theorem dX7_restore_21 : decode cX7_restore 21 = .ok (.aload_n 0, 1) := by decide +kernel
theorem dX7_restore_22 : decode cX7_restore 22 = .ok (.getfield 15, 3) := by decide +kernel
theorem dX7_restore_25 : decode cX7_restore 25 = .ok (.aload_n 0, 1) := by decide +kernel
theorem dX7_restore_26 : decode cX7_restore 26 = .ok (.getfield 21, 3) := by decide +kernel
theorem dX7_restore_29 : decode cX7_restore 29 = .ok (.invokevirtual 158, 3) := by decide +kernel
theorem dX7_restore_32 : decode cX7_restore 32 = .ok (.aload_n 0, 1) := by decide +kernel
theorem dX7_restore_33 : decode cX7_restore 33 = .ok (.getfield 15, 3) := by decide +kernel
theorem dX7_restore_36 : decode cX7_restore 36 = .ok (.getfield 124, 3) := by decide +kernel
theorem dX7_restore_39 : decode cX7_restore 39 = .ok (.ireturn, 1) := by decide +kernel
theorem dX7_weight_0 : decode cX7_weight 0 = .ok (.iload_n 1, 1) := by decide +kernel
theorem dX7_weight_1 : decode cX7_weight 1 = .ok (.invokestatic 65, 3) := by decide +kernel
theorem dX7_weight_4 : decode cX7_weight 4 = .ok (.ifCond .ne 6, 3) := by decide +kernel
theorem dX7_weight_7 : decode cX7_weight 7 = .ok (.bipush (-2), 2) := by decide +kernel
theorem dX7_weight_9 : decode cX7_weight 9 = .ok (.ireturn, 1) := by decide +kernel
theorem dX7_weight_10 : decode cX7_weight 10 = .ok (.aload_n 0, 1) := by decide +kernel
theorem dX7_weight_11 : decode cX7_weight 11 = .ok (.getfield 15, 3) := by decide +kernel
theorem dX7_weight_14 : decode cX7_weight 14 = .ok (.iload_n 1, 1) := by decide +kernel
theorem dX7_weight_15 : decode cX7_weight 15 = .ok (.iload_n 2, 1) := by decide +kernel
theorem dX7_weight_16 : decode cX7_weight 16 = .ok (.iload_n 3, 1) := by decide +kernel
theorem dX7_weight_17 : decode cX7_weight 17 = .ok (.invokevirtual 69, 3) := by decide +kernel
theorem dX7_weight_20 : decode cX7_weight 20 = .ok (.ifCond .ne 5, 3) := by decide +kernel
theorem dX7_weight_23 : decode cX7_weight 23 = .ok (.iconst (-1), 1) := by decide +kernel
theorem dX7_weight_24 : decode cX7_weight 24 = .ok (.ireturn, 1) := by decide +kernel
theorem dX7_weight_25 : decode cX7_weight 25 = .ok (.iload 4, 2) := by decide +kernel
theorem dX7_weight_27 : decode cX7_weight 27 = .ok (.ifCond .eq 16, 3) := by decide +kernel
theorem dX7_weight_30 : decode cX7_weight 30 = .ok (.aload_n 0, 1) := by decide +kernel
theorem dX7_weight_31 : decode cX7_weight 31 = .ok (.getfield 15, 3) := by decide +kernel
theorem dX7_weight_34 : decode cX7_weight 34 = .ok (.iload_n 1, 1) := by decide +kernel
theorem dX7_weight_35 : decode cX7_weight 35 = .ok (.iload_n 2, 1) := by decide +kernel
theorem dX7_weight_36 : decode cX7_weight 36 = .ok (.iload_n 3, 1) := by decide +kernel
theorem dX7_weight_37 : decode cX7_weight 37 = .ok (.invokevirtual 165, 3) := by decide +kernel
theorem dX7_weight_40 : decode cX7_weight 40 = .ok (.goto 17, 3) := by decide +kernel
theorem dX7_weight_43 : decode cX7_weight 43 = .ok (.aload_n 0, 1) := by decide +kernel
theorem dX7_weight_44 : decode cX7_weight 44 = .ok (.getfield 15, 3) := by decide +kernel
theorem dX7_weight_47 : decode cX7_weight 47 = .ok (.getfield 77, 3) := by decide +kernel
theorem dX7_weight_50 : decode cX7_weight 50 = .ok (.iload_n 1, 1) := by decide +kernel
theorem dX7_weight_51 : decode cX7_weight 51 = .ok (.iload_n 2, 1) := by decide +kernel
theorem dX7_weight_52 : decode cX7_weight 52 = .ok (.iload_n 3, 1) := by decide +kernel
theorem dX7_weight_53 : decode cX7_weight 53 = .ok (.invokestatic 73, 3) := by decide +kernel
theorem dX7_weight_56 : decode cX7_weight 56 = .ok (.iaload, 1) := by decide +kernel
theorem dX7_weight_57 : decode cX7_weight 57 = .ok (.ireturn, 1) := by decide +kernel
theorem dX7_sign_0 : decode cX7_sign 0 = .ok (.aload_n 0, 1) := by decide +kernel
theorem dX7_sign_1 : decode cX7_sign 1 = .ok (.getfield 15, 3) := by decide +kernel
theorem dX7_sign_4 : decode cX7_sign 4 = .ok (.iload_n 1, 1) := by decide +kernel
theorem dX7_sign_5 : decode cX7_sign 5 = .ok (.iload_n 2, 1) := by decide +kernel
theorem dX7_sign_6 : decode cX7_sign 6 = .ok (.invokevirtual 168, 3) := by decide +kernel
theorem dX7_sign_9 : decode cX7_sign 9 = .ok (.ifCond .eq 15, 3) := by decide +kernel
theorem dX7_sign_12 : decode cX7_sign 12 = .ok (.aload_n 0, 1) := by decide +kernel
theorem dX7_sign_13 : decode cX7_sign 13 = .ok (.getfield 15, 3) := by decide +kernel
theorem dX7_sign_16 : decode cX7_sign 16 = .ok (.iload_n 1, 1) := by decide +kernel
theorem dX7_sign_17 : decode cX7_sign 17 = .ok (.iload_n 2, 1) := by decide +kernel
theorem dX7_sign_18 : decode cX7_sign 18 = .ok (.invokevirtual 172, 3) := by decide +kernel
theorem dX7_sign_21 : decode cX7_sign 21 = .ok (.goto 4, 3) := by decide +kernel
theorem dX7_sign_24 : decode cX7_sign 24 = .ok (.iconst (-1), 1) := by decide +kernel
theorem dX7_sign_25 : decode cX7_sign 25 = .ok (.ireturn, 1) := by decide +kernel
theorem dX7_ofSample_0 : decode cX7_ofSample 0 = .ok (.aload_n 0, 1) := by decide +kernel
theorem dX7_ofSample_1 : decode cX7_ofSample 1 = .ok (.getfield 15, 3) := by decide +kernel
theorem dX7_ofSample_4 : decode cX7_ofSample 4 = .ok (.iload_n 1, 1) := by decide +kernel
theorem dX7_ofSample_5 : decode cX7_ofSample 5 = .ok (.invokevirtual 129, 3) := by decide +kernel
theorem dX7_ofSample_8 : decode cX7_ofSample 8 = .ok (.ifCond .ne 7, 3) := by decide +kernel
theorem dX7_ofSample_11 : decode cX7_ofSample 11 = .ok (.ldc2_w 175, 3) := by decide +kernel
theorem dX7_ofSample_14 : decode cX7_ofSample 14 = .ok (.lreturn, 1) := by decide +kernel
theorem dX7_ofSample_15 : decode cX7_ofSample 15 = .ok (.iload_n 2, 1) := by decide +kernel
theorem dX7_ofSample_16 : decode cX7_ofSample 16 = .ok (.tableswitch 77 0 2 #[28, 44, 61], 28) := by decide +kernel
theorem dX7_ofSample_44 : decode cX7_ofSample 44 = .ok (.aload_n 0, 1) := by decide +kernel
theorem dX7_ofSample_45 : decode cX7_ofSample 45 = .ok (.getfield 38, 3) := by decide +kernel
theorem dX7_ofSample_48 : decode cX7_ofSample 48 = .ok (.iload_n 1, 1) := by decide +kernel
theorem dX7_ofSample_49 : decode cX7_ofSample 49 = .ok (.invokevirtual 177, 3) := by decide +kernel
theorem dX7_ofSample_52 : decode cX7_ofSample 52 = .ok (.aload_n 0, 1) := by decide +kernel
theorem dX7_ofSample_53 : decode cX7_ofSample 53 = .ok (.getfield 38, 3) := by decide +kernel
theorem dX7_ofSample_56 : decode cX7_ofSample 56 = .ok (.getfield 180, 3) := by decide +kernel
theorem dX7_ofSample_59 : decode cX7_ofSample 59 = .ok (.lreturn, 1) := by decide +kernel
theorem dX7_ofSample_60 : decode cX7_ofSample 60 = .ok (.aload_n 0, 1) := by decide +kernel
theorem dX7_ofSample_61 : decode cX7_ofSample 61 = .ok (.getfield 52, 3) := by decide +kernel
theorem dX7_ofSample_64 : decode cX7_ofSample 64 = .ok (.iload_n 1, 1) := by decide +kernel
theorem dX7_ofSample_65 : decode cX7_ofSample 65 = .ok (.invokevirtual 184, 3) := by decide +kernel
theorem dX7_ofSample_68 : decode cX7_ofSample 68 = .ok (.aload_n 0, 1) := by decide +kernel
theorem dX7_ofSample_69 : decode cX7_ofSample 69 = .ok (.getfield 52, 3) := by decide +kernel
theorem dX7_ofSample_72 : decode cX7_ofSample 72 = .ok (.getfield 185, 3) := by decide +kernel
theorem dX7_ofSample_75 : decode cX7_ofSample 75 = .ok (.i2l, 1) := by decide +kernel
theorem dX7_ofSample_76 : decode cX7_ofSample 76 = .ok (.lreturn, 1) := by decide +kernel
theorem dX7_ofSample_77 : decode cX7_ofSample 77 = .ok (.aload_n 0, 1) := by decide +kernel
theorem dX7_ofSample_78 : decode cX7_ofSample 78 = .ok (.getfield 45, 3) := by decide +kernel
theorem dX7_ofSample_81 : decode cX7_ofSample 81 = .ok (.iload_n 1, 1) := by decide +kernel
theorem dX7_ofSample_82 : decode cX7_ofSample 82 = .ok (.invokevirtual 186, 3) := by decide +kernel
theorem dX7_ofSample_85 : decode cX7_ofSample 85 = .ok (.aload_n 0, 1) := by decide +kernel
theorem dX7_ofSample_86 : decode cX7_ofSample 86 = .ok (.getfield 45, 3) := by decide +kernel
theorem dX7_ofSample_89 : decode cX7_ofSample 89 = .ok (.getfield 187, 3) := by decide +kernel
theorem dX7_ofSample_92 : decode cX7_ofSample 92 = .ok (.lreturn, 1) := by decide +kernel
theorem dX7_ofSample_93 : decode cX7_ofSample 93 = .ok (.ldc2_w 190, 3) := by decide +kernel
theorem dX7_ofSample_96 : decode cX7_ofSample 96 = .ok (.lreturn, 1) := by decide +kernel
theorem dX7_best_0 : decode cX7_best 0 = .ok (.aload_n 0, 1) := by decide +kernel
theorem dX7_best_1 : decode cX7_best 1 = .ok (.getfield 15, 3) := by decide +kernel
theorem dX7_best_4 : decode cX7_best 4 = .ok (.iload_n 1, 1) := by decide +kernel
theorem dX7_best_5 : decode cX7_best 5 = .ok (.iload_n 2, 1) := by decide +kernel
theorem dX7_best_6 : decode cX7_best 6 = .ok (.invokevirtual 168, 3) := by decide +kernel
theorem dX7_best_9 : decode cX7_best 9 = .ok (.ifCond .ne 5, 3) := by decide +kernel
theorem dX7_best_12 : decode cX7_best 12 = .ok (.iconst (-1), 1) := by decide +kernel
theorem dX7_best_13 : decode cX7_best 13 = .ok (.ireturn, 1) := by decide +kernel
theorem dX7_best_14 : decode cX7_best 14 = .ok (.aload_n 0, 1) := by decide +kernel
theorem dX7_best_15 : decode cX7_best 15 = .ok (.getfield 45, 3) := by decide +kernel
theorem dX7_best_18 : decode cX7_best 18 = .ok (.iload_n 1, 1) := by decide +kernel
theorem dX7_best_19 : decode cX7_best 19 = .ok (.invokevirtual 186, 3) := by decide +kernel
theorem dX7_best_22 : decode cX7_best 22 = .ok (.aload_n 0, 1) := by decide +kernel
theorem dX7_best_23 : decode cX7_best 23 = .ok (.getfield 45, 3) := by decide +kernel
theorem dX7_best_26 : decode cX7_best 26 = .ok (.getfield 187, 3) := by decide +kernel
theorem dX7_best_29 : decode cX7_best 29 = .ok (.lconst 0, 1) := by decide +kernel
theorem dX7_best_30 : decode cX7_best 30 = .ok (.lcmp, 1) := by decide +kernel
theorem dX7_best_31 : decode cX7_best 31 = .ok (.ifCond .le 15, 3) := by decide +kernel
theorem dX7_best_34 : decode cX7_best 34 = .ok (.aload_n 0, 1) := by decide +kernel
theorem dX7_best_35 : decode cX7_best 35 = .ok (.getfield 45, 3) := by decide +kernel
theorem dX7_best_38 : decode cX7_best 38 = .ok (.getfield 192, 3) := by decide +kernel
theorem dX7_best_41 : decode cX7_best 41 = .ok (.iload_n 2, 1) := by decide +kernel
theorem dX7_best_42 : decode cX7_best 42 = .ok (.iaload, 1) := by decide +kernel
theorem dX7_best_43 : decode cX7_best 43 = .ok (.goto 5, 3) := by decide +kernel
theorem dX7_best_46 : decode cX7_best 46 = .ok (.bipush (-5), 2) := by decide +kernel
theorem dX7_best_48 : decode cX7_best 48 = .ok (.ireturn, 1) := by decide +kernel
theorem dX7_share_0 : decode cX7_share 0 = .ok (.aload_n 0, 1) := by decide +kernel
theorem dX7_share_1 : decode cX7_share 1 = .ok (.getfield 15, 3) := by decide +kernel
theorem dX7_share_4 : decode cX7_share 4 = .ok (.iload_n 1, 1) := by decide +kernel
theorem dX7_share_5 : decode cX7_share 5 = .ok (.iload_n 2, 1) := by decide +kernel
theorem dX7_share_6 : decode cX7_share 6 = .ok (.invokevirtual 168, 3) := by decide +kernel
theorem dX7_share_9 : decode cX7_share 9 = .ok (.ifCond .eq 14, 3) := by decide +kernel
theorem dX7_share_12 : decode cX7_share 12 = .ok (.aload_n 0, 1) := by decide +kernel
theorem dX7_share_13 : decode cX7_share 13 = .ok (.getfield 15, 3) := by decide +kernel
theorem dX7_share_16 : decode cX7_share 16 = .ok (.iload_n 3, 1) := by decide +kernel
theorem dX7_share_17 : decode cX7_share 17 = .ok (.invokevirtual 91, 3) := by decide +kernel
theorem dX7_share_20 : decode cX7_share 20 = .ok (.ifCond .ne 5, 3) := by decide +kernel
theorem dX7_share_23 : decode cX7_share 23 = .ok (.iconst (-1), 1) := by decide +kernel
theorem dX7_share_24 : decode cX7_share 24 = .ok (.ireturn, 1) := by decide +kernel
theorem dX7_share_25 : decode cX7_share 25 = .ok (.aload_n 0, 1) := by decide +kernel
theorem dX7_share_26 : decode cX7_share 26 = .ok (.getfield 38, 3) := by decide +kernel
theorem dX7_share_29 : decode cX7_share 29 = .ok (.iload_n 1, 1) := by decide +kernel
theorem dX7_share_30 : decode cX7_share 30 = .ok (.invokevirtual 177, 3) := by decide +kernel
theorem dX7_share_33 : decode cX7_share 33 = .ok (.aload_n 0, 1) := by decide +kernel
theorem dX7_share_34 : decode cX7_share 34 = .ok (.getfield 38, 3) := by decide +kernel
theorem dX7_share_37 : decode cX7_share 37 = .ok (.getfield 180, 3) := by decide +kernel
theorem dX7_share_40 : decode cX7_share 40 = .ok (.lconst 0, 1) := by decide +kernel
theorem dX7_share_41 : decode cX7_share 41 = .ok (.lcmp, 1) := by decide +kernel
theorem dX7_share_42 : decode cX7_share 42 = .ok (.ifCond .le 25, 3) := by decide +kernel
theorem dX7_share_45 : decode cX7_share 45 = .ok (.aload_n 0, 1) := by decide +kernel
theorem dX7_share_46 : decode cX7_share 46 = .ok (.getfield 38, 3) := by decide +kernel
theorem dX7_share_49 : decode cX7_share 49 = .ok (.iload_n 2, 1) := by decide +kernel
theorem dX7_share_50 : decode cX7_share 50 = .ok (.iload_n 3, 1) := by decide +kernel
theorem dX7_share_51 : decode cX7_share 51 = .ok (.invokevirtual 195, 3) := by decide +kernel
theorem dX7_share_54 : decode cX7_share 54 = .ok (.aload_n 0, 1) := by decide +kernel
theorem dX7_share_55 : decode cX7_share 55 = .ok (.getfield 38, 3) := by decide +kernel
theorem dX7_share_58 : decode cX7_share 58 = .ok (.getfield 180, 3) := by decide +kernel
theorem dX7_share_61 : decode cX7_share 61 = .ok (.invokestatic 199, 3) := by decide +kernel
theorem dX7_share_64 : decode cX7_share 64 = .ok (.goto 5, 3) := by decide +kernel
theorem dX7_share_67 : decode cX7_share 67 = .ok (.bipush (-5), 2) := by decide +kernel
theorem dX7_share_69 : decode cX7_share 69 = .ok (.ireturn, 1) := by decide +kernel
theorem dX7_likeliest_0 : decode cX7_likeliest 0 = .ok (.aload_n 0, 1) := by decide +kernel
theorem dX7_likeliest_1 : decode cX7_likeliest 1 = .ok (.getfield 15, 3) := by decide +kernel
theorem dX7_likeliest_4 : decode cX7_likeliest 4 = .ok (.iload_n 1, 1) := by decide +kernel
theorem dX7_likeliest_5 : decode cX7_likeliest 5 = .ok (.iload_n 2, 1) := by decide +kernel
theorem dX7_likeliest_6 : decode cX7_likeliest 6 = .ok (.invokevirtual 168, 3) := by decide +kernel
theorem dX7_likeliest_9 : decode cX7_likeliest 9 = .ok (.ifCond .ne 5, 3) := by decide +kernel
theorem dX7_likeliest_12 : decode cX7_likeliest 12 = .ok (.iconst (-1), 1) := by decide +kernel
theorem dX7_likeliest_13 : decode cX7_likeliest 13 = .ok (.ireturn, 1) := by decide +kernel
theorem dX7_likeliest_14 : decode cX7_likeliest 14 = .ok (.aload_n 0, 1) := by decide +kernel
theorem dX7_likeliest_15 : decode cX7_likeliest 15 = .ok (.getfield 38, 3) := by decide +kernel
theorem dX7_likeliest_18 : decode cX7_likeliest 18 = .ok (.iload_n 1, 1) := by decide +kernel
theorem dX7_likeliest_19 : decode cX7_likeliest 19 = .ok (.invokevirtual 177, 3) := by decide +kernel
theorem dX7_likeliest_22 : decode cX7_likeliest 22 = .ok (.aload_n 0, 1) := by decide +kernel
theorem dX7_likeliest_23 : decode cX7_likeliest 23 = .ok (.getfield 38, 3) := by decide +kernel
theorem dX7_likeliest_26 : decode cX7_likeliest 26 = .ok (.getfield 180, 3) := by decide +kernel
theorem dX7_likeliest_29 : decode cX7_likeliest 29 = .ok (.lconst 0, 1) := by decide +kernel
theorem dX7_likeliest_30 : decode cX7_likeliest 30 = .ok (.lcmp, 1) := by decide +kernel
theorem dX7_likeliest_31 : decode cX7_likeliest 31 = .ok (.ifCond .le 14, 3) := by decide +kernel
theorem dX7_likeliest_34 : decode cX7_likeliest 34 = .ok (.aload_n 0, 1) := by decide +kernel
theorem dX7_likeliest_35 : decode cX7_likeliest 35 = .ok (.getfield 38, 3) := by decide +kernel
theorem dX7_likeliest_38 : decode cX7_likeliest 38 = .ok (.iload_n 2, 1) := by decide +kernel
theorem dX7_likeliest_39 : decode cX7_likeliest 39 = .ok (.invokevirtual 203, 3) := by decide +kernel
theorem dX7_likeliest_42 : decode cX7_likeliest 42 = .ok (.goto 5, 3) := by decide +kernel
theorem dX7_likeliest_45 : decode cX7_likeliest 45 = .ok (.bipush (-5), 2) := by decide +kernel
theorem dX7_likeliest_47 : decode cX7_likeliest 47 = .ok (.ireturn, 1) := by decide +kernel
theorem dX7_doubtful_0 : decode cX7_doubtful 0 = .ok (.aload_n 0, 1) := by decide +kernel
theorem dX7_doubtful_1 : decode cX7_doubtful 1 = .ok (.getfield 15, 3) := by decide +kernel
theorem dX7_doubtful_4 : decode cX7_doubtful 4 = .ok (.iload_n 1, 1) := by decide +kernel
theorem dX7_doubtful_5 : decode cX7_doubtful 5 = .ok (.invokevirtual 129, 3) := by decide +kernel
theorem dX7_doubtful_8 : decode cX7_doubtful 8 = .ok (.ifCond .ne 5, 3) := by decide +kernel
theorem dX7_doubtful_11 : decode cX7_doubtful 11 = .ok (.iconst (-1), 1) := by decide +kernel
theorem dX7_doubtful_12 : decode cX7_doubtful 12 = .ok (.ireturn, 1) := by decide +kernel
theorem dX7_doubtful_13 : decode cX7_doubtful 13 = .ok (.aload_n 0, 1) := by decide +kernel
theorem dX7_doubtful_14 : decode cX7_doubtful 14 = .ok (.getfield 38, 3) := by decide +kernel
theorem dX7_doubtful_17 : decode cX7_doubtful 17 = .ok (.iload_n 1, 1) := by decide +kernel
theorem dX7_doubtful_18 : decode cX7_doubtful 18 = .ok (.invokevirtual 177, 3) := by decide +kernel
theorem dX7_doubtful_21 : decode cX7_doubtful 21 = .ok (.aload_n 0, 1) := by decide +kernel
theorem dX7_doubtful_22 : decode cX7_doubtful 22 = .ok (.getfield 38, 3) := by decide +kernel
theorem dX7_doubtful_25 : decode cX7_doubtful 25 = .ok (.invokevirtual 207, 3) := by decide +kernel
theorem dX7_doubtful_28 : decode cX7_doubtful 28 = .ok (.ireturn, 1) := by decide +kernel
theorem dX7_run_0 : decode cX7_run 0 = .ok (.aload_n 0, 1) := by decide +kernel
theorem dX7_run_1 : decode cX7_run 1 = .ok (.getfield 15, 3) := by decide +kernel
theorem dX7_run_4 : decode cX7_run 4 = .ok (.iload_n 1, 1) := by decide +kernel
theorem dX7_run_5 : decode cX7_run 5 = .ok (.iload_n 3, 1) := by decide +kernel
theorem dX7_run_6 : decode cX7_run 6 = .ok (.invokevirtual 168, 3) := by decide +kernel
theorem dX7_run_9 : decode cX7_run 9 = .ok (.ifCond .ne 5, 3) := by decide +kernel
theorem dX7_run_12 : decode cX7_run 12 = .ok (.iconst (-1), 1) := by decide +kernel
theorem dX7_run_13 : decode cX7_run 13 = .ok (.ireturn, 1) := by decide +kernel
theorem dX7_run_14 : decode cX7_run 14 = .ok (.iload_n 2, 1) := by decide +kernel
theorem dX7_run_15 : decode cX7_run 15 = .ok (.ifCond .ge 6, 3) := by decide +kernel
theorem dX7_run_18 : decode cX7_run 18 = .ok (.bipush (-2), 2) := by decide +kernel
theorem dX7_run_20 : decode cX7_run 20 = .ok (.ireturn, 1) := by decide +kernel
theorem dX7_run_21 : decode cX7_run 21 = .ok (.aload_n 0, 1) := by decide +kernel
theorem dX7_run_22 : decode cX7_run 22 = .ok (.getfield 52, 3) := by decide +kernel
theorem dX7_run_25 : decode cX7_run 25 = .ok (.iload_n 1, 1) := by decide +kernel
theorem dX7_run_26 : decode cX7_run 26 = .ok (.invokevirtual 184, 3) := by decide +kernel
theorem dX7_run_29 : decode cX7_run 29 = .ok (.iload_n 2, 1) := by decide +kernel
theorem dX7_run_30 : decode cX7_run 30 = .ok (.aload_n 0, 1) := by decide +kernel
theorem dX7_run_31 : decode cX7_run 31 = .ok (.getfield 52, 3) := by decide +kernel
theorem dX7_run_34 : decode cX7_run 34 = .ok (.getfield 185, 3) := by decide +kernel
theorem dX7_run_37 : decode cX7_run 37 = .ok (.if_icmp .ge 15, 3) := by decide +kernel
theorem dX7_run_40 : decode cX7_run 40 = .ok (.aload_n 0, 1) := by decide +kernel
theorem dX7_run_41 : decode cX7_run 41 = .ok (.getfield 52, 3) := by decide +kernel
theorem dX7_run_44 : decode cX7_run 44 = .ok (.iload_n 2, 1) := by decide +kernel
theorem dX7_run_45 : decode cX7_run 45 = .ok (.iload_n 3, 1) := by decide +kernel
theorem dX7_run_46 : decode cX7_run 46 = .ok (.invokevirtual 210, 3) := by decide +kernel
theorem dX7_run_49 : decode cX7_run 49 = .ok (.goto 5, 3) := by decide +kernel
theorem dX7_run_52 : decode cX7_run 52 = .ok (.bipush (-5), 2) := by decide +kernel
theorem dX7_run_54 : decode cX7_run 54 = .ok (.ireturn, 1) := by decide +kernel
theorem dX7_next_0 : decode cX7_next 0 = .ok (.aload_n 0, 1) := by decide +kernel
theorem dX7_next_1 : decode cX7_next 1 = .ok (.getfield 15, 3) := by decide +kernel
theorem dX7_next_4 : decode cX7_next 4 = .ok (.iload_n 1, 1) := by decide +kernel
theorem dX7_next_5 : decode cX7_next 5 = .ok (.invokevirtual 129, 3) := by decide +kernel
theorem dX7_next_8 : decode cX7_next 8 = .ok (.ifCond .eq 12, 3) := by decide +kernel
theorem dX7_next_11 : decode cX7_next 11 = .ok (.iload_n 2, 1) := by decide +kernel
theorem dX7_next_12 : decode cX7_next 12 = .ok (.ifCond .lt 8, 3) := by decide +kernel
theorem dX7_next_15 : decode cX7_next 15 = .ok (.iload_n 2, 1) := by decide +kernel
theorem dX7_next_16 : decode cX7_next 16 = .ok (.iconst 3, 1) := by decide +kernel
theorem dX7_next_17 : decode cX7_next 17 = .ok (.if_icmp .lt 5, 3) := by decide +kernel
theorem dX7_next_20 : decode cX7_next 20 = .ok (.iconst (-1), 1) := by decide +kernel
theorem dX7_next_21 : decode cX7_next 21 = .ok (.ireturn, 1) := by decide +kernel
theorem dX7_next_22 : decode cX7_next 22 = .ok (.aload_n 0, 1) := by decide +kernel
theorem dX7_next_23 : decode cX7_next 23 = .ok (.getfield 38, 3) := by decide +kernel
theorem dX7_next_26 : decode cX7_next 26 = .ok (.iload_n 1, 1) := by decide +kernel
theorem dX7_next_27 : decode cX7_next 27 = .ok (.invokevirtual 177, 3) := by decide +kernel
theorem dX7_next_30 : decode cX7_next 30 = .ok (.lconst 0, 1) := by decide +kernel
theorem dX7_next_31 : decode cX7_next 31 = .ok (.lstore_n 3, 1) := by decide +kernel
theorem dX7_next_32 : decode cX7_next 32 = .ok (.iconst 0, 1) := by decide +kernel
theorem dX7_next_33 : decode cX7_next 33 = .ok (.istore 5, 2) := by decide +kernel
theorem dX7_next_35 : decode cX7_next 35 = .ok (.iload 5, 2) := by decide +kernel
theorem dX7_next_37 : decode cX7_next 37 = .ok (.iconst 3, 1) := by decide +kernel
theorem dX7_next_38 : decode cX7_next 38 = .ok (.if_icmp .ge 21, 3) := by decide +kernel
theorem dX7_next_41 : decode cX7_next 41 = .ok (.lload_n 3, 1) := by decide +kernel
theorem dX7_next_42 : decode cX7_next 42 = .ok (.aload_n 0, 1) := by decide +kernel
theorem dX7_next_43 : decode cX7_next 43 = .ok (.getfield 38, 3) := by decide +kernel
theorem dX7_next_46 : decode cX7_next 46 = .ok (.iload 5, 2) := by decide +kernel
theorem dX7_next_48 : decode cX7_next 48 = .ok (.invokevirtual 213, 3) := by decide +kernel
theorem dX7_next_51 : decode cX7_next 51 = .ok (.ladd, 1) := by decide +kernel
theorem dX7_next_52 : decode cX7_next 52 = .ok (.lstore_n 3, 1) := by decide +kernel
theorem dX7_next_53 : decode cX7_next 53 = .ok (.iinc 5 1, 3) := by decide +kernel
theorem dX7_next_56 : decode cX7_next 56 = .ok (.goto (-21), 3) := by decide +kernel
theorem dX7_next_59 : decode cX7_next 59 = .ok (.lload_n 3, 1) := by decide +kernel
theorem dX7_next_60 : decode cX7_next 60 = .ok (.lconst 0, 1) := by decide +kernel
theorem dX7_next_61 : decode cX7_next 61 = .ok (.lcmp, 1) := by decide +kernel
theorem dX7_next_62 : decode cX7_next 62 = .ok (.ifCond .le 18, 3) := by decide +kernel
theorem dX7_next_65 : decode cX7_next 65 = .ok (.aload_n 0, 1) := by decide +kernel
theorem dX7_next_66 : decode cX7_next 66 = .ok (.getfield 38, 3) := by decide +kernel
theorem dX7_next_69 : decode cX7_next 69 = .ok (.iload_n 2, 1) := by decide +kernel
theorem dX7_next_70 : decode cX7_next 70 = .ok (.invokevirtual 213, 3) := by decide +kernel
theorem dX7_next_73 : decode cX7_next 73 = .ok (.lload_n 3, 1) := by decide +kernel
theorem dX7_next_74 : decode cX7_next 74 = .ok (.invokestatic 199, 3) := by decide +kernel
theorem dX7_next_77 : decode cX7_next 77 = .ok (.goto 5, 3) := by decide +kernel
theorem dX7_next_80 : decode cX7_next 80 = .ok (.bipush (-5), 2) := by decide +kernel
theorem dX7_next_82 : decode cX7_next 82 = .ok (.ireturn, 1) := by decide +kernel
theorem dX7_count_0 : decode cX7_count 0 = .ok (.iload_n 1, 1) := by decide +kernel
theorem dX7_count_1 : decode cX7_count 1 = .ok (.tableswitch 114 0 8 #[51, 59, 67, 75, 83, 88, 93, 98, 106], 51) := by decide +kernel
theorem dX7_count_52 : decode cX7_count 52 = .ok (.aload_n 0, 1) := by decide +kernel
theorem dX7_count_53 : decode cX7_count 53 = .ok (.getfield 15, 3) := by decide +kernel
theorem dX7_count_56 : decode cX7_count 56 = .ok (.getfield 84, 3) := by decide +kernel
theorem dX7_count_59 : decode cX7_count 59 = .ok (.ireturn, 1) := by decide +kernel
theorem dX7_count_60 : decode cX7_count 60 = .ok (.aload_n 0, 1) := by decide +kernel
theorem dX7_count_61 : decode cX7_count 61 = .ok (.getfield 15, 3) := by decide +kernel
theorem dX7_count_64 : decode cX7_count 64 = .ok (.getfield 124, 3) := by decide +kernel
theorem dX7_count_67 : decode cX7_count 67 = .ok (.ireturn, 1) := by decide +kernel
theorem dX7_count_68 : decode cX7_count 68 = .ok (.aload_n 0, 1) := by decide +kernel
theorem dX7_count_69 : decode cX7_count 69 = .ok (.getfield 15, 3) := by decide +kernel
theorem dX7_count_72 : decode cX7_count 72 = .ok (.getfield 114, 3) := by decide +kernel
theorem dX7_count_75 : decode cX7_count 75 = .ok (.ireturn, 1) := by decide +kernel
theorem dX7_count_76 : decode cX7_count 76 = .ok (.aload_n 0, 1) := by decide +kernel
theorem dX7_count_77 : decode cX7_count 77 = .ok (.getfield 15, 3) := by decide +kernel
theorem dX7_count_80 : decode cX7_count 80 = .ok (.invokevirtual 217, 3) := by decide +kernel
theorem dX7_count_83 : decode cX7_count 83 = .ok (.ireturn, 1) := by decide +kernel
theorem dX7_count_84 : decode cX7_count 84 = .ok (.aload_n 0, 1) := by decide +kernel
theorem dX7_count_85 : decode cX7_count 85 = .ok (.invokevirtual 220, 3) := by decide +kernel
theorem dX7_count_88 : decode cX7_count 88 = .ok (.ireturn, 1) := by decide +kernel
theorem dX7_count_89 : decode cX7_count 89 = .ok (.aload_n 0, 1) := by decide +kernel
theorem dX7_count_90 : decode cX7_count 90 = .ok (.invokevirtual 223, 3) := by decide +kernel
theorem dX7_count_93 : decode cX7_count 93 = .ok (.ireturn, 1) := by decide +kernel
theorem dX7_count_94 : decode cX7_count 94 = .ok (.aload_n 0, 1) := by decide +kernel
theorem dX7_count_95 : decode cX7_count 95 = .ok (.invokevirtual 226, 3) := by decide +kernel
theorem dX7_count_98 : decode cX7_count 98 = .ok (.ireturn, 1) := by decide +kernel
theorem dX7_count_99 : decode cX7_count 99 = .ok (.aload_n 0, 1) := by decide +kernel
theorem dX7_count_100 : decode cX7_count 100 = .ok (.getfield 27, 3) := by decide +kernel
theorem dX7_count_103 : decode cX7_count 103 = .ok (.getfield 152, 3) := by decide +kernel
theorem dX7_count_106 : decode cX7_count 106 = .ok (.ireturn, 1) := by decide +kernel
theorem dX7_count_107 : decode cX7_count 107 = .ok (.aload_n 0, 1) := by decide +kernel
theorem dX7_count_108 : decode cX7_count 108 = .ok (.getfield 34, 3) := by decide +kernel
theorem dX7_count_111 : decode cX7_count 111 = .ok (.getfield 142, 3) := by decide +kernel
theorem dX7_count_114 : decode cX7_count 114 = .ok (.ireturn, 1) := by decide +kernel
theorem dX7_count_115 : decode cX7_count 115 = .ok (.bipush (-2), 2) := by decide +kernel
theorem dX7_count_117 : decode cX7_count 117 = .ok (.ireturn, 1) := by decide +kernel
theorem dX7_isKind_0 : decode cX7_isKind 0 = .ok (.iload_n 0, 1) := by decide +kernel
theorem dX7_isKind_1 : decode cX7_isKind 1 = .ok (.ifCond .lt 12, 3) := by decide +kernel
theorem dX7_isKind_4 : decode cX7_isKind 4 = .ok (.iload_n 0, 1) := by decide +kernel
theorem dX7_isKind_5 : decode cX7_isKind 5 = .ok (.iconst 2, 1) := by decide +kernel
theorem dX7_isKind_6 : decode cX7_isKind 6 = .ok (.if_icmp .gt 7, 3) := by decide +kernel
theorem dX7_isKind_9 : decode cX7_isKind 9 = .ok (.iconst 1, 1) := by decide +kernel
theorem dX7_isKind_10 : decode cX7_isKind 10 = .ok (.goto 4, 3) := by decide +kernel
theorem dX7_isKind_13 : decode cX7_isKind 13 = .ok (.iconst 0, 1) := by decide +kernel
theorem dX7_isKind_14 : decode cX7_isKind 14 = .ok (.ireturn, 1) := by decide +kernel
theorem dX7_shareOf_0 : decode cX7_shareOf 0 = .ok (.lload_n 2, 1) := by decide +kernel
theorem dX7_shareOf_1 : decode cX7_shareOf 1 = .ok (.lconst 0, 1) := by decide +kernel
theorem dX7_shareOf_2 : decode cX7_shareOf 2 = .ok (.lcmp, 1) := by decide +kernel
theorem dX7_shareOf_3 : decode cX7_shareOf 3 = .ok (.ifCond .gt 5, 3) := by decide +kernel
theorem dX7_shareOf_6 : decode cX7_shareOf 6 = .ok (.iconst 0, 1) := by decide +kernel
theorem dX7_shareOf_7 : decode cX7_shareOf 7 = .ok (.ireturn, 1) := by decide +kernel
theorem dX7_shareOf_8 : decode cX7_shareOf 8 = .ok (.lload_n 0, 1) := by decide +kernel
theorem dX7_shareOf_9 : decode cX7_shareOf 9 = .ok (.lload_n 2, 1) := by decide +kernel
theorem dX7_shareOf_10 : decode cX7_shareOf 10 = .ok (.ldiv, 1) := by decide +kernel
theorem dX7_shareOf_11 : decode cX7_shareOf 11 = .ok (.lstore 4, 2) := by decide +kernel
theorem dX7_shareOf_13 : decode cX7_shareOf 13 = .ok (.lload_n 0, 1) := by decide +kernel
theorem dX7_shareOf_14 : decode cX7_shareOf 14 = .ok (.lload_n 2, 1) := by decide +kernel
theorem dX7_shareOf_15 : decode cX7_shareOf 15 = .ok (.lrem, 1) := by decide +kernel
theorem dX7_shareOf_16 : decode cX7_shareOf 16 = .ok (.lstore 6, 2) := by decide +kernel
theorem dX7_shareOf_18 : decode cX7_shareOf 18 = .ok (.iconst 1, 1) := by decide +kernel
theorem dX7_shareOf_19 : decode cX7_shareOf 19 = .ok (.istore 8, 2) := by decide +kernel
theorem dX7_shareOf_21 : decode cX7_shareOf 21 = .ok (.iload 8, 2) := by decide +kernel
theorem dX7_shareOf_23 : decode cX7_shareOf 23 = .ok (.sipush 1000, 3) := by decide +kernel
theorem dX7_shareOf_26 : decode cX7_shareOf 26 = .ok (.if_icmp .ge 40, 3) := by decide +kernel
theorem dX7_shareOf_29 : decode cX7_shareOf 29 = .ok (.lload 6, 2) := by decide +kernel
theorem dX7_shareOf_31 : decode cX7_shareOf 31 = .ok (.ldc2_w 229, 3) := by decide +kernel
theorem dX7_shareOf_34 : decode cX7_shareOf 34 = .ok (.lmul, 1) := by decide +kernel
theorem dX7_shareOf_35 : decode cX7_shareOf 35 = .ok (.lstore 6, 2) := by decide +kernel
theorem dX7_shareOf_37 : decode cX7_shareOf 37 = .ok (.lload 4, 2) := by decide +kernel
theorem dX7_shareOf_39 : decode cX7_shareOf 39 = .ok (.ldc2_w 229, 3) := by decide +kernel
theorem dX7_shareOf_42 : decode cX7_shareOf 42 = .ok (.lmul, 1) := by decide +kernel
theorem dX7_shareOf_43 : decode cX7_shareOf 43 = .ok (.lload 6, 2) := by decide +kernel
theorem dX7_shareOf_45 : decode cX7_shareOf 45 = .ok (.lload_n 2, 1) := by decide +kernel
theorem dX7_shareOf_46 : decode cX7_shareOf 46 = .ok (.ldiv, 1) := by decide +kernel
theorem dX7_shareOf_47 : decode cX7_shareOf 47 = .ok (.ladd, 1) := by decide +kernel
theorem dX7_shareOf_48 : decode cX7_shareOf 48 = .ok (.lstore 4, 2) := by decide +kernel
theorem dX7_shareOf_50 : decode cX7_shareOf 50 = .ok (.lload 6, 2) := by decide +kernel
theorem dX7_shareOf_52 : decode cX7_shareOf 52 = .ok (.lload_n 2, 1) := by decide +kernel
theorem dX7_shareOf_53 : decode cX7_shareOf 53 = .ok (.lrem, 1) := by decide +kernel
theorem dX7_shareOf_54 : decode cX7_shareOf 54 = .ok (.lstore 6, 2) := by decide +kernel
theorem dX7_shareOf_56 : decode cX7_shareOf 56 = .ok (.iload 8, 2) := by decide +kernel
theorem dX7_shareOf_58 : decode cX7_shareOf 58 = .ok (.bipush 10, 2) := by decide +kernel
theorem dX7_shareOf_60 : decode cX7_shareOf 60 = .ok (.imul, 1) := by decide +kernel
theorem dX7_shareOf_61 : decode cX7_shareOf 61 = .ok (.istore 8, 2) := by decide +kernel
theorem dX7_shareOf_63 : decode cX7_shareOf 63 = .ok (.goto (-42), 3) := by decide +kernel
theorem dX7_shareOf_66 : decode cX7_shareOf 66 = .ok (.lload 4, 2) := by decide +kernel
theorem dX7_shareOf_68 : decode cX7_shareOf 68 = .ok (.l2i, 1) := by decide +kernel
theorem dX7_shareOf_69 : decode cX7_shareOf 69 = .ok (.ireturn, 1) := by decide +kernel
theorem dX7_allDoubtful_0 : decode cX7_allDoubtful 0 = .ok (.iconst 0, 1) := by decide +kernel
theorem dX7_allDoubtful_1 : decode cX7_allDoubtful 1 = .ok (.istore_n 1, 1) := by decide +kernel
theorem dX7_allDoubtful_2 : decode cX7_allDoubtful 2 = .ok (.iconst 0, 1) := by decide +kernel
theorem dX7_allDoubtful_3 : decode cX7_allDoubtful 3 = .ok (.istore_n 2, 1) := by decide +kernel
theorem dX7_allDoubtful_4 : decode cX7_allDoubtful 4 = .ok (.iload_n 2, 1) := by decide +kernel
theorem dX7_allDoubtful_5 : decode cX7_allDoubtful 5 = .ok (.aload_n 0, 1) := by decide +kernel
theorem dX7_allDoubtful_6 : decode cX7_allDoubtful 6 = .ok (.getfield 15, 3) := by decide +kernel
theorem dX7_allDoubtful_9 : decode cX7_allDoubtful 9 = .ok (.getfield 124, 3) := by decide +kernel
theorem dX7_allDoubtful_12 : decode cX7_allDoubtful 12 = .ok (.if_icmp .ge 30, 3) := by decide +kernel
theorem dX7_allDoubtful_15 : decode cX7_allDoubtful 15 = .ok (.aload_n 0, 1) := by decide +kernel
theorem dX7_allDoubtful_16 : decode cX7_allDoubtful 16 = .ok (.getfield 38, 3) := by decide +kernel
theorem dX7_allDoubtful_19 : decode cX7_allDoubtful 19 = .ok (.iload_n 2, 1) := by decide +kernel
theorem dX7_allDoubtful_20 : decode cX7_allDoubtful 20 = .ok (.invokevirtual 177, 3) := by decide +kernel
theorem dX7_allDoubtful_23 : decode cX7_allDoubtful 23 = .ok (.iload_n 1, 1) := by decide +kernel
theorem dX7_allDoubtful_24 : decode cX7_allDoubtful 24 = .ok (.aload_n 0, 1) := by decide +kernel
theorem dX7_allDoubtful_25 : decode cX7_allDoubtful 25 = .ok (.getfield 38, 3) := by decide +kernel
theorem dX7_allDoubtful_28 : decode cX7_allDoubtful 28 = .ok (.invokevirtual 207, 3) := by decide +kernel
theorem dX7_allDoubtful_31 : decode cX7_allDoubtful 31 = .ok (.invokestatic 231, 3) := by decide +kernel
theorem dX7_allDoubtful_34 : decode cX7_allDoubtful 34 = .ok (.iadd, 1) := by decide +kernel
theorem dX7_allDoubtful_35 : decode cX7_allDoubtful 35 = .ok (.istore_n 1, 1) := by decide +kernel
theorem dX7_allDoubtful_36 : decode cX7_allDoubtful 36 = .ok (.iinc 2 1, 3) := by decide +kernel
theorem dX7_allDoubtful_39 : decode cX7_allDoubtful 39 = .ok (.goto (-35), 3) := by decide +kernel
theorem dX7_allDoubtful_42 : decode cX7_allDoubtful 42 = .ok (.iload_n 1, 1) := by decide +kernel
theorem dX7_allDoubtful_43 : decode cX7_allDoubtful 43 = .ok (.ireturn, 1) := by decide +kernel
theorem dX7_samplesWithoutTotal_0 : decode cX7_samplesWithoutTotal 0 = .ok (.iconst 0, 1) := by decide +kernel
theorem dX7_samplesWithoutTotal_1 : decode cX7_samplesWithoutTotal 1 = .ok (.istore_n 1, 1) := by decide +kernel
theorem dX7_samplesWithoutTotal_2 : decode cX7_samplesWithoutTotal 2 = .ok (.iconst 0, 1) := by decide +kernel
theorem dX7_samplesWithoutTotal_3 : decode cX7_samplesWithoutTotal 3 = .ok (.istore_n 2, 1) := by decide +kernel
theorem dX7_samplesWithoutTotal_4 : decode cX7_samplesWithoutTotal 4 = .ok (.iload_n 2, 1) := by decide +kernel
theorem dX7_samplesWithoutTotal_5 : decode cX7_samplesWithoutTotal 5 = .ok (.aload_n 0, 1) := by decide +kernel
theorem dX7_samplesWithoutTotal_6 : decode cX7_samplesWithoutTotal 6 = .ok (.getfield 15, 3) := by decide +kernel
theorem dX7_samplesWithoutTotal_9 : decode cX7_samplesWithoutTotal 9 = .ok (.getfield 124, 3) := by decide +kernel
theorem dX7_samplesWithoutTotal_12 : decode cX7_samplesWithoutTotal 12 = .ok (.if_icmp .ge 32, 3) := by decide +kernel
theorem dX7_samplesWithoutTotal_15 : decode cX7_samplesWithoutTotal 15 = .ok (.aload_n 0, 1) := by decide +kernel
theorem dX7_samplesWithoutTotal_16 : decode cX7_samplesWithoutTotal 16 = .ok (.getfield 38, 3) := by decide +kernel
theorem dX7_samplesWithoutTotal_19 : decode cX7_samplesWithoutTotal 19 = .ok (.iload_n 2, 1) := by decide +kernel
theorem dX7_samplesWithoutTotal_20 : decode cX7_samplesWithoutTotal 20 = .ok (.invokevirtual 177, 3) := by decide +kernel
theorem dX7_samplesWithoutTotal_23 : decode cX7_samplesWithoutTotal 23 = .ok (.aload_n 0, 1) := by decide +kernel
theorem dX7_samplesWithoutTotal_24 : decode cX7_samplesWithoutTotal 24 = .ok (.getfield 38, 3) := by decide +kernel
theorem dX7_samplesWithoutTotal_27 : decode cX7_samplesWithoutTotal 27 = .ok (.getfield 180, 3) := by decide +kernel
theorem dX7_samplesWithoutTotal_30 : decode cX7_samplesWithoutTotal 30 = .ok (.lconst 0, 1) := by decide +kernel
theorem dX7_samplesWithoutTotal_31 : decode cX7_samplesWithoutTotal 31 = .ok (.lcmp, 1) := by decide +kernel
theorem dX7_samplesWithoutTotal_32 : decode cX7_samplesWithoutTotal 32 = .ok (.ifCond .ne 6, 3) := by decide +kernel
theorem dX7_samplesWithoutTotal_35 : decode cX7_samplesWithoutTotal 35 = .ok (.iinc 1 1, 3) := by decide +kernel
theorem dX7_samplesWithoutTotal_38 : decode cX7_samplesWithoutTotal 38 = .ok (.iinc 2 1, 3) := by decide +kernel
theorem dX7_samplesWithoutTotal_41 : decode cX7_samplesWithoutTotal 41 = .ok (.goto (-37), 3) := by decide +kernel
theorem dX7_samplesWithoutTotal_44 : decode cX7_samplesWithoutTotal 44 = .ok (.iload_n 1, 1) := by decide +kernel
theorem dX7_samplesWithoutTotal_45 : decode cX7_samplesWithoutTotal 45 = .ok (.ireturn, 1) := by decide +kernel
theorem dX7_placesOffBest_0 : decode cX7_placesOffBest 0 = .ok (.iconst 0, 1) := by decide +kernel
theorem dX7_placesOffBest_1 : decode cX7_placesOffBest 1 = .ok (.istore_n 1, 1) := by decide +kernel
theorem dX7_placesOffBest_2 : decode cX7_placesOffBest 2 = .ok (.iconst 0, 1) := by decide +kernel
theorem dX7_placesOffBest_3 : decode cX7_placesOffBest 3 = .ok (.istore_n 2, 1) := by decide +kernel
theorem dX7_placesOffBest_4 : decode cX7_placesOffBest 4 = .ok (.iload_n 2, 1) := by decide +kernel
theorem dX7_placesOffBest_5 : decode cX7_placesOffBest 5 = .ok (.aload_n 0, 1) := by decide +kernel
theorem dX7_placesOffBest_6 : decode cX7_placesOffBest 6 = .ok (.getfield 15, 3) := by decide +kernel
theorem dX7_placesOffBest_9 : decode cX7_placesOffBest 9 = .ok (.getfield 124, 3) := by decide +kernel
theorem dX7_placesOffBest_12 : decode cX7_placesOffBest 12 = .ok (.if_icmp .ge 53, 3) := by decide +kernel
theorem dX7_placesOffBest_15 : decode cX7_placesOffBest 15 = .ok (.aload_n 0, 1) := by decide +kernel
theorem dX7_placesOffBest_16 : decode cX7_placesOffBest 16 = .ok (.getfield 45, 3) := by decide +kernel
theorem dX7_placesOffBest_19 : decode cX7_placesOffBest 19 = .ok (.iload_n 2, 1) := by decide +kernel
theorem dX7_placesOffBest_20 : decode cX7_placesOffBest 20 = .ok (.invokevirtual 186, 3) := by decide +kernel
theorem dX7_placesOffBest_23 : decode cX7_placesOffBest 23 = .ok (.aload_n 0, 1) := by decide +kernel
theorem dX7_placesOffBest_24 : decode cX7_placesOffBest 24 = .ok (.getfield 45, 3) := by decide +kernel
theorem dX7_placesOffBest_27 : decode cX7_placesOffBest 27 = .ok (.getfield 187, 3) := by decide +kernel
theorem dX7_placesOffBest_30 : decode cX7_placesOffBest 30 = .ok (.lconst 0, 1) := by decide +kernel
theorem dX7_placesOffBest_31 : decode cX7_placesOffBest 31 = .ok (.lcmp, 1) := by decide +kernel
theorem dX7_placesOffBest_32 : decode cX7_placesOffBest 32 = .ok (.ifCond .le 27, 3) := by decide +kernel
theorem dX7_placesOffBest_35 : decode cX7_placesOffBest 35 = .ok (.aload_n 0, 1) := by decide +kernel
theorem dX7_placesOffBest_36 : decode cX7_placesOffBest 36 = .ok (.getfield 38, 3) := by decide +kernel
theorem dX7_placesOffBest_39 : decode cX7_placesOffBest 39 = .ok (.iload_n 2, 1) := by decide +kernel
theorem dX7_placesOffBest_40 : decode cX7_placesOffBest 40 = .ok (.invokevirtual 177, 3) := by decide +kernel
theorem dX7_placesOffBest_43 : decode cX7_placesOffBest 43 = .ok (.iload_n 1, 1) := by decide +kernel
theorem dX7_placesOffBest_44 : decode cX7_placesOffBest 44 = .ok (.aload_n 0, 1) := by decide +kernel
theorem dX7_placesOffBest_45 : decode cX7_placesOffBest 45 = .ok (.aload_n 0, 1) := by decide +kernel
theorem dX7_placesOffBest_46 : decode cX7_placesOffBest 46 = .ok (.getfield 15, 3) := by decide +kernel
theorem dX7_placesOffBest_49 : decode cX7_placesOffBest 49 = .ok (.getfield 236, 3) := by decide +kernel
theorem dX7_placesOffBest_52 : decode cX7_placesOffBest 52 = .ok (.iload_n 2, 1) := by decide +kernel
theorem dX7_placesOffBest_53 : decode cX7_placesOffBest 53 = .ok (.iaload, 1) := by decide +kernel
theorem dX7_placesOffBest_54 : decode cX7_placesOffBest 54 = .ok (.invokevirtual 239, 3) := by decide +kernel
theorem dX7_placesOffBest_57 : decode cX7_placesOffBest 57 = .ok (.iadd, 1) := by decide +kernel
theorem dX7_placesOffBest_58 : decode cX7_placesOffBest 58 = .ok (.istore_n 1, 1) := by decide +kernel
theorem dX7_placesOffBest_59 : decode cX7_placesOffBest 59 = .ok (.iinc 2 1, 3) := by decide +kernel
theorem dX7_placesOffBest_62 : decode cX7_placesOffBest 62 = .ok (.goto (-58), 3) := by decide +kernel
theorem dX7_placesOffBest_65 : decode cX7_placesOffBest 65 = .ok (.iload_n 1, 1) := by decide +kernel
theorem dX7_placesOffBest_66 : decode cX7_placesOffBest 66 = .ok (.ireturn, 1) := by decide +kernel
theorem dX7_placesOffPath_0 : decode cX7_placesOffPath 0 = .ok (.iconst 0, 1) := by decide +kernel
theorem dX7_placesOffPath_1 : decode cX7_placesOffPath 1 = .ok (.istore_n 2, 1) := by decide +kernel
theorem dX7_placesOffPath_2 : decode cX7_placesOffPath 2 = .ok (.iconst 0, 1) := by decide +kernel
theorem dX7_placesOffPath_3 : decode cX7_placesOffPath 3 = .ok (.istore_n 3, 1) := by decide +kernel
theorem dX7_placesOffPath_4 : decode cX7_placesOffPath 4 = .ok (.iload_n 3, 1) := by decide +kernel
theorem dX7_placesOffPath_5 : decode cX7_placesOffPath 5 = .ok (.iload_n 1, 1) := by decide +kernel
theorem dX7_placesOffPath_6 : decode cX7_placesOffPath 6 = .ok (.if_icmp .ge 32, 3) := by decide +kernel
theorem dX7_placesOffPath_9 : decode cX7_placesOffPath 9 = .ok (.aload_n 0, 1) := by decide +kernel
theorem dX7_placesOffPath_10 : decode cX7_placesOffPath 10 = .ok (.getfield 45, 3) := by decide +kernel
theorem dX7_placesOffPath_13 : decode cX7_placesOffPath 13 = .ok (.getfield 192, 3) := by decide +kernel
theorem dX7_placesOffPath_16 : decode cX7_placesOffPath 16 = .ok (.iload_n 3, 1) := by decide +kernel
theorem dX7_placesOffPath_17 : decode cX7_placesOffPath 17 = .ok (.iaload, 1) := by decide +kernel
theorem dX7_placesOffPath_18 : decode cX7_placesOffPath 18 = .ok (.aload_n 0, 1) := by decide +kernel
theorem dX7_placesOffPath_19 : decode cX7_placesOffPath 19 = .ok (.getfield 38, 3) := by decide +kernel
theorem dX7_placesOffPath_22 : decode cX7_placesOffPath 22 = .ok (.iload_n 3, 1) := by decide +kernel
theorem dX7_placesOffPath_23 : decode cX7_placesOffPath 23 = .ok (.invokevirtual 203, 3) := by decide +kernel
theorem dX7_placesOffPath_26 : decode cX7_placesOffPath 26 = .ok (.if_icmp .eq 6, 3) := by decide +kernel
theorem dX7_placesOffPath_29 : decode cX7_placesOffPath 29 = .ok (.iinc 2 1, 3) := by decide +kernel
theorem dX7_placesOffPath_32 : decode cX7_placesOffPath 32 = .ok (.iinc 3 1, 3) := by decide +kernel
theorem dX7_placesOffPath_35 : decode cX7_placesOffPath 35 = .ok (.goto (-31), 3) := by decide +kernel
theorem dX7_placesOffPath_38 : decode cX7_placesOffPath 38 = .ok (.iload_n 2, 1) := by decide +kernel
theorem dX7_placesOffPath_39 : decode cX7_placesOffPath 39 = .ok (.ireturn, 1) := by decide +kernel
theorem dX8_init_0 : decode cX8_init 0 = .ok (.aload_n 0, 1) := by decide +kernel
theorem dX8_init_1 : decode cX8_init 1 = .ok (.invokespecial 1, 3) := by decide +kernel
theorem dX8_init_4 : decode cX8_init 4 = .ok (.aload_n 0, 1) := by decide +kernel
theorem dX8_init_5 : decode cX8_init 5 = .ok (.bipush 83, 2) := by decide +kernel
theorem dX8_init_7 : decode cX8_init 7 = .ok (.newarray .int, 2) := by decide +kernel
theorem dX8_init_9 : decode cX8_init 9 = .ok (.putfield 7, 3) := by decide +kernel
theorem dX8_init_12 : decode cX8_init 12 = .ok (.aload_n 0, 1) := by decide +kernel
theorem dX8_init_13 : decode cX8_init 13 = .ok (.bipush 83, 2) := by decide +kernel
theorem dX8_init_15 : decode cX8_init 15 = .ok (.newarray .int, 2) := by decide +kernel
theorem dX8_init_17 : decode cX8_init 17 = .ok (.putfield 13, 3) := by decide +kernel
theorem dX8_init_20 : decode cX8_init 20 = .ok (.aload_n 0, 1) := by decide +kernel
theorem dX8_init_21 : decode cX8_init 21 = .ok (.sipush 332, 3) := by decide +kernel
theorem dX8_init_24 : decode cX8_init 24 = .ok (.newarray .int, 2) := by decide +kernel
theorem dX8_init_26 : decode cX8_init 26 = .ok (.putfield 16, 3) := by decide +kernel
theorem dX8_init_29 : decode cX8_init 29 = .ok (.aload_n 0, 1) := by decide +kernel
theorem dX8_init_30 : decode cX8_init 30 = .ok (.bipush 83, 2) := by decide +kernel
theorem dX8_init_32 : decode cX8_init 32 = .ok (.newarray .int, 2) := by decide +kernel
theorem dX8_init_34 : decode cX8_init 34 = .ok (.putfield 19, 3) := by decide +kernel
theorem dX8_init_37 : decode cX8_init 37 = .ok (.aload_n 0, 1) := by decide +kernel
theorem dX8_init_38 : decode cX8_init 38 = .ok (.bipush 60, 2) := by decide +kernel
theorem dX8_init_40 : decode cX8_init 40 = .ok (.newarray .int, 2) := by decide +kernel
theorem dX8_init_42 : decode cX8_init 42 = .ok (.putfield 22, 3) := by decide +kernel
theorem dX8_init_45 : decode cX8_init 45 = .ok (.aload_n 0, 1) := by decide +kernel
theorem dX8_init_46 : decode cX8_init 46 = .ok (.bipush 28, 2) := by decide +kernel
theorem dX8_init_48 : decode cX8_init 48 = .ok (.newarray .long, 2) := by decide +kernel
theorem dX8_init_50 : decode cX8_init 50 = .ok (.putfield 25, 3) := by decide +kernel
theorem dX8_init_53 : decode cX8_init 53 = .ok (.aload_n 0, 1) := by decide +kernel
theorem dX8_init_54 : decode cX8_init 54 = .ok (.bipush 28, 2) := by decide +kernel
theorem dX8_init_56 : decode cX8_init 56 = .ok (.newarray .long, 2) := by decide +kernel
theorem dX8_init_58 : decode cX8_init 58 = .ok (.putfield 29, 3) := by decide +kernel
theorem dX8_init_61 : decode cX8_init 61 = .ok (.aload_n 0, 1) := by decide +kernel
theorem dX8_init_62 : decode cX8_init 62 = .ok (.bipush 28, 2) := by decide +kernel
theorem dX8_init_64 : decode cX8_init 64 = .ok (.newarray .long, 2) := by decide +kernel
theorem dX8_init_66 : decode cX8_init 66 = .ok (.putfield 32, 3) := by decide +kernel
theorem dX8_init_69 : decode cX8_init 69 = .ok (.aload_n 0, 1) := by decide +kernel
theorem dX8_init_70 : decode cX8_init 70 = .ok (.bipush 28, 2) := by decide +kernel
theorem dX8_init_72 : decode cX8_init 72 = .ok (.newarray .long, 2) := by decide +kernel
theorem dX8_init_74 : decode cX8_init 74 = .ok (.putfield 35, 3) := by decide +kernel
theorem dX8_init_77 : decode cX8_init 77 = .ok (.aload_n 0, 1) := by decide +kernel
theorem dX8_init_78 : decode cX8_init 78 = .ok (.bipush 32, 2) := by decide +kernel
theorem dX8_init_80 : decode cX8_init 80 = .ok (.newarray .long, 2) := by decide +kernel
theorem dX8_init_82 : decode cX8_init 82 = .ok (.putfield 38, 3) := by decide +kernel
theorem dX8_init_85 : decode cX8_init 85 = .ok (.aload_n 0, 1) := by decide +kernel
theorem dX8_init_86 : decode cX8_init 86 = .ok (.iconst 4, 1) := by decide +kernel
theorem dX8_init_87 : decode cX8_init 87 = .ok (.newarray .int, 2) := by decide +kernel
theorem dX8_init_89 : decode cX8_init 89 = .ok (.putfield 41, 3) := by decide +kernel
theorem dX8_init_92 : decode cX8_init 92 = .ok (.aload_n 0, 1) := by decide +kernel
theorem dX8_init_93 : decode cX8_init 93 = .ok (.iconst 4, 1) := by decide +kernel
theorem dX8_init_94 : decode cX8_init 94 = .ok (.newarray .int, 2) := by decide +kernel
theorem dX8_init_96 : decode cX8_init 96 = .ok (.putfield 44, 3) := by decide +kernel
theorem dX8_init_99 : decode cX8_init 99 = .ok (.aload_n 0, 1) := by decide +kernel
theorem dX8_init_100 : decode cX8_init 100 = .ok (.sipush 256, 3) := by decide +kernel
theorem dX8_init_103 : decode cX8_init 103 = .ok (.newarray .int, 2) := by decide +kernel
theorem dX8_init_105 : decode cX8_init 105 = .ok (.putfield 47, 3) := by decide +kernel
theorem dX8_init_108 : decode cX8_init 108 = .ok (.aload_n 0, 1) := by decide +kernel
theorem dX8_init_109 : decode cX8_init 109 = .ok (.iconst 0, 1) := by decide +kernel
theorem dX8_init_110 : decode cX8_init 110 = .ok (.putfield 50, 3) := by decide +kernel
theorem dX8_init_113 : decode cX8_init 113 = .ok (.aload_n 0, 1) := by decide +kernel
theorem dX8_init_114 : decode cX8_init 114 = .ok (.getfield 7, 3) := by decide +kernel
theorem dX8_init_117 : decode cX8_init 117 = .ok (.iconst 0, 1) := by decide +kernel
theorem dX8_init_118 : decode cX8_init 118 = .ok (.iconst 2, 1) := by decide +kernel
theorem dX8_init_119 : decode cX8_init 119 = .ok (.iastore, 1) := by decide +kernel
theorem dX8_init_120 : decode cX8_init 120 = .ok (.aload_n 0, 1) := by decide +kernel
theorem dX8_init_121 : decode cX8_init 121 = .ok (.getfield 7, 3) := by decide +kernel
theorem dX8_init_124 : decode cX8_init 124 = .ok (.iconst 2, 1) := by decide +kernel
theorem dX8_init_125 : decode cX8_init 125 = .ok (.sipush 800, 3) := by decide +kernel
theorem dX8_init_128 : decode cX8_init 128 = .ok (.iastore, 1) := by decide +kernel
theorem dX8_init_129 : decode cX8_init 129 = .ok (.iconst 0, 1) := by decide +kernel
theorem dX8_init_130 : decode cX8_init 130 = .ok (.istore_n 1, 1) := by decide +kernel
theorem dX8_init_131 : decode cX8_init 131 = .ok (.iload_n 1, 1) := by decide +kernel
theorem dX8_init_132 : decode cX8_init 132 = .ok (.iconst 2, 1) := by decide +kernel
theorem dX8_init_133 : decode cX8_init 133 = .ok (.if_icmp .ge 14, 3) := by decide +kernel
theorem dX8_init_136 : decode cX8_init 136 = .ok (.aload_n 0, 1) := by decide +kernel
theorem dX8_init_137 : decode cX8_init 137 = .ok (.iload_n 1, 1) := by decide +kernel
theorem dX8_init_138 : decode cX8_init 138 = .ok (.invokevirtual 54, 3) := by decide +kernel
theorem dX8_init_141 : decode cX8_init 141 = .ok (.iinc 1 1, 3) := by decide +kernel
theorem dX8_init_144 : decode cX8_init 144 = .ok (.goto (-13), 3) := by decide +kernel
theorem dX8_init_147 : decode cX8_init 147 = .ok (.return_, 1) := by decide +kernel
theorem dX8_in_0 : decode cX8_in 0 = .ok (.iload_n 0, 1) := by decide +kernel
theorem dX8_in_1 : decode cX8_in 1 = .ok (.iload_n 1, 1) := by decide +kernel
theorem dX8_in_2 : decode cX8_in 2 = .ok (.if_icmp .lt 12, 3) := by decide +kernel
theorem dX8_in_5 : decode cX8_in 5 = .ok (.iload_n 0, 1) := by decide +kernel
theorem dX8_in_6 : decode cX8_in 6 = .ok (.iload_n 2, 1) := by decide +kernel
theorem dX8_in_7 : decode cX8_in 7 = .ok (.if_icmp .gt 7, 3) := by decide +kernel
theorem dX8_in_10 : decode cX8_in 10 = .ok (.iconst 1, 1) := by decide +kernel
theorem dX8_in_11 : decode cX8_in 11 = .ok (.goto 4, 3) := by decide +kernel
theorem dX8_in_14 : decode cX8_in 14 = .ok (.iconst 0, 1) := by decide +kernel
theorem dX8_in_15 : decode cX8_in 15 = .ok (.ireturn, 1) := by decide +kernel
theorem dX8_isState_0 : decode cX8_isState 0 = .ok (.iload_n 1, 1) := by decide +kernel
theorem dX8_isState_1 : decode cX8_isState 1 = .ok (.iconst 0, 1) := by decide +kernel
theorem dX8_isState_2 : decode cX8_isState 2 = .ok (.aload_n 0, 1) := by decide +kernel
theorem dX8_isState_3 : decode cX8_isState 3 = .ok (.getfield 7, 3) := by decide +kernel
theorem dX8_isState_6 : decode cX8_isState 6 = .ok (.iconst 0, 1) := by decide +kernel
theorem dX8_isState_7 : decode cX8_isState 7 = .ok (.iaload, 1) := by decide +kernel
theorem dX8_isState_8 : decode cX8_isState 8 = .ok (.iconst 1, 1) := by decide +kernel
theorem dX8_isState_9 : decode cX8_isState 9 = .ok (.isub, 1) := by decide +kernel
theorem dX8_isState_10 : decode cX8_isState 10 = .ok (.invokestatic 58, 3) := by decide +kernel
theorem dX8_isState_13 : decode cX8_isState 13 = .ok (.ireturn, 1) := by decide +kernel
theorem dX8_isSample_0 : decode cX8_isSample 0 = .ok (.iload_n 1, 1) := by decide +kernel
theorem dX8_isSample_1 : decode cX8_isSample 1 = .ok (.iconst 0, 1) := by decide +kernel
theorem dX8_isSample_2 : decode cX8_isSample 2 = .ok (.aload_n 0, 1) := by decide +kernel
theorem dX8_isSample_3 : decode cX8_isSample 3 = .ok (.getfield 7, 3) := by decide +kernel
theorem dX8_isSample_6 : decode cX8_isSample 6 = .ok (.iconst 1, 1) := by decide +kernel
theorem dX8_isSample_7 : decode cX8_isSample 7 = .ok (.iaload, 1) := by decide +kernel
theorem dX8_isSample_8 : decode cX8_isSample 8 = .ok (.iconst 1, 1) := by decide +kernel
theorem dX8_isSample_9 : decode cX8_isSample 9 = .ok (.isub, 1) := by decide +kernel
theorem dX8_isSample_10 : decode cX8_isSample 10 = .ok (.invokestatic 58, 3) := by decide +kernel
theorem dX8_isSample_13 : decode cX8_isSample 13 = .ok (.ireturn, 1) := by decide +kernel
theorem dX8_go_0 : decode cX8_go 0 = .ok (.aload_n 0, 1) := by decide +kernel
theorem dX8_go_1 : decode cX8_go 1 = .ok (.getfield 7, 3) := by decide +kernel
theorem dX8_go_4 : decode cX8_go 4 = .ok (.bipush 7, 2) := by decide +kernel
theorem dX8_go_6 : decode cX8_go 6 = .ok (.iconst 4, 1) := by decide +kernel
theorem dX8_go_7 : decode cX8_go 7 = .ok (.iload_n 1, 1) := by decide +kernel
theorem dX8_go_8 : decode cX8_go 8 = .ok (.imul, 1) := by decide +kernel
theorem dX8_go_9 : decode cX8_go 9 = .ok (.iadd, 1) := by decide +kernel
theorem dX8_go_10 : decode cX8_go 10 = .ok (.iload_n 2, 1) := by decide +kernel
theorem dX8_go_11 : decode cX8_go 11 = .ok (.iadd, 1) := by decide +kernel
theorem dX8_go_12 : decode cX8_go 12 = .ok (.iaload, 1) := by decide +kernel
theorem dX8_go_13 : decode cX8_go 13 = .ok (.ireturn, 1) := by decide +kernel
theorem dX8_show_0 : decode cX8_show 0 = .ok (.aload_n 0, 1) := by decide +kernel
theorem dX8_show_1 : decode cX8_show 1 = .ok (.getfield 7, 3) := by decide +kernel
theorem dX8_show_4 : decode cX8_show 4 = .ok (.bipush 23, 2) := by decide +kernel
theorem dX8_show_6 : decode cX8_show 6 = .ok (.iconst 3, 1) := by decide +kernel
theorem dX8_show_7 : decode cX8_show 7 = .ok (.iload_n 1, 1) := by decide +kernel
theorem dX8_show_8 : decode cX8_show 8 = .ok (.imul, 1) := by decide +kernel
theorem dX8_show_9 : decode cX8_show 9 = .ok (.iadd, 1) := by decide +kernel
theorem dX8_show_10 : decode cX8_show 10 = .ok (.iload_n 2, 1) := by decide +kernel
theorem dX8_show_11 : decode cX8_show 11 = .ok (.iadd, 1) := by decide +kernel
theorem dX8_show_12 : decode cX8_show 12 = .ok (.iaload, 1) := by decide +kernel
theorem dX8_show_13 : decode cX8_show 13 = .ok (.ireturn, 1) := by decide +kernel
theorem dX8_placesOf_0 : decode cX8_placesOf 0 = .ok (.aload_n 0, 1) := by decide +kernel
theorem dX8_placesOf_1 : decode cX8_placesOf 1 = .ok (.getfield 7, 3) := by decide +kernel
theorem dX8_placesOf_4 : decode cX8_placesOf 4 = .ok (.bipush 35, 2) := by decide +kernel
theorem dX8_placesOf_6 : decode cX8_placesOf 6 = .ok (.bipush 8, 2) := by decide +kernel
theorem dX8_placesOf_8 : decode cX8_placesOf 8 = .ok (.iload_n 1, 1) := by decide +kernel
theorem dX8_placesOf_9 : decode cX8_placesOf 9 = .ok (.imul, 1) := by decide +kernel
theorem dX8_placesOf_10 : decode cX8_placesOf 10 = .ok (.iadd, 1) := by decide +kernel
theorem dX8_placesOf_11 : decode cX8_placesOf 11 = .ok (.iaload, 1) := by decide +kernel
theorem dX8_placesOf_12 : decode cX8_placesOf 12 = .ok (.ireturn, 1) := by decide +kernel
theorem dX8_signAt_0 : decode cX8_signAt 0 = .ok (.aload_n 0, 1) := by decide +kernel
theorem dX8_signAt_1 : decode cX8_signAt 1 = .ok (.getfield 7, 3) := by decide +kernel
theorem dX8_signAt_4 : decode cX8_signAt 4 = .ok (.bipush 35, 2) := by decide +kernel
theorem dX8_signAt_6 : decode cX8_signAt 6 = .ok (.bipush 8, 2) := by decide +kernel
theorem dX8_signAt_8 : decode cX8_signAt 8 = .ok (.iload_n 1, 1) := by decide +kernel
theorem dX8_signAt_9 : decode cX8_signAt 9 = .ok (.imul, 1) := by decide +kernel
theorem dX8_signAt_10 : decode cX8_signAt 10 = .ok (.iadd, 1) := by decide +kernel
theorem dX8_signAt_11 : decode cX8_signAt 11 = .ok (.iconst 1, 1) := by decide +kernel
theorem dX8_signAt_12 : decode cX8_signAt 12 = .ok (.iadd, 1) := by decide +kernel
theorem dX8_signAt_13 : decode cX8_signAt 13 = .ok (.iload_n 2, 1) := by decide +kernel
theorem dX8_signAt_14 : decode cX8_signAt 14 = .ok (.iadd, 1) := by decide +kernel
theorem dX8_signAt_15 : decode cX8_signAt 15 = .ok (.iaload, 1) := by decide +kernel
theorem dX8_signAt_16 : decode cX8_signAt 16 = .ok (.ireturn, 1) := by decide +kernel
theorem dX8_fills_0 : decode cX8_fills 0 = .ok (.aload_n 0, 1) := by decide +kernel
theorem dX8_fills_1 : decode cX8_fills 1 = .ok (.getfield 7, 3) := by decide +kernel
theorem dX8_fills_4 : decode cX8_fills 4 = .ok (.iconst 3, 1) := by decide +kernel
theorem dX8_fills_5 : decode cX8_fills 5 = .ok (.iload_n 1, 1) := by decide +kernel
theorem dX8_fills_6 : decode cX8_fills 6 = .ok (.iadd, 1) := by decide +kernel
theorem dX8_fills_7 : decode cX8_fills 7 = .ok (.iconst 1, 1) := by decide +kernel
theorem dX8_fills_8 : decode cX8_fills 8 = .ok (.iastore, 1) := by decide +kernel
theorem dX8_fills_9 : decode cX8_fills 9 = .ok (.iconst 0, 1) := by decide +kernel
theorem dX8_fills_10 : decode cX8_fills 10 = .ok (.istore_n 2, 1) := by decide +kernel
theorem dX8_fills_11 : decode cX8_fills 11 = .ok (.iload_n 2, 1) := by decide +kernel
theorem dX8_fills_12 : decode cX8_fills 12 = .ok (.aload_n 0, 1) := by decide +kernel
theorem dX8_fills_13 : decode cX8_fills 13 = .ok (.getfield 7, 3) := by decide +kernel
theorem dX8_fills_16 : decode cX8_fills 16 = .ok (.iconst 0, 1) := by decide +kernel
theorem dX8_fills_17 : decode cX8_fills 17 = .ok (.iaload, 1) := by decide +kernel
theorem dX8_fills_18 : decode cX8_fills 18 = .ok (.if_icmp .ge 37, 3) := by decide +kernel
theorem dX8_fills_21 : decode cX8_fills 21 = .ok (.aload_n 0, 1) := by decide +kernel
theorem dX8_fills_22 : decode cX8_fills 22 = .ok (.getfield 7, 3) := by decide +kernel
theorem dX8_fills_25 : decode cX8_fills 25 = .ok (.bipush 7, 2) := by decide +kernel
theorem dX8_fills_27 : decode cX8_fills 27 = .ok (.iconst 4, 1) := by decide +kernel
theorem dX8_fills_28 : decode cX8_fills 28 = .ok (.iload_n 1, 1) := by decide +kernel
theorem dX8_fills_29 : decode cX8_fills 29 = .ok (.imul, 1) := by decide +kernel
theorem dX8_fills_30 : decode cX8_fills 30 = .ok (.iadd, 1) := by decide +kernel
theorem dX8_fills_31 : decode cX8_fills 31 = .ok (.iload_n 2, 1) := by decide +kernel
theorem dX8_fills_32 : decode cX8_fills 32 = .ok (.iadd, 1) := by decide +kernel
theorem dX8_fills_33 : decode cX8_fills 33 = .ok (.iconst 1, 1) := by decide +kernel
theorem dX8_fills_34 : decode cX8_fills 34 = .ok (.iastore, 1) := by decide +kernel
theorem dX8_fills_35 : decode cX8_fills 35 = .ok (.aload_n 0, 1) := by decide +kernel
theorem dX8_fills_36 : decode cX8_fills 36 = .ok (.getfield 7, 3) := by decide +kernel
theorem dX8_fills_39 : decode cX8_fills 39 = .ok (.bipush 7, 2) := by decide +kernel
theorem dX8_fills_41 : decode cX8_fills 41 = .ok (.iconst 4, 1) := by decide +kernel
theorem dX8_fills_42 : decode cX8_fills 42 = .ok (.iload_n 2, 1) := by decide +kernel
theorem dX8_fills_43 : decode cX8_fills 43 = .ok (.imul, 1) := by decide +kernel
theorem dX8_fills_44 : decode cX8_fills 44 = .ok (.iadd, 1) := by decide +kernel
theorem dX8_fills_45 : decode cX8_fills 45 = .ok (.iload_n 1, 1) := by decide +kernel
theorem dX8_fills_46 : decode cX8_fills 46 = .ok (.iadd, 1) := by decide +kernel
theorem dX8_fills_47 : decode cX8_fills 47 = .ok (.iconst 1, 1) := by decide +kernel
theorem dX8_fills_48 : decode cX8_fills 48 = .ok (.iastore, 1) := by decide +kernel
theorem dX8_fills_49 : decode cX8_fills 49 = .ok (.iinc 2 1, 3) := by decide +kernel
theorem dX8_fills_52 : decode cX8_fills 52 = .ok (.goto (-41), 3) := by decide +kernel
theorem dX8_fills_55 : decode cX8_fills 55 = .ok (.iconst 0, 1) := by decide +kernel
theorem dX8_fills_56 : decode cX8_fills 56 = .ok (.istore_n 2, 1) := by decide +kernel
theorem dX8_fills_57 : decode cX8_fills 57 = .ok (.iload_n 2, 1) := by decide +kernel
theorem dX8_fills_58 : decode cX8_fills 58 = .ok (.iconst 3, 1) := by decide +kernel
theorem dX8_fills_59 : decode cX8_fills 59 = .ok (.if_icmp .ge 23, 3) := by decide +kernel
theorem dX8_fills_62 : decode cX8_fills 62 = .ok (.aload_n 0, 1) := by decide +kernel
theorem dX8_fills_63 : decode cX8_fills 63 = .ok (.getfield 7, 3) := by decide +kernel
theorem dX8_fills_66 : decode cX8_fills 66 = .ok (.bipush 23, 2) := by decide +kernel
theorem dX8_fills_68 : decode cX8_fills 68 = .ok (.iconst 3, 1) := by decide +kernel
theorem dX8_fills_69 : decode cX8_fills 69 = .ok (.iload_n 1, 1) := by decide +kernel
theorem dX8_fills_70 : decode cX8_fills 70 = .ok (.imul, 1) := by decide +kernel
theorem dX8_fills_71 : decode cX8_fills 71 = .ok (.iadd, 1) := by decide +kernel
theorem dX8_fills_72 : decode cX8_fills 72 = .ok (.iload_n 2, 1) := by decide +kernel
theorem dX8_fills_73 : decode cX8_fills 73 = .ok (.iadd, 1) := by decide +kernel
theorem dX8_fills_74 : decode cX8_fills 74 = .ok (.iconst 1, 1) := by decide +kernel
theorem dX8_fills_75 : decode cX8_fills 75 = .ok (.iastore, 1) := by decide +kernel
theorem dX8_fills_76 : decode cX8_fills 76 = .ok (.iinc 2 1, 3) := by decide +kernel
theorem dX8_fills_79 : decode cX8_fills 79 = .ok (.goto (-22), 3) := by decide +kernel
theorem dX8_fills_82 : decode cX8_fills 82 = .ok (.return_, 1) := by decide +kernel
theorem dX8_records_0 : decode cX8_records 0 = .ok (.aload_n 0, 1) := by decide +kernel
theorem dX8_records_1 : decode cX8_records 1 = .ok (.getfield 62, 3) := by decide +kernel
theorem dX8_records_4 : decode cX8_records 4 = .ok (.iconst 4, 1) := by decide +kernel
theorem dX8_records_5 : decode cX8_records 5 = .ok (.if_icmp .ne 43, 3) := by decide +kernel
theorem dX8_records_8 : decode cX8_records 8 = .ok (.iconst 0, 1) := by decide +kernel
theorem dX8_records_9 : decode cX8_records 9 = .ok (.istore_n 1, 1) := by decide +kernel
theorem dX8_records_10 : decode cX8_records 10 = .ok (.iload_n 1, 1) := by decide +kernel
theorem dX8_records_11 : decode cX8_records 11 = .ok (.sipush 249, 3) := by decide +kernel
theorem dX8_records_14 : decode cX8_records 14 = .ok (.if_icmp .ge 24, 3) := by decide +kernel
theorem dX8_records_17 : decode cX8_records 17 = .ok (.aload_n 0, 1) := by decide +kernel
theorem dX8_records_18 : decode cX8_records 18 = .ok (.getfield 16, 3) := by decide +kernel
theorem dX8_records_21 : decode cX8_records 21 = .ok (.iload_n 1, 1) := by decide +kernel
theorem dX8_records_22 : decode cX8_records 22 = .ok (.aload_n 0, 1) := by decide +kernel
theorem dX8_records_23 : decode cX8_records 23 = .ok (.getfield 16, 3) := by decide +kernel
theorem dX8_records_26 : decode cX8_records 26 = .ok (.iload_n 1, 1) := by decide +kernel
theorem dX8_records_27 : decode cX8_records 27 = .ok (.bipush 83, 2) := by decide +kernel
theorem dX8_records_29 : decode cX8_records 29 = .ok (.iadd, 1) := by decide +kernel
theorem dX8_records_30 : decode cX8_records 30 = .ok (.iaload, 1) := by decide +kernel
theorem dX8_records_31 : decode cX8_records 31 = .ok (.iastore, 1) := by decide +kernel
theorem dX8_records_32 : decode cX8_records 32 = .ok (.iinc 1 1, 3) := by decide +kernel
theorem dX8_records_35 : decode cX8_records 35 = .ok (.goto (-25), 3) := by decide +kernel
theorem dX8_records_38 : decode cX8_records 38 = .ok (.aload_n 0, 1) := by decide +kernel
theorem dX8_records_39 : decode cX8_records 39 = .ok (.dup, 1) := by decide +kernel
theorem dX8_records_40 : decode cX8_records 40 = .ok (.getfield 62, 3) := by decide +kernel
theorem dX8_records_43 : decode cX8_records 43 = .ok (.iconst 1, 1) := by decide +kernel
theorem dX8_records_44 : decode cX8_records 44 = .ok (.isub, 1) := by decide +kernel
theorem dX8_records_45 : decode cX8_records 45 = .ok (.putfield 62, 3) := by decide +kernel
theorem dX8_records_48 : decode cX8_records 48 = .ok (.iconst 0, 1) := by decide +kernel
theorem dX8_records_49 : decode cX8_records 49 = .ok (.istore_n 1, 1) := by decide +kernel
theorem dX8_records_50 : decode cX8_records 50 = .ok (.iload_n 1, 1) := by decide +kernel
theorem dX8_records_51 : decode cX8_records 51 = .ok (.bipush 83, 2) := by decide +kernel
theorem dX8_records_53 : decode cX8_records 53 = .ok (.if_icmp .ge 29, 3) := by decide +kernel
theorem dX8_records_56 : decode cX8_records 56 = .ok (.aload_n 0, 1) := by decide +kernel
theorem dX8_records_57 : decode cX8_records 57 = .ok (.getfield 16, 3) := by decide +kernel
theorem dX8_records_60 : decode cX8_records 60 = .ok (.bipush 83, 2) := by decide +kernel
theorem dX8_records_62 : decode cX8_records 62 = .ok (.aload_n 0, 1) := by decide +kernel
theorem dX8_records_63 : decode cX8_records 63 = .ok (.getfield 62, 3) := by decide +kernel
theorem dX8_records_66 : decode cX8_records 66 = .ok (.imul, 1) := by decide +kernel
theorem dX8_records_67 : decode cX8_records 67 = .ok (.iload_n 1, 1) := by decide +kernel
theorem dX8_records_68 : decode cX8_records 68 = .ok (.iadd, 1) := by decide +kernel
theorem dX8_records_69 : decode cX8_records 69 = .ok (.aload_n 0, 1) := by decide +kernel
theorem dX8_records_70 : decode cX8_records 70 = .ok (.getfield 7, 3) := by decide +kernel
theorem dX8_records_73 : decode cX8_records 73 = .ok (.iload_n 1, 1) := by decide +kernel
theorem dX8_records_74 : decode cX8_records 74 = .ok (.iaload, 1) := by decide +kernel
theorem dX8_records_75 : decode cX8_records 75 = .ok (.iastore, 1) := by decide +kernel
theorem dX8_records_76 : decode cX8_records 76 = .ok (.iinc 1 1, 3) := by decide +kernel
theorem dX8_records_79 : decode cX8_records 79 = .ok (.goto (-29), 3) := by decide +kernel
theorem dX8_records_82 : decode cX8_records 82 = .ok (.aload_n 0, 1) := by decide +kernel
theorem dX8_records_83 : decode cX8_records 83 = .ok (.dup, 1) := by decide +kernel
theorem dX8_records_84 : decode cX8_records 84 = .ok (.getfield 62, 3) := by decide +kernel
theorem dX8_records_87 : decode cX8_records 87 = .ok (.iconst 1, 1) := by decide +kernel
theorem dX8_records_88 : decode cX8_records 88 = .ok (.iadd, 1) := by decide +kernel
theorem dX8_records_89 : decode cX8_records 89 = .ok (.putfield 62, 3) := by decide +kernel
theorem dX8_records_92 : decode cX8_records 92 = .ok (.return_, 1) := by decide +kernel
theorem dX8_laysRuns_0 : decode cX8_laysRuns 0 = .ok (.aload_n 0, 1) := by decide +kernel
theorem dX8_laysRuns_1 : decode cX8_laysRuns 1 = .ok (.iload_n 1, 1) := by decide +kernel
theorem dX8_laysRuns_2 : decode cX8_laysRuns 2 = .ok (.invokevirtual 65, 3) := by decide +kernel
theorem dX8_laysRuns_5 : decode cX8_laysRuns 5 = .ok (.iconst 1, 1) := by decide +kernel
theorem dX8_laysRuns_6 : decode cX8_laysRuns 6 = .ok (.isub, 1) := by decide +kernel
theorem dX8_laysRuns_7 : decode cX8_laysRuns 7 = .ok (.istore_n 2, 1) := by decide +kernel
theorem dX8_laysRuns_8 : decode cX8_laysRuns 8 = .ok (.iconst 0, 1) := by decide +kernel
theorem dX8_laysRuns_9 : decode cX8_laysRuns 9 = .ok (.istore_n 3, 1) := by decide +kernel
theorem dX8_laysRuns_10 : decode cX8_laysRuns 10 = .ok (.iload_n 3, 1) := by decide +kernel
theorem dX8_laysRuns_11 : decode cX8_laysRuns 11 = .ok (.aload_n 0, 1) := by decide +kernel
theorem dX8_laysRuns_12 : decode cX8_laysRuns 12 = .ok (.getfield 7, 3) := by decide +kernel
theorem dX8_laysRuns_15 : decode cX8_laysRuns 15 = .ok (.iconst 0, 1) := by decide +kernel
theorem dX8_laysRuns_16 : decode cX8_laysRuns 16 = .ok (.iaload, 1) := by decide +kernel
theorem dX8_laysRuns_17 : decode cX8_laysRuns 17 = .ok (.if_icmp .ge 70, 3) := by decide +kernel
theorem dX8_laysRuns_20 : decode cX8_laysRuns 20 = .ok (.aload_n 0, 1) := by decide +kernel
theorem dX8_laysRuns_21 : decode cX8_laysRuns 21 = .ok (.getfield 25, 3) := by decide +kernel
theorem dX8_laysRuns_24 : decode cX8_laysRuns 24 = .ok (.iload_n 3, 1) := by decide +kernel
theorem dX8_laysRuns_25 : decode cX8_laysRuns 25 = .ok (.aload_n 0, 1) := by decide +kernel
theorem dX8_laysRuns_26 : decode cX8_laysRuns 26 = .ok (.getfield 7, 3) := by decide +kernel
theorem dX8_laysRuns_29 : decode cX8_laysRuns 29 = .ok (.iconst 3, 1) := by decide +kernel
theorem dX8_laysRuns_30 : decode cX8_laysRuns 30 = .ok (.iload_n 3, 1) := by decide +kernel
theorem dX8_laysRuns_31 : decode cX8_laysRuns 31 = .ok (.iadd, 1) := by decide +kernel
theorem dX8_laysRuns_32 : decode cX8_laysRuns 32 = .ok (.iaload, 1) := by decide +kernel
theorem dX8_laysRuns_33 : decode cX8_laysRuns 33 = .ok (.i2l, 1) := by decide +kernel
theorem dX8_laysRuns_34 : decode cX8_laysRuns 34 = .ok (.aload_n 0, 1) := by decide +kernel
theorem dX8_laysRuns_35 : decode cX8_laysRuns 35 = .ok (.iload_n 3, 1) := by decide +kernel
theorem dX8_laysRuns_36 : decode cX8_laysRuns 36 = .ok (.aload_n 0, 1) := by decide +kernel
theorem dX8_laysRuns_37 : decode cX8_laysRuns 37 = .ok (.iload_n 1, 1) := by decide +kernel
theorem dX8_laysRuns_38 : decode cX8_laysRuns 38 = .ok (.iconst 0, 1) := by decide +kernel
theorem dX8_laysRuns_39 : decode cX8_laysRuns 39 = .ok (.invokevirtual 69, 3) := by decide +kernel
theorem dX8_laysRuns_42 : decode cX8_laysRuns 42 = .ok (.invokevirtual 73, 3) := by decide +kernel
theorem dX8_laysRuns_45 : decode cX8_laysRuns 45 = .ok (.i2l, 1) := by decide +kernel
theorem dX8_laysRuns_46 : decode cX8_laysRuns 46 = .ok (.lmul, 1) := by decide +kernel
theorem dX8_laysRuns_47 : decode cX8_laysRuns 47 = .ok (.lastore, 1) := by decide +kernel
theorem dX8_laysRuns_48 : decode cX8_laysRuns 48 = .ok (.aload_n 0, 1) := by decide +kernel
theorem dX8_laysRuns_49 : decode cX8_laysRuns 49 = .ok (.getfield 29, 3) := by decide +kernel
theorem dX8_laysRuns_52 : decode cX8_laysRuns 52 = .ok (.iconst 4, 1) := by decide +kernel
theorem dX8_laysRuns_53 : decode cX8_laysRuns 53 = .ok (.iload_n 2, 1) := by decide +kernel
theorem dX8_laysRuns_54 : decode cX8_laysRuns 54 = .ok (.imul, 1) := by decide +kernel
theorem dX8_laysRuns_55 : decode cX8_laysRuns 55 = .ok (.iload_n 3, 1) := by decide +kernel
theorem dX8_laysRuns_56 : decode cX8_laysRuns 56 = .ok (.iadd, 1) := by decide +kernel
theorem dX8_laysRuns_57 : decode cX8_laysRuns 57 = .ok (.lconst 1, 1) := by decide +kernel
theorem dX8_laysRuns_58 : decode cX8_laysRuns 58 = .ok (.lastore, 1) := by decide +kernel
theorem dX8_laysRuns_59 : decode cX8_laysRuns 59 = .ok (.aload_n 0, 1) := by decide +kernel
theorem dX8_laysRuns_60 : decode cX8_laysRuns 60 = .ok (.getfield 32, 3) := by decide +kernel
theorem dX8_laysRuns_63 : decode cX8_laysRuns 63 = .ok (.iconst 4, 1) := by decide +kernel
theorem dX8_laysRuns_64 : decode cX8_laysRuns 64 = .ok (.iload_n 2, 1) := by decide +kernel
theorem dX8_laysRuns_65 : decode cX8_laysRuns 65 = .ok (.imul, 1) := by decide +kernel
theorem dX8_laysRuns_66 : decode cX8_laysRuns 66 = .ok (.iload_n 3, 1) := by decide +kernel
theorem dX8_laysRuns_67 : decode cX8_laysRuns 67 = .ok (.iadd, 1) := by decide +kernel
theorem dX8_laysRuns_68 : decode cX8_laysRuns 68 = .ok (.lconst 1, 1) := by decide +kernel
theorem dX8_laysRuns_69 : decode cX8_laysRuns 69 = .ok (.lastore, 1) := by decide +kernel
theorem dX8_laysRuns_70 : decode cX8_laysRuns 70 = .ok (.aload_n 0, 1) := by decide +kernel
theorem dX8_laysRuns_71 : decode cX8_laysRuns 71 = .ok (.getfield 35, 3) := by decide +kernel
theorem dX8_laysRuns_74 : decode cX8_laysRuns 74 = .ok (.iconst 4, 1) := by decide +kernel
theorem dX8_laysRuns_75 : decode cX8_laysRuns 75 = .ok (.iload_n 2, 1) := by decide +kernel
theorem dX8_laysRuns_76 : decode cX8_laysRuns 76 = .ok (.imul, 1) := by decide +kernel
theorem dX8_laysRuns_77 : decode cX8_laysRuns 77 = .ok (.iload_n 3, 1) := by decide +kernel
theorem dX8_laysRuns_78 : decode cX8_laysRuns 78 = .ok (.iadd, 1) := by decide +kernel
theorem dX8_laysRuns_79 : decode cX8_laysRuns 79 = .ok (.lconst 1, 1) := by decide +kernel
theorem dX8_laysRuns_80 : decode cX8_laysRuns 80 = .ok (.lastore, 1) := by decide +kernel
theorem dX8_laysRuns_81 : decode cX8_laysRuns 81 = .ok (.iinc 3 1, 3) := by decide +kernel
theorem dX8_laysRuns_84 : decode cX8_laysRuns 84 = .ok (.goto (-74), 3) := by decide +kernel
theorem dX8_laysRuns_87 : decode cX8_laysRuns 87 = .ok (.iconst 1, 1) := by decide +kernel
theorem dX8_laysRuns_88 : decode cX8_laysRuns 88 = .ok (.istore_n 3, 1) := by decide +kernel
theorem dX8_laysRuns_89 : decode cX8_laysRuns 89 = .ok (.iload_n 3, 1) := by decide +kernel
theorem dX8_laysRuns_90 : decode cX8_laysRuns 90 = .ok (.iload_n 2, 1) := by decide +kernel
theorem dX8_laysRuns_91 : decode cX8_laysRuns 91 = .ok (.if_icmp .gt 107, 3) := by decide +kernel
theorem dX8_laysRuns_94 : decode cX8_laysRuns 94 = .ok (.iconst 0, 1) := by decide +kernel
theorem dX8_laysRuns_95 : decode cX8_laysRuns 95 = .ok (.istore 4, 2) := by decide +kernel
theorem dX8_laysRuns_97 : decode cX8_laysRuns 97 = .ok (.iload 4, 2) := by decide +kernel
theorem dX8_laysRuns_99 : decode cX8_laysRuns 99 = .ok (.aload_n 0, 1) := by decide +kernel
theorem dX8_laysRuns_100 : decode cX8_laysRuns 100 = .ok (.getfield 7, 3) := by decide +kernel
theorem dX8_laysRuns_103 : decode cX8_laysRuns 103 = .ok (.iconst 0, 1) := by decide +kernel
theorem dX8_laysRuns_104 : decode cX8_laysRuns 104 = .ok (.iaload, 1) := by decide +kernel
theorem dX8_laysRuns_105 : decode cX8_laysRuns 105 = .ok (.if_icmp .ge 87, 3) := by decide +kernel
theorem dX8_laysRuns_108 : decode cX8_laysRuns 108 = .ok (.lconst 0, 1) := by decide +kernel
theorem dX8_laysRuns_109 : decode cX8_laysRuns 109 = .ok (.lstore 5, 2) := by decide +kernel
theorem dX8_laysRuns_111 : decode cX8_laysRuns 111 = .ok (.iconst 0, 1) := by decide +kernel
theorem dX8_laysRuns_112 : decode cX8_laysRuns 112 = .ok (.istore 7, 2) := by decide +kernel
theorem dX8_laysRuns_114 : decode cX8_laysRuns 114 = .ok (.iload 7, 2) := by decide +kernel
theorem dX8_laysRuns_116 : decode cX8_laysRuns 116 = .ok (.aload_n 0, 1) := by decide +kernel
theorem dX8_laysRuns_117 : decode cX8_laysRuns 117 = .ok (.getfield 7, 3) := by decide +kernel
theorem dX8_laysRuns_120 : decode cX8_laysRuns 120 = .ok (.iconst 0, 1) := by decide +kernel
theorem dX8_laysRuns_121 : decode cX8_laysRuns 121 = .ok (.iaload, 1) := by decide +kernel
theorem dX8_laysRuns_122 : decode cX8_laysRuns 122 = .ok (.if_icmp .ge 37, 3) := by decide +kernel
theorem dX8_laysRuns_125 : decode cX8_laysRuns 125 = .ok (.lload 5, 2) := by decide +kernel
theorem dX8_laysRuns_127 : decode cX8_laysRuns 127 = .ok (.aload_n 0, 1) := by decide +kernel
theorem dX8_laysRuns_128 : decode cX8_laysRuns 128 = .ok (.getfield 25, 3) := by decide +kernel
theorem dX8_laysRuns_131 : decode cX8_laysRuns 131 = .ok (.iconst 4, 1) := by decide +kernel
theorem dX8_laysRuns_132 : decode cX8_laysRuns 132 = .ok (.iload_n 3, 1) := by decide +kernel
theorem dX8_laysRuns_133 : decode cX8_laysRuns 133 = .ok (.imul, 1) := by decide +kernel
theorem dX8_laysRuns_134 : decode cX8_laysRuns 134 = .ok (.iconst 4, 1) := by decide +kernel
theorem dX8_laysRuns_135 : decode cX8_laysRuns 135 = .ok (.isub, 1) := by decide +kernel
theorem dX8_laysRuns_136 : decode cX8_laysRuns 136 = .ok (.iload 7, 2) := by decide +kernel
theorem dX8_laysRuns_138 : decode cX8_laysRuns 138 = .ok (.iadd, 1) := by decide +kernel
theorem dX8_laysRuns_139 : decode cX8_laysRuns 139 = .ok (.laload, 1) := by decide +kernel
theorem dX8_laysRuns_140 : decode cX8_laysRuns 140 = .ok (.aload_n 0, 1) := by decide +kernel
theorem dX8_laysRuns_141 : decode cX8_laysRuns 141 = .ok (.iload 7, 2) := by decide +kernel
theorem dX8_laysRuns_143 : decode cX8_laysRuns 143 = .ok (.iload 4, 2) := by decide +kernel
theorem dX8_laysRuns_145 : decode cX8_laysRuns 145 = .ok (.invokevirtual 76, 3) := by decide +kernel
theorem dX8_laysRuns_148 : decode cX8_laysRuns 148 = .ok (.i2l, 1) := by decide +kernel
theorem dX8_laysRuns_149 : decode cX8_laysRuns 149 = .ok (.lmul, 1) := by decide +kernel
theorem dX8_laysRuns_150 : decode cX8_laysRuns 150 = .ok (.ladd, 1) := by decide +kernel
theorem dX8_laysRuns_151 : decode cX8_laysRuns 151 = .ok (.lstore 5, 2) := by decide +kernel
theorem dX8_laysRuns_153 : decode cX8_laysRuns 153 = .ok (.iinc 7 1, 3) := by decide +kernel
theorem dX8_laysRuns_156 : decode cX8_laysRuns 156 = .ok (.goto (-42), 3) := by decide +kernel
theorem dX8_laysRuns_159 : decode cX8_laysRuns 159 = .ok (.aload_n 0, 1) := by decide +kernel
theorem dX8_laysRuns_160 : decode cX8_laysRuns 160 = .ok (.getfield 25, 3) := by decide +kernel
theorem dX8_laysRuns_163 : decode cX8_laysRuns 163 = .ok (.iconst 4, 1) := by decide +kernel
theorem dX8_laysRuns_164 : decode cX8_laysRuns 164 = .ok (.iload_n 3, 1) := by decide +kernel
theorem dX8_laysRuns_165 : decode cX8_laysRuns 165 = .ok (.imul, 1) := by decide +kernel
theorem dX8_laysRuns_166 : decode cX8_laysRuns 166 = .ok (.iload 4, 2) := by decide +kernel
theorem dX8_laysRuns_168 : decode cX8_laysRuns 168 = .ok (.iadd, 1) := by decide +kernel
theorem dX8_laysRuns_169 : decode cX8_laysRuns 169 = .ok (.lload 5, 2) := by decide +kernel
theorem dX8_laysRuns_171 : decode cX8_laysRuns 171 = .ok (.aload_n 0, 1) := by decide +kernel
theorem dX8_laysRuns_172 : decode cX8_laysRuns 172 = .ok (.iload 4, 2) := by decide +kernel
theorem dX8_laysRuns_174 : decode cX8_laysRuns 174 = .ok (.aload_n 0, 1) := by decide +kernel
theorem dX8_laysRuns_175 : decode cX8_laysRuns 175 = .ok (.iload_n 1, 1) := by decide +kernel
theorem dX8_laysRuns_176 : decode cX8_laysRuns 176 = .ok (.iload_n 3, 1) := by decide +kernel
theorem dX8_laysRuns_177 : decode cX8_laysRuns 177 = .ok (.invokevirtual 69, 3) := by decide +kernel
theorem dX8_laysRuns_180 : decode cX8_laysRuns 180 = .ok (.invokevirtual 73, 3) := by decide +kernel
theorem dX8_laysRuns_183 : decode cX8_laysRuns 183 = .ok (.i2l, 1) := by decide +kernel
theorem dX8_laysRuns_184 : decode cX8_laysRuns 184 = .ok (.lmul, 1) := by decide +kernel
theorem dX8_laysRuns_185 : decode cX8_laysRuns 185 = .ok (.lastore, 1) := by decide +kernel
theorem dX8_laysRuns_186 : decode cX8_laysRuns 186 = .ok (.iinc 4 1, 3) := by decide +kernel
theorem dX8_laysRuns_189 : decode cX8_laysRuns 189 = .ok (.goto (-92), 3) := by decide +kernel
theorem dX8_laysRuns_192 : decode cX8_laysRuns 192 = .ok (.iinc 3 1, 3) := by decide +kernel
theorem dX8_laysRuns_195 : decode cX8_laysRuns 195 = .ok (.goto (-106), 3) := by decide +kernel
theorem dX8_laysRuns_198 : decode cX8_laysRuns 198 = .ok (.iload_n 2, 1) := by decide +kernel
theorem dX8_laysRuns_199 : decode cX8_laysRuns 199 = .ok (.iconst 1, 1) := by decide +kernel
theorem dX8_laysRuns_200 : decode cX8_laysRuns 200 = .ok (.isub, 1) := by decide +kernel
theorem dX8_laysRuns_201 : decode cX8_laysRuns 201 = .ok (.istore_n 3, 1) := by decide +kernel
theorem dX8_laysRuns_202 : decode cX8_laysRuns 202 = .ok (.iload_n 3, 1) := by decide +kernel
theorem dX8_laysRuns_203 : decode cX8_laysRuns 203 = .ok (.ifCond .lt 37, 3) := by decide +kernel
theorem dX8_laysRuns_206 : decode cX8_laysRuns 206 = .ok (.iconst 0, 1) := by decide +kernel
theorem dX8_laysRuns_207 : decode cX8_laysRuns 207 = .ok (.istore 4, 2) := by decide +kernel
theorem dX8_laysRuns_209 : decode cX8_laysRuns 209 = .ok (.iload 4, 2) := by decide +kernel
theorem dX8_laysRuns_211 : decode cX8_laysRuns 211 = .ok (.aload_n 0, 1) := by decide +kernel
theorem dX8_laysRuns_212 : decode cX8_laysRuns 212 = .ok (.getfield 7, 3) := by decide +kernel
theorem dX8_laysRuns_215 : decode cX8_laysRuns 215 = .ok (.iconst 0, 1) := by decide +kernel
theorem dX8_laysRuns_216 : decode cX8_laysRuns 216 = .ok (.iaload, 1) := by decide +kernel
theorem dX8_laysRuns_217 : decode cX8_laysRuns 217 = .ok (.if_icmp .ge 17, 3) := by decide +kernel
theorem dX8_laysRuns_220 : decode cX8_laysRuns 220 = .ok (.aload_n 0, 1) := by decide +kernel
theorem dX8_laysRuns_221 : decode cX8_laysRuns 221 = .ok (.iload_n 1, 1) := by decide +kernel
theorem dX8_laysRuns_222 : decode cX8_laysRuns 222 = .ok (.iload_n 3, 1) := by decide +kernel
theorem dX8_laysRuns_223 : decode cX8_laysRuns 223 = .ok (.iload 4, 2) := by decide +kernel
theorem dX8_laysRuns_225 : decode cX8_laysRuns 225 = .ok (.invokevirtual 79, 3) := by decide +kernel
theorem dX8_laysRuns_228 : decode cX8_laysRuns 228 = .ok (.iinc 4 1, 3) := by decide +kernel
theorem dX8_laysRuns_231 : decode cX8_laysRuns 231 = .ok (.goto (-22), 3) := by decide +kernel
theorem dX8_laysRuns_234 : decode cX8_laysRuns 234 = .ok (.iinc 3 (-1), 3) := by decide +kernel
theorem dX8_laysRuns_237 : decode cX8_laysRuns 237 = .ok (.goto (-35), 3) := by decide +kernel
theorem dX8_laysRuns_240 : decode cX8_laysRuns 240 = .ok (.return_, 1) := by decide +kernel
