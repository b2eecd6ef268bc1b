set_option maxHeartbeats 4000000 in
theorem cp_X8_fills0 (x : Cx) (h0 q1 : Nat) (v2 v3 v4 v5 v6 v7 v8 v9 v10 v11 v12 v13 v14 v15 v16 v17 v18 v19 : Value) (f : Nat → Int32) (hf : f 0 = nI 2) : CP x M_X8_fills 0 0 [.ref h0, .int (nI 0)] [(h0, .inr (8, [.int 0, .ref q1, v2, v3, v4, v5, v6, v7, v8, v9, v10, v11, v12, v13, v14, v15, v16, v17, v18, v19])), (q1, .inl (x_I x, 83, .inl f))] (fun w => w = [(h0, .inr (8, [.int 0, .ref q1, v2, v3, v4, v5, v6, v7, v8, v9, v10, v11, v12, v13, v14, v15, v16, v17, v18, v19])), (q1, .inl (x_I x, 83, .inl (upd (upd (upd (upd (upd (upd (upd (upd f 3 (nI 1)) 7 (nI 1)) 7 (nI 1)) 8 (nI 1)) 11 (nI 1)) 23 (nI 1)) 24 (nI 1)) 25 (nI 1))))]) := by
  refine CP.intro [some (.ref h0), some (.int (nI 0)), none] pn_X8_fills (Nat.le_of_ble_eq_true rfl) rfl ?_
  refine n_aload_n 1 rfl dX8_fills_0 rfl ?_
  refine n_get 4 (k := 1) 0 8 (.ref q1) rfl (by decide) (by decide) rfl dX8_fills_1 rfl fl_X8_7 ?_
  refine n_iconst 5 (nI 3) (by decide) dX8_fills_4 rfl ?_
  refine n_iload_n 6 rfl dX8_fills_5 rfl ?_
  refine n_iadd 7 (nI 3) dX8_fills_6 rfl (by decide) ?_
  refine n_iconst 8 (nI 1) (by decide) dX8_fills_7 rfl ?_
  refine n_iast 9 (k := 3) 1 [(h0, .inr (8, [.int 0, .ref q1, v2, v3, v4, v5, v6, v7, v8, v9, v10, v11, v12, v13, v14, v15, v16, v17, v18, v19])), (q1, .inl (x_I x, 83, .inl (upd f 3 (nI 1))))] rfl (by decide) (by decide) dX8_fills_8 rfl rfl ?_
  refine n_iconst 10 (nI 0) (by decide) dX8_fills_9 rfl ?_
  refine n_istore_n 11 [some (.ref h0), some (.int (nI 0)), some (.int (nI 0))] dX8_fills_10 rfl (by decide) rfl ?_
  refine n_iload_n 12 rfl dX8_fills_11 rfl ?_
  refine n_aload_n 13 rfl dX8_fills_12 rfl ?_
  refine n_get 16 (k := 1) 0 8 (.ref q1) rfl (by decide) (by decide) rfl dX8_fills_13 rfl fl_X8_7 ?_
  refine n_iconst 17 (nI 0) (by decide) dX8_fills_16 rfl ?_
  refine n_iald 18 (k := 0) (nI 2) 1 rfl (by decide) (by decide) hf dX8_fills_17 rfl ?_
  refine n_icmp_ge 55 21 dX8_fills_18 (by decide) rfl (by decide) (by decide) (fun h => absurd h (by decide)) (fun _ => ?_)
  refine n_aload_n 22 rfl dX8_fills_21 rfl ?_
  refine n_get 25 (k := 1) 0 8 (.ref q1) rfl (by decide) (by decide) rfl dX8_fills_22 rfl fl_X8_7 ?_
  refine n_bipush 27 (nI 7) (by decide) dX8_fills_25 rfl ?_
  refine n_iconst 28 (nI 4) (by decide) dX8_fills_27 rfl ?_
  refine n_iload_n 29 rfl dX8_fills_28 rfl ?_
  refine n_imul 30 (nI 0) dX8_fills_29 rfl (by decide) ?_
  refine n_iadd 31 (nI 7) dX8_fills_30 rfl (by decide) ?_
  refine n_iload_n 32 rfl dX8_fills_31 rfl ?_
  refine n_iadd 33 (nI 7) dX8_fills_32 rfl (by decide) ?_
  refine n_iconst 34 (nI 1) (by decide) dX8_fills_33 rfl ?_
  refine n_iast 35 (k := 7) 1 [(h0, .inr (8, [.int 0, .ref q1, v2, v3, v4, v5, v6, v7, v8, v9, v10, v11, v12, v13, v14, v15, v16, v17, v18, v19])), (q1, .inl (x_I x, 83, .inl (upd (upd f 3 (nI 1)) 7 (nI 1))))] rfl (by decide) (by decide) dX8_fills_34 rfl rfl ?_
  refine n_aload_n 36 rfl dX8_fills_35 rfl ?_
  refine n_get 39 (k := 1) 0 8 (.ref q1) rfl (by decide) (by decide) rfl dX8_fills_36 rfl fl_X8_7 ?_
  refine n_bipush 41 (nI 7) (by decide) dX8_fills_39 rfl ?_
  refine n_iconst 42 (nI 4) (by decide) dX8_fills_41 rfl ?_
  refine n_iload_n 43 rfl dX8_fills_42 rfl ?_
  refine n_imul 44 (nI 0) dX8_fills_43 rfl (by decide) ?_
  refine n_iadd 45 (nI 7) dX8_fills_44 rfl (by decide) ?_
  refine n_iload_n 46 rfl dX8_fills_45 rfl ?_
  refine n_iadd 47 (nI 7) dX8_fills_46 rfl (by decide) ?_
  refine n_iconst 48 (nI 1) (by decide) dX8_fills_47 rfl ?_
  refine n_iast 49 (k := 7) 1 [(h0, .inr (8, [.int 0, .ref q1, v2, v3, v4, v5, v6, v7, v8, v9, v10, v11, v12, v13, v14, v15, v16, v17, v18, v19])), (q1, .inl (x_I x, 83, .inl (upd (upd (upd f 3 (nI 1)) 7 (nI 1)) 7 (nI 1))))] rfl (by decide) (by decide) dX8_fills_48 rfl rfl ?_
  refine n_iinc 52 [some (.ref h0), some (.int (nI 0)), some (.int (nI 1))] (nI 1) dX8_fills_49 rfl (by decide) rfl (by decide) rfl ?_
  refine n_goto 11 dX8_fills_52 (by decide) ?_
  refine n_iload_n 12 rfl dX8_fills_11 rfl ?_
  refine n_aload_n 13 rfl dX8_fills_12 rfl ?_
  refine n_get 16 (k := 1) 0 8 (.ref q1) rfl (by decide) (by decide) rfl dX8_fills_13 rfl fl_X8_7 ?_
  refine n_iconst 17 (nI 0) (by decide) dX8_fills_16 rfl ?_
  refine n_iald 18 (k := 0) (nI 2) 1 rfl (by decide) (by decide) hf dX8_fills_17 rfl ?_
  refine n_icmp_ge 55 21 dX8_fills_18 (by decide) rfl (by decide) (by decide) (fun h => absurd h (by decide)) (fun _ => ?_)
  refine n_aload_n 22 rfl dX8_fills_21 rfl ?_
  refine n_get 25 (k := 1) 0 8 (.ref q1) rfl (by decide) (by decide) rfl dX8_fills_22 rfl fl_X8_7 ?_
  refine n_bipush 27 (nI 7) (by decide) dX8_fills_25 rfl ?_
  refine n_iconst 28 (nI 4) (by decide) dX8_fills_27 rfl ?_
  refine n_iload_n 29 rfl dX8_fills_28 rfl ?_
  refine n_imul 30 (nI 0) dX8_fills_29 rfl (by decide) ?_
  refine n_iadd 31 (nI 7) dX8_fills_30 rfl (by decide) ?_
  refine n_iload_n 32 rfl dX8_fills_31 rfl ?_
  refine n_iadd 33 (nI 8) dX8_fills_32 rfl (by decide) ?_
  refine n_iconst 34 (nI 1) (by decide) dX8_fills_33 rfl ?_
  refine n_iast 35 (k := 8) 1 [(h0, .inr (8, [.int 0, .ref q1, v2, v3, v4, v5, v6, v7, v8, v9, v10, v11, v12, v13, v14, v15, v16, v17, v18, v19])), (q1, .inl (x_I x, 83, .inl (upd (upd (upd (upd f 3 (nI 1)) 7 (nI 1)) 7 (nI 1)) 8 (nI 1))))] rfl (by decide) (by decide) dX8_fills_34 rfl rfl ?_
  refine n_aload_n 36 rfl dX8_fills_35 rfl ?_
  refine n_get 39 (k := 1) 0 8 (.ref q1) rfl (by decide) (by decide) rfl dX8_fills_36 rfl fl_X8_7 ?_
  refine n_bipush 41 (nI 7) (by decide) dX8_fills_39 rfl ?_
  refine n_iconst 42 (nI 4) (by decide) dX8_fills_41 rfl ?_
  refine n_iload_n 43 rfl dX8_fills_42 rfl ?_
  refine n_imul 44 (nI 4) dX8_fills_43 rfl (by decide) ?_
  refine n_iadd 45 (nI 11) dX8_fills_44 rfl (by decide) ?_
  refine n_iload_n 46 rfl dX8_fills_45 rfl ?_
  refine n_iadd 47 (nI 11) dX8_fills_46 rfl (by decide) ?_
  refine n_iconst 48 (nI 1) (by decide) dX8_fills_47 rfl ?_
  refine n_iast 49 (k := 11) 1 [(h0, .inr (8, [.int 0, .ref q1, v2, v3, v4, v5, v6, v7, v8, v9, v10, v11, v12, v13, v14, v15, v16, v17, v18, v19])), (q1, .inl (x_I x, 83, .inl (upd (upd (upd (upd (upd f 3 (nI 1)) 7 (nI 1)) 7 (nI 1)) 8 (nI 1)) 11 (nI 1))))] rfl (by decide) (by decide) dX8_fills_48 rfl rfl ?_
  refine n_iinc 52 [some (.ref h0), some (.int (nI 0)), some (.int (nI 2))] (nI 2) dX8_fills_49 rfl (by decide) rfl (by decide) rfl ?_
  refine n_goto 11 dX8_fills_52 (by decide) ?_
  refine n_iload_n 12 rfl dX8_fills_11 rfl ?_
  refine n_aload_n 13 rfl dX8_fills_12 rfl ?_
  refine n_get 16 (k := 1) 0 8 (.ref q1) rfl (by decide) (by decide) rfl dX8_fills_13 rfl fl_X8_7 ?_
  refine n_iconst 17 (nI 0) (by decide) dX8_fills_16 rfl ?_
  refine n_iald 18 (k := 0) (nI 2) 1 rfl (by decide) (by decide) hf dX8_fills_17 rfl ?_
  refine n_icmp_ge 55 21 dX8_fills_18 (by decide) rfl (by decide) (by decide) (fun _ => ?_) (fun h => absurd h (by decide))
  refine n_iconst 56 (nI 0) (by decide) dX8_fills_55 rfl ?_
  refine n_istore_n 57 [some (.ref h0), some (.int (nI 0)), some (.int (nI 0))] dX8_fills_56 rfl (by decide) rfl ?_
  refine n_iload_n 58 rfl dX8_fills_57 rfl ?_
  refine n_iconst 59 (nI 3) (by decide) dX8_fills_58 rfl ?_
  refine n_icmp_ge 82 62 dX8_fills_59 (by decide) rfl (by decide) (by decide) (fun h => absurd h (by decide)) (fun _ => ?_)
  refine n_aload_n 63 rfl dX8_fills_62 rfl ?_
  refine n_get 66 (k := 1) 0 8 (.ref q1) rfl (by decide) (by decide) rfl dX8_fills_63 rfl fl_X8_7 ?_
  refine n_bipush 68 (nI 23) (by decide) dX8_fills_66 rfl ?_
  refine n_iconst 69 (nI 3) (by decide) dX8_fills_68 rfl ?_
  refine n_iload_n 70 rfl dX8_fills_69 rfl ?_
  refine n_imul 71 (nI 0) dX8_fills_70 rfl (by decide) ?_
  refine n_iadd 72 (nI 23) dX8_fills_71 rfl (by decide) ?_
  refine n_iload_n 73 rfl dX8_fills_72 rfl ?_
  refine n_iadd 74 (nI 23) dX8_fills_73 rfl (by decide) ?_
  refine n_iconst 75 (nI 1) (by decide) dX8_fills_74 rfl ?_
  refine n_iast 76 (k := 23) 1 [(h0, .inr (8, [.int 0, .ref q1, v2, v3, v4, v5, v6, v7, v8, v9, v10, v11, v12, v13, v14, v15, v16, v17, v18, v19])), (q1, .inl (x_I x, 83, .inl (upd (upd (upd (upd (upd (upd f 3 (nI 1)) 7 (nI 1)) 7 (nI 1)) 8 (nI 1)) 11 (nI 1)) 23 (nI 1))))] rfl (by decide) (by decide) dX8_fills_75 rfl rfl ?_
  refine n_iinc 79 [some (.ref h0), some (.int (nI 0)), some (.int (nI 1))] (nI 1) dX8_fills_76 rfl (by decide) rfl (by decide) rfl ?_
  refine n_goto 57 dX8_fills_79 (by decide) ?_
  refine n_iload_n 58 rfl dX8_fills_57 rfl ?_
  refine n_iconst 59 (nI 3) (by decide) dX8_fills_58 rfl ?_
  refine n_icmp_ge 82 62 dX8_fills_59 (by decide) rfl (by decide) (by decide) (fun h => absurd h (by decide)) (fun _ => ?_)
  refine n_aload_n 63 rfl dX8_fills_62 rfl ?_
  refine n_get 66 (k := 1) 0 8 (.ref q1) rfl (by decide) (by decide) rfl dX8_fills_63 rfl fl_X8_7 ?_
  refine n_bipush 68 (nI 23) (by decide) dX8_fills_66 rfl ?_
  refine n_iconst 69 (nI 3) (by decide) dX8_fills_68 rfl ?_
  refine n_iload_n 70 rfl dX8_fills_69 rfl ?_
  refine n_imul 71 (nI 0) dX8_fills_70 rfl (by decide) ?_
  refine n_iadd 72 (nI 23) dX8_fills_71 rfl (by decide) ?_
  refine n_iload_n 73 rfl dX8_fills_72 rfl ?_
  refine n_iadd 74 (nI 24) dX8_fills_73 rfl (by decide) ?_
  refine n_iconst 75 (nI 1) (by decide) dX8_fills_74 rfl ?_
  refine n_iast 76 (k := 24) 1 [(h0, .inr (8, [.int 0, .ref q1, v2, v3, v4, v5, v6, v7, v8, v9, v10, v11, v12, v13, v14, v15, v16, v17, v18, v19])), (q1, .inl (x_I x, 83, .inl (upd (upd (upd (upd (upd (upd (upd f 3 (nI 1)) 7 (nI 1)) 7 (nI 1)) 8 (nI 1)) 11 (nI 1)) 23 (nI 1)) 24 (nI 1))))] rfl (by decide) (by decide) dX8_fills_75 rfl rfl ?_
  refine n_iinc 79 [some (.ref h0), some (.int (nI 0)), some (.int (nI 2))] (nI 2) dX8_fills_76 rfl (by decide) rfl (by decide) rfl ?_
  refine n_goto 57 dX8_fills_79 (by decide) ?_
  refine n_iload_n 58 rfl dX8_fills_57 rfl ?_
  refine n_iconst 59 (nI 3) (by decide) dX8_fills_58 rfl ?_
  refine n_icmp_ge 82 62 dX8_fills_59 (by decide) rfl (by decide) (by decide) (fun h => absurd h (by decide)) (fun _ => ?_)
  refine n_aload_n 63 rfl dX8_fills_62 rfl ?_
  refine n_get 66 (k := 1) 0 8 (.ref q1) rfl (by decide) (by decide) rfl dX8_fills_63 rfl fl_X8_7 ?_
  refine n_bipush 68 (nI 23) (by decide) dX8_fills_66 rfl ?_
  refine n_iconst 69 (nI 3) (by decide) dX8_fills_68 rfl ?_
  refine n_iload_n 70 rfl dX8_fills_69 rfl ?_
  refine n_imul 71 (nI 0) dX8_fills_70 rfl (by decide) ?_
  refine n_iadd 72 (nI 23) dX8_fills_71 rfl (by decide) ?_
  refine n_iload_n 73 rfl dX8_fills_72 rfl ?_
  refine n_iadd 74 (nI 25) dX8_fills_73 rfl (by decide) ?_
  refine n_iconst 75 (nI 1) (by decide) dX8_fills_74 rfl ?_
  refine n_iast 76 (k := 25) 1 [(h0, .inr (8, [.int 0, .ref q1, v2, v3, v4, v5, v6, v7, v8, v9, v10, v11, v12, v13, v14, v15, v16, v17, v18, v19])), (q1, .inl (x_I x, 83, .inl (upd (upd (upd (upd (upd (upd (upd (upd f 3 (nI 1)) 7 (nI 1)) 7 (nI 1)) 8 (nI 1)) 11 (nI 1)) 23 (nI 1)) 24 (nI 1)) 25 (nI 1))))] rfl (by decide) (by decide) dX8_fills_75 rfl rfl ?_
  refine n_iinc 79 [some (.ref h0), some (.int (nI 0)), some (.int (nI 3))] (nI 3) dX8_fills_76 rfl (by decide) rfl (by decide) rfl ?_
  refine n_goto 57 dX8_fills_79 (by decide) ?_
  refine n_iload_n 58 rfl dX8_fills_57 rfl ?_
  refine n_iconst 59 (nI 3) (by decide) dX8_fills_58 rfl ?_
  refine n_icmp_ge 82 62 dX8_fills_59 (by decide) rfl (by decide) (by decide) (fun _ => ?_) (fun h => absurd h (by decide))
  exact n_vret rfl rfl rfl dX8_fills_82 rfl
set_option maxHeartbeats 4000000 in
theorem cp_X8_fills1 (x : Cx) (h0 q1 : Nat) (v2 v3 v4 v5 v6 v7 v8 v9 v10 v11 v12 v13 v14 v15 v16 v17 v18 v19 : Value) (f : Nat → Int32) (hf : f 0 = nI 2) : CP x M_X8_fills 0 0 [.ref h0, .int (nI 1)] [(h0, .inr (8, [.int 0, .ref q1, v2, v3, v4, v5, v6, v7, v8, v9, v10, v11, v12, v13, v14, v15, v16, v17, v18, v19])), (q1, .inl (x_I x, 83, .inl f))] (fun w => w = [(h0, .inr (8, [.int 0, .ref q1, v2, v3, v4, v5, v6, v7, v8, v9, v10, v11, v12, v13, v14, v15, v16, v17, v18, v19])), (q1, .inl (x_I x, 83, .inl (upd (upd (upd (upd (upd (upd (upd (upd f 4 (nI 1)) 11 (nI 1)) 8 (nI 1)) 12 (nI 1)) 12 (nI 1)) 26 (nI 1)) 27 (nI 1)) 28 (nI 1))))]) := by
  refine CP.intro [some (.ref h0), some (.int (nI 1)), none] pn_X8_fills (Nat.le_of_ble_eq_true rfl) rfl ?_
  refine n_aload_n 1 rfl dX8_fills_0 rfl ?_
  refine n_get 4 (k := 1) 0 8 (.ref q1) rfl (by decide) (by decide) rfl dX8_fills_1 rfl fl_X8_7 ?_
  refine n_iconst 5 (nI 3) (by decide) dX8_fills_4 rfl ?_
  refine n_iload_n 6 rfl dX8_fills_5 rfl ?_
  refine n_iadd 7 (nI 4) dX8_fills_6 rfl (by decide) ?_
  refine n_iconst 8 (nI 1) (by decide) dX8_fills_7 rfl ?_
  refine n_iast 9 (k := 4) 1 [(h0, .inr (8, [.int 0, .ref q1, v2, v3, v4, v5, v6, v7, v8, v9, v10, v11, v12, v13, v14, v15, v16, v17, v18, v19])), (q1, .inl (x_I x, 83, .inl (upd f 4 (nI 1))))] rfl (by decide) (by decide) dX8_fills_8 rfl rfl ?_
  refine n_iconst 10 (nI 0) (by decide) dX8_fills_9 rfl ?_
  refine n_istore_n 11 [some (.ref h0), some (.int (nI 1)), some (.int (nI 0))] dX8_fills_10 rfl (by decide) rfl ?_
  refine n_iload_n 12 rfl dX8_fills_11 rfl ?_
  refine n_aload_n 13 rfl dX8_fills_12 rfl ?_
  refine n_get 16 (k := 1) 0 8 (.ref q1) rfl (by decide) (by decide) rfl dX8_fills_13 rfl fl_X8_7 ?_
  refine n_iconst 17 (nI 0) (by decide) dX8_fills_16 rfl ?_
  refine n_iald 18 (k := 0) (nI 2) 1 rfl (by decide) (by decide) hf dX8_fills_17 rfl ?_
  refine n_icmp_ge 55 21 dX8_fills_18 (by decide) rfl (by decide) (by decide) (fun h => absurd h (by decide)) (fun _ => ?_)
  refine n_aload_n 22 rfl dX8_fills_21 rfl ?_
  refine n_get 25 (k := 1) 0 8 (.ref q1) rfl (by decide) (by decide) rfl dX8_fills_22 rfl fl_X8_7 ?_
  refine n_bipush 27 (nI 7) (by decide) dX8_fills_25 rfl ?_
  refine n_iconst 28 (nI 4) (by decide) dX8_fills_27 rfl ?_
  refine n_iload_n 29 rfl dX8_fills_28 rfl ?_
  refine n_imul 30 (nI 4) dX8_fills_29 rfl (by decide) ?_
  refine n_iadd 31 (nI 11) dX8_fills_30 rfl (by decide) ?_
  refine n_iload_n 32 rfl dX8_fills_31 rfl ?_
  refine n_iadd 33 (nI 11) dX8_fills_32 rfl (by decide) ?_
  refine n_iconst 34 (nI 1) (by decide) dX8_fills_33 rfl ?_
  refine n_iast 35 (k := 11) 1 [(h0, .inr (8, [.int 0, .ref q1, v2, v3, v4, v5, v6, v7, v8, v9, v10, v11, v12, v13, v14, v15, v16, v17, v18, v19])), (q1, .inl (x_I x, 83, .inl (upd (upd f 4 (nI 1)) 11 (nI 1))))] rfl (by decide) (by decide) dX8_fills_34 rfl rfl ?_
  refine n_aload_n 36 rfl dX8_fills_35 rfl ?_
  refine n_get 39 (k := 1) 0 8 (.ref q1) rfl (by decide) (by decide) rfl dX8_fills_36 rfl fl_X8_7 ?_
  refine n_bipush 41 (nI 7) (by decide) dX8_fills_39 rfl ?_
  refine n_iconst 42 (nI 4) (by decide) dX8_fills_41 rfl ?_
  refine n_iload_n 43 rfl dX8_fills_42 rfl ?_
  refine n_imul 44 (nI 0) dX8_fills_43 rfl (by decide) ?_
  refine n_iadd 45 (nI 7) dX8_fills_44 rfl (by decide) ?_
  refine n_iload_n 46 rfl dX8_fills_45 rfl ?_
  refine n_iadd 47 (nI 8) dX8_fills_46 rfl (by decide) ?_
  refine n_iconst 48 (nI 1) (by decide) dX8_fills_47 rfl ?_
  refine n_iast 49 (k := 8) 1 [(h0, .inr (8, [.int 0, .ref q1, v2, v3, v4, v5, v6, v7, v8, v9, v10, v11, v12, v13, v14, v15, v16, v17, v18, v19])), (q1, .inl (x_I x, 83, .inl (upd (upd (upd f 4 (nI 1)) 11 (nI 1)) 8 (nI 1))))] rfl (by decide) (by decide) dX8_fills_48 rfl rfl ?_
  refine n_iinc 52 [some (.ref h0), some (.int (nI 1)), some (.int (nI 1))] (nI 1) dX8_fills_49 rfl (by decide) rfl (by decide) rfl ?_
  refine n_goto 11 dX8_fills_52 (by decide) ?_
  refine n_iload_n 12 rfl dX8_fills_11 rfl ?_
  refine n_aload_n 13 rfl dX8_fills_12 rfl ?_
  refine n_get 16 (k := 1) 0 8 (.ref q1) rfl (by decide) (by decide) rfl dX8_fills_13 rfl fl_X8_7 ?_
  refine n_iconst 17 (nI 0) (by decide) dX8_fills_16 rfl ?_
  refine n_iald 18 (k := 0) (nI 2) 1 rfl (by decide) (by decide) hf dX8_fills_17 rfl ?_
  refine n_icmp_ge 55 21 dX8_fills_18 (by decide) rfl (by decide) (by decide) (fun h => absurd h (by decide)) (fun _ => ?_)
  refine n_aload_n 22 rfl dX8_fills_21 rfl ?_
  refine n_get 25 (k := 1) 0 8 (.ref q1) rfl (by decide) (by decide) rfl dX8_fills_22 rfl fl_X8_7 ?_
  refine n_bipush 27 (nI 7) (by decide) dX8_fills_25 rfl ?_
  refine n_iconst 28 (nI 4) (by decide) dX8_fills_27 rfl ?_
  refine n_iload_n 29 rfl dX8_fills_28 rfl ?_
  refine n_imul 30 (nI 4) dX8_fills_29 rfl (by decide) ?_
  refine n_iadd 31 (nI 11) dX8_fills_30 rfl (by decide) ?_
  refine n_iload_n 32 rfl dX8_fills_31 rfl ?_
  refine n_iadd 33 (nI 12) dX8_fills_32 rfl (by decide) ?_
  refine n_iconst 34 (nI 1) (by decide) dX8_fills_33 rfl ?_
  refine n_iast 35 (k := 12) 1 [(h0, .inr (8, [.int 0, .ref q1, v2, v3, v4, v5, v6, v7, v8, v9, v10, v11, v12, v13, v14, v15, v16, v17, v18, v19])), (q1, .inl (x_I x, 83, .inl (upd (upd (upd (upd f 4 (nI 1)) 11 (nI 1)) 8 (nI 1)) 12 (nI 1))))] rfl (by decide) (by decide) dX8_fills_34 rfl rfl ?_
  refine n_aload_n 36 rfl dX8_fills_35 rfl ?_
  refine n_get 39 (k := 1) 0 8 (.ref q1) rfl (by decide) (by decide) rfl dX8_fills_36 rfl fl_X8_7 ?_
  refine n_bipush 41 (nI 7) (by decide) dX8_fills_39 rfl ?_
  refine n_iconst 42 (nI 4) (by decide) dX8_fills_41 rfl ?_
  refine n_iload_n 43 rfl dX8_fills_42 rfl ?_
  refine n_imul 44 (nI 4) dX8_fills_43 rfl (by decide) ?_
  refine n_iadd 45 (nI 11) dX8_fills_44 rfl (by decide) ?_
  refine n_iload_n 46 rfl dX8_fills_45 rfl ?_
  refine n_iadd 47 (nI 12) dX8_fills_46 rfl (by decide) ?_
  refine n_iconst 48 (nI 1) (by decide) dX8_fills_47 rfl ?_
  refine n_iast 49 (k := 12) 1 [(h0, .inr (8, [.int 0, .ref q1, v2, v3, v4, v5, v6, v7, v8, v9, v10, v11, v12, v13, v14, v15, v16, v17, v18, v19])), (q1, .inl (x_I x, 83, .inl (upd (upd (upd (upd (upd f 4 (nI 1)) 11 (nI 1)) 8 (nI 1)) 12 (nI 1)) 12 (nI 1))))] rfl (by decide) (by decide) dX8_fills_48 rfl rfl ?_
  refine n_iinc 52 [some (.ref h0), some (.int (nI 1)), some (.int (nI 2))] (nI 2) dX8_fills_49 rfl (by decide) rfl (by decide) rfl ?_
  refine n_goto 11 dX8_fills_52 (by decide) ?_
  refine n_iload_n 12 rfl dX8_fills_11 rfl ?_
  refine n_aload_n 13 rfl dX8_fills_12 rfl ?_
  refine n_get 16 (k := 1) 0 8 (.ref q1) rfl (by decide) (by decide) rfl dX8_fills_13 rfl fl_X8_7 ?_
  refine n_iconst 17 (nI 0) (by decide) dX8_fills_16 rfl ?_
  refine n_iald 18 (k := 0) (nI 2) 1 rfl (by decide) (by decide) hf dX8_fills_17 rfl ?_
  refine n_icmp_ge 55 21 dX8_fills_18 (by decide) rfl (by decide) (by decide) (fun _ => ?_) (fun h => absurd h (by decide))
  refine n_iconst 56 (nI 0) (by decide) dX8_fills_55 rfl ?_
  refine n_istore_n 57 [some (.ref h0), some (.int (nI 1)), some (.int (nI 0))] dX8_fills_56 rfl (by decide) rfl ?_
  refine n_iload_n 58 rfl dX8_fills_57 rfl ?_
  refine n_iconst 59 (nI 3) (by decide) dX8_fills_58 rfl ?_
  refine n_icmp_ge 82 62 dX8_fills_59 (by decide) rfl (by decide) (by decide) (fun h => absurd h (by decide)) (fun _ => ?_)
  refine n_aload_n 63 rfl dX8_fills_62 rfl ?_
  refine n_get 66 (k := 1) 0 8 (.ref q1) rfl (by decide) (by decide) rfl dX8_fills_63 rfl fl_X8_7 ?_
  refine n_bipush 68 (nI 23) (by decide) dX8_fills_66 rfl ?_
  refine n_iconst 69 (nI 3) (by decide) dX8_fills_68 rfl ?_
  refine n_iload_n 70 rfl dX8_fills_69 rfl ?_
  refine n_imul 71 (nI 3) dX8_fills_70 rfl (by decide) ?_
  refine n_iadd 72 (nI 26) dX8_fills_71 rfl (by decide) ?_
  refine n_iload_n 73 rfl dX8_fills_72 rfl ?_
  refine n_iadd 74 (nI 26) dX8_fills_73 rfl (by decide) ?_
  refine n_iconst 75 (nI 1) (by decide) dX8_fills_74 rfl ?_
  refine n_iast 76 (k := 26) 1 [(h0, .inr (8, [.int 0, .ref q1, v2, v3, v4, v5, v6, v7, v8, v9, v10, v11, v12, v13, v14, v15, v16, v17, v18, v19])), (q1, .inl (x_I x, 83, .inl (upd (upd (upd (upd (upd (upd f 4 (nI 1)) 11 (nI 1)) 8 (nI 1)) 12 (nI 1)) 12 (nI 1)) 26 (nI 1))))] rfl (by decide) (by decide) dX8_fills_75 rfl rfl ?_
  refine n_iinc 79 [some (.ref h0), some (.int (nI 1)), some (.int (nI 1))] (nI 1) dX8_fills_76 rfl (by decide) rfl (by decide) rfl ?_
  refine n_goto 57 dX8_fills_79 (by decide) ?_
  refine n_iload_n 58 rfl dX8_fills_57 rfl ?_
  refine n_iconst 59 (nI 3) (by decide) dX8_fills_58 rfl ?_
  refine n_icmp_ge 82 62 dX8_fills_59 (by decide) rfl (by decide) (by decide) (fun h => absurd h (by decide)) (fun _ => ?_)
  refine n_aload_n 63 rfl dX8_fills_62 rfl ?_
  refine n_get 66 (k := 1) 0 8 (.ref q1) rfl (by decide) (by decide) rfl dX8_fills_63 rfl fl_X8_7 ?_
  refine n_bipush 68 (nI 23) (by decide) dX8_fills_66 rfl ?_
  refine n_iconst 69 (nI 3) (by decide) dX8_fills_68 rfl ?_
  refine n_iload_n 70 rfl dX8_fills_69 rfl ?_
  refine n_imul 71 (nI 3) dX8_fills_70 rfl (by decide) ?_
  refine n_iadd 72 (nI 26) dX8_fills_71 rfl (by decide) ?_
  refine n_iload_n 73 rfl dX8_fills_72 rfl ?_
  refine n_iadd 74 (nI 27) dX8_fills_73 rfl (by decide) ?_
  refine n_iconst 75 (nI 1) (by decide) dX8_fills_74 rfl ?_
  refine n_iast 76 (k := 27) 1 [(h0, .inr (8, [.int 0, .ref q1, v2, v3, v4, v5, v6, v7, v8, v9, v10, v11, v12, v13, v14, v15, v16, v17, v18, v19])), (q1, .inl (x_I x, 83, .inl (upd (upd (upd (upd (upd (upd (upd f 4 (nI 1)) 11 (nI 1)) 8 (nI 1)) 12 (nI 1)) 12 (nI 1)) 26 (nI 1)) 27 (nI 1))))] rfl (by decide) (by decide) dX8_fills_75 rfl rfl ?_
  refine n_iinc 79 [some (.ref h0), some (.int (nI 1)), some (.int (nI 2))] (nI 2) dX8_fills_76 rfl (by decide) rfl (by decide) rfl ?_
  refine n_goto 57 dX8_fills_79 (by decide) ?_
  refine n_iload_n 58 rfl dX8_fills_57 rfl ?_
  refine n_iconst 59 (nI 3) (by decide) dX8_fills_58 rfl ?_
  refine n_icmp_ge 82 62 dX8_fills_59 (by decide) rfl (by decide) (by decide) (fun h => absurd h (by decide)) (fun _ => ?_)
  refine n_aload_n 63 rfl dX8_fills_62 rfl ?_
  refine n_get 66 (k := 1) 0 8 (.ref q1) rfl (by decide) (by decide) rfl dX8_fills_63 rfl fl_X8_7 ?_
  refine n_bipush 68 (nI 23) (by decide) dX8_fills_66 rfl ?_
  refine n_iconst 69 (nI 3) (by decide) dX8_fills_68 rfl ?_
  refine n_iload_n 70 rfl dX8_fills_69 rfl ?_
  refine n_imul 71 (nI 3) dX8_fills_70 rfl (by decide) ?_
  refine n_iadd 72 (nI 26) dX8_fills_71 rfl (by decide) ?_
  refine n_iload_n 73 rfl dX8_fills_72 rfl ?_
  refine n_iadd 74 (nI 28) dX8_fills_73 rfl (by decide) ?_
  refine n_iconst 75 (nI 1) (by decide) dX8_fills_74 rfl ?_
  refine n_iast 76 (k := 28) 1 [(h0, .inr (8, [.int 0, .ref q1, v2, v3, v4, v5, v6, v7, v8, v9, v10, v11, v12, v13, v14, v15, v16, v17, v18, v19])), (q1, .inl (x_I x, 83, .inl (upd (upd (upd (upd (upd (upd (upd (upd f 4 (nI 1)) 11 (nI 1)) 8 (nI 1)) 12 (nI 1)) 12 (nI 1)) 26 (nI 1)) 27 (nI 1)) 28 (nI 1))))] rfl (by decide) (by decide) dX8_fills_75 rfl rfl ?_
  refine n_iinc 79 [some (.ref h0), some (.int (nI 1)), some (.int (nI 3))] (nI 3) dX8_fills_76 rfl (by decide) rfl (by decide) rfl ?_
  refine n_goto 57 dX8_fills_79 (by decide) ?_
  refine n_iload_n 58 rfl dX8_fills_57 rfl ?_
  refine n_iconst 59 (nI 3) (by decide) dX8_fills_58 rfl ?_
  refine n_icmp_ge 82 62 dX8_fills_59 (by decide) rfl (by decide) (by decide) (fun _ => ?_) (fun h => absurd h (by decide))
  exact n_vret rfl rfl rfl dX8_fills_82 rfl
def w14 (x : Cx) (ad : Nat → Nat) (I : Iv) : va_W := (List.range 14).map (fun i => (ad (40 + i), cE (xA x ad) I (fun _ _ => 0) P0 (40 + i)))
abbrev S8 (I : Iv) : Prop := I 41 0 = nI 2 ∧ I 41 1 = nI 0 ∧ I 41 2 = nI 800 ∧ (I 41 3 = nI 1 ∧ I 41 4 = nI 1) ∧ (I 41 7 = nI 1 ∧ I 41 8 = nI 1 ∧ I 41 11 = nI 1 ∧ I 41 12 = nI 1) ∧ (I 41 23 = nI 1 ∧ I 41 24 = nI 1 ∧ I 41 25 = nI 1 ∧ I 41 26 = nI 1 ∧ I 41 27 = nI 1 ∧ I 41 28 = nI 1) ∧ I 40 4 = nI 0 ∧ I 40 6 = nI 0 ∧ I 40 8 = nI 0
abbrev R8 (x : Cx) (h0 : Nat) : va_W → Prop := fun w => ∃ (ad : Nat → Nat) (I : Iv), ad 40 = h0 ∧ S8 I ∧ w = w14 x ad I
set_option maxHeartbeats 4000000 in
theorem cp_X8_init (x : Cx) (h0 : Nat) : CP x M_X8_init 13 1049 [.ref h0] [(h0, .inr (8, [.int 0, .null, .null, .null, .int 0, .null, .int 0, .null, .int 0, .null, .null, .null, .null, .null, .null, .null, .int 0, .int 0, .null, .int 0]))] (R8 x h0) := by
  refine CP.intro [some (.ref h0), none] pn_X8_init (Nat.le_of_ble_eq_true rfl) rfl ?_
  refine n_aload_n 1 rfl dX8_init_0 rfl ?_
  refine n_obj 4 ml_X8_1 ⟨Nat.le_of_ble_eq_true rfl, Nat.le_of_ble_eq_true rfl⟩ dX8_init_1 rfl ?_
  refine n_aload_n 5 rfl dX8_init_4 rfl ?_
  refine n_bipush 7 (nI 83) (by decide) dX8_init_5 rfl ?_
  refine n_newi 9 (by decide) (Nat.le_of_ble_eq_true rfl) (Nat.le_of_ble_eq_true rfl) dX8_init_7 rfl (fun a1 => ?_)
  refine n_putF 12 (k := 1) rfl 0 8 (.array .int) [(h0, .inr (8, [.int 0, .ref a1, .null, .null, .int 0, .null, .int 0, .null, .int 0, .null, .null, .null, .null, .null, .null, .null, .int 0, .int 0, .null, .int 0])), (a1, .inl (x_I x, 83, .inl (fun _ => 0)))] rfl (by decide) (by decide) rfl rfl (by decide +kernel) rfl rfl (Nat.le_of_ble_eq_true rfl) dX8_init_9 rfl fl_X8_7 rfl ?_
  refine n_aload_n 13 rfl dX8_init_12 rfl ?_
  refine n_bipush 15 (nI 83) (by decide) dX8_init_13 rfl ?_
  refine n_newi 17 (by decide) (Nat.le_of_ble_eq_true rfl) (Nat.le_of_ble_eq_true rfl) dX8_init_15 rfl (fun a2 => ?_)
  refine n_putF 20 (k := 2) rfl 0 8 (.array .int) [(h0, .inr (8, [.int 0, .ref a1, .ref a2, .null, .int 0, .null, .int 0, .null, .int 0, .null, .null, .null, .null, .null, .null, .null, .int 0, .int 0, .null, .int 0])), (a1, .inl (x_I x, 83, .inl (fun _ => 0))), (a2, .inl (x_I x, 83, .inl (fun _ => 0)))] rfl (by decide) (by decide) rfl rfl (by decide +kernel) rfl rfl (Nat.le_of_ble_eq_true rfl) dX8_init_17 rfl fl_X8_13 rfl ?_
  refine n_aload_n 21 rfl dX8_init_20 rfl ?_
  refine n_sipush 24 (nI 332) (by decide) dX8_init_21 rfl ?_
  refine n_newi 26 (by decide) (Nat.le_of_ble_eq_true rfl) (Nat.le_of_ble_eq_true rfl) dX8_init_24 rfl (fun a3 => ?_)
  refine n_putF 29 (k := 3) rfl 0 8 (.array .int) [(h0, .inr (8, [.int 0, .ref a1, .ref a2, .ref a3, .int 0, .null, .int 0, .null, .int 0, .null, .null, .null, .null, .null, .null, .null, .int 0, .int 0, .null, .int 0])), (a1, .inl (x_I x, 83, .inl (fun _ => 0))), (a2, .inl (x_I x, 83, .inl (fun _ => 0))), (a3, .inl (x_I x, 332, .inl (fun _ => 0)))] rfl (by decide) (by decide) rfl rfl (by decide +kernel) rfl rfl (Nat.le_of_ble_eq_true rfl) dX8_init_26 rfl fl_X8_16 rfl ?_
  refine n_aload_n 30 rfl dX8_init_29 rfl ?_
  refine n_bipush 32 (nI 83) (by decide) dX8_init_30 rfl ?_
  refine n_newi 34 (by decide) (Nat.le_of_ble_eq_true rfl) (Nat.le_of_ble_eq_true rfl) dX8_init_32 rfl (fun a4 => ?_)
  refine n_putF 37 (k := 5) rfl 0 8 (.array .int) [(h0, .inr (8, [.int 0, .ref a1, .ref a2, .ref a3, .int 0, .ref a4, .int 0, .null, .int 0, .null, .null, .null, .null, .null, .null, .null, .int 0, .int 0, .null, .int 0])), (a1, .inl (x_I x, 83, .inl (fun _ => 0))), (a2, .inl (x_I x, 83, .inl (fun _ => 0))), (a3, .inl (x_I x, 332, .inl (fun _ => 0))), (a4, .inl (x_I x, 83, .inl (fun _ => 0)))] rfl (by decide) (by decide) rfl rfl (by decide +kernel) rfl rfl (Nat.le_of_ble_eq_true rfl) dX8_init_34 rfl fl_X8_19 rfl ?_
  refine n_aload_n 38 rfl dX8_init_37 rfl ?_
  refine n_bipush 40 (nI 60) (by decide) dX8_init_38 rfl ?_
  refine n_newi 42 (by decide) (Nat.le_of_ble_eq_true rfl) (Nat.le_of_ble_eq_true rfl) dX8_init_40 rfl (fun a5 => ?_)
  refine n_putF 45 (k := 7) rfl 0 8 (.array .int) [(h0, .inr (8, [.int 0, .ref a1, .ref a2, .ref a3, .int 0, .ref a4, .int 0, .ref a5, .int 0, .null, .null, .null, .null, .null, .null, .null, .int 0, .int 0, .null, .int 0])), (a1, .inl (x_I x, 83, .inl (fun _ => 0))), (a2, .inl (x_I x, 83, .inl (fun _ => 0))), (a3, .inl (x_I x, 332, .inl (fun _ => 0))), (a4, .inl (x_I x, 83, .inl (fun _ => 0))), (a5, .inl (x_I x, 60, .inl (fun _ => 0)))] rfl (by decide) (by decide) rfl rfl (by decide +kernel) rfl rfl (Nat.le_of_ble_eq_true rfl) dX8_init_42 rfl fl_X8_22 rfl ?_
  refine n_aload_n 46 rfl dX8_init_45 rfl ?_
  refine n_bipush 48 (nI 28) (by decide) dX8_init_46 rfl ?_
  refine n_newl 50 (by decide) (Nat.le_of_ble_eq_true rfl) (Nat.le_of_ble_eq_true rfl) dX8_init_48 rfl (fun a6 => ?_)
  refine n_putF 53 (k := 9) rfl 0 8 (.array .long) [(h0, .inr (8, [.int 0, .ref a1, .ref a2, .ref a3, .int 0, .ref a4, .int 0, .ref a5, .int 0, .ref a6, .null, .null, .null, .null, .null, .null, .int 0, .int 0, .null, .int 0])), (a1, .inl (x_I x, 83, .inl (fun _ => 0))), (a2, .inl (x_I x, 83, .inl (fun _ => 0))), (a3, .inl (x_I x, 332, .inl (fun _ => 0))), (a4, .inl (x_I x, 83, .inl (fun _ => 0))), (a5, .inl (x_I x, 60, .inl (fun _ => 0))), (a6, .inl (x_J x, 28, .inr (.inl (fun _ => 0))))] rfl (by decide) (by decide) rfl rfl (by decide +kernel) rfl rfl (Nat.le_of_ble_eq_true rfl) dX8_init_50 rfl fl_X8_25 rfl ?_
  refine n_aload_n 54 rfl dX8_init_53 rfl ?_
  refine n_bipush 56 (nI 28) (by decide) dX8_init_54 rfl ?_
  refine n_newl 58 (by decide) (Nat.le_of_ble_eq_true rfl) (Nat.le_of_ble_eq_true rfl) dX8_init_56 rfl (fun a7 => ?_)
  refine n_putF 61 (k := 10) rfl 0 8 (.array .long) [(h0, .inr (8, [.int 0, .ref a1, .ref a2, .ref a3, .int 0, .ref a4, .int 0, .ref a5, .int 0, .ref a6, .ref a7, .null, .null, .null, .null, .null, .int 0, .int 0, .null, .int 0])), (a1, .inl (x_I x, 83, .inl (fun _ => 0))), (a2, .inl (x_I x, 83, .inl (fun _ => 0))), (a3, .inl (x_I x, 332, .inl (fun _ => 0))), (a4, .inl (x_I x, 83, .inl (fun _ => 0))), (a5, .inl (x_I x, 60, .inl (fun _ => 0))), (a6, .inl (x_J x, 28, .inr (.inl (fun _ => 0)))), (a7, .inl (x_J x, 28, .inr (.inl (fun _ => 0))))] rfl (by decide) (by decide) rfl rfl (by decide +kernel) rfl rfl (Nat.le_of_ble_eq_true rfl) dX8_init_58 rfl fl_X8_29 rfl ?_
  refine n_aload_n 62 rfl dX8_init_61 rfl ?_
  refine n_bipush 64 (nI 28) (by decide) dX8_init_62 rfl ?_
  refine n_newl 66 (by decide) (Nat.le_of_ble_eq_true rfl) (Nat.le_of_ble_eq_true rfl) dX8_init_64 rfl (fun a8 => ?_)
  refine n_putF 69 (k := 11) rfl 0 8 (.array .long) [(h0, .inr (8, [.int 0, .ref a1, .ref a2, .ref a3, .int 0, .ref a4, .int 0, .ref a5, .int 0, .ref a6, .ref a7, .ref a8, .null, .null, .null, .null, .int 0, .int 0, .null, .int 0])), (a1, .inl (x_I x, 83, .inl (fun _ => 0))), (a2, .inl (x_I x, 83, .inl (fun _ => 0))), (a3, .inl (x_I x, 332, .inl (fun _ => 0))), (a4, .inl (x_I x, 83, .inl (fun _ => 0))), (a5, .inl (x_I x, 60, .inl (fun _ => 0))), (a6, .inl (x_J x, 28, .inr (.inl (fun _ => 0)))), (a7, .inl (x_J x, 28, .inr (.inl (fun _ => 0)))), (a8, .inl (x_J x, 28, .inr (.inl (fun _ => 0))))] rfl (by decide) (by decide) rfl rfl (by decide +kernel) rfl rfl (Nat.le_of_ble_eq_true rfl) dX8_init_66 rfl fl_X8_32 rfl ?_
  refine n_aload_n 70 rfl dX8_init_69 rfl ?_
  refine n_bipush 72 (nI 28) (by decide) dX8_init_70 rfl ?_
  refine n_newl 74 (by decide) (Nat.le_of_ble_eq_true rfl) (Nat.le_of_ble_eq_true rfl) dX8_init_72 rfl (fun a9 => ?_)
  refine n_putF 77 (k := 12) rfl 0 8 (.array .long) [(h0, .inr (8, [.int 0, .ref a1, .ref a2, .ref a3, .int 0, .ref a4, .int 0, .ref a5, .int 0, .ref a6, .ref a7, .ref a8, .ref a9, .null, .null, .null, .int 0, .int 0, .null, .int 0])), (a1, .inl (x_I x, 83, .inl (fun _ => 0))), (a2, .inl (x_I x, 83, .inl (fun _ => 0))), (a3, .inl (x_I x, 332, .inl (fun _ => 0))), (a4, .inl (x_I x, 83, .inl (fun _ => 0))), (a5, .inl (x_I x, 60, .inl (fun _ => 0))), (a6, .inl (x_J x, 28, .inr (.inl (fun _ => 0)))), (a7, .inl (x_J x, 28, .inr (.inl (fun _ => 0)))), (a8, .inl (x_J x, 28, .inr (.inl (fun _ => 0)))), (a9, .inl (x_J x, 28, .inr (.inl (fun _ => 0))))] rfl (by decide) (by decide) rfl rfl (by decide +kernel) rfl rfl (Nat.le_of_ble_eq_true rfl) dX8_init_74 rfl fl_X8_35 rfl ?_
  refine n_aload_n 78 rfl dX8_init_77 rfl ?_
  refine n_bipush 80 (nI 32) (by decide) dX8_init_78 rfl ?_
  refine n_newl 82 (by decide) (Nat.le_of_ble_eq_true rfl) (Nat.le_of_ble_eq_true rfl) dX8_init_80 rfl (fun a10 => ?_)
  refine n_putF 85 (k := 13) rfl 0 8 (.array .long) [(h0, .inr (8, [.int 0, .ref a1, .ref a2, .ref a3, .int 0, .ref a4, .int 0, .ref a5, .int 0, .ref a6, .ref a7, .ref a8, .ref a9, .ref a10, .null, .null, .int 0, .int 0, .null, .int 0])), (a1, .inl (x_I x, 83, .inl (fun _ => 0))), (a2, .inl (x_I x, 83, .inl (fun _ => 0))), (a3, .inl (x_I x, 332, .inl (fun _ => 0))), (a4, .inl (x_I x, 83, .inl (fun _ => 0))), (a5, .inl (x_I x, 60, .inl (fun _ => 0))), (a6, .inl (x_J x, 28, .inr (.inl (fun _ => 0)))), (a7, .inl (x_J x, 28, .inr (.inl (fun _ => 0)))), (a8, .inl (x_J x, 28, .inr (.inl (fun _ => 0)))), (a9, .inl (x_J x, 28, .inr (.inl (fun _ => 0)))), (a10, .inl (x_J x, 32, .inr (.inl (fun _ => 0))))] rfl (by decide) (by decide) rfl rfl (by decide +kernel) rfl rfl (Nat.le_of_ble_eq_true rfl) dX8_init_82 rfl fl_X8_38 rfl ?_
  refine n_aload_n 86 rfl dX8_init_85 rfl ?_
  refine n_iconst 87 (nI 4) (by decide) dX8_init_86 rfl ?_
  refine n_newi 89 (by decide) (Nat.le_of_ble_eq_true rfl) (Nat.le_of_ble_eq_true rfl) dX8_init_87 rfl (fun a11 => ?_)
  refine n_putF 92 (k := 14) rfl 0 8 (.array .int) [(h0, .inr (8, [.int 0, .ref a1, .ref a2, .ref a3, .int 0, .ref a4, .int 0, .ref a5, .int 0, .ref a6, .ref a7, .ref a8, .ref a9, .ref a10, .ref a11, .null, .int 0, .int 0, .null, .int 0])), (a1, .inl (x_I x, 83, .inl (fun _ => 0))), (a2, .inl (x_I x, 83, .inl (fun _ => 0))), (a3, .inl (x_I x, 332, .inl (fun _ => 0))), (a4, .inl (x_I x, 83, .inl (fun _ => 0))), (a5, .inl (x_I x, 60, .inl (fun _ => 0))), (a6, .inl (x_J x, 28, .inr (.inl (fun _ => 0)))), (a7, .inl (x_J x, 28, .inr (.inl (fun _ => 0)))), (a8, .inl (x_J x, 28, .inr (.inl (fun _ => 0)))), (a9, .inl (x_J x, 28, .inr (.inl (fun _ => 0)))), (a10, .inl (x_J x, 32, .inr (.inl (fun _ => 0)))), (a11, .inl (x_I x, 4, .inl (fun _ => 0)))] rfl (by decide) (by decide) rfl rfl (by decide +kernel) rfl rfl (Nat.le_of_ble_eq_true rfl) dX8_init_89 rfl fl_X8_41 rfl ?_
  refine n_aload_n 93 rfl dX8_init_92 rfl ?_
  refine n_iconst 94 (nI 4) (by decide) dX8_init_93 rfl ?_
  refine n_newi 96 (by decide) (Nat.le_of_ble_eq_true rfl) (Nat.le_of_ble_eq_true rfl) dX8_init_94 rfl (fun a12 => ?_)
  refine n_putF 99 (k := 15) rfl 0 8 (.array .int) [(h0, .inr (8, [.int 0, .ref a1, .ref a2, .ref a3, .int 0, .ref a4, .int 0, .ref a5, .int 0, .ref a6, .ref a7, .ref a8, .ref a9, .ref a10, .ref a11, .ref a12, .int 0, .int 0, .null, .int 0])), (a1, .inl (x_I x, 83, .inl (fun _ => 0))), (a2, .inl (x_I x, 83, .inl (fun _ => 0))), (a3, .inl (x_I x, 332, .inl (fun _ => 0))), (a4, .inl (x_I x, 83, .inl (fun _ => 0))), (a5, .inl (x_I x, 60, .inl (fun _ => 0))), (a6, .inl (x_J x, 28, .inr (.inl (fun _ => 0)))), (a7, .inl (x_J x, 28, .inr (.inl (fun _ => 0)))), (a8, .inl (x_J x, 28, .inr (.inl (fun _ => 0)))), (a9, .inl (x_J x, 28, .inr (.inl (fun _ => 0)))), (a10, .inl (x_J x, 32, .inr (.inl (fun _ => 0)))), (a11, .inl (x_I x, 4, .inl (fun _ => 0))), (a12, .inl (x_I x, 4, .inl (fun _ => 0)))] rfl (by decide) (by decide) rfl rfl (by decide +kernel) rfl rfl (Nat.le_of_ble_eq_true rfl) dX8_init_96 rfl fl_X8_44 rfl ?_
  refine n_aload_n 100 rfl dX8_init_99 rfl ?_
  refine n_sipush 103 (nI 256) (by decide) dX8_init_100 rfl ?_
  refine n_newi 105 (by decide) (Nat.le_of_ble_eq_true rfl) (Nat.le_of_ble_eq_true rfl) dX8_init_103 rfl (fun a13 => ?_)
  refine n_putF 108 (k := 18) rfl 0 8 (.array .int) [(h0, .inr (8, [.int 0, .ref a1, .ref a2, .ref a3, .int 0, .ref a4, .int 0, .ref a5, .int 0, .ref a6, .ref a7, .ref a8, .ref a9, .ref a10, .ref a11, .ref a12, .int 0, .int 0, .ref a13, .int 0])), (a1, .inl (x_I x, 83, .inl (fun _ => 0))), (a2, .inl (x_I x, 83, .inl (fun _ => 0))), (a3, .inl (x_I x, 332, .inl (fun _ => 0))), (a4, .inl (x_I x, 83, .inl (fun _ => 0))), (a5, .inl (x_I x, 60, .inl (fun _ => 0))), (a6, .inl (x_J x, 28, .inr (.inl (fun _ => 0)))), (a7, .inl (x_J x, 28, .inr (.inl (fun _ => 0)))), (a8, .inl (x_J x, 28, .inr (.inl (fun _ => 0)))), (a9, .inl (x_J x, 28, .inr (.inl (fun _ => 0)))), (a10, .inl (x_J x, 32, .inr (.inl (fun _ => 0)))), (a11, .inl (x_I x, 4, .inl (fun _ => 0))), (a12, .inl (x_I x, 4, .inl (fun _ => 0))), (a13, .inl (x_I x, 256, .inl (fun _ => 0)))] rfl (by decide) (by decide) rfl rfl (by decide +kernel) rfl rfl (Nat.le_of_ble_eq_true rfl) dX8_init_105 rfl fl_X8_47 rfl ?_
  refine n_aload_n 109 rfl dX8_init_108 rfl ?_
  refine n_iconst 110 (nI 0) (by decide) dX8_init_109 rfl ?_
  refine n_put 113 (k := 0) 0 8 .int [(h0, .inr (8, [.int (nI 0), .ref a1, .ref a2, .ref a3, .int 0, .ref a4, .int 0, .ref a5, .int 0, .ref a6, .ref a7, .ref a8, .ref a9, .ref a10, .ref a11, .ref a12, .int 0, .int 0, .ref a13, .int 0])), (a1, .inl (x_I x, 83, .inl (fun _ => 0))), (a2, .inl (x_I x, 83, .inl (fun _ => 0))), (a3, .inl (x_I x, 332, .inl (fun _ => 0))), (a4, .inl (x_I x, 83, .inl (fun _ => 0))), (a5, .inl (x_I x, 60, .inl (fun _ => 0))), (a6, .inl (x_J x, 28, .inr (.inl (fun _ => 0)))), (a7, .inl (x_J x, 28, .inr (.inl (fun _ => 0)))), (a8, .inl (x_J x, 28, .inr (.inl (fun _ => 0)))), (a9, .inl (x_J x, 28, .inr (.inl (fun _ => 0)))), (a10, .inl (x_J x, 32, .inr (.inl (fun _ => 0)))), (a11, .inl (x_I x, 4, .inl (fun _ => 0))), (a12, .inl (x_I x, 4, .inl (fun _ => 0))), (a13, .inl (x_I x, 256, .inl (fun _ => 0)))] rfl (by decide) (by decide) rfl (by decide +kernel) rfl rfl (Nat.le_of_ble_eq_true rfl) dX8_init_110 rfl fl_X8_50 rfl ?_
  refine n_aload_n 114 rfl dX8_init_113 rfl ?_
  refine n_get 117 (k := 1) 0 8 (.ref a1) rfl (by decide) (by decide) rfl dX8_init_114 rfl fl_X8_7 ?_
  refine n_iconst 118 (nI 0) (by decide) dX8_init_117 rfl ?_
  refine n_iconst 119 (nI 2) (by decide) dX8_init_118 rfl ?_
  refine n_iast 120 (k := 0) 1 [(h0, .inr (8, [.int (nI 0), .ref a1, .ref a2, .ref a3, .int 0, .ref a4, .int 0, .ref a5, .int 0, .ref a6, .ref a7, .ref a8, .ref a9, .ref a10, .ref a11, .ref a12, .int 0, .int 0, .ref a13, .int 0])), (a1, .inl (x_I x, 83, .inl (upd (fun _ => 0) 0 (nI 2)))), (a2, .inl (x_I x, 83, .inl (fun _ => 0))), (a3, .inl (x_I x, 332, .inl (fun _ => 0))), (a4, .inl (x_I x, 83, .inl (fun _ => 0))), (a5, .inl (x_I x, 60, .inl (fun _ => 0))), (a6, .inl (x_J x, 28, .inr (.inl (fun _ => 0)))), (a7, .inl (x_J x, 28, .inr (.inl (fun _ => 0)))), (a8, .inl (x_J x, 28, .inr (.inl (fun _ => 0)))), (a9, .inl (x_J x, 28, .inr (.inl (fun _ => 0)))), (a10, .inl (x_J x, 32, .inr (.inl (fun _ => 0)))), (a11, .inl (x_I x, 4, .inl (fun _ => 0))), (a12, .inl (x_I x, 4, .inl (fun _ => 0))), (a13, .inl (x_I x, 256, .inl (fun _ => 0)))] rfl (by decide) (by decide) dX8_init_119 rfl rfl ?_
  refine n_aload_n 121 rfl dX8_init_120 rfl ?_
  refine n_get 124 (k := 1) 0 8 (.ref a1) rfl (by decide) (by decide) rfl dX8_init_121 rfl fl_X8_7 ?_
  refine n_iconst 125 (nI 2) (by decide) dX8_init_124 rfl ?_
  refine n_sipush 128 (nI 800) (by decide) dX8_init_125 rfl ?_
  refine n_iast 129 (k := 2) 1 [(h0, .inr (8, [.int (nI 0), .ref a1, .ref a2, .ref a3, .int 0, .ref a4, .int 0, .ref a5, .int 0, .ref a6, .ref a7, .ref a8, .ref a9, .ref a10, .ref a11, .ref a12, .int 0, .int 0, .ref a13, .int 0])), (a1, .inl (x_I x, 83, .inl (upd (upd (fun _ => 0) 0 (nI 2)) 2 (nI 800)))), (a2, .inl (x_I x, 83, .inl (fun _ => 0))), (a3, .inl (x_I x, 332, .inl (fun _ => 0))), (a4, .inl (x_I x, 83, .inl (fun _ => 0))), (a5, .inl (x_I x, 60, .inl (fun _ => 0))), (a6, .inl (x_J x, 28, .inr (.inl (fun _ => 0)))), (a7, .inl (x_J x, 28, .inr (.inl (fun _ => 0)))), (a8, .inl (x_J x, 28, .inr (.inl (fun _ => 0)))), (a9, .inl (x_J x, 28, .inr (.inl (fun _ => 0)))), (a10, .inl (x_J x, 32, .inr (.inl (fun _ => 0)))), (a11, .inl (x_I x, 4, .inl (fun _ => 0))), (a12, .inl (x_I x, 4, .inl (fun _ => 0))), (a13, .inl (x_I x, 256, .inl (fun _ => 0)))] rfl (by decide) (by decide) dX8_init_128 rfl rfl ?_
  refine n_iconst 130 (nI 0) (by decide) dX8_init_129 rfl ?_
  refine n_istore_n 131 [some (.ref h0), some (.int (nI 0))] dX8_init_130 rfl (by decide) rfl ?_
  refine n_iload_n 132 rfl dX8_init_131 rfl ?_
  refine n_iconst 133 (nI 2) (by decide) dX8_init_132 rfl ?_
  refine n_icmp_ge 147 136 dX8_init_133 (by decide) rfl (by decide) (by decide) (fun h => absurd h (by decide)) (fun _ => ?_)
  refine n_aload_n 137 rfl dX8_init_136 rfl ?_
  refine n_iload_n 138 rfl dX8_init_137 rfl ?_
  refine n_callV 141 M_X8_fills (ci := 8) [.int (nI 0)] [(h0, .inr (8, [.int (nI 0), .ref a1, .ref a2, .ref a3, .int 0, .ref a4, .int 0, .ref a5, .int 0, .ref a6, .ref a7, .ref a8, .ref a9, .ref a10, .ref a11, .ref a12, .int 0, .int 0, .ref a13, .int 0])), (a1, .inl (x_I x, 83, .inl (upd (upd (fun _ => 0) 0 (nI 2)) 2 (nI 800))))] [(a2, .inl (x_I x, 83, .inl (fun _ => 0))), (a3, .inl (x_I x, 332, .inl (fun _ => 0))), (a4, .inl (x_I x, 83, .inl (fun _ => 0))), (a5, .inl (x_I x, 60, .inl (fun _ => 0))), (a6, .inl (x_J x, 28, .inr (.inl (fun _ => 0)))), (a7, .inl (x_J x, 28, .inr (.inl (fun _ => 0)))), (a8, .inl (x_J x, 28, .inr (.inl (fun _ => 0)))), (a9, .inl (x_J x, 28, .inr (.inl (fun _ => 0)))), (a10, .inl (x_J x, 32, .inr (.inl (fun _ => 0)))), (a11, .inl (x_I x, 4, .inl (fun _ => 0))), (a12, .inl (x_I x, 4, .inl (fun _ => 0))), (a13, .inl (x_I x, 256, .inl (fun _ => 0)))] [0, 1] [2, 3, 4, 5, 6, 7, 8, 9, 10, 11, 12, 13] 0 rfl rfl rfl rfl (by decide) rfl (by decide) rfl ml_X8_54 im_X8_fills se_X8_fills mc_X8_fills (by decide) (Nat.le_of_ble_eq_true rfl) (Nat.le_of_ble_eq_true rfl) (Nat.le_of_ble_eq_true rfl) dX8_init_138 rfl (cp_X8_fills0 x h0 a1 (.ref a2) (.ref a3) (.int 0) (.ref a4) (.int 0) (.ref a5) (.int 0) (.ref a6) (.ref a7) (.ref a8) (.ref a9) (.ref a10) (.ref a11) (.ref a12) (.int 0) (.int 0) (.ref a13) (.int 0) (upd (upd (fun _ => 0) 0 (nI 2)) 2 (nI 800)) rfl) (fun w1 hw1 => ?_)
  subst hw1
  refine n_iinc 144 [some (.ref h0), some (.int (nI 1))] (nI 1) dX8_init_141 rfl (by decide) rfl (by decide) rfl ?_
  refine n_goto 131 dX8_init_144 (by decide) ?_
  refine n_iload_n 132 rfl dX8_init_131 rfl ?_
  refine n_iconst 133 (nI 2) (by decide) dX8_init_132 rfl ?_
  refine n_icmp_ge 147 136 dX8_init_133 (by decide) rfl (by decide) (by decide) (fun h => absurd h (by decide)) (fun _ => ?_)
  refine n_aload_n 137 rfl dX8_init_136 rfl ?_
  refine n_iload_n 138 rfl dX8_init_137 rfl ?_
  refine n_callV 141 M_X8_fills (ci := 8) [.int (nI 1)] [(h0, .inr (8, [.int (nI 0), .ref a1, .ref a2, .ref a3, .int 0, .ref a4, .int 0, .ref a5, .int 0, .ref a6, .ref a7, .ref a8, .ref a9, .ref a10, .ref a11, .ref a12, .int 0, .int 0, .ref a13, .int 0])), (a1, .inl (x_I x, 83, .inl (upd (upd (upd (upd (upd (upd (upd (upd (upd (upd (fun _ => 0) 0 (nI 2)) 2 (nI 800)) 3 (nI 1)) 7 (nI 1)) 7 (nI 1)) 8 (nI 1)) 11 (nI 1)) 23 (nI 1)) 24 (nI 1)) 25 (nI 1))))] [(a2, .inl (x_I x, 83, .inl (fun _ => 0))), (a3, .inl (x_I x, 332, .inl (fun _ => 0))), (a4, .inl (x_I x, 83, .inl (fun _ => 0))), (a5, .inl (x_I x, 60, .inl (fun _ => 0))), (a6, .inl (x_J x, 28, .inr (.inl (fun _ => 0)))), (a7, .inl (x_J x, 28, .inr (.inl (fun _ => 0)))), (a8, .inl (x_J x, 28, .inr (.inl (fun _ => 0)))), (a9, .inl (x_J x, 28, .inr (.inl (fun _ => 0)))), (a10, .inl (x_J x, 32, .inr (.inl (fun _ => 0)))), (a11, .inl (x_I x, 4, .inl (fun _ => 0))), (a12, .inl (x_I x, 4, .inl (fun _ => 0))), (a13, .inl (x_I x, 256, .inl (fun _ => 0)))] [12, 13] [0, 1, 2, 3, 4, 5, 6, 7, 8, 9, 10, 11] 12 rfl rfl rfl rfl (by decide) rfl (by decide) rfl ml_X8_54 im_X8_fills se_X8_fills mc_X8_fills (by decide) (Nat.le_of_ble_eq_true rfl) (Nat.le_of_ble_eq_true rfl) (Nat.le_of_ble_eq_true rfl) dX8_init_138 rfl (cp_X8_fills1 x h0 a1 (.ref a2) (.ref a3) (.int 0) (.ref a4) (.int 0) (.ref a5) (.int 0) (.ref a6) (.ref a7) (.ref a8) (.ref a9) (.ref a10) (.ref a11) (.ref a12) (.int 0) (.int 0) (.ref a13) (.int 0) (upd (upd (upd (upd (upd (upd (upd (upd (upd (upd (fun _ => 0) 0 (nI 2)) 2 (nI 800)) 3 (nI 1)) 7 (nI 1)) 7 (nI 1)) 8 (nI 1)) 11 (nI 1)) 23 (nI 1)) 24 (nI 1)) 25 (nI 1)) rfl) (fun w1 hw1 => ?_)
  subst hw1
  refine n_iinc 144 [some (.ref h0), some (.int (nI 2))] (nI 2) dX8_init_141 rfl (by decide) rfl (by decide) rfl ?_
  refine n_goto 131 dX8_init_144 (by decide) ?_
  refine n_iload_n 132 rfl dX8_init_131 rfl ?_
  refine n_iconst 133 (nI 2) (by decide) dX8_init_132 rfl ?_
  refine n_icmp_ge 147 136 dX8_init_133 (by decide) rfl (by decide) (by decide) (fun _ => ?_) (fun h => absurd h (by decide))
  refine n_world (w14 x (fun i => [h0, a1, a2, a3, a4, a5, a6, a7, a8, a9, a10, a11, a12, a13].getD (i - 40) 0) (fun i => [fun _ => 0, (upd (upd (upd (upd (upd (upd (upd (upd (upd (upd (upd (upd (upd (upd (upd (upd (upd (upd (fun _ => 0) 0 (nI 2)) 2 (nI 800)) 3 (nI 1)) 7 (nI 1)) 7 (nI 1)) 8 (nI 1)) 11 (nI 1)) 23 (nI 1)) 24 (nI 1)) 25 (nI 1)) 4 (nI 1)) 11 (nI 1)) 8 (nI 1)) 12 (nI 1)) 12 (nI 1)) 26 (nI 1)) 27 (nI 1)) 28 (nI 1)), fun _ => 0, fun _ => 0, fun _ => 0, fun _ => 0, fun _ => 0, fun _ => 0, fun _ => 0, fun _ => 0, fun _ => 0, fun _ => 0, fun _ => 0, fun _ => 0].getD (i - 40) (fun _ => 0))) (fun H h => h.of [12, 13, 0, 1, 2, 3, 4, 5, 6, 7, 8, 9, 10, 11] rfl) (fun A h => h.sub [12, 13, 0, 1, 2, 3, 4, 5, 6, 7, 8, 9, 10, 11] (by decide) rfl) ?_
  exact n_vret rfl rfl rfl dX8_init_147 ⟨_, _, rfl, ⟨rfl, rfl, rfl, ⟨rfl, rfl⟩, ⟨rfl, rfl, rfl, rfl⟩, ⟨rfl, rfl, rfl, rfl, rfl, rfl⟩, rfl, rfl, rfl⟩, rfl⟩
def mixN (a b : Nat → Nat) : Nat → Nat := fun i => if i < 40 then a i else b i
def mixI (a b : Iv) : Iv := fun i => if i < 40 then a i else b i
theorem cE_congr {x x' : Cx} {I I' : Iv} {L L' : Lv} {P P' : Pv} {i : Nat} (hI : I' i = I i) (hL : L' i = L i) (h1 : x_I x' = x_I x) (h2 : x_C x' = x_C x) (h3 : x_J x' = x_J x) (h4 : x_R x' = x_R x) (hr : (hs i).1 = 0 → ∀ k, k < nf (hs i).2 → ftk (hs i).2 k = 2 → x_ad x' (rf i k) = x_ad x (rf i k)) (hP : 4 ≤ (hs i).1 → ∀ j, x_ad x' (P' j) = x_ad x (P j)) : cE x' I' L' P' i = cE x I L P i := by
  unfold cE
  generalize hs i = z at hr hP ⊢
  obtain ⟨t, n⟩ := z
  match t, hr, hP with
  | 0, hr, _ =>
    show (Sum.inr (n, (List.range (nf n)).map (fvl x' n i I' L')) : va_E) = Sum.inr (n, (List.range (nf n)).map (fvl x n i I L))
    have e : (List.range (nf n)).map (fvl x' n i I' L') = (List.range (nf n)).map (fvl x n i I L) := by
      apply List.map_congr_left
      intro k hk
      have hk2 : k < nf n := List.mem_range.mp hk
      have h9 := hr rfl k hk2
      unfold fvl
      rw [hI, hL]
      split
      · rfl
      · rename_i h8
        rw [h9 h8]
      · rfl
    rw [e]
  | 1, _, _ =>
    show (Sum.inl (x_I x', n, Sum.inl (I' i)) : va_E) = Sum.inl (x_I x, n, Sum.inl (I i))
    rw [h1, hI]
  | 2, _, _ =>
    show (Sum.inl (x_C x', n, Sum.inl (I' i)) : va_E) = Sum.inl (x_C x, n, Sum.inl (I i))
    rw [h2, hI]
  | 3, _, _ =>
    show (Sum.inl (x_J x', n, Sum.inr (Sum.inl (L' i))) : va_E) = Sum.inl (x_J x, n, Sum.inr (Sum.inl (L i)))
    rw [h3, hL]
  | t + 4, _, hP =>
    show (Sum.inl (x_R x', n, Sum.inr (Sum.inr (Sum.inr (Sum.inr (fun j => some (x_ad x' (P' j))))))) : va_E) = Sum.inl (x_R x, n, Sum.inr (Sum.inr (Sum.inr (Sum.inr (fun j => some (x_ad x (P j)))))))
    rw [h4, show (fun j => some (x_ad x' (P' j))) = (fun j => some (x_ad x (P j))) from funext fun j => congrArg some (hP (by show 4 ≤ t + 4; omega) j)]
theorem rf_lo : ∀ i, i < 40 → ∀ k, k < 20 → rf i k < 40 := by decide +kernel
theorem rf_hi : ∀ i, i < 14 → (hs (40 + i)).1 = 0 → ∀ k, k < 20 → ftk (hs (40 + i)).2 k = 2 → ¬ rf (40 + i) k < 40 := by decide +kernel
theorem hs_hi : ∀ i, i < 14 → ¬ 4 ≤ (hs (40 + i)).1 := by decide +kernel
theorem nf_20 : ∀ i, i < 54 → nf (hs i).2 ≤ 20 := by decide +kernel
theorem wl_mix {x : Cx} {a b : Nat → Nat} {I J : Iv} {P : Pv} (hP : ∀ j, P j < 40) : w40 x a I P ++ w14 x b J = wl (xA x (mixN a b)) (cE (xA x (mixN a b)) (mixI I J) (fun _ _ => 0) P) := by
  have e1 : w40 x a I P = (List.range 40).map (fun i => (mixN a b i, cE (xA x (mixN a b)) (mixI I J) (fun _ _ => 0) P i)) := by
    unfold w40
    apply List.map_congr_left
    intro i hi
    have h : i < 40 := List.mem_range.mp hi
    have h9 := nf_20 i (by omega)
    rw [cE_congr (x := xA x a) (x' := xA x (mixN a b)) (I := I) (I' := mixI I J) (L := fun _ _ => 0) (L' := fun _ _ => 0) (P := P) (P' := P) (i := i) (if_pos h) rfl rfl rfl rfl rfl (fun _ k hk _ => if_pos (rf_lo i h k (by omega))) (fun _ j => if_pos (hP j)), show mixN a b i = a i from if_pos h]
  have e2 : w14 x b J = (List.range 14).map (fun i => (mixN a b (40 + i), cE (xA x (mixN a b)) (mixI I J) (fun _ _ => 0) P (40 + i))) := by
    unfold w14
    apply List.map_congr_left
    intro i hi
    have h : i < 14 := List.mem_range.mp hi
    have h9 := nf_20 (40 + i) (by omega)
    rw [cE_congr (x := xA x b) (x' := xA x (mixN a b)) (I := J) (I' := mixI I J) (L := fun _ _ => 0) (L' := fun _ _ => 0) (P := P0) (P' := P) (i := 40 + i) (if_neg (by omega)) rfl rfl rfl rfl rfl (fun h0 k hk hk2 => if_neg (rf_hi i h h0 k (by omega) hk2)) (fun h4 => absurd h4 (hs_hi i h)), show mixN a b (40 + i) = b (40 + i) from if_neg (by omega)]
  rw [e1, e2]
  unfold wl
  rw [show List.range 54 = List.range 40 ++ (List.range 14).map (fun i => 40 + i) from by decide +kernel, List.map_append, List.map_map]
  rfl
/-- the state at the start -/
def fS0 : Vw := fun i => if i = 0 then 2 else if i = 1 then 0 else if i = 2 then 800 else 1
theorem Wf_S0 : Wf fS0 := by
  refine Wf.mk (by decide) (by decide) (by decide) (fun p c h => ?_) (fun k hk => absurd hk (Nat.not_lt_zero k)) (fun k p hk => absurd hk (Nat.not_lt_zero k))
  unfold fS0
  split
  · decide
  · split
    · decide
    · split
      · rename_i h2
        have h3 : 3 ≤ p := by rcases h with ⟨s, hs, e, e2⟩ | ⟨s, t, hs, ht, e, e2⟩ | ⟨s, t, hs, ht, e, e2⟩ <;> omega
        omega
      · decide
theorem fS0_1 {p : Nat} (h : 3 ≤ p) : fS0 p = 1 := by
  unfold fS0
  rw [if_neg (by omega), if_neg (by omega), if_neg (by omega)]
theorem CI_S0 {I : Iv} {P : Pv} (h : S7 I P) (H : Hs) (g : Vw) (T : Tx) : CI fS0 H 0 0 g T 0 I P := by
  obtain ⟨h1, h2, h3, h4, h5, h6, h7, h8, h9⟩ := h
  refine ⟨RC.mk h1 h3 h2 (fun p c hp => ?_) (fun k hk => absurd hk (Nat.not_lt_zero k)) (fun k p hk => absurd hk (Nat.not_lt_zero k)), ⟨by decide, h5, fun i hi => ?_, fun i j hi hj e => ?_, fun i hi => absurd hi (Nat.not_lt_zero i)⟩, h6, fun e => absurd e (by decide), h7, fun i hi => absurd hi (Nat.not_lt_zero i)⟩
  · have hl := hp.lt Wf_S0
    rw [fS0_1 hl.1]
    exact h4 c hl.2.2
  · rw [h8 i hi]
    unfold isM
    omega
  · rw [h8 i hi, h8 j hj] at e
    omega
theorem RI_S0 {I : Iv} (h : S8 I) (H : Hs) (g : Vw) (T : Tx) : RI fS0 H 0 0 g T 0 I := by
  obtain ⟨h1, h2, h3, ⟨b0, b1⟩, ⟨g0, g1, g2, g3⟩, ⟨s0, s1, s2, s3, s4, s5⟩, k4, k6, k8⟩ := h
  refine ⟨RR.mk h1 h2 h3 (fun p c hp => ?_) (fun k hk => absurd hk (Nat.not_lt_zero k)) (fun k p hk => absurd hk (Nat.not_lt_zero k)), ⟨by decide, k4, fun i hi => absurd hi (Nat.not_lt_zero i)⟩, k6, fun e => absurd e (by decide), k8, fun i hi => absurd hi (Nat.not_lt_zero i)⟩
  have hl := hp.lt Wf_S0
  rw [fS0_1 hl.1]
  have hc : p = 3 ∨ p = 4 ∨ p = 7 ∨ p = 8 ∨ p = 11 ∨ p = 12 ∨ p = 23 ∨ p = 24 ∨ p = 25 ∨ p = 26 ∨ p = 27 ∨ p = 28 := by
    rcases hp with ⟨s, hs, e, _⟩ | ⟨s, t, hs, ht, e, _⟩ | ⟨s, t, hs, ht, e, _⟩
    · have h9 : s < 2 := hs
      omega
    · have h9 : s < 2 := hs
      have h8 : t < 2 := ht
      omega
    · have h9 : s < 2 := hs
      omega
  rcases hc with e | e | e | e | e | e | e | e | e | e | e | e <;> rw [e] <;> assumption
theorem WI_S0 (H : Hs) (g : Vw) (T : Tx) : WI fS0 H 0 0 g T 0 := ⟨Wf_S0, fun i hi => absurd hi (Nat.not_lt_zero i), by decide, fun e => absurd e (by decide), by decide, fun i hi => absurd hi (Nat.not_lt_zero i)⟩
