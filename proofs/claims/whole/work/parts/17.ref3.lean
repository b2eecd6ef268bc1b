set_option maxHeartbeats 4000000 in
theorem sp_X8_bestAt {x : Cx} {Q : Qt} {I : Iv} {L : Lv} {P : Pv} {f : Vw} (r : RR (I 41) f) (w : Wf f) {k p : Nat} (hk : k < f 1) (um : UM f k L) (hp : p < nP f k) (hQ : Q (some (.int (nI (pathW f k p)))) I L P) : SP x M_X8_bestAt [rfv x 40, .int (nI (k)), .int (nI (p))] I L P Q := by
  have := w.n4
  have := w.n1
  have := w.m6
  have := w.p hk
  have hbl := bestW_lt w hk
  refine SP.intro [some (rfv x 40), some (.int (nI (k))), some (.int (nI (p))), none, none, none, none, none] pn_X8_bestAt (Nat.le_of_ble_eq_true rfl) rfl ?_
  have ham0 : amN (bgW f k) (f 0 - 1) < f 0 := by have := amN_le (bgW f k) (f 0 - 1); omega
  refine v_aload_n 1 rfl dX8_bestAt_0 rfl ?_
  refine v_invV 4 M_X8_bestWeight [] (by decide) rfl (by decide) rfl dX8_bestAt_1 rfl ml_X8_93 im_X8_bestWeight se_X8_bestWeight mc_X8_bestWeight (by decide) (Nat.le_of_ble_eq_true rfl) (sp_X8_bestWeight r w hk um ?_)
  refine v_lstore_n 5 [some (rfv x 40), some (.int (nI (k))), some (.int (nI (p))), some (.long (lN (bestW f k))), none, none, none, none] dX8_bestAt_4 rfl (by decide) rfl ?_
  refine v_iconst 6 (nI (0)) (by decide) dX8_bestAt_5 rfl ?_
  refine v_istore 8 [some (rfv x 40), some (.int (nI (k))), some (.int (nI (p))), some (.long (lN (bestW f k))), none, some (.int (nI (0))), none, none] dX8_bestAt_6 rfl (by decide) rfl ?_
  have lp : ∀ i, i ≤ (amN (bgW f k) (f 0 - 1)) → V x M_X8_bestAt Q 8 [some (rfv x 40), some (.int (nI (k))), some (.int (nI (p))), some (.long (lN (bestW f k))), none, some (.int (nI (i))), none, none] [] I L P := by
    refine lpU ?_ ?_
    · skip
      refine v_aload_n 9 rfl dX8_bestAt_8 rfl ?_
      refine v_get 12 (k := 9) 8 (rfv x 46) (by decide) rfl (by decide) (by decide) dX8_bestAt_9 rfl fl_X8_25 rfl ?_
      refine v_iload 14 rfl dX8_bestAt_12 rfl ?_
      refine v_lald 15 (k := (amN (bgW f k) (f 0 - 1))) (lN (upW f k 0 (amN (bgW f k) (f 0 - 1)))) (by decide) rfl (by decide) dX8_bestAt_14 rfl rfl (by omega) (um.1 0 _ _ (by omega) ham0 (by omega)) ?_
      refine v_aload_n 16 rfl dX8_bestAt_15 rfl ?_
      refine v_get 19 (k := 11) 8 (rfv x 48) (by decide) rfl (by decide) (by decide) dX8_bestAt_16 rfl fl_X8_32 rfl ?_
      refine v_iload 21 rfl dX8_bestAt_19 rfl ?_
      refine v_lald 22 (k := (amN (bgW f k) (f 0 - 1))) (lN (grW f k 0 (amN (bgW f k) (f 0 - 1)))) (by decide) rfl (by decide) dX8_bestAt_21 rfl rfl (by omega) (um.2.2.1 0 _ _ (by omega) ham0 (by omega)) ?_
      refine v_lmul 23 (lN (bgW f k (amN (bgW f k) (f 0 - 1)))) dX8_bestAt_22 rfl ((lN_mul _ _).trans (congrArg lN bgW_up.symm)) ?_
      refine v_lload_n 24 rfl dX8_bestAt_23 rfl ?_
      refine v_lcmp_eq 25 34 28 dX8_bestAt_24 rfl dX8_bestAt_25 (by decide) rfl (fun h24 => ?_) (fun h24 => ?_)
      · skip
        refine v_iconst 35 (nI (0)) (by decide) dX8_bestAt_34 rfl ?_
        refine v_istore 37 [some (rfv x 40), some (.int (nI (k))), some (.int (nI (p))), some (.long (lN (bestW f k))), none, some (.int (nI ((amN (bgW f k) (f 0 - 1))))), some (.int (nI (0))), none] dX8_bestAt_35 rfl (by decide) rfl ?_
        have lp2 : ∀ i, i ≤ p → V x M_X8_bestAt Q 37 [some (rfv x 40), some (.int (nI (k))), some (.int (nI (p))), none, none, some (.int (nI (pathW f k i))), some (.int (nI (i))), none] [] I L P := by
          refine lpU ?_ ?_
          · skip
            refine v_iload 39 rfl dX8_bestAt_37 rfl ?_
            refine v_iload_n 40 rfl dX8_bestAt_39 rfl ?_
            refine v_icmpN_ge 104 43 dX8_bestAt_40 (by decide) rfl (by omega) (by omega) (fun h40 => ?_) (fun h40 => ?_)
            · skip
              refine v_iload 106 rfl dX8_bestAt_104 rfl ?_
              refine v_iret rfl dX8_bestAt_106 ?_
              exact hQ
            · skip
              exact absurd h40 (by omega)
          · intro i hi ih 
            have hl := pathW_lt (k := k) w i
            have ham : amN (gnW f k i (pathW f k i)) (f 0 - 1) < f 0 := by have := amN_le (gnW f k i (pathW f k i)) (f 0 - 1); omega
            refine v_iload 39 rfl dX8_bestAt_37 rfl ?_
            refine v_iload_n 40 rfl dX8_bestAt_39 rfl ?_
            refine v_icmpN_ge 104 43 dX8_bestAt_40 (by decide) rfl (by omega) (by omega) (fun h40 => ?_) (fun h40 => ?_)
            · skip
              exact absurd h40 (by omega)
            · skip
              refine v_iconst 44 (nI (0)) (by decide) dX8_bestAt_43 rfl ?_
              refine v_istore 46 [some (rfv x 40), some (.int (nI (k))), some (.int (nI (p))), none, none, some (.int (nI (pathW f k i))), some (.int (nI (i))), some (.int (nI (0)))] dX8_bestAt_44 rfl (by decide) rfl ?_
              have lq : ∀ t, t ≤ (amN (gnW f k i (pathW f k i)) (f 0 - 1)) → V x M_X8_bestAt Q 46 [some (rfv x 40), some (.int (nI (k))), some (.int (nI (p))), none, none, some (.int (nI (pathW f k i))), some (.int (nI (i))), some (.int (nI (t)))] [] I L P := by
                refine lpU ?_ ?_
                · skip
                  refine v_aload_n 47 rfl dX8_bestAt_46 rfl ?_
                  refine v_iload_n 48 rfl dX8_bestAt_47 rfl ?_
                  refine v_iload 50 rfl dX8_bestAt_48 rfl ?_
                  refine v_iload 52 rfl dX8_bestAt_50 rfl ?_
                  refine v_iload 54 rfl dX8_bestAt_52 rfl ?_
                  refine v_invV 57 M_X8_step [.int (nI (k)), .int (nI (i)), .int (nI (pathW f k i)), .int (nI ((amN (gnW f k i (pathW f k i)) (f 0 - 1))))] (by decide) rfl (by decide) rfl dX8_bestAt_54 rfl ml_X8_83 im_X8_step se_X8_step mc_X8_step (by decide) (Nat.le_of_ble_eq_true rfl) (sp_X8_step r w hk hl ham (by omega) ?_)
                  refine v_aload_n 58 rfl dX8_bestAt_57 rfl ?_
                  refine v_get 61 (k := 11) 8 (rfv x 48) (by decide) rfl (by decide) (by decide) dX8_bestAt_58 rfl fl_X8_32 rfl ?_
                  refine v_iconst 62 (nI (4)) (by decide) dX8_bestAt_61 rfl ?_
                  refine v_iload 64 rfl dX8_bestAt_62 rfl ?_
                  refine v_imul 65 (nI (4 * i)) dX8_bestAt_64 rfl (pk_mul _ _) ?_
                  refine v_iconst 66 (nI (4)) (by decide) dX8_bestAt_65 rfl ?_
                  refine v_iadd 67 (nI ((4 * i) + 4)) dX8_bestAt_66 rfl (nI_add _ _) ?_
                  refine v_iload 69 rfl dX8_bestAt_67 rfl ?_
                  refine v_iadd 70 (nI (((4 * i) + 4) + ((amN (gnW f k i (pathW f k i)) (f 0 - 1))))) dX8_bestAt_69 rfl (nI_add _ _) ?_
                  refine v_lald 71 (k := ((4 * i) + 4) + ((amN (gnW f k i (pathW f k i)) (f 0 - 1)))) (lN (grW f k (i + 1) (amN (gnW f k i (pathW f k i)) (f 0 - 1)))) (by decide) rfl (by decide) dX8_bestAt_70 rfl rfl (by omega) (um.2.2.1 (i + 1) _ _ (by omega) ham (by omega)) ?_
                  refine v_lmul 72 (lN (gnW f k i (pathW f k i) (amN (gnW f k i (pathW f k i)) (f 0 - 1)))) dX8_bestAt_71 rfl ((lN_mul _ _).trans (congrArg lN gnW_st.symm)) ?_
                  refine v_aload_n 73 rfl dX8_bestAt_72 rfl ?_
                  refine v_get 76 (k := 11) 8 (rfv x 48) (by decide) rfl (by decide) (by decide) dX8_bestAt_73 rfl fl_X8_32 rfl ?_
                  refine v_iconst 77 (nI (4)) (by decide) dX8_bestAt_76 rfl ?_
                  refine v_iload 79 rfl dX8_bestAt_77 rfl ?_
                  refine v_imul 80 (nI (4 * i)) dX8_bestAt_79 rfl (pk_mul _ _) ?_
                  refine v_iload 82 rfl dX8_bestAt_80 rfl ?_
                  refine v_iadd 83 (nI ((4 * i) + (pathW f k i))) dX8_bestAt_82 rfl (nI_add _ _) ?_
                  refine v_lald 84 (k := (4 * i) + (pathW f k i)) (lN (grW f k i (pathW f k i))) (by decide) rfl (by decide) dX8_bestAt_83 rfl rfl (by omega) (um.2.2.1 i _ _ (by omega) hl rfl) ?_
                  refine v_lcmp_eq 85 94 88 dX8_bestAt_84 rfl dX8_bestAt_85 (by decide) rfl (fun h84 => ?_) (fun h84 => ?_)
                  · skip
                    refine v_iload 96 rfl dX8_bestAt_94 rfl ?_
                    refine v_istore 98 [some (rfv x 40), some (.int (nI (k))), some (.int (nI (p))), none, none, some (.int (nI ((amN (gnW f k i (pathW f k i)) (f 0 - 1))))), some (.int (nI (i))), some (.int (nI ((amN (gnW f k i (pathW f k i)) (f 0 - 1)))))] dX8_bestAt_96 rfl (by decide) rfl ?_
                    refine v_iinc 101 [some (rfv x 40), some (.int (nI (k))), some (.int (nI (p))), none, none, some (.int (nI ((amN (gnW f k i (pathW f k i)) (f 0 - 1))))), some (.int (nI (i + 1))), some (.int (nI ((amN (gnW f k i (pathW f k i)) (f 0 - 1)))))] (nI (i + 1)) dX8_bestAt_98 rfl (by decide) rfl (nI_inc _) rfl ?_
                    refine v_goto 37 dX8_bestAt_101 (by decide) ?_
                    refine v_drop [some (rfv x 40), some (.int (nI (k))), some (.int (nI (p))), none, none, some (.int (nI (pathW f k (i + 1)))), some (.int (nI (i + 1))), none] (by simp [lsub, pathW]) ?_
                    exact ih
                  · skip
                    exact absurd (congrArg lN ((am_eq w.n1).trans (grW_mx (by omega)).symm)) h84
                · intro t ht ih2 
                  refine v_aload_n 47 rfl dX8_bestAt_46 rfl ?_
                  refine v_iload_n 48 rfl dX8_bestAt_47 rfl ?_
                  refine v_iload 50 rfl dX8_bestAt_48 rfl ?_
                  refine v_iload 52 rfl dX8_bestAt_50 rfl ?_
                  refine v_iload 54 rfl dX8_bestAt_52 rfl ?_
                  refine v_invV 57 M_X8_step [.int (nI (k)), .int (nI (i)), .int (nI (pathW f k i)), .int (nI (t))] (by decide) rfl (by decide) rfl dX8_bestAt_54 rfl ml_X8_83 im_X8_step se_X8_step mc_X8_step (by decide) (Nat.le_of_ble_eq_true rfl) (sp_X8_step r w hk (by omega) (by omega) (by omega) ?_)
                  refine v_aload_n 58 rfl dX8_bestAt_57 rfl ?_
                  refine v_get 61 (k := 11) 8 (rfv x 48) (by decide) rfl (by decide) (by decide) dX8_bestAt_58 rfl fl_X8_32 rfl ?_
                  refine v_iconst 62 (nI (4)) (by decide) dX8_bestAt_61 rfl ?_
                  refine v_iload 64 rfl dX8_bestAt_62 rfl ?_
                  refine v_imul 65 (nI (4 * i)) dX8_bestAt_64 rfl (pk_mul _ _) ?_
                  refine v_iconst 66 (nI (4)) (by decide) dX8_bestAt_65 rfl ?_
                  refine v_iadd 67 (nI ((4 * i) + 4)) dX8_bestAt_66 rfl (nI_add _ _) ?_
                  refine v_iload 69 rfl dX8_bestAt_67 rfl ?_
                  refine v_iadd 70 (nI (((4 * i) + 4) + t)) dX8_bestAt_69 rfl (nI_add _ _) ?_
                  refine v_lald 71 (k := ((4 * i) + 4) + t) (lN (grW f k (i + 1) t)) (by decide) rfl (by decide) dX8_bestAt_70 rfl rfl (by omega) (um.2.2.1 (i + 1) _ _ (by omega) (by omega) (by omega)) ?_
                  refine v_lmul 72 (lN (gnW f k i (pathW f k i) t)) dX8_bestAt_71 rfl ((lN_mul _ _).trans (congrArg lN gnW_st.symm)) ?_
                  refine v_aload_n 73 rfl dX8_bestAt_72 rfl ?_
                  refine v_get 76 (k := 11) 8 (rfv x 48) (by decide) rfl (by decide) (by decide) dX8_bestAt_73 rfl fl_X8_32 rfl ?_
                  refine v_iconst 77 (nI (4)) (by decide) dX8_bestAt_76 rfl ?_
                  refine v_iload 79 rfl dX8_bestAt_77 rfl ?_
                  refine v_imul 80 (nI (4 * i)) dX8_bestAt_79 rfl (pk_mul _ _) ?_
                  refine v_iload 82 rfl dX8_bestAt_80 rfl ?_
                  refine v_iadd 83 (nI ((4 * i) + (pathW f k i))) dX8_bestAt_82 rfl (nI_add _ _) ?_
                  refine v_lald 84 (k := (4 * i) + (pathW f k i)) (lN (grW f k i (pathW f k i))) (by decide) rfl (by decide) dX8_bestAt_83 rfl rfl (by omega) (um.2.2.1 i _ _ (by omega) hl rfl) ?_
                  refine v_lcmp_eq 85 94 88 dX8_bestAt_84 rfl dX8_bestAt_85 (by decide) rfl (fun h84 => ?_) (fun h84 => ?_)
                  · skip
                    exact absurd ((pk_lEQ (gnW_le w hk (by omega) hl (by omega)) (Nat.lt_of_le_of_lt (grW_le w hk (by omega) hl) (by decide))).mp h84) (by rw [grW_mx (by omega)]; exact am_ne w.n1 ht)
                  · skip
                    refine v_iinc 91 [some (rfv x 40), some (.int (nI (k))), some (.int (nI (p))), none, none, some (.int (nI (pathW f k i))), some (.int (nI (i))), some (.int (nI (t + 1)))] (nI (t + 1)) dX8_bestAt_88 rfl (by decide) rfl (nI_inc _) rfl ?_
                    refine v_goto 46 dX8_bestAt_91 (by decide) ?_
                    refine v_drop [some (rfv x 40), some (.int (nI (k))), some (.int (nI (p))), none, none, some (.int (nI (pathW f k i))), some (.int (nI (i))), some (.int (nI (t + 1)))] (by simp [lsub, smN_s]) ?_
                    exact ih2
              refine v_drop [some (rfv x 40), some (.int (nI (k))), some (.int (nI (p))), none, none, some (.int (nI (pathW f k i))), some (.int (nI (i))), some (.int (nI (0)))] (by simp [lsub, smN, amN, dbW, mxN]) ?_
              exact lq 0 (Nat.zero_le _)
        refine v_drop [some (rfv x 40), some (.int (nI (k))), some (.int (nI (p))), none, none, some (.int (nI (pathW f k 0))), some (.int (nI (0))), none] (by simp [lsub, pathW]) ?_
        exact lp2 0 (Nat.zero_le _)
      · skip
        exact absurd (congrArg lN (bestW_am w)) h24
    · intro i hi ih 
      refine v_aload_n 9 rfl dX8_bestAt_8 rfl ?_
      refine v_get 12 (k := 9) 8 (rfv x 46) (by decide) rfl (by decide) (by decide) dX8_bestAt_9 rfl fl_X8_25 rfl ?_
      refine v_iload 14 rfl dX8_bestAt_12 rfl ?_
      refine v_lald 15 (k := i) (lN (upW f k 0 i)) (by decide) rfl (by decide) dX8_bestAt_14 rfl rfl (by omega) (um.1 0 _ _ (by omega) (by omega) (by omega)) ?_
      refine v_aload_n 16 rfl dX8_bestAt_15 rfl ?_
      refine v_get 19 (k := 11) 8 (rfv x 48) (by decide) rfl (by decide) (by decide) dX8_bestAt_16 rfl fl_X8_32 rfl ?_
      refine v_iload 21 rfl dX8_bestAt_19 rfl ?_
      refine v_lald 22 (k := i) (lN (grW f k 0 i)) (by decide) rfl (by decide) dX8_bestAt_21 rfl rfl (by omega) (um.2.2.1 0 _ _ (by omega) (by omega) (by omega)) ?_
      refine v_lmul 23 (lN (bgW f k i)) dX8_bestAt_22 rfl ((lN_mul _ _).trans (congrArg lN bgW_up.symm)) ?_
      refine v_lload_n 24 rfl dX8_bestAt_23 rfl ?_
      refine v_lcmp_eq 25 34 28 dX8_bestAt_24 rfl dX8_bestAt_25 (by decide) rfl (fun h24 => ?_) (fun h24 => ?_)
      · skip
        exact absurd ((pk_lEQ (bgW_le w hk (by omega)) hbl).mp h24) (am_ne w.n1 hi)
      · skip
        refine v_iinc 31 [some (rfv x 40), some (.int (nI (k))), some (.int (nI (p))), some (.long (lN (bestW f k))), none, some (.int (nI (i + 1))), none, none] (nI (i + 1)) dX8_bestAt_28 rfl (by decide) rfl (nI_inc _) rfl ?_
        refine v_goto 8 dX8_bestAt_31 (by decide) ?_
        refine v_drop [some (rfv x 40), some (.int (nI (k))), some (.int (nI (p))), some (.long (lN (bestW f k))), none, some (.int (nI (i + 1))), none, none] (by simp [lsub, smN_s]) ?_
        exact ih
  refine v_drop [some (rfv x 40), some (.int (nI (k))), some (.int (nI (p))), some (.long (lN (bestW f k))), none, some (.int (nI (0))), none, none] (by simp [lsub, smN, amN, dbW, mxN]) ?_
  exact lp 0 (Nat.zero_le _)
set_option maxHeartbeats 4000000 in
theorem sp_X8_runAt {x : Cx} {Q : Qt} {I : Iv} {L : Lv} {P : Pv} {f : Vw} (r : RR (I 41) f) (w : Wf f) {k r0 p : Nat} (hk : k < f 1) (um : UM f k L) (hr : r0 < cntW f k) (hp : p < nP f k) (hQ : Q (some (.int (nI ((rkW f k r0 (p + 1)).2)))) I L P) : SP x M_X8_runAt [rfv x 40, .int (nI (k)), .int (nI (r0)), .int (nI (p))] I L P Q := by
  have := w.n4
  have := w.n1
  have := w.m6
  have := w.p hk
  have hcl := cntW_le w hk
  refine SP.intro [some (rfv x 40), some (.int (nI (k))), some (.int (nI (r0))), some (.int (nI (p))), none, none, none, none, none, none] pn_X8_runAt (Nat.le_of_ble_eq_true rfl) rfl ?_
  refine v_iload_n 1 rfl dX8_runAt_0 rfl ?_
  refine v_i2l 2 (lN (r0)) dX8_runAt_1 rfl (nI_l (by omega)) ?_
  refine v_lstore 4 [some (rfv x 40), some (.int (nI (k))), some (.int (nI (r0))), some (.int (nI (p))), some (.long (lN (r0))), none, none, none, none, none] dX8_runAt_2 rfl (by decide) rfl ?_
  refine v_iconst 5 (nI (0)) (by decide) dX8_runAt_4 rfl ?_
  refine v_istore 7 [some (rfv x 40), some (.int (nI (k))), some (.int (nI (r0))), some (.int (nI (p))), some (.long (lN (r0))), none, some (.int (nI (0))), none, none, none] dX8_runAt_5 rfl (by decide) rfl ?_
  have lp : ∀ m l s, s + m = f 0 - 1 → l < smT (enW f k 0 0) s m → l < 2147483648 → fnd (enW f k 0 0) m l s = rkW f k r0 1 → V x M_X8_runAt Q 7 [some (rfv x 40), some (.int (nI (k))), some (.int (nI (r0))), some (.int (nI (p))), some (.long (lN (l))), none, some (.int (nI (s))), none, none, none] [] I L P := by
    intro m
    induction m with
    | zero =>
      intro l s hs hlt hl hz
      have hup := upL_le w hk (show 0 < nP f k by omega) (show s < f 0 by omega)
      have hmn := mnW_le (p := 0) (s := s) w hk
      have e1 := (pk_lLT (a := 0) (b := upW f k 0 s) (by decide) (by omega))
      have e2 := (pk_lEQ (a := upW f k 0 s) (b := 0) (by omega) (by decide))
      have e3 := (pk_lLT (a := l) (b := mnW f k 0 s) (by omega) (by omega))
      have ee : (enW f k 0 0) s = if 0 < upW f k 0 s then mnW f k 0 s else 0 := en_up
      have fz : fnd (enW f k 0 0) 0 l s = (l, s) := rfl
      refine v_aload_n 8 rfl dX8_runAt_7 rfl ?_
      refine v_get 11 (k := 9) 8 (rfv x 46) (by decide) rfl (by decide) (by decide) dX8_runAt_8 rfl fl_X8_25 rfl ?_
      refine v_iload 13 rfl dX8_runAt_11 rfl ?_
      refine v_lald 14 (k := s) (lN (upW f k 0 s)) (by decide) rfl (by decide) dX8_runAt_13 rfl rfl (by omega) (um.1 0 _ _ (by omega) (by omega) (by omega)) ?_
      refine v_lconst 15 (lN (0)) rfl dX8_runAt_14 rfl ?_
      refine v_lcmp_eq 16 32 19 dX8_runAt_15 rfl dX8_runAt_16 (by decide) rfl (fun h15 => ?_) (fun h15 => ?_)
      · skip
        rw [e2] at h15
        exfalso
        rw [smT, ee] at hlt
        by_cases q : 0 < upW f k 0 s
        · rw [if_pos q] at hlt
          omega
        · rw [if_neg q] at hlt
          omega
      · skip
        refine v_lload 21 rfl dX8_runAt_19 rfl ?_
        refine v_aload_n 22 rfl dX8_runAt_21 rfl ?_
        refine v_get 25 (k := 12) 8 (rfv x 49) (by decide) rfl (by decide) (by decide) dX8_runAt_22 rfl fl_X8_35 rfl ?_
        refine v_iload 27 rfl dX8_runAt_25 rfl ?_
        refine v_lald 28 (k := s) (lN (mnW f k 0 s)) (by decide) rfl (by decide) dX8_runAt_27 rfl rfl (by omega) (um.2.2.2 0 _ _ (by omega) (by omega) (by omega)) ?_
        refine v_lcmp_lt 29 66 32 dX8_runAt_28 rfl dX8_runAt_29 (by decide) rfl (fun h28 => ?_) (fun h28 => ?_)
        · skip
          refine v_iconst 67 (nI (0)) (by decide) dX8_runAt_66 rfl ?_
          refine v_istore 69 [some (rfv x 40), some (.int (nI (k))), some (.int (nI (r0))), some (.int (nI (p))), some (.long (lN (l))), none, some (.int (nI (s))), some (.int (nI (0))), none, none] dX8_runAt_67 rfl (by decide) rfl ?_
          have lp2 : ∀ i, i ≤ p → V x M_X8_runAt Q 69 [some (rfv x 40), some (.int (nI (k))), some (.int (nI (r0))), some (.int (nI (p))), some (.long (lN ((rkW f k r0 (i + 1)).1))), none, some (.int (nI ((rkW f k r0 (i + 1)).2))), some (.int (nI (i))), none, none] [] I L P := by
            refine lpU ?_ ?_
            · skip
              refine v_iload 71 rfl dX8_runAt_69 rfl ?_
              refine v_iload_n 72 rfl dX8_runAt_71 rfl ?_
              refine v_icmpN_ge 192 75 dX8_runAt_72 (by decide) rfl (by omega) (by omega) (fun h72 => ?_) (fun h72 => ?_)
              · skip
                refine v_iload 194 rfl dX8_runAt_192 rfl ?_
                refine v_iret rfl dX8_runAt_194 ?_
                exact hQ
              · skip
                exact absurd h72 (by omega)
            · intro i hi ih 
              have hb := rk_2 (k := k) (r := r0) w (i + 1)
              have hr1 := rk_1 (f := f) (k := k) (r := r0) (i + 1)
              refine v_iload 71 rfl dX8_runAt_69 rfl ?_
              refine v_iload_n 72 rfl dX8_runAt_71 rfl ?_
              refine v_icmpN_ge 192 75 dX8_runAt_72 (by decide) rfl (by omega) (by omega) (fun h72 => ?_) (fun h72 => ?_)
              · skip
                exact absurd h72 (by omega)
              · skip
                have lq : ∀ m l t, t + m = f 0 - 1 → l < smT (enW f k (i + 1) (rkW f k r0 (i + 1)).2) t m → l < 2147483648 → fnd (enW f k (i + 1) (rkW f k r0 (i + 1)).2) m l t = rkW f k r0 (i + 1 + 1) → V x M_X8_runAt Q 100 [some (rfv x 40), some (.int (nI (k))), some (.int (nI (r0))), some (.int (nI (p))), some (.long (lN (l))), none, some (.int (nI ((rkW f k r0 (i + 1)).2))), some (.int (nI (i))), some (.int (nI (t))), some (.int (nI (if 0 < stW f k i (rkW f k r0 (i + 1)).2 t then 1 else 0)))] [] I L P := by
                  intro m
                  induction m with
                  | zero =>
                    intro l t hs hlt hl hz
                    have hst := stW_le w hk (show i + 1 < nP f k by omega) hb (show t < f 0 by omega)
                    have hmn := mnW_le (p := i + 1) (s := t) w hk
                    have e3 := (pk_lLT (a := l) (b := mnW f k (i + 1) t) (by omega) (by omega))
                    have ee : (enW f k (i + 1) (rkW f k r0 (i + 1)).2) t = if 0 < stW f k i (rkW f k r0 (i + 1)).2 t then mnW f k (i + 1) t else 0 := en_st
                    have fz : fnd (enW f k (i + 1) (rkW f k r0 (i + 1)).2) 0 l t = (l, t) := rfl
                    refine v_iload 102 rfl dX8_runAt_100 rfl ?_
                    refine v_ifN_eq 125 105 dX8_runAt_102 (by decide) rfl (by split <;> omega) (fun h102 => ?_) (fun h102 => ?_)
                    · skip
                      exfalso
                      rw [smT, ee] at hlt
                      by_cases q : 0 < stW f k i (rkW f k r0 (i + 1)).2 t
                      · rw [if_pos q] at h102
                        omega
                      · rw [if_neg q] at hlt
                        omega
                    · skip
                      refine v_lload 107 rfl dX8_runAt_105 rfl ?_
                      refine v_aload_n 108 rfl dX8_runAt_107 rfl ?_
                      refine v_get 111 (k := 12) 8 (rfv x 49) (by decide) rfl (by decide) (by decide) dX8_runAt_108 rfl fl_X8_35 rfl ?_
                      refine v_iconst 112 (nI (4)) (by decide) dX8_runAt_111 rfl ?_
                      refine v_iload 114 rfl dX8_runAt_112 rfl ?_
                      refine v_imul 115 (nI (4 * i)) dX8_runAt_114 rfl (pk_mul _ _) ?_
                      refine v_iconst 116 (nI (4)) (by decide) dX8_runAt_115 rfl ?_
                      refine v_iadd 117 (nI ((4 * i) + 4)) dX8_runAt_116 rfl (nI_add _ _) ?_
                      refine v_iload 119 rfl dX8_runAt_117 rfl ?_
                      refine v_iadd 120 (nI (((4 * i) + 4) + t)) dX8_runAt_119 rfl (nI_add _ _) ?_
                      refine v_lald 121 (k := ((4 * i) + 4) + t) (lN (mnW f k (i + 1) t)) (by decide) rfl (by decide) dX8_runAt_120 rfl rfl (by omega) (um.2.2.2 (i + 1) _ _ (by omega) (by omega) (by omega)) ?_
                      refine v_lcmp_lt 122 182 125 dX8_runAt_121 rfl dX8_runAt_122 (by decide) rfl (fun h121 => ?_) (fun h121 => ?_)
                      · skip
                        refine v_iload 184 rfl dX8_runAt_182 rfl ?_
                        refine v_istore 186 [some (rfv x 40), some (.int (nI (k))), some (.int (nI (r0))), some (.int (nI (p))), some (.long (lN (l))), none, some (.int (nI (t))), some (.int (nI (i))), some (.int (nI (t))), some (.int (nI (if 0 < stW f k i (rkW f k r0 (i + 1)).2 t then 1 else 0)))] dX8_runAt_184 rfl (by decide) rfl ?_
                        refine v_iinc 189 [some (rfv x 40), some (.int (nI (k))), some (.int (nI (r0))), some (.int (nI (p))), some (.long (lN (l))), none, some (.int (nI (t))), some (.int (nI (i + 1))), some (.int (nI (t))), some (.int (nI (if 0 < stW f k i (rkW f k r0 (i + 1)).2 t then 1 else 0)))] (nI (i + 1)) dX8_runAt_186 rfl (by decide) rfl (nI_inc _) rfl ?_
                        refine v_goto 69 dX8_runAt_189 (by decide) ?_
                        refine v_drop [some (rfv x 40), some (.int (nI (k))), some (.int (nI (r0))), some (.int (nI (p))), some (.long (lN ((rkW f k r0 (i + 1 + 1)).1))), none, some (.int (nI ((rkW f k r0 (i + 1 + 1)).2))), some (.int (nI (i + 1))), none, none] (by simp [lsub, ← hz, fz]) ?_
                        exact ih
                      · skip
                        exfalso
                        rw [e3] at h121
                        rw [smT, ee] at hlt
                        by_cases q : 0 < stW f k i (rkW f k r0 (i + 1)).2 t
                        · rw [if_pos q] at hlt
                          omega
                        · rw [if_neg q] at hlt
                          omega
                  | succ m ih2 =>
                    intro l t hs hlt hl hz
                    have hst := stW_le w hk (show i + 1 < nP f k by omega) hb (show t < f 0 by omega)
                    have hmn := mnW_le (p := i + 1) (s := t) w hk
                    have e3 := (pk_lLT (a := l) (b := mnW f k (i + 1) t) (by omega) (by omega))
                    have ee : (enW f k (i + 1) (rkW f k r0 (i + 1)).2) t = if 0 < stW f k i (rkW f k r0 (i + 1)).2 t then mnW f k (i + 1) t else 0 := en_st
                    rw [smT_s] at hlt
                    have e4 := (pk_lLT (a := 0) (b := stW f k i (rkW f k r0 (i + 1)).2 (t + 1)) (by decide) (by have := stW_le w hk (show i + 1 < nP f k by omega) hb (show t + 1 < f 0 by omega); omega))
                    refine v_iload 102 rfl dX8_runAt_100 rfl ?_
                    refine v_ifN_eq 125 105 dX8_runAt_102 (by decide) rfl (by split <;> omega) (fun h102 => ?_) (fun h102 => ?_)
                    · skip
                      have q : ¬ 0 < stW f k i (rkW f k r0 (i + 1)).2 t := fun q => by rw [if_pos q] at h102; omega
                      have e0 : (enW f k (i + 1) (rkW f k r0 (i + 1)).2) t = 0 := by rw [ee, if_neg q]
                      refine v_lload 127 rfl dX8_runAt_125 rfl ?_
                      refine v_iload 129 rfl dX8_runAt_127 rfl ?_
                      refine v_ifN_eq 149 132 dX8_runAt_129 (by decide) rfl (by split <;> omega) (fun h129 => ?_) (fun h129 => ?_)
                      · skip
                        refine v_lconst 150 (lN (0)) rfl dX8_runAt_149 rfl ?_
                        refine v_lsub 151 (lN (l - 0)) dX8_runAt_150 rfl (lN_sub (by omega)) ?_
                        refine v_lstore 153 [some (rfv x 40), some (.int (nI (k))), some (.int (nI (r0))), some (.int (nI (p))), some (.long (lN (l - 0))), none, some (.int (nI ((rkW f k r0 (i + 1)).2))), some (.int (nI (i))), some (.int (nI (t))), some (.int (nI (if 0 < stW f k i (rkW f k r0 (i + 1)).2 t then 1 else 0)))] dX8_runAt_151 rfl (by decide) rfl ?_
                        refine v_iinc 156 [some (rfv x 40), some (.int (nI (k))), some (.int (nI (r0))), some (.int (nI (p))), some (.long (lN (l - 0))), none, some (.int (nI ((rkW f k r0 (i + 1)).2))), some (.int (nI (i))), some (.int (nI (t + 1))), some (.int (nI (if 0 < stW f k i (rkW f k r0 (i + 1)).2 t then 1 else 0)))] (nI (t + 1)) dX8_runAt_153 rfl (by decide) rfl (nI_inc _) rfl ?_
                        refine v_aload_n 157 rfl dX8_runAt_156 rfl ?_
                        refine v_iload_n 158 rfl dX8_runAt_157 rfl ?_
                        refine v_iload 160 rfl dX8_runAt_158 rfl ?_
                        refine v_iload 162 rfl dX8_runAt_160 rfl ?_
                        refine v_iload 164 rfl dX8_runAt_162 rfl ?_
                        refine v_invV 167 M_X8_step [.int (nI (k)), .int (nI (i)), .int (nI ((rkW f k r0 (i + 1)).2)), .int (nI (t + 1))] (by decide) rfl (by decide) rfl dX8_runAt_164 rfl ml_X8_83 im_X8_step se_X8_step mc_X8_step (by decide) (Nat.le_of_ble_eq_true rfl) (sp_X8_step r w hk hb (by omega) (by omega) ?_)
                        refine v_lconst 168 (lN (0)) rfl dX8_runAt_167 rfl ?_
                        refine v_lcmp_le 169 176 172 dX8_runAt_168 rfl dX8_runAt_169 (by decide) rfl (fun h168 => ?_) (fun h168 => ?_)
                        · skip
                          refine v_iconst 177 (nI (0)) (by decide) dX8_runAt_176 rfl ?_
                          refine v_istore 179 [some (rfv x 40), some (.int (nI (k))), some (.int (nI (r0))), some (.int (nI (p))), some (.long (lN (l - 0))), none, some (.int (nI ((rkW f k r0 (i + 1)).2))), some (.int (nI (i))), some (.int (nI (t + 1))), some (.int (nI (0)))] dX8_runAt_177 rfl (by decide) rfl ?_
                          refine v_goto 100 dX8_runAt_179 (by decide) ?_
                          refine v_drop [some (rfv x 40), some (.int (nI (k))), some (.int (nI (r0))), some (.int (nI (p))), some (.long (lN (l - 0))), none, some (.int (nI ((rkW f k r0 (i + 1)).2))), some (.int (nI (i))), some (.int (nI (t + 1))), some (.int (nI (if 0 < stW f k i (rkW f k r0 (i + 1)).2 (t + 1) then 1 else 0)))] (by rw [e4] at h168; simp [lsub, h168]) ?_
                          exact ih2 _ _ (by omega) (by rw [e0] at hlt; omega) (by omega) (by rw [fnd, e0, if_neg (by omega)] at hz; exact hz)
                        · skip
                          refine v_iconst 173 (nI (1)) (by decide) dX8_runAt_172 rfl ?_
                          refine v_goto 177 dX8_runAt_173 (by decide) ?_
                          refine v_istore 179 [some (rfv x 40), some (.int (nI (k))), some (.int (nI (r0))), some (.int (nI (p))), some (.long (lN (l - 0))), none, some (.int (nI ((rkW f k r0 (i + 1)).2))), some (.int (nI (i))), some (.int (nI (t + 1))), some (.int (nI (1)))] dX8_runAt_177 rfl (by decide) rfl ?_
                          refine v_goto 100 dX8_runAt_179 (by decide) ?_
                          refine v_drop [some (rfv x 40), some (.int (nI (k))), some (.int (nI (r0))), some (.int (nI (p))), some (.long (lN (l - 0))), none, some (.int (nI ((rkW f k r0 (i + 1)).2))), some (.int (nI (i))), some (.int (nI (t + 1))), some (.int (nI (if 0 < stW f k i (rkW f k r0 (i + 1)).2 (t + 1) then 1 else 0)))] (by rw [e4] at h168; simp [lsub, h168]) ?_
                          exact ih2 _ _ (by omega) (by rw [e0] at hlt; omega) (by omega) (by rw [fnd, e0, if_neg (by omega)] at hz; exact hz)
                      · skip
                        exact absurd h102 h129
                    · skip
                      refine v_lload 107 rfl dX8_runAt_105 rfl ?_
                      refine v_aload_n 108 rfl dX8_runAt_107 rfl ?_
                      refine v_get 111 (k := 12) 8 (rfv x 49) (by decide) rfl (by decide) (by decide) dX8_runAt_108 rfl fl_X8_35 rfl ?_
                      refine v_iconst 112 (nI (4)) (by decide) dX8_runAt_111 rfl ?_
                      refine v_iload 114 rfl dX8_runAt_112 rfl ?_
                      refine v_imul 115 (nI (4 * i)) dX8_runAt_114 rfl (pk_mul _ _) ?_
                      refine v_iconst 116 (nI (4)) (by decide) dX8_runAt_115 rfl ?_
                      refine v_iadd 117 (nI ((4 * i) + 4)) dX8_runAt_116 rfl (nI_add _ _) ?_
                      refine v_iload 119 rfl dX8_runAt_117 rfl ?_
                      refine v_iadd 120 (nI (((4 * i) + 4) + t)) dX8_runAt_119 rfl (nI_add _ _) ?_
                      refine v_lald 121 (k := ((4 * i) + 4) + t) (lN (mnW f k (i + 1) t)) (by decide) rfl (by decide) dX8_runAt_120 rfl rfl (by omega) (um.2.2.2 (i + 1) _ _ (by omega) (by omega) (by omega)) ?_
                      refine v_lcmp_lt 122 182 125 dX8_runAt_121 rfl dX8_runAt_122 (by decide) rfl (fun h121 => ?_) (fun h121 => ?_)
                      · skip
                        have q : 0 < stW f k i (rkW f k r0 (i + 1)).2 t := Nat.pos_of_ne_zero (fun q => h102 (by rw [q]; rfl))
                        have fz : fnd (enW f k (i + 1) (rkW f k r0 (i + 1)).2) (m + 1) l t = (l, t) := by rw [fnd, ee, if_pos q, if_pos (e3.mp h121)]
                        refine v_iload 184 rfl dX8_runAt_182 rfl ?_
                        refine v_istore 186 [some (rfv x 40), some (.int (nI (k))), some (.int (nI (r0))), some (.int (nI (p))), some (.long (lN (l))), none, some (.int (nI (t))), some (.int (nI (i))), some (.int (nI (t))), some (.int (nI (if 0 < stW f k i (rkW f k r0 (i + 1)).2 t then 1 else 0)))] dX8_runAt_184 rfl (by decide) rfl ?_
                        refine v_iinc 189 [some (rfv x 40), some (.int (nI (k))), some (.int (nI (r0))), some (.int (nI (p))), some (.long (lN (l))), none, some (.int (nI (t))), some (.int (nI (i + 1))), some (.int (nI (t))), some (.int (nI (if 0 < stW f k i (rkW f k r0 (i + 1)).2 t then 1 else 0)))] (nI (i + 1)) dX8_runAt_186 rfl (by decide) rfl (nI_inc _) rfl ?_
                        refine v_goto 69 dX8_runAt_189 (by decide) ?_
                        refine v_drop [some (rfv x 40), some (.int (nI (k))), some (.int (nI (r0))), some (.int (nI (p))), some (.long (lN ((rkW f k r0 (i + 1 + 1)).1))), none, some (.int (nI ((rkW f k r0 (i + 1 + 1)).2))), some (.int (nI (i + 1))), none, none] (by simp [lsub, ← hz, fz]) ?_
                        exact ih
                      · skip
                        have q : 0 < stW f k i (rkW f k r0 (i + 1)).2 t := Nat.pos_of_ne_zero (fun q => h102 (by rw [q]; rfl))
                        have e0 : (enW f k (i + 1) (rkW f k r0 (i + 1)).2) t = mnW f k (i + 1) t := by rw [ee, if_pos q]
                        rw [e3] at h121
                        refine v_lload 127 rfl dX8_runAt_125 rfl ?_
                        refine v_iload 129 rfl dX8_runAt_127 rfl ?_
                        refine v_ifN_eq 149 132 dX8_runAt_129 (by decide) rfl (by split <;> omega) (fun h129 => ?_) (fun h129 => ?_)
                        · skip
                          exact absurd h129 h102
                        · skip
                          refine v_aload_n 133 rfl dX8_runAt_132 rfl ?_
                          refine v_get 136 (k := 12) 8 (rfv x 49) (by decide) rfl (by decide) (by decide) dX8_runAt_133 rfl fl_X8_35 rfl ?_
                          refine v_iconst 137 (nI (4)) (by decide) dX8_runAt_136 rfl ?_
                          refine v_iload 139 rfl dX8_runAt_137 rfl ?_
                          refine v_imul 140 (nI (4 * i)) dX8_runAt_139 rfl (pk_mul _ _) ?_
                          refine v_iconst 141 (nI (4)) (by decide) dX8_runAt_140 rfl ?_
                          refine v_iadd 142 (nI ((4 * i) + 4)) dX8_runAt_141 rfl (nI_add _ _) ?_
                          refine v_iload 144 rfl dX8_runAt_142 rfl ?_
                          refine v_iadd 145 (nI (((4 * i) + 4) + t)) dX8_runAt_144 rfl (nI_add _ _) ?_
                          refine v_lald 146 (k := ((4 * i) + 4) + t) (lN (mnW f k (i + 1) t)) (by decide) rfl (by decide) dX8_runAt_145 rfl rfl (by omega) (um.2.2.2 (i + 1) _ _ (by omega) (by omega) (by omega)) ?_
                          refine v_goto 150 dX8_runAt_146 (by decide) ?_
                          refine v_lsub 151 (lN (l - (mnW f k (i + 1) t))) dX8_runAt_150 rfl (lN_sub (by omega)) ?_
                          refine v_lstore 153 [some (rfv x 40), some (.int (nI (k))), some (.int (nI (r0))), some (.int (nI (p))), some (.long (lN (l - (mnW f k (i + 1) t)))), none, some (.int (nI ((rkW f k r0 (i + 1)).2))), some (.int (nI (i))), some (.int (nI (t))), some (.int (nI (if 0 < stW f k i (rkW f k r0 (i + 1)).2 t then 1 else 0)))] dX8_runAt_151 rfl (by decide) rfl ?_
                          refine v_iinc 156 [some (rfv x 40), some (.int (nI (k))), some (.int (nI (r0))), some (.int (nI (p))), some (.long (lN (l - (mnW f k (i + 1) t)))), none, some (.int (nI ((rkW f k r0 (i + 1)).2))), some (.int (nI (i))), some (.int (nI (t + 1))), some (.int (nI (if 0 < stW f k i (rkW f k r0 (i + 1)).2 t then 1 else 0)))] (nI (t + 1)) dX8_runAt_153 rfl (by decide) rfl (nI_inc _) rfl ?_
                          refine v_aload_n 157 rfl dX8_runAt_156 rfl ?_
                          refine v_iload_n 158 rfl dX8_runAt_157 rfl ?_
                          refine v_iload 160 rfl dX8_runAt_158 rfl ?_
                          refine v_iload 162 rfl dX8_runAt_160 rfl ?_
                          refine v_iload 164 rfl dX8_runAt_162 rfl ?_
                          refine v_invV 167 M_X8_step [.int (nI (k)), .int (nI (i)), .int (nI ((rkW f k r0 (i + 1)).2)), .int (nI (t + 1))] (by decide) rfl (by decide) rfl dX8_runAt_164 rfl ml_X8_83 im_X8_step se_X8_step mc_X8_step (by decide) (Nat.le_of_ble_eq_true rfl) (sp_X8_step r w hk hb (by omega) (by omega) ?_)
                          refine v_lconst 168 (lN (0)) rfl dX8_runAt_167 rfl ?_
                          refine v_lcmp_le 169 176 172 dX8_runAt_168 rfl dX8_runAt_169 (by decide) rfl (fun h168 => ?_) (fun h168 => ?_)
                          · skip
                            refine v_iconst 177 (nI (0)) (by decide) dX8_runAt_176 rfl ?_
                            refine v_istore 179 [some (rfv x 40), some (.int (nI (k))), some (.int (nI (r0))), some (.int (nI (p))), some (.long (lN (l - (mnW f k (i + 1) t)))), none, some (.int (nI ((rkW f k r0 (i + 1)).2))), some (.int (nI (i))), some (.int (nI (t + 1))), some (.int (nI (0)))] dX8_runAt_177 rfl (by decide) rfl ?_
                            refine v_goto 100 dX8_runAt_179 (by decide) ?_
                            refine v_drop [some (rfv x 40), some (.int (nI (k))), some (.int (nI (r0))), some (.int (nI (p))), some (.long (lN (l - mnW f k (i + 1) t))), none, some (.int (nI ((rkW f k r0 (i + 1)).2))), some (.int (nI (i))), some (.int (nI (t + 1))), some (.int (nI (if 0 < stW f k i (rkW f k r0 (i + 1)).2 (t + 1) then 1 else 0)))] (by rw [e4] at h168; simp [lsub, h168]) ?_
                            exact ih2 _ _ (by omega) (by rw [e0] at hlt; omega) (by omega) (by rw [fnd, e0, if_neg (by omega)] at hz; exact hz)
                          · skip
                            refine v_iconst 173 (nI (1)) (by decide) dX8_runAt_172 rfl ?_
                            refine v_goto 177 dX8_runAt_173 (by decide) ?_
                            refine v_istore 179 [some (rfv x 40), some (.int (nI (k))), some (.int (nI (r0))), some (.int (nI (p))), some (.long (lN (l - (mnW f k (i + 1) t)))), none, some (.int (nI ((rkW f k r0 (i + 1)).2))), some (.int (nI (i))), some (.int (nI (t + 1))), some (.int (nI (1)))] dX8_runAt_177 rfl (by decide) rfl ?_
                            refine v_goto 100 dX8_runAt_179 (by decide) ?_
                            refine v_drop [some (rfv x 40), some (.int (nI (k))), some (.int (nI (r0))), some (.int (nI (p))), some (.long (lN (l - mnW f k (i + 1) t))), none, some (.int (nI ((rkW f k r0 (i + 1)).2))), some (.int (nI (i))), some (.int (nI (t + 1))), some (.int (nI (if 0 < stW f k i (rkW f k r0 (i + 1)).2 (t + 1) then 1 else 0)))] (by rw [e4] at h168; simp [lsub, h168]) ?_
                            exact ih2 _ _ (by omega) (by rw [e0] at hlt; omega) (by omega) (by rw [fnd, e0, if_neg (by omega)] at hz; exact hz)
                have e4 := (pk_lLT (a := 0) (b := stW f k i (rkW f k r0 (i + 1)).2 0) (by decide) (by have := stW_le w hk (show i + 1 < nP f k by omega) hb w.n1; omega))
                refine v_iconst 76 (nI (0)) (by decide) dX8_runAt_75 rfl ?_
                refine v_istore 78 [some (rfv x 40), some (.int (nI (k))), some (.int (nI (r0))), some (.int (nI (p))), some (.long (lN ((rkW f k r0 (i + 1)).1))), none, some (.int (nI ((rkW f k r0 (i + 1)).2))), some (.int (nI (i))), some (.int (nI (0))), none] dX8_runAt_76 rfl (by decide) rfl ?_
                refine v_aload_n 79 rfl dX8_runAt_78 rfl ?_
                refine v_iload_n 80 rfl dX8_runAt_79 rfl ?_
                refine v_iload 82 rfl dX8_runAt_80 rfl ?_
                refine v_iload 84 rfl dX8_runAt_82 rfl ?_
                refine v_iconst 85 (nI (0)) (by decide) dX8_runAt_84 rfl ?_
                refine v_invV 88 M_X8_step [.int (nI (k)), .int (nI (i)), .int (nI ((rkW f k r0 (i + 1)).2)), .int (nI (0))] (by decide) rfl (by decide) rfl dX8_runAt_85 rfl ml_X8_83 im_X8_step se_X8_step mc_X8_step (by decide) (Nat.le_of_ble_eq_true rfl) (sp_X8_step r w hk hb (by omega) (by omega) ?_)
                refine v_lconst 89 (lN (0)) rfl dX8_runAt_88 rfl ?_
                refine v_lcmp_le 90 97 93 dX8_runAt_89 rfl dX8_runAt_90 (by decide) rfl (fun h89 => ?_) (fun h89 => ?_)
                · skip
                  refine v_iconst 98 (nI (0)) (by decide) dX8_runAt_97 rfl ?_
                  refine v_istore 100 [some (rfv x 40), some (.int (nI (k))), some (.int (nI (r0))), some (.int (nI (p))), some (.long (lN ((rkW f k r0 (i + 1)).1))), none, some (.int (nI ((rkW f k r0 (i + 1)).2))), some (.int (nI (i))), some (.int (nI (0))), some (.int (nI (0)))] dX8_runAt_98 rfl (by decide) rfl ?_
                  refine v_drop [some (rfv x 40), some (.int (nI (k))), some (.int (nI (r0))), some (.int (nI (p))), some (.long (lN ((rkW f k r0 (i + 1)).1))), none, some (.int (nI ((rkW f k r0 (i + 1)).2))), some (.int (nI (i))), some (.int (nI (0))), some (.int (nI (if 0 < stW f k i (rkW f k r0 (i + 1)).2 0 then 1 else 0)))] (by rw [e4] at h89; simp [lsub, h89]) ?_
                  exact lq (f 0 - 1) _ 0 (by omega) (by rw [smT_0 w.n1]; exact (rk_lt w hr (i + 1) (by omega)).2) (by omega) rfl
                · skip
                  refine v_iconst 94 (nI (1)) (by decide) dX8_runAt_93 rfl ?_
                  refine v_goto 98 dX8_runAt_94 (by decide) ?_
                  refine v_istore 100 [some (rfv x 40), some (.int (nI (k))), some (.int (nI (r0))), some (.int (nI (p))), some (.long (lN ((rkW f k r0 (i + 1)).1))), none, some (.int (nI ((rkW f k r0 (i + 1)).2))), some (.int (nI (i))), some (.int (nI (0))), some (.int (nI (1)))] dX8_runAt_98 rfl (by decide) rfl ?_
                  refine v_drop [some (rfv x 40), some (.int (nI (k))), some (.int (nI (r0))), some (.int (nI (p))), some (.long (lN ((rkW f k r0 (i + 1)).1))), none, some (.int (nI ((rkW f k r0 (i + 1)).2))), some (.int (nI (i))), some (.int (nI (0))), some (.int (nI (if 0 < stW f k i (rkW f k r0 (i + 1)).2 0 then 1 else 0)))] (by rw [e4] at h89; simp [lsub, h89]) ?_
                  exact lq (f 0 - 1) _ 0 (by omega) (by rw [smT_0 w.n1]; exact (rk_lt w hr (i + 1) (by omega)).2) (by omega) rfl
          refine v_drop [some (rfv x 40), some (.int (nI (k))), some (.int (nI (r0))), some (.int (nI (p))), some (.long (lN ((rkW f k r0 (0 + 1)).1))), none, some (.int (nI ((rkW f k r0 (0 + 1)).2))), some (.int (nI (0))), none, none] (by simp [lsub, ← hz, fz]) ?_
          exact lp2 0 (Nat.zero_le _)
        · skip
          rw [e3] at h28
          exfalso
          rw [smT, ee] at hlt
          by_cases q : 0 < upW f k 0 s
          · rw [if_pos q] at hlt
            omega
          · rw [if_neg q] at hlt
            omega
    | succ m ih2 =>
      intro l s hs hlt hl hz
      have hup := upL_le w hk (show 0 < nP f k by omega) (show s < f 0 by omega)
      have hmn := mnW_le (p := 0) (s := s) w hk
      have e1 := (pk_lLT (a := 0) (b := upW f k 0 s) (by decide) (by omega))
      have e2 := (pk_lEQ (a := upW f k 0 s) (b := 0) (by omega) (by decide))
      have e3 := (pk_lLT (a := l) (b := mnW f k 0 s) (by omega) (by omega))
      have ee : (enW f k 0 0) s = if 0 < upW f k 0 s then mnW f k 0 s else 0 := en_up
      rw [smT_s] at hlt
      refine v_aload_n 8 rfl dX8_runAt_7 rfl ?_
      refine v_get 11 (k := 9) 8 (rfv x 46) (by decide) rfl (by decide) (by decide) dX8_runAt_8 rfl fl_X8_25 rfl ?_
      refine v_iload 13 rfl dX8_runAt_11 rfl ?_
      refine v_lald 14 (k := s) (lN (upW f k 0 s)) (by decide) rfl (by decide) dX8_runAt_13 rfl rfl (by omega) (um.1 0 _ _ (by omega) (by omega) (by omega)) ?_
      refine v_lconst 15 (lN (0)) rfl dX8_runAt_14 rfl ?_
      refine v_lcmp_eq 16 32 19 dX8_runAt_15 rfl dX8_runAt_16 (by decide) rfl (fun h15 => ?_) (fun h15 => ?_)
      · skip
        rw [e2] at h15
        have e0 : (enW f k 0 0) s = 0 := by rw [ee, if_neg (by omega)]
        refine v_lload 34 rfl dX8_runAt_32 rfl ?_
        refine v_aload_n 35 rfl dX8_runAt_34 rfl ?_
        refine v_get 38 (k := 9) 8 (rfv x 46) (by decide) rfl (by decide) (by decide) dX8_runAt_35 rfl fl_X8_25 rfl ?_
        refine v_iload 40 rfl dX8_runAt_38 rfl ?_
        refine v_lald 41 (k := s) (lN (upW f k 0 s)) (by decide) rfl (by decide) dX8_runAt_40 rfl rfl (by omega) (um.1 0 _ _ (by omega) (by omega) (by omega)) ?_
        refine v_lconst 42 (lN (0)) rfl dX8_runAt_41 rfl ?_
        refine v_lcmp_le 43 56 46 dX8_runAt_42 rfl dX8_runAt_43 (by decide) rfl (fun h42 => ?_) (fun h42 => ?_)
        · skip
          refine v_lconst 57 (lN (0)) rfl dX8_runAt_56 rfl ?_
          refine v_lsub 58 (lN (l - 0)) dX8_runAt_57 rfl (lN_sub (by omega)) ?_
          refine v_lstore 60 [some (rfv x 40), some (.int (nI (k))), some (.int (nI (r0))), some (.int (nI (p))), some (.long (lN (l - 0))), none, some (.int (nI (s))), none, none, none] dX8_runAt_58 rfl (by decide) rfl ?_
          refine v_iinc 63 [some (rfv x 40), some (.int (nI (k))), some (.int (nI (r0))), some (.int (nI (p))), some (.long (lN (l - 0))), none, some (.int (nI (s + 1))), none, none, none] (nI (s + 1)) dX8_runAt_60 rfl (by decide) rfl (nI_inc _) rfl ?_
          refine v_goto 7 dX8_runAt_63 (by decide) ?_
          refine v_drop [some (rfv x 40), some (.int (nI (k))), some (.int (nI (r0))), some (.int (nI (p))), some (.long (lN (l - 0))), none, some (.int (nI (s + 1))), none, none, none] (by simp [lsub]) ?_
          exact ih2 _ _ (by omega) (by rw [e0] at hlt; omega) (by omega) (by rw [fnd, e0, if_neg (by omega)] at hz; exact hz)
        · skip
          exact absurd (e1.mp h42) (by omega)
      · skip
        refine v_lload 21 rfl dX8_runAt_19 rfl ?_
        refine v_aload_n 22 rfl dX8_runAt_21 rfl ?_
        refine v_get 25 (k := 12) 8 (rfv x 49) (by decide) rfl (by decide) (by decide) dX8_runAt_22 rfl fl_X8_35 rfl ?_
        refine v_iload 27 rfl dX8_runAt_25 rfl ?_
        refine v_lald 28 (k := s) (lN (mnW f k 0 s)) (by decide) rfl (by decide) dX8_runAt_27 rfl rfl (by omega) (um.2.2.2 0 _ _ (by omega) (by omega) (by omega)) ?_
        refine v_lcmp_lt 29 66 32 dX8_runAt_28 rfl dX8_runAt_29 (by decide) rfl (fun h28 => ?_) (fun h28 => ?_)
        · skip
          have q : 0 < upW f k 0 s := Nat.pos_of_ne_zero (fun q => h15 (e2.mpr q))
          have fz : fnd (enW f k 0 0) (m + 1) l s = (l, s) := by rw [fnd, ee, if_pos q, if_pos (e3.mp h28)]
          refine v_iconst 67 (nI (0)) (by decide) dX8_runAt_66 rfl ?_
          refine v_istore 69 [some (rfv x 40), some (.int (nI (k))), some (.int (nI (r0))), some (.int (nI (p))), some (.long (lN (l))), none, some (.int (nI (s))), some (.int (nI (0))), none, none] dX8_runAt_67 rfl (by decide) rfl ?_
          have lp2 : ∀ i, i ≤ p → V x M_X8_runAt Q 69 [some (rfv x 40), some (.int (nI (k))), some (.int (nI (r0))), some (.int (nI (p))), some (.long (lN ((rkW f k r0 (i + 1)).1))), none, some (.int (nI ((rkW f k r0 (i + 1)).2))), some (.int (nI (i))), none, none] [] I L P := by
            refine lpU ?_ ?_
            · skip
              refine v_iload 71 rfl dX8_runAt_69 rfl ?_
              refine v_iload_n 72 rfl dX8_runAt_71 rfl ?_
              refine v_icmpN_ge 192 75 dX8_runAt_72 (by decide) rfl (by omega) (by omega) (fun h72 => ?_) (fun h72 => ?_)
              · skip
                refine v_iload 194 rfl dX8_runAt_192 rfl ?_
                refine v_iret rfl dX8_runAt_194 ?_
                exact hQ
              · skip
                exact absurd h72 (by omega)
            · intro i hi ih 
              have hb := rk_2 (k := k) (r := r0) w (i + 1)
              have hr1 := rk_1 (f := f) (k := k) (r := r0) (i + 1)
              refine v_iload 71 rfl dX8_runAt_69 rfl ?_
              refine v_iload_n 72 rfl dX8_runAt_71 rfl ?_
              refine v_icmpN_ge 192 75 dX8_runAt_72 (by decide) rfl (by omega) (by omega) (fun h72 => ?_) (fun h72 => ?_)
              · skip
                exact absurd h72 (by omega)
              · skip
                have lq : ∀ m l t, t + m = f 0 - 1 → l < smT (enW f k (i + 1) (rkW f k r0 (i + 1)).2) t m → l < 2147483648 → fnd (enW f k (i + 1) (rkW f k r0 (i + 1)).2) m l t = rkW f k r0 (i + 1 + 1) → V x M_X8_runAt Q 100 [some (rfv x 40), some (.int (nI (k))), some (.int (nI (r0))), some (.int (nI (p))), some (.long (lN (l))), none, some (.int (nI ((rkW f k r0 (i + 1)).2))), some (.int (nI (i))), some (.int (nI (t))), some (.int (nI (if 0 < stW f k i (rkW f k r0 (i + 1)).2 t then 1 else 0)))] [] I L P := by
                  intro m
                  induction m with
                  | zero =>
                    intro l t hs hlt hl hz
                    have hst := stW_le w hk (show i + 1 < nP f k by omega) hb (show t < f 0 by omega)
                    have hmn := mnW_le (p := i + 1) (s := t) w hk
                    have e3 := (pk_lLT (a := l) (b := mnW f k (i + 1) t) (by omega) (by omega))
                    have ee : (enW f k (i + 1) (rkW f k r0 (i + 1)).2) t = if 0 < stW f k i (rkW f k r0 (i + 1)).2 t then mnW f k (i + 1) t else 0 := en_st
                    have fz : fnd (enW f k (i + 1) (rkW f k r0 (i + 1)).2) 0 l t = (l, t) := rfl
                    refine v_iload 102 rfl dX8_runAt_100 rfl ?_
                    refine v_ifN_eq 125 105 dX8_runAt_102 (by decide) rfl (by split <;> omega) (fun h102 => ?_) (fun h102 => ?_)
                    · skip
                      exfalso
                      rw [smT, ee] at hlt
                      by_cases q : 0 < stW f k i (rkW f k r0 (i + 1)).2 t
                      · rw [if_pos q] at h102
                        omega
                      · rw [if_neg q] at hlt
                        omega
                    · skip
                      refine v_lload 107 rfl dX8_runAt_105 rfl ?_
                      refine v_aload_n 108 rfl dX8_runAt_107 rfl ?_
                      refine v_get 111 (k := 12) 8 (rfv x 49) (by decide) rfl (by decide) (by decide) dX8_runAt_108 rfl fl_X8_35 rfl ?_
                      refine v_iconst 112 (nI (4)) (by decide) dX8_runAt_111 rfl ?_
                      refine v_iload 114 rfl dX8_runAt_112 rfl ?_
                      refine v_imul 115 (nI (4 * i)) dX8_runAt_114 rfl (pk_mul _ _) ?_
                      refine v_iconst 116 (nI (4)) (by decide) dX8_runAt_115 rfl ?_
                      refine v_iadd 117 (nI ((4 * i) + 4)) dX8_runAt_116 rfl (nI_add _ _) ?_
                      refine v_iload 119 rfl dX8_runAt_117 rfl ?_
                      refine v_iadd 120 (nI (((4 * i) + 4) + t)) dX8_runAt_119 rfl (nI_add _ _) ?_
                      refine v_lald 121 (k := ((4 * i) + 4) + t) (lN (mnW f k (i + 1) t)) (by decide) rfl (by decide) dX8_runAt_120 rfl rfl (by omega) (um.2.2.2 (i + 1) _ _ (by omega) (by omega) (by omega)) ?_
                      refine v_lcmp_lt 122 182 125 dX8_runAt_121 rfl dX8_runAt_122 (by decide) rfl (fun h121 => ?_) (fun h121 => ?_)
                      · skip
                        refine v_iload 184 rfl dX8_runAt_182 rfl ?_
                        refine v_istore 186 [some (rfv x 40), some (.int (nI (k))), some (.int (nI (r0))), some (.int (nI (p))), some (.long (lN (l))), none, some (.int (nI (t))), some (.int (nI (i))), some (.int (nI (t))), some (.int (nI (if 0 < stW f k i (rkW f k r0 (i + 1)).2 t then 1 else 0)))] dX8_runAt_184 rfl (by decide) rfl ?_
                        refine v_iinc 189 [some (rfv x 40), some (.int (nI (k))), some (.int (nI (r0))), some (.int (nI (p))), some (.long (lN (l))), none, some (.int (nI (t))), some (.int (nI (i + 1))), some (.int (nI (t))), some (.int (nI (if 0 < stW f k i (rkW f k r0 (i + 1)).2 t then 1 else 0)))] (nI (i + 1)) dX8_runAt_186 rfl (by decide) rfl (nI_inc _) rfl ?_
                        refine v_goto 69 dX8_runAt_189 (by decide) ?_
                        refine v_drop [some (rfv x 40), some (.int (nI (k))), some (.int (nI (r0))), some (.int (nI (p))), some (.long (lN ((rkW f k r0 (i + 1 + 1)).1))), none, some (.int (nI ((rkW f k r0 (i + 1 + 1)).2))), some (.int (nI (i + 1))), none, none] (by simp [lsub, ← hz, fz]) ?_
                        exact ih
                      · skip
                        exfalso
                        rw [e3] at h121
                        rw [smT, ee] at hlt
                        by_cases q : 0 < stW f k i (rkW f k r0 (i + 1)).2 t
                        · rw [if_pos q] at hlt
                          omega
                        · rw [if_neg q] at hlt
                          omega
                  | succ m ih2 =>
                    intro l t hs hlt hl hz
                    have hst := stW_le w hk (show i + 1 < nP f k by omega) hb (show t < f 0 by omega)
                    have hmn := mnW_le (p := i + 1) (s := t) w hk
                    have e3 := (pk_lLT (a := l) (b := mnW f k (i + 1) t) (by omega) (by omega))
                    have ee : (enW f k (i + 1) (rkW f k r0 (i + 1)).2) t = if 0 < stW f k i (rkW f k r0 (i + 1)).2 t then mnW f k (i + 1) t else 0 := en_st
                    rw [smT_s] at hlt
                    have e4 := (pk_lLT (a := 0) (b := stW f k i (rkW f k r0 (i + 1)).2 (t + 1)) (by decide) (by have := stW_le w hk (show i + 1 < nP f k by omega) hb (show t + 1 < f 0 by omega); omega))
                    refine v_iload 102 rfl dX8_runAt_100 rfl ?_
                    refine v_ifN_eq 125 105 dX8_runAt_102 (by decide) rfl (by split <;> omega) (fun h102 => ?_) (fun h102 => ?_)
                    · skip
                      have q : ¬ 0 < stW f k i (rkW f k r0 (i + 1)).2 t := fun q => by rw [if_pos q] at h102; omega
                      have e0 : (enW f k (i + 1) (rkW f k r0 (i + 1)).2) t = 0 := by rw [ee, if_neg q]
                      refine v_lload 127 rfl dX8_runAt_125 rfl ?_
                      refine v_iload 129 rfl dX8_runAt_127 rfl ?_
                      refine v_ifN_eq 149 132 dX8_runAt_129 (by decide) rfl (by split <;> omega) (fun h129 => ?_) (fun h129 => ?_)
                      · skip
                        refine v_lconst 150 (lN (0)) rfl dX8_runAt_149 rfl ?_
                        refine v_lsub 151 (lN (l - 0)) dX8_runAt_150 rfl (lN_sub (by omega)) ?_
                        refine v_lstore 153 [some (rfv x 40), some (.int (nI (k))), some (.int (nI (r0))), some (.int (nI (p))), some (.long (lN (l - 0))), none, some (.int (nI ((rkW f k r0 (i + 1)).2))), some (.int (nI (i))), some (.int (nI (t))), some (.int (nI (if 0 < stW f k i (rkW f k r0 (i + 1)).2 t then 1 else 0)))] dX8_runAt_151 rfl (by decide) rfl ?_
                        refine v_iinc 156 [some (rfv x 40), some (.int (nI (k))), some (.int (nI (r0))), some (.int (nI (p))), some (.long (lN (l - 0))), none, some (.int (nI ((rkW f k r0 (i + 1)).2))), some (.int (nI (i))), some (.int (nI (t + 1))), some (.int (nI (if 0 < stW f k i (rkW f k r0 (i + 1)).2 t then 1 else 0)))] (nI (t + 1)) dX8_runAt_153 rfl (by decide) rfl (nI_inc _) rfl ?_
                        refine v_aload_n 157 rfl dX8_runAt_156 rfl ?_
                        refine v_iload_n 158 rfl dX8_runAt_157 rfl ?_
                        refine v_iload 160 rfl dX8_runAt_158 rfl ?_
                        refine v_iload 162 rfl dX8_runAt_160 rfl ?_
                        refine v_iload 164 rfl dX8_runAt_162 rfl ?_
                        refine v_invV 167 M_X8_step [.int (nI (k)), .int (nI (i)), .int (nI ((rkW f k r0 (i + 1)).2)), .int (nI (t + 1))] (by decide) rfl (by decide) rfl dX8_runAt_164 rfl ml_X8_83 im_X8_step se_X8_step mc_X8_step (by decide) (Nat.le_of_ble_eq_true rfl) (sp_X8_step r w hk hb (by omega) (by omega) ?_)
                        refine v_lconst 168 (lN (0)) rfl dX8_runAt_167 rfl ?_
                        refine v_lcmp_le 169 176 172 dX8_runAt_168 rfl dX8_runAt_169 (by decide) rfl (fun h168 => ?_) (fun h168 => ?_)
                        · skip
                          refine v_iconst 177 (nI (0)) (by decide) dX8_runAt_176 rfl ?_
                          refine v_istore 179 [some (rfv x 40), some (.int (nI (k))), some (.int (nI (r0))), some (.int (nI (p))), some (.long (lN (l - 0))), none, some (.int (nI ((rkW f k r0 (i + 1)).2))), some (.int (nI (i))), some (.int (nI (t + 1))), some (.int (nI (0)))] dX8_runAt_177 rfl (by decide) rfl ?_
                          refine v_goto 100 dX8_runAt_179 (by decide) ?_
                          refine v_drop [some (rfv x 40), some (.int (nI (k))), some (.int (nI (r0))), some (.int (nI (p))), some (.long (lN (l - 0))), none, some (.int (nI ((rkW f k r0 (i + 1)).2))), some (.int (nI (i))), some (.int (nI (t + 1))), some (.int (nI (if 0 < stW f k i (rkW f k r0 (i + 1)).2 (t + 1) then 1 else 0)))] (by rw [e4] at h168; simp [lsub, h168]) ?_
                          exact ih2 _ _ (by omega) (by rw [e0] at hlt; omega) (by omega) (by rw [fnd, e0, if_neg (by omega)] at hz; exact hz)
                        · skip
                          refine v_iconst 173 (nI (1)) (by decide) dX8_runAt_172 rfl ?_
                          refine v_goto 177 dX8_runAt_173 (by decide) ?_
                          refine v_istore 179 [some (rfv x 40), some (.int (nI (k))), some (.int (nI (r0))), some (.int (nI (p))), some (.long (lN (l - 0))), none, some (.int (nI ((rkW f k r0 (i + 1)).2))), some (.int (nI (i))), some (.int (nI (t + 1))), some (.int (nI (1)))] dX8_runAt_177 rfl (by decide) rfl ?_
                          refine v_goto 100 dX8_runAt_179 (by decide) ?_
                          refine v_drop [some (rfv x 40), some (.int (nI (k))), some (.int (nI (r0))), some (.int (nI (p))), some (.long (lN (l - 0))), none, some (.int (nI ((rkW f k r0 (i + 1)).2))), some (.int (nI (i))), some (.int (nI (t + 1))), some (.int (nI (if 0 < stW f k i (rkW f k r0 (i + 1)).2 (t + 1) then 1 else 0)))] (by rw [e4] at h168; simp [lsub, h168]) ?_
                          exact ih2 _ _ (by omega) (by rw [e0] at hlt; omega) (by omega) (by rw [fnd, e0, if_neg (by omega)] at hz; exact hz)
                      · skip
                        exact absurd h102 h129
                    · skip
                      refine v_lload 107 rfl dX8_runAt_105 rfl ?_
                      refine v_aload_n 108 rfl dX8_runAt_107 rfl ?_
                      refine v_get 111 (k := 12) 8 (rfv x 49) (by decide) rfl (by decide) (by decide) dX8_runAt_108 rfl fl_X8_35 rfl ?_
                      refine v_iconst 112 (nI (4)) (by decide) dX8_runAt_111 rfl ?_
                      refine v_iload 114 rfl dX8_runAt_112 rfl ?_
                      refine v_imul 115 (nI (4 * i)) dX8_runAt_114 rfl (pk_mul _ _) ?_
                      refine v_iconst 116 (nI (4)) (by decide) dX8_runAt_115 rfl ?_
                      refine v_iadd 117 (nI ((4 * i) + 4)) dX8_runAt_116 rfl (nI_add _ _) ?_
                      refine v_iload 119 rfl dX8_runAt_117 rfl ?_
                      refine v_iadd 120 (nI (((4 * i) + 4) + t)) dX8_runAt_119 rfl (nI_add _ _) ?_
                      refine v_lald 121 (k := ((4 * i) + 4) + t) (lN (mnW f k (i + 1) t)) (by decide) rfl (by decide) dX8_runAt_120 rfl rfl (by omega) (um.2.2.2 (i + 1) _ _ (by omega) (by omega) (by omega)) ?_
                      refine v_lcmp_lt 122 182 125 dX8_runAt_121 rfl dX8_runAt_122 (by decide) rfl (fun h121 => ?_) (fun h121 => ?_)
                      · skip
                        have q : 0 < stW f k i (rkW f k r0 (i + 1)).2 t := Nat.pos_of_ne_zero (fun q => h102 (by rw [q]; rfl))
                        have fz : fnd (enW f k (i + 1) (rkW f k r0 (i + 1)).2) (m + 1) l t = (l, t) := by rw [fnd, ee, if_pos q, if_pos (e3.mp h121)]
                        refine v_iload 184 rfl dX8_runAt_182 rfl ?_
                        refine v_istore 186 [some (rfv x 40), some (.int (nI (k))), some (.int (nI (r0))), some (.int (nI (p))), some (.long (lN (l))), none, some (.int (nI (t))), some (.int (nI (i))), some (.int (nI (t))), some (.int (nI (if 0 < stW f k i (rkW f k r0 (i + 1)).2 t then 1 else 0)))] dX8_runAt_184 rfl (by decide) rfl ?_
                        refine v_iinc 189 [some (rfv x 40), some (.int (nI (k))), some (.int (nI (r0))), some (.int (nI (p))), some (.long (lN (l))), none, some (.int (nI (t))), some (.int (nI (i + 1))), some (.int (nI (t))), some (.int (nI (if 0 < stW f k i (rkW f k r0 (i + 1)).2 t then 1 else 0)))] (nI (i + 1)) dX8_runAt_186 rfl (by decide) rfl (nI_inc _) rfl ?_
                        refine v_goto 69 dX8_runAt_189 (by decide) ?_
                        refine v_drop [some (rfv x 40), some (.int (nI (k))), some (.int (nI (r0))), some (.int (nI (p))), some (.long (lN ((rkW f k r0 (i + 1 + 1)).1))), none, some (.int (nI ((rkW f k r0 (i + 1 + 1)).2))), some (.int (nI (i + 1))), none, none] (by simp [lsub, ← hz, fz]) ?_
                        exact ih
                      · skip
                        have q : 0 < stW f k i (rkW f k r0 (i + 1)).2 t := Nat.pos_of_ne_zero (fun q => h102 (by rw [q]; rfl))
                        have e0 : (enW f k (i + 1) (rkW f k r0 (i + 1)).2) t = mnW f k (i + 1) t := by rw [ee, if_pos q]
                        rw [e3] at h121
                        refine v_lload 127 rfl dX8_runAt_125 rfl ?_
                        refine v_iload 129 rfl dX8_runAt_127 rfl ?_
                        refine v_ifN_eq 149 132 dX8_runAt_129 (by decide) rfl (by split <;> omega) (fun h129 => ?_) (fun h129 => ?_)
                        · skip
                          exact absurd h129 h102
                        · skip
                          refine v_aload_n 133 rfl dX8_runAt_132 rfl ?_
                          refine v_get 136 (k := 12) 8 (rfv x 49) (by decide) rfl (by decide) (by decide) dX8_runAt_133 rfl fl_X8_35 rfl ?_
                          refine v_iconst 137 (nI (4)) (by decide) dX8_runAt_136 rfl ?_
                          refine v_iload 139 rfl dX8_runAt_137 rfl ?_
                          refine v_imul 140 (nI (4 * i)) dX8_runAt_139 rfl (pk_mul _ _) ?_
                          refine v_iconst 141 (nI (4)) (by decide) dX8_runAt_140 rfl ?_
                          refine v_iadd 142 (nI ((4 * i) + 4)) dX8_runAt_141 rfl (nI_add _ _) ?_
                          refine v_iload 144 rfl dX8_runAt_142 rfl ?_
                          refine v_iadd 145 (nI (((4 * i) + 4) + t)) dX8_runAt_144 rfl (nI_add _ _) ?_
                          refine v_lald 146 (k := ((4 * i) + 4) + t) (lN (mnW f k (i + 1) t)) (by decide) rfl (by decide) dX8_runAt_145 rfl rfl (by omega) (um.2.2.2 (i + 1) _ _ (by omega) (by omega) (by omega)) ?_
                          refine v_goto 150 dX8_runAt_146 (by decide) ?_
                          refine v_lsub 151 (lN (l - (mnW f k (i + 1) t))) dX8_runAt_150 rfl (lN_sub (by omega)) ?_
                          refine v_lstore 153 [some (rfv x 40), some (.int (nI (k))), some (.int (nI (r0))), some (.int (nI (p))), some (.long (lN (l - (mnW f k (i + 1) t)))), none, some (.int (nI ((rkW f k r0 (i + 1)).2))), some (.int (nI (i))), some (.int (nI (t))), some (.int (nI (if 0 < stW f k i (rkW f k r0 (i + 1)).2 t then 1 else 0)))] dX8_runAt_151 rfl (by decide) rfl ?_
                          refine v_iinc 156 [some (rfv x 40), some (.int (nI (k))), some (.int (nI (r0))), some (.int (nI (p))), some (.long (lN (l - (mnW f k (i + 1) t)))), none, some (.int (nI ((rkW f k r0 (i + 1)).2))), some (.int (nI (i))), some (.int (nI (t + 1))), some (.int (nI (if 0 < stW f k i (rkW f k r0 (i + 1)).2 t then 1 else 0)))] (nI (t + 1)) dX8_runAt_153 rfl (by decide) rfl (nI_inc _) rfl ?_
                          refine v_aload_n 157 rfl dX8_runAt_156 rfl ?_
                          refine v_iload_n 158 rfl dX8_runAt_157 rfl ?_
                          refine v_iload 160 rfl dX8_runAt_158 rfl ?_
                          refine v_iload 162 rfl dX8_runAt_160 rfl ?_
                          refine v_iload 164 rfl dX8_runAt_162 rfl ?_
                          refine v_invV 167 M_X8_step [.int (nI (k)), .int (nI (i)), .int (nI ((rkW f k r0 (i + 1)).2)), .int (nI (t + 1))] (by decide) rfl (by decide) rfl dX8_runAt_164 rfl ml_X8_83 im_X8_step se_X8_step mc_X8_step (by decide) (Nat.le_of_ble_eq_true rfl) (sp_X8_step r w hk hb (by omega) (by omega) ?_)
                          refine v_lconst 168 (lN (0)) rfl dX8_runAt_167 rfl ?_
                          refine v_lcmp_le 169 176 172 dX8_runAt_168 rfl dX8_runAt_169 (by decide) rfl (fun h168 => ?_) (fun h168 => ?_)
                          · skip
                            refine v_iconst 177 (nI (0)) (by decide) dX8_runAt_176 rfl ?_
                            refine v_istore 179 [some (rfv x 40), some (.int (nI (k))), some (.int (nI (r0))), some (.int (nI (p))), some (.long (lN (l - (mnW f k (i + 1) t)))), none, some (.int (nI ((rkW f k r0 (i + 1)).2))), some (.int (nI (i))), some (.int (nI (t + 1))), some (.int (nI (0)))] dX8_runAt_177 rfl (by decide) rfl ?_
                            refine v_goto 100 dX8_runAt_179 (by decide) ?_
                            refine v_drop [some (rfv x 40), some (.int (nI (k))), some (.int (nI (r0))), some (.int (nI (p))), some (.long (lN (l - mnW f k (i + 1) t))), none, some (.int (nI ((rkW f k r0 (i + 1)).2))), some (.int (nI (i))), some (.int (nI (t + 1))), some (.int (nI (if 0 < stW f k i (rkW f k r0 (i + 1)).2 (t + 1) then 1 else 0)))] (by rw [e4] at h168; simp [lsub, h168]) ?_
                            exact ih2 _ _ (by omega) (by rw [e0] at hlt; omega) (by omega) (by rw [fnd, e0, if_neg (by omega)] at hz; exact hz)
                          · skip
                            refine v_iconst 173 (nI (1)) (by decide) dX8_runAt_172 rfl ?_
                            refine v_goto 177 dX8_runAt_173 (by decide) ?_
                            refine v_istore 179 [some (rfv x 40), some (.int (nI (k))), some (.int (nI (r0))), some (.int (nI (p))), some (.long (lN (l - (mnW f k (i + 1) t)))), none, some (.int (nI ((rkW f k r0 (i + 1)).2))), some (.int (nI (i))), some (.int (nI (t + 1))), some (.int (nI (1)))] dX8_runAt_177 rfl (by decide) rfl ?_
                            refine v_goto 100 dX8_runAt_179 (by decide) ?_
                            refine v_drop [some (rfv x 40), some (.int (nI (k))), some (.int (nI (r0))), some (.int (nI (p))), some (.long (lN (l - mnW f k (i + 1) t))), none, some (.int (nI ((rkW f k r0 (i + 1)).2))), some (.int (nI (i))), some (.int (nI (t + 1))), some (.int (nI (if 0 < stW f k i (rkW f k r0 (i + 1)).2 (t + 1) then 1 else 0)))] (by rw [e4] at h168; simp [lsub, h168]) ?_
                            exact ih2 _ _ (by omega) (by rw [e0] at hlt; omega) (by omega) (by rw [fnd, e0, if_neg (by omega)] at hz; exact hz)
                have e4 := (pk_lLT (a := 0) (b := stW f k i (rkW f k r0 (i + 1)).2 0) (by decide) (by have := stW_le w hk (show i + 1 < nP f k by omega) hb w.n1; omega))
                refine v_iconst 76 (nI (0)) (by decide) dX8_runAt_75 rfl ?_
                refine v_istore 78 [some (rfv x 40), some (.int (nI (k))), some (.int (nI (r0))), some (.int (nI (p))), some (.long (lN ((rkW f k r0 (i + 1)).1))), none, some (.int (nI ((rkW f k r0 (i + 1)).2))), some (.int (nI (i))), some (.int (nI (0))), none] dX8_runAt_76 rfl (by decide) rfl ?_
                refine v_aload_n 79 rfl dX8_runAt_78 rfl ?_
                refine v_iload_n 80 rfl dX8_runAt_79 rfl ?_
                refine v_iload 82 rfl dX8_runAt_80 rfl ?_
                refine v_iload 84 rfl dX8_runAt_82 rfl ?_
                refine v_iconst 85 (nI (0)) (by decide) dX8_runAt_84 rfl ?_
                refine v_invV 88 M_X8_step [.int (nI (k)), .int (nI (i)), .int (nI ((rkW f k r0 (i + 1)).2)), .int (nI (0))] (by decide) rfl (by decide) rfl dX8_runAt_85 rfl ml_X8_83 im_X8_step se_X8_step mc_X8_step (by decide) (Nat.le_of_ble_eq_true rfl) (sp_X8_step r w hk hb (by omega) (by omega) ?_)
                refine v_lconst 89 (lN (0)) rfl dX8_runAt_88 rfl ?_
                refine v_lcmp_le 90 97 93 dX8_runAt_89 rfl dX8_runAt_90 (by decide) rfl (fun h89 => ?_) (fun h89 => ?_)
                · skip
                  refine v_iconst 98 (nI (0)) (by decide) dX8_runAt_97 rfl ?_
                  refine v_istore 100 [some (rfv x 40), some (.int (nI (k))), some (.int (nI (r0))), some (.int (nI (p))), some (.long (lN ((rkW f k r0 (i + 1)).1))), none, some (.int (nI ((rkW f k r0 (i + 1)).2))), some (.int (nI (i))), some (.int (nI (0))), some (.int (nI (0)))] dX8_runAt_98 rfl (by decide) rfl ?_
                  refine v_drop [some (rfv x 40), some (.int (nI (k))), some (.int (nI (r0))), some (.int (nI (p))), some (.long (lN ((rkW f k r0 (i + 1)).1))), none, some (.int (nI ((rkW f k r0 (i + 1)).2))), some (.int (nI (i))), some (.int (nI (0))), some (.int (nI (if 0 < stW f k i (rkW f k r0 (i + 1)).2 0 then 1 else 0)))] (by rw [e4] at h89; simp [lsub, h89]) ?_
                  exact lq (f 0 - 1) _ 0 (by omega) (by rw [smT_0 w.n1]; exact (rk_lt w hr (i + 1) (by omega)).2) (by omega) rfl
                · skip
                  refine v_iconst 94 (nI (1)) (by decide) dX8_runAt_93 rfl ?_
                  refine v_goto 98 dX8_runAt_94 (by decide) ?_
                  refine v_istore 100 [some (rfv x 40), some (.int (nI (k))), some (.int (nI (r0))), some (.int (nI (p))), some (.long (lN ((rkW f k r0 (i + 1)).1))), none, some (.int (nI ((rkW f k r0 (i + 1)).2))), some (.int (nI (i))), some (.int (nI (0))), some (.int (nI (1)))] dX8_runAt_98 rfl (by decide) rfl ?_
                  refine v_drop [some (rfv x 40), some (.int (nI (k))), some (.int (nI (r0))), some (.int (nI (p))), some (.long (lN ((rkW f k r0 (i + 1)).1))), none, some (.int (nI ((rkW f k r0 (i + 1)).2))), some (.int (nI (i))), some (.int (nI (0))), some (.int (nI (if 0 < stW f k i (rkW f k r0 (i + 1)).2 0 then 1 else 0)))] (by rw [e4] at h89; simp [lsub, h89]) ?_
                  exact lq (f 0 - 1) _ 0 (by omega) (by rw [smT_0 w.n1]; exact (rk_lt w hr (i + 1) (by omega)).2) (by omega) rfl
          refine v_drop [some (rfv x 40), some (.int (nI (k))), some (.int (nI (r0))), some (.int (nI (p))), some (.long (lN ((rkW f k r0 (0 + 1)).1))), none, some (.int (nI ((rkW f k r0 (0 + 1)).2))), some (.int (nI (0))), none, none] (by simp [lsub, ← hz, fz]) ?_
          exact lp2 0 (Nat.zero_le _)
        · skip
          have q : 0 < upW f k 0 s := Nat.pos_of_ne_zero (fun q => h15 (e2.mpr q))
          have e0 : (enW f k 0 0) s = mnW f k 0 s := by rw [ee, if_pos q]
          rw [e3] at h28
          refine v_lload 34 rfl dX8_runAt_32 rfl ?_
          refine v_aload_n 35 rfl dX8_runAt_34 rfl ?_
          refine v_get 38 (k := 9) 8 (rfv x 46) (by decide) rfl (by decide) (by decide) dX8_runAt_35 rfl fl_X8_25 rfl ?_
          refine v_iload 40 rfl dX8_runAt_38 rfl ?_
          refine v_lald 41 (k := s) (lN (upW f k 0 s)) (by decide) rfl (by decide) dX8_runAt_40 rfl rfl (by omega) (um.1 0 _ _ (by omega) (by omega) (by omega)) ?_
          refine v_lconst 42 (lN (0)) rfl dX8_runAt_41 rfl ?_
          refine v_lcmp_le 43 56 46 dX8_runAt_42 rfl dX8_runAt_43 (by decide) rfl (fun h42 => ?_) (fun h42 => ?_)
          · skip
            exact absurd (e1.mpr q) h42
          · skip
            refine v_aload_n 47 rfl dX8_runAt_46 rfl ?_
            refine v_get 50 (k := 12) 8 (rfv x 49) (by decide) rfl (by decide) (by decide) dX8_runAt_47 rfl fl_X8_35 rfl ?_
            refine v_iload 52 rfl dX8_runAt_50 rfl ?_
            refine v_lald 53 (k := s) (lN (mnW f k 0 s)) (by decide) rfl (by decide) dX8_runAt_52 rfl rfl (by omega) (um.2.2.2 0 _ _ (by omega) (by omega) (by omega)) ?_
            refine v_goto 57 dX8_runAt_53 (by decide) ?_
            refine v_lsub 58 (lN (l - (mnW f k 0 s))) dX8_runAt_57 rfl (lN_sub (by omega)) ?_
            refine v_lstore 60 [some (rfv x 40), some (.int (nI (k))), some (.int (nI (r0))), some (.int (nI (p))), some (.long (lN (l - (mnW f k 0 s)))), none, some (.int (nI (s))), none, none, none] dX8_runAt_58 rfl (by decide) rfl ?_
            refine v_iinc 63 [some (rfv x 40), some (.int (nI (k))), some (.int (nI (r0))), some (.int (nI (p))), some (.long (lN (l - (mnW f k 0 s)))), none, some (.int (nI (s + 1))), none, none, none] (nI (s + 1)) dX8_runAt_60 rfl (by decide) rfl (nI_inc _) rfl ?_
            refine v_goto 7 dX8_runAt_63 (by decide) ?_
            refine v_drop [some (rfv x 40), some (.int (nI (k))), some (.int (nI (r0))), some (.int (nI (p))), some (.long (lN (l - mnW f k 0 s))), none, some (.int (nI (s + 1))), none, none, none] (by simp [lsub]) ?_
            exact ih2 _ _ (by omega) (by rw [e0] at hlt; omega) (by omega) (by rw [fnd, e0, if_neg (by omega)] at hz; exact hz)
  refine v_drop [some (rfv x 40), some (.int (nI (k))), some (.int (nI (r0))), some (.int (nI (p))), some (.long (lN (r0))), none, some (.int (nI (0))), none, none, none] (by simp [lsub]) ?_
  exact lp (f 0 - 1) r0 0 (by omega) (by rw [smT_0 w.n1]; exact hr) (by omega) rfl
