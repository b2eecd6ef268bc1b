set_option maxHeartbeats 4000000 in
theorem sp_X6_at {x : Cx} {Q : Qt} {I : Iv} {L : Lv} {P : Pv} {p s a b : Nat} (hp : p < 7) (hs : s < 4) (h30 : L 30 (p * 4 + s) = lN a) (h31 : L 31 (p * 4 + s) = lN b) (hQ : Q (some (.long (lN (a * b)))) I L P) : SP x M_X6_at [rfv x 29, .int (nI (p)), .int (nI (s))] I L P Q := by
  refine SP.intro [some (rfv x 29), some (.int (nI (p))), some (.int (nI (s))), none] pn_X6_at (Nat.le_of_ble_eq_true rfl) rfl ?_
  refine v_iload_n 1 rfl dX6_at_0 rfl ?_
  refine v_iconst 2 (nI (4)) (by decide) dX6_at_1 rfl ?_
  refine v_imul 3 (nI (p * 4)) dX6_at_2 rfl (pk_mul _ _) ?_
  refine v_iload_n 4 rfl dX6_at_3 rfl ?_
  refine v_iadd 5 (nI ((p * 4) + s)) dX6_at_4 rfl (nI_add _ _) ?_
  refine v_istore_n 6 [some (rfv x 29), some (.int (nI (p))), some (.int (nI (s))), some (.int (nI ((p * 4) + s)))] dX6_at_5 rfl (by decide) rfl ?_
  refine v_aload_n 7 rfl dX6_at_6 rfl ?_
  refine v_get 10 (k := 3) 6 (rfv x 30) (by decide) rfl (by decide) (by decide) dX6_at_7 rfl fl_X6_15 rfl ?_
  refine v_iload_n 11 rfl dX6_at_10 rfl ?_
  refine v_lald 12 (k := (p * 4) + s) (lN (a)) (by decide) rfl (by decide) dX6_at_11 rfl rfl (by omega) h30 ?_
  refine v_aload_n 13 rfl dX6_at_12 rfl ?_
  refine v_get 16 (k := 4) 6 (rfv x 31) (by decide) rfl (by decide) (by decide) dX6_at_13 rfl fl_X6_19 rfl ?_
  refine v_iload_n 17 rfl dX6_at_16 rfl ?_
  refine v_lald 18 (k := (p * 4) + s) (lN (b)) (by decide) rfl (by decide) dX6_at_17 rfl rfl (by omega) h31 ?_
  refine v_lmul 19 (lN (a * b)) dX6_at_18 rfl (lN_mul _ _) ?_
  refine v_lret rfl dX6_at_19 ?_
  exact hQ
set_option maxHeartbeats 4000000 in
theorem sp_X6_stepBehind {x : Cx} {Q : Qt} {I : Iv} {L : Lv} {P : Pv} {f : Vw} (c : RC 1 f I) (w : Wf f) {k p s t b : Nat} (hk : k < f 1) (hk1 : I 29 1 = nI k) (hs : s < f 0) (ht : t < f 0) (hp : p + 1 < nP f k) (h31 : L 31 ((p + 1) * 4 + t) = lN b) (hQ : Q (some (.long (lN (stW f k p s t * b)))) I L P) : SP x M_X6_stepBehind [rfv x 29, .int (nI (p)), .int (nI (s)), .int (nI (t))] I L P Q := by
  have := w.n4
  have := w.n1
  have := w.m6
  have := w.p hk
  have := w.g hs ht
  have := w.s hk hp
  have := w.w ht (g := sG f k (p + 1)) (by omega)
  refine SP.intro [some (rfv x 29), some (.int (nI (p))), some (.int (nI (s))), some (.int (nI (t))), none, none] pn_X6_stepBehind (Nat.le_of_ble_eq_true rfl) rfl ?_
  refine v_aload_n 1 rfl dX6_stepBehind_0 rfl ?_
  refine v_get 4 (k := 4) 6 (rfv x 31) (by decide) rfl (by decide) (by decide) dX6_stepBehind_1 rfl fl_X6_19 rfl ?_
  refine v_iload_n 5 rfl dX6_stepBehind_4 rfl ?_
  refine v_iconst 6 (nI (1)) (by decide) dX6_stepBehind_5 rfl ?_
  refine v_iadd 7 (nI (p + 1)) dX6_stepBehind_6 rfl (nI_add _ _) ?_
  refine v_iconst 8 (nI (4)) (by decide) dX6_stepBehind_7 rfl ?_
  refine v_imul 9 (nI ((p + 1) * 4)) dX6_stepBehind_8 rfl (pk_mul _ _) ?_
  refine v_iload_n 10 rfl dX6_stepBehind_9 rfl ?_
  refine v_iadd 11 (nI (((p + 1) * 4) + t)) dX6_stepBehind_10 rfl (nI_add _ _) ?_
  refine v_lald 12 (k := ((p + 1) * 4) + t) (lN (b)) (by decide) rfl (by decide) dX6_stepBehind_11 rfl rfl (by omega) h31 ?_
  refine v_aload_n 13 rfl dX6_stepBehind_12 rfl ?_
  refine v_get 16 (k := 0) 6 (rfv x 1) (by decide) rfl (by decide) (by decide) dX6_stepBehind_13 rfl fl_X6_9 rfl ?_
  refine v_iload_n 17 rfl dX6_stepBehind_16 rfl ?_
  refine v_aload_n 18 rfl dX6_stepBehind_17 rfl ?_
  refine v_get 21 (k := 1) 6 (.int (nI (k))) (by decide) rfl (by decide) (by decide) dX6_stepBehind_18 rfl fl_X6_22 (congrArg Value.int hk1) ?_
  refine v_iload_n 22 rfl dX6_stepBehind_21 rfl ?_
  refine v_iconst 23 (nI (1)) (by decide) dX6_stepBehind_22 rfl ?_
  refine v_iadd 24 (nI (p + 1)) dX6_stepBehind_23 rfl (nI_add _ _) ?_
  refine v_invV 27 M_X3_showAt [.int (nI (t)), .int (nI (k)), .int (nI (p + 1))] (by decide) rfl (by decide) rfl dX6_stepBehind_24 rfl ml_X6_60 im_X3_showAt se_X3_showAt mc_X3_showAt (by decide) (Nat.le_of_ble_eq_true rfl) (sp_X3_showAt c w (by omega) (by omega) (by omega) ?_)
  refine v_i2l 28 (lN (sW f t (sG f k (p + 1)))) dX6_stepBehind_27 rfl (nI_l (by omega)) ?_
  refine v_lmul 29 (lN (b * (sW f t (sG f k (p + 1))))) dX6_stepBehind_28 rfl (lN_mul _ _) ?_
  refine v_lstore 31 [some (rfv x 29), some (.int (nI (p))), some (.int (nI (s))), some (.int (nI (t))), some (.long (lN (b * (sW f t (sG f k (p + 1)))))), none] dX6_stepBehind_29 rfl (by decide) rfl ?_
  refine v_lload 33 rfl dX6_stepBehind_31 rfl ?_
  refine v_aload_n 34 rfl dX6_stepBehind_33 rfl ?_
  refine v_get 37 (k := 0) 6 (rfv x 1) (by decide) rfl (by decide) (by decide) dX6_stepBehind_34 rfl fl_X6_9 rfl ?_
  refine v_iload_n 38 rfl dX6_stepBehind_37 rfl ?_
  refine v_iload_n 39 rfl dX6_stepBehind_38 rfl ?_
  refine v_invV 42 M_X3_go [.int (nI (s)), .int (nI (t))] (by decide) rfl (by decide) rfl dX6_stepBehind_39 rfl ml_X6_56 im_X3_go se_X3_go mc_X3_go (by decide) (Nat.le_of_ble_eq_true rfl) (sp_X3_go c w (by omega) (by omega) ?_)
  refine v_i2l 43 (lN (gW f s t)) dX6_stepBehind_42 rfl (nI_l (by omega)) ?_
  refine v_lmul 44 (lN ((b * (sW f t (sG f k (p + 1)))) * (gW f s t))) dX6_stepBehind_43 rfl (lN_mul _ _) ?_
  refine v_lret rfl dX6_stepBehind_44 ?_
  exact qL hQ (by simp only [stW, Nat.mul_comm, Nat.mul_left_comm])
set_option maxHeartbeats 4000000 in
theorem sp_X6_behindOf {x : Cx} {Q : Qt} {I : Iv} {L : Lv} {P : Pv} {f : Vw} (c : RC 1 f I) (w : Wf f) {k p s : Nat} (hk : k < f 1) (hk1 : I 29 1 = nI k) (hk2 : I 29 2 = nI (nP f k)) (hs : s < f 0) (hp : p < nP f k) (h31 : p + 1 < nP f k → ∀ t, t < f 0 → L 31 ((p + 1) * 4 + t) = lN (bhW f k (p + 1) t)) (hQ : Q (some (.long (lN (bhW f k p s)))) I L P) : SP x M_X6_behindOf [rfv x 29, .int (nI (p)), .int (nI (s))] I L P Q := by
  have := w.n4
  have := w.n1
  have := w.m6
  have := w.p hk
  
  refine SP.intro [some (rfv x 29), some (.int (nI (p))), some (.int (nI (s))), none, none, none] pn_X6_behindOf (Nat.le_of_ble_eq_true rfl) rfl ?_
  refine v_iload_n 1 rfl dX6_behindOf_0 rfl ?_
  refine v_aload_n 2 rfl dX6_behindOf_1 rfl ?_
  refine v_get 5 (k := 2) 6 (.int (nI (nP f k))) (by decide) rfl (by decide) (by decide) dX6_behindOf_2 rfl fl_X6_32 (congrArg Value.int hk2) ?_
  refine v_iconst 6 (nI (1)) (by decide) dX6_behindOf_5 rfl ?_
  refine v_isub 7 (nI ((nP f k) - 1)) dX6_behindOf_6 rfl (pk_sub (by omega)) ?_
  refine v_icmpN_ne 12 10 dX6_behindOf_7 (by decide) rfl (by omega) (by omega) (fun h7 => ?_) (fun h7 => ?_)
  · skip
    refine v_lconst 13 (lN (0)) rfl dX6_behindOf_12 rfl ?_
    refine v_lstore_n 14 [some (rfv x 29), some (.int (nI (p))), some (.int (nI (s))), some (.long (lN (0))), none, none] dX6_behindOf_13 rfl (by decide) rfl ?_
    have hp1 : p + 1 < nP f k := by omega
    refine v_iconst 15 (nI (0)) (by decide) dX6_behindOf_14 rfl ?_
    refine v_istore 17 [some (rfv x 29), some (.int (nI (p))), some (.int (nI (s))), some (.long (lN (0))), none, some (.int (nI (0)))] dX6_behindOf_15 rfl (by decide) rfl ?_
    have lp : ∀ i, i ≤ f 0 → V x M_X6_behindOf Q 17 [some (rfv x 29), some (.int (nI (p))), some (.int (nI (s))), some (.long (lN (smN i (fun t => stW f k p s t * bhW f k (p + 1) t)))), none, some (.int (nI (i)))] [] I L P := by
      refine lpU ?_ ?_
      · skip
        refine v_iload 19 rfl dX6_behindOf_17 rfl ?_
        refine v_aload_n 20 rfl dX6_behindOf_19 rfl ?_
        refine v_get 23 (k := 0) 6 (rfv x 1) (by decide) rfl (by decide) (by decide) dX6_behindOf_20 rfl fl_X6_9 rfl ?_
        refine v_getN 26 (k := 1) 3 (.int (nI (f 0))) (by decide) rfl (by decide) (by decide) dX6_behindOf_23 rfl fl_X6_35 (congrArg Value.int c.st) ?_
        refine v_icmpN_ge 46 29 dX6_behindOf_26 (by decide) rfl (by omega) (by omega) (fun h26 => ?_) (fun h26 => ?_)
        · skip
          refine v_lload_n 47 rfl dX6_behindOf_46 rfl ?_
          refine v_lret rfl dX6_behindOf_47 ?_
          exact qL hQ (bhW_s hp1).symm
        · skip
          exact absurd h26 (by omega)
      · intro i hi ih
        refine v_iload 19 rfl dX6_behindOf_17 rfl ?_
        refine v_aload_n 20 rfl dX6_behindOf_19 rfl ?_
        refine v_get 23 (k := 0) 6 (rfv x 1) (by decide) rfl (by decide) (by decide) dX6_behindOf_20 rfl fl_X6_9 rfl ?_
        refine v_getN 26 (k := 1) 3 (.int (nI (f 0))) (by decide) rfl (by decide) (by decide) dX6_behindOf_23 rfl fl_X6_35 (congrArg Value.int c.st) ?_
        refine v_icmpN_ge 46 29 dX6_behindOf_26 (by decide) rfl (by omega) (by omega) (fun h26 => ?_) (fun h26 => ?_)
        · skip
          exact absurd h26 (by omega)
        · skip
          refine v_lload_n 30 rfl dX6_behindOf_29 rfl ?_
          refine v_aload_n 31 rfl dX6_behindOf_30 rfl ?_
          refine v_iload_n 32 rfl dX6_behindOf_31 rfl ?_
          refine v_iload_n 33 rfl dX6_behindOf_32 rfl ?_
          refine v_iload 35 rfl dX6_behindOf_33 rfl ?_
          refine v_invV 38 M_X6_stepBehind [.int (nI (p)), .int (nI (s)), .int (nI (i))] (by decide) rfl (by decide) rfl dX6_behindOf_35 rfl ml_X6_64 im_X6_stepBehind se_X6_stepBehind mc_X6_stepBehind (by decide) (Nat.le_of_ble_eq_true rfl) (sp_X6_stepBehind c w hk hk1 hs hi hp1 (h31 hp1 i hi) ?_)
          refine v_ladd 39 (lN ((smN i (fun t => stW f k p s t * bhW f k (p + 1) t)) + (stW f k p s i * bhW f k (p + 1) i))) dX6_behindOf_38 rfl (lN_add _ _) ?_
          refine v_lstore_n 40 [some (rfv x 29), some (.int (nI (p))), some (.int (nI (s))), some (.long (lN ((smN i (fun t => stW f k p s t * bhW f k (p + 1) t)) + (stW f k p s i * bhW f k (p + 1) i)))), none, some (.int (nI (i)))] dX6_behindOf_39 rfl (by decide) rfl ?_
          refine v_iinc 43 [some (rfv x 29), some (.int (nI (p))), some (.int (nI (s))), some (.long (lN ((smN i (fun t => stW f k p s t * bhW f k (p + 1) t)) + (stW f k p s i * bhW f k (p + 1) i)))), none, some (.int (nI (i + 1)))] (nI (i + 1)) dX6_behindOf_40 rfl (by decide) rfl (nI_inc _) rfl ?_
          refine v_goto 17 dX6_behindOf_43 (by decide) ?_
          refine v_drop [some (rfv x 29), some (.int (nI (p))), some (.int (nI (s))), some (.long (lN (smN (i + 1) (fun t => stW f k p s t * bhW f k (p + 1) t)))), none, some (.int (nI (i + 1)))] (by simp [lsub, smN_s]) ?_
          exact ih
    exact lp 0 (Nat.zero_le _)
  · skip
    refine v_lconst 11 (lN (1)) rfl dX6_behindOf_10 rfl ?_
    refine v_lret rfl dX6_behindOf_11 ?_
    exact qL hQ (bhW_l (by omega)).symm
set_option maxHeartbeats 4000000 in
theorem sp_X6_aheadOf {x : Cx} {Q : Qt} {I : Iv} {L : Lv} {P : Pv} {f : Vw} (c : RC 1 f I) (w : Wf f) {k p s : Nat} (hk : k < f 1) (hk1 : I 29 1 = nI k) (hs : s < f 0) (hp : p < nP f k) (h30 : 0 < p → ∀ t, t < f 0 → L 30 ((p - 1) * 4 + t) = lN (upW f k (p - 1) t)) (hQ : Q (some (.long (lN (upW f k p s)))) I L P) : SP x M_X6_aheadOf [rfv x 29, .int (nI (p)), .int (nI (s))] I L P Q := by
  have := w.n4
  have := w.n1
  have := w.m6
  have := w.p hk
  have := w.b hs
  have := w.s hk hp
  have := w.w hs (g := sG f k p) (by omega)
  refine SP.intro [some (rfv x 29), some (.int (nI (p))), some (.int (nI (s))), none, none, none] pn_X6_aheadOf (Nat.le_of_ble_eq_true rfl) rfl ?_
  refine v_lconst 1 (lN (0)) rfl dX6_aheadOf_0 rfl ?_
  refine v_lstore_n 2 [some (rfv x 29), some (.int (nI (p))), some (.int (nI (s))), some (.long (lN (0))), none, none] dX6_aheadOf_1 rfl (by decide) rfl ?_
  refine v_iload_n 3 rfl dX6_aheadOf_2 rfl ?_
  refine v_ifN_ne 19 6 dX6_aheadOf_3 (by decide) rfl (by omega) (fun h3 => ?_) (fun h3 => ?_)
  · skip
    refine v_iconst 20 (nI (0)) (by decide) dX6_aheadOf_19 rfl ?_
    refine v_istore 22 [some (rfv x 29), some (.int (nI (p))), some (.int (nI (s))), some (.long (lN (0))), none, some (.int (nI (0)))] dX6_aheadOf_20 rfl (by decide) rfl ?_
    have lp : ∀ i, i ≤ f 0 → V x M_X6_aheadOf Q 22 [some (rfv x 29), some (.int (nI (p))), some (.int (nI (s))), some (.long (lN (smN i (fun t => upW f k (p - 1) t * gW f t s)))), none, some (.int (nI (i)))] [] I L P := by
      refine lpU ?_ ?_
      · skip
        refine v_iload 24 rfl dX6_aheadOf_22 rfl ?_
        refine v_aload_n 25 rfl dX6_aheadOf_24 rfl ?_
        refine v_get 28 (k := 0) 6 (rfv x 1) (by decide) rfl (by decide) (by decide) dX6_aheadOf_25 rfl fl_X6_9 rfl ?_
        refine v_getN 31 (k := 1) 3 (.int (nI (f 0))) (by decide) rfl (by decide) (by decide) dX6_aheadOf_28 rfl fl_X6_35 (congrArg Value.int c.st) ?_
        refine v_icmpN_ge 68 34 dX6_aheadOf_31 (by decide) rfl (by omega) (by omega) (fun h31 => ?_) (fun h31 => ?_)
        · skip
          refine v_lload_n 69 rfl dX6_aheadOf_68 rfl ?_
          refine v_aload_n 70 rfl dX6_aheadOf_69 rfl ?_
          refine v_get 73 (k := 0) 6 (rfv x 1) (by decide) rfl (by decide) (by decide) dX6_aheadOf_70 rfl fl_X6_9 rfl ?_
          refine v_iload_n 74 rfl dX6_aheadOf_73 rfl ?_
          refine v_aload_n 75 rfl dX6_aheadOf_74 rfl ?_
          refine v_get 78 (k := 1) 6 (.int (nI (k))) (by decide) rfl (by decide) (by decide) dX6_aheadOf_75 rfl fl_X6_22 (congrArg Value.int hk1) ?_
          refine v_iload_n 79 rfl dX6_aheadOf_78 rfl ?_
          refine v_invV 82 M_X3_showAt [.int (nI (s)), .int (nI (k)), .int (nI (p))] (by decide) rfl (by decide) rfl dX6_aheadOf_79 rfl ml_X6_60 im_X3_showAt se_X3_showAt mc_X3_showAt (by decide) (Nat.le_of_ble_eq_true rfl) (sp_X3_showAt c w (by omega) (by omega) (by omega) ?_)
          refine v_i2l 83 (lN (sW f s (sG f k p))) dX6_aheadOf_82 rfl (nI_l (by omega)) ?_
          refine v_lmul 84 (lN ((smN (f 0) (fun t => upW f k (p - 1) t * gW f t s)) * (sW f s (sG f k p)))) dX6_aheadOf_83 rfl (lN_mul _ _) ?_
          refine v_lret rfl dX6_aheadOf_84 ?_
          obtain ⟨p, rfl⟩ : ∃ q, p = q + 1 := ⟨p - 1, by omega⟩
          exact hQ
        · skip
          exact absurd h31 (by omega)
      · intro i hi ih
        have := w.g hi hs
        refine v_iload 24 rfl dX6_aheadOf_22 rfl ?_
        refine v_aload_n 25 rfl dX6_aheadOf_24 rfl ?_
        refine v_get 28 (k := 0) 6 (rfv x 1) (by decide) rfl (by decide) (by decide) dX6_aheadOf_25 rfl fl_X6_9 rfl ?_
        refine v_getN 31 (k := 1) 3 (.int (nI (f 0))) (by decide) rfl (by decide) (by decide) dX6_aheadOf_28 rfl fl_X6_35 (congrArg Value.int c.st) ?_
        refine v_icmpN_ge 68 34 dX6_aheadOf_31 (by decide) rfl (by omega) (by omega) (fun h31 => ?_) (fun h31 => ?_)
        · skip
          exact absurd h31 (by omega)
        · skip
          refine v_lload_n 35 rfl dX6_aheadOf_34 rfl ?_
          refine v_aload_n 36 rfl dX6_aheadOf_35 rfl ?_
          refine v_get 39 (k := 3) 6 (rfv x 30) (by decide) rfl (by decide) (by decide) dX6_aheadOf_36 rfl fl_X6_15 rfl ?_
          refine v_iload_n 40 rfl dX6_aheadOf_39 rfl ?_
          refine v_iconst 41 (nI (1)) (by decide) dX6_aheadOf_40 rfl ?_
          refine v_isub 42 (nI (p - 1)) dX6_aheadOf_41 rfl (pk_sub (by omega)) ?_
          refine v_iconst 43 (nI (4)) (by decide) dX6_aheadOf_42 rfl ?_
          refine v_imul 44 (nI ((p - 1) * 4)) dX6_aheadOf_43 rfl (pk_mul _ _) ?_
          refine v_iload 46 rfl dX6_aheadOf_44 rfl ?_
          refine v_iadd 47 (nI (((p - 1) * 4) + i)) dX6_aheadOf_46 rfl (nI_add _ _) ?_
          refine v_lald 48 (k := ((p - 1) * 4) + i) (lN (upW f k (p - 1) i)) (by decide) rfl (by decide) dX6_aheadOf_47 rfl rfl (by omega) (h30 (by omega) i hi) ?_
          refine v_aload_n 49 rfl dX6_aheadOf_48 rfl ?_
          refine v_get 52 (k := 0) 6 (rfv x 1) (by decide) rfl (by decide) (by decide) dX6_aheadOf_49 rfl fl_X6_9 rfl ?_
          refine v_iload 54 rfl dX6_aheadOf_52 rfl ?_
          refine v_iload_n 55 rfl dX6_aheadOf_54 rfl ?_
          refine v_invV 58 M_X3_go [.int (nI (i)), .int (nI (s))] (by decide) rfl (by decide) rfl dX6_aheadOf_55 rfl ml_X6_56 im_X3_go se_X3_go mc_X3_go (by decide) (Nat.le_of_ble_eq_true rfl) (sp_X3_go c w (by omega) (by omega) ?_)
          refine v_i2l 59 (lN (gW f i s)) dX6_aheadOf_58 rfl (nI_l (by omega)) ?_
          refine v_lmul 60 (lN ((upW f k (p - 1) i) * (gW f i s))) dX6_aheadOf_59 rfl (lN_mul _ _) ?_
          refine v_ladd 61 (lN ((smN i (fun t => upW f k (p - 1) t * gW f t s)) + ((upW f k (p - 1) i) * (gW f i s)))) dX6_aheadOf_60 rfl (lN_add _ _) ?_
          refine v_lstore_n 62 [some (rfv x 29), some (.int (nI (p))), some (.int (nI (s))), some (.long (lN ((smN i (fun t => upW f k (p - 1) t * gW f t s)) + ((upW f k (p - 1) i) * (gW f i s))))), none, some (.int (nI (i)))] dX6_aheadOf_61 rfl (by decide) rfl ?_
          refine v_iinc 65 [some (rfv x 29), some (.int (nI (p))), some (.int (nI (s))), some (.long (lN ((smN i (fun t => upW f k (p - 1) t * gW f t s)) + ((upW f k (p - 1) i) * (gW f i s))))), none, some (.int (nI (i + 1)))] (nI (i + 1)) dX6_aheadOf_62 rfl (by decide) rfl (nI_inc _) rfl ?_
          refine v_goto 22 dX6_aheadOf_65 (by decide) ?_
          refine v_drop [some (rfv x 29), some (.int (nI (p))), some (.int (nI (s))), some (.long (lN (smN (i + 1) (fun t => upW f k (p - 1) t * gW f t s)))), none, some (.int (nI (i + 1)))] (by simp [lsub, smN_s]) ?_
          exact ih
    exact lp 0 (Nat.zero_le _)
  · skip
    refine v_aload_n 7 rfl dX6_aheadOf_6 rfl ?_
    refine v_get 10 (k := 0) 6 (rfv x 1) (by decide) rfl (by decide) (by decide) dX6_aheadOf_7 rfl fl_X6_9 rfl ?_
    refine v_iload_n 11 rfl dX6_aheadOf_10 rfl ?_
    refine v_invV 14 M_X3_begin [.int (nI (s))] (by decide) rfl (by decide) rfl dX6_aheadOf_11 rfl ml_X6_52 im_X3_begin se_X3_begin mc_X3_begin (by decide) (Nat.le_of_ble_eq_true rfl) (sp_X3_begin c w (by omega) ?_)
    refine v_i2l 15 (lN (bW f s)) dX6_aheadOf_14 rfl (nI_l (by omega)) ?_
    refine v_lstore_n 16 [some (rfv x 29), some (.int (nI (p))), some (.int (nI (s))), some (.long (lN (bW f s))), none, none] dX6_aheadOf_15 rfl (by decide) rfl ?_
    refine v_goto 68 dX6_aheadOf_16 (by decide) ?_
    refine v_lload_n 69 rfl dX6_aheadOf_68 rfl ?_
    refine v_aload_n 70 rfl dX6_aheadOf_69 rfl ?_
    refine v_get 73 (k := 0) 6 (rfv x 1) (by decide) rfl (by decide) (by decide) dX6_aheadOf_70 rfl fl_X6_9 rfl ?_
    refine v_iload_n 74 rfl dX6_aheadOf_73 rfl ?_
    refine v_aload_n 75 rfl dX6_aheadOf_74 rfl ?_
    refine v_get 78 (k := 1) 6 (.int (nI (k))) (by decide) rfl (by decide) (by decide) dX6_aheadOf_75 rfl fl_X6_22 (congrArg Value.int hk1) ?_
    refine v_iload_n 79 rfl dX6_aheadOf_78 rfl ?_
    refine v_invV 82 M_X3_showAt [.int (nI (s)), .int (nI (k)), .int (nI (p))] (by decide) rfl (by decide) rfl dX6_aheadOf_79 rfl ml_X6_60 im_X3_showAt se_X3_showAt mc_X3_showAt (by decide) (Nat.le_of_ble_eq_true rfl) (sp_X3_showAt c w (by omega) (by omega) (by omega) ?_)
    refine v_i2l 83 (lN (sW f s (sG f k p))) dX6_aheadOf_82 rfl (nI_l (by omega)) ?_
    refine v_lmul 84 (lN ((bW f s) * (sW f s (sG f k p)))) dX6_aheadOf_83 rfl (lN_mul _ _) ?_
    refine v_lret rfl dX6_aheadOf_84 ?_
    subst h3
    exact hQ
