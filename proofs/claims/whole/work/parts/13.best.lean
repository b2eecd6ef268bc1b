set_option maxHeartbeats 4000000 in
theorem sp_X0_beginning {x : Cx} {Q : Qt} {I : Iv} {L : Lv} {P : Pv} {f : Vw} (c : RC 1 f I) (w : Wf f) {k s : Nat} (hk : k < f 1) (hs : s < f 0) (h33 : L 33 s = lN (gcW f k 0 s)) (hQ : Q (some (.long (lN (bgW f k s)))) I L P) : SP x M_X0_beginning [rfv x 32, .int (nI (s))] I L P Q := by
  have := w.n4
  have := w.n1
  have := w.m6
  have := w.p hk
  have := w.b hs
  refine SP.intro [some (rfv x 32), some (.int (nI (s)))] pn_X0_beginning (Nat.le_of_ble_eq_true rfl) rfl ?_
  refine v_aload_n 1 rfl dX0_beginning_0 rfl ?_
  refine v_get 4 (k := 0) 0 (rfv x 1) (by decide) rfl (by decide) (by decide) dX0_beginning_1 rfl fl_X0_9 rfl ?_
  refine v_iload_n 5 rfl dX0_beginning_4 rfl ?_
  refine v_invV 8 M_X3_begin [.int (nI (s))] (by decide) rfl (by decide) rfl dX0_beginning_5 rfl ml_X0_56 im_X3_begin se_X3_begin mc_X3_begin (by decide) (Nat.le_of_ble_eq_true rfl) (sp_X3_begin c w (by omega) ?_)
  refine v_i2l 9 (lN (bW f s)) dX0_beginning_8 rfl (nI_l (by omega)) ?_
  refine v_aload_n 10 rfl dX0_beginning_9 rfl ?_
  refine v_get 13 (k := 1) 0 (rfv x 33) (by decide) rfl (by decide) (by decide) dX0_beginning_10 rfl fl_X0_15 rfl ?_
  refine v_iload_n 14 rfl dX0_beginning_13 rfl ?_
  refine v_lald 15 (k := s) (lN (gcW f k 0 s)) (by decide) rfl (by decide) dX0_beginning_14 rfl rfl (by omega) h33 ?_
  refine v_lmul 16 (lN ((bW f s) * (gcW f k 0 s))) dX0_beginning_15 rfl (lN_mul _ _) ?_
  refine v_lret rfl dX0_beginning_16 ?_
  exact hQ
set_option maxHeartbeats 4000000 in
theorem sp_X0_going {x : Cx} {Q : Qt} {I : Iv} {L : Lv} {P : Pv} {f : Vw} (c : RC 1 f I) (w : Wf f) {k p s t : Nat} (hk : k < f 1) (hs : s < f 0) (ht : t < f 0) (hp : p + 1 < nP f k) (h33 : L 33 ((p + 1) * 4 + t) = lN (gcW f k (p + 1) t)) (hQ : Q (some (.long (lN (gnW f k p s t)))) I L P) : SP x M_X0_going [rfv x 32, .int (nI (p)), .int (nI (s)), .int (nI (t))] I L P Q := by
  have := w.n4
  have := w.n1
  have := w.m6
  have := w.p hk
  have := w.g hs ht
  refine SP.intro [some (rfv x 32), some (.int (nI (p))), some (.int (nI (s))), some (.int (nI (t)))] pn_X0_going (Nat.le_of_ble_eq_true rfl) rfl ?_
  refine v_aload_n 1 rfl dX0_going_0 rfl ?_
  refine v_get 4 (k := 0) 0 (rfv x 1) (by decide) rfl (by decide) (by decide) dX0_going_1 rfl fl_X0_9 rfl ?_
  refine v_iload_n 5 rfl dX0_going_4 rfl ?_
  refine v_iload_n 6 rfl dX0_going_5 rfl ?_
  refine v_invV 9 M_X3_go [.int (nI (s)), .int (nI (t))] (by decide) rfl (by decide) rfl dX0_going_6 rfl ml_X0_60 im_X3_go se_X3_go mc_X3_go (by decide) (Nat.le_of_ble_eq_true rfl) (sp_X3_go c w (by omega) (by omega) ?_)
  refine v_i2l 10 (lN (gW f s t)) dX0_going_9 rfl (nI_l (by omega)) ?_
  refine v_aload_n 11 rfl dX0_going_10 rfl ?_
  refine v_get 14 (k := 1) 0 (rfv x 33) (by decide) rfl (by decide) (by decide) dX0_going_11 rfl fl_X0_15 rfl ?_
  refine v_iload_n 15 rfl dX0_going_14 rfl ?_
  refine v_iconst 16 (nI (1)) (by decide) dX0_going_15 rfl ?_
  refine v_iadd 17 (nI (p + 1)) dX0_going_16 rfl (nI_add _ _) ?_
  refine v_iconst 18 (nI (4)) (by decide) dX0_going_17 rfl ?_
  refine v_imul 19 (nI ((p + 1) * 4)) dX0_going_18 rfl (pk_mul _ _) ?_
  refine v_iload_n 20 rfl dX0_going_19 rfl ?_
  refine v_iadd 21 (nI (((p + 1) * 4) + t)) dX0_going_20 rfl (nI_add _ _) ?_
  refine v_lald 22 (k := ((p + 1) * 4) + t) (lN (gcW f k (p + 1) t)) (by decide) rfl (by decide) dX0_going_21 rfl rfl (by omega) h33 ?_
  refine v_lmul 23 (lN ((gW f s t) * (gcW f k (p + 1) t))) dX0_going_22 rfl (lN_mul _ _) ?_
  refine v_lret rfl dX0_going_23 ?_
  exact hQ
set_option maxHeartbeats 4000000 in
theorem sp_X0_firstOf {x : Cx} {Q : Qt} {I : Iv} {L : Lv} {P : Pv} {f : Vw} (c : RC 1 f I) (w : Wf f) {k  : Nat} (hk : k < f 1) (h33 : ∀ s, s < f 0 → L 33 s = lN (gcW f k 0 s)) (hQ : Q (some (.int (nI (amN (bgW f k) (f 0 - 1))))) I L P) : SP x M_X0_firstOf [rfv x 32] I L P Q := by
  have := w.n4
  have := w.n1
  have := w.m6
  have := w.p hk
  have hB : ∀ s, s < f 0 → bgW f k s < 2 ^ 63 := fun s hs => bgW_le w hk hs
  refine SP.intro [some (rfv x 32), none, none] pn_X0_firstOf (Nat.le_of_ble_eq_true rfl) rfl ?_
  refine v_iconst 1 (nI (0)) (by decide) dX0_firstOf_0 rfl ?_
  refine v_istore_n 2 [some (rfv x 32), some (.int (nI (0))), none] dX0_firstOf_1 rfl (by decide) rfl ?_
  refine v_iconst 3 (nI (1)) (by decide) dX0_firstOf_2 rfl ?_
  refine v_istore_n 4 [some (rfv x 32), some (.int (nI (0))), some (.int (nI (1)))] dX0_firstOf_3 rfl (by decide) rfl ?_
  have lp : ∀ i, i ≤ (f 0 - 1) → V x M_X0_firstOf Q 4 [some (rfv x 32), some (.int (nI (amN (bgW f k) i))), some (.int (nI (i + 1)))] [] I L P := by
    refine lpU ?_ ?_
    · skip
      refine v_iload_n 5 rfl dX0_firstOf_4 rfl ?_
      refine v_aload_n 6 rfl dX0_firstOf_5 rfl ?_
      refine v_get 9 (k := 0) 0 (rfv x 1) (by decide) rfl (by decide) (by decide) dX0_firstOf_6 rfl fl_X0_9 rfl ?_
      refine v_getN 12 (k := 1) 3 (.int (nI (f 0))) (by decide) rfl (by decide) (by decide) dX0_firstOf_9 rfl fl_X0_28 (congrArg Value.int c.st) ?_
      refine v_icmpN_ge 37 15 dX0_firstOf_12 (by decide) rfl (by omega) (by omega) (fun h12 => ?_) (fun h12 => ?_)
      · skip
        refine v_iload_n 38 rfl dX0_firstOf_37 rfl ?_
        refine v_iret rfl dX0_firstOf_38 ?_
        exact hQ
      · skip
        exact absurd h12 (by omega)
    · intro i hi ih 
      have := amN_le (bgW f k) i
      have e2 := (pk_lLT (hB (amN (bgW f k) i) (by omega)) (hB (i + 1) (by omega)))
      refine v_iload_n 5 rfl dX0_firstOf_4 rfl ?_
      refine v_aload_n 6 rfl dX0_firstOf_5 rfl ?_
      refine v_get 9 (k := 0) 0 (rfv x 1) (by decide) rfl (by decide) (by decide) dX0_firstOf_6 rfl fl_X0_9 rfl ?_
      refine v_getN 12 (k := 1) 3 (.int (nI (f 0))) (by decide) rfl (by decide) (by decide) dX0_firstOf_9 rfl fl_X0_28 (congrArg Value.int c.st) ?_
      refine v_icmpN_ge 37 15 dX0_firstOf_12 (by decide) rfl (by omega) (by omega) (fun h12 => ?_) (fun h12 => ?_)
      · skip
        exact absurd h12 (by omega)
      · skip
        refine v_aload_n 16 rfl dX0_firstOf_15 rfl ?_
        refine v_iload_n 17 rfl dX0_firstOf_16 rfl ?_
        refine v_invV 20 M_X0_beginning [.int (nI (i + 1))] (by decide) rfl (by decide) rfl dX0_firstOf_17 rfl ml_X0_48 im_X0_beginning se_X0_beginning mc_X0_beginning (by decide) (Nat.le_of_ble_eq_true rfl) (sp_X0_beginning c w hk (by omega) (h33 _ (by omega)) ?_)
        refine v_aload_n 21 rfl dX0_firstOf_20 rfl ?_
        refine v_iload_n 22 rfl dX0_firstOf_21 rfl ?_
        refine v_invV 25 M_X0_beginning [.int (nI (amN (bgW f k) i))] (by decide) rfl (by decide) rfl dX0_firstOf_22 rfl ml_X0_48 im_X0_beginning se_X0_beginning mc_X0_beginning (by decide) (Nat.le_of_ble_eq_true rfl) (sp_X0_beginning c w hk (by omega) (h33 _ (by omega)) ?_)
        refine v_lcmp_le 26 31 29 dX0_firstOf_25 rfl dX0_firstOf_26 (by decide) rfl (fun h25 => ?_) (fun h25 => ?_)
        · skip
          refine v_iinc 34 [some (rfv x 32), some (.int (nI (amN (bgW f k) i))), some (.int (nI ((i + 1) + 1)))] (nI ((i + 1) + 1)) dX0_firstOf_31 rfl (by decide) rfl (nI_inc _) rfl ?_
          refine v_goto 4 dX0_firstOf_34 (by decide) ?_
          refine v_drop [some (rfv x 32), some (.int (nI (amN (bgW f k) (i + 1)))), some (.int (nI ((i + 1) + 1)))] (by rw [e2] at h25; simp [lsub, amN_s, h25]) ?_
          exact ih
        · skip
          refine v_iload_n 30 rfl dX0_firstOf_29 rfl ?_
          refine v_istore_n 31 [some (rfv x 32), some (.int (nI (i + 1))), some (.int (nI (i + 1)))] dX0_firstOf_30 rfl (by decide) rfl ?_
          refine v_iinc 34 [some (rfv x 32), some (.int (nI (i + 1))), some (.int (nI ((i + 1) + 1)))] (nI ((i + 1) + 1)) dX0_firstOf_31 rfl (by decide) rfl (nI_inc _) rfl ?_
          refine v_goto 4 dX0_firstOf_34 (by decide) ?_
          refine v_drop [some (rfv x 32), some (.int (nI (amN (bgW f k) (i + 1)))), some (.int (nI ((i + 1) + 1)))] (by rw [e2] at h25; simp [lsub, amN_s, h25]) ?_
          exact ih
  refine v_drop [some (rfv x 32), some (.int (nI (amN (bgW f k) 0))), some (.int (nI (0 + 1)))] (by simp [lsub, smN, amN, dbW, mxN]) ?_
  exact lp 0 (Nat.zero_le _)
set_option maxHeartbeats 4000000 in
theorem sp_X0_nextOf {x : Cx} {Q : Qt} {I : Iv} {L : Lv} {P : Pv} {f : Vw} (c : RC 1 f I) (w : Wf f) {k p s : Nat} (hk : k < f 1) (hs : s < f 0) (hp : p + 1 < nP f k) (h33 : ∀ t, t < f 0 → L 33 ((p + 1) * 4 + t) = lN (gcW f k (p + 1) t)) (hQ : Q (some (.int (nI (amN (gnW f k p s) (f 0 - 1))))) I L P) : SP x M_X0_nextOf [rfv x 32, .int (nI (p)), .int (nI (s))] I L P Q := by
  have := w.n4
  have := w.n1
  have := w.m6
  have := w.p hk
  have hB : ∀ t, t < f 0 → gnW f k p s t < 2 ^ 63 := fun t ht => gnW_le w hk hp hs ht
  refine SP.intro [some (rfv x 32), some (.int (nI (p))), some (.int (nI (s))), none, none] pn_X0_nextOf (Nat.le_of_ble_eq_true rfl) rfl ?_
  refine v_iconst 1 (nI (0)) (by decide) dX0_nextOf_0 rfl ?_
  refine v_istore_n 2 [some (rfv x 32), some (.int (nI (p))), some (.int (nI (s))), some (.int (nI (0))), none] dX0_nextOf_1 rfl (by decide) rfl ?_
  refine v_iconst 3 (nI (1)) (by decide) dX0_nextOf_2 rfl ?_
  refine v_istore 5 [some (rfv x 32), some (.int (nI (p))), some (.int (nI (s))), some (.int (nI (0))), some (.int (nI (1)))] dX0_nextOf_3 rfl (by decide) rfl ?_
  have lp : ∀ i, i ≤ (f 0 - 1) → V x M_X0_nextOf Q 5 [some (rfv x 32), some (.int (nI (p))), some (.int (nI (s))), some (.int (nI (amN (gnW f k p s) i))), some (.int (nI (i + 1)))] [] I L P := by
    refine lpU ?_ ?_
    · skip
      refine v_iload 7 rfl dX0_nextOf_5 rfl ?_
      refine v_aload_n 8 rfl dX0_nextOf_7 rfl ?_
      refine v_get 11 (k := 0) 0 (rfv x 1) (by decide) rfl (by decide) (by decide) dX0_nextOf_8 rfl fl_X0_9 rfl ?_
      refine v_getN 14 (k := 1) 3 (.int (nI (f 0))) (by decide) rfl (by decide) (by decide) dX0_nextOf_11 rfl fl_X0_28 (congrArg Value.int c.st) ?_
      refine v_icmpN_ge 45 17 dX0_nextOf_14 (by decide) rfl (by omega) (by omega) (fun h14 => ?_) (fun h14 => ?_)
      · skip
        refine v_iload_n 46 rfl dX0_nextOf_45 rfl ?_
        refine v_iret rfl dX0_nextOf_46 ?_
        exact hQ
      · skip
        exact absurd h14 (by omega)
    · intro i hi ih 
      have := amN_le (gnW f k p s) i
      have e2 := (pk_lLT (hB (amN (gnW f k p s) i) (by omega)) (hB (i + 1) (by omega)))
      refine v_iload 7 rfl dX0_nextOf_5 rfl ?_
      refine v_aload_n 8 rfl dX0_nextOf_7 rfl ?_
      refine v_get 11 (k := 0) 0 (rfv x 1) (by decide) rfl (by decide) (by decide) dX0_nextOf_8 rfl fl_X0_9 rfl ?_
      refine v_getN 14 (k := 1) 3 (.int (nI (f 0))) (by decide) rfl (by decide) (by decide) dX0_nextOf_11 rfl fl_X0_28 (congrArg Value.int c.st) ?_
      refine v_icmpN_ge 45 17 dX0_nextOf_14 (by decide) rfl (by omega) (by omega) (fun h14 => ?_) (fun h14 => ?_)
      · skip
        exact absurd h14 (by omega)
      · skip
        refine v_aload_n 18 rfl dX0_nextOf_17 rfl ?_
        refine v_iload_n 19 rfl dX0_nextOf_18 rfl ?_
        refine v_iload_n 20 rfl dX0_nextOf_19 rfl ?_
        refine v_iload 22 rfl dX0_nextOf_20 rfl ?_
        refine v_invV 25 M_X0_going [.int (nI (p)), .int (nI (s)), .int (nI (i + 1))] (by decide) rfl (by decide) rfl dX0_nextOf_22 rfl ml_X0_36 im_X0_going se_X0_going mc_X0_going (by decide) (Nat.le_of_ble_eq_true rfl) (sp_X0_going c w hk hs (by omega) hp (h33 _ (by omega)) ?_)
        refine v_aload_n 26 rfl dX0_nextOf_25 rfl ?_
        refine v_iload_n 27 rfl dX0_nextOf_26 rfl ?_
        refine v_iload_n 28 rfl dX0_nextOf_27 rfl ?_
        refine v_iload_n 29 rfl dX0_nextOf_28 rfl ?_
        refine v_invV 32 M_X0_going [.int (nI (p)), .int (nI (s)), .int (nI (amN (gnW f k p s) i))] (by decide) rfl (by decide) rfl dX0_nextOf_29 rfl ml_X0_36 im_X0_going se_X0_going mc_X0_going (by decide) (Nat.le_of_ble_eq_true rfl) (sp_X0_going c w hk hs (by omega) hp (h33 _ (by omega)) ?_)
        refine v_lcmp_le 33 39 36 dX0_nextOf_32 rfl dX0_nextOf_33 (by decide) rfl (fun h32 => ?_) (fun h32 => ?_)
        · skip
          refine v_iinc 42 [some (rfv x 32), some (.int (nI (p))), some (.int (nI (s))), some (.int (nI (amN (gnW f k p s) i))), some (.int (nI ((i + 1) + 1)))] (nI ((i + 1) + 1)) dX0_nextOf_39 rfl (by decide) rfl (nI_inc _) rfl ?_
          refine v_goto 5 dX0_nextOf_42 (by decide) ?_
          refine v_drop [some (rfv x 32), some (.int (nI (p))), some (.int (nI (s))), some (.int (nI (amN (gnW f k p s) (i + 1)))), some (.int (nI ((i + 1) + 1)))] (by rw [e2] at h32; simp [lsub, amN_s, h32]) ?_
          exact ih
        · skip
          refine v_iload 38 rfl dX0_nextOf_36 rfl ?_
          refine v_istore_n 39 [some (rfv x 32), some (.int (nI (p))), some (.int (nI (s))), some (.int (nI (i + 1))), some (.int (nI (i + 1)))] dX0_nextOf_38 rfl (by decide) rfl ?_
          refine v_iinc 42 [some (rfv x 32), some (.int (nI (p))), some (.int (nI (s))), some (.int (nI (i + 1))), some (.int (nI ((i + 1) + 1)))] (nI ((i + 1) + 1)) dX0_nextOf_39 rfl (by decide) rfl (nI_inc _) rfl ?_
          refine v_goto 5 dX0_nextOf_42 (by decide) ?_
          refine v_drop [some (rfv x 32), some (.int (nI (p))), some (.int (nI (s))), some (.int (nI (amN (gnW f k p s) (i + 1)))), some (.int (nI ((i + 1) + 1)))] (by rw [e2] at h32; simp [lsub, amN_s, h32]) ?_
          exact ih
  refine v_drop [some (rfv x 32), some (.int (nI (p))), some (.int (nI (s))), some (.int (nI (amN (gnW f k p s) 0))), some (.int (nI (0 + 1)))] (by simp [lsub, smN, amN, dbW, mxN]) ?_
  exact lp 0 (Nat.zero_le _)
set_option maxHeartbeats 4000000 in
theorem sp_X0_read {x : Cx} {Q : Qt} {I : Iv} {L : Lv} {P : Pv} {f : Vw} (c : RC 1 f I) (w : Wf f) {k : Nat} (hk : k < f 1) (hQ : ∀ I1 L1, (∀ a, a ≠ 34 → I1 a = I a) → (∀ a, a ≠ 32 → a ≠ 33 → L1 a = L a) → BM f k I1 L1 → Q none I1 L1 P) : SP x M_X0_read [rfv x 32, .int (nI (k))] I L P Q := by
  have := w.n4
  have := w.n1
  have := w.m6
  have := w.p hk
  
  refine SP.intro [some (rfv x 32), some (.int (nI (k))), none, none, none, none, none] pn_X0_read (Nat.le_of_ble_eq_true rfl) rfl ?_
  refine v_aload_n 1 rfl dX0_read_0 rfl ?_
  refine v_get 4 (k := 0) 0 (rfv x 1) (by decide) rfl (by decide) (by decide) dX0_read_1 rfl fl_X0_9 rfl ?_
  refine v_getN 7 (k := 3) 3 (rfv x 3) (by decide) rfl (by decide) (by decide) dX0_read_4 rfl fl_X0_23 rfl ?_
  refine v_iload_n 8 rfl dX0_read_7 rfl ?_
  refine v_iald 9 (k := k) (nI (nP f k)) (by decide) rfl (by decide) dX0_read_8 rfl rfl (by omega) (c.n hk) ?_
  refine v_istore_n 10 [some (rfv x 32), some (.int (nI (k))), some (.int (nI (nP f k))), none, none, none, none] dX0_read_9 rfl (by decide) rfl ?_
  refine v_iload_n 11 rfl dX0_read_10 rfl ?_
  refine v_iconst 12 (nI (1)) (by decide) dX0_read_11 rfl ?_
  refine v_isub 13 (nI (nP f k) + Int32.ofInt (-1)) dX0_read_12 rfl (nI_sub1 _) ?_
  refine v_istore_n 14 [some (rfv x 32), some (.int (nI (k))), some (.int (nI (nP f k))), some (.int (nI (nP f k) + Int32.ofInt (-1))), none, none, none] dX0_read_13 rfl (by decide) rfl ?_
  have lp : ∀ i, i ≤ nP f k → ∀ L2 : Lv, (∀ p s, i ≤ p → p < nP f k → s < f 0 → L2 33 (p * 4 + s) = lN (gcW f k p s)) → (∀ a, a ≠ 33 → L2 a = L a) → V x M_X0_read Q 14 [some (rfv x 32), some (.int (nI (k))), some (.int (nI (nP f k))), some (.int (nI i + Int32.ofInt (-1))), none, none, none] [] I L2 P := by
    intro i
    induction i with
    | zero =>
      intro hn L2 hB hF
      refine v_iload_n 15 rfl dX0_read_14 rfl ?_
      refine v_if_lt 98 18 dX0_read_15 (by decide) rfl (fun h15 => ?_) (fun h15 => ?_)
      · skip
        have h33 : ∀ p s, p < nP f k → s < f 0 → L2 33 (p * 4 + s) = lN (gcW f k p s) := fun p s h1 h2 => hB p s (Nat.zero_le _) h1 h2
        have hL : ∀ a, a ≠ 33 → L2 a = L a := hF
        clear hB hF
        refine v_aload_n 99 rfl dX0_read_98 rfl ?_
        refine v_get 102 (k := 2) 0 (rfv x 34) (by decide) rfl (by decide) (by decide) dX0_read_99 rfl fl_X0_19 rfl ?_
        refine v_iconst 103 (nI (0)) (by decide) dX0_read_102 rfl ?_
        refine v_aload_n 104 rfl dX0_read_103 rfl ?_
        refine v_invV 107 M_X0_firstOf [] (by decide) rfl (by decide) rfl dX0_read_104 rfl ml_X0_44 im_X0_firstOf se_X0_firstOf mc_X0_firstOf (by decide) (Nat.le_of_ble_eq_true rfl) (sp_X0_firstOf c w hk (fun s hs => by have := h33 0 s (by omega) hs; rwa [Nat.zero_mul, Nat.zero_add] at this) ?_)
        refine v_iast 108 (k := 0) (nI (amN (bgW f k) (f 0 - 1))) (by decide) rfl (by decide) dX0_read_107 rfl rfl (by omega) rfl (fun I107 e107 => ?_)
        refine v_aload_n 109 rfl dX0_read_108 rfl ?_
        refine v_aload_n 110 rfl dX0_read_109 rfl ?_
        refine v_aload_n 111 rfl dX0_read_110 rfl ?_
        refine v_get 114 (k := 2) 0 (rfv x 34) (by decide) rfl (by decide) (by decide) dX0_read_111 rfl fl_X0_19 rfl ?_
        refine v_iconst 115 (nI (0)) (by decide) dX0_read_114 rfl ?_
        refine v_iald 116 (k := 0) (nI (amN (bgW f k) (f 0 - 1))) (by decide) rfl (by decide) dX0_read_115 rfl rfl (by omega) (up2_at e107) ?_
        refine v_invV 119 M_X0_beginning [.int (nI (amN (bgW f k) (f 0 - 1)))] (by decide) rfl (by decide) rfl dX0_read_116 rfl ml_X0_48 im_X0_beginning se_X0_beginning mc_X0_beginning (by decide) (Nat.le_of_ble_eq_true rfl) (sp_X0_beginning (k := k) (c.same (fun a _ _ => up2_row e107 (by omega))) w hk (by have := amN_le (bgW f k) (f 0 - 1); omega) (by have := h33 0 (amN (bgW f k) (f 0 - 1)) (by omega) (by have := amN_le (bgW f k) (f 0 - 1); omega); rwa [Nat.zero_mul, Nat.zero_add] at this) ?_)
        refine v_putL 122 (k := 3) 0 .long (by decide) rfl (by decide) (by decide) rfl (by decide +kernel) rfl rfl (fun _ _ => rfl) dX0_read_119 rfl fl_X0_52 (fun L119 e119 => ?_)
        rw [bestW_am w] at e119
        refine v_iconst 123 (nI (1)) (by decide) dX0_read_122 rfl ?_
        refine v_istore_n 124 [some (rfv x 32), some (.int (nI (k))), some (.int (nI (nP f k))), some (.int (nI (1))), none, none, none] dX0_read_123 rfl (by decide) rfl ?_
        have lr : ∀ i, i ≤ nP f k → 1 ≤ i → ∀ I6 : Iv, (∀ p, p < i → I6 34 p = nI (pathW f k p)) → (∀ a, a ≠ 34 → I6 a = I a) → V x M_X0_read Q 124 [some (rfv x 32), some (.int (nI (k))), some (.int (nI (nP f k))), some (.int (nI (i))), none, none, none] [] I6 L119 P := by
          refine lpU ?_ ?_
          · intro h1 I6 hA hF
            refine v_iload_n 125 rfl dX0_read_124 rfl ?_
            refine v_iload_n 126 rfl dX0_read_125 rfl ?_
            refine v_icmpN_ge 156 129 dX0_read_126 (by decide) rfl (by omega) (by omega) (fun h126 => ?_) (fun h126 => ?_)
            · skip
              refine v_vret rfl dX0_read_156 ?_
              exact hQ I6 L119 hF (fun a q1 q2 => (up2_row e119 q1).trans (hL a q2)) ⟨hA, up2_at e119⟩
            · skip
              exact absurd h126 (by omega)
          · intro i hi ih h1 I6 hA hF
            refine v_iload_n 125 rfl dX0_read_124 rfl ?_
            refine v_iload_n 126 rfl dX0_read_125 rfl ?_
            refine v_icmpN_ge 156 129 dX0_read_126 (by decide) rfl (by omega) (by omega) (fun h126 => ?_) (fun h126 => ?_)
            · skip
              exact absurd h126 (by omega)
            · skip
              refine v_aload_n 130 rfl dX0_read_129 rfl ?_
              refine v_get 133 (k := 2) 0 (rfv x 34) (by decide) rfl (by decide) (by decide) dX0_read_130 rfl fl_X0_19 rfl ?_
              refine v_iload_n 134 rfl dX0_read_133 rfl ?_
              refine v_aload_n 135 rfl dX0_read_134 rfl ?_
              refine v_iload_n 136 rfl dX0_read_135 rfl ?_
              refine v_iconst 137 (nI (1)) (by decide) dX0_read_136 rfl ?_
              refine v_isub 138 (nI (i - 1)) dX0_read_137 rfl (pk_sub (by omega)) ?_
              refine v_aload_n 139 rfl dX0_read_138 rfl ?_
              refine v_get 142 (k := 2) 0 (rfv x 34) (by decide) rfl (by decide) (by decide) dX0_read_139 rfl fl_X0_19 rfl ?_
              refine v_iload_n 143 rfl dX0_read_142 rfl ?_
              refine v_iconst 144 (nI (1)) (by decide) dX0_read_143 rfl ?_
              refine v_isub 145 (nI (i - 1)) dX0_read_144 rfl (pk_sub (by omega)) ?_
              refine v_iald 146 (k := i - 1) (nI (pathW f k (i - 1))) (by decide) rfl (by decide) dX0_read_145 rfl rfl (by omega) (hA (i - 1) (by omega)) ?_
              refine v_invV 149 M_X0_nextOf [.int (nI (i - 1)), .int (nI (pathW f k (i - 1)))] (by decide) rfl (by decide) rfl dX0_read_146 rfl ml_X0_32 im_X0_nextOf se_X0_nextOf mc_X0_nextOf (by decide) (Nat.le_of_ble_eq_true rfl) (sp_X0_nextOf (k := k) (c.same (fun a _ _ => hF a (by omega))) w hk (pathW_lt w _) (by omega) (fun t ht => (congrFun (up2_row e119 (by omega)) _).trans (h33 _ t (by omega) ht)) ?_)
              refine v_iast 150 (k := i) (nI (amN (gnW f k (i - 1) (pathW f k (i - 1))) (f 0 - 1))) (by decide) rfl (by decide) dX0_read_149 rfl rfl (by omega) rfl (fun I149 e149 => ?_)
              refine v_iinc 153 [some (rfv x 32), some (.int (nI (k))), some (.int (nI (nP f k))), some (.int (nI (i + 1))), none, none, none] (nI (i + 1)) dX0_read_150 rfl (by decide) rfl (nI_inc _) rfl ?_
              refine v_goto 124 dX0_read_153 (by decide) ?_
              refine v_drop [some (rfv x 32), some (.int (nI (k))), some (.int (nI (nP f k))), some (.int (nI (i + 1))), none, none, none] (by simp [lsub, smN_s, Nat.mul_assoc, *]) ?_
              refine ih (by omega) I149 (fun p hp => ?_) (fun a ha => (up2_row e149 ha).trans (hF a ha))
              by_cases q : p = i
              · subst q
                obtain ⟨p, rfl⟩ : ∃ z, p = z + 1 := ⟨p - 1, by omega⟩
                exact up2_at e149
              · exact (up2_off e149 (by omega)).trans (hA p (by omega))
        refine v_drop [some (rfv x 32), some (.int (nI (k))), some (.int (nI (nP f k))), some (.int (nI (1))), none, none, none] (by simp [lsub, smN_s, Nat.mul_assoc, *]) ?_
        refine lr 1 (by omega) (Nat.le_refl _) I107 (fun p hp => ?_) (fun a ha => up2_row e107 ha)
        rw [show p = 0 by omega]
        exact up2_at e107
      · skip
        exact absurd (by decide : nI 0 + Int32.ofInt (-1) < 0) h15
    | succ i ih =>
      intro hn L2 hB hF
      rw [nI_m1 i]
      refine v_iload_n 15 rfl dX0_read_14 rfl ?_
      refine v_ifN_lt 98 18 dX0_read_15 (by decide) rfl (by omega) ?_
      refine v_iconst 19 (nI (0)) (by decide) dX0_read_18 rfl ?_
      refine v_istore 21 [some (rfv x 32), some (.int (nI (k))), some (.int (nI (nP f k))), some (.int (nI (i))), some (.int (nI (0))), none, none] dX0_read_19 rfl (by decide) rfl ?_
      have lq : ∀ j, j ≤ f 0 → ∀ L5 : Lv, (∀ s, s < j → L5 33 (i * 4 + s) = lN (gcW f k i s)) → (∀ p s, i + 1 ≤ p → p < nP f k → s < f 0 → L5 33 (p * 4 + s) = lN (gcW f k p s)) → (∀ a, a ≠ 33 → L5 a = L a) → V x M_X0_read Q 21 [some (rfv x 32), some (.int (nI (k))), some (.int (nI (nP f k))), some (.int (nI (i))), some (.int (nI (j))), none, none] [] I L5 P := by
        refine lpU ?_ ?_
        · intro L5 hC hB hF
          refine v_iload 23 rfl dX0_read_21 rfl ?_
          refine v_aload_n 24 rfl dX0_read_23 rfl ?_
          refine v_get 27 (k := 0) 0 (rfv x 1) (by decide) rfl (by decide) (by decide) dX0_read_24 rfl fl_X0_9 rfl ?_
          refine v_getN 30 (k := 1) 3 (.int (nI (f 0))) (by decide) rfl (by decide) (by decide) dX0_read_27 rfl fl_X0_28 (congrArg Value.int c.st) ?_
          refine v_icmpN_ge 92 33 dX0_read_30 (by decide) rfl (by omega) (by omega) (fun h30 => ?_) (fun h30 => ?_)
          · skip
            refine v_iinc 95 [some (rfv x 32), some (.int (nI (k))), some (.int (nI (nP f k))), some (.int (nI i + Int32.ofInt (-1))), some (.int (nI (f 0))), none, none] (nI i + Int32.ofInt (-1)) dX0_read_92 rfl (by decide) rfl rfl rfl ?_
            refine v_goto 14 dX0_read_95 (by decide) ?_
            refine v_drop [some (rfv x 32), some (.int (nI (k))), some (.int (nI (nP f k))), some (.int (nI i + Int32.ofInt (-1))), none, none, none] (by simp [lsub, smN_s, Nat.mul_assoc, *]) ?_
            refine ih (by omega) L5 (fun p s h1 h2 h3 => ?_) hF
            rcases Nat.eq_or_lt_of_le h1 with q | q
            · subst q
              exact hC s h3
            · exact hB p s q h2 h3
          · skip
            exact absurd h30 (by omega)
        · intro j hj ih2 L5 hC hB hF
          have := w.s hk (p := i) (by omega)
          have := w.w hj (g := sG f k i) (by omega)
          refine v_iload 23 rfl dX0_read_21 rfl ?_
          refine v_aload_n 24 rfl dX0_read_23 rfl ?_
          refine v_get 27 (k := 0) 0 (rfv x 1) (by decide) rfl (by decide) (by decide) dX0_read_24 rfl fl_X0_9 rfl ?_
          refine v_getN 30 (k := 1) 3 (.int (nI (f 0))) (by decide) rfl (by decide) (by decide) dX0_read_27 rfl fl_X0_28 (congrArg Value.int c.st) ?_
          refine v_icmpN_ge 92 33 dX0_read_30 (by decide) rfl (by omega) (by omega) (fun h30 => ?_) (fun h30 => ?_)
          · skip
            exact absurd h30 (by omega)
          · skip
            refine v_iload_n 34 rfl dX0_read_33 rfl ?_
            refine v_iload_n 35 rfl dX0_read_34 rfl ?_
            refine v_iconst 36 (nI (1)) (by decide) dX0_read_35 rfl ?_
            refine v_isub 37 (nI ((nP f k) - 1)) dX0_read_36 rfl (pk_sub (by omega)) ?_
            refine v_icmpN_ne 44 40 dX0_read_37 (by decide) rfl (by omega) (by omega) (fun h37 => ?_) (fun h37 => ?_)
            · skip
              refine v_aload_n 45 rfl dX0_read_44 rfl ?_
              refine v_iload_n 46 rfl dX0_read_45 rfl ?_
              refine v_iload 48 rfl dX0_read_46 rfl ?_
              refine v_aload_n 49 rfl dX0_read_48 rfl ?_
              refine v_iload_n 50 rfl dX0_read_49 rfl ?_
              refine v_iload 52 rfl dX0_read_50 rfl ?_
              refine v_invV 55 M_X0_nextOf [.int (nI (i)), .int (nI (j))] (by decide) rfl (by decide) rfl dX0_read_52 rfl ml_X0_32 im_X0_nextOf se_X0_nextOf mc_X0_nextOf (by decide) (Nat.le_of_ble_eq_true rfl) (sp_X0_nextOf c w hk hj (by omega) (fun t ht => hB (i + 1) t (Nat.le_refl _) (by omega) ht) ?_)
              refine v_invV 58 M_X0_going [.int (nI (i)), .int (nI (j)), .int (nI (amN (gnW f k i j) (f 0 - 1)))] (by decide) rfl (by decide) rfl dX0_read_55 rfl ml_X0_36 im_X0_going se_X0_going mc_X0_going (by decide) (Nat.le_of_ble_eq_true rfl) (sp_X0_going c w hk hj (by have := amN_le (gnW f k i j) (f 0 - 1); omega) (by omega) (hB (i + 1) _ (Nat.le_refl _) (by omega) (by have := amN_le (gnW f k i j) (f 0 - 1); omega)) ?_)
              refine v_lstore 60 [some (rfv x 32), some (.int (nI (k))), some (.int (nI (nP f k))), some (.int (nI (i))), some (.int (nI (j))), some (.long (lN (gnW f k i j (amN (gnW f k i j) (f 0 - 1))))), none] dX0_read_58 rfl (by decide) rfl ?_
              refine v_aload_n 61 rfl dX0_read_60 rfl ?_
              refine v_get 64 (k := 1) 0 (rfv x 33) (by decide) rfl (by decide) (by decide) dX0_read_61 rfl fl_X0_15 rfl ?_
              refine v_iload_n 65 rfl dX0_read_64 rfl ?_
              refine v_iconst 66 (nI (4)) (by decide) dX0_read_65 rfl ?_
              refine v_imul 67 (nI (i * 4)) dX0_read_66 rfl (pk_mul _ _) ?_
              refine v_iload 69 rfl dX0_read_67 rfl ?_
              refine v_iadd 70 (nI ((i * 4) + j)) dX0_read_69 rfl (nI_add _ _) ?_
              refine v_aload_n 71 rfl dX0_read_70 rfl ?_
              refine v_get 74 (k := 0) 0 (rfv x 1) (by decide) rfl (by decide) (by decide) dX0_read_71 rfl fl_X0_9 rfl ?_
              refine v_iload 76 rfl dX0_read_74 rfl ?_
              refine v_iload_n 77 rfl dX0_read_76 rfl ?_
              refine v_iload_n 78 rfl dX0_read_77 rfl ?_
              refine v_invV 81 M_X3_showAt [.int (nI (j)), .int (nI (k)), .int (nI (i))] (by decide) rfl (by decide) rfl dX0_read_78 rfl ml_X0_40 im_X3_showAt se_X3_showAt mc_X3_showAt (by decide) (Nat.le_of_ble_eq_true rfl) (sp_X3_showAt c w (by omega) (by omega) (by omega) ?_)
              refine v_i2l 82 (lN (sW f j (sG f k i))) dX0_read_81 rfl (nI_l (by omega)) ?_
              refine v_lload 84 rfl dX0_read_82 rfl ?_
              refine v_lmul 85 (lN (gcW f k i j)) dX0_read_84 rfl ((lN_mul _ _).trans (congrArg lN (by first | (rw [gcW, grW_l h37]; done) | (rw [gcW, ← grW_am w (by omega)]; done)))) ?_
              refine v_last 86 (k := (i * 4) + j) (by decide) rfl (by decide) dX0_read_85 rfl rfl (by omega) (fun L85 e85 => ?_)
              refine v_iinc 89 [some (rfv x 32), some (.int (nI (k))), some (.int (nI (nP f k))), some (.int (nI (i))), some (.int (nI (j + 1))), some (.long (lN (gnW f k i j (amN (gnW f k i j) (f 0 - 1))))), none] (nI (j + 1)) dX0_read_86 rfl (by decide) rfl (nI_inc _) rfl ?_
              refine v_goto 21 dX0_read_89 (by decide) ?_
              refine v_drop [some (rfv x 32), some (.int (nI (k))), some (.int (nI (nP f k))), some (.int (nI (i))), some (.int (nI (j + 1))), none, none] (by simp [lsub, smN_s, Nat.mul_assoc, *]) ?_
              refine ih2 L85 (fun s hs => ?_) (fun p s h1 h2 h3 => ?_) (fun a h1 => ?_)
              · by_cases q : s = j
                · subst q
                  exact up2_at e85
                · exact (up2_off e85 (by omega)).trans (hC s (by omega))
              · exact (up2_off e85 (by omega)).trans (hB p s h1 h2 h3)
              · exact (up2_row e85 h1).trans (hF a h1)
            · skip
              refine v_lconst 41 (lN (1)) rfl dX0_read_40 rfl ?_
              refine v_goto 58 dX0_read_41 (by decide) ?_
              refine v_lstore 60 [some (rfv x 32), some (.int (nI (k))), some (.int (nI (nP f k))), some (.int (nI (i))), some (.int (nI (j))), some (.long (lN (1))), none] dX0_read_58 rfl (by decide) rfl ?_
              refine v_aload_n 61 rfl dX0_read_60 rfl ?_
              refine v_get 64 (k := 1) 0 (rfv x 33) (by decide) rfl (by decide) (by decide) dX0_read_61 rfl fl_X0_15 rfl ?_
              refine v_iload_n 65 rfl dX0_read_64 rfl ?_
              refine v_iconst 66 (nI (4)) (by decide) dX0_read_65 rfl ?_
              refine v_imul 67 (nI (i * 4)) dX0_read_66 rfl (pk_mul _ _) ?_
              refine v_iload 69 rfl dX0_read_67 rfl ?_
              refine v_iadd 70 (nI ((i * 4) + j)) dX0_read_69 rfl (nI_add _ _) ?_
              refine v_aload_n 71 rfl dX0_read_70 rfl ?_
              refine v_get 74 (k := 0) 0 (rfv x 1) (by decide) rfl (by decide) (by decide) dX0_read_71 rfl fl_X0_9 rfl ?_
              refine v_iload 76 rfl dX0_read_74 rfl ?_
              refine v_iload_n 77 rfl dX0_read_76 rfl ?_
              refine v_iload_n 78 rfl dX0_read_77 rfl ?_
              refine v_invV 81 M_X3_showAt [.int (nI (j)), .int (nI (k)), .int (nI (i))] (by decide) rfl (by decide) rfl dX0_read_78 rfl ml_X0_40 im_X3_showAt se_X3_showAt mc_X3_showAt (by decide) (Nat.le_of_ble_eq_true rfl) (sp_X3_showAt c w (by omega) (by omega) (by omega) ?_)
              refine v_i2l 82 (lN (sW f j (sG f k i))) dX0_read_81 rfl (nI_l (by omega)) ?_
              refine v_lload 84 rfl dX0_read_82 rfl ?_
              refine v_lmul 85 (lN (gcW f k i j)) dX0_read_84 rfl ((lN_mul _ _).trans (congrArg lN (by first | (rw [gcW, grW_l h37]; done) | (rw [gcW, ← grW_am w (by omega)]; done)))) ?_
              refine v_last 86 (k := (i * 4) + j) (by decide) rfl (by decide) dX0_read_85 rfl rfl (by omega) (fun L85 e85 => ?_)
              refine v_iinc 89 [some (rfv x 32), some (.int (nI (k))), some (.int (nI (nP f k))), some (.int (nI (i))), some (.int (nI (j + 1))), some (.long (lN (1))), none] (nI (j + 1)) dX0_read_86 rfl (by decide) rfl (nI_inc _) rfl ?_
              refine v_goto 21 dX0_read_89 (by decide) ?_
              refine v_drop [some (rfv x 32), some (.int (nI (k))), some (.int (nI (nP f k))), some (.int (nI (i))), some (.int (nI (j + 1))), none, none] (by simp [lsub, smN_s, Nat.mul_assoc, *]) ?_
              refine ih2 L85 (fun s hs => ?_) (fun p s h1 h2 h3 => ?_) (fun a h1 => ?_)
              · by_cases q : s = j
                · subst q
                  exact up2_at e85
                · exact (up2_off e85 (by omega)).trans (hC s (by omega))
              · exact (up2_off e85 (by omega)).trans (hB p s h1 h2 h3)
              · exact (up2_row e85 h1).trans (hF a h1)
      refine v_drop [some (rfv x 32), some (.int (nI (k))), some (.int (nI (nP f k))), some (.int (nI (i))), some (.int (nI (0))), none, none] (by simp [lsub, smN, amN, dbW, mxN]) ?_
      exact lq 0 (Nat.zero_le _) L2 (fun s h => absurd h (Nat.not_lt_zero s)) hB hF
  refine v_drop [some (rfv x 32), some (.int (nI (k))), some (.int (nI (nP f k))), some (.int (nI (nP f k) + Int32.ofInt (-1))), none, none, none] (by simp [lsub, smN_s, Nat.mul_assoc, *]) ?_
  exact lp (nP f k) (Nat.le_refl _) L (fun p s h1 h2 h3 => absurd h1 (by omega)) (fun a _ => rfl)
