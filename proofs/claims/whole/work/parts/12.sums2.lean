set_option maxHeartbeats 4000000 in
theorem sp_X7_shareOf {x : Cx} {Q : Qt} {I : Iv} {L : Lv} {P : Pv} {a t : Nat} (ht : 0 < t) (hb : t < 576460752303423488) (ha : a < 9223372036854775808) (hQ : Q (some (.int (nI (shN a t)))) I L P) : SP x M_X7_shareOf [.long (lN (a)), .long (lN (t))] I L P Q := by
  have r0 : a % t < t := Nat.mod_lt _ ht
  have r1 : a % t * 10 % t < t := Nat.mod_lt _ ht
  have r2 : a % t * 10 % t * 10 % t < t := Nat.mod_lt _ ht
  have hne : ¬ lN t = 0 := lN_ne0 ht (by omega)
  refine SP.intro [some (.long (lN (a))), none, some (.long (lN (t))), none, none, none, none, none, none] pn_X7_shareOf (Nat.le_of_ble_eq_true rfl) rfl ?_
  refine v_lload_n 1 rfl dX7_shareOf_0 rfl ?_
  refine v_lconst 2 (lN (0)) rfl dX7_shareOf_1 rfl ?_
  refine v_lcmp_gt 3 8 6 dX7_shareOf_2 rfl dX7_shareOf_3 (by decide) rfl (fun h2 => ?_) (fun h2 => ?_)
  · skip
    refine v_lload_n 9 rfl dX7_shareOf_8 rfl ?_
    refine v_lload_n 10 rfl dX7_shareOf_9 rfl ?_
    refine v_ldiv 11 (lN (a / t)) dX7_shareOf_10 rfl hne (pk_lDiv (by omega) ht (by omega)) ?_
    refine v_lstore 13 [some (.long (lN (a))), none, some (.long (lN (t))), none, some (.long (lN (a / t))), none, none, none, none] dX7_shareOf_11 rfl (by decide) rfl ?_
    refine v_lload_n 14 rfl dX7_shareOf_13 rfl ?_
    refine v_lload_n 15 rfl dX7_shareOf_14 rfl ?_
    refine v_lrem 16 (lN (a % t)) dX7_shareOf_15 rfl hne (pk_lRem (by omega) ht (by omega)) ?_
    refine v_lstore 18 [some (.long (lN (a))), none, some (.long (lN (t))), none, some (.long (lN (a / t))), none, some (.long (lN (a % t))), none, none] dX7_shareOf_16 rfl (by decide) rfl ?_
    refine v_iconst 19 (nI (1)) (by decide) dX7_shareOf_18 rfl ?_
    refine v_istore 21 [some (.long (lN (a))), none, some (.long (lN (t))), none, some (.long (lN (a / t))), none, some (.long (lN (a % t))), none, some (.int (nI (1)))] dX7_shareOf_19 rfl (by decide) rfl ?_
    refine v_iload 23 rfl dX7_shareOf_21 rfl ?_
    refine v_sipush 26 (nI (1000)) (by decide) dX7_shareOf_23 rfl ?_
    refine v_icmpN_ge 66 29 dX7_shareOf_26 (by decide) rfl (by omega) (by omega) (fun h26 => ?_) (fun h26 => ?_)
    · skip
      exact absurd h26 (by omega)
    · skip
      refine v_lload 31 rfl dX7_shareOf_29 rfl ?_
      refine v_ldc2 34 (lN (10)) dX7_shareOf_31 rfl ko_X7_229 ?_
      refine v_lmul 35 (lN ((a % t) * 10)) dX7_shareOf_34 rfl (lN_mul _ _) ?_
      refine v_lstore 37 [some (.long (lN (a))), none, some (.long (lN (t))), none, some (.long (lN (a / t))), none, some (.long (lN ((a % t) * 10))), none, some (.int (nI (1)))] dX7_shareOf_35 rfl (by decide) rfl ?_
      refine v_lload 39 rfl dX7_shareOf_37 rfl ?_
      refine v_ldc2 42 (lN (10)) dX7_shareOf_39 rfl ko_X7_229 ?_
      refine v_lmul 43 (lN ((a / t) * 10)) dX7_shareOf_42 rfl (lN_mul _ _) ?_
      refine v_lload 45 rfl dX7_shareOf_43 rfl ?_
      refine v_lload_n 46 rfl dX7_shareOf_45 rfl ?_
      refine v_ldiv 47 (lN (((a % t) * 10) / t)) dX7_shareOf_46 rfl hne (pk_lDiv (by omega) ht (by omega)) ?_
      refine v_ladd 48 (lN (((a / t) * 10) + (((a % t) * 10) / t))) dX7_shareOf_47 rfl (lN_add _ _) ?_
      refine v_lstore 50 [some (.long (lN (a))), none, some (.long (lN (t))), none, some (.long (lN (((a / t) * 10) + (((a % t) * 10) / t)))), none, some (.long (lN ((a % t) * 10))), none, some (.int (nI (1)))] dX7_shareOf_48 rfl (by decide) rfl ?_
      refine v_lload 52 rfl dX7_shareOf_50 rfl ?_
      refine v_lload_n 53 rfl dX7_shareOf_52 rfl ?_
      refine v_lrem 54 (lN (((a % t) * 10) % t)) dX7_shareOf_53 rfl hne (pk_lRem (by omega) ht (by omega)) ?_
      refine v_lstore 56 [some (.long (lN (a))), none, some (.long (lN (t))), none, some (.long (lN (((a / t) * 10) + (((a % t) * 10) / t)))), none, some (.long (lN (((a % t) * 10) % t))), none, some (.int (nI (1)))] dX7_shareOf_54 rfl (by decide) rfl ?_
      refine v_iload 58 rfl dX7_shareOf_56 rfl ?_
      refine v_bipush 60 (nI (10)) (by decide) dX7_shareOf_58 rfl ?_
      refine v_imul 61 (nI (1 * 10)) dX7_shareOf_60 rfl (pk_mul _ _) ?_
      refine v_istore 63 [some (.long (lN (a))), none, some (.long (lN (t))), none, some (.long (lN (((a / t) * 10) + (((a % t) * 10) / t)))), none, some (.long (lN (((a % t) * 10) % t))), none, some (.int (nI (1 * 10)))] dX7_shareOf_61 rfl (by decide) rfl ?_
      refine v_goto 21 dX7_shareOf_63 (by decide) ?_
      refine v_iload 23 rfl dX7_shareOf_21 rfl ?_
      refine v_sipush 26 (nI (1000)) (by decide) dX7_shareOf_23 rfl ?_
      refine v_icmpN_ge 66 29 dX7_shareOf_26 (by decide) rfl (by omega) (by omega) (fun h26 => ?_) (fun h26 => ?_)
      · skip
        exact absurd h26 (by omega)
      · skip
        refine v_lload 31 rfl dX7_shareOf_29 rfl ?_
        refine v_ldc2 34 (lN (10)) dX7_shareOf_31 rfl ko_X7_229 ?_
        refine v_lmul 35 (lN ((((a % t) * 10) % t) * 10)) dX7_shareOf_34 rfl (lN_mul _ _) ?_
        refine v_lstore 37 [some (.long (lN (a))), none, some (.long (lN (t))), none, some (.long (lN (((a / t) * 10) + (((a % t) * 10) / t)))), none, some (.long (lN ((((a % t) * 10) % t) * 10))), none, some (.int (nI (1 * 10)))] dX7_shareOf_35 rfl (by decide) rfl ?_
        refine v_lload 39 rfl dX7_shareOf_37 rfl ?_
        refine v_ldc2 42 (lN (10)) dX7_shareOf_39 rfl ko_X7_229 ?_
        refine v_lmul 43 (lN ((((a / t) * 10) + (((a % t) * 10) / t)) * 10)) dX7_shareOf_42 rfl (lN_mul _ _) ?_
        refine v_lload 45 rfl dX7_shareOf_43 rfl ?_
        refine v_lload_n 46 rfl dX7_shareOf_45 rfl ?_
        refine v_ldiv 47 (lN (((((a % t) * 10) % t) * 10) / t)) dX7_shareOf_46 rfl hne (pk_lDiv (by omega) ht (by omega)) ?_
        refine v_ladd 48 (lN (((((a / t) * 10) + (((a % t) * 10) / t)) * 10) + (((((a % t) * 10) % t) * 10) / t))) dX7_shareOf_47 rfl (lN_add _ _) ?_
        refine v_lstore 50 [some (.long (lN (a))), none, some (.long (lN (t))), none, some (.long (lN (((((a / t) * 10) + (((a % t) * 10) / t)) * 10) + (((((a % t) * 10) % t) * 10) / t)))), none, some (.long (lN ((((a % t) * 10) % t) * 10))), none, some (.int (nI (1 * 10)))] dX7_shareOf_48 rfl (by decide) rfl ?_
        refine v_lload 52 rfl dX7_shareOf_50 rfl ?_
        refine v_lload_n 53 rfl dX7_shareOf_52 rfl ?_
        refine v_lrem 54 (lN (((((a % t) * 10) % t) * 10) % t)) dX7_shareOf_53 rfl hne (pk_lRem (by omega) ht (by omega)) ?_
        refine v_lstore 56 [some (.long (lN (a))), none, some (.long (lN (t))), none, some (.long (lN (((((a / t) * 10) + (((a % t) * 10) / t)) * 10) + (((((a % t) * 10) % t) * 10) / t)))), none, some (.long (lN (((((a % t) * 10) % t) * 10) % t))), none, some (.int (nI (1 * 10)))] dX7_shareOf_54 rfl (by decide) rfl ?_
        refine v_iload 58 rfl dX7_shareOf_56 rfl ?_
        refine v_bipush 60 (nI (10)) (by decide) dX7_shareOf_58 rfl ?_
        refine v_imul 61 (nI ((1 * 10) * 10)) dX7_shareOf_60 rfl (pk_mul _ _) ?_
        refine v_istore 63 [some (.long (lN (a))), none, some (.long (lN (t))), none, some (.long (lN (((((a / t) * 10) + (((a % t) * 10) / t)) * 10) + (((((a % t) * 10) % t) * 10) / t)))), none, some (.long (lN (((((a % t) * 10) % t) * 10) % t))), none, some (.int (nI ((1 * 10) * 10)))] dX7_shareOf_61 rfl (by decide) rfl ?_
        refine v_goto 21 dX7_shareOf_63 (by decide) ?_
        refine v_iload 23 rfl dX7_shareOf_21 rfl ?_
        refine v_sipush 26 (nI (1000)) (by decide) dX7_shareOf_23 rfl ?_
        refine v_icmpN_ge 66 29 dX7_shareOf_26 (by decide) rfl (by omega) (by omega) (fun h26 => ?_) (fun h26 => ?_)
        · skip
          exact absurd h26 (by omega)
        · skip
          refine v_lload 31 rfl dX7_shareOf_29 rfl ?_
          refine v_ldc2 34 (lN (10)) dX7_shareOf_31 rfl ko_X7_229 ?_
          refine v_lmul 35 (lN ((((((a % t) * 10) % t) * 10) % t) * 10)) dX7_shareOf_34 rfl (lN_mul _ _) ?_
          refine v_lstore 37 [some (.long (lN (a))), none, some (.long (lN (t))), none, some (.long (lN (((((a / t) * 10) + (((a % t) * 10) / t)) * 10) + (((((a % t) * 10) % t) * 10) / t)))), none, some (.long (lN ((((((a % t) * 10) % t) * 10) % t) * 10))), none, some (.int (nI ((1 * 10) * 10)))] dX7_shareOf_35 rfl (by decide) rfl ?_
          refine v_lload 39 rfl dX7_shareOf_37 rfl ?_
          refine v_ldc2 42 (lN (10)) dX7_shareOf_39 rfl ko_X7_229 ?_
          refine v_lmul 43 (lN ((((((a / t) * 10) + (((a % t) * 10) / t)) * 10) + (((((a % t) * 10) % t) * 10) / t)) * 10)) dX7_shareOf_42 rfl (lN_mul _ _) ?_
          refine v_lload 45 rfl dX7_shareOf_43 rfl ?_
          refine v_lload_n 46 rfl dX7_shareOf_45 rfl ?_
          refine v_ldiv 47 (lN (((((((a % t) * 10) % t) * 10) % t) * 10) / t)) dX7_shareOf_46 rfl hne (pk_lDiv (by omega) ht (by omega)) ?_
          refine v_ladd 48 (lN (((((((a / t) * 10) + (((a % t) * 10) / t)) * 10) + (((((a % t) * 10) % t) * 10) / t)) * 10) + (((((((a % t) * 10) % t) * 10) % t) * 10) / t))) dX7_shareOf_47 rfl (lN_add _ _) ?_
          refine v_lstore 50 [some (.long (lN (a))), none, some (.long (lN (t))), none, some (.long (lN (((((((a / t) * 10) + (((a % t) * 10) / t)) * 10) + (((((a % t) * 10) % t) * 10) / t)) * 10) + (((((((a % t) * 10) % t) * 10) % t) * 10) / t)))), none, some (.long (lN ((((((a % t) * 10) % t) * 10) % t) * 10))), none, some (.int (nI ((1 * 10) * 10)))] dX7_shareOf_48 rfl (by decide) rfl ?_
          refine v_lload 52 rfl dX7_shareOf_50 rfl ?_
          refine v_lload_n 53 rfl dX7_shareOf_52 rfl ?_
          refine v_lrem 54 (lN (((((((a % t) * 10) % t) * 10) % t) * 10) % t)) dX7_shareOf_53 rfl hne (pk_lRem (by omega) ht (by omega)) ?_
          refine v_lstore 56 [some (.long (lN (a))), none, some (.long (lN (t))), none, some (.long (lN (((((((a / t) * 10) + (((a % t) * 10) / t)) * 10) + (((((a % t) * 10) % t) * 10) / t)) * 10) + (((((((a % t) * 10) % t) * 10) % t) * 10) / t)))), none, some (.long (lN (((((((a % t) * 10) % t) * 10) % t) * 10) % t))), none, some (.int (nI ((1 * 10) * 10)))] dX7_shareOf_54 rfl (by decide) rfl ?_
          refine v_iload 58 rfl dX7_shareOf_56 rfl ?_
          refine v_bipush 60 (nI (10)) (by decide) dX7_shareOf_58 rfl ?_
          refine v_imul 61 (nI (((1 * 10) * 10) * 10)) dX7_shareOf_60 rfl (pk_mul _ _) ?_
          refine v_istore 63 [some (.long (lN (a))), none, some (.long (lN (t))), none, some (.long (lN (((((((a / t) * 10) + (((a % t) * 10) / t)) * 10) + (((((a % t) * 10) % t) * 10) / t)) * 10) + (((((((a % t) * 10) % t) * 10) % t) * 10) / t)))), none, some (.long (lN (((((((a % t) * 10) % t) * 10) % t) * 10) % t))), none, some (.int (nI (((1 * 10) * 10) * 10)))] dX7_shareOf_61 rfl (by decide) rfl ?_
          refine v_goto 21 dX7_shareOf_63 (by decide) ?_
          refine v_iload 23 rfl dX7_shareOf_21 rfl ?_
          refine v_sipush 26 (nI (1000)) (by decide) dX7_shareOf_23 rfl ?_
          refine v_icmpN_ge 66 29 dX7_shareOf_26 (by decide) rfl (by omega) (by omega) (fun h26 => ?_) (fun h26 => ?_)
          · skip
            refine v_lload 68 rfl dX7_shareOf_66 rfl ?_
            refine v_l2i 69 (nI (((((((a / t) * 10) + (((a % t) * 10) / t)) * 10) + (((((a % t) * 10) % t) * 10) / t)) * 10) + (((((((a % t) * 10) % t) * 10) % t) * 10) / t))) dX7_shareOf_68 rfl (lN_i _) ?_
            refine v_iret rfl dX7_shareOf_69 ?_
            exact qI hQ (dig_3 ht)
          · skip
            exact absurd h26 (by omega)
  · skip
    exact absurd ((pk_lLT (by omega) (by omega)).mpr ht) h2
theorem sp_X6_wt {x : Cx} {Q : Qt} {I : Iv} {L : Lv} {P : Pv} {f : Vw} (w : Wf f) {k p s : Nat} (hk : k < f 1) (sm : SM f k I L) (hp : p < nP f k) (hs : s < f 0) (hQ : Q (some (.long (lN (wtW f k p s)))) I L P) : SP x M_X6_at [rfv x 29, .int (nI p), .int (nI s)] I L P Q :=
  sp_X6_at (by have := w.p hk; omega) (by have := w.n4; omega) (sm.2.2.1 p s hp hs) (sm.2.2.2.1 p s hp hs) hQ
set_option maxHeartbeats 4000000 in
theorem sp_X6_showing {x : Cx} {Q : Qt} {I : Iv} {L : Lv} {P : Pv} {f : Vw} (c : RC 1 f I) (w : Wf f) {k : Nat} (hk : k < f 1) (sm : SM f k I L) {s g : Nat} (hs : s < f 0) (hg : g < 3) (hQ : Q (some (.long (lN (shW f k s g)))) I L P) : SP x M_X6_showing [rfv x 29, .int (nI (s)), .int (nI (g))] I L P Q := by
  have := w.n4
  have := w.n1
  have := w.m6
  have := w.p hk
  
  refine SP.intro [some (rfv x 29), some (.int (nI (s))), some (.int (nI (g))), none, none, none] pn_X6_showing (Nat.le_of_ble_eq_true rfl) rfl ?_
  refine v_lconst 1 (lN (0)) rfl dX6_showing_0 rfl ?_
  refine v_lstore_n 2 [some (rfv x 29), some (.int (nI (s))), some (.int (nI (g))), some (.long (lN (0))), none, none] dX6_showing_1 rfl (by decide) rfl ?_
  refine v_iconst 3 (nI (0)) (by decide) dX6_showing_2 rfl ?_
  refine v_istore 5 [some (rfv x 29), some (.int (nI (s))), some (.int (nI (g))), some (.long (lN (0))), none, some (.int (nI (0)))] dX6_showing_3 rfl (by decide) rfl ?_
  have lp : ∀ i, i ≤ nP f k → V x M_X6_showing Q 5 [some (rfv x 29), some (.int (nI (s))), some (.int (nI (g))), some (.long (lN (smN i (fun p => if sG f k p = g then wtW f k p s else 0)))), none, some (.int (nI (i)))] [] I L P := by
    refine lpU ?_ ?_
    · skip
      refine v_iload 7 rfl dX6_showing_5 rfl ?_
      refine v_aload_n 8 rfl dX6_showing_7 rfl ?_
      refine v_get 11 (k := 2) 6 (.int (nI (nP f k))) (by decide) rfl (by decide) (by decide) dX6_showing_8 rfl fl_X6_32 (congrArg Value.int sm.2.1) ?_
      refine v_icmpN_ge 47 14 dX6_showing_11 (by decide) rfl (by omega) (by omega) (fun h11 => ?_) (fun h11 => ?_)
      · skip
        refine v_lload_n 48 rfl dX6_showing_47 rfl ?_
        refine v_lret rfl dX6_showing_48 ?_
        exact hQ
      · skip
        exact absurd h11 (by omega)
    · intro i hi ih 
      have := w.s hk hi
      refine v_iload 7 rfl dX6_showing_5 rfl ?_
      refine v_aload_n 8 rfl dX6_showing_7 rfl ?_
      refine v_get 11 (k := 2) 6 (.int (nI (nP f k))) (by decide) rfl (by decide) (by decide) dX6_showing_8 rfl fl_X6_32 (congrArg Value.int sm.2.1) ?_
      refine v_icmpN_ge 47 14 dX6_showing_11 (by decide) rfl (by omega) (by omega) (fun h11 => ?_) (fun h11 => ?_)
      · skip
        exact absurd h11 (by omega)
      · skip
        refine v_aload_n 15 rfl dX6_showing_14 rfl ?_
        refine v_get 18 (k := 0) 6 (rfv x 1) (by decide) rfl (by decide) (by decide) dX6_showing_15 rfl fl_X6_9 rfl ?_
        refine v_aload_n 19 rfl dX6_showing_18 rfl ?_
        refine v_get 22 (k := 1) 6 (.int (nI (k))) (by decide) rfl (by decide) (by decide) dX6_showing_19 rfl fl_X6_22 (congrArg Value.int sm.1) ?_
        refine v_iload 24 rfl dX6_showing_22 rfl ?_
        refine v_invV 27 M_X3_signAt [.int (nI (k)), .int (nI (i))] (by decide) rfl (by decide) rfl dX6_showing_24 rfl ml_X6_68 im_X3_signAt se_X3_signAt mc_X3_signAt (by decide) (Nat.le_of_ble_eq_true rfl) (sp_X3_signAt c w (by omega) (by omega) ?_)
        refine v_iload_n 28 rfl dX6_showing_27 rfl ?_
        refine v_icmpN_ne 41 31 dX6_showing_28 (by decide) rfl (by omega) (by omega) (fun h28 => ?_) (fun h28 => ?_)
        · skip
          refine v_iinc 44 [some (rfv x 29), some (.int (nI (s))), some (.int (nI (g))), some (.long (lN (smN i (fun p => if sG f k p = g then wtW f k p s else 0)))), none, some (.int (nI (i + 1)))] (nI (i + 1)) dX6_showing_41 rfl (by decide) rfl (nI_inc _) rfl ?_
          refine v_goto 5 dX6_showing_44 (by decide) ?_
          refine v_drop [some (rfv x 29), some (.int (nI (s))), some (.int (nI (g))), some (.long (lN (smN (i + 1) (fun p => if sG f k p = g then wtW f k p s else 0)))), none, some (.int (nI (i + 1)))] (by simp [lsub, smN_s, Nat.mul_assoc, *]) ?_
          exact ih
        · skip
          refine v_lload_n 32 rfl dX6_showing_31 rfl ?_
          refine v_aload_n 33 rfl dX6_showing_32 rfl ?_
          refine v_iload 35 rfl dX6_showing_33 rfl ?_
          refine v_iload_n 36 rfl dX6_showing_35 rfl ?_
          refine v_invV 39 M_X6_at [.int (nI (i)), .int (nI (s))] (by decide) rfl (by decide) rfl dX6_showing_36 rfl ml_X6_49 im_X6_at se_X6_at mc_X6_at (by decide) (Nat.le_of_ble_eq_true rfl) (sp_X6_wt w hk sm (by omega) (by omega) ?_)
          refine v_ladd 40 (lN ((smN i (fun p => if sG f k p = g then wtW f k p s else 0)) + (wtW f k i s))) dX6_showing_39 rfl (lN_add _ _) ?_
          refine v_lstore_n 41 [some (rfv x 29), some (.int (nI (s))), some (.int (nI (g))), some (.long (lN ((smN i (fun p => if sG f k p = g then wtW f k p s else 0)) + (wtW f k i s)))), none, some (.int (nI (i)))] dX6_showing_40 rfl (by decide) rfl ?_
          refine v_iinc 44 [some (rfv x 29), some (.int (nI (s))), some (.int (nI (g))), some (.long (lN ((smN i (fun p => if sG f k p = g then wtW f k p s else 0)) + (wtW f k i s)))), none, some (.int (nI (i + 1)))] (nI (i + 1)) dX6_showing_41 rfl (by decide) rfl (nI_inc _) rfl ?_
          refine v_goto 5 dX6_showing_44 (by decide) ?_
          refine v_drop [some (rfv x 29), some (.int (nI (s))), some (.int (nI (g))), some (.long (lN (smN (i + 1) (fun p => if sG f k p = g then wtW f k p s else 0)))), none, some (.int (nI (i + 1)))] (by simp [lsub, smN_s, Nat.mul_assoc, *]) ?_
          exact ih
  refine v_drop [some (rfv x 29), some (.int (nI (s))), some (.int (nI (g))), some (.long (lN (smN 0 (fun p => if sG f k p = g then wtW f k p s else 0)))), none, some (.int (nI (0)))] (by simp [lsub, smN, amN, dbW, mxN]) ?_
  exact lp 0 (Nat.zero_le _)
set_option maxHeartbeats 4000000 in
theorem sp_X6_goingOn {x : Cx} {Q : Qt} {I : Iv} {L : Lv} {P : Pv} {f : Vw} (c : RC 1 f I) (w : Wf f) {k : Nat} (hk : k < f 1) (sm : SM f k I L) {s t : Nat} (hs : s < f 0) (ht : t < f 0) (hQ : Q (some (.long (lN (goW f k s t)))) I L P) : SP x M_X6_goingOn [rfv x 29, .int (nI (s)), .int (nI (t))] I L P Q := by
  have := w.n4
  have := w.n1
  have := w.m6
  have := w.p hk
  
  refine SP.intro [some (rfv x 29), some (.int (nI (s))), some (.int (nI (t))), none, none, none] pn_X6_goingOn (Nat.le_of_ble_eq_true rfl) rfl ?_
  refine v_lconst 1 (lN (0)) rfl dX6_goingOn_0 rfl ?_
  refine v_lstore_n 2 [some (rfv x 29), some (.int (nI (s))), some (.int (nI (t))), some (.long (lN (0))), none, none] dX6_goingOn_1 rfl (by decide) rfl ?_
  refine v_iconst 3 (nI (0)) (by decide) dX6_goingOn_2 rfl ?_
  refine v_istore 5 [some (rfv x 29), some (.int (nI (s))), some (.int (nI (t))), some (.long (lN (0))), none, some (.int (nI (0)))] dX6_goingOn_3 rfl (by decide) rfl ?_
  have lp : ∀ i, i ≤ (nP f k - 1) → V x M_X6_goingOn Q 5 [some (rfv x 29), some (.int (nI (s))), some (.int (nI (t))), some (.long (lN (smN i (fun p => upW f k p s * stW f k p s t * bhW f k (p + 1) t)))), none, some (.int (nI (i)))] [] I L P := by
    refine lpU ?_ ?_
    · skip
      refine v_iload 7 rfl dX6_goingOn_5 rfl ?_
      refine v_aload_n 8 rfl dX6_goingOn_7 rfl ?_
      refine v_get 11 (k := 2) 6 (.int (nI (nP f k))) (by decide) rfl (by decide) (by decide) dX6_goingOn_8 rfl fl_X6_32 (congrArg Value.int sm.2.1) ?_
      refine v_iconst 12 (nI (1)) (by decide) dX6_goingOn_11 rfl ?_
      refine v_isub 13 (nI ((nP f k) - 1)) dX6_goingOn_12 rfl (pk_sub (by omega)) ?_
      refine v_icmpN_ge 45 16 dX6_goingOn_13 (by decide) rfl (by omega) (by omega) (fun h13 => ?_) (fun h13 => ?_)
      · skip
        refine v_lload_n 46 rfl dX6_goingOn_45 rfl ?_
        refine v_lret rfl dX6_goingOn_46 ?_
        exact hQ
      · skip
        exact absurd h13 (by omega)
    · intro i hi ih 
      refine v_iload 7 rfl dX6_goingOn_5 rfl ?_
      refine v_aload_n 8 rfl dX6_goingOn_7 rfl ?_
      refine v_get 11 (k := 2) 6 (.int (nI (nP f k))) (by decide) rfl (by decide) (by decide) dX6_goingOn_8 rfl fl_X6_32 (congrArg Value.int sm.2.1) ?_
      refine v_iconst 12 (nI (1)) (by decide) dX6_goingOn_11 rfl ?_
      refine v_isub 13 (nI ((nP f k) - 1)) dX6_goingOn_12 rfl (pk_sub (by omega)) ?_
      refine v_icmpN_ge 45 16 dX6_goingOn_13 (by decide) rfl (by omega) (by omega) (fun h13 => ?_) (fun h13 => ?_)
      · skip
        exact absurd h13 (by omega)
      · skip
        refine v_lload_n 17 rfl dX6_goingOn_16 rfl ?_
        refine v_aload_n 18 rfl dX6_goingOn_17 rfl ?_
        refine v_get 21 (k := 3) 6 (rfv x 30) (by decide) rfl (by decide) (by decide) dX6_goingOn_18 rfl fl_X6_15 rfl ?_
        refine v_iload 23 rfl dX6_goingOn_21 rfl ?_
        refine v_iconst 24 (nI (4)) (by decide) dX6_goingOn_23 rfl ?_
        refine v_imul 25 (nI (i * 4)) dX6_goingOn_24 rfl (pk_mul _ _) ?_
        refine v_iload_n 26 rfl dX6_goingOn_25 rfl ?_
        refine v_iadd 27 (nI ((i * 4) + s)) dX6_goingOn_26 rfl (nI_add _ _) ?_
        refine v_lald 28 (k := (i * 4) + s) (lN (upW f k i s)) (by decide) rfl (by decide) dX6_goingOn_27 rfl rfl (by omega) (sm.2.2.1 i s (by omega) hs) ?_
        refine v_aload_n 29 rfl dX6_goingOn_28 rfl ?_
        refine v_iload 31 rfl dX6_goingOn_29 rfl ?_
        refine v_iload_n 32 rfl dX6_goingOn_31 rfl ?_
        refine v_iload_n 33 rfl dX6_goingOn_32 rfl ?_
        refine v_invV 36 M_X6_stepBehind [.int (nI (i)), .int (nI (s)), .int (nI (t))] (by decide) rfl (by decide) rfl dX6_goingOn_33 rfl ml_X6_64 im_X6_stepBehind se_X6_stepBehind mc_X6_stepBehind (by decide) (Nat.le_of_ble_eq_true rfl) (sp_X6_stepBehind c w hk sm.1 hs ht (by omega) (sm.2.2.2.1 (i + 1) t (by omega) ht) ?_)
        refine v_lmul 37 (lN ((upW f k i s) * (stW f k i s t * bhW f k (i + 1) t))) dX6_goingOn_36 rfl (lN_mul _ _) ?_
        refine v_ladd 38 (lN ((smN i (fun p => upW f k p s * stW f k p s t * bhW f k (p + 1) t)) + ((upW f k i s) * (stW f k i s t * bhW f k (i + 1) t)))) dX6_goingOn_37 rfl (lN_add _ _) ?_
        refine v_lstore_n 39 [some (rfv x 29), some (.int (nI (s))), some (.int (nI (t))), some (.long (lN ((smN i (fun p => upW f k p s * stW f k p s t * bhW f k (p + 1) t)) + ((upW f k i s) * (stW f k i s t * bhW f k (i + 1) t))))), none, some (.int (nI (i)))] dX6_goingOn_38 rfl (by decide) rfl ?_
        refine v_iinc 42 [some (rfv x 29), some (.int (nI (s))), some (.int (nI (t))), some (.long (lN ((smN i (fun p => upW f k p s * stW f k p s t * bhW f k (p + 1) t)) + ((upW f k i s) * (stW f k i s t * bhW f k (i + 1) t))))), none, some (.int (nI (i + 1)))] (nI (i + 1)) dX6_goingOn_39 rfl (by decide) rfl (nI_inc _) rfl ?_
        refine v_goto 5 dX6_goingOn_42 (by decide) ?_
        refine v_drop [some (rfv x 29), some (.int (nI (s))), some (.int (nI (t))), some (.long (lN (smN (i + 1) (fun p => upW f k p s * stW f k p s t * bhW f k (p + 1) t)))), none, some (.int (nI (i + 1)))] (by simp [lsub, smN_s, Nat.mul_assoc, *]) ?_
        exact ih
  refine v_drop [some (rfv x 29), some (.int (nI (s))), some (.int (nI (t))), some (.long (lN (smN 0 (fun p => upW f k p s * stW f k p s t * bhW f k (p + 1) t)))), none, some (.int (nI (0)))] (by simp [lsub, smN, amN, dbW, mxN]) ?_
  exact lp 0 (Nat.zero_le _)
set_option maxHeartbeats 4000000 in
theorem sp_X6_behindLast {x : Cx} {Q : Qt} {I : Iv} {L : Lv} {P : Pv} {f : Vw} (c : RC 1 f I) (w : Wf f) {k : Nat} (hk : k < f 1) (sm : SM f k I L) {g : Nat} (hg : g < 3) (hQ : Q (some (.long (lN (nxW f k g)))) I L P) : SP x M_X6_behindLast [rfv x 29, .int (nI (g))] I L P Q := by
  have := w.n4
  have := w.n1
  have := w.m6
  have := w.p hk
  
  refine SP.intro [some (rfv x 29), some (.int (nI (g))), none, none, none, none, none, none] pn_X6_behindLast (Nat.le_of_ble_eq_true rfl) rfl ?_
  refine v_lconst 1 (lN (0)) rfl dX6_behindLast_0 rfl ?_
  refine v_lstore_n 2 [some (rfv x 29), some (.int (nI (g))), some (.long (lN (0))), none, none, none, none, none] dX6_behindLast_1 rfl (by decide) rfl ?_
  refine v_iconst 3 (nI (0)) (by decide) dX6_behindLast_2 rfl ?_
  refine v_istore 5 [some (rfv x 29), some (.int (nI (g))), some (.long (lN (0))), none, some (.int (nI (0))), none, none, none] dX6_behindLast_3 rfl (by decide) rfl ?_
  have lp : ∀ i, i ≤ f 0 → V x M_X6_behindLast Q 5 [some (rfv x 29), some (.int (nI (g))), some (.long (lN (smN i (fun s => upW f k (nP f k - 1) s * bhW f k (nP f k - 1) s * smN (f 0) (fun t => gW f s t * sW f t g))))), none, some (.int (nI (i))), none, none, none] [] I L P := by
    refine lpU ?_ ?_
    · skip
      refine v_iload 7 rfl dX6_behindLast_5 rfl ?_
      refine v_aload_n 8 rfl dX6_behindLast_7 rfl ?_
      refine v_get 11 (k := 0) 6 (rfv x 1) (by decide) rfl (by decide) (by decide) dX6_behindLast_8 rfl fl_X6_9 rfl ?_
      refine v_getN 14 (k := 1) 3 (.int (nI (f 0))) (by decide) rfl (by decide) (by decide) dX6_behindLast_11 rfl fl_X6_35 (congrArg Value.int c.st) ?_
      refine v_icmpN_ge 93 17 dX6_behindLast_14 (by decide) rfl (by omega) (by omega) (fun h14 => ?_) (fun h14 => ?_)
      · skip
        refine v_lload_n 94 rfl dX6_behindLast_93 rfl ?_
        refine v_lret rfl dX6_behindLast_94 ?_
        exact qL hQ nxC_eq
      · skip
        exact absurd h14 (by omega)
    · intro i hi ih 
      refine v_iload 7 rfl dX6_behindLast_5 rfl ?_
      refine v_aload_n 8 rfl dX6_behindLast_7 rfl ?_
      refine v_get 11 (k := 0) 6 (rfv x 1) (by decide) rfl (by decide) (by decide) dX6_behindLast_8 rfl fl_X6_9 rfl ?_
      refine v_getN 14 (k := 1) 3 (.int (nI (f 0))) (by decide) rfl (by decide) (by decide) dX6_behindLast_11 rfl fl_X6_35 (congrArg Value.int c.st) ?_
      refine v_icmpN_ge 93 17 dX6_behindLast_14 (by decide) rfl (by omega) (by omega) (fun h14 => ?_) (fun h14 => ?_)
      · skip
        exact absurd h14 (by omega)
      · skip
        refine v_lconst 18 (lN (0)) rfl dX6_behindLast_17 rfl ?_
        refine v_lstore 20 [some (rfv x 29), some (.int (nI (g))), some (.long (lN (smN i (fun s => upW f k (nP f k - 1) s * bhW f k (nP f k - 1) s * smN (f 0) (fun t => gW f s t * sW f t g))))), none, some (.int (nI (i))), some (.long (lN (0))), none, none] dX6_behindLast_18 rfl (by decide) rfl ?_
        refine v_iconst 21 (nI (0)) (by decide) dX6_behindLast_20 rfl ?_
        refine v_istore 23 [some (rfv x 29), some (.int (nI (g))), some (.long (lN (smN i (fun s => upW f k (nP f k - 1) s * bhW f k (nP f k - 1) s * smN (f 0) (fun t => gW f s t * sW f t g))))), none, some (.int (nI (i))), some (.long (lN (0))), none, some (.int (nI (0)))] dX6_behindLast_21 rfl (by decide) rfl ?_
        have lq : ∀ j, j ≤ f 0 → V x M_X6_behindLast Q 23 [some (rfv x 29), some (.int (nI (g))), some (.long (lN (smN i (fun s => upW f k (nP f k - 1) s * bhW f k (nP f k - 1) s * smN (f 0) (fun t => gW f s t * sW f t g))))), none, some (.int (nI (i))), some (.long (lN (smN j (fun t => gW f i t * sW f t g)))), none, some (.int (nI (j)))] [] I L P := by
          refine lpU ?_ ?_
          · skip
            refine v_iload 25 rfl dX6_behindLast_23 rfl ?_
            refine v_aload_n 26 rfl dX6_behindLast_25 rfl ?_
            refine v_get 29 (k := 0) 6 (rfv x 1) (by decide) rfl (by decide) (by decide) dX6_behindLast_26 rfl fl_X6_9 rfl ?_
            refine v_getN 32 (k := 1) 3 (.int (nI (f 0))) (by decide) rfl (by decide) (by decide) dX6_behindLast_29 rfl fl_X6_35 (congrArg Value.int c.st) ?_
            refine v_icmpN_ge 69 35 dX6_behindLast_32 (by decide) rfl (by omega) (by omega) (fun h32 => ?_) (fun h32 => ?_)
            · skip
              refine v_lload_n 70 rfl dX6_behindLast_69 rfl ?_
              refine v_aload_n 71 rfl dX6_behindLast_70 rfl ?_
              refine v_aload_n 72 rfl dX6_behindLast_71 rfl ?_
              refine v_get 75 (k := 2) 6 (.int (nI (nP f k))) (by decide) rfl (by decide) (by decide) dX6_behindLast_72 rfl fl_X6_32 (congrArg Value.int sm.2.1) ?_
              refine v_iconst 76 (nI (1)) (by decide) dX6_behindLast_75 rfl ?_
              refine v_isub 77 (nI ((nP f k) - 1)) dX6_behindLast_76 rfl (pk_sub (by omega)) ?_
              refine v_iload 79 rfl dX6_behindLast_77 rfl ?_
              refine v_invV 82 M_X6_at [.int (nI ((nP f k) - 1)), .int (nI (i))] (by decide) rfl (by decide) rfl dX6_behindLast_79 rfl ml_X6_49 im_X6_at se_X6_at mc_X6_at (by decide) (Nat.le_of_ble_eq_true rfl) (sp_X6_wt w hk sm (by omega) (by omega) ?_)
              refine v_lload 84 rfl dX6_behindLast_82 rfl ?_
              refine v_lmul 85 (lN ((wtW f k ((nP f k) - 1) i) * (smN (f 0) (fun t => gW f i t * sW f t g)))) dX6_behindLast_84 rfl (lN_mul _ _) ?_
              refine v_ladd 86 (lN ((smN i (fun s => upW f k (nP f k - 1) s * bhW f k (nP f k - 1) s * smN (f 0) (fun t => gW f s t * sW f t g))) + ((wtW f k ((nP f k) - 1) i) * (smN (f 0) (fun t => gW f i t * sW f t g))))) dX6_behindLast_85 rfl (lN_add _ _) ?_
              refine v_lstore_n 87 [some (rfv x 29), some (.int (nI (g))), some (.long (lN ((smN i (fun s => upW f k (nP f k - 1) s * bhW f k (nP f k - 1) s * smN (f 0) (fun t => gW f s t * sW f t g))) + ((wtW f k ((nP f k) - 1) i) * (smN (f 0) (fun t => gW f i t * sW f t g)))))), none, some (.int (nI (i))), some (.long (lN (smN (f 0) (fun t => gW f i t * sW f t g)))), none, some (.int (nI (f 0)))] dX6_behindLast_86 rfl (by decide) rfl ?_
              refine v_iinc 90 [some (rfv x 29), some (.int (nI (g))), some (.long (lN ((smN i (fun s => upW f k (nP f k - 1) s * bhW f k (nP f k - 1) s * smN (f 0) (fun t => gW f s t * sW f t g))) + ((wtW f k ((nP f k) - 1) i) * (smN (f 0) (fun t => gW f i t * sW f t g)))))), none, some (.int (nI (i + 1))), some (.long (lN (smN (f 0) (fun t => gW f i t * sW f t g)))), none, some (.int (nI (f 0)))] (nI (i + 1)) dX6_behindLast_87 rfl (by decide) rfl (nI_inc _) rfl ?_
              refine v_goto 5 dX6_behindLast_90 (by decide) ?_
              refine v_drop [some (rfv x 29), some (.int (nI (g))), some (.long (lN (smN (i + 1) (fun s => upW f k (nP f k - 1) s * bhW f k (nP f k - 1) s * smN (f 0) (fun t => gW f s t * sW f t g))))), none, some (.int (nI (i + 1))), none, none, none] (by simp [lsub, smN_s, wtW]) ?_
              exact ih
            · skip
              exact absurd h32 (by omega)
          · intro j hj ih2 
            refine v_iload 25 rfl dX6_behindLast_23 rfl ?_
            refine v_aload_n 26 rfl dX6_behindLast_25 rfl ?_
            refine v_get 29 (k := 0) 6 (rfv x 1) (by decide) rfl (by decide) (by decide) dX6_behindLast_26 rfl fl_X6_9 rfl ?_
            refine v_getN 32 (k := 1) 3 (.int (nI (f 0))) (by decide) rfl (by decide) (by decide) dX6_behindLast_29 rfl fl_X6_35 (congrArg Value.int c.st) ?_
            refine v_icmpN_ge 69 35 dX6_behindLast_32 (by decide) rfl (by omega) (by omega) (fun h32 => ?_) (fun h32 => ?_)
            · skip
              exact absurd h32 (by omega)
            · skip
              refine v_lload 37 rfl dX6_behindLast_35 rfl ?_
              refine v_aload_n 38 rfl dX6_behindLast_37 rfl ?_
              refine v_get 41 (k := 0) 6 (rfv x 1) (by decide) rfl (by decide) (by decide) dX6_behindLast_38 rfl fl_X6_9 rfl ?_
              refine v_iload 43 rfl dX6_behindLast_41 rfl ?_
              refine v_iload 45 rfl dX6_behindLast_43 rfl ?_
              refine v_invV 48 M_X3_go [.int (nI (i)), .int (nI (j))] (by decide) rfl (by decide) rfl dX6_behindLast_45 rfl ml_X6_56 im_X3_go se_X3_go mc_X3_go (by decide) (Nat.le_of_ble_eq_true rfl) (sp_X3_go c w (by omega) (by omega) ?_)
              refine v_aload_n 49 rfl dX6_behindLast_48 rfl ?_
              refine v_get 52 (k := 0) 6 (rfv x 1) (by decide) rfl (by decide) (by decide) dX6_behindLast_49 rfl fl_X6_9 rfl ?_
              refine v_iload 54 rfl dX6_behindLast_52 rfl ?_
              refine v_iload_n 55 rfl dX6_behindLast_54 rfl ?_
              refine v_invV 58 M_X3_show [.int (nI (j)), .int (nI (g))] (by decide) rfl (by decide) rfl dX6_behindLast_55 rfl ml_X6_71 im_X3_show se_X3_show mc_X3_show (by decide) (Nat.le_of_ble_eq_true rfl) (sp_X3_show c w (by omega) (by omega) ?_)
              refine v_imul 59 (nI ((gW f i j) * (sW f j g))) dX6_behindLast_58 rfl (pk_mul _ _) ?_
              refine v_i2l 60 (lN (gW f i j * sW f j g)) dX6_behindLast_59 rfl (nI_l (Nat.lt_of_le_of_lt (Nat.mul_le_mul (w.g hi hj) (w.w hj hg)) (by decide))) ?_
              refine v_ladd 61 (lN ((smN j (fun t => gW f i t * sW f t g)) + (gW f i j * sW f j g))) dX6_behindLast_60 rfl (lN_add _ _) ?_
              refine v_lstore 63 [some (rfv x 29), some (.int (nI (g))), some (.long (lN (smN i (fun s => upW f k (nP f k - 1) s * bhW f k (nP f k - 1) s * smN (f 0) (fun t => gW f s t * sW f t g))))), none, some (.int (nI (i))), some (.long (lN ((smN j (fun t => gW f i t * sW f t g)) + (gW f i j * sW f j g)))), none, some (.int (nI (j)))] dX6_behindLast_61 rfl (by decide) rfl ?_
              refine v_iinc 66 [some (rfv x 29), some (.int (nI (g))), some (.long (lN (smN i (fun s => upW f k (nP f k - 1) s * bhW f k (nP f k - 1) s * smN (f 0) (fun t => gW f s t * sW f t g))))), none, some (.int (nI (i))), some (.long (lN ((smN j (fun t => gW f i t * sW f t g)) + (gW f i j * sW f j g)))), none, some (.int (nI (j + 1)))] (nI (j + 1)) dX6_behindLast_63 rfl (by decide) rfl (nI_inc _) rfl ?_
              refine v_goto 23 dX6_behindLast_66 (by decide) ?_
              refine v_drop [some (rfv x 29), some (.int (nI (g))), some (.long (lN (smN i (fun s => upW f k (nP f k - 1) s * bhW f k (nP f k - 1) s * smN (f 0) (fun t => gW f s t * sW f t g))))), none, some (.int (nI (i))), some (.long (lN (smN (j + 1) (fun t => gW f i t * sW f t g)))), none, some (.int (nI (j + 1)))] (by simp [lsub, smN_s, Nat.mul_assoc, *]) ?_
              exact ih2
        refine v_drop [some (rfv x 29), some (.int (nI (g))), some (.long (lN (smN i (fun s => upW f k (nP f k - 1) s * bhW f k (nP f k - 1) s * smN (f 0) (fun t => gW f s t * sW f t g))))), none, some (.int (nI (i))), some (.long (lN (smN 0 (fun t => gW f i t * sW f t g)))), none, some (.int (nI (0)))] (by simp [lsub, smN, amN, dbW, mxN]) ?_
        exact lq 0 (Nat.zero_le _)
  refine v_drop [some (rfv x 29), some (.int (nI (g))), some (.long (lN (smN 0 (fun s => upW f k (nP f k - 1) s * bhW f k (nP f k - 1) s * smN (f 0) (fun t => gW f s t * sW f t g))))), none, some (.int (nI (0))), none, none, none] (by simp [lsub, smN, amN, dbW, mxN]) ?_
  exact lp 0 (Nat.zero_le _)
set_option maxHeartbeats 4000000 in
theorem sp_X6_likeliestAt {x : Cx} {Q : Qt} {I : Iv} {L : Lv} {P : Pv} {f : Vw} (c : RC 1 f I) (w : Wf f) {k : Nat} (hk : k < f 1) (sm : SM f k I L) {p : Nat} (hp : p < nP f k) (hQ : Q (some (.int (nI (lkW f k p)))) I L P) : SP x M_X6_likeliestAt [rfv x 29, .int (nI (p))] I L P Q := by
  have := w.n4
  have := w.n1
  have := w.m6
  have := w.p hk
  have hB : ∀ s, s < f 0 → wtW f k p s < 2 ^ 63 := fun s hs => Nat.lt_of_le_of_lt (wtW_le w hk hp hs) (by decide)
  refine SP.intro [some (rfv x 29), some (.int (nI (p))), none, none] pn_X6_likeliestAt (Nat.le_of_ble_eq_true rfl) rfl ?_
  refine v_iconst 1 (nI (0)) (by decide) dX6_likeliestAt_0 rfl ?_
  refine v_istore_n 2 [some (rfv x 29), some (.int (nI (p))), some (.int (nI (0))), none] dX6_likeliestAt_1 rfl (by decide) rfl ?_
  refine v_iconst 3 (nI (1)) (by decide) dX6_likeliestAt_2 rfl ?_
  refine v_istore_n 4 [some (rfv x 29), some (.int (nI (p))), some (.int (nI (0))), some (.int (nI (1)))] dX6_likeliestAt_3 rfl (by decide) rfl ?_
  have lp : ∀ i, i ≤ (f 0 - 1) → V x M_X6_likeliestAt Q 4 [some (rfv x 29), some (.int (nI (p))), some (.int (nI (amN (wtW f k p) i))), some (.int (nI (i + 1)))] [] I L P := by
    refine lpU ?_ ?_
    · skip
      refine v_iload_n 5 rfl dX6_likeliestAt_4 rfl ?_
      refine v_aload_n 6 rfl dX6_likeliestAt_5 rfl ?_
      refine v_get 9 (k := 0) 6 (rfv x 1) (by decide) rfl (by decide) (by decide) dX6_likeliestAt_6 rfl fl_X6_9 rfl ?_
      refine v_getN 12 (k := 1) 3 (.int (nI (f 0))) (by decide) rfl (by decide) (by decide) dX6_likeliestAt_9 rfl fl_X6_35 (congrArg Value.int c.st) ?_
      refine v_icmpN_ge 39 15 dX6_likeliestAt_12 (by decide) rfl (by omega) (by omega) (fun h12 => ?_) (fun h12 => ?_)
      · skip
        refine v_iload_n 40 rfl dX6_likeliestAt_39 rfl ?_
        refine v_iret rfl dX6_likeliestAt_40 ?_
        exact hQ
      · skip
        exact absurd h12 (by omega)
    · intro i hi ih 
      have := amN_le (wtW f k p) i
      have e2 := (pk_lLT (hB (amN (wtW f k p) i) (by omega)) (hB (i + 1) (by omega)))
      refine v_iload_n 5 rfl dX6_likeliestAt_4 rfl ?_
      refine v_aload_n 6 rfl dX6_likeliestAt_5 rfl ?_
      refine v_get 9 (k := 0) 6 (rfv x 1) (by decide) rfl (by decide) (by decide) dX6_likeliestAt_6 rfl fl_X6_9 rfl ?_
      refine v_getN 12 (k := 1) 3 (.int (nI (f 0))) (by decide) rfl (by decide) (by decide) dX6_likeliestAt_9 rfl fl_X6_35 (congrArg Value.int c.st) ?_
      refine v_icmpN_ge 39 15 dX6_likeliestAt_12 (by decide) rfl (by omega) (by omega) (fun h12 => ?_) (fun h12 => ?_)
      · skip
        exact absurd h12 (by omega)
      · skip
        refine v_aload_n 16 rfl dX6_likeliestAt_15 rfl ?_
        refine v_iload_n 17 rfl dX6_likeliestAt_16 rfl ?_
        refine v_iload_n 18 rfl dX6_likeliestAt_17 rfl ?_
        refine v_invV 21 M_X6_at [.int (nI (p)), .int (nI (i + 1))] (by decide) rfl (by decide) rfl dX6_likeliestAt_18 rfl ml_X6_49 im_X6_at se_X6_at mc_X6_at (by decide) (Nat.le_of_ble_eq_true rfl) (sp_X6_wt w hk sm (by omega) (by omega) ?_)
        refine v_aload_n 22 rfl dX6_likeliestAt_21 rfl ?_
        refine v_iload_n 23 rfl dX6_likeliestAt_22 rfl ?_
        refine v_iload_n 24 rfl dX6_likeliestAt_23 rfl ?_
        refine v_invV 27 M_X6_at [.int (nI (p)), .int (nI (amN (wtW f k p) i))] (by decide) rfl (by decide) rfl dX6_likeliestAt_24 rfl ml_X6_49 im_X6_at se_X6_at mc_X6_at (by decide) (Nat.le_of_ble_eq_true rfl) (sp_X6_wt w hk sm (by omega) (by omega) ?_)
        refine v_lcmp_le 28 33 31 dX6_likeliestAt_27 rfl dX6_likeliestAt_28 (by decide) rfl (fun h27 => ?_) (fun h27 => ?_)
        · skip
          refine v_iinc 36 [some (rfv x 29), some (.int (nI (p))), some (.int (nI (amN (wtW f k p) i))), some (.int (nI ((i + 1) + 1)))] (nI ((i + 1) + 1)) dX6_likeliestAt_33 rfl (by decide) rfl (nI_inc _) rfl ?_
          refine v_goto 4 dX6_likeliestAt_36 (by decide) ?_
          refine v_drop [some (rfv x 29), some (.int (nI (p))), some (.int (nI (amN (wtW f k p) (i + 1)))), some (.int (nI ((i + 1) + 1)))] (by rw [e2] at h27; simp [lsub, amN_s, h27]) ?_
          exact ih
        · skip
          refine v_iload_n 32 rfl dX6_likeliestAt_31 rfl ?_
          refine v_istore_n 33 [some (rfv x 29), some (.int (nI (p))), some (.int (nI (i + 1))), some (.int (nI (i + 1)))] dX6_likeliestAt_32 rfl (by decide) rfl ?_
          refine v_iinc 36 [some (rfv x 29), some (.int (nI (p))), some (.int (nI (i + 1))), some (.int (nI ((i + 1) + 1)))] (nI ((i + 1) + 1)) dX6_likeliestAt_33 rfl (by decide) rfl (nI_inc _) rfl ?_
          refine v_goto 4 dX6_likeliestAt_36 (by decide) ?_
          refine v_drop [some (rfv x 29), some (.int (nI (p))), some (.int (nI (amN (wtW f k p) (i + 1)))), some (.int (nI ((i + 1) + 1)))] (by rw [e2] at h27; simp [lsub, amN_s, h27]) ?_
          exact ih
  refine v_drop [some (rfv x 29), some (.int (nI (p))), some (.int (nI (amN (wtW f k p) 0))), some (.int (nI (0 + 1)))] (by simp [lsub, smN, amN, dbW, mxN]) ?_
  exact lp 0 (Nat.zero_le _)
set_option maxHeartbeats 4000000 in
theorem sp_X6_doubtfulPlaces {x : Cx} {Q : Qt} {I : Iv} {L : Lv} {P : Pv} {f : Vw} (c : RC 1 f I) (w : Wf f) {k : Nat} (hk : k < f 1) (sm : SM f k I L) (hQ : Q (some (.int (nI (if 0 < totW f k then dbW f k (nP f k) else 0)))) I L P) : SP x M_X6_doubtfulPlaces [rfv x 29] I L P Q := by
  have := w.n4
  have := w.n1
  have := w.m6
  have := w.p hk
  have hT := totW_le w hk
  refine SP.intro [some (rfv x 29), none, none] pn_X6_doubtfulPlaces (Nat.le_of_ble_eq_true rfl) rfl ?_
  refine v_iconst 1 (nI (0)) (by decide) dX6_doubtfulPlaces_0 rfl ?_
  refine v_istore_n 2 [some (rfv x 29), some (.int (nI (0))), none] dX6_doubtfulPlaces_1 rfl (by decide) rfl ?_
  refine v_aload_n 3 rfl dX6_doubtfulPlaces_2 rfl ?_
  refine v_get 6 (k := 5) 6 (.long (lN (totW f k))) (by decide) rfl (by decide) (by decide) dX6_doubtfulPlaces_3 rfl fl_X6_45 (congrArg Value.long sm.2.2.2.2) ?_
  refine v_lconst 7 (lN (0)) rfl dX6_doubtfulPlaces_6 rfl ?_
  refine v_lcmp_le 8 60 11 dX6_doubtfulPlaces_7 rfl dX6_doubtfulPlaces_8 (by decide) rfl (fun h7 => ?_) (fun h7 => ?_)
  · skip
    have h0 : ¬ 0 < totW f k := fun q => h7 ((pk_lLT (by omega) (by omega)).mpr q)
    refine v_iload_n 61 rfl dX6_doubtfulPlaces_60 rfl ?_
    refine v_iret rfl dX6_doubtfulPlaces_61 ?_
    exact qI hQ (if_neg h0).symm
  · skip
    have h0 : 0 < totW f k := (pk_lLT (by omega) (by omega)).mp h7
    refine v_iconst 12 (nI (0)) (by decide) dX6_doubtfulPlaces_11 rfl ?_
    refine v_istore_n 13 [some (rfv x 29), some (.int (nI (0))), some (.int (nI (0)))] dX6_doubtfulPlaces_12 rfl (by decide) rfl ?_
    have lp : ∀ i, i ≤ nP f k → V x M_X6_doubtfulPlaces Q 13 [some (rfv x 29), some (.int (nI (dbW f k i))), some (.int (nI (i)))] [] I L P := by
      refine lpU ?_ ?_
      · skip
        refine v_iload_n 14 rfl dX6_doubtfulPlaces_13 rfl ?_
        refine v_aload_n 15 rfl dX6_doubtfulPlaces_14 rfl ?_
        refine v_get 18 (k := 2) 6 (.int (nI (nP f k))) (by decide) rfl (by decide) (by decide) dX6_doubtfulPlaces_15 rfl fl_X6_32 (congrArg Value.int sm.2.1) ?_
        refine v_icmpN_ge 60 21 dX6_doubtfulPlaces_18 (by decide) rfl (by omega) (by omega) (fun h18 => ?_) (fun h18 => ?_)
        · skip
          refine v_iload_n 61 rfl dX6_doubtfulPlaces_60 rfl ?_
          refine v_iret rfl dX6_doubtfulPlaces_61 ?_
          exact qI hQ (if_pos h0).symm
        · skip
          exact absurd h18 (by omega)
      · intro i hi ih 
        have hl := lkW_lt (k := k) (p := i) w
        have hw := wtW_le w hk hi hl
        have hSh : shN (wtW f k i (lkW f k i)) (totW f k) < 2147483648 := shN_small w hk hi hl
        refine v_iload_n 14 rfl dX6_doubtfulPlaces_13 rfl ?_
        refine v_aload_n 15 rfl dX6_doubtfulPlaces_14 rfl ?_
        refine v_get 18 (k := 2) 6 (.int (nI (nP f k))) (by decide) rfl (by decide) (by decide) dX6_doubtfulPlaces_15 rfl fl_X6_32 (congrArg Value.int sm.2.1) ?_
        refine v_icmpN_ge 60 21 dX6_doubtfulPlaces_18 (by decide) rfl (by omega) (by omega) (fun h18 => ?_) (fun h18 => ?_)
        · skip
          exact absurd h18 (by omega)
        · skip
          refine v_aload_n 22 rfl dX6_doubtfulPlaces_21 rfl ?_
          refine v_iload_n 23 rfl dX6_doubtfulPlaces_22 rfl ?_
          refine v_aload_n 24 rfl dX6_doubtfulPlaces_23 rfl ?_
          refine v_iload_n 25 rfl dX6_doubtfulPlaces_24 rfl ?_
          refine v_invV 28 M_X6_likeliestAt [.int (nI (i))] (by decide) rfl (by decide) rfl dX6_doubtfulPlaces_25 rfl ml_X6_74 im_X6_likeliestAt se_X6_likeliestAt mc_X6_likeliestAt (by decide) (Nat.le_of_ble_eq_true rfl) (sp_X6_likeliestAt c w hk sm (by omega) ?_)
          refine v_invV 31 M_X6_at [.int (nI (i)), .int (nI (lkW f k i))] (by decide) rfl (by decide) rfl dX6_doubtfulPlaces_28 rfl ml_X6_49 im_X6_at se_X6_at mc_X6_at (by decide) (Nat.le_of_ble_eq_true rfl) (sp_X6_wt w hk sm (by omega) (by omega) ?_)
          refine v_aload_n 32 rfl dX6_doubtfulPlaces_31 rfl ?_
          refine v_get 35 (k := 5) 6 (.long (lN (totW f k))) (by decide) rfl (by decide) (by decide) dX6_doubtfulPlaces_32 rfl fl_X6_45 (congrArg Value.long sm.2.2.2.2) ?_
          refine v_invN 38 M_X7_shareOf [.long (lN (wtW f k i (lkW f k i))), .long (lN (totW f k))] dX6_doubtfulPlaces_35 rfl ml_X6_77 sm_X7_shareOf mc_X7_shareOf (by decide) (Nat.le_of_ble_eq_true rfl) (sp_X7_shareOf (by omega) (by omega) (by omega) ?_)
          refine v_aload_n 39 rfl dX6_doubtfulPlaces_38 rfl ?_
          refine v_get 42 (k := 0) 6 (rfv x 1) (by decide) rfl (by decide) (by decide) dX6_doubtfulPlaces_39 rfl fl_X6_9 rfl ?_
          refine v_getN 45 (k := 2) 3 (.int (nI (f 2))) (by decide) rfl (by decide) (by decide) dX6_doubtfulPlaces_42 rfl fl_X6_81 (congrArg Value.int c.bd) ?_
          refine v_icmpN_ge 54 48 dX6_doubtfulPlaces_45 (by decide) rfl hSh (by have := w.2.2.1; omega) (fun h45 => ?_) (fun h45 => ?_)
          · skip
            refine v_iinc 57 [some (rfv x 29), some (.int (nI (dbW f k i))), some (.int (nI (i + 1)))] (nI (i + 1)) dX6_doubtfulPlaces_54 rfl (by decide) rfl (nI_inc _) rfl ?_
            refine v_goto 13 dX6_doubtfulPlaces_57 (by decide) ?_
            refine v_drop [some (rfv x 29), some (.int (nI (dbW f k (i + 1)))), some (.int (nI (i + 1)))] (by first | (simp [lsub, dbW, smN_s, if_pos h45]; done) | (simp [lsub, dbW, smN_s, if_neg (Nat.not_lt.mpr h45)]; done)) ?_
            exact ih
          · skip
            refine v_iload_n 49 rfl dX6_doubtfulPlaces_48 rfl ?_
            refine v_iconst 50 (nI (1)) (by decide) dX6_doubtfulPlaces_49 rfl ?_
            refine v_iload_n 51 rfl dX6_doubtfulPlaces_50 rfl ?_
            refine v_ishl 52 (nI (2 ^ i)) dX6_doubtfulPlaces_51 rfl (bit_shl (by omega)) ?_
            refine v_ior 53 (nI (dbW f k i + 2 ^ i)) dX6_doubtfulPlaces_52 rfl (bit_or (dbW_lt f k i) (by omega)) ?_
            refine v_istore_n 54 [some (rfv x 29), some (.int (nI (dbW f k i + 2 ^ i))), some (.int (nI (i)))] dX6_doubtfulPlaces_53 rfl (by decide) rfl ?_
            refine v_iinc 57 [some (rfv x 29), some (.int (nI (dbW f k i + 2 ^ i))), some (.int (nI (i + 1)))] (nI (i + 1)) dX6_doubtfulPlaces_54 rfl (by decide) rfl (nI_inc _) rfl ?_
            refine v_goto 13 dX6_doubtfulPlaces_57 (by decide) ?_
            refine v_drop [some (rfv x 29), some (.int (nI (dbW f k (i + 1)))), some (.int (nI (i + 1)))] (by first | (simp [lsub, dbW, smN_s, if_pos h45]; done) | (simp [lsub, dbW, smN_s, if_neg (Nat.not_lt.mpr h45)]; done)) ?_
            exact ih
    refine v_drop [some (rfv x 29), some (.int (nI (dbW f k 0))), some (.int (nI (0)))] (by simp [lsub, smN, amN, dbW, mxN]) ?_
    exact lp 0 (Nat.zero_le _)
