set_option maxHeartbeats 4000000 in
theorem sp_X8_laysBehind {x : Cx} {Q : Qt} {I : Iv} {L : Lv} {P : Pv} {f : Vw} (r : RR (I 41) f) (w : Wf f) {k p s : Nat} (hk : k < f 1) (hs : s < f 0) (hp : p + 1 < nP f k) (h47 : ∀ t, t < f 0 → L 47 (4 * p + 4 + t) = lN (bhW f k (p + 1) t)) (h48 : ∀ t, t < f 0 → L 48 (4 * p + 4 + t) = lN (grW f k (p + 1) t)) (h49 : ∀ t, t < f 0 → L 49 (4 * p + 4 + t) = lN (mnW f k (p + 1) t)) (hQ : ∀ L1 : Lv, L1 47 (4 * p + s) = lN (bhW f k p s) → L1 48 (4 * p + s) = lN (grW f k p s) → L1 49 (4 * p + s) = lN (mnW f k p s) → (∀ a j, (a ≠ 47 ∧ a ≠ 48 ∧ a ≠ 49) ∨ j ≠ 4 * p + s → L1 a j = L a j) → Q none I L1 P) : SP x M_X8_laysBehind [rfv x 40, .int (nI (k)), .int (nI (p)), .int (nI (s))] I L P Q := by
  have := w.n4
  have := w.n1
  have := w.m6
  have := w.p hk
  
  refine SP.intro [some (rfv x 40), some (.int (nI (k))), some (.int (nI (p))), some (.int (nI (s))), none, none, none, none, none, none, none, none, none, none, none] pn_X8_laysBehind (Nat.le_of_ble_eq_true rfl) rfl ?_
  refine v_lconst 1 (lN (0)) rfl dX8_laysBehind_0 rfl ?_
  refine v_lstore 3 [some (rfv x 40), some (.int (nI (k))), some (.int (nI (p))), some (.int (nI (s))), some (.long (lN (0))), none, none, none, none, none, none, none, none, none, none] dX8_laysBehind_1 rfl (by decide) rfl ?_
  refine v_lconst 4 (lN (0)) rfl dX8_laysBehind_3 rfl ?_
  refine v_lstore 6 [some (rfv x 40), some (.int (nI (k))), some (.int (nI (p))), some (.int (nI (s))), some (.long (lN (0))), none, some (.long (lN (0))), none, none, none, none, none, none, none, none] dX8_laysBehind_4 rfl (by decide) rfl ?_
  refine v_lconst 7 (lN (0)) rfl dX8_laysBehind_6 rfl ?_
  refine v_lstore 9 [some (rfv x 40), some (.int (nI (k))), some (.int (nI (p))), some (.int (nI (s))), some (.long (lN (0))), none, some (.long (lN (0))), none, some (.long (lN (0))), none, none, none, none, none, none] dX8_laysBehind_7 rfl (by decide) rfl ?_
  refine v_iconst 10 (nI (0)) (by decide) dX8_laysBehind_9 rfl ?_
  refine v_istore 12 [some (rfv x 40), some (.int (nI (k))), some (.int (nI (p))), some (.int (nI (s))), some (.long (lN (0))), none, some (.long (lN (0))), none, some (.long (lN (0))), none, some (.int (nI (0))), none, none, none, none] dX8_laysBehind_10 rfl (by decide) rfl ?_
  have lp : ∀ i, i ≤ f 0 → V x M_X8_laysBehind Q 12 [some (rfv x 40), some (.int (nI (k))), some (.int (nI (p))), some (.int (nI (s))), some (.long (lN (smN i (fun t => stW f k p s t * bhW f k (p + 1) t)))), none, some (.long (lN (mxN i (gnW f k p s)))), none, some (.long (lN (smN i (fun t => if 0 < stW f k p s t then mnW f k (p + 1) t else 0)))), none, some (.int (nI (i))), none, none, none, none] [] I L P := by
    refine lpU ?_ ?_
    · skip
      refine v_iload 14 rfl dX8_laysBehind_12 rfl ?_
      refine v_aload_n 15 rfl dX8_laysBehind_14 rfl ?_
      refine v_get 18 (k := 1) 8 (rfv x 41) (by decide) rfl (by decide) (by decide) dX8_laysBehind_15 rfl fl_X8_7 rfl ?_
      refine v_iconst 19 (nI (0)) (by decide) dX8_laysBehind_18 rfl ?_
      refine v_iald 20 (k := 0) (nI (f 0)) (by decide) rfl (by decide) dX8_laysBehind_19 rfl rfl (by omega) r.st ?_
      refine v_icmpN_ge 125 23 dX8_laysBehind_20 (by decide) rfl (by omega) (by omega) (fun h20 => ?_) (fun h20 => ?_)
      · skip
        refine v_aload_n 126 rfl dX8_laysBehind_125 rfl ?_
        refine v_get 129 (k := 10) 8 (rfv x 47) (by decide) rfl (by decide) (by decide) dX8_laysBehind_126 rfl fl_X8_29 rfl ?_
        refine v_iconst 130 (nI (4)) (by decide) dX8_laysBehind_129 rfl ?_
        refine v_iload_n 131 rfl dX8_laysBehind_130 rfl ?_
        refine v_imul 132 (nI (4 * p)) dX8_laysBehind_131 rfl (pk_mul _ _) ?_
        refine v_iload_n 133 rfl dX8_laysBehind_132 rfl ?_
        refine v_iadd 134 (nI ((4 * p) + s)) dX8_laysBehind_133 rfl (nI_add _ _) ?_
        refine v_lload 136 rfl dX8_laysBehind_134 rfl ?_
        refine v_last 137 (k := (4 * p) + s) (by decide) rfl (by decide) dX8_laysBehind_136 rfl rfl (by omega) (fun L136 e136 => ?_)
        refine v_aload_n 138 rfl dX8_laysBehind_137 rfl ?_
        refine v_get 141 (k := 11) 8 (rfv x 48) (by decide) rfl (by decide) (by decide) dX8_laysBehind_138 rfl fl_X8_32 rfl ?_
        refine v_iconst 142 (nI (4)) (by decide) dX8_laysBehind_141 rfl ?_
        refine v_iload_n 143 rfl dX8_laysBehind_142 rfl ?_
        refine v_imul 144 (nI (4 * p)) dX8_laysBehind_143 rfl (pk_mul _ _) ?_
        refine v_iload_n 145 rfl dX8_laysBehind_144 rfl ?_
        refine v_iadd 146 (nI ((4 * p) + s)) dX8_laysBehind_145 rfl (nI_add _ _) ?_
        refine v_lload 148 rfl dX8_laysBehind_146 rfl ?_
        refine v_last 149 (k := (4 * p) + s) (by decide) rfl (by decide) dX8_laysBehind_148 rfl rfl (by omega) (fun L148 e148 => ?_)
        refine v_aload_n 150 rfl dX8_laysBehind_149 rfl ?_
        refine v_get 153 (k := 12) 8 (rfv x 49) (by decide) rfl (by decide) (by decide) dX8_laysBehind_150 rfl fl_X8_35 rfl ?_
        refine v_iconst 154 (nI (4)) (by decide) dX8_laysBehind_153 rfl ?_
        refine v_iload_n 155 rfl dX8_laysBehind_154 rfl ?_
        refine v_imul 156 (nI (4 * p)) dX8_laysBehind_155 rfl (pk_mul _ _) ?_
        refine v_iload_n 157 rfl dX8_laysBehind_156 rfl ?_
        refine v_iadd 158 (nI ((4 * p) + s)) dX8_laysBehind_157 rfl (nI_add _ _) ?_
        refine v_lload 160 rfl dX8_laysBehind_158 rfl ?_
        refine v_last 161 (k := (4 * p) + s) (by decide) rfl (by decide) dX8_laysBehind_160 rfl rfl (by omega) (fun L160 e160 => ?_)
        refine v_vret rfl dX8_laysBehind_161 ?_
        refine hQ L160 ?_ ?_ ?_ ?_
        · rw [up2_off e160 (by omega), up2_off e148 (by omega), up2_at e136, bhW_s hp]
        · rw [up2_off e160 (by omega), up2_at e148, grW_mx hp]
        · rw [up2_at e160, mnW_s hp]
        · intro a j h
          rw [up2_off e160 (by omega), up2_off e148 (by omega), up2_off e136 (by omega)]
      · skip
        exact absurd h20 (by omega)
    · intro i hi ih 
      have e1 := (pk_lLT (a := mxN i (gnW f k p s)) (b := gnW f k p s i) (Nat.lt_of_le_of_lt (mxN_le (c := 2 ^ 63 - 1) (fun t ht => by have := gnW_le w hk hp hs (t := t) (by omega); omega)) (by decide)) (gnW_le w hk hp hs hi))
      have e2 := (pk_lLT (a := 0) (b := stW f k p s i) (by decide) (by have := stW_le w hk hp hs hi; omega))
      refine v_iload 14 rfl dX8_laysBehind_12 rfl ?_
      refine v_aload_n 15 rfl dX8_laysBehind_14 rfl ?_
      refine v_get 18 (k := 1) 8 (rfv x 41) (by decide) rfl (by decide) (by decide) dX8_laysBehind_15 rfl fl_X8_7 rfl ?_
      refine v_iconst 19 (nI (0)) (by decide) dX8_laysBehind_18 rfl ?_
      refine v_iald 20 (k := 0) (nI (f 0)) (by decide) rfl (by decide) dX8_laysBehind_19 rfl rfl (by omega) r.st ?_
      refine v_icmpN_ge 125 23 dX8_laysBehind_20 (by decide) rfl (by omega) (by omega) (fun h20 => ?_) (fun h20 => ?_)
      · skip
        exact absurd h20 (by omega)
      · skip
        refine v_aload_n 24 rfl dX8_laysBehind_23 rfl ?_
        refine v_iload_n 25 rfl dX8_laysBehind_24 rfl ?_
        refine v_iload_n 26 rfl dX8_laysBehind_25 rfl ?_
        refine v_iload_n 27 rfl dX8_laysBehind_26 rfl ?_
        refine v_iload 29 rfl dX8_laysBehind_27 rfl ?_
        refine v_invV 32 M_X8_step [.int (nI (k)), .int (nI (p)), .int (nI (s)), .int (nI (i))] (by decide) rfl (by decide) rfl dX8_laysBehind_29 rfl ml_X8_83 im_X8_step se_X8_step mc_X8_step (by decide) (Nat.le_of_ble_eq_true rfl) (sp_X8_step r w hk (by omega) (by omega) (by omega) ?_)
        refine v_lstore 34 [some (rfv x 40), some (.int (nI (k))), some (.int (nI (p))), some (.int (nI (s))), some (.long (lN (smN i (fun t => stW f k p s t * bhW f k (p + 1) t)))), none, some (.long (lN (mxN i (gnW f k p s)))), none, some (.long (lN (smN i (fun t => if 0 < stW f k p s t then mnW f k (p + 1) t else 0)))), none, some (.int (nI (i))), some (.long (lN (stW f k p s i))), none, none, none] dX8_laysBehind_32 rfl (by decide) rfl ?_
        refine v_lload 36 rfl dX8_laysBehind_34 rfl ?_
        refine v_aload_n 37 rfl dX8_laysBehind_36 rfl ?_
        refine v_get 40 (k := 11) 8 (rfv x 48) (by decide) rfl (by decide) (by decide) dX8_laysBehind_37 rfl fl_X8_32 rfl ?_
        refine v_iconst 41 (nI (4)) (by decide) dX8_laysBehind_40 rfl ?_
        refine v_iload_n 42 rfl dX8_laysBehind_41 rfl ?_
        refine v_imul 43 (nI (4 * p)) dX8_laysBehind_42 rfl (pk_mul _ _) ?_
        refine v_iconst 44 (nI (4)) (by decide) dX8_laysBehind_43 rfl ?_
        refine v_iadd 45 (nI ((4 * p) + 4)) dX8_laysBehind_44 rfl (nI_add _ _) ?_
        refine v_iload 47 rfl dX8_laysBehind_45 rfl ?_
        refine v_iadd 48 (nI (((4 * p) + 4) + i)) dX8_laysBehind_47 rfl (nI_add _ _) ?_
        refine v_lald 49 (k := ((4 * p) + 4) + i) (lN (grW f k (p + 1) i)) (by decide) rfl (by decide) dX8_laysBehind_48 rfl rfl (by omega) (h48 i hi) ?_
        refine v_lmul 50 (lN (gnW f k p s i)) dX8_laysBehind_49 rfl ((lN_mul _ _).trans (congrArg lN gnW_st.symm)) ?_
        refine v_lstore 52 [some (rfv x 40), some (.int (nI (k))), some (.int (nI (p))), some (.int (nI (s))), some (.long (lN (smN i (fun t => stW f k p s t * bhW f k (p + 1) t)))), none, some (.long (lN (mxN i (gnW f k p s)))), none, some (.long (lN (smN i (fun t => if 0 < stW f k p s t then mnW f k (p + 1) t else 0)))), none, some (.int (nI (i))), some (.long (lN (stW f k p s i))), none, some (.long (lN (gnW f k p s i))), none] dX8_laysBehind_50 rfl (by decide) rfl ?_
        refine v_lload 54 rfl dX8_laysBehind_52 rfl ?_
        refine v_lload 56 rfl dX8_laysBehind_54 rfl ?_
        refine v_aload_n 57 rfl dX8_laysBehind_56 rfl ?_
        refine v_get 60 (k := 10) 8 (rfv x 47) (by decide) rfl (by decide) (by decide) dX8_laysBehind_57 rfl fl_X8_29 rfl ?_
        refine v_iconst 61 (nI (4)) (by decide) dX8_laysBehind_60 rfl ?_
        refine v_iload_n 62 rfl dX8_laysBehind_61 rfl ?_
        refine v_imul 63 (nI (4 * p)) dX8_laysBehind_62 rfl (pk_mul _ _) ?_
        refine v_iconst 64 (nI (4)) (by decide) dX8_laysBehind_63 rfl ?_
        refine v_iadd 65 (nI ((4 * p) + 4)) dX8_laysBehind_64 rfl (nI_add _ _) ?_
        refine v_iload 67 rfl dX8_laysBehind_65 rfl ?_
        refine v_iadd 68 (nI (((4 * p) + 4) + i)) dX8_laysBehind_67 rfl (nI_add _ _) ?_
        refine v_lald 69 (k := ((4 * p) + 4) + i) (lN (bhW f k (p + 1) i)) (by decide) rfl (by decide) dX8_laysBehind_68 rfl rfl (by omega) (h47 i hi) ?_
        refine v_lmul 70 (lN ((stW f k p s i) * (bhW f k (p + 1) i))) dX8_laysBehind_69 rfl (lN_mul _ _) ?_
        refine v_ladd 71 (lN ((smN i (fun t => stW f k p s t * bhW f k (p + 1) t)) + ((stW f k p s i) * (bhW f k (p + 1) i)))) dX8_laysBehind_70 rfl (lN_add _ _) ?_
        refine v_lstore 73 [some (rfv x 40), some (.int (nI (k))), some (.int (nI (p))), some (.int (nI (s))), some (.long (lN ((smN i (fun t => stW f k p s t * bhW f k (p + 1) t)) + ((stW f k p s i) * (bhW f k (p + 1) i))))), none, some (.long (lN (mxN i (gnW f k p s)))), none, some (.long (lN (smN i (fun t => if 0 < stW f k p s t then mnW f k (p + 1) t else 0)))), none, some (.int (nI (i))), some (.long (lN (stW f k p s i))), none, some (.long (lN (gnW f k p s i))), none] dX8_laysBehind_71 rfl (by decide) rfl ?_
        refine v_lload 75 rfl dX8_laysBehind_73 rfl ?_
        refine v_lload 77 rfl dX8_laysBehind_75 rfl ?_
        refine v_lcmp_le 78 86 81 dX8_laysBehind_77 rfl dX8_laysBehind_78 (by decide) rfl (fun h77 => ?_) (fun h77 => ?_)
        · skip
          refine v_lload 88 rfl dX8_laysBehind_86 rfl ?_
          refine v_lstore 90 [some (rfv x 40), some (.int (nI (k))), some (.int (nI (p))), some (.int (nI (s))), some (.long (lN ((smN i (fun t => stW f k p s t * bhW f k (p + 1) t)) + ((stW f k p s i) * (bhW f k (p + 1) i))))), none, some (.long (lN (mxN i (gnW f k p s)))), none, some (.long (lN (smN i (fun t => if 0 < stW f k p s t then mnW f k (p + 1) t else 0)))), none, some (.int (nI (i))), some (.long (lN (stW f k p s i))), none, some (.long (lN (gnW f k p s i))), none] dX8_laysBehind_88 rfl (by decide) rfl ?_
          refine v_lload 92 rfl dX8_laysBehind_90 rfl ?_
          refine v_lload 94 rfl dX8_laysBehind_92 rfl ?_
          refine v_lconst 95 (lN (0)) rfl dX8_laysBehind_94 rfl ?_
          refine v_lcmp_le 96 115 99 dX8_laysBehind_95 rfl dX8_laysBehind_96 (by decide) rfl (fun h95 => ?_) (fun h95 => ?_)
          · skip
            refine v_lconst 116 (lN (0)) rfl dX8_laysBehind_115 rfl ?_
            refine v_ladd 117 (lN ((smN i (fun t => if 0 < stW f k p s t then mnW f k (p + 1) t else 0)) + 0)) dX8_laysBehind_116 rfl (lN_add _ _) ?_
            refine v_lstore 119 [some (rfv x 40), some (.int (nI (k))), some (.int (nI (p))), some (.int (nI (s))), some (.long (lN ((smN i (fun t => stW f k p s t * bhW f k (p + 1) t)) + ((stW f k p s i) * (bhW f k (p + 1) i))))), none, some (.long (lN (mxN i (gnW f k p s)))), none, some (.long (lN ((smN i (fun t => if 0 < stW f k p s t then mnW f k (p + 1) t else 0)) + 0))), none, some (.int (nI (i))), some (.long (lN (stW f k p s i))), none, some (.long (lN (gnW f k p s i))), none] dX8_laysBehind_117 rfl (by decide) rfl ?_
            refine v_iinc 122 [some (rfv x 40), some (.int (nI (k))), some (.int (nI (p))), some (.int (nI (s))), some (.long (lN ((smN i (fun t => stW f k p s t * bhW f k (p + 1) t)) + ((stW f k p s i) * (bhW f k (p + 1) i))))), none, some (.long (lN (mxN i (gnW f k p s)))), none, some (.long (lN ((smN i (fun t => if 0 < stW f k p s t then mnW f k (p + 1) t else 0)) + 0))), none, some (.int (nI (i + 1))), some (.long (lN (stW f k p s i))), none, some (.long (lN (gnW f k p s i))), none] (nI (i + 1)) dX8_laysBehind_119 rfl (by decide) rfl (nI_inc _) rfl ?_
            refine v_goto 12 dX8_laysBehind_122 (by decide) ?_
            refine v_drop [some (rfv x 40), some (.int (nI (k))), some (.int (nI (p))), some (.int (nI (s))), some (.long (lN (smN (i + 1) (fun t => stW f k p s t * bhW f k (p + 1) t)))), none, some (.long (lN (mxN (i + 1) (gnW f k p s)))), none, some (.long (lN (smN (i + 1) (fun t => if 0 < stW f k p s t then mnW f k (p + 1) t else 0)))), none, some (.int (nI (i + 1))), none, none, none, none] (by rw [e1] at h77; rw [e2] at h95; simp [lsub, smN_s, mxN_s, h77, h95]) ?_
            exact ih
          · skip
            refine v_aload_n 100 rfl dX8_laysBehind_99 rfl ?_
            refine v_get 103 (k := 12) 8 (rfv x 49) (by decide) rfl (by decide) (by decide) dX8_laysBehind_100 rfl fl_X8_35 rfl ?_
            refine v_iconst 104 (nI (4)) (by decide) dX8_laysBehind_103 rfl ?_
            refine v_iload_n 105 rfl dX8_laysBehind_104 rfl ?_
            refine v_imul 106 (nI (4 * p)) dX8_laysBehind_105 rfl (pk_mul _ _) ?_
            refine v_iconst 107 (nI (4)) (by decide) dX8_laysBehind_106 rfl ?_
            refine v_iadd 108 (nI ((4 * p) + 4)) dX8_laysBehind_107 rfl (nI_add _ _) ?_
            refine v_iload 110 rfl dX8_laysBehind_108 rfl ?_
            refine v_iadd 111 (nI (((4 * p) + 4) + i)) dX8_laysBehind_110 rfl (nI_add _ _) ?_
            refine v_lald 112 (k := ((4 * p) + 4) + i) (lN (mnW f k (p + 1) i)) (by decide) rfl (by decide) dX8_laysBehind_111 rfl rfl (by omega) (h49 i hi) ?_
            refine v_goto 116 dX8_laysBehind_112 (by decide) ?_
            refine v_ladd 117 (lN ((smN i (fun t => if 0 < stW f k p s t then mnW f k (p + 1) t else 0)) + (mnW f k (p + 1) i))) dX8_laysBehind_116 rfl (lN_add _ _) ?_
            refine v_lstore 119 [some (rfv x 40), some (.int (nI (k))), some (.int (nI (p))), some (.int (nI (s))), some (.long (lN ((smN i (fun t => stW f k p s t * bhW f k (p + 1) t)) + ((stW f k p s i) * (bhW f k (p + 1) i))))), none, some (.long (lN (mxN i (gnW f k p s)))), none, some (.long (lN ((smN i (fun t => if 0 < stW f k p s t then mnW f k (p + 1) t else 0)) + (mnW f k (p + 1) i)))), none, some (.int (nI (i))), some (.long (lN (stW f k p s i))), none, some (.long (lN (gnW f k p s i))), none] dX8_laysBehind_117 rfl (by decide) rfl ?_
            refine v_iinc 122 [some (rfv x 40), some (.int (nI (k))), some (.int (nI (p))), some (.int (nI (s))), some (.long (lN ((smN i (fun t => stW f k p s t * bhW f k (p + 1) t)) + ((stW f k p s i) * (bhW f k (p + 1) i))))), none, some (.long (lN (mxN i (gnW f k p s)))), none, some (.long (lN ((smN i (fun t => if 0 < stW f k p s t then mnW f k (p + 1) t else 0)) + (mnW f k (p + 1) i)))), none, some (.int (nI (i + 1))), some (.long (lN (stW f k p s i))), none, some (.long (lN (gnW f k p s i))), none] (nI (i + 1)) dX8_laysBehind_119 rfl (by decide) rfl (nI_inc _) rfl ?_
            refine v_goto 12 dX8_laysBehind_122 (by decide) ?_
            refine v_drop [some (rfv x 40), some (.int (nI (k))), some (.int (nI (p))), some (.int (nI (s))), some (.long (lN (smN (i + 1) (fun t => stW f k p s t * bhW f k (p + 1) t)))), none, some (.long (lN (mxN (i + 1) (gnW f k p s)))), none, some (.long (lN (smN (i + 1) (fun t => if 0 < stW f k p s t then mnW f k (p + 1) t else 0)))), none, some (.int (nI (i + 1))), none, none, none, none] (by rw [e1] at h77; rw [e2] at h95; simp [lsub, smN_s, mxN_s, h77, h95]) ?_
            exact ih
        · skip
          refine v_lload 83 rfl dX8_laysBehind_81 rfl ?_
          refine v_goto 88 dX8_laysBehind_83 (by decide) ?_
          refine v_lstore 90 [some (rfv x 40), some (.int (nI (k))), some (.int (nI (p))), some (.int (nI (s))), some (.long (lN ((smN i (fun t => stW f k p s t * bhW f k (p + 1) t)) + ((stW f k p s i) * (bhW f k (p + 1) i))))), none, some (.long (lN (gnW f k p s i))), none, some (.long (lN (smN i (fun t => if 0 < stW f k p s t then mnW f k (p + 1) t else 0)))), none, some (.int (nI (i))), some (.long (lN (stW f k p s i))), none, some (.long (lN (gnW f k p s i))), none] dX8_laysBehind_88 rfl (by decide) rfl ?_
          refine v_lload 92 rfl dX8_laysBehind_90 rfl ?_
          refine v_lload 94 rfl dX8_laysBehind_92 rfl ?_
          refine v_lconst 95 (lN (0)) rfl dX8_laysBehind_94 rfl ?_
          refine v_lcmp_le 96 115 99 dX8_laysBehind_95 rfl dX8_laysBehind_96 (by decide) rfl (fun h95 => ?_) (fun h95 => ?_)
          · skip
            refine v_lconst 116 (lN (0)) rfl dX8_laysBehind_115 rfl ?_
            refine v_ladd 117 (lN ((smN i (fun t => if 0 < stW f k p s t then mnW f k (p + 1) t else 0)) + 0)) dX8_laysBehind_116 rfl (lN_add _ _) ?_
            refine v_lstore 119 [some (rfv x 40), some (.int (nI (k))), some (.int (nI (p))), some (.int (nI (s))), some (.long (lN ((smN i (fun t => stW f k p s t * bhW f k (p + 1) t)) + ((stW f k p s i) * (bhW f k (p + 1) i))))), none, some (.long (lN (gnW f k p s i))), none, some (.long (lN ((smN i (fun t => if 0 < stW f k p s t then mnW f k (p + 1) t else 0)) + 0))), none, some (.int (nI (i))), some (.long (lN (stW f k p s i))), none, some (.long (lN (gnW f k p s i))), none] dX8_laysBehind_117 rfl (by decide) rfl ?_
            refine v_iinc 122 [some (rfv x 40), some (.int (nI (k))), some (.int (nI (p))), some (.int (nI (s))), some (.long (lN ((smN i (fun t => stW f k p s t * bhW f k (p + 1) t)) + ((stW f k p s i) * (bhW f k (p + 1) i))))), none, some (.long (lN (gnW f k p s i))), none, some (.long (lN ((smN i (fun t => if 0 < stW f k p s t then mnW f k (p + 1) t else 0)) + 0))), none, some (.int (nI (i + 1))), some (.long (lN (stW f k p s i))), none, some (.long (lN (gnW f k p s i))), none] (nI (i + 1)) dX8_laysBehind_119 rfl (by decide) rfl (nI_inc _) rfl ?_
            refine v_goto 12 dX8_laysBehind_122 (by decide) ?_
            refine v_drop [some (rfv x 40), some (.int (nI (k))), some (.int (nI (p))), some (.int (nI (s))), some (.long (lN (smN (i + 1) (fun t => stW f k p s t * bhW f k (p + 1) t)))), none, some (.long (lN (mxN (i + 1) (gnW f k p s)))), none, some (.long (lN (smN (i + 1) (fun t => if 0 < stW f k p s t then mnW f k (p + 1) t else 0)))), none, some (.int (nI (i + 1))), none, none, none, none] (by rw [e1] at h77; rw [e2] at h95; simp [lsub, smN_s, mxN_s, h77, h95]) ?_
            exact ih
          · skip
            refine v_aload_n 100 rfl dX8_laysBehind_99 rfl ?_
            refine v_get 103 (k := 12) 8 (rfv x 49) (by decide) rfl (by decide) (by decide) dX8_laysBehind_100 rfl fl_X8_35 rfl ?_
            refine v_iconst 104 (nI (4)) (by decide) dX8_laysBehind_103 rfl ?_
            refine v_iload_n 105 rfl dX8_laysBehind_104 rfl ?_
            refine v_imul 106 (nI (4 * p)) dX8_laysBehind_105 rfl (pk_mul _ _) ?_
            refine v_iconst 107 (nI (4)) (by decide) dX8_laysBehind_106 rfl ?_
            refine v_iadd 108 (nI ((4 * p) + 4)) dX8_laysBehind_107 rfl (nI_add _ _) ?_
            refine v_iload 110 rfl dX8_laysBehind_108 rfl ?_
            refine v_iadd 111 (nI (((4 * p) + 4) + i)) dX8_laysBehind_110 rfl (nI_add _ _) ?_
            refine v_lald 112 (k := ((4 * p) + 4) + i) (lN (mnW f k (p + 1) i)) (by decide) rfl (by decide) dX8_laysBehind_111 rfl rfl (by omega) (h49 i hi) ?_
            refine v_goto 116 dX8_laysBehind_112 (by decide) ?_
            refine v_ladd 117 (lN ((smN i (fun t => if 0 < stW f k p s t then mnW f k (p + 1) t else 0)) + (mnW f k (p + 1) i))) dX8_laysBehind_116 rfl (lN_add _ _) ?_
            refine v_lstore 119 [some (rfv x 40), some (.int (nI (k))), some (.int (nI (p))), some (.int (nI (s))), some (.long (lN ((smN i (fun t => stW f k p s t * bhW f k (p + 1) t)) + ((stW f k p s i) * (bhW f k (p + 1) i))))), none, some (.long (lN (gnW f k p s i))), none, some (.long (lN ((smN i (fun t => if 0 < stW f k p s t then mnW f k (p + 1) t else 0)) + (mnW f k (p + 1) i)))), none, some (.int (nI (i))), some (.long (lN (stW f k p s i))), none, some (.long (lN (gnW f k p s i))), none] dX8_laysBehind_117 rfl (by decide) rfl ?_
            refine v_iinc 122 [some (rfv x 40), some (.int (nI (k))), some (.int (nI (p))), some (.int (nI (s))), some (.long (lN ((smN i (fun t => stW f k p s t * bhW f k (p + 1) t)) + ((stW f k p s i) * (bhW f k (p + 1) i))))), none, some (.long (lN (gnW f k p s i))), none, some (.long (lN ((smN i (fun t => if 0 < stW f k p s t then mnW f k (p + 1) t else 0)) + (mnW f k (p + 1) i)))), none, some (.int (nI (i + 1))), some (.long (lN (stW f k p s i))), none, some (.long (lN (gnW f k p s i))), none] (nI (i + 1)) dX8_laysBehind_119 rfl (by decide) rfl (nI_inc _) rfl ?_
            refine v_goto 12 dX8_laysBehind_122 (by decide) ?_
            refine v_drop [some (rfv x 40), some (.int (nI (k))), some (.int (nI (p))), some (.int (nI (s))), some (.long (lN (smN (i + 1) (fun t => stW f k p s t * bhW f k (p + 1) t)))), none, some (.long (lN (mxN (i + 1) (gnW f k p s)))), none, some (.long (lN (smN (i + 1) (fun t => if 0 < stW f k p s t then mnW f k (p + 1) t else 0)))), none, some (.int (nI (i + 1))), none, none, none, none] (by rw [e1] at h77; rw [e2] at h95; simp [lsub, smN_s, mxN_s, h77, h95]) ?_
            exact ih
  refine v_drop [some (rfv x 40), some (.int (nI (k))), some (.int (nI (p))), some (.int (nI (s))), some (.long (lN (smN 0 (fun t => stW f k p s t * bhW f k (p + 1) t)))), none, some (.long (lN (mxN 0 (gnW f k p s)))), none, some (.long (lN (smN 0 (fun t => if 0 < stW f k p s t then mnW f k (p + 1) t else 0)))), none, some (.int (nI (0))), none, none, none, none] (by simp [lsub, smN, amN, dbW, mxN]) ?_
  exact lp 0 (Nat.zero_le _)
set_option maxHeartbeats 4000000 in
theorem sp_X8_laysRuns {x : Cx} {Q : Qt} {I : Iv} {L : Lv} {P : Pv} {f : Vw} (r : RR (I 41) f) (w : Wf f) {k : Nat} (hk : k < f 1) (hQ : ∀ L1 : Lv, (∀ a, a ≠ 46 → a ≠ 47 → a ≠ 48 → a ≠ 49 → L1 a = L a) → UM f k L1 → Q none I L1 P) : SP x M_X8_laysRuns [rfv x 40, .int (nI (k))] I L P Q := by
  have := w.n4
  have := w.n1
  have := w.m6
  have := w.p hk
  
  refine SP.intro [some (rfv x 40), some (.int (nI (k))), none, none, none, none, none, none] pn_X8_laysRuns (Nat.le_of_ble_eq_true rfl) rfl ?_
  refine v_aload_n 1 rfl dX8_laysRuns_0 rfl ?_
  refine v_iload_n 2 rfl dX8_laysRuns_1 rfl ?_
  refine v_invV 5 M_X8_placesOf [.int (nI (k))] (by decide) rfl (by decide) rfl dX8_laysRuns_2 rfl ml_X8_65 im_X8_placesOf se_X8_placesOf mc_X8_placesOf (by decide) (Nat.le_of_ble_eq_true rfl) (sp_X8_placesOf r w (by omega) ?_)
  refine v_iconst 6 (nI (1)) (by decide) dX8_laysRuns_5 rfl ?_
  refine v_isub 7 (nI ((nP f k) - 1)) dX8_laysRuns_6 rfl (pk_sub (by omega)) ?_
  refine v_istore_n 8 [some (rfv x 40), some (.int (nI (k))), some (.int (nI ((nP f k) - 1))), none, none, none, none, none] dX8_laysRuns_7 rfl (by decide) rfl ?_
  refine v_iconst 9 (nI (0)) (by decide) dX8_laysRuns_8 rfl ?_
  refine v_istore_n 10 [some (rfv x 40), some (.int (nI (k))), some (.int (nI ((nP f k) - 1))), some (.int (nI (0))), none, none, none, none] dX8_laysRuns_9 rfl (by decide) rfl ?_
  have lp : ∀ i, i ≤ f 0 → ∀ L1 : Lv, (∀ s, s < i → L1 46 (4 * 0 + s) = lN (upW f k 0 s)) → (∀ s, s < i → L1 47 (4 * (nP f k - 1) + s) = lN 1) → (∀ s, s < i → L1 48 (4 * (nP f k - 1) + s) = lN 1) → (∀ s, s < i → L1 49 (4 * (nP f k - 1) + s) = lN 1) → (∀ a, a ≠ 46 → a ≠ 47 → a ≠ 48 → a ≠ 49 → L1 a = L a) → V x M_X8_laysRuns Q 10 [some (rfv x 40), some (.int (nI (k))), some (.int (nI (nP f k - 1))), some (.int (nI (i))), none, none, none, none] [] I L1 P := by
    refine lpU ?_ ?_
    · intro L1 hA hB hC hD hF
      refine v_iload_n 11 rfl dX8_laysRuns_10 rfl ?_
      refine v_aload_n 12 rfl dX8_laysRuns_11 rfl ?_
      refine v_get 15 (k := 1) 8 (rfv x 41) (by decide) rfl (by decide) (by decide) dX8_laysRuns_12 rfl fl_X8_7 rfl ?_
      refine v_iconst 16 (nI (0)) (by decide) dX8_laysRuns_15 rfl ?_
      refine v_iald 17 (k := 0) (nI (f 0)) (by decide) rfl (by decide) dX8_laysRuns_16 rfl rfl (by omega) r.st ?_
      refine v_icmpN_ge 87 20 dX8_laysRuns_17 (by decide) rfl (by omega) (by omega) (fun h17 => ?_) (fun h17 => ?_)
      · skip
        refine v_iconst 88 (nI (1)) (by decide) dX8_laysRuns_87 rfl ?_
        refine v_istore_n 89 [some (rfv x 40), some (.int (nI (k))), some (.int (nI (nP f k - 1))), some (.int (nI (1))), none, none, none, none] dX8_laysRuns_88 rfl (by decide) rfl ?_
        have lp2 : ∀ i, i ≤ (nP f k - 1) → ∀ L3 : Lv, (∀ p s, p ≤ i → s < f 0 → L3 46 (4 * p + s) = lN (upW f k p s)) → (∀ p s, nP f k - 1 ≤ p → p < nP f k → s < f 0 → L3 47 (4 * p + s) = lN (bhW f k p s)) → (∀ p s, nP f k - 1 ≤ p → p < nP f k → s < f 0 → L3 48 (4 * p + s) = lN (grW f k p s)) → (∀ p s, nP f k - 1 ≤ p → p < nP f k → s < f 0 → L3 49 (4 * p + s) = lN (mnW f k p s)) → (∀ a, a ≠ 46 → a ≠ 47 → a ≠ 48 → a ≠ 49 → L3 a = L a) → V x M_X8_laysRuns Q 89 [some (rfv x 40), some (.int (nI (k))), some (.int (nI (nP f k - 1))), some (.int (nI (i + 1))), none, none, none, none] [] I L3 P := by
          refine lpU ?_ ?_
          · intro L3 hU gB gC gD hF
            refine v_iload_n 90 rfl dX8_laysRuns_89 rfl ?_
            refine v_iload_n 91 rfl dX8_laysRuns_90 rfl ?_
            refine v_icmpN_gt 198 94 dX8_laysRuns_91 (by decide) rfl (by omega) (by omega) (fun h91 => ?_) (fun h91 => ?_)
            · skip
              refine v_iload_n 199 rfl dX8_laysRuns_198 rfl ?_
              refine v_iconst 200 (nI (1)) (by decide) dX8_laysRuns_199 rfl ?_
              refine v_isub 201 (nI (nP f k - 1) + Int32.ofInt (-1)) dX8_laysRuns_200 rfl (nI_sub1 _) ?_
              refine v_istore_n 202 [some (rfv x 40), some (.int (nI (k))), some (.int (nI (nP f k - 1))), some (.int (nI (nP f k - 1) + Int32.ofInt (-1))), none, none, none, none] dX8_laysRuns_201 rfl (by decide) rfl ?_
              have lz : ∀ i, i ≤ (nP f k - 1) → ∀ L5 : Lv, (∀ p s, i ≤ p → p < nP f k → s < f 0 → L5 47 (4 * p + s) = lN (bhW f k p s)) → (∀ p s, i ≤ p → p < nP f k → s < f 0 → L5 48 (4 * p + s) = lN (grW f k p s)) → (∀ p s, i ≤ p → p < nP f k → s < f 0 → L5 49 (4 * p + s) = lN (mnW f k p s)) → (∀ p s, p < nP f k → s < f 0 → L5 46 (4 * p + s) = lN (upW f k p s)) → (∀ a, a ≠ 46 → a ≠ 47 → a ≠ 48 → a ≠ 49 → L5 a = L a) → V x M_X8_laysRuns Q 202 [some (rfv x 40), some (.int (nI (k))), some (.int (nI (nP f k - 1))), some (.int (nI i + Int32.ofInt (-1))), none, none, none, none] [] I L5 P := by
                intro i
                induction i with
                | zero =>
                  intro hn L5 hB hC hD hU hF
                  refine v_iload_n 203 rfl dX8_laysRuns_202 rfl ?_
                  refine v_if_lt 240 206 dX8_laysRuns_203 (by decide) rfl (fun h203 => ?_) (fun h203 => ?_)
                  · skip
                    refine v_vret rfl dX8_laysRuns_240 ?_
                    exact hQ L5 hF ⟨fun p s j h1 h2 h3 => by subst h3; exact hU p s h1 h2, fun p s j h1 h2 h3 => by subst h3; exact hB p s (Nat.zero_le _) h1 h2, fun p s j h1 h2 h3 => by subst h3; exact hC p s (Nat.zero_le _) h1 h2, fun p s j h1 h2 h3 => by subst h3; exact hD p s (Nat.zero_le _) h1 h2⟩
                  · skip
                    exact absurd (by decide : nI 0 + Int32.ofInt (-1) < 0) h203
                | succ i ih =>
                  intro hn L5 hB hC hD hU hF
                  rw [nI_m1 i]
                  refine v_iload_n 203 rfl dX8_laysRuns_202 rfl ?_
                  refine v_ifN_lt 240 206 dX8_laysRuns_203 (by decide) rfl (by omega) ?_
                  refine v_iconst 207 (nI (0)) (by decide) dX8_laysRuns_206 rfl ?_
                  refine v_istore 209 [some (rfv x 40), some (.int (nI (k))), some (.int (nI (nP f k - 1))), some (.int (nI (i))), some (.int (nI (0))), none, none, none] dX8_laysRuns_207 rfl (by decide) rfl ?_
                  have lw : ∀ j, j ≤ f 0 → ∀ L6 : Lv, (∀ s, s < j → L6 47 (4 * i + s) = lN (bhW f k i s)) → (∀ s, s < j → L6 48 (4 * i + s) = lN (grW f k i s)) → (∀ s, s < j → L6 49 (4 * i + s) = lN (mnW f k i s)) → (∀ p s, i + 1 ≤ p → p < nP f k → s < f 0 → L6 47 (4 * p + s) = lN (bhW f k p s)) → (∀ p s, i + 1 ≤ p → p < nP f k → s < f 0 → L6 48 (4 * p + s) = lN (grW f k p s)) → (∀ p s, i + 1 ≤ p → p < nP f k → s < f 0 → L6 49 (4 * p + s) = lN (mnW f k p s)) → (∀ p s, p < nP f k → s < f 0 → L6 46 (4 * p + s) = lN (upW f k p s)) → (∀ a, a ≠ 46 → a ≠ 47 → a ≠ 48 → a ≠ 49 → L6 a = L a) → V x M_X8_laysRuns Q 209 [some (rfv x 40), some (.int (nI (k))), some (.int (nI (nP f k - 1))), some (.int (nI (i))), some (.int (nI (j))), none, none, none] [] I L6 P := by
                    refine lpU ?_ ?_
                    · intro L6 gB gC gD hB hC hD hU hF
                      refine v_iload 211 rfl dX8_laysRuns_209 rfl ?_
                      refine v_aload_n 212 rfl dX8_laysRuns_211 rfl ?_
                      refine v_get 215 (k := 1) 8 (rfv x 41) (by decide) rfl (by decide) (by decide) dX8_laysRuns_212 rfl fl_X8_7 rfl ?_
                      refine v_iconst 216 (nI (0)) (by decide) dX8_laysRuns_215 rfl ?_
                      refine v_iald 217 (k := 0) (nI (f 0)) (by decide) rfl (by decide) dX8_laysRuns_216 rfl rfl (by omega) r.st ?_
                      refine v_icmpN_ge 234 220 dX8_laysRuns_217 (by decide) rfl (by omega) (by omega) (fun h217 => ?_) (fun h217 => ?_)
                      · skip
                        refine v_iinc 237 [some (rfv x 40), some (.int (nI (k))), some (.int (nI (nP f k - 1))), some (.int (nI i + Int32.ofInt (-1))), some (.int (nI (f 0))), none, none, none] (nI i + Int32.ofInt (-1)) dX8_laysRuns_234 rfl (by decide) rfl rfl rfl ?_
                        refine v_goto 202 dX8_laysRuns_237 (by decide) ?_
                        refine v_drop [some (rfv x 40), some (.int (nI (k))), some (.int (nI (nP f k - 1))), some (.int (nI i + Int32.ofInt (-1))), none, none, none, none] (by simp [lsub]) ?_
                        refine ih (by omega) L6 (fun p s h1 h2 h3 => ?_) (fun p s h1 h2 h3 => ?_) (fun p s h1 h2 h3 => ?_) hU hF
                        · rcases Nat.eq_or_lt_of_le h1 with q | q
                          · subst q
                            exact gB s h3
                          · exact hB p s q h2 h3
                        · rcases Nat.eq_or_lt_of_le h1 with q | q
                          · subst q
                            exact gC s h3
                          · exact hC p s q h2 h3
                        · rcases Nat.eq_or_lt_of_le h1 with q | q
                          · subst q
                            exact gD s h3
                          · exact hD p s q h2 h3
                      · skip
                        exact absurd h217 (by omega)
                    · intro j hj ih2 L6 gB gC gD hB hC hD hU hF
                      refine v_iload 211 rfl dX8_laysRuns_209 rfl ?_
                      refine v_aload_n 212 rfl dX8_laysRuns_211 rfl ?_
                      refine v_get 215 (k := 1) 8 (rfv x 41) (by decide) rfl (by decide) (by decide) dX8_laysRuns_212 rfl fl_X8_7 rfl ?_
                      refine v_iconst 216 (nI (0)) (by decide) dX8_laysRuns_215 rfl ?_
                      refine v_iald 217 (k := 0) (nI (f 0)) (by decide) rfl (by decide) dX8_laysRuns_216 rfl rfl (by omega) r.st ?_
                      refine v_icmpN_ge 234 220 dX8_laysRuns_217 (by decide) rfl (by omega) (by omega) (fun h217 => ?_) (fun h217 => ?_)
                      · skip
                        exact absurd h217 (by omega)
                      · skip
                        refine v_aload_n 221 rfl dX8_laysRuns_220 rfl ?_
                        refine v_iload_n 222 rfl dX8_laysRuns_221 rfl ?_
                        refine v_iload_n 223 rfl dX8_laysRuns_222 rfl ?_
                        refine v_iload 225 rfl dX8_laysRuns_223 rfl ?_
                        refine v_invV 228 M_X8_laysBehind [.int (nI (k)), .int (nI (i)), .int (nI (j))] (by decide) rfl (by decide) rfl dX8_laysRuns_225 rfl ml_X8_79 im_X8_laysBehind se_X8_laysBehind mc_X8_laysBehind (by decide) (Nat.le_of_ble_eq_true rfl) (sp_X8_laysBehind r w hk hj (by omega) (fun t ht => by have := hB (i + 1) t (by omega) (by omega) ht; rwa [Nat.mul_add] at this) (fun t ht => by have := hC (i + 1) t (by omega) (by omega) ht; rwa [Nat.mul_add] at this) (fun t ht => by have := hD (i + 1) t (by omega) (by omega) ht; rwa [Nat.mul_add] at this) (fun L7 q47 q48 q49 qF => ?_))
                        refine v_iinc 231 [some (rfv x 40), some (.int (nI (k))), some (.int (nI (nP f k - 1))), some (.int (nI (i))), some (.int (nI (j + 1))), none, none, none] (nI (j + 1)) dX8_laysRuns_228 rfl (by decide) rfl (nI_inc _) rfl ?_
                        refine v_goto 209 dX8_laysRuns_231 (by decide) ?_
                        refine v_drop [some (rfv x 40), some (.int (nI (k))), some (.int (nI (nP f k - 1))), some (.int (nI (i))), some (.int (nI (j + 1))), none, none, none] (by simp [lsub, smN_s, Nat.mul_assoc, *]) ?_
                        refine ih2 L7 (fun s hs => ?_) (fun s hs => ?_) (fun s hs => ?_) (fun p s h1 h2 h3 => ?_) (fun p s h1 h2 h3 => ?_) (fun p s h1 h2 h3 => ?_) (fun p s h1 h2 => ?_) (fun a h1 h2 h3 h4 => ?_)
                        · by_cases q : s = j
                          · subst q
                            exact q47
                          · exact (qF 47 _ (Or.inr (by omega))).trans (gB s (by omega))
                        · by_cases q : s = j
                          · subst q
                            exact q48
                          · exact (qF 48 _ (Or.inr (by omega))).trans (gC s (by omega))
                        · by_cases q : s = j
                          · subst q
                            exact q49
                          · exact (qF 49 _ (Or.inr (by omega))).trans (gD s (by omega))
                        · exact (qF 47 _ (Or.inr (by omega))).trans (hB p s h1 h2 h3)
                        · exact (qF 48 _ (Or.inr (by omega))).trans (hC p s h1 h2 h3)
                        · exact (qF 49 _ (Or.inr (by omega))).trans (hD p s h1 h2 h3)
                        · exact (qF 46 _ (Or.inl (by omega))).trans (hU p s h1 h2)
                        · exact (funext (fun j => qF a j (Or.inl ⟨h2, h3, h4⟩))).trans (hF a h1 h2 h3 h4)
                  refine v_drop [some (rfv x 40), some (.int (nI (k))), some (.int (nI (nP f k - 1))), some (.int (nI (i))), some (.int (nI (0))), none, none, none] (by simp [lsub, smN, amN, dbW, mxN]) ?_
                  exact lw 0 (Nat.zero_le _) L5 (fun s h => absurd h (Nat.not_lt_zero s)) (fun s h => absurd h (Nat.not_lt_zero s)) (fun s h => absurd h (Nat.not_lt_zero s)) hB hC hD hU hF
              refine v_drop [some (rfv x 40), some (.int (nI (k))), some (.int (nI (nP f k - 1))), some (.int (nI ((nP f k - 1)) + Int32.ofInt (-1))), none, none, none, none] (by simp [lsub, smN_s, Nat.mul_assoc, *]) ?_
              exact lz (nP f k - 1) (Nat.le_refl _) L3 (fun p s h1 h2 h3 => gB p s (by omega) h2 h3) (fun p s h1 h2 h3 => gC p s (by omega) h2 h3) (fun p s h1 h2 h3 => gD p s (by omega) h2 h3) (fun p s h1 h2 => hU p s (by omega) h2) hF
            · skip
              exact absurd h91 (by omega)
          · intro i hi ih L3 hU gB gC gD hF
            refine v_iload_n 90 rfl dX8_laysRuns_89 rfl ?_
            refine v_iload_n 91 rfl dX8_laysRuns_90 rfl ?_
            refine v_icmpN_gt 198 94 dX8_laysRuns_91 (by decide) rfl (by omega) (by omega) (fun h91 => ?_) (fun h91 => ?_)
            · skip
              exact absurd h91 (by omega)
            · skip
              refine v_iconst 95 (nI (0)) (by decide) dX8_laysRuns_94 rfl ?_
              refine v_istore 97 [some (rfv x 40), some (.int (nI (k))), some (.int (nI (nP f k - 1))), some (.int (nI (i + 1))), some (.int (nI (0))), none, none, none] dX8_laysRuns_95 rfl (by decide) rfl ?_
              have lq : ∀ j, j ≤ f 0 → ∀ L4 : Lv, (∀ s, s < j → L4 46 (4 * (i + 1) + s) = lN (upW f k (i + 1) s)) → (∀ p s, p ≤ i → s < f 0 → L4 46 (4 * p + s) = lN (upW f k p s)) → (∀ p s, nP f k - 1 ≤ p → p < nP f k → s < f 0 → L4 47 (4 * p + s) = lN (bhW f k p s)) → (∀ p s, nP f k - 1 ≤ p → p < nP f k → s < f 0 → L4 48 (4 * p + s) = lN (grW f k p s)) → (∀ p s, nP f k - 1 ≤ p → p < nP f k → s < f 0 → L4 49 (4 * p + s) = lN (mnW f k p s)) → (∀ a, a ≠ 46 → a ≠ 47 → a ≠ 48 → a ≠ 49 → L4 a = L a) → V x M_X8_laysRuns Q 97 [some (rfv x 40), some (.int (nI (k))), some (.int (nI (nP f k - 1))), some (.int (nI (i + 1))), some (.int (nI (j))), none, none, none] [] I L4 P := by
                refine lpU ?_ ?_
                · intro L4 hC hU gB gC gD hF
                  refine v_iload 99 rfl dX8_laysRuns_97 rfl ?_
                  refine v_aload_n 100 rfl dX8_laysRuns_99 rfl ?_
                  refine v_get 103 (k := 1) 8 (rfv x 41) (by decide) rfl (by decide) (by decide) dX8_laysRuns_100 rfl fl_X8_7 rfl ?_
                  refine v_iconst 104 (nI (0)) (by decide) dX8_laysRuns_103 rfl ?_
                  refine v_iald 105 (k := 0) (nI (f 0)) (by decide) rfl (by decide) dX8_laysRuns_104 rfl rfl (by omega) r.st ?_
                  refine v_icmpN_ge 192 108 dX8_laysRuns_105 (by decide) rfl (by omega) (by omega) (fun h105 => ?_) (fun h105 => ?_)
                  · skip
                    refine v_iinc 195 [some (rfv x 40), some (.int (nI (k))), some (.int (nI (nP f k - 1))), some (.int (nI ((i + 1) + 1))), some (.int (nI (f 0))), none, none, none] (nI ((i + 1) + 1)) dX8_laysRuns_192 rfl (by decide) rfl (nI_inc _) rfl ?_
                    refine v_goto 89 dX8_laysRuns_195 (by decide) ?_
                    refine v_drop [some (rfv x 40), some (.int (nI (k))), some (.int (nI (nP f k - 1))), some (.int (nI ((i + 1) + 1))), none, none, none, none] (by simp [lsub]) ?_
                    refine ih L4 (fun p s h1 h2 => ?_) gB gC gD hF
                    rcases Nat.lt_or_ge i p with q | q
                    · rw [show p = i + 1 by omega]
                      exact hC s h2
                    · exact hU p s q h2
                  · skip
                    exact absurd h105 (by omega)
                · intro j hj ih2 L4 hC hU gB gC gD hF
                  have := w.s hk (p := i + 1) (by omega)
                  have := w.w hj (g := sG f k (i + 1)) (by omega)
                  refine v_iload 99 rfl dX8_laysRuns_97 rfl ?_
                  refine v_aload_n 100 rfl dX8_laysRuns_99 rfl ?_
                  refine v_get 103 (k := 1) 8 (rfv x 41) (by decide) rfl (by decide) (by decide) dX8_laysRuns_100 rfl fl_X8_7 rfl ?_
                  refine v_iconst 104 (nI (0)) (by decide) dX8_laysRuns_103 rfl ?_
                  refine v_iald 105 (k := 0) (nI (f 0)) (by decide) rfl (by decide) dX8_laysRuns_104 rfl rfl (by omega) r.st ?_
                  refine v_icmpN_ge 192 108 dX8_laysRuns_105 (by decide) rfl (by omega) (by omega) (fun h105 => ?_) (fun h105 => ?_)
                  · skip
                    exact absurd h105 (by omega)
                  · skip
                    refine v_lconst 109 (lN (0)) rfl dX8_laysRuns_108 rfl ?_
                    refine v_lstore 111 [some (rfv x 40), some (.int (nI (k))), some (.int (nI (nP f k - 1))), some (.int (nI (i + 1))), some (.int (nI (j))), some (.long (lN (0))), none, none] dX8_laysRuns_109 rfl (by decide) rfl ?_
                    refine v_iconst 112 (nI (0)) (by decide) dX8_laysRuns_111 rfl ?_
                    refine v_istore 114 [some (rfv x 40), some (.int (nI (k))), some (.int (nI (nP f k - 1))), some (.int (nI (i + 1))), some (.int (nI (j))), some (.long (lN (0))), none, some (.int (nI (0)))] dX8_laysRuns_112 rfl (by decide) rfl ?_
                    have lv : ∀ t, t ≤ f 0 → V x M_X8_laysRuns Q 114 [some (rfv x 40), some (.int (nI (k))), some (.int (nI (nP f k - 1))), some (.int (nI (i + 1))), some (.int (nI (j))), some (.long (lN (smN t (fun t => upW f k i t * gW f t j)))), none, some (.int (nI (t)))] [] I L4 P := by
                      refine lpU ?_ ?_
                      · skip
                        refine v_iload 116 rfl dX8_laysRuns_114 rfl ?_
                        refine v_aload_n 117 rfl dX8_laysRuns_116 rfl ?_
                        refine v_get 120 (k := 1) 8 (rfv x 41) (by decide) rfl (by decide) (by decide) dX8_laysRuns_117 rfl fl_X8_7 rfl ?_
                        refine v_iconst 121 (nI (0)) (by decide) dX8_laysRuns_120 rfl ?_
                        refine v_iald 122 (k := 0) (nI (f 0)) (by decide) rfl (by decide) dX8_laysRuns_121 rfl rfl (by omega) r.st ?_
                        refine v_icmpN_ge 159 125 dX8_laysRuns_122 (by decide) rfl (by omega) (by omega) (fun h122 => ?_) (fun h122 => ?_)
                        · skip
                          refine v_aload_n 160 rfl dX8_laysRuns_159 rfl ?_
                          refine v_get 163 (k := 9) 8 (rfv x 46) (by decide) rfl (by decide) (by decide) dX8_laysRuns_160 rfl fl_X8_25 rfl ?_
                          refine v_iconst 164 (nI (4)) (by decide) dX8_laysRuns_163 rfl ?_
                          refine v_iload_n 165 rfl dX8_laysRuns_164 rfl ?_
                          refine v_imul 166 (nI (4 * (i + 1))) dX8_laysRuns_165 rfl (pk_mul _ _) ?_
                          refine v_iload 168 rfl dX8_laysRuns_166 rfl ?_
                          refine v_iadd 169 (nI ((4 * (i + 1)) + j)) dX8_laysRuns_168 rfl (nI_add _ _) ?_
                          refine v_lload 171 rfl dX8_laysRuns_169 rfl ?_
                          refine v_aload_n 172 rfl dX8_laysRuns_171 rfl ?_
                          refine v_iload 174 rfl dX8_laysRuns_172 rfl ?_
                          refine v_aload_n 175 rfl dX8_laysRuns_174 rfl ?_
                          refine v_iload_n 176 rfl dX8_laysRuns_175 rfl ?_
                          refine v_iload_n 177 rfl dX8_laysRuns_176 rfl ?_
                          refine v_invV 180 M_X8_signAt [.int (nI (k)), .int (nI (i + 1))] (by decide) rfl (by decide) rfl dX8_laysRuns_177 rfl ml_X8_69 im_X8_signAt se_X8_signAt mc_X8_signAt (by decide) (Nat.le_of_ble_eq_true rfl) (sp_X8_signAt r w (by omega) (by omega) ?_)
                          refine v_invV 183 M_X8_show [.int (nI (j)), .int (nI (sG f k (i + 1)))] (by decide) rfl (by decide) rfl dX8_laysRuns_180 rfl ml_X8_73 im_X8_show se_X8_show mc_X8_show (by decide) (Nat.le_of_ble_eq_true rfl) (sp_X8_show r w (by omega) (by omega) ?_)
                          refine v_i2l 184 (lN (sW f j (sG f k (i + 1)))) dX8_laysRuns_183 rfl (nI_l (by omega)) ?_
                          refine v_lmul 185 (lN ((smN (f 0) (fun t => upW f k i t * gW f t j)) * (sW f j (sG f k (i + 1))))) dX8_laysRuns_184 rfl (lN_mul _ _) ?_
                          refine v_last 186 (k := (4 * (i + 1)) + j) (by decide) rfl (by decide) dX8_laysRuns_185 rfl rfl (by omega) (fun L185 e185 => ?_)
                          refine v_iinc 189 [some (rfv x 40), some (.int (nI (k))), some (.int (nI (nP f k - 1))), some (.int (nI (i + 1))), some (.int (nI (j + 1))), some (.long (lN (smN (f 0) (fun t => upW f k i t * gW f t j)))), none, some (.int (nI (f 0)))] (nI (j + 1)) dX8_laysRuns_186 rfl (by decide) rfl (nI_inc _) rfl ?_
                          refine v_goto 97 dX8_laysRuns_189 (by decide) ?_
                          refine v_drop [some (rfv x 40), some (.int (nI (k))), some (.int (nI (nP f k - 1))), some (.int (nI (i + 1))), some (.int (nI (j + 1))), none, none, none] (by simp [lsub]) ?_
                          refine ih2 L185 (fun s hs => ?_) (fun p s h1 h2 => ?_) (fun p s h1 h2 h3 => (up2_off e185 (by omega)).trans (gB p s h1 h2 h3)) (fun p s h1 h2 h3 => (up2_off e185 (by omega)).trans (gC p s h1 h2 h3)) (fun p s h1 h2 h3 => (up2_off e185 (by omega)).trans (gD p s h1 h2 h3)) (fun a h1 h2 h3 h4 => (up2_row e185 h1).trans (hF a h1 h2 h3 h4))
                          · by_cases q : s = j
                            · subst q
                              exact up2_at e185
                            · exact (up2_off e185 (by omega)).trans (hC s (by omega))
                          · exact (up2_off e185 (by omega)).trans (hU p s h1 h2)
                        · skip
                          exact absurd h122 (by omega)
                      · intro t ht ih3 
                        have := w.g ht hj
                        refine v_iload 116 rfl dX8_laysRuns_114 rfl ?_
                        refine v_aload_n 117 rfl dX8_laysRuns_116 rfl ?_
                        refine v_get 120 (k := 1) 8 (rfv x 41) (by decide) rfl (by decide) (by decide) dX8_laysRuns_117 rfl fl_X8_7 rfl ?_
                        refine v_iconst 121 (nI (0)) (by decide) dX8_laysRuns_120 rfl ?_
                        refine v_iald 122 (k := 0) (nI (f 0)) (by decide) rfl (by decide) dX8_laysRuns_121 rfl rfl (by omega) r.st ?_
                        refine v_icmpN_ge 159 125 dX8_laysRuns_122 (by decide) rfl (by omega) (by omega) (fun h122 => ?_) (fun h122 => ?_)
                        · skip
                          exact absurd h122 (by omega)
                        · skip
                          refine v_lload 127 rfl dX8_laysRuns_125 rfl ?_
                          refine v_aload_n 128 rfl dX8_laysRuns_127 rfl ?_
                          refine v_get 131 (k := 9) 8 (rfv x 46) (by decide) rfl (by decide) (by decide) dX8_laysRuns_128 rfl fl_X8_25 rfl ?_
                          refine v_iconst 132 (nI (4)) (by decide) dX8_laysRuns_131 rfl ?_
                          refine v_iload_n 133 rfl dX8_laysRuns_132 rfl ?_
                          refine v_imul 134 (nI (4 * (i + 1))) dX8_laysRuns_133 rfl (pk_mul _ _) ?_
                          refine v_iconst 135 (nI (4)) (by decide) dX8_laysRuns_134 rfl ?_
                          refine v_isub 136 (nI ((4 * (i + 1)) - 4)) dX8_laysRuns_135 rfl (pk_sub (by omega)) ?_
                          refine v_iload 138 rfl dX8_laysRuns_136 rfl ?_
                          refine v_iadd 139 (nI (((4 * (i + 1)) - 4) + t)) dX8_laysRuns_138 rfl (nI_add _ _) ?_
                          refine v_lald 140 (k := ((4 * (i + 1)) - 4) + t) (lN (upW f k i t)) (by decide) rfl (by decide) dX8_laysRuns_139 rfl rfl (by omega) (by have := hU i t (by omega) ht; rwa [show 4 * i + t = 4 * (i + 1) - 4 + t by omega] at this) ?_
                          refine v_aload_n 141 rfl dX8_laysRuns_140 rfl ?_
                          refine v_iload 143 rfl dX8_laysRuns_141 rfl ?_
                          refine v_iload 145 rfl dX8_laysRuns_143 rfl ?_
                          refine v_invV 148 M_X8_go [.int (nI (t)), .int (nI (j))] (by decide) rfl (by decide) rfl dX8_laysRuns_145 rfl ml_X8_76 im_X8_go se_X8_go mc_X8_go (by decide) (Nat.le_of_ble_eq_true rfl) (sp_X8_go r w (by omega) (by omega) ?_)
                          refine v_i2l 149 (lN (gW f t j)) dX8_laysRuns_148 rfl (nI_l (by omega)) ?_
                          refine v_lmul 150 (lN ((upW f k i t) * (gW f t j))) dX8_laysRuns_149 rfl (lN_mul _ _) ?_
                          refine v_ladd 151 (lN ((smN t (fun t => upW f k i t * gW f t j)) + ((upW f k i t) * (gW f t j)))) dX8_laysRuns_150 rfl (lN_add _ _) ?_
                          refine v_lstore 153 [some (rfv x 40), some (.int (nI (k))), some (.int (nI (nP f k - 1))), some (.int (nI (i + 1))), some (.int (nI (j))), some (.long (lN ((smN t (fun t => upW f k i t * gW f t j)) + ((upW f k i t) * (gW f t j))))), none, some (.int (nI (t)))] dX8_laysRuns_151 rfl (by decide) rfl ?_
                          refine v_iinc 156 [some (rfv x 40), some (.int (nI (k))), some (.int (nI (nP f k - 1))), some (.int (nI (i + 1))), some (.int (nI (j))), some (.long (lN ((smN t (fun t => upW f k i t * gW f t j)) + ((upW f k i t) * (gW f t j))))), none, some (.int (nI (t + 1)))] (nI (t + 1)) dX8_laysRuns_153 rfl (by decide) rfl (nI_inc _) rfl ?_
                          refine v_goto 114 dX8_laysRuns_156 (by decide) ?_
                          refine v_drop [some (rfv x 40), some (.int (nI (k))), some (.int (nI (nP f k - 1))), some (.int (nI (i + 1))), some (.int (nI (j))), some (.long (lN (smN (t + 1) (fun t => upW f k i t * gW f t j)))), none, some (.int (nI (t + 1)))] (by simp [lsub, smN_s, Nat.mul_assoc, *]) ?_
                          exact ih3
                    refine v_drop [some (rfv x 40), some (.int (nI (k))), some (.int (nI (nP f k - 1))), some (.int (nI (i + 1))), some (.int (nI (j))), some (.long (lN (smN 0 (fun t => upW f k i t * gW f t j)))), none, some (.int (nI (0)))] (by simp [lsub, smN, amN, dbW, mxN]) ?_
                    exact lv 0 (Nat.zero_le _)
              refine v_drop [some (rfv x 40), some (.int (nI (k))), some (.int (nI (nP f k - 1))), some (.int (nI (i + 1))), some (.int (nI (0))), none, none, none] (by simp [lsub, smN, amN, dbW, mxN]) ?_
              exact lq 0 (Nat.zero_le _) L3 (fun s h => absurd h (Nat.not_lt_zero s)) hU gB gC gD hF
        refine v_drop [some (rfv x 40), some (.int (nI (k))), some (.int (nI (nP f k - 1))), some (.int (nI (0 + 1))), none, none, none, none] (by simp [lsub]) ?_
        exact lp2 0 (Nat.zero_le _) L1 (fun p s h1 h2 => by rw [show p = 0 by omega]; exact hA s h2) (fun p s h1 h2 h3 => by rw [show p = nP f k - 1 by omega, bhW_l rfl]; exact hB s h3) (fun p s h1 h2 h3 => by rw [show p = nP f k - 1 by omega, grW_l rfl]; exact hC s h3) (fun p s h1 h2 h3 => by rw [show p = nP f k - 1 by omega, mnW_l rfl]; exact hD s h3) hF
      · skip
        exact absurd h17 (by omega)
    · intro i hi ih L1 hA hB hC hD hF
      have := w.s hk (p := 0) (by omega)
      have := w.w hi (g := sG f k 0) (by omega)
      have := w.b hi
      refine v_iload_n 11 rfl dX8_laysRuns_10 rfl ?_
      refine v_aload_n 12 rfl dX8_laysRuns_11 rfl ?_
      refine v_get 15 (k := 1) 8 (rfv x 41) (by decide) rfl (by decide) (by decide) dX8_laysRuns_12 rfl fl_X8_7 rfl ?_
      refine v_iconst 16 (nI (0)) (by decide) dX8_laysRuns_15 rfl ?_
      refine v_iald 17 (k := 0) (nI (f 0)) (by decide) rfl (by decide) dX8_laysRuns_16 rfl rfl (by omega) r.st ?_
      refine v_icmpN_ge 87 20 dX8_laysRuns_17 (by decide) rfl (by omega) (by omega) (fun h17 => ?_) (fun h17 => ?_)
      · skip
        exact absurd h17 (by omega)
      · skip
        refine v_aload_n 21 rfl dX8_laysRuns_20 rfl ?_
        refine v_get 24 (k := 9) 8 (rfv x 46) (by decide) rfl (by decide) (by decide) dX8_laysRuns_21 rfl fl_X8_25 rfl ?_
        refine v_iload_n 25 rfl dX8_laysRuns_24 rfl ?_
        refine v_aload_n 26 rfl dX8_laysRuns_25 rfl ?_
        refine v_get 29 (k := 1) 8 (rfv x 41) (by decide) rfl (by decide) (by decide) dX8_laysRuns_26 rfl fl_X8_7 rfl ?_
        refine v_iconst 30 (nI (3)) (by decide) dX8_laysRuns_29 rfl ?_
        refine v_iload_n 31 rfl dX8_laysRuns_30 rfl ?_
        refine v_iadd 32 (nI (3 + i)) dX8_laysRuns_31 rfl (nI_add _ _) ?_
        refine v_iald 33 (k := 3 + i) (nI (bW f i)) (by decide) rfl (by decide) dX8_laysRuns_32 rfl rfl (by omega) (r.b (by omega)) ?_
        refine v_i2l 34 (lN (bW f i)) dX8_laysRuns_33 rfl (nI_l (by omega)) ?_
        refine v_aload_n 35 rfl dX8_laysRuns_34 rfl ?_
        refine v_iload_n 36 rfl dX8_laysRuns_35 rfl ?_
        refine v_aload_n 37 rfl dX8_laysRuns_36 rfl ?_
        refine v_iload_n 38 rfl dX8_laysRuns_37 rfl ?_
        refine v_iconst 39 (nI (0)) (by decide) dX8_laysRuns_38 rfl ?_
        refine v_invV 42 M_X8_signAt [.int (nI (k)), .int (nI (0))] (by decide) rfl (by decide) rfl dX8_laysRuns_39 rfl ml_X8_69 im_X8_signAt se_X8_signAt mc_X8_signAt (by decide) (Nat.le_of_ble_eq_true rfl) (sp_X8_signAt r w (by omega) (by omega) ?_)
        refine v_invV 45 M_X8_show [.int (nI (i)), .int (nI (sG f k 0))] (by decide) rfl (by decide) rfl dX8_laysRuns_42 rfl ml_X8_73 im_X8_show se_X8_show mc_X8_show (by decide) (Nat.le_of_ble_eq_true rfl) (sp_X8_show r w (by omega) (by omega) ?_)
        refine v_i2l 46 (lN (sW f i (sG f k 0))) dX8_laysRuns_45 rfl (nI_l (by omega)) ?_
        refine v_lmul 47 (lN ((bW f i) * (sW f i (sG f k 0)))) dX8_laysRuns_46 rfl (lN_mul _ _) ?_
        refine v_last 48 (k := i) (by decide) rfl (by decide) dX8_laysRuns_47 rfl rfl (by omega) (fun L47 e47 => ?_)
        refine v_aload_n 49 rfl dX8_laysRuns_48 rfl ?_
        refine v_get 52 (k := 10) 8 (rfv x 47) (by decide) rfl (by decide) (by decide) dX8_laysRuns_49 rfl fl_X8_29 rfl ?_
        refine v_iconst 53 (nI (4)) (by decide) dX8_laysRuns_52 rfl ?_
        refine v_iload_n 54 rfl dX8_laysRuns_53 rfl ?_
        refine v_imul 55 (nI (4 * (nP f k - 1))) dX8_laysRuns_54 rfl (pk_mul _ _) ?_
        refine v_iload_n 56 rfl dX8_laysRuns_55 rfl ?_
        refine v_iadd 57 (nI ((4 * (nP f k - 1)) + i)) dX8_laysRuns_56 rfl (nI_add _ _) ?_
        refine v_lconst 58 (lN (1)) rfl dX8_laysRuns_57 rfl ?_
        refine v_last 59 (k := (4 * (nP f k - 1)) + i) (by decide) rfl (by decide) dX8_laysRuns_58 rfl rfl (by omega) (fun L58 e58 => ?_)
        refine v_aload_n 60 rfl dX8_laysRuns_59 rfl ?_
        refine v_get 63 (k := 11) 8 (rfv x 48) (by decide) rfl (by decide) (by decide) dX8_laysRuns_60 rfl fl_X8_32 rfl ?_
        refine v_iconst 64 (nI (4)) (by decide) dX8_laysRuns_63 rfl ?_
        refine v_iload_n 65 rfl dX8_laysRuns_64 rfl ?_
        refine v_imul 66 (nI (4 * (nP f k - 1))) dX8_laysRuns_65 rfl (pk_mul _ _) ?_
        refine v_iload_n 67 rfl dX8_laysRuns_66 rfl ?_
        refine v_iadd 68 (nI ((4 * (nP f k - 1)) + i)) dX8_laysRuns_67 rfl (nI_add _ _) ?_
        refine v_lconst 69 (lN (1)) rfl dX8_laysRuns_68 rfl ?_
        refine v_last 70 (k := (4 * (nP f k - 1)) + i) (by decide) rfl (by decide) dX8_laysRuns_69 rfl rfl (by omega) (fun L69 e69 => ?_)
        refine v_aload_n 71 rfl dX8_laysRuns_70 rfl ?_
        refine v_get 74 (k := 12) 8 (rfv x 49) (by decide) rfl (by decide) (by decide) dX8_laysRuns_71 rfl fl_X8_35 rfl ?_
        refine v_iconst 75 (nI (4)) (by decide) dX8_laysRuns_74 rfl ?_
        refine v_iload_n 76 rfl dX8_laysRuns_75 rfl ?_
        refine v_imul 77 (nI (4 * (nP f k - 1))) dX8_laysRuns_76 rfl (pk_mul _ _) ?_
        refine v_iload_n 78 rfl dX8_laysRuns_77 rfl ?_
        refine v_iadd 79 (nI ((4 * (nP f k - 1)) + i)) dX8_laysRuns_78 rfl (nI_add _ _) ?_
        refine v_lconst 80 (lN (1)) rfl dX8_laysRuns_79 rfl ?_
        refine v_last 81 (k := (4 * (nP f k - 1)) + i) (by decide) rfl (by decide) dX8_laysRuns_80 rfl rfl (by omega) (fun L80 e80 => ?_)
        refine v_iinc 84 [some (rfv x 40), some (.int (nI (k))), some (.int (nI (nP f k - 1))), some (.int (nI (i + 1))), none, none, none, none] (nI (i + 1)) dX8_laysRuns_81 rfl (by decide) rfl (nI_inc _) rfl ?_
        refine v_goto 10 dX8_laysRuns_84 (by decide) ?_
        refine v_drop [some (rfv x 40), some (.int (nI (k))), some (.int (nI (nP f k - 1))), some (.int (nI (i + 1))), none, none, none, none] (by simp [lsub]) ?_
        refine ih L80 (fun s hs => ?_) (fun s hs => ?_) (fun s hs => ?_) (fun s hs => ?_) (fun a h1 h2 h3 h4 => ?_)
        · rw [up2_off e80 (by omega), up2_off e69 (by omega), up2_off e58 (by omega)]
          by_cases q : s = i
          · subst q
            rw [Nat.mul_zero, Nat.zero_add]
            exact up2_at e47
          · rw [up2_off e47 (by omega)]
            exact hA s (by omega)
        · rw [up2_off e80 (by omega), up2_off e69 (by omega)]
          by_cases q : s = i
          · subst q
            exact up2_at e58
          · rw [up2_off e58 (by omega), up2_off e47 (by omega)]
            exact hB s (by omega)
        · rw [up2_off e80 (by omega)]
          by_cases q : s = i
          · subst q
            exact up2_at e69
          · rw [up2_off e69 (by omega), up2_off e58 (by omega), up2_off e47 (by omega)]
            exact hC s (by omega)
        · by_cases q : s = i
          · subst q
            exact up2_at e80
          · rw [up2_off e80 (by omega), up2_off e69 (by omega), up2_off e58 (by omega), up2_off e47 (by omega)]
            exact hD s (by omega)
        · rw [up2_row e80 h4, up2_row e69 h3, up2_row e58 h2, up2_row e47 h1]
          exact hF a h1 h2 h3 h4
  refine v_drop [some (rfv x 40), some (.int (nI (k))), some (.int (nI (nP f k - 1))), some (.int (nI (0))), none, none, none, none] (by simp [lsub, smN, amN, dbW, mxN]) ?_
  exact lp 0 (Nat.zero_le _) L (fun s h => absurd h (Nat.not_lt_zero s)) (fun s h => absurd h (Nat.not_lt_zero s)) (fun s h => absurd h (Nat.not_lt_zero s)) (fun s h => absurd h (Nat.not_lt_zero s)) (fun a _ _ _ _ => rfl)
