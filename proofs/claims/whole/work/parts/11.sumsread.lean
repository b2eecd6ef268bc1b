set_option maxHeartbeats 4000000 in
theorem sp_X6_read {x : Cx} {Q : Qt} {I : Iv} {L : Lv} {P : Pv} {f : Vw} (c : RC 1 f I) (w : Wf f) {k : Nat} (hk : k < f 1) (hQ : ∀ I1 L1, (∀ a, a ≠ 29 → I1 a = I a) → (∀ a, a ≠ 29 → a ≠ 30 → a ≠ 31 → L1 a = L a) → SM f k I1 L1 → Q none I1 L1 P) : SP x M_X6_read [rfv x 29, .int (nI (k))] I L P Q := by
  have := w.n4
  have := w.n1
  have := w.m6
  have := w.p hk
  
  refine SP.intro [some (rfv x 29), some (.int (nI (k))), none, none] pn_X6_read (Nat.le_of_ble_eq_true rfl) rfl ?_
  refine v_aload_n 1 rfl dX6_read_0 rfl ?_
  refine v_iload_n 2 rfl dX6_read_1 rfl ?_
  refine v_putI 5 (k := 1) 6 .int (by decide) rfl (by decide) (by decide) rfl (by decide +kernel) rfl rfl (fun _ _ => rfl) dX6_read_2 rfl fl_X6_22 (fun I2 e2 => ?_)
  have c2 : RC 1 f I2 := c.same (fun a _ _ => up2_row e2 (by omega))
  refine v_aload_n 6 rfl dX6_read_5 rfl ?_
  refine v_aload_n 7 rfl dX6_read_6 rfl ?_
  refine v_get 10 (k := 0) 6 (rfv x 1) (by decide) rfl (by decide) (by decide) dX6_read_7 rfl fl_X6_9 rfl ?_
  refine v_getN 13 (k := 3) 3 (rfv x 3) (by decide) rfl (by decide) (by decide) dX6_read_10 rfl fl_X6_26 rfl ?_
  refine v_iload_n 14 rfl dX6_read_13 rfl ?_
  refine v_iald 15 (k := k) (nI (nP f k)) (by decide) rfl (by decide) dX6_read_14 rfl rfl (by omega) (c2.n hk) ?_
  refine v_putI 18 (k := 2) 6 .int (by decide) rfl (by decide) (by decide) rfl (by decide +kernel) rfl rfl (fun _ _ => rfl) dX6_read_15 rfl fl_X6_32 (fun I15 e15 => ?_)
  have c15 : RC 1 f I15 := c2.same (fun a _ _ => up2_row e15 (by omega))
  have hk1 : I15 29 1 = nI k := (up2_off e15 (by omega)).trans (up2_at e2)
  have hk2 : I15 29 2 = nI (nP f k) := up2_at e15
  have hI : ∀ a, a ≠ 29 → I15 a = I a := fun a ha => (up2_row e15 ha).trans (up2_row e2 ha)
  clear e2 c2 e15
  refine v_iconst 19 (nI (0)) (by decide) dX6_read_18 rfl ?_
  refine v_istore_n 20 [some (rfv x 29), some (.int (nI (k))), some (.int (nI (0))), none] dX6_read_19 rfl (by decide) rfl ?_
  have lp1 : ∀ i, i ≤ nP f k → ∀ L1 : Lv, (∀ p s, p < i → s < f 0 → L1 30 (p * 4 + s) = lN (upW f k p s)) → (∀ a, a ≠ 30 → L1 a = L a) → V x M_X6_read Q 20 [some (rfv x 29), some (.int (nI (k))), some (.int (nI (i))), none] [] I15 L1 P := by
    refine lpU ?_ ?_
    · intro L1 hA hF
      refine v_iload_n 21 rfl dX6_read_20 rfl ?_
      refine v_aload_n 22 rfl dX6_read_21 rfl ?_
      refine v_get 25 (k := 2) 6 (.int (nI (nP f k))) (by decide) rfl (by decide) (by decide) dX6_read_22 rfl fl_X6_32 (congrArg Value.int hk2) ?_
      refine v_icmpN_ge 69 28 dX6_read_25 (by decide) rfl (by omega) (by omega) (fun h25 => ?_) (fun h25 => ?_)
      · skip
        refine v_aload_n 70 rfl dX6_read_69 rfl ?_
        refine v_get 73 (k := 2) 6 (.int (nI (nP f k))) (by decide) rfl (by decide) (by decide) dX6_read_70 rfl fl_X6_32 (congrArg Value.int hk2) ?_
        refine v_iconst 74 (nI (1)) (by decide) dX6_read_73 rfl ?_
        refine v_isub 75 (nI (nP f k) + Int32.ofInt (-1)) dX6_read_74 rfl (nI_sub1 _) ?_
        refine v_istore_n 76 [some (rfv x 29), some (.int (nI (k))), some (.int (nI (nP f k) + Int32.ofInt (-1))), none] dX6_read_75 rfl (by decide) rfl ?_
        have lp2 : ∀ i, i ≤ nP f k → ∀ L2 : Lv, (∀ p s, i ≤ p → p < nP f k → s < f 0 → L2 31 (p * 4 + s) = lN (bhW f k p s)) → (∀ p s, p < nP f k → s < f 0 → L2 30 (p * 4 + s) = lN (upW f k p s)) → (∀ a, a ≠ 30 → a ≠ 31 → L2 a = L a) → V x M_X6_read Q 76 [some (rfv x 29), some (.int (nI (k))), some (.int (nI i + Int32.ofInt (-1))), none] [] I15 L2 P := by
          intro i
          induction i with
          | zero =>
            intro hn L2 hB hU hF
            refine v_iload_n 77 rfl dX6_read_76 rfl ?_
            refine v_if_lt 121 80 dX6_read_77 (by decide) rfl (fun h77 => ?_) (fun h77 => ?_)
            · skip
              refine v_aload_n 122 rfl dX6_read_121 rfl ?_
              refine v_lconst 123 (lN (0)) rfl dX6_read_122 rfl ?_
              refine v_putL 126 (k := 5) 6 .long (by decide) rfl (by decide) (by decide) rfl (by decide +kernel) rfl rfl (fun _ _ => rfl) dX6_read_123 rfl fl_X6_45 (fun L3 e123 => ?_)
              have g30 : ∀ p s, p < nP f k → s < f 0 → L3 30 (p * 4 + s) = lN (upW f k p s) := fun p s h1 h2 => (up2_off e123 (by omega)).trans (hU p s h1 h2)
              have g31 : ∀ p s, p < nP f k → s < f 0 → L3 31 (p * 4 + s) = lN (bhW f k p s) := fun p s h1 h2 => (up2_off e123 (by omega)).trans (hB p s (Nat.zero_le _) h1 h2)
              have gF : ∀ a, a ≠ 29 → a ≠ 30 → a ≠ 31 → L3 a = L a := fun a h1 h2 h3 => (up2_row e123 h1).trans (hF a h2 h3)
              have gT : L3 29 5 = lN (smN 0 (fun s => wtW f k 0 s)) := up2_at e123
              clear hB hU hF e123
              refine v_iconst 127 (nI (0)) (by decide) dX6_read_126 rfl ?_
              refine v_istore_n 128 [some (rfv x 29), some (.int (nI (k))), some (.int (nI (0))), none] dX6_read_127 rfl (by decide) rfl ?_
              have lp3 : ∀ j, j ≤ f 0 → ∀ L4 : Lv, L4 29 5 = lN (smN j (fun s => wtW f k 0 s)) → (∀ a q, (a ≠ 29 ∨ q ≠ 5) → L4 a q = L3 a q) → V x M_X6_read Q 128 [some (rfv x 29), some (.int (nI (k))), some (.int (nI (j))), none] [] I15 L4 P := by
                refine lpU ?_ ?_
                · intro L4 hT hG
                  refine v_iload_n 129 rfl dX6_read_128 rfl ?_
                  refine v_aload_n 130 rfl dX6_read_129 rfl ?_
                  refine v_get 133 (k := 0) 6 (rfv x 1) (by decide) rfl (by decide) (by decide) dX6_read_130 rfl fl_X6_9 rfl ?_
                  refine v_getN 136 (k := 1) 3 (.int (nI (f 0))) (by decide) rfl (by decide) (by decide) dX6_read_133 rfl fl_X6_35 (congrArg Value.int c15.st) ?_
                  refine v_icmpN_ge 160 139 dX6_read_136 (by decide) rfl (by omega) (by omega) (fun h136 => ?_) (fun h136 => ?_)
                  · skip
                    refine v_vret rfl dX6_read_160 ?_
                    refine hQ I15 L4 hI (fun a h1 h2 h3 => (funext (fun q => hG a q (Or.inl h1))).trans (gF a h1 h2 h3)) ⟨hk1, hk2, fun p s h1 h2 => ?_, fun p s h1 h2 => ?_, hT⟩
                    · exact (hG 30 _ (Or.inl (by omega))).trans (g30 p s h1 h2)
                    · exact (hG 31 _ (Or.inl (by omega))).trans (g31 p s h1 h2)
                  · skip
                    exact absurd h136 (by omega)
                · intro j hj ih L4 hT hG
                  refine v_iload_n 129 rfl dX6_read_128 rfl ?_
                  refine v_aload_n 130 rfl dX6_read_129 rfl ?_
                  refine v_get 133 (k := 0) 6 (rfv x 1) (by decide) rfl (by decide) (by decide) dX6_read_130 rfl fl_X6_9 rfl ?_
                  refine v_getN 136 (k := 1) 3 (.int (nI (f 0))) (by decide) rfl (by decide) (by decide) dX6_read_133 rfl fl_X6_35 (congrArg Value.int c15.st) ?_
                  refine v_icmpN_ge 160 139 dX6_read_136 (by decide) rfl (by omega) (by omega) (fun h136 => ?_) (fun h136 => ?_)
                  · skip
                    exact absurd h136 (by omega)
                  · skip
                    refine v_aload_n 140 rfl dX6_read_139 rfl ?_
                    refine v_dup 141 dX6_read_140 rfl rfl ?_
                    refine v_get 144 (k := 5) 6 (.long (lN (smN j (fun s => wtW f k 0 s)))) (by decide) rfl (by decide) (by decide) dX6_read_141 rfl fl_X6_45 (congrArg Value.long hT) ?_
                    refine v_aload_n 145 rfl dX6_read_144 rfl ?_
                    refine v_iconst 146 (nI (0)) (by decide) dX6_read_145 rfl ?_
                    refine v_iload_n 147 rfl dX6_read_146 rfl ?_
                    refine v_invV 150 M_X6_at [.int (nI (0)), .int (nI (j))] (by decide) rfl (by decide) rfl dX6_read_147 rfl ml_X6_49 im_X6_at se_X6_at mc_X6_at (by decide) (Nat.le_of_ble_eq_true rfl) (sp_X6_at (by omega) (by omega) ((hG 30 _ (Or.inl (by omega))).trans (g30 0 j (by omega) hj)) ((hG 31 _ (Or.inl (by omega))).trans (g31 0 j (by omega) hj)) ?_)
                    refine v_ladd 151 (lN ((smN j (fun s => wtW f k 0 s)) + (upW f k 0 j * bhW f k 0 j))) dX6_read_150 rfl (lN_add _ _) ?_
                    refine v_putL 154 (k := 5) 6 .long (by decide) rfl (by decide) (by decide) rfl (by decide +kernel) rfl rfl (fun _ _ => rfl) dX6_read_151 rfl fl_X6_45 (fun L151 e151 => ?_)
                    refine v_iinc 157 [some (rfv x 29), some (.int (nI (k))), some (.int (nI (j + 1))), none] (nI (j + 1)) dX6_read_154 rfl (by decide) rfl (nI_inc _) rfl ?_
                    refine v_goto 128 dX6_read_157 (by decide) ?_
                    refine v_drop [some (rfv x 29), some (.int (nI (k))), some (.int (nI (j + 1))), none] (by simp [lsub, smN_s]) ?_
                    exact ih L151 ((up2_at e151).trans rfl) (fun a q ha => (up2_off e151 (by omega)).trans (hG a q ha))
              refine v_drop [some (rfv x 29), some (.int (nI (k))), some (.int (nI (0))), none] (by simp [lsub, smN, amN, dbW, mxN]) ?_
              exact lp3 0 (Nat.zero_le _) L3 gT (fun _ _ _ => rfl)
            · skip
              exact absurd (by decide : nI 0 + Int32.ofInt (-1) < 0) h77
          | succ i ih =>
            intro hn L2 hB hU hF
            rw [nI_m1 i]
            refine v_iload_n 77 rfl dX6_read_76 rfl ?_
            refine v_ifN_lt 121 80 dX6_read_77 (by decide) rfl (by omega) ?_
            refine v_iconst 81 (nI (0)) (by decide) dX6_read_80 rfl ?_
            refine v_istore_n 82 [some (rfv x 29), some (.int (nI (k))), some (.int (nI (i))), some (.int (nI (0)))] dX6_read_81 rfl (by decide) rfl ?_
            have lp2i : ∀ j, j ≤ f 0 → ∀ L5 : Lv, (∀ s, s < j → L5 31 (i * 4 + s) = lN (bhW f k i s)) → (∀ p s, i + 1 ≤ p → p < nP f k → s < f 0 → L5 31 (p * 4 + s) = lN (bhW f k p s)) → (∀ p s, p < nP f k → s < f 0 → L5 30 (p * 4 + s) = lN (upW f k p s)) → (∀ a, a ≠ 30 → a ≠ 31 → L5 a = L a) → V x M_X6_read Q 82 [some (rfv x 29), some (.int (nI (k))), some (.int (nI (i))), some (.int (nI (j)))] [] I15 L5 P := by
              refine lpU ?_ ?_
              · intro L5 hC hB hU hF
                refine v_iload_n 83 rfl dX6_read_82 rfl ?_
                refine v_aload_n 84 rfl dX6_read_83 rfl ?_
                refine v_get 87 (k := 0) 6 (rfv x 1) (by decide) rfl (by decide) (by decide) dX6_read_84 rfl fl_X6_9 rfl ?_
                refine v_getN 90 (k := 1) 3 (.int (nI (f 0))) (by decide) rfl (by decide) (by decide) dX6_read_87 rfl fl_X6_35 (congrArg Value.int c15.st) ?_
                refine v_icmpN_ge 115 93 dX6_read_90 (by decide) rfl (by omega) (by omega) (fun h90 => ?_) (fun h90 => ?_)
                · skip
                  refine v_iinc 118 [some (rfv x 29), some (.int (nI (k))), some (.int (nI i + Int32.ofInt (-1))), some (.int (nI (f 0)))] (nI i + Int32.ofInt (-1)) dX6_read_115 rfl (by decide) rfl rfl rfl ?_
                  refine v_goto 76 dX6_read_118 (by decide) ?_
                  refine v_drop [some (rfv x 29), some (.int (nI (k))), some (.int (nI i + Int32.ofInt (-1))), none] (by simp [lsub, smN_s]) ?_
                  refine ih (by omega) L5 (fun p s h1 h2 h3 => ?_) hU hF
                  rcases Nat.eq_or_lt_of_le h1 with q | q
                  · subst q
                    exact hC s h3
                  · exact hB p s q h2 h3
                · skip
                  exact absurd h90 (by omega)
              · intro j hj ih L5 hC hB hU hF
                refine v_iload_n 83 rfl dX6_read_82 rfl ?_
                refine v_aload_n 84 rfl dX6_read_83 rfl ?_
                refine v_get 87 (k := 0) 6 (rfv x 1) (by decide) rfl (by decide) (by decide) dX6_read_84 rfl fl_X6_9 rfl ?_
                refine v_getN 90 (k := 1) 3 (.int (nI (f 0))) (by decide) rfl (by decide) (by decide) dX6_read_87 rfl fl_X6_35 (congrArg Value.int c15.st) ?_
                refine v_icmpN_ge 115 93 dX6_read_90 (by decide) rfl (by omega) (by omega) (fun h90 => ?_) (fun h90 => ?_)
                · skip
                  exact absurd h90 (by omega)
                · skip
                  refine v_aload_n 94 rfl dX6_read_93 rfl ?_
                  refine v_get 97 (k := 4) 6 (rfv x 31) (by decide) rfl (by decide) (by decide) dX6_read_94 rfl fl_X6_19 rfl ?_
                  refine v_iload_n 98 rfl dX6_read_97 rfl ?_
                  refine v_iconst 99 (nI (4)) (by decide) dX6_read_98 rfl ?_
                  refine v_imul 100 (nI (i * 4)) dX6_read_99 rfl (pk_mul _ _) ?_
                  refine v_iload_n 101 rfl dX6_read_100 rfl ?_
                  refine v_iadd 102 (nI ((i * 4) + j)) dX6_read_101 rfl (nI_add _ _) ?_
                  refine v_aload_n 103 rfl dX6_read_102 rfl ?_
                  refine v_iload_n 104 rfl dX6_read_103 rfl ?_
                  refine v_iload_n 105 rfl dX6_read_104 rfl ?_
                  refine v_invV 108 M_X6_behindOf [.int (nI (i)), .int (nI (j))] (by decide) rfl (by decide) rfl dX6_read_105 rfl ml_X6_42 im_X6_behindOf se_X6_behindOf mc_X6_behindOf (by decide) (Nat.le_of_ble_eq_true rfl) (sp_X6_behindOf c15 w hk hk1 hk2 hj (by omega) (fun h1 t ht => hB (i + 1) t (Nat.le_refl _) h1 ht) ?_)
                  refine v_last 109 (k := (i * 4) + j) (by decide) rfl (by decide) dX6_read_108 rfl rfl (by omega) (fun L108 e108 => ?_)
                  refine v_iinc 112 [some (rfv x 29), some (.int (nI (k))), some (.int (nI (i))), some (.int (nI (j + 1)))] (nI (j + 1)) dX6_read_109 rfl (by decide) rfl (nI_inc _) rfl ?_
                  refine v_goto 82 dX6_read_112 (by decide) ?_
                  refine v_drop [some (rfv x 29), some (.int (nI (k))), some (.int (nI (i))), some (.int (nI (j + 1)))] (by simp [lsub, smN_s]) ?_
                  refine ih L108 (fun s hs => ?_) (fun p s h1 h2 h3 => ?_) (fun p s h1 h2 => ?_) (fun a h1 h2 => ?_)
                  · by_cases q : s = j
                    · subst q
                      exact up2_at e108
                    · exact (up2_off e108 (by omega)).trans (hC s (by omega))
                  · exact (up2_off e108 (by omega)).trans (hB p s h1 h2 h3)
                  · exact (up2_off e108 (by omega)).trans (hU p s h1 h2)
                  · exact (up2_row e108 h2).trans (hF a h1 h2)
            refine v_drop [some (rfv x 29), some (.int (nI (k))), some (.int (nI (i))), some (.int (nI (0)))] (by simp [lsub, smN, amN, dbW, mxN]) ?_
            exact lp2i 0 (Nat.zero_le _) L2 (fun s h => absurd h (Nat.not_lt_zero s)) hB hU hF
        refine v_drop [some (rfv x 29), some (.int (nI (k))), some (.int (nI (nP f k) + Int32.ofInt (-1))), none] (by simp [lsub, smN_s]) ?_
        exact lp2 (nP f k) (Nat.le_refl _) L1 (fun p s h1 h2 h3 => absurd h1 (by omega)) hA (fun a h1 _ => hF a h1)
      · skip
        exact absurd h25 (by omega)
    · intro i hi ih L1 hA hF
      refine v_iload_n 21 rfl dX6_read_20 rfl ?_
      refine v_aload_n 22 rfl dX6_read_21 rfl ?_
      refine v_get 25 (k := 2) 6 (.int (nI (nP f k))) (by decide) rfl (by decide) (by decide) dX6_read_22 rfl fl_X6_32 (congrArg Value.int hk2) ?_
      refine v_icmpN_ge 69 28 dX6_read_25 (by decide) rfl (by omega) (by omega) (fun h25 => ?_) (fun h25 => ?_)
      · skip
        exact absurd h25 (by omega)
      · skip
        refine v_iconst 29 (nI (0)) (by decide) dX6_read_28 rfl ?_
        refine v_istore_n 30 [some (rfv x 29), some (.int (nI (k))), some (.int (nI (i))), some (.int (nI (0)))] dX6_read_29 rfl (by decide) rfl ?_
        have lp1i : ∀ j, j ≤ f 0 → ∀ L6 : Lv, (∀ s, s < j → L6 30 (i * 4 + s) = lN (upW f k i s)) → (∀ p s, p < i → s < f 0 → L6 30 (p * 4 + s) = lN (upW f k p s)) → (∀ a, a ≠ 30 → L6 a = L a) → V x M_X6_read Q 30 [some (rfv x 29), some (.int (nI (k))), some (.int (nI (i))), some (.int (nI (j)))] [] I15 L6 P := by
          refine lpU ?_ ?_
          · intro L6 hC hA hF
            refine v_iload_n 31 rfl dX6_read_30 rfl ?_
            refine v_aload_n 32 rfl dX6_read_31 rfl ?_
            refine v_get 35 (k := 0) 6 (rfv x 1) (by decide) rfl (by decide) (by decide) dX6_read_32 rfl fl_X6_9 rfl ?_
            refine v_getN 38 (k := 1) 3 (.int (nI (f 0))) (by decide) rfl (by decide) (by decide) dX6_read_35 rfl fl_X6_35 (congrArg Value.int c15.st) ?_
            refine v_icmpN_ge 63 41 dX6_read_38 (by decide) rfl (by omega) (by omega) (fun h38 => ?_) (fun h38 => ?_)
            · skip
              refine v_iinc 66 [some (rfv x 29), some (.int (nI (k))), some (.int (nI (i + 1))), some (.int (nI (f 0)))] (nI (i + 1)) dX6_read_63 rfl (by decide) rfl (nI_inc _) rfl ?_
              refine v_goto 20 dX6_read_66 (by decide) ?_
              refine v_drop [some (rfv x 29), some (.int (nI (k))), some (.int (nI (i + 1))), none] (by simp [lsub, smN_s]) ?_
              refine ih L6 (fun p s h1 h2 => ?_) hF
              rcases Nat.lt_or_ge p i with q | q
              · exact hA p s q h2
              · rw [show p = i by omega]
                exact hC s h2
            · skip
              exact absurd h38 (by omega)
          · intro j hj ih L6 hC hA hF
            refine v_iload_n 31 rfl dX6_read_30 rfl ?_
            refine v_aload_n 32 rfl dX6_read_31 rfl ?_
            refine v_get 35 (k := 0) 6 (rfv x 1) (by decide) rfl (by decide) (by decide) dX6_read_32 rfl fl_X6_9 rfl ?_
            refine v_getN 38 (k := 1) 3 (.int (nI (f 0))) (by decide) rfl (by decide) (by decide) dX6_read_35 rfl fl_X6_35 (congrArg Value.int c15.st) ?_
            refine v_icmpN_ge 63 41 dX6_read_38 (by decide) rfl (by omega) (by omega) (fun h38 => ?_) (fun h38 => ?_)
            · skip
              exact absurd h38 (by omega)
            · skip
              refine v_aload_n 42 rfl dX6_read_41 rfl ?_
              refine v_get 45 (k := 3) 6 (rfv x 30) (by decide) rfl (by decide) (by decide) dX6_read_42 rfl fl_X6_15 rfl ?_
              refine v_iload_n 46 rfl dX6_read_45 rfl ?_
              refine v_iconst 47 (nI (4)) (by decide) dX6_read_46 rfl ?_
              refine v_imul 48 (nI (i * 4)) dX6_read_47 rfl (pk_mul _ _) ?_
              refine v_iload_n 49 rfl dX6_read_48 rfl ?_
              refine v_iadd 50 (nI ((i * 4) + j)) dX6_read_49 rfl (nI_add _ _) ?_
              refine v_aload_n 51 rfl dX6_read_50 rfl ?_
              refine v_iload_n 52 rfl dX6_read_51 rfl ?_
              refine v_iload_n 53 rfl dX6_read_52 rfl ?_
              refine v_invV 56 M_X6_aheadOf [.int (nI (i)), .int (nI (j))] (by decide) rfl (by decide) rfl dX6_read_53 rfl ml_X6_38 im_X6_aheadOf se_X6_aheadOf mc_X6_aheadOf (by decide) (Nat.le_of_ble_eq_true rfl) (sp_X6_aheadOf c15 w hk hk1 hj hi (fun h1 t ht => hA (i - 1) t (by omega) ht) ?_)
              refine v_last 57 (k := (i * 4) + j) (by decide) rfl (by decide) dX6_read_56 rfl rfl (by omega) (fun L56 e56 => ?_)
              refine v_iinc 60 [some (rfv x 29), some (.int (nI (k))), some (.int (nI (i))), some (.int (nI (j + 1)))] (nI (j + 1)) dX6_read_57 rfl (by decide) rfl (nI_inc _) rfl ?_
              refine v_goto 30 dX6_read_60 (by decide) ?_
              refine v_drop [some (rfv x 29), some (.int (nI (k))), some (.int (nI (i))), some (.int (nI (j + 1)))] (by simp [lsub, smN_s]) ?_
              refine ih L56 (fun s hs => ?_) (fun p s h1 h2 => ?_) (fun a h1 => ?_)
              · by_cases q : s = j
                · subst q
                  exact up2_at e56
                · exact (up2_off e56 (by omega)).trans (hC s (by omega))
              · exact (up2_off e56 (by omega)).trans (hA p s h1 h2)
              · exact (up2_row e56 h1).trans (hF a h1)
        refine v_drop [some (rfv x 29), some (.int (nI (k))), some (.int (nI (i))), some (.int (nI (0)))] (by simp [lsub, smN, amN, dbW, mxN]) ?_
        exact lp1i 0 (Nat.zero_le _) L1 (fun s h => absurd h (Nat.not_lt_zero s)) hA hF
  refine v_drop [some (rfv x 29), some (.int (nI (k))), some (.int (nI (0))), none] (by simp [lsub, smN, amN, dbW, mxN]) ?_
  exact lp1 0 (Nat.zero_le _) L (fun p s h _ => absurd h (Nat.not_lt_zero p)) (fun _ _ => rfl)
