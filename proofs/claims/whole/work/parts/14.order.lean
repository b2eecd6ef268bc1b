set_option maxHeartbeats 4000000 in
theorem sp_X4_entering {x : Cx} {Q : Qt} {I : Iv} {L : Lv} {P : Pv} {f : Vw} (c : RC 1 f I) (w : Wf f) {k p b s : Nat} (hk : k < f 1) (hb : 0 < p → b < f 0) (hs : s < f 0) (hp : p < nP f k) (h36 : I 36 (p * 4 + s) = nI (ptW f k p s)) (hQ : Q (some (.int (nI (enW f k p b s)))) I L P) : SP x M_X4_entering [rfv x 35, .int (nI (p)), .int (nI (b)), .int (nI (s))] I L P Q := by
  have := w.n4
  have := w.n1
  have := w.m6
  have := w.p hk
  have := w.b hs
  refine SP.intro [some (rfv x 35), some (.int (nI (p))), some (.int (nI (b))), some (.int (nI (s))), none] pn_X4_entering (Nat.le_of_ble_eq_true rfl) rfl ?_
  refine v_iload_n 1 rfl dX4_entering_0 rfl ?_
  refine v_ifN_ne 15 4 dX4_entering_1 (by decide) rfl (by omega) (fun h1 => ?_) (fun h1 => ?_)
  · skip
    have hb2 : b < f 0 := hb (by omega)
    have := w.g hb2 hs
    refine v_aload_n 16 rfl dX4_entering_15 rfl ?_
    refine v_get 19 (k := 0) 4 (rfv x 1) (by decide) rfl (by decide) (by decide) dX4_entering_16 rfl fl_X4_9 rfl ?_
    refine v_iload_n 20 rfl dX4_entering_19 rfl ?_
    refine v_iload_n 21 rfl dX4_entering_20 rfl ?_
    refine v_invV 24 M_X3_go [.int (nI (b)), .int (nI (s))] (by decide) rfl (by decide) rfl dX4_entering_21 rfl ml_X4_46 im_X3_go se_X3_go mc_X3_go (by decide) (Nat.le_of_ble_eq_true rfl) (sp_X3_go c w (by omega) (by omega) ?_)
    refine v_istore 26 [some (rfv x 35), some (.int (nI (p))), some (.int (nI (b))), some (.int (nI (s))), some (.int (nI (gW f b s)))] dX4_entering_24 rfl (by decide) rfl ?_
    refine v_iload 28 rfl dX4_entering_26 rfl ?_
    refine v_ifN_le 44 31 dX4_entering_28 (by decide) rfl (by omega) (fun h28 => ?_) (fun h28 => ?_)
    · skip
      refine v_iconst 45 (nI (0)) (by decide) dX4_entering_44 rfl ?_
      refine v_iret rfl dX4_entering_45 ?_
      first | exact qI hQ (by rw [enW, if_pos h1, if_pos h28]) | exact qI hQ (by rw [enW, if_pos h1, if_neg (by omega)]) | exact qI hQ (by rw [enW, if_neg h1, if_pos h28]) | exact qI hQ (by rw [enW, if_neg h1, if_neg (by omega)])
    · skip
      refine v_aload_n 32 rfl dX4_entering_31 rfl ?_
      refine v_get 35 (k := 1) 4 (rfv x 36) (by decide) rfl (by decide) (by decide) dX4_entering_32 rfl fl_X4_15 rfl ?_
      refine v_iload_n 36 rfl dX4_entering_35 rfl ?_
      refine v_iconst 37 (nI (4)) (by decide) dX4_entering_36 rfl ?_
      refine v_imul 38 (nI (p * 4)) dX4_entering_37 rfl (pk_mul _ _) ?_
      refine v_iload_n 39 rfl dX4_entering_38 rfl ?_
      refine v_iadd 40 (nI ((p * 4) + s)) dX4_entering_39 rfl (nI_add _ _) ?_
      refine v_iald 41 (k := (p * 4) + s) (nI (ptW f k p s)) (by decide) rfl (by decide) dX4_entering_40 rfl rfl (by omega) h36 ?_
      refine v_goto 45 dX4_entering_41 (by decide) ?_
      refine v_iret rfl dX4_entering_45 ?_
      first | exact qI hQ (by rw [enW, if_pos h1, if_pos h28]) | exact qI hQ (by rw [enW, if_pos h1, if_neg (by omega)]) | exact qI hQ (by rw [enW, if_neg h1, if_pos h28]) | exact qI hQ (by rw [enW, if_neg h1, if_neg (by omega)])
  · skip
    refine v_aload_n 5 rfl dX4_entering_4 rfl ?_
    refine v_get 8 (k := 0) 4 (rfv x 1) (by decide) rfl (by decide) (by decide) dX4_entering_5 rfl fl_X4_9 rfl ?_
    refine v_iload_n 9 rfl dX4_entering_8 rfl ?_
    refine v_invV 12 M_X3_begin [.int (nI (s))] (by decide) rfl (by decide) rfl dX4_entering_9 rfl ml_X4_42 im_X3_begin se_X3_begin mc_X3_begin (by decide) (Nat.le_of_ble_eq_true rfl) (sp_X3_begin c w (by omega) ?_)
    refine v_goto 24 dX4_entering_12 (by decide) ?_
    refine v_istore 26 [some (rfv x 35), some (.int (nI (p))), some (.int (nI (b))), some (.int (nI (s))), some (.int (nI (bW f s)))] dX4_entering_24 rfl (by decide) rfl ?_
    refine v_iload 28 rfl dX4_entering_26 rfl ?_
    refine v_ifN_le 44 31 dX4_entering_28 (by decide) rfl (by omega) (fun h28 => ?_) (fun h28 => ?_)
    · skip
      refine v_iconst 45 (nI (0)) (by decide) dX4_entering_44 rfl ?_
      refine v_iret rfl dX4_entering_45 ?_
      first | exact qI hQ (by rw [enW, if_pos h1, if_pos h28]) | exact qI hQ (by rw [enW, if_pos h1, if_neg (by omega)]) | exact qI hQ (by rw [enW, if_neg h1, if_pos h28]) | exact qI hQ (by rw [enW, if_neg h1, if_neg (by omega)])
    · skip
      refine v_aload_n 32 rfl dX4_entering_31 rfl ?_
      refine v_get 35 (k := 1) 4 (rfv x 36) (by decide) rfl (by decide) (by decide) dX4_entering_32 rfl fl_X4_15 rfl ?_
      refine v_iload_n 36 rfl dX4_entering_35 rfl ?_
      refine v_iconst 37 (nI (4)) (by decide) dX4_entering_36 rfl ?_
      refine v_imul 38 (nI (p * 4)) dX4_entering_37 rfl (pk_mul _ _) ?_
      refine v_iload_n 39 rfl dX4_entering_38 rfl ?_
      refine v_iadd 40 (nI ((p * 4) + s)) dX4_entering_39 rfl (nI_add _ _) ?_
      refine v_iald 41 (k := (p * 4) + s) (nI (ptW f k p s)) (by decide) rfl (by decide) dX4_entering_40 rfl rfl (by omega) h36 ?_
      refine v_goto 45 dX4_entering_41 (by decide) ?_
      refine v_iret rfl dX4_entering_45 ?_
      first | exact qI hQ (by rw [enW, if_pos h1, if_pos h28]) | exact qI hQ (by rw [enW, if_pos h1, if_neg (by omega)]) | exact qI hQ (by rw [enW, if_neg h1, if_pos h28]) | exact qI hQ (by rw [enW, if_neg h1, if_neg (by omega)])
set_option maxHeartbeats 4000000 in
theorem sp_X4_partsBehind {x : Cx} {Q : Qt} {I : Iv} {L : Lv} {P : Pv} {f : Vw} (c : RC 1 f I) (w : Wf f) {k p s : Nat} (hk : k < f 1) (hs : s < f 0) (hp : p + 1 < nP f k) (h36 : ∀ t, t < f 0 → I 36 ((p + 1) * 4 + t) = nI (ptW f k (p + 1) t)) (hQ : Q (some (.int (nI (mnW f k p s)))) I L P) : SP x M_X4_partsBehind [rfv x 35, .int (nI (p)), .int (nI (s))] I L P Q := by
  have := w.n4
  have := w.n1
  have := w.m6
  have := w.p hk
  
  refine SP.intro [some (rfv x 35), some (.int (nI (p))), some (.int (nI (s))), none, none] pn_X4_partsBehind (Nat.le_of_ble_eq_true rfl) rfl ?_
  refine v_iconst 1 (nI (0)) (by decide) dX4_partsBehind_0 rfl ?_
  refine v_istore_n 2 [some (rfv x 35), some (.int (nI (p))), some (.int (nI (s))), some (.int (nI (0))), none] dX4_partsBehind_1 rfl (by decide) rfl ?_
  refine v_iconst 3 (nI (0)) (by decide) dX4_partsBehind_2 rfl ?_
  refine v_istore 5 [some (rfv x 35), some (.int (nI (p))), some (.int (nI (s))), some (.int (nI (0))), some (.int (nI (0)))] dX4_partsBehind_3 rfl (by decide) rfl ?_
  have lp : ∀ i, i ≤ f 0 → V x M_X4_partsBehind Q 5 [some (rfv x 35), some (.int (nI (p))), some (.int (nI (s))), some (.int (nI (smN i (fun t => enW f k (p + 1) s t)))), some (.int (nI (i)))] [] I L P := by
    refine lpU ?_ ?_
    · skip
      refine v_iload 7 rfl dX4_partsBehind_5 rfl ?_
      refine v_aload_n 8 rfl dX4_partsBehind_7 rfl ?_
      refine v_get 11 (k := 0) 4 (rfv x 1) (by decide) rfl (by decide) (by decide) dX4_partsBehind_8 rfl fl_X4_9 rfl ?_
      refine v_getN 14 (k := 1) 3 (.int (nI (f 0))) (by decide) rfl (by decide) (by decide) dX4_partsBehind_11 rfl fl_X4_24 (congrArg Value.int c.st) ?_
      refine v_icmpN_ge 36 17 dX4_partsBehind_14 (by decide) rfl (by omega) (by omega) (fun h14 => ?_) (fun h14 => ?_)
      · skip
        refine v_iload_n 37 rfl dX4_partsBehind_36 rfl ?_
        refine v_iret rfl dX4_partsBehind_37 ?_
        exact qI hQ (en_mn hp)
      · skip
        exact absurd h14 (by omega)
    · intro i hi ih 
      refine v_iload 7 rfl dX4_partsBehind_5 rfl ?_
      refine v_aload_n 8 rfl dX4_partsBehind_7 rfl ?_
      refine v_get 11 (k := 0) 4 (rfv x 1) (by decide) rfl (by decide) (by decide) dX4_partsBehind_8 rfl fl_X4_9 rfl ?_
      refine v_getN 14 (k := 1) 3 (.int (nI (f 0))) (by decide) rfl (by decide) (by decide) dX4_partsBehind_11 rfl fl_X4_24 (congrArg Value.int c.st) ?_
      refine v_icmpN_ge 36 17 dX4_partsBehind_14 (by decide) rfl (by omega) (by omega) (fun h14 => ?_) (fun h14 => ?_)
      · skip
        exact absurd h14 (by omega)
      · skip
        refine v_iload_n 18 rfl dX4_partsBehind_17 rfl ?_
        refine v_aload_n 19 rfl dX4_partsBehind_18 rfl ?_
        refine v_iload_n 20 rfl dX4_partsBehind_19 rfl ?_
        refine v_iconst 21 (nI (1)) (by decide) dX4_partsBehind_20 rfl ?_
        refine v_iadd 22 (nI (p + 1)) dX4_partsBehind_21 rfl (nI_add _ _) ?_
        refine v_iload_n 23 rfl dX4_partsBehind_22 rfl ?_
        refine v_iload 25 rfl dX4_partsBehind_23 rfl ?_
        refine v_invV 28 M_X4_entering [.int (nI (p + 1)), .int (nI (s)), .int (nI (i))] (by decide) rfl (by decide) rfl dX4_partsBehind_25 rfl ml_X4_39 im_X4_entering se_X4_entering mc_X4_entering (by decide) (Nat.le_of_ble_eq_true rfl) (sp_X4_entering (k := k) c w hk (fun _ => hs) hi hp (h36 i hi) ?_)
        refine v_iadd 29 (nI ((smN i (fun t => enW f k (p + 1) s t)) + (enW f k (p + 1) s i))) dX4_partsBehind_28 rfl (nI_add _ _) ?_
        refine v_istore_n 30 [some (rfv x 35), some (.int (nI (p))), some (.int (nI (s))), some (.int (nI ((smN i (fun t => enW f k (p + 1) s t)) + (enW f k (p + 1) s i)))), some (.int (nI (i)))] dX4_partsBehind_29 rfl (by decide) rfl ?_
        refine v_iinc 33 [some (rfv x 35), some (.int (nI (p))), some (.int (nI (s))), some (.int (nI ((smN i (fun t => enW f k (p + 1) s t)) + (enW f k (p + 1) s i)))), some (.int (nI (i + 1)))] (nI (i + 1)) dX4_partsBehind_30 rfl (by decide) rfl (nI_inc _) rfl ?_
        refine v_goto 5 dX4_partsBehind_33 (by decide) ?_
        refine v_drop [some (rfv x 35), some (.int (nI (p))), some (.int (nI (s))), some (.int (nI (smN (i + 1) (fun t => enW f k (p + 1) s t)))), some (.int (nI (i + 1)))] (by simp [lsub, smN_s]) ?_
        exact ih
  refine v_drop [some (rfv x 35), some (.int (nI (p))), some (.int (nI (s))), some (.int (nI (smN 0 (fun t => enW f k (p + 1) s t)))), some (.int (nI (0)))] (by simp [lsub, smN, amN, dbW, mxN]) ?_
  exact lp 0 (Nat.zero_le _)
set_option maxHeartbeats 4000000 in
theorem sp_X4_read {x : Cx} {Q : Qt} {I : Iv} {L : Lv} {P : Pv} {f : Vw} (c : RC 1 f I) (w : Wf f) {k : Nat} (hk : k < f 1) (hQ : ∀ I1, (∀ a, a ≠ 35 → a ≠ 36 → I1 a = I a) → RM f k I1 → Q none I1 L P) : SP x M_X4_read [rfv x 35, .int (nI (k))] I L P Q := by
  have := w.n4
  have := w.n1
  have := w.m6
  have := w.p hk
  
  refine SP.intro [some (rfv x 35), some (.int (nI (k))), none, none, none, none, none] pn_X4_read (Nat.le_of_ble_eq_true rfl) rfl ?_
  refine v_aload_n 1 rfl dX4_read_0 rfl ?_
  refine v_get 4 (k := 0) 4 (rfv x 1) (by decide) rfl (by decide) (by decide) dX4_read_1 rfl fl_X4_9 rfl ?_
  refine v_getN 7 (k := 3) 3 (rfv x 3) (by decide) rfl (by decide) (by decide) dX4_read_4 rfl fl_X4_19 rfl ?_
  refine v_iload_n 8 rfl dX4_read_7 rfl ?_
  refine v_iald 9 (k := k) (nI (nP f k)) (by decide) rfl (by decide) dX4_read_8 rfl rfl (by omega) (c.n hk) ?_
  refine v_istore_n 10 [some (rfv x 35), some (.int (nI (k))), some (.int (nI (nP f k))), none, none, none, none] dX4_read_9 rfl (by decide) rfl ?_
  refine v_iload_n 11 rfl dX4_read_10 rfl ?_
  refine v_iconst 12 (nI (1)) (by decide) dX4_read_11 rfl ?_
  refine v_isub 13 (nI (nP f k) + Int32.ofInt (-1)) dX4_read_12 rfl (nI_sub1 _) ?_
  refine v_istore_n 14 [some (rfv x 35), some (.int (nI (k))), some (.int (nI (nP f k))), some (.int (nI (nP f k) + Int32.ofInt (-1))), none, none, none] dX4_read_13 rfl (by decide) rfl ?_
  have lp : ∀ i, i ≤ nP f k → ∀ I2r : Iv, (∀ p s, i ≤ p → p < nP f k → s < f 0 → I2r 36 (p * 4 + s) = nI (ptW f k p s)) → (∀ a, a ≠ 35 → a ≠ 36 → I2r a = I a) → V x M_X4_read Q 14 [some (rfv x 35), some (.int (nI (k))), some (.int (nI (nP f k))), some (.int (nI i + Int32.ofInt (-1))), none, none, none] [] I2r L P := by
    intro i
    induction i with
    | zero =>
      intro hn I2r hB hF
      refine v_iload_n 15 rfl dX4_read_14 rfl ?_
      refine v_if_lt 108 18 dX4_read_15 (by decide) rfl (fun h15 => ?_) (fun h15 => ?_)
      · skip
        have h36 : ∀ p s, p < nP f k → s < f 0 → I2r 36 (p * 4 + s) = nI (ptW f k p s) := fun p s h1 h2 => hB p s (Nat.zero_le _) h1 h2
        clear hB
        refine v_aload_n 109 rfl dX4_read_108 rfl ?_
        refine v_iconst 110 (nI (0)) (by decide) dX4_read_109 rfl ?_
        refine v_putI 113 (k := 2) 4 .int (by decide) rfl (by decide) (by decide) rfl (by decide +kernel) rfl rfl (fun _ _ => rfl) dX4_read_110 rfl fl_X4_36 (fun I110 e110 => ?_)
        refine v_iconst 114 (nI (0)) (by decide) dX4_read_113 rfl ?_
        refine v_istore_n 115 [some (rfv x 35), some (.int (nI (k))), some (.int (nI (nP f k))), some (.int (nI (0))), none, none, none] dX4_read_114 rfl (by decide) rfl ?_
        have lr : ∀ i, i ≤ f 0 → ∀ I7r : Iv, I7r 35 2 = nI (smN i (fun s => enW f k 0 0 s)) → (∀ p s, p < nP f k → s < f 0 → I7r 36 (p * 4 + s) = nI (ptW f k p s)) → (∀ a, a ≠ 35 → a ≠ 36 → I7r a = I a) → V x M_X4_read Q 115 [some (rfv x 35), some (.int (nI (k))), some (.int (nI (nP f k))), some (.int (nI (i))), none, none, none] [] I7r L P := by
          refine lpU ?_ ?_
          · intro I7r hT hA hF
            refine v_iload_n 116 rfl dX4_read_115 rfl ?_
            refine v_aload_n 117 rfl dX4_read_116 rfl ?_
            refine v_get 120 (k := 0) 4 (rfv x 1) (by decide) rfl (by decide) (by decide) dX4_read_117 rfl fl_X4_9 rfl ?_
            refine v_getN 123 (k := 1) 3 (.int (nI (f 0))) (by decide) rfl (by decide) (by decide) dX4_read_120 rfl fl_X4_24 (congrArg Value.int (RC.same (I' := I7r) c (fun a _ _ => hF a (by omega) (by omega))).st) ?_
            refine v_icmpN_ge 148 126 dX4_read_123 (by decide) rfl (by omega) (by omega) (fun h123 => ?_) (fun h123 => ?_)
            · skip
              refine v_vret rfl dX4_read_148 ?_
              exact hQ I7r hF ⟨hA, hT⟩
            · skip
              exact absurd h123 (by omega)
          · intro i hi ih I7r hT hA hF
            refine v_iload_n 116 rfl dX4_read_115 rfl ?_
            refine v_aload_n 117 rfl dX4_read_116 rfl ?_
            refine v_get 120 (k := 0) 4 (rfv x 1) (by decide) rfl (by decide) (by decide) dX4_read_117 rfl fl_X4_9 rfl ?_
            refine v_getN 123 (k := 1) 3 (.int (nI (f 0))) (by decide) rfl (by decide) (by decide) dX4_read_120 rfl fl_X4_24 (congrArg Value.int (RC.same (I' := I7r) c (fun a _ _ => hF a (by omega) (by omega))).st) ?_
            refine v_icmpN_ge 148 126 dX4_read_123 (by decide) rfl (by omega) (by omega) (fun h123 => ?_) (fun h123 => ?_)
            · skip
              exact absurd h123 (by omega)
            · skip
              refine v_aload_n 127 rfl dX4_read_126 rfl ?_
              refine v_dup 128 dX4_read_127 rfl rfl ?_
              refine v_get 131 (k := 2) 4 (.int (nI (smN i (fun s => enW f k 0 0 s)))) (by decide) rfl (by decide) (by decide) dX4_read_128 rfl fl_X4_36 (congrArg Value.int hT) ?_
              refine v_aload_n 132 rfl dX4_read_131 rfl ?_
              refine v_iconst 133 (nI (0)) (by decide) dX4_read_132 rfl ?_
              refine v_iconst 134 (nI (0)) (by decide) dX4_read_133 rfl ?_
              refine v_iload_n 135 rfl dX4_read_134 rfl ?_
              refine v_invV 138 M_X4_entering [.int (nI (0)), .int (nI (0)), .int (nI (i))] (by decide) rfl (by decide) rfl dX4_read_135 rfl ml_X4_39 im_X4_entering se_X4_entering mc_X4_entering (by decide) (Nat.le_of_ble_eq_true rfl) (sp_X4_entering (k := k) (c.same (fun a _ _ => hF a (by omega) (by omega))) w hk (fun h => absurd h (by omega)) hi (by omega) (hA 0 i (by omega) hi) ?_)
              refine v_iadd 139 (nI ((smN i (fun s => enW f k 0 0 s)) + (enW f k 0 0 i))) dX4_read_138 rfl (nI_add _ _) ?_
              refine v_putI 142 (k := 2) 4 .int (by decide) rfl (by decide) (by decide) rfl (by decide +kernel) rfl rfl (fun _ _ => rfl) dX4_read_139 rfl fl_X4_36 (fun I139 e139 => ?_)
              refine v_iinc 145 [some (rfv x 35), some (.int (nI (k))), some (.int (nI (nP f k))), some (.int (nI (i + 1))), none, none, none] (nI (i + 1)) dX4_read_142 rfl (by decide) rfl (nI_inc _) rfl ?_
              refine v_goto 115 dX4_read_145 (by decide) ?_
              refine v_drop [some (rfv x 35), some (.int (nI (k))), some (.int (nI (nP f k))), some (.int (nI (i + 1))), none, none, none] (by simp [lsub, smN_s, Nat.mul_assoc, *]) ?_
              exact ih I139 (up2_at e139) (fun p s h1 h2 => (up2_off e139 (by omega)).trans (hA p s h1 h2)) (fun a h0 h1 => (up2_row e139 h0).trans (hF a h0 h1))
        refine v_drop [some (rfv x 35), some (.int (nI (k))), some (.int (nI (nP f k))), some (.int (nI (0))), none, none, none] (by simp [lsub, smN, amN, dbW, mxN]) ?_
        exact lr 0 (Nat.zero_le _) I110 (up2_at e110) (fun p s h1 h2 => (up2_off e110 (by omega)).trans (h36 p s h1 h2)) (fun a h0 h1 => (up2_row e110 h0).trans (hF a h0 h1))
      · skip
        exact absurd (by decide : nI 0 + Int32.ofInt (-1) < 0) h15
    | succ i ih =>
      intro hn I2r hB hF
      rw [nI_m1 i]
      refine v_iload_n 15 rfl dX4_read_14 rfl ?_
      refine v_ifN_lt 108 18 dX4_read_15 (by decide) rfl (by omega) ?_
      refine v_iconst 19 (nI (0)) (by decide) dX4_read_18 rfl ?_
      refine v_istore 21 [some (rfv x 35), some (.int (nI (k))), some (.int (nI (nP f k))), some (.int (nI (i))), some (.int (nI (0))), none, none] dX4_read_19 rfl (by decide) rfl ?_
      have lq : ∀ j, j ≤ f 0 → ∀ I5r : Iv, (∀ s, s < j → I5r 36 (i * 4 + s) = nI (ptW f k i s)) → (∀ p s, i + 1 ≤ p → p < nP f k → s < f 0 → I5r 36 (p * 4 + s) = nI (ptW f k p s)) → (∀ a, a ≠ 35 → a ≠ 36 → I5r a = I a) → V x M_X4_read Q 21 [some (rfv x 35), some (.int (nI (k))), some (.int (nI (nP f k))), some (.int (nI (i))), some (.int (nI (j))), none, none] [] I5r L P := by
        refine lpU ?_ ?_
        · intro I5r hC hB hF
          refine v_iload 23 rfl dX4_read_21 rfl ?_
          refine v_aload_n 24 rfl dX4_read_23 rfl ?_
          refine v_get 27 (k := 0) 4 (rfv x 1) (by decide) rfl (by decide) (by decide) dX4_read_24 rfl fl_X4_9 rfl ?_
          refine v_getN 30 (k := 1) 3 (.int (nI (f 0))) (by decide) rfl (by decide) (by decide) dX4_read_27 rfl fl_X4_24 (congrArg Value.int (RC.same (I' := I5r) c (fun a _ _ => hF a (by omega) (by omega))).st) ?_
          refine v_icmpN_ge 102 33 dX4_read_30 (by decide) rfl (by omega) (by omega) (fun h30 => ?_) (fun h30 => ?_)
          · skip
            refine v_iinc 105 [some (rfv x 35), some (.int (nI (k))), some (.int (nI (nP f k))), some (.int (nI i + Int32.ofInt (-1))), some (.int (nI (f 0))), none, none] (nI i + Int32.ofInt (-1)) dX4_read_102 rfl (by decide) rfl rfl rfl ?_
            refine v_goto 14 dX4_read_105 (by decide) ?_
            refine v_drop [some (rfv x 35), some (.int (nI (k))), some (.int (nI (nP f k))), some (.int (nI i + Int32.ofInt (-1))), none, none, none] (by simp [lsub, smN_s, Nat.mul_assoc, *]) ?_
            refine ih (by omega) I5r (fun p s h1 h2 h3 => ?_) hF
            rcases Nat.eq_or_lt_of_le h1 with q | q
            · subst q
              exact hC s h3
            · exact hB p s q h2 h3
          · skip
            exact absurd h30 (by omega)
        · intro j hj ih2 I5r hC hB hF
          have := w.s hk (p := i) (by omega)
          have := w.w hj (g := sG f k i) (by omega)
          refine v_iload 23 rfl dX4_read_21 rfl ?_
          refine v_aload_n 24 rfl dX4_read_23 rfl ?_
          refine v_get 27 (k := 0) 4 (rfv x 1) (by decide) rfl (by decide) (by decide) dX4_read_24 rfl fl_X4_9 rfl ?_
          refine v_getN 30 (k := 1) 3 (.int (nI (f 0))) (by decide) rfl (by decide) (by decide) dX4_read_27 rfl fl_X4_24 (congrArg Value.int (RC.same (I' := I5r) c (fun a _ _ => hF a (by omega) (by omega))).st) ?_
          refine v_icmpN_ge 102 33 dX4_read_30 (by decide) rfl (by omega) (by omega) (fun h30 => ?_) (fun h30 => ?_)
          · skip
            exact absurd h30 (by omega)
          · skip
            refine v_iload_n 34 rfl dX4_read_33 rfl ?_
            refine v_iload_n 35 rfl dX4_read_34 rfl ?_
            refine v_iconst 36 (nI (1)) (by decide) dX4_read_35 rfl ?_
            refine v_isub 37 (nI ((nP f k) - 1)) dX4_read_36 rfl (pk_sub (by omega)) ?_
            refine v_icmpN_ne 44 40 dX4_read_37 (by decide) rfl (by omega) (by omega) (fun h37 => ?_) (fun h37 => ?_)
            · skip
              refine v_aload_n 45 rfl dX4_read_44 rfl ?_
              refine v_iload_n 46 rfl dX4_read_45 rfl ?_
              refine v_iload 48 rfl dX4_read_46 rfl ?_
              refine v_invV 51 M_X4_partsBehind [.int (nI (i)), .int (nI (j))] (by decide) rfl (by decide) rfl dX4_read_48 rfl ml_X4_28 im_X4_partsBehind se_X4_partsBehind mc_X4_partsBehind (by decide) (Nat.le_of_ble_eq_true rfl) (sp_X4_partsBehind (k := k) (c.same (fun a _ _ => hF a (by omega) (by omega))) w hk hj (by omega) (fun t ht => hB (i + 1) t (Nat.le_refl _) (by omega) ht) ?_)
              refine v_istore 53 [some (rfv x 35), some (.int (nI (k))), some (.int (nI (nP f k))), some (.int (nI (i))), some (.int (nI (j))), some (.int (nI (mnW f k i j))), none] dX4_read_51 rfl (by decide) rfl ?_
              refine v_aload_n 54 rfl dX4_read_53 rfl ?_
              refine v_get 57 (k := 0) 4 (rfv x 1) (by decide) rfl (by decide) (by decide) dX4_read_54 rfl fl_X4_9 rfl ?_
              refine v_iload 59 rfl dX4_read_57 rfl ?_
              refine v_iload_n 60 rfl dX4_read_59 rfl ?_
              refine v_iload_n 61 rfl dX4_read_60 rfl ?_
              refine v_invV 64 M_X3_showAt [.int (nI (j)), .int (nI (k)), .int (nI (i))] (by decide) rfl (by decide) rfl dX4_read_61 rfl ml_X4_32 im_X3_showAt se_X3_showAt mc_X3_showAt (by decide) (Nat.le_of_ble_eq_true rfl) (sp_X3_showAt (RC.same (I' := I5r) c (fun a _ _ => hF a (by omega) (by omega))) w (by omega) (by omega) (by omega) ?_)
              refine v_ifN_le 71 67 dX4_read_64 (by decide) rfl (by omega) (fun h64 => ?_) (fun h64 => ?_)
              · skip
                refine v_iconst 72 (nI (0)) (by decide) dX4_read_71 rfl ?_
                refine v_istore 74 [some (rfv x 35), some (.int (nI (k))), some (.int (nI (nP f k))), some (.int (nI (i))), some (.int (nI (j))), some (.int (nI (mnW f k i j))), some (.int (nI (0)))] dX4_read_72 rfl (by decide) rfl ?_
                refine v_aload_n 75 rfl dX4_read_74 rfl ?_
                refine v_get 78 (k := 1) 4 (rfv x 36) (by decide) rfl (by decide) (by decide) dX4_read_75 rfl fl_X4_15 rfl ?_
                refine v_iload_n 79 rfl dX4_read_78 rfl ?_
                refine v_iconst 80 (nI (4)) (by decide) dX4_read_79 rfl ?_
                refine v_imul 81 (nI (i * 4)) dX4_read_80 rfl (pk_mul _ _) ?_
                refine v_iload 83 rfl dX4_read_81 rfl ?_
                refine v_iadd 84 (nI ((i * 4) + j)) dX4_read_83 rfl (nI_add _ _) ?_
                refine v_iload 86 rfl dX4_read_84 rfl ?_
                refine v_ifN_eq 94 89 dX4_read_86 (by decide) rfl (by decide) (fun _ => ?_) (fun h => absurd h (by decide))
                refine v_iconst 95 (nI (0)) (by decide) dX4_read_94 rfl ?_
                refine v_iast 96 (k := (i * 4) + j) (nI (ptW f k i j)) (by decide) rfl (by decide) dX4_read_95 rfl rfl (by omega) (congrArg nI (by first | (rw [ptW, if_pos h64, mnW_l h37]; done) | (rw [ptW, if_pos h64]; done) | (rw [ptW, if_neg (by omega)]; done))) (fun I95 e95 => ?_)
                refine v_iinc 99 [some (rfv x 35), some (.int (nI (k))), some (.int (nI (nP f k))), some (.int (nI (i))), some (.int (nI (j + 1))), some (.int (nI (mnW f k i j))), some (.int (nI (0)))] (nI (j + 1)) dX4_read_96 rfl (by decide) rfl (nI_inc _) rfl ?_
                refine v_goto 21 dX4_read_99 (by decide) ?_
                refine v_drop [some (rfv x 35), some (.int (nI (k))), some (.int (nI (nP f k))), some (.int (nI (i))), some (.int (nI (j + 1))), none, none] (by simp [lsub, smN_s, Nat.mul_assoc, *]) ?_
                refine ih2 I95 (fun s hs => ?_) (fun p s h1 h2 h3 => ?_) (fun a h0 h1 => ?_)
                · by_cases q : s = j
                  · subst q
                    exact up2_at e95
                  · exact (up2_off e95 (by omega)).trans (hC s (by omega))
                · exact (up2_off e95 (by omega)).trans (hB p s h1 h2 h3)
                · exact (up2_row e95 h1).trans (hF a h0 h1)
              · skip
                refine v_iconst 68 (nI (1)) (by decide) dX4_read_67 rfl ?_
                refine v_goto 72 dX4_read_68 (by decide) ?_
                refine v_istore 74 [some (rfv x 35), some (.int (nI (k))), some (.int (nI (nP f k))), some (.int (nI (i))), some (.int (nI (j))), some (.int (nI (mnW f k i j))), some (.int (nI (1)))] dX4_read_72 rfl (by decide) rfl ?_
                refine v_aload_n 75 rfl dX4_read_74 rfl ?_
                refine v_get 78 (k := 1) 4 (rfv x 36) (by decide) rfl (by decide) (by decide) dX4_read_75 rfl fl_X4_15 rfl ?_
                refine v_iload_n 79 rfl dX4_read_78 rfl ?_
                refine v_iconst 80 (nI (4)) (by decide) dX4_read_79 rfl ?_
                refine v_imul 81 (nI (i * 4)) dX4_read_80 rfl (pk_mul _ _) ?_
                refine v_iload 83 rfl dX4_read_81 rfl ?_
                refine v_iadd 84 (nI ((i * 4) + j)) dX4_read_83 rfl (nI_add _ _) ?_
                refine v_iload 86 rfl dX4_read_84 rfl ?_
                refine v_ifN_eq 94 89 dX4_read_86 (by decide) rfl (by decide) (fun h => absurd h (by decide)) (fun _ => ?_)
                refine v_iload 91 rfl dX4_read_89 rfl ?_
                refine v_goto 95 dX4_read_91 (by decide) ?_
                refine v_iast 96 (k := (i * 4) + j) (nI (ptW f k i j)) (by decide) rfl (by decide) dX4_read_95 rfl rfl (by omega) (congrArg nI (by first | (rw [ptW, if_pos h64, mnW_l h37]; done) | (rw [ptW, if_pos h64]; done) | (rw [ptW, if_neg (by omega)]; done))) (fun I95 e95 => ?_)
                refine v_iinc 99 [some (rfv x 35), some (.int (nI (k))), some (.int (nI (nP f k))), some (.int (nI (i))), some (.int (nI (j + 1))), some (.int (nI (mnW f k i j))), some (.int (nI (1)))] (nI (j + 1)) dX4_read_96 rfl (by decide) rfl (nI_inc _) rfl ?_
                refine v_goto 21 dX4_read_99 (by decide) ?_
                refine v_drop [some (rfv x 35), some (.int (nI (k))), some (.int (nI (nP f k))), some (.int (nI (i))), some (.int (nI (j + 1))), none, none] (by simp [lsub, smN_s, Nat.mul_assoc, *]) ?_
                refine ih2 I95 (fun s hs => ?_) (fun p s h1 h2 h3 => ?_) (fun a h0 h1 => ?_)
                · by_cases q : s = j
                  · subst q
                    exact up2_at e95
                  · exact (up2_off e95 (by omega)).trans (hC s (by omega))
                · exact (up2_off e95 (by omega)).trans (hB p s h1 h2 h3)
                · exact (up2_row e95 h1).trans (hF a h0 h1)
            · skip
              refine v_iconst 41 (nI (1)) (by decide) dX4_read_40 rfl ?_
              refine v_goto 51 dX4_read_41 (by decide) ?_
              refine v_istore 53 [some (rfv x 35), some (.int (nI (k))), some (.int (nI (nP f k))), some (.int (nI (i))), some (.int (nI (j))), some (.int (nI (1))), none] dX4_read_51 rfl (by decide) rfl ?_
              refine v_aload_n 54 rfl dX4_read_53 rfl ?_
              refine v_get 57 (k := 0) 4 (rfv x 1) (by decide) rfl (by decide) (by decide) dX4_read_54 rfl fl_X4_9 rfl ?_
              refine v_iload 59 rfl dX4_read_57 rfl ?_
              refine v_iload_n 60 rfl dX4_read_59 rfl ?_
              refine v_iload_n 61 rfl dX4_read_60 rfl ?_
              refine v_invV 64 M_X3_showAt [.int (nI (j)), .int (nI (k)), .int (nI (i))] (by decide) rfl (by decide) rfl dX4_read_61 rfl ml_X4_32 im_X3_showAt se_X3_showAt mc_X3_showAt (by decide) (Nat.le_of_ble_eq_true rfl) (sp_X3_showAt (RC.same (I' := I5r) c (fun a _ _ => hF a (by omega) (by omega))) w (by omega) (by omega) (by omega) ?_)
              refine v_ifN_le 71 67 dX4_read_64 (by decide) rfl (by omega) (fun h64 => ?_) (fun h64 => ?_)
              · skip
                refine v_iconst 72 (nI (0)) (by decide) dX4_read_71 rfl ?_
                refine v_istore 74 [some (rfv x 35), some (.int (nI (k))), some (.int (nI (nP f k))), some (.int (nI (i))), some (.int (nI (j))), some (.int (nI (1))), some (.int (nI (0)))] dX4_read_72 rfl (by decide) rfl ?_
                refine v_aload_n 75 rfl dX4_read_74 rfl ?_
                refine v_get 78 (k := 1) 4 (rfv x 36) (by decide) rfl (by decide) (by decide) dX4_read_75 rfl fl_X4_15 rfl ?_
                refine v_iload_n 79 rfl dX4_read_78 rfl ?_
                refine v_iconst 80 (nI (4)) (by decide) dX4_read_79 rfl ?_
                refine v_imul 81 (nI (i * 4)) dX4_read_80 rfl (pk_mul _ _) ?_
                refine v_iload 83 rfl dX4_read_81 rfl ?_
                refine v_iadd 84 (nI ((i * 4) + j)) dX4_read_83 rfl (nI_add _ _) ?_
                refine v_iload 86 rfl dX4_read_84 rfl ?_
                refine v_ifN_eq 94 89 dX4_read_86 (by decide) rfl (by decide) (fun _ => ?_) (fun h => absurd h (by decide))
                refine v_iconst 95 (nI (0)) (by decide) dX4_read_94 rfl ?_
                refine v_iast 96 (k := (i * 4) + j) (nI (ptW f k i j)) (by decide) rfl (by decide) dX4_read_95 rfl rfl (by omega) (congrArg nI (by first | (rw [ptW, if_pos h64, mnW_l h37]; done) | (rw [ptW, if_pos h64]; done) | (rw [ptW, if_neg (by omega)]; done))) (fun I95 e95 => ?_)
                refine v_iinc 99 [some (rfv x 35), some (.int (nI (k))), some (.int (nI (nP f k))), some (.int (nI (i))), some (.int (nI (j + 1))), some (.int (nI (1))), some (.int (nI (0)))] (nI (j + 1)) dX4_read_96 rfl (by decide) rfl (nI_inc _) rfl ?_
                refine v_goto 21 dX4_read_99 (by decide) ?_
                refine v_drop [some (rfv x 35), some (.int (nI (k))), some (.int (nI (nP f k))), some (.int (nI (i))), some (.int (nI (j + 1))), none, none] (by simp [lsub, smN_s, Nat.mul_assoc, *]) ?_
                refine ih2 I95 (fun s hs => ?_) (fun p s h1 h2 h3 => ?_) (fun a h0 h1 => ?_)
                · by_cases q : s = j
                  · subst q
                    exact up2_at e95
                  · exact (up2_off e95 (by omega)).trans (hC s (by omega))
                · exact (up2_off e95 (by omega)).trans (hB p s h1 h2 h3)
                · exact (up2_row e95 h1).trans (hF a h0 h1)
              · skip
                refine v_iconst 68 (nI (1)) (by decide) dX4_read_67 rfl ?_
                refine v_goto 72 dX4_read_68 (by decide) ?_
                refine v_istore 74 [some (rfv x 35), some (.int (nI (k))), some (.int (nI (nP f k))), some (.int (nI (i))), some (.int (nI (j))), some (.int (nI (1))), some (.int (nI (1)))] dX4_read_72 rfl (by decide) rfl ?_
                refine v_aload_n 75 rfl dX4_read_74 rfl ?_
                refine v_get 78 (k := 1) 4 (rfv x 36) (by decide) rfl (by decide) (by decide) dX4_read_75 rfl fl_X4_15 rfl ?_
                refine v_iload_n 79 rfl dX4_read_78 rfl ?_
                refine v_iconst 80 (nI (4)) (by decide) dX4_read_79 rfl ?_
                refine v_imul 81 (nI (i * 4)) dX4_read_80 rfl (pk_mul _ _) ?_
                refine v_iload 83 rfl dX4_read_81 rfl ?_
                refine v_iadd 84 (nI ((i * 4) + j)) dX4_read_83 rfl (nI_add _ _) ?_
                refine v_iload 86 rfl dX4_read_84 rfl ?_
                refine v_ifN_eq 94 89 dX4_read_86 (by decide) rfl (by decide) (fun h => absurd h (by decide)) (fun _ => ?_)
                refine v_iload 91 rfl dX4_read_89 rfl ?_
                refine v_goto 95 dX4_read_91 (by decide) ?_
                refine v_iast 96 (k := (i * 4) + j) (nI (ptW f k i j)) (by decide) rfl (by decide) dX4_read_95 rfl rfl (by omega) (congrArg nI (by first | (rw [ptW, if_pos h64, mnW_l h37]; done) | (rw [ptW, if_pos h64]; done) | (rw [ptW, if_neg (by omega)]; done))) (fun I95 e95 => ?_)
                refine v_iinc 99 [some (rfv x 35), some (.int (nI (k))), some (.int (nI (nP f k))), some (.int (nI (i))), some (.int (nI (j + 1))), some (.int (nI (1))), some (.int (nI (1)))] (nI (j + 1)) dX4_read_96 rfl (by decide) rfl (nI_inc _) rfl ?_
                refine v_goto 21 dX4_read_99 (by decide) ?_
                refine v_drop [some (rfv x 35), some (.int (nI (k))), some (.int (nI (nP f k))), some (.int (nI (i))), some (.int (nI (j + 1))), none, none] (by simp [lsub, smN_s, Nat.mul_assoc, *]) ?_
                refine ih2 I95 (fun s hs => ?_) (fun p s h1 h2 h3 => ?_) (fun a h0 h1 => ?_)
                · by_cases q : s = j
                  · subst q
                    exact up2_at e95
                  · exact (up2_off e95 (by omega)).trans (hC s (by omega))
                · exact (up2_off e95 (by omega)).trans (hB p s h1 h2 h3)
                · exact (up2_row e95 h1).trans (hF a h0 h1)
      refine v_drop [some (rfv x 35), some (.int (nI (k))), some (.int (nI (nP f k))), some (.int (nI (i))), some (.int (nI (0))), none, none] (by simp [lsub, smN, amN, dbW, mxN]) ?_
      exact lq 0 (Nat.zero_le _) I2r (fun s h => absurd h (Nat.not_lt_zero s)) hB hF
  refine v_drop [some (rfv x 35), some (.int (nI (k))), some (.int (nI (nP f k))), some (.int (nI (nP f k) + Int32.ofInt (-1))), none, none, none] (by simp [lsub, smN_s, Nat.mul_assoc, *]) ?_
  exact lp (nP f k) (Nat.le_refl _) I (fun p s h1 h2 h3 => absurd h1 (by omega)) (fun a _ _ => rfl)
set_option maxHeartbeats 4000000 in
theorem sp_X4_stateAt {x : Cx} {Q : Qt} {I : Iv} {L : Lv} {P : Pv} {f : Vw} (c : RC 1 f I) (w : Wf f) {k r p : Nat} (hk : k < f 1) (rm : RM f k I) (hr : r < 2147483648) (hp : p < nP f k) (hQ : Q (some (.int (nI (rkW f k r (p + 1)).2))) I L P) : SP x M_X4_stateAt [rfv x 35, .int (nI (r)), .int (nI (p))] I L P Q := by
  have := w.n4
  have := w.n1
  have := w.m6
  have := w.p hk
  
  refine SP.intro [some (rfv x 35), some (.int (nI (r))), some (.int (nI (p))), none, none, none, none] pn_X4_stateAt (Nat.le_of_ble_eq_true rfl) rfl ?_
  refine v_iload_n 1 rfl dX4_stateAt_0 rfl ?_
  refine v_istore_n 2 [some (rfv x 35), some (.int (nI (r))), some (.int (nI (p))), some (.int (nI (r))), none, none, none] dX4_stateAt_1 rfl (by decide) rfl ?_
  refine v_iconst 3 (nI (0)) (by decide) dX4_stateAt_2 rfl ?_
  refine v_istore 5 [some (rfv x 35), some (.int (nI (r))), some (.int (nI (p))), some (.int (nI (r))), some (.int (nI (0))), none, none] dX4_stateAt_3 rfl (by decide) rfl ?_
  refine v_iconst 6 (nI (0)) (by decide) dX4_stateAt_5 rfl ?_
  refine v_istore 8 [some (rfv x 35), some (.int (nI (r))), some (.int (nI (p))), some (.int (nI (r))), some (.int (nI (0))), some (.int (nI (0))), none] dX4_stateAt_6 rfl (by decide) rfl ?_
  have lp : ∀ i, i ≤ (p + 1) → V x M_X4_stateAt Q 8 [some (rfv x 35), some (.int (nI (r))), some (.int (nI (p))), some (.int (nI ((rkW f k r i).1))), some (.int (nI ((rkW f k r i).2))), some (.int (nI (i))), none] [] I L P := by
    refine lpU ?_ ?_
    · skip
      refine v_iload 10 rfl dX4_stateAt_8 rfl ?_
      refine v_iload_n 11 rfl dX4_stateAt_10 rfl ?_
      refine v_icmpN_gt 74 14 dX4_stateAt_11 (by decide) rfl (by omega) (by omega) (fun h11 => ?_) (fun h11 => ?_)
      · skip
        refine v_iload 76 rfl dX4_stateAt_74 rfl ?_
        refine v_iret rfl dX4_stateAt_76 ?_
        exact hQ
      · skip
        exact absurd h11 (by omega)
    · intro i hi ih 
      have := rk_1 (f := f) (k := k) (r := r) i
      have := rk_2 (k := k) (r := r) w i
      refine v_iload 10 rfl dX4_stateAt_8 rfl ?_
      refine v_iload_n 11 rfl dX4_stateAt_10 rfl ?_
      refine v_icmpN_gt 74 14 dX4_stateAt_11 (by decide) rfl (by omega) (by omega) (fun h11 => ?_) (fun h11 => ?_)
      · skip
        exact absurd h11 (by omega)
      · skip
        refine v_iload 16 rfl dX4_stateAt_14 rfl ?_
        refine v_istore 18 [some (rfv x 35), some (.int (nI (r))), some (.int (nI (p))), some (.int (nI ((rkW f k r i).1))), some (.int (nI ((rkW f k r i).2))), some (.int (nI (i))), some (.int (nI ((rkW f k r i).2)))] dX4_stateAt_16 rfl (by decide) rfl ?_
        refine v_iconst 19 (nI (0)) (by decide) dX4_stateAt_18 rfl ?_
        refine v_istore 21 [some (rfv x 35), some (.int (nI (r))), some (.int (nI (p))), some (.int (nI ((rkW f k r i).1))), some (.int (nI (0))), some (.int (nI (i))), some (.int (nI ((rkW f k r i).2)))] dX4_stateAt_19 rfl (by decide) rfl ?_
        have lq : ∀ m l s, s + m = f 0 - 1 → l < 2147483648 → fnd (enW f k i (rkW f k r i).2) m l s = rkW f k r (i + 1) → V x M_X4_stateAt Q 21 [some (rfv x 35), some (.int (nI (r))), some (.int (nI (p))), some (.int (nI (l))), some (.int (nI (s))), some (.int (nI (i))), some (.int (nI ((rkW f k r i).2)))] [] I L P := by
          intro m
          induction m with
          | zero =>
            intro l s hs hl hz
            have z1 : l = (rkW f k r (i + 1)).1 := by rw [← hz]; rfl
            have z2 : s = (rkW f k r (i + 1)).2 := by rw [← hz]; rfl
            refine v_iload 23 rfl dX4_stateAt_21 rfl ?_
            refine v_aload_n 24 rfl dX4_stateAt_23 rfl ?_
            refine v_get 27 (k := 0) 4 (rfv x 1) (by decide) rfl (by decide) (by decide) dX4_stateAt_24 rfl fl_X4_9 rfl ?_
            refine v_getN 30 (k := 1) 3 (.int (nI (f 0))) (by decide) rfl (by decide) (by decide) dX4_stateAt_27 rfl fl_X4_24 (congrArg Value.int c.st) ?_
            refine v_iconst 31 (nI (1)) (by decide) dX4_stateAt_30 rfl ?_
            refine v_isub 32 (nI ((f 0) - 1)) dX4_stateAt_31 rfl (pk_sub (by omega)) ?_
            refine v_icmpN_ge 68 35 dX4_stateAt_32 (by decide) rfl (by omega) (by omega) (fun h32 => ?_) (fun h32 => ?_)
            · skip
              refine v_iinc 71 [some (rfv x 35), some (.int (nI (r))), some (.int (nI (p))), some (.int (nI (l))), some (.int (nI (s))), some (.int (nI (i + 1))), some (.int (nI ((rkW f k r i).2)))] (nI (i + 1)) dX4_stateAt_68 rfl (by decide) rfl (nI_inc _) rfl ?_
              refine v_goto 8 dX4_stateAt_71 (by decide) ?_
              refine v_drop [some (rfv x 35), some (.int (nI (r))), some (.int (nI (p))), some (.int (nI ((rkW f k r (i + 1)).1))), some (.int (nI ((rkW f k r (i + 1)).2))), some (.int (nI (i + 1))), none] (by simp [lsub, ← z1, ← z2]) ?_
              exact ih
            · skip
              exact absurd h32 (by omega)
          | succ m ih2 =>
            intro l s hs hl hz
            have he := enW_le (p := i) (b := (rkW f k r i).2) (s := s) w hk
            refine v_iload 23 rfl dX4_stateAt_21 rfl ?_
            refine v_aload_n 24 rfl dX4_stateAt_23 rfl ?_
            refine v_get 27 (k := 0) 4 (rfv x 1) (by decide) rfl (by decide) (by decide) dX4_stateAt_24 rfl fl_X4_9 rfl ?_
            refine v_getN 30 (k := 1) 3 (.int (nI (f 0))) (by decide) rfl (by decide) (by decide) dX4_stateAt_27 rfl fl_X4_24 (congrArg Value.int c.st) ?_
            refine v_iconst 31 (nI (1)) (by decide) dX4_stateAt_30 rfl ?_
            refine v_isub 32 (nI ((f 0) - 1)) dX4_stateAt_31 rfl (pk_sub (by omega)) ?_
            refine v_icmpN_ge 68 35 dX4_stateAt_32 (by decide) rfl (by omega) (by omega) (fun h32 => ?_) (fun h32 => ?_)
            · skip
              exact absurd h32 (by omega)
            · skip
              refine v_iload_n 36 rfl dX4_stateAt_35 rfl ?_
              refine v_aload_n 37 rfl dX4_stateAt_36 rfl ?_
              refine v_iload 39 rfl dX4_stateAt_37 rfl ?_
              refine v_iload 41 rfl dX4_stateAt_39 rfl ?_
              refine v_iload 43 rfl dX4_stateAt_41 rfl ?_
              refine v_invV 46 M_X4_entering [.int (nI (i)), .int (nI ((rkW f k r i).2)), .int (nI (s))] (by decide) rfl (by decide) rfl dX4_stateAt_43 rfl ml_X4_39 im_X4_entering se_X4_entering mc_X4_entering (by decide) (Nat.le_of_ble_eq_true rfl) (sp_X4_entering (k := k) c w hk (fun _ => rk_2 w i) (by omega) (by omega) (rm.1 i s (by omega) (by omega)) ?_)
              refine v_icmpN_lt 68 49 dX4_stateAt_46 (by decide) rfl (by omega) (by omega) (fun h46 => ?_) (fun h46 => ?_)
              · skip
                refine v_iinc 71 [some (rfv x 35), some (.int (nI (r))), some (.int (nI (p))), some (.int (nI (l))), some (.int (nI (s))), some (.int (nI (i + 1))), some (.int (nI ((rkW f k r i).2)))] (nI (i + 1)) dX4_stateAt_68 rfl (by decide) rfl (nI_inc _) rfl ?_
                refine v_goto 8 dX4_stateAt_71 (by decide) ?_
                refine v_drop [some (rfv x 35), some (.int (nI (r))), some (.int (nI (p))), some (.int (nI ((rkW f k r (i + 1)).1))), some (.int (nI ((rkW f k r (i + 1)).2))), some (.int (nI (i + 1))), none] (by rw [fnd, if_pos h46] at hz; simp [lsub, ← hz]) ?_
                exact ih
              · skip
                refine v_iload_n 50 rfl dX4_stateAt_49 rfl ?_
                refine v_aload_n 51 rfl dX4_stateAt_50 rfl ?_
                refine v_iload 53 rfl dX4_stateAt_51 rfl ?_
                refine v_iload 55 rfl dX4_stateAt_53 rfl ?_
                refine v_iload 57 rfl dX4_stateAt_55 rfl ?_
                refine v_invV 60 M_X4_entering [.int (nI (i)), .int (nI ((rkW f k r i).2)), .int (nI (s))] (by decide) rfl (by decide) rfl dX4_stateAt_57 rfl ml_X4_39 im_X4_entering se_X4_entering mc_X4_entering (by decide) (Nat.le_of_ble_eq_true rfl) (sp_X4_entering (k := k) c w hk (fun _ => rk_2 w i) (by omega) (by omega) (rm.1 i s (by omega) (by omega)) ?_)
                refine v_isub 61 (nI (l - (enW f k i (rkW f k r i).2 s))) dX4_stateAt_60 rfl (pk_sub (by omega)) ?_
                refine v_istore_n 62 [some (rfv x 35), some (.int (nI (r))), some (.int (nI (p))), some (.int (nI (l - (enW f k i (rkW f k r i).2 s)))), some (.int (nI (s))), some (.int (nI (i))), some (.int (nI ((rkW f k r i).2)))] dX4_stateAt_61 rfl (by decide) rfl ?_
                refine v_iinc 65 [some (rfv x 35), some (.int (nI (r))), some (.int (nI (p))), some (.int (nI (l - (enW f k i (rkW f k r i).2 s)))), some (.int (nI (s + 1))), some (.int (nI (i))), some (.int (nI ((rkW f k r i).2)))] (nI (s + 1)) dX4_stateAt_62 rfl (by decide) rfl (nI_inc _) rfl ?_
                refine v_goto 21 dX4_stateAt_65 (by decide) ?_
                refine v_drop [some (rfv x 35), some (.int (nI (r))), some (.int (nI (p))), some (.int (nI (l - enW f k i (rkW f k r i).2 s))), some (.int (nI (s + 1))), some (.int (nI (i))), some (.int (nI ((rkW f k r i).2)))] (by simp [lsub]) ?_
                exact ih2 _ _ (by omega) (by omega) (by rw [fnd, if_neg (by omega)] at hz; exact hz)
        refine v_drop [some (rfv x 35), some (.int (nI (r))), some (.int (nI (p))), some (.int (nI ((rkW f k r i).1))), some (.int (nI (0))), some (.int (nI (i))), some (.int (nI ((rkW f k r i).2)))] (by simp [lsub]) ?_
        exact lq (f 0 - 1) _ 0 (by omega) (by omega) rfl
  refine v_drop [some (rfv x 35), some (.int (nI (r))), some (.int (nI (p))), some (.int (nI ((rkW f k r 0).1))), some (.int (nI ((rkW f k r 0).2))), some (.int (nI (0))), none] (by simp [lsub, rkW]) ?_
  exact lp 0 (Nat.zero_le _)
