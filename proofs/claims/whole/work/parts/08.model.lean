set_option maxHeartbeats 4000000 in
theorem sp_X3_hasState {x : Cx} {Q : Qt} {I : Iv} {L : Lv} {P : Pv} {f : Vw} (c : RC 1 f I) (w : Wf f) {z : Int32} (hQ : Q (some (.int (nI (inb z (f 0))))) I L P) : SP x M_X3_hasState [rfv x 1, .int (z)] I L P Q := by
  have := w.n4
  have := w.m6
  refine SP.intro [some (rfv x 1), some (.int (z))] pn_X3_hasState (Nat.le_of_ble_eq_true rfl) rfl ?_
  refine v_iload_n 1 rfl dX3_hasState_0 rfl ?_
  refine v_if_lt 16 4 dX3_hasState_1 (by decide) rfl (fun h1 => ?_) (fun h1 => ?_)
  · skip
    refine v_iconst 17 (nI (0)) (by decide) dX3_hasState_16 rfl ?_
    refine v_zret rfl dX3_hasState_17 (by decide) ?_
    rw [show (nI (0)) = nI (inb z (f 0)) from by first | rw [inb_out (Or.inl ‹_›)] | rw [inb_out (Or.inr ‹_›)] | (rw [inb, if_neg (by rintro (q | q) <;> contradiction)])]
    exact hQ
  · skip
    refine v_iload_n 5 rfl dX3_hasState_4 rfl ?_
    refine v_aload_n 6 rfl dX3_hasState_5 rfl ?_
    refine v_get 9 (k := 1) 3 (.int (nI (f 0))) (by decide) rfl (by decide) (by decide) dX3_hasState_6 rfl fl_X3_15 (congrArg Value.int c.st) ?_
    refine v_icmp_ge 16 12 dX3_hasState_9 (by decide) rfl (fun h9 => ?_) (fun h9 => ?_)
    · skip
      refine v_iconst 17 (nI (0)) (by decide) dX3_hasState_16 rfl ?_
      refine v_zret rfl dX3_hasState_17 (by decide) ?_
      rw [show (nI (0)) = nI (inb z (f 0)) from by first | rw [inb_out (Or.inl ‹_›)] | rw [inb_out (Or.inr ‹_›)] | (rw [inb, if_neg (by rintro (q | q) <;> contradiction)])]
      exact hQ
    · skip
      refine v_iconst 13 (nI (1)) (by decide) dX3_hasState_12 rfl ?_
      refine v_goto 17 dX3_hasState_13 (by decide) ?_
      refine v_zret rfl dX3_hasState_17 (by decide) ?_
      rw [show (nI (1)) = nI (inb z (f 0)) from by first | rw [inb_out (Or.inl ‹_›)] | rw [inb_out (Or.inr ‹_›)] | (rw [inb, if_neg (by rintro (q | q) <;> contradiction)])]
      exact hQ
set_option maxHeartbeats 4000000 in
theorem sp_X3_hasSample {x : Cx} {Q : Qt} {I : Iv} {L : Lv} {P : Pv} {f : Vw} (c : RC 1 f I) (w : Wf f) {z : Int32} (hQ : Q (some (.int (nI (inb z (f 1))))) I L P) : SP x M_X3_hasSample [rfv x 1, .int (z)] I L P Q := by
  have := w.n4
  have := w.m6
  refine SP.intro [some (rfv x 1), some (.int (z))] pn_X3_hasSample (Nat.le_of_ble_eq_true rfl) rfl ?_
  refine v_iload_n 1 rfl dX3_hasSample_0 rfl ?_
  refine v_if_lt 16 4 dX3_hasSample_1 (by decide) rfl (fun h1 => ?_) (fun h1 => ?_)
  · skip
    refine v_iconst 17 (nI (0)) (by decide) dX3_hasSample_16 rfl ?_
    refine v_zret rfl dX3_hasSample_17 (by decide) ?_
    rw [show (nI (0)) = nI (inb z (f 1)) from by first | rw [inb_out (Or.inl ‹_›)] | rw [inb_out (Or.inr ‹_›)] | (rw [inb, if_neg (by rintro (q | q) <;> contradiction)])]
    exact hQ
  · skip
    refine v_iload_n 5 rfl dX3_hasSample_4 rfl ?_
    refine v_aload_n 6 rfl dX3_hasSample_5 rfl ?_
    refine v_get 9 (k := 5) 3 (.int (nI (f 1))) (by decide) rfl (by decide) (by decide) dX3_hasSample_6 rfl fl_X3_34 (congrArg Value.int c.sm) ?_
    refine v_icmp_ge 16 12 dX3_hasSample_9 (by decide) rfl (fun h9 => ?_) (fun h9 => ?_)
    · skip
      refine v_iconst 17 (nI (0)) (by decide) dX3_hasSample_16 rfl ?_
      refine v_zret rfl dX3_hasSample_17 (by decide) ?_
      rw [show (nI (0)) = nI (inb z (f 1)) from by first | rw [inb_out (Or.inl ‹_›)] | rw [inb_out (Or.inr ‹_›)] | (rw [inb, if_neg (by rintro (q | q) <;> contradiction)])]
      exact hQ
    · skip
      refine v_iconst 13 (nI (1)) (by decide) dX3_hasSample_12 rfl ?_
      refine v_goto 17 dX3_hasSample_13 (by decide) ?_
      refine v_zret rfl dX3_hasSample_17 (by decide) ?_
      rw [show (nI (1)) = nI (inb z (f 1)) from by first | rw [inb_out (Or.inl ‹_›)] | rw [inb_out (Or.inr ‹_›)] | (rw [inb, if_neg (by rintro (q | q) <;> contradiction)])]
      exact hQ
set_option maxHeartbeats 4000000 in
theorem sp_X3_begin {x : Cx} {Q : Qt} {I : Iv} {L : Lv} {P : Pv} {f : Vw} (c : RC 1 f I) (w : Wf f) {s : Nat} (hs : s < f 0) (hQ : Q (some (.int (nI (bW f s)))) I L P) : SP x M_X3_begin [rfv x 1, .int (nI (s))] I L P Q := by
  have := w.n4
  have := w.m6
  refine SP.intro [some (rfv x 1), some (.int (nI (s)))] pn_X3_begin (Nat.le_of_ble_eq_true rfl) rfl ?_
  refine v_aload_n 1 rfl dX3_begin_0 rfl ?_
  refine v_get 4 (k := 0) 3 (rfv x 2) (by decide) rfl (by decide) (by decide) dX3_begin_1 rfl fl_X3_11 rfl ?_
  refine v_iload_n 5 rfl dX3_begin_4 rfl ?_
  refine v_bipush 7 (nI (8)) (by decide) dX3_begin_5 rfl ?_
  refine v_imul 8 (nI (s * 8)) dX3_begin_7 rfl (pk_mul _ _) ?_
  refine v_iald 9 (k := s * 8) (nI (bW f s)) (by decide) rfl (by decide) dX3_begin_8 rfl rfl (by omega) (c.b hs) ?_
  refine v_iret rfl dX3_begin_9 ?_
  exact hQ
set_option maxHeartbeats 4000000 in
theorem sp_X3_go {x : Cx} {Q : Qt} {I : Iv} {L : Lv} {P : Pv} {f : Vw} (c : RC 1 f I) (w : Wf f) {s t : Nat} (hs : s < f 0) (ht : t < f 0) (hQ : Q (some (.int (nI (gW f s t)))) I L P) : SP x M_X3_go [rfv x 1, .int (nI (s)), .int (nI (t))] I L P Q := by
  have := w.n4
  have := w.m6
  refine SP.intro [some (rfv x 1), some (.int (nI (s))), some (.int (nI (t)))] pn_X3_go (Nat.le_of_ble_eq_true rfl) rfl ?_
  refine v_aload_n 1 rfl dX3_go_0 rfl ?_
  refine v_get 4 (k := 0) 3 (rfv x 2) (by decide) rfl (by decide) (by decide) dX3_go_1 rfl fl_X3_11 rfl ?_
  refine v_iload_n 5 rfl dX3_go_4 rfl ?_
  refine v_bipush 7 (nI (8)) (by decide) dX3_go_5 rfl ?_
  refine v_imul 8 (nI (s * 8)) dX3_go_7 rfl (pk_mul _ _) ?_
  refine v_iconst 9 (nI (1)) (by decide) dX3_go_8 rfl ?_
  refine v_iadd 10 (nI ((s * 8) + 1)) dX3_go_9 rfl (nI_add _ _) ?_
  refine v_iload_n 11 rfl dX3_go_10 rfl ?_
  refine v_iadd 12 (nI (((s * 8) + 1) + t)) dX3_go_11 rfl (nI_add _ _) ?_
  refine v_iald 13 (k := ((s * 8) + 1) + t) (nI (gW f s t)) (by decide) rfl (by decide) dX3_go_12 rfl rfl (by omega) (c.g hs ht) ?_
  refine v_iret rfl dX3_go_13 ?_
  exact hQ
set_option maxHeartbeats 4000000 in
theorem sp_X3_show {x : Cx} {Q : Qt} {I : Iv} {L : Lv} {P : Pv} {f : Vw} (c : RC 1 f I) (w : Wf f) {s g : Nat} (hs : s < f 0) (hg : g < 3) (hQ : Q (some (.int (nI (sW f s g)))) I L P) : SP x M_X3_show [rfv x 1, .int (nI (s)), .int (nI (g))] I L P Q := by
  have := w.n4
  have := w.m6
  refine SP.intro [some (rfv x 1), some (.int (nI (s))), some (.int (nI (g)))] pn_X3_show (Nat.le_of_ble_eq_true rfl) rfl ?_
  refine v_aload_n 1 rfl dX3_show_0 rfl ?_
  refine v_get 4 (k := 0) 3 (rfv x 2) (by decide) rfl (by decide) (by decide) dX3_show_1 rfl fl_X3_11 rfl ?_
  refine v_iload_n 5 rfl dX3_show_4 rfl ?_
  refine v_bipush 7 (nI (8)) (by decide) dX3_show_5 rfl ?_
  refine v_imul 8 (nI (s * 8)) dX3_show_7 rfl (pk_mul _ _) ?_
  refine v_iconst 9 (nI (5)) (by decide) dX3_show_8 rfl ?_
  refine v_iadd 10 (nI ((s * 8) + 5)) dX3_show_9 rfl (nI_add _ _) ?_
  refine v_iload_n 11 rfl dX3_show_10 rfl ?_
  refine v_iadd 12 (nI (((s * 8) + 5) + g)) dX3_show_11 rfl (nI_add _ _) ?_
  refine v_iald 13 (k := ((s * 8) + 5) + g) (nI (sW f s g)) (by decide) rfl (by decide) dX3_show_12 rfl rfl (by omega) (c.w hs hg) ?_
  refine v_iret rfl dX3_show_13 ?_
  exact hQ
set_option maxHeartbeats 4000000 in
theorem sp_X3_signAt {x : Cx} {Q : Qt} {I : Iv} {L : Lv} {P : Pv} {f : Vw} (c : RC 1 f I) (w : Wf f) {k p : Nat} (hk : k < f 1) (hp : p < nP f k) (hQ : Q (some (.int (nI (sG f k p)))) I L P) : SP x M_X3_signAt [rfv x 1, .int (nI (k)), .int (nI (p))] I L P Q := by
  have := w.n4
  have := w.m6
  have := w.p hk
  refine SP.intro [some (rfv x 1), some (.int (nI (k))), some (.int (nI (p)))] pn_X3_signAt (Nat.le_of_ble_eq_true rfl) rfl ?_
  refine v_aload_n 1 rfl dX3_signAt_0 rfl ?_
  refine v_get 4 (k := 4) 3 (rfv x 4) (by decide) rfl (by decide) (by decide) dX3_signAt_1 rfl fl_X3_25 rfl ?_
  refine v_iload_n 5 rfl dX3_signAt_4 rfl ?_
  refine v_bipush 7 (nI (7)) (by decide) dX3_signAt_5 rfl ?_
  refine v_imul 8 (nI (k * 7)) dX3_signAt_7 rfl (pk_mul _ _) ?_
  refine v_iload_n 9 rfl dX3_signAt_8 rfl ?_
  refine v_iadd 10 (nI ((k * 7) + p)) dX3_signAt_9 rfl (nI_add _ _) ?_
  refine v_iald 11 (k := (k * 7) + p) (nI (sG f k p)) (by decide) rfl (by decide) dX3_signAt_10 rfl rfl (by omega) (c.s hk hp) ?_
  refine v_iret rfl dX3_signAt_11 ?_
  exact hQ
set_option maxHeartbeats 4000000 in
theorem sp_X3_showAt {x : Cx} {Q : Qt} {I : Iv} {L : Lv} {P : Pv} {f : Vw} (c : RC 1 f I) (w : Wf f) {s k p : Nat} (hs : s < f 0) (hk : k < f 1) (hp : p < nP f k) (hQ : Q (some (.int (nI (sW f s (sG f k p))))) I L P) : SP x M_X3_showAt [rfv x 1, .int (nI (s)), .int (nI (k)), .int (nI (p))] I L P Q := by
  have := w.n4
  have := w.m6
  have := w.p hk
  have := w.s hk hp
  refine SP.intro [some (rfv x 1), some (.int (nI (s))), some (.int (nI (k))), some (.int (nI (p)))] pn_X3_showAt (Nat.le_of_ble_eq_true rfl) rfl ?_
  refine v_aload_n 1 rfl dX3_showAt_0 rfl ?_
  refine v_iload_n 2 rfl dX3_showAt_1 rfl ?_
  refine v_aload_n 3 rfl dX3_showAt_2 rfl ?_
  refine v_iload_n 4 rfl dX3_showAt_3 rfl ?_
  refine v_iload_n 5 rfl dX3_showAt_4 rfl ?_
  refine v_invV 8 M_X3_signAt [.int (nI (k)), .int (nI (p))] (by decide) rfl (by decide) rfl dX3_showAt_5 rfl ml_X3_52 im_X3_signAt se_X3_signAt mc_X3_signAt (by decide) (Nat.le_of_ble_eq_true rfl) (sp_X3_signAt c w (by omega) (by omega) ?_)
  refine v_invV 11 M_X3_show [.int (nI (s)), .int (nI (sG f k p))] (by decide) rfl (by decide) rfl dX3_showAt_8 rfl ml_X3_56 im_X3_show se_X3_show mc_X3_show (by decide) (Nat.le_of_ble_eq_true rfl) (sp_X3_show c w (by omega) (by omega) ?_)
  refine v_iret rfl dX3_showAt_11 ?_
  exact hQ
