theorem bit_n {n : Nat} (h : n < 2) : narrow .boolean (.int (nI n)) = .int (nI n) := by
  rcases (show n = 0 ∨ n = 1 by omega) with q | q <;> subst q <;> decide +kernel
theorem inr_n (z a b : Int32) : narrow .boolean (.int (nI (inr z a b))) = .int (nI (inr z a b)) := bit_n (inr_lt z a b)
set_option maxHeartbeats 4000000 in
theorem sp_X8_in {x : Cx} {Q : Qt} {I : Iv} {L : Lv} {P : Pv} {z a b : Int32} (hQ : Q (some (.int (nI (inr z a b)))) I L P) : SP x M_X8_in [.int (z), .int (a), .int (b)] I L P Q := by
  refine SP.intro [some (.int (z)), some (.int (a)), some (.int (b))] pn_X8_in (Nat.le_of_ble_eq_true rfl) rfl ?_
  refine v_iload_n 1 rfl dX8_in_0 rfl ?_
  refine v_iload_n 2 rfl dX8_in_1 rfl ?_
  refine v_icmp_lt 14 5 dX8_in_2 (by decide) rfl (fun h2 => ?_) (fun h2 => ?_)
  · skip
    refine v_iconst 15 (nI (0)) (by decide) dX8_in_14 rfl ?_
    refine v_zret rfl dX8_in_15 (by decide) ?_
    first | exact qI hQ (show inr z a b = 0 from if_pos (Or.inl h2)).symm | exact qI hQ (show inr z a b = 0 from if_pos (Or.inr h7)).symm | exact qI hQ (show inr z a b = 1 from if_neg (by rintro (q | q) <;> contradiction)).symm
  · skip
    refine v_iload_n 6 rfl dX8_in_5 rfl ?_
    refine v_iload_n 7 rfl dX8_in_6 rfl ?_
    refine v_icmp_gt 14 10 dX8_in_7 (by decide) rfl (fun h7 => ?_) (fun h7 => ?_)
    · skip
      refine v_iconst 15 (nI (0)) (by decide) dX8_in_14 rfl ?_
      refine v_zret rfl dX8_in_15 (by decide) ?_
      first | exact qI hQ (show inr z a b = 0 from if_pos (Or.inl h2)).symm | exact qI hQ (show inr z a b = 0 from if_pos (Or.inr h7)).symm | exact qI hQ (show inr z a b = 1 from if_neg (by rintro (q | q) <;> contradiction)).symm
    · skip
      refine v_iconst 11 (nI (1)) (by decide) dX8_in_10 rfl ?_
      refine v_goto 15 dX8_in_11 (by decide) ?_
      refine v_zret rfl dX8_in_15 (by decide) ?_
      first | exact qI hQ (show inr z a b = 0 from if_pos (Or.inl h2)).symm | exact qI hQ (show inr z a b = 0 from if_pos (Or.inr h7)).symm | exact qI hQ (show inr z a b = 1 from if_neg (by rintro (q | q) <;> contradiction)).symm
set_option maxHeartbeats 4000000 in
theorem sp_X8_isState {x : Cx} {Q : Qt} {I : Iv} {L : Lv} {P : Pv} {f : Vw} (r : RR (I 41) f) (w : Wf f) {z : Int32} (hQ : Q (some (.int (nI (inb z (f 0))))) I L P) : SP x M_X8_isState [rfv x 40, .int (z)] I L P Q := by
  have := w.n4
  have := w.n1
  have := w.m6
  
  refine SP.intro [some (rfv x 40), some (.int (z))] pn_X8_isState (Nat.le_of_ble_eq_true rfl) rfl ?_
  refine v_iload_n 1 rfl dX8_isState_0 rfl ?_
  refine v_iconst 2 (nI (0)) (by decide) dX8_isState_1 rfl ?_
  refine v_aload_n 3 rfl dX8_isState_2 rfl ?_
  refine v_get 6 (k := 1) 8 (rfv x 41) (by decide) rfl (by decide) (by decide) dX8_isState_3 rfl fl_X8_7 rfl ?_
  refine v_iconst 7 (nI (0)) (by decide) dX8_isState_6 rfl ?_
  refine v_iald 8 (k := 0) (nI (f 0)) (by decide) rfl (by decide) dX8_isState_7 rfl rfl (by omega) r.st ?_
  refine v_iconst 9 (nI (1)) (by decide) dX8_isState_8 rfl ?_
  refine v_isub 10 (nI (f 0) - nI 1) dX8_isState_9 rfl rfl ?_
  refine v_invT 13 M_X8_in [.int (z), .int (nI (0)), .int (nI (f 0) - nI 1)] dX8_isState_10 rfl ml_X8_58 sm_X8_in mc_X8_in (by decide) (Nat.le_of_ble_eq_true rfl) (sp_X8_in ?_)
  refine v_zret rfl dX8_isState_13 (inr_n _ _ _) ?_
  exact qI hQ (inr_inb (by omega)).symm.symm
set_option maxHeartbeats 4000000 in
theorem sp_X8_isSample {x : Cx} {Q : Qt} {I : Iv} {L : Lv} {P : Pv} {f : Vw} (r : RR (I 41) f) (w : Wf f) {z : Int32} (hQ : Q (some (.int (nI (inb z (f 1))))) I L P) : SP x M_X8_isSample [rfv x 40, .int (z)] I L P Q := by
  have := w.n4
  have := w.n1
  have := w.m6
  
  refine SP.intro [some (rfv x 40), some (.int (z))] pn_X8_isSample (Nat.le_of_ble_eq_true rfl) rfl ?_
  refine v_iload_n 1 rfl dX8_isSample_0 rfl ?_
  refine v_iconst 2 (nI (0)) (by decide) dX8_isSample_1 rfl ?_
  refine v_aload_n 3 rfl dX8_isSample_2 rfl ?_
  refine v_get 6 (k := 1) 8 (rfv x 41) (by decide) rfl (by decide) (by decide) dX8_isSample_3 rfl fl_X8_7 rfl ?_
  refine v_iconst 7 (nI (1)) (by decide) dX8_isSample_6 rfl ?_
  refine v_iald 8 (k := 1) (nI (f 1)) (by decide) rfl (by decide) dX8_isSample_7 rfl rfl (by omega) r.sm ?_
  refine v_iconst 9 (nI (1)) (by decide) dX8_isSample_8 rfl ?_
  refine v_isub 10 (nI (f 1) - nI 1) dX8_isSample_9 rfl rfl ?_
  refine v_invT 13 M_X8_in [.int (z), .int (nI (0)), .int (nI (f 1) - nI 1)] dX8_isSample_10 rfl ml_X8_58 sm_X8_in mc_X8_in (by decide) (Nat.le_of_ble_eq_true rfl) (sp_X8_in ?_)
  refine v_zret rfl dX8_isSample_13 (inr_n _ _ _) ?_
  exact qI hQ (inr_inb (by omega)).symm.symm
set_option maxHeartbeats 4000000 in
theorem sp_X8_go {x : Cx} {Q : Qt} {I : Iv} {L : Lv} {P : Pv} {f : Vw} (r : RR (I 41) f) (w : Wf f) {s t : Nat} (hs : s < f 0) (ht : t < f 0) (hQ : Q (some (.int (nI (gW f s t)))) I L P) : SP x M_X8_go [rfv x 40, .int (nI (s)), .int (nI (t))] I L P Q := by
  have := w.n4
  have := w.n1
  have := w.m6
  
  refine SP.intro [some (rfv x 40), some (.int (nI (s))), some (.int (nI (t)))] pn_X8_go (Nat.le_of_ble_eq_true rfl) rfl ?_
  refine v_aload_n 1 rfl dX8_go_0 rfl ?_
  refine v_get 4 (k := 1) 8 (rfv x 41) (by decide) rfl (by decide) (by decide) dX8_go_1 rfl fl_X8_7 rfl ?_
  refine v_bipush 6 (nI (7)) (by decide) dX8_go_4 rfl ?_
  refine v_iconst 7 (nI (4)) (by decide) dX8_go_6 rfl ?_
  refine v_iload_n 8 rfl dX8_go_7 rfl ?_
  refine v_imul 9 (nI (4 * s)) dX8_go_8 rfl (pk_mul _ _) ?_
  refine v_iadd 10 (nI (7 + (4 * s))) dX8_go_9 rfl (nI_add _ _) ?_
  refine v_iload_n 11 rfl dX8_go_10 rfl ?_
  refine v_iadd 12 (nI ((7 + (4 * s)) + t)) dX8_go_11 rfl (nI_add _ _) ?_
  refine v_iald 13 (k := (7 + (4 * s)) + t) (nI (gW f s t)) (by decide) rfl (by decide) dX8_go_12 rfl rfl (by omega) (r.g hs ht) ?_
  refine v_iret rfl dX8_go_13 ?_
  exact hQ
set_option maxHeartbeats 4000000 in
theorem sp_X8_show {x : Cx} {Q : Qt} {I : Iv} {L : Lv} {P : Pv} {f : Vw} (r : RR (I 41) f) (w : Wf f) {s g : Nat} (hs : s < f 0) (hg : g < 3) (hQ : Q (some (.int (nI (sW f s g)))) I L P) : SP x M_X8_show [rfv x 40, .int (nI (s)), .int (nI (g))] I L P Q := by
  have := w.n4
  have := w.n1
  have := w.m6
  
  refine SP.intro [some (rfv x 40), some (.int (nI (s))), some (.int (nI (g)))] pn_X8_show (Nat.le_of_ble_eq_true rfl) rfl ?_
  refine v_aload_n 1 rfl dX8_show_0 rfl ?_
  refine v_get 4 (k := 1) 8 (rfv x 41) (by decide) rfl (by decide) (by decide) dX8_show_1 rfl fl_X8_7 rfl ?_
  refine v_bipush 6 (nI (23)) (by decide) dX8_show_4 rfl ?_
  refine v_iconst 7 (nI (3)) (by decide) dX8_show_6 rfl ?_
  refine v_iload_n 8 rfl dX8_show_7 rfl ?_
  refine v_imul 9 (nI (3 * s)) dX8_show_8 rfl (pk_mul _ _) ?_
  refine v_iadd 10 (nI (23 + (3 * s))) dX8_show_9 rfl (nI_add _ _) ?_
  refine v_iload_n 11 rfl dX8_show_10 rfl ?_
  refine v_iadd 12 (nI ((23 + (3 * s)) + g)) dX8_show_11 rfl (nI_add _ _) ?_
  refine v_iald 13 (k := (23 + (3 * s)) + g) (nI (sW f s g)) (by decide) rfl (by decide) dX8_show_12 rfl rfl (by omega) (r.w hs hg) ?_
  refine v_iret rfl dX8_show_13 ?_
  exact hQ
set_option maxHeartbeats 4000000 in
theorem sp_X8_placesOf {x : Cx} {Q : Qt} {I : Iv} {L : Lv} {P : Pv} {f : Vw} (r : RR (I 41) f) (w : Wf f) {k : Nat} (hk : k < f 1) (hQ : Q (some (.int (nI (nP f k)))) I L P) : SP x M_X8_placesOf [rfv x 40, .int (nI (k))] I L P Q := by
  have := w.n4
  have := w.n1
  have := w.m6
  
  refine SP.intro [some (rfv x 40), some (.int (nI (k)))] pn_X8_placesOf (Nat.le_of_ble_eq_true rfl) rfl ?_
  refine v_aload_n 1 rfl dX8_placesOf_0 rfl ?_
  refine v_get 4 (k := 1) 8 (rfv x 41) (by decide) rfl (by decide) (by decide) dX8_placesOf_1 rfl fl_X8_7 rfl ?_
  refine v_bipush 6 (nI (35)) (by decide) dX8_placesOf_4 rfl ?_
  refine v_bipush 8 (nI (8)) (by decide) dX8_placesOf_6 rfl ?_
  refine v_iload_n 9 rfl dX8_placesOf_8 rfl ?_
  refine v_imul 10 (nI (8 * k)) dX8_placesOf_9 rfl (pk_mul _ _) ?_
  refine v_iadd 11 (nI (35 + (8 * k))) dX8_placesOf_10 rfl (nI_add _ _) ?_
  refine v_iald 12 (k := 35 + (8 * k)) (nI (nP f k)) (by decide) rfl (by decide) dX8_placesOf_11 rfl rfl (by omega) (r.n hk) ?_
  refine v_iret rfl dX8_placesOf_12 ?_
  exact hQ
set_option maxHeartbeats 4000000 in
theorem sp_X8_signAt {x : Cx} {Q : Qt} {I : Iv} {L : Lv} {P : Pv} {f : Vw} (r : RR (I 41) f) (w : Wf f) {k p : Nat} (hk : k < f 1) (hp : p < nP f k) (hQ : Q (some (.int (nI (sG f k p)))) I L P) : SP x M_X8_signAt [rfv x 40, .int (nI (k)), .int (nI (p))] I L P Q := by
  have := w.n4
  have := w.n1
  have := w.m6
  have := w.p hk
  refine SP.intro [some (rfv x 40), some (.int (nI (k))), some (.int (nI (p)))] pn_X8_signAt (Nat.le_of_ble_eq_true rfl) rfl ?_
  refine v_aload_n 1 rfl dX8_signAt_0 rfl ?_
  refine v_get 4 (k := 1) 8 (rfv x 41) (by decide) rfl (by decide) (by decide) dX8_signAt_1 rfl fl_X8_7 rfl ?_
  refine v_bipush 6 (nI (35)) (by decide) dX8_signAt_4 rfl ?_
  refine v_bipush 8 (nI (8)) (by decide) dX8_signAt_6 rfl ?_
  refine v_iload_n 9 rfl dX8_signAt_8 rfl ?_
  refine v_imul 10 (nI (8 * k)) dX8_signAt_9 rfl (pk_mul _ _) ?_
  refine v_iadd 11 (nI (35 + (8 * k))) dX8_signAt_10 rfl (nI_add _ _) ?_
  refine v_iconst 12 (nI (1)) (by decide) dX8_signAt_11 rfl ?_
  refine v_iadd 13 (nI ((35 + (8 * k)) + 1)) dX8_signAt_12 rfl (nI_add _ _) ?_
  refine v_iload_n 14 rfl dX8_signAt_13 rfl ?_
  refine v_iadd 15 (nI (((35 + (8 * k)) + 1) + p)) dX8_signAt_14 rfl (nI_add _ _) ?_
  refine v_iald 16 (k := ((35 + (8 * k)) + 1) + p) (nI (sG f k p)) (by decide) rfl (by decide) dX8_signAt_15 rfl rfl (by omega) (r.s hk hp) ?_
  refine v_iret rfl dX8_signAt_16 ?_
  exact hQ
set_option maxHeartbeats 4000000 in
theorem sp_X8_step {x : Cx} {Q : Qt} {I : Iv} {L : Lv} {P : Pv} {f : Vw} (r : RR (I 41) f) (w : Wf f) {k p s t : Nat} (hk : k < f 1) (hs : s < f 0) (ht : t < f 0) (hp : p + 1 < nP f k) (hQ : Q (some (.long (lN (stW f k p s t)))) I L P) : SP x M_X8_step [rfv x 40, .int (nI (k)), .int (nI (p)), .int (nI (s)), .int (nI (t))] I L P Q := by
  have := w.n4
  have := w.n1
  have := w.m6
  have := w.p hk
  have := w.g hs ht
  have := w.s hk hp
  have := w.w ht (g := sG f k (p + 1)) (by omega)
  refine SP.intro [some (rfv x 40), some (.int (nI (k))), some (.int (nI (p))), some (.int (nI (s))), some (.int (nI (t)))] pn_X8_step (Nat.le_of_ble_eq_true rfl) rfl ?_
  refine v_aload_n 1 rfl dX8_step_0 rfl ?_
  refine v_iload_n 2 rfl dX8_step_1 rfl ?_
  refine v_iload 4 rfl dX8_step_2 rfl ?_
  refine v_invV 7 M_X8_go [.int (nI (s)), .int (nI (t))] (by decide) rfl (by decide) rfl dX8_step_4 rfl ml_X8_76 im_X8_go se_X8_go mc_X8_go (by decide) (Nat.le_of_ble_eq_true rfl) (sp_X8_go r w (by omega) (by omega) ?_)
  refine v_i2l 8 (lN (gW f s t)) dX8_step_7 rfl (nI_l (by omega)) ?_
  refine v_aload_n 9 rfl dX8_step_8 rfl ?_
  refine v_iload 11 rfl dX8_step_9 rfl ?_
  refine v_aload_n 12 rfl dX8_step_11 rfl ?_
  refine v_iload_n 13 rfl dX8_step_12 rfl ?_
  refine v_iload_n 14 rfl dX8_step_13 rfl ?_
  refine v_iconst 15 (nI (1)) (by decide) dX8_step_14 rfl ?_
  refine v_iadd 16 (nI (p + 1)) dX8_step_15 rfl (nI_add _ _) ?_
  refine v_invV 19 M_X8_signAt [.int (nI (k)), .int (nI (p + 1))] (by decide) rfl (by decide) rfl dX8_step_16 rfl ml_X8_69 im_X8_signAt se_X8_signAt mc_X8_signAt (by decide) (Nat.le_of_ble_eq_true rfl) (sp_X8_signAt r w (by omega) (by omega) ?_)
  refine v_invV 22 M_X8_show [.int (nI (t)), .int (nI (sG f k (p + 1)))] (by decide) rfl (by decide) rfl dX8_step_19 rfl ml_X8_73 im_X8_show se_X8_show mc_X8_show (by decide) (Nat.le_of_ble_eq_true rfl) (sp_X8_show r w (by omega) (by omega) ?_)
  refine v_i2l 23 (lN (sW f t (sG f k (p + 1)))) dX8_step_22 rfl (nI_l (by omega)) ?_
  refine v_lmul 24 (lN ((gW f s t) * (sW f t (sG f k (p + 1))))) dX8_step_23 rfl (lN_mul _ _) ?_
  refine v_lret rfl dX8_step_24 ?_
  exact hQ
set_option maxHeartbeats 4000000 in
theorem sp_X8_weightAt {x : Cx} {Q : Qt} {I : Iv} {L : Lv} {P : Pv} {f : Vw} (r : RR (I 41) f) (w : Wf f) {k : Nat} (hk : k < f 1) {p s : Nat} (um : UM f k L) (hp : p < nP f k) (hs : s < f 0) (hQ : Q (some (.long (lN (wtW f k p s)))) I L P) : SP x M_X8_weightAt [rfv x 40, .int (nI (p)), .int (nI (s))] I L P Q := by
  have := w.n4
  have := w.n1
  have := w.m6
  have := w.p hk
  
  refine SP.intro [some (rfv x 40), some (.int (nI (p))), some (.int (nI (s)))] pn_X8_weightAt (Nat.le_of_ble_eq_true rfl) rfl ?_
  refine v_aload_n 1 rfl dX8_weightAt_0 rfl ?_
  refine v_get 4 (k := 9) 8 (rfv x 46) (by decide) rfl (by decide) (by decide) dX8_weightAt_1 rfl fl_X8_25 rfl ?_
  refine v_iconst 5 (nI (4)) (by decide) dX8_weightAt_4 rfl ?_
  refine v_iload_n 6 rfl dX8_weightAt_5 rfl ?_
  refine v_imul 7 (nI (4 * p)) dX8_weightAt_6 rfl (pk_mul _ _) ?_
  refine v_iload_n 8 rfl dX8_weightAt_7 rfl ?_
  refine v_iadd 9 (nI ((4 * p) + s)) dX8_weightAt_8 rfl (nI_add _ _) ?_
  refine v_lald 10 (k := (4 * p) + s) (lN (upW f k p s)) (by decide) rfl (by decide) dX8_weightAt_9 rfl rfl (by omega) (um.1 p s _ hp hs rfl) ?_
  refine v_aload_n 11 rfl dX8_weightAt_10 rfl ?_
  refine v_get 14 (k := 10) 8 (rfv x 47) (by decide) rfl (by decide) (by decide) dX8_weightAt_11 rfl fl_X8_29 rfl ?_
  refine v_iconst 15 (nI (4)) (by decide) dX8_weightAt_14 rfl ?_
  refine v_iload_n 16 rfl dX8_weightAt_15 rfl ?_
  refine v_imul 17 (nI (4 * p)) dX8_weightAt_16 rfl (pk_mul _ _) ?_
  refine v_iload_n 18 rfl dX8_weightAt_17 rfl ?_
  refine v_iadd 19 (nI ((4 * p) + s)) dX8_weightAt_18 rfl (nI_add _ _) ?_
  refine v_lald 20 (k := (4 * p) + s) (lN (bhW f k p s)) (by decide) rfl (by decide) dX8_weightAt_19 rfl rfl (by omega) (um.2.1 p s _ hp hs rfl) ?_
  refine v_lmul 21 (lN ((upW f k p s) * (bhW f k p s))) dX8_weightAt_20 rfl (lN_mul _ _) ?_
  refine v_lret rfl dX8_weightAt_21 ?_
  exact hQ
set_option maxHeartbeats 4000000 in
theorem sp_X8_total {x : Cx} {Q : Qt} {I : Iv} {L : Lv} {P : Pv} {f : Vw} (r : RR (I 41) f) (w : Wf f) {k : Nat} (hk : k < f 1) (um : UM f k L) (hQ : Q (some (.long (lN (totW f k)))) I L P) : SP x M_X8_total [rfv x 40] I L P Q := by
  have := w.n4
  have := w.n1
  have := w.m6
  have := w.p hk
  
  refine SP.intro [some (rfv x 40), none, none, none] pn_X8_total (Nat.le_of_ble_eq_true rfl) rfl ?_
  refine v_lconst 1 (lN (0)) rfl dX8_total_0 rfl ?_
  refine v_lstore_n 2 [some (rfv x 40), some (.long (lN (0))), none, none] dX8_total_1 rfl (by decide) rfl ?_
  refine v_iconst 3 (nI (0)) (by decide) dX8_total_2 rfl ?_
  refine v_istore_n 4 [some (rfv x 40), some (.long (lN (0))), none, some (.int (nI (0)))] dX8_total_3 rfl (by decide) rfl ?_
  have lp : ∀ i, i ≤ f 0 → V x M_X8_total Q 4 [some (rfv x 40), some (.long (lN (smN i (fun s => wtW f k 0 s)))), none, some (.int (nI (i)))] [] I L P := by
    refine lpU ?_ ?_
    · skip
      refine v_iload_n 5 rfl dX8_total_4 rfl ?_
      refine v_aload_n 6 rfl dX8_total_5 rfl ?_
      refine v_get 9 (k := 1) 8 (rfv x 41) (by decide) rfl (by decide) (by decide) dX8_total_6 rfl fl_X8_7 rfl ?_
      refine v_iconst 10 (nI (0)) (by decide) dX8_total_9 rfl ?_
      refine v_iald 11 (k := 0) (nI (f 0)) (by decide) rfl (by decide) dX8_total_10 rfl rfl (by omega) r.st ?_
      refine v_icmpN_ge 29 14 dX8_total_11 (by decide) rfl (by omega) (by omega) (fun h11 => ?_) (fun h11 => ?_)
      · skip
        refine v_lload_n 30 rfl dX8_total_29 rfl ?_
        refine v_lret rfl dX8_total_30 ?_
        exact hQ
      · skip
        exact absurd h11 (by omega)
    · intro i hi ih 
      refine v_iload_n 5 rfl dX8_total_4 rfl ?_
      refine v_aload_n 6 rfl dX8_total_5 rfl ?_
      refine v_get 9 (k := 1) 8 (rfv x 41) (by decide) rfl (by decide) (by decide) dX8_total_6 rfl fl_X8_7 rfl ?_
      refine v_iconst 10 (nI (0)) (by decide) dX8_total_9 rfl ?_
      refine v_iald 11 (k := 0) (nI (f 0)) (by decide) rfl (by decide) dX8_total_10 rfl rfl (by omega) r.st ?_
      refine v_icmpN_ge 29 14 dX8_total_11 (by decide) rfl (by omega) (by omega) (fun h11 => ?_) (fun h11 => ?_)
      · skip
        exact absurd h11 (by omega)
      · skip
        refine v_lload_n 15 rfl dX8_total_14 rfl ?_
        refine v_aload_n 16 rfl dX8_total_15 rfl ?_
        refine v_iconst 17 (nI (0)) (by decide) dX8_total_16 rfl ?_
        refine v_iload_n 18 rfl dX8_total_17 rfl ?_
        refine v_invV 21 M_X8_weightAt [.int (nI (0)), .int (nI (i))] (by decide) rfl (by decide) rfl dX8_total_18 rfl ml_X8_87 im_X8_weightAt se_X8_weightAt mc_X8_weightAt (by decide) (Nat.le_of_ble_eq_true rfl) (sp_X8_weightAt r w hk um (by omega) (by omega) ?_)
        refine v_ladd 22 (lN ((smN i (fun s => wtW f k 0 s)) + (wtW f k 0 i))) dX8_total_21 rfl (lN_add _ _) ?_
        refine v_lstore_n 23 [some (rfv x 40), some (.long (lN ((smN i (fun s => wtW f k 0 s)) + (wtW f k 0 i)))), none, some (.int (nI (i)))] dX8_total_22 rfl (by decide) rfl ?_
        refine v_iinc 26 [some (rfv x 40), some (.long (lN ((smN i (fun s => wtW f k 0 s)) + (wtW f k 0 i)))), none, some (.int (nI (i + 1)))] (nI (i + 1)) dX8_total_23 rfl (by decide) rfl (nI_inc _) rfl ?_
        refine v_goto 4 dX8_total_26 (by decide) ?_
        refine v_drop [some (rfv x 40), some (.long (lN (smN (i + 1) (fun s => wtW f k 0 s)))), none, some (.int (nI (i + 1)))] (by simp [lsub, smN_s]) ?_
        exact ih
  refine v_drop [some (rfv x 40), some (.long (lN (smN 0 (fun s => wtW f k 0 s)))), none, some (.int (nI (0)))] (by simp [lsub, smN, amN, dbW, mxN]) ?_
  exact lp 0 (Nat.zero_le _)
set_option maxHeartbeats 4000000 in
theorem sp_X8_runsThatCount {x : Cx} {Q : Qt} {I : Iv} {L : Lv} {P : Pv} {f : Vw} (r : RR (I 41) f) (w : Wf f) {k : Nat} (hk : k < f 1) (um : UM f k L) (hQ : Q (some (.long (lN (cntW f k)))) I L P) : SP x M_X8_runsThatCount [rfv x 40] I L P Q := by
  have := w.n4
  have := w.n1
  have := w.m6
  have := w.p hk
  
  refine SP.intro [some (rfv x 40), none, none, none] pn_X8_runsThatCount (Nat.le_of_ble_eq_true rfl) rfl ?_
  refine v_lconst 1 (lN (0)) rfl dX8_runsThatCount_0 rfl ?_
  refine v_lstore_n 2 [some (rfv x 40), some (.long (lN (0))), none, none] dX8_runsThatCount_1 rfl (by decide) rfl ?_
  refine v_iconst 3 (nI (0)) (by decide) dX8_runsThatCount_2 rfl ?_
  refine v_istore_n 4 [some (rfv x 40), some (.long (lN (0))), none, some (.int (nI (0)))] dX8_runsThatCount_3 rfl (by decide) rfl ?_
  have lp : ∀ i, i ≤ f 0 → V x M_X8_runsThatCount Q 4 [some (rfv x 40), some (.long (lN (smN i (fun s => enW f k 0 0 s)))), none, some (.int (nI (i)))] [] I L P := by
    refine lpU ?_ ?_
    · skip
      refine v_iload_n 5 rfl dX8_runsThatCount_4 rfl ?_
      refine v_aload_n 6 rfl dX8_runsThatCount_5 rfl ?_
      refine v_get 9 (k := 1) 8 (rfv x 41) (by decide) rfl (by decide) (by decide) dX8_runsThatCount_6 rfl fl_X8_7 rfl ?_
      refine v_iconst 10 (nI (0)) (by decide) dX8_runsThatCount_9 rfl ?_
      refine v_iald 11 (k := 0) (nI (f 0)) (by decide) rfl (by decide) dX8_runsThatCount_10 rfl rfl (by omega) r.st ?_
      refine v_icmpN_ge 44 14 dX8_runsThatCount_11 (by decide) rfl (by omega) (by omega) (fun h11 => ?_) (fun h11 => ?_)
      · skip
        refine v_lload_n 45 rfl dX8_runsThatCount_44 rfl ?_
        refine v_lret rfl dX8_runsThatCount_45 ?_
        exact hQ
      · skip
        exact absurd h11 (by omega)
    · intro i hi ih 
      have e1 := (pk_lLT (a := 0) (b := upW f k 0 i) (by decide) (Nat.lt_of_le_of_lt (upL_le w hk (by omega) hi) (by decide)))
      refine v_iload_n 5 rfl dX8_runsThatCount_4 rfl ?_
      refine v_aload_n 6 rfl dX8_runsThatCount_5 rfl ?_
      refine v_get 9 (k := 1) 8 (rfv x 41) (by decide) rfl (by decide) (by decide) dX8_runsThatCount_6 rfl fl_X8_7 rfl ?_
      refine v_iconst 10 (nI (0)) (by decide) dX8_runsThatCount_9 rfl ?_
      refine v_iald 11 (k := 0) (nI (f 0)) (by decide) rfl (by decide) dX8_runsThatCount_10 rfl rfl (by omega) r.st ?_
      refine v_icmpN_ge 44 14 dX8_runsThatCount_11 (by decide) rfl (by omega) (by omega) (fun h11 => ?_) (fun h11 => ?_)
      · skip
        exact absurd h11 (by omega)
      · skip
        refine v_lload_n 15 rfl dX8_runsThatCount_14 rfl ?_
        refine v_aload_n 16 rfl dX8_runsThatCount_15 rfl ?_
        refine v_get 19 (k := 9) 8 (rfv x 46) (by decide) rfl (by decide) (by decide) dX8_runsThatCount_16 rfl fl_X8_25 rfl ?_
        refine v_iload_n 20 rfl dX8_runsThatCount_19 rfl ?_
        refine v_lald 21 (k := i) (lN (upW f k 0 i)) (by decide) rfl (by decide) dX8_runsThatCount_20 rfl rfl (by omega) (um.1 0 i _ (by omega) hi (by omega)) ?_
        refine v_lconst 22 (lN (0)) rfl dX8_runsThatCount_21 rfl ?_
        refine v_lcmp_le 23 35 26 dX8_runsThatCount_22 rfl dX8_runsThatCount_23 (by decide) rfl (fun h22 => ?_) (fun h22 => ?_)
        · skip
          refine v_lconst 36 (lN (0)) rfl dX8_runsThatCount_35 rfl ?_
          refine v_ladd 37 (lN ((smN i (fun s => enW f k 0 0 s)) + 0)) dX8_runsThatCount_36 rfl (lN_add _ _) ?_
          refine v_lstore_n 38 [some (rfv x 40), some (.long (lN ((smN i (fun s => enW f k 0 0 s)) + 0))), none, some (.int (nI (i)))] dX8_runsThatCount_37 rfl (by decide) rfl ?_
          refine v_iinc 41 [some (rfv x 40), some (.long (lN ((smN i (fun s => enW f k 0 0 s)) + 0))), none, some (.int (nI (i + 1)))] (nI (i + 1)) dX8_runsThatCount_38 rfl (by decide) rfl (nI_inc _) rfl ?_
          refine v_goto 4 dX8_runsThatCount_41 (by decide) ?_
          refine v_drop [some (rfv x 40), some (.long (lN (smN (i + 1) (fun s => enW f k 0 0 s)))), none, some (.int (nI (i + 1)))] (by rw [e1] at h22; simp [lsub, smN_s, en_up, h22]) ?_
          exact ih
        · skip
          refine v_aload_n 27 rfl dX8_runsThatCount_26 rfl ?_
          refine v_get 30 (k := 12) 8 (rfv x 49) (by decide) rfl (by decide) (by decide) dX8_runsThatCount_27 rfl fl_X8_35 rfl ?_
          refine v_iload_n 31 rfl dX8_runsThatCount_30 rfl ?_
          refine v_lald 32 (k := i) (lN (mnW f k 0 i)) (by decide) rfl (by decide) dX8_runsThatCount_31 rfl rfl (by omega) (um.2.2.2 0 i _ (by omega) hi (by omega)) ?_
          refine v_goto 36 dX8_runsThatCount_32 (by decide) ?_
          refine v_ladd 37 (lN ((smN i (fun s => enW f k 0 0 s)) + (mnW f k 0 i))) dX8_runsThatCount_36 rfl (lN_add _ _) ?_
          refine v_lstore_n 38 [some (rfv x 40), some (.long (lN ((smN i (fun s => enW f k 0 0 s)) + (mnW f k 0 i)))), none, some (.int (nI (i)))] dX8_runsThatCount_37 rfl (by decide) rfl ?_
          refine v_iinc 41 [some (rfv x 40), some (.long (lN ((smN i (fun s => enW f k 0 0 s)) + (mnW f k 0 i)))), none, some (.int (nI (i + 1)))] (nI (i + 1)) dX8_runsThatCount_38 rfl (by decide) rfl (nI_inc _) rfl ?_
          refine v_goto 4 dX8_runsThatCount_41 (by decide) ?_
          refine v_drop [some (rfv x 40), some (.long (lN (smN (i + 1) (fun s => enW f k 0 0 s)))), none, some (.int (nI (i + 1)))] (by rw [e1] at h22; simp [lsub, smN_s, en_up, h22]) ?_
          exact ih
  refine v_drop [some (rfv x 40), some (.long (lN (smN 0 (fun s => enW f k 0 0 s)))), none, some (.int (nI (0)))] (by simp [lsub, smN, amN, dbW, mxN]) ?_
  exact lp 0 (Nat.zero_le _)
set_option maxHeartbeats 4000000 in
theorem sp_X8_bestWeight {x : Cx} {Q : Qt} {I : Iv} {L : Lv} {P : Pv} {f : Vw} (r : RR (I 41) f) (w : Wf f) {k : Nat} (hk : k < f 1) (um : UM f k L) (hQ : Q (some (.long (lN (bestW f k)))) I L P) : SP x M_X8_bestWeight [rfv x 40] I L P Q := by
  have := w.n4
  have := w.n1
  have := w.m6
  have := w.p hk
  
  refine SP.intro [some (rfv x 40), none, none, none, none, none] pn_X8_bestWeight (Nat.le_of_ble_eq_true rfl) rfl ?_
  refine v_lconst 1 (lN (0)) rfl dX8_bestWeight_0 rfl ?_
  refine v_lstore_n 2 [some (rfv x 40), some (.long (lN (0))), none, none, none, none] dX8_bestWeight_1 rfl (by decide) rfl ?_
  refine v_iconst 3 (nI (0)) (by decide) dX8_bestWeight_2 rfl ?_
  refine v_istore_n 4 [some (rfv x 40), some (.long (lN (0))), none, some (.int (nI (0))), none, none] dX8_bestWeight_3 rfl (by decide) rfl ?_
  have lp : ∀ i, i ≤ f 0 → V x M_X8_bestWeight Q 4 [some (rfv x 40), some (.long (lN (mxN i (bgW f k)))), none, some (.int (nI (i))), none, none] [] I L P := by
    refine lpU ?_ ?_
    · skip
      refine v_iload_n 5 rfl dX8_bestWeight_4 rfl ?_
      refine v_aload_n 6 rfl dX8_bestWeight_5 rfl ?_
      refine v_get 9 (k := 1) 8 (rfv x 41) (by decide) rfl (by decide) (by decide) dX8_bestWeight_6 rfl fl_X8_7 rfl ?_
      refine v_iconst 10 (nI (0)) (by decide) dX8_bestWeight_9 rfl ?_
      refine v_iald 11 (k := 0) (nI (f 0)) (by decide) rfl (by decide) dX8_bestWeight_10 rfl rfl (by omega) r.st ?_
      refine v_icmpN_ge 49 14 dX8_bestWeight_11 (by decide) rfl (by omega) (by omega) (fun h11 => ?_) (fun h11 => ?_)
      · skip
        refine v_lload_n 50 rfl dX8_bestWeight_49 rfl ?_
        refine v_lret rfl dX8_bestWeight_50 ?_
        exact hQ
      · skip
        exact absurd h11 (by omega)
    · intro i hi ih 
      have e1 := (pk_lLT (a := mxN i (bgW f k)) (b := bgW f k i) (Nat.lt_of_le_of_lt (mxN_le (c := 2 ^ 63 - 1) (fun s hs => by have := bgW_le w hk (s := s) (by omega); omega)) (by decide)) (bgW_le w hk hi))
      refine v_iload_n 5 rfl dX8_bestWeight_4 rfl ?_
      refine v_aload_n 6 rfl dX8_bestWeight_5 rfl ?_
      refine v_get 9 (k := 1) 8 (rfv x 41) (by decide) rfl (by decide) (by decide) dX8_bestWeight_6 rfl fl_X8_7 rfl ?_
      refine v_iconst 10 (nI (0)) (by decide) dX8_bestWeight_9 rfl ?_
      refine v_iald 11 (k := 0) (nI (f 0)) (by decide) rfl (by decide) dX8_bestWeight_10 rfl rfl (by omega) r.st ?_
      refine v_icmpN_ge 49 14 dX8_bestWeight_11 (by decide) rfl (by omega) (by omega) (fun h11 => ?_) (fun h11 => ?_)
      · skip
        exact absurd h11 (by omega)
      · skip
        refine v_aload_n 15 rfl dX8_bestWeight_14 rfl ?_
        refine v_get 18 (k := 9) 8 (rfv x 46) (by decide) rfl (by decide) (by decide) dX8_bestWeight_15 rfl fl_X8_25 rfl ?_
        refine v_iload_n 19 rfl dX8_bestWeight_18 rfl ?_
        refine v_lald 20 (k := i) (lN (upW f k 0 i)) (by decide) rfl (by decide) dX8_bestWeight_19 rfl rfl (by omega) (um.1 0 i _ (by omega) hi (by omega)) ?_
        refine v_aload_n 21 rfl dX8_bestWeight_20 rfl ?_
        refine v_get 24 (k := 11) 8 (rfv x 48) (by decide) rfl (by decide) (by decide) dX8_bestWeight_21 rfl fl_X8_32 rfl ?_
        refine v_iload_n 25 rfl dX8_bestWeight_24 rfl ?_
        refine v_lald 26 (k := i) (lN (grW f k 0 i)) (by decide) rfl (by decide) dX8_bestWeight_25 rfl rfl (by omega) (um.2.2.1 0 i _ (by omega) hi (by omega)) ?_
        refine v_lmul 27 (lN (bgW f k i)) dX8_bestWeight_26 rfl ((lN_mul _ _).trans (congrArg lN bgW_up.symm)) ?_
        refine v_lstore 29 [some (rfv x 40), some (.long (lN (mxN i (bgW f k)))), none, some (.int (nI (i))), some (.long (lN (bgW f k i))), none] dX8_bestWeight_27 rfl (by decide) rfl ?_
        refine v_lload 31 rfl dX8_bestWeight_29 rfl ?_
        refine v_lload_n 32 rfl dX8_bestWeight_31 rfl ?_
        refine v_lcmp_le 33 41 36 dX8_bestWeight_32 rfl dX8_bestWeight_33 (by decide) rfl (fun h32 => ?_) (fun h32 => ?_)
        · skip
          refine v_lload_n 42 rfl dX8_bestWeight_41 rfl ?_
          refine v_lstore_n 43 [some (rfv x 40), some (.long (lN (mxN i (bgW f k)))), none, some (.int (nI (i))), some (.long (lN (bgW f k i))), none] dX8_bestWeight_42 rfl (by decide) rfl ?_
          refine v_iinc 46 [some (rfv x 40), some (.long (lN (mxN i (bgW f k)))), none, some (.int (nI (i + 1))), some (.long (lN (bgW f k i))), none] (nI (i + 1)) dX8_bestWeight_43 rfl (by decide) rfl (nI_inc _) rfl ?_
          refine v_goto 4 dX8_bestWeight_46 (by decide) ?_
          refine v_drop [some (rfv x 40), some (.long (lN (mxN (i + 1) (bgW f k)))), none, some (.int (nI (i + 1))), none, none] (by rw [e1] at h32; simp [lsub, mxN_s, h32]) ?_
          exact ih
        · skip
          refine v_lload 38 rfl dX8_bestWeight_36 rfl ?_
          refine v_goto 42 dX8_bestWeight_38 (by decide) ?_
          refine v_lstore_n 43 [some (rfv x 40), some (.long (lN (bgW f k i))), none, some (.int (nI (i))), some (.long (lN (bgW f k i))), none] dX8_bestWeight_42 rfl (by decide) rfl ?_
          refine v_iinc 46 [some (rfv x 40), some (.long (lN (bgW f k i))), none, some (.int (nI (i + 1))), some (.long (lN (bgW f k i))), none] (nI (i + 1)) dX8_bestWeight_43 rfl (by decide) rfl (nI_inc _) rfl ?_
          refine v_goto 4 dX8_bestWeight_46 (by decide) ?_
          refine v_drop [some (rfv x 40), some (.long (lN (mxN (i + 1) (bgW f k)))), none, some (.int (nI (i + 1))), none, none] (by rw [e1] at h32; simp [lsub, mxN_s, h32]) ?_
          exact ih
  refine v_drop [some (rfv x 40), some (.long (lN (mxN 0 (bgW f k)))), none, some (.int (nI (0))), none, none] (by simp [lsub, smN, amN, dbW, mxN]) ?_
  exact lp 0 (Nat.zero_le _)
set_option maxHeartbeats 4000000 in
theorem sp_X8_shareOf {x : Cx} {Q : Qt} {I : Iv} {L : Lv} {P : Pv} {a t : Nat} (ht : 0 < t) (hb : t < 576460752303423488) (ha : a < 9223372036854775808) (hQ : Q (some (.int (nI (shN a t)))) I L P) : SP x M_X8_shareOf [.long (lN (a)), .long (lN (t))] I L P Q := by
  have r0 : a % t < t := Nat.mod_lt _ ht
  have r1 : a % t * 10 % t < t := Nat.mod_lt _ ht
  have r2 : a % t * 10 % t * 10 % t < t := Nat.mod_lt _ ht
  have hne : ¬ lN t = 0 := lN_ne0 ht (by omega)
  refine SP.intro [some (.long (lN (a))), none, some (.long (lN (t))), none, none, none, none, none, none] pn_X8_shareOf (Nat.le_of_ble_eq_true rfl) rfl ?_
  refine v_lload_n 1 rfl dX8_shareOf_0 rfl ?_
  refine v_lload_n 2 rfl dX8_shareOf_1 rfl ?_
  refine v_ldiv 3 (lN (a / t)) dX8_shareOf_2 rfl hne (pk_lDiv (by omega) ht (by omega)) ?_
  refine v_lstore 5 [some (.long (lN (a))), none, some (.long (lN (t))), none, some (.long (lN (a / t))), none, none, none, none] dX8_shareOf_3 rfl (by decide) rfl ?_
  refine v_lload_n 6 rfl dX8_shareOf_5 rfl ?_
  refine v_lload_n 7 rfl dX8_shareOf_6 rfl ?_
  refine v_lrem 8 (lN (a % t)) dX8_shareOf_7 rfl hne (pk_lRem (by omega) ht (by omega)) ?_
  refine v_lstore 10 [some (.long (lN (a))), none, some (.long (lN (t))), none, some (.long (lN (a / t))), none, some (.long (lN (a % t))), none, none] dX8_shareOf_8 rfl (by decide) rfl ?_
  refine v_iconst 11 (nI (0)) (by decide) dX8_shareOf_10 rfl ?_
  refine v_istore 13 [some (.long (lN (a))), none, some (.long (lN (t))), none, some (.long (lN (a / t))), none, some (.long (lN (a % t))), none, some (.int (nI (0)))] dX8_shareOf_11 rfl (by decide) rfl ?_
  refine v_iload 15 rfl dX8_shareOf_13 rfl ?_
  refine v_iconst 16 (nI (3)) (by decide) dX8_shareOf_15 rfl ?_
  refine v_icmpN_ge 52 19 dX8_shareOf_16 (by decide) rfl (by omega) (by omega) (fun h16 => ?_) (fun h16 => ?_)
  · skip
    exact absurd h16 (by omega)
  · skip
    refine v_lload 21 rfl dX8_shareOf_19 rfl ?_
    refine v_ldc2 24 (lN (10)) dX8_shareOf_21 rfl ko_X8_91 ?_
    refine v_lmul 25 (lN ((a % t) * 10)) dX8_shareOf_24 rfl (lN_mul _ _) ?_
    refine v_lstore 27 [some (.long (lN (a))), none, some (.long (lN (t))), none, some (.long (lN (a / t))), none, some (.long (lN ((a % t) * 10))), none, some (.int (nI (0)))] dX8_shareOf_25 rfl (by decide) rfl ?_
    refine v_ldc2 30 (lN (10)) dX8_shareOf_27 rfl ko_X8_91 ?_
    refine v_lload 32 rfl dX8_shareOf_30 rfl ?_
    refine v_lmul 33 (lN (10 * (a / t))) dX8_shareOf_32 rfl (lN_mul _ _) ?_
    refine v_lload 35 rfl dX8_shareOf_33 rfl ?_
    refine v_lload_n 36 rfl dX8_shareOf_35 rfl ?_
    refine v_ldiv 37 (lN (((a % t) * 10) / t)) dX8_shareOf_36 rfl hne (pk_lDiv (by omega) ht (by omega)) ?_
    refine v_ladd 38 (lN ((10 * (a / t)) + (((a % t) * 10) / t))) dX8_shareOf_37 rfl (lN_add _ _) ?_
    refine v_lstore 40 [some (.long (lN (a))), none, some (.long (lN (t))), none, some (.long (lN ((10 * (a / t)) + (((a % t) * 10) / t)))), none, some (.long (lN ((a % t) * 10))), none, some (.int (nI (0)))] dX8_shareOf_38 rfl (by decide) rfl ?_
    refine v_lload 42 rfl dX8_shareOf_40 rfl ?_
    refine v_lload_n 43 rfl dX8_shareOf_42 rfl ?_
    refine v_lrem 44 (lN (((a % t) * 10) % t)) dX8_shareOf_43 rfl hne (pk_lRem (by omega) ht (by omega)) ?_
    refine v_lstore 46 [some (.long (lN (a))), none, some (.long (lN (t))), none, some (.long (lN ((10 * (a / t)) + (((a % t) * 10) / t)))), none, some (.long (lN (((a % t) * 10) % t))), none, some (.int (nI (0)))] dX8_shareOf_44 rfl (by decide) rfl ?_
    refine v_iinc 49 [some (.long (lN (a))), none, some (.long (lN (t))), none, some (.long (lN ((10 * (a / t)) + (((a % t) * 10) / t)))), none, some (.long (lN (((a % t) * 10) % t))), none, some (.int (nI (0 + 1)))] (nI (0 + 1)) dX8_shareOf_46 rfl (by decide) rfl (nI_inc _) rfl ?_
    refine v_goto 13 dX8_shareOf_49 (by decide) ?_
    refine v_iload 15 rfl dX8_shareOf_13 rfl ?_
    refine v_iconst 16 (nI (3)) (by decide) dX8_shareOf_15 rfl ?_
    refine v_icmpN_ge 52 19 dX8_shareOf_16 (by decide) rfl (by omega) (by omega) (fun h16 => ?_) (fun h16 => ?_)
    · skip
      exact absurd h16 (by omega)
    · skip
      refine v_lload 21 rfl dX8_shareOf_19 rfl ?_
      refine v_ldc2 24 (lN (10)) dX8_shareOf_21 rfl ko_X8_91 ?_
      refine v_lmul 25 (lN ((((a % t) * 10) % t) * 10)) dX8_shareOf_24 rfl (lN_mul _ _) ?_
      refine v_lstore 27 [some (.long (lN (a))), none, some (.long (lN (t))), none, some (.long (lN ((10 * (a / t)) + (((a % t) * 10) / t)))), none, some (.long (lN ((((a % t) * 10) % t) * 10))), none, some (.int (nI (0 + 1)))] dX8_shareOf_25 rfl (by decide) rfl ?_
      refine v_ldc2 30 (lN (10)) dX8_shareOf_27 rfl ko_X8_91 ?_
      refine v_lload 32 rfl dX8_shareOf_30 rfl ?_
      refine v_lmul 33 (lN (10 * ((10 * (a / t)) + (((a % t) * 10) / t)))) dX8_shareOf_32 rfl (lN_mul _ _) ?_
      refine v_lload 35 rfl dX8_shareOf_33 rfl ?_
      refine v_lload_n 36 rfl dX8_shareOf_35 rfl ?_
      refine v_ldiv 37 (lN (((((a % t) * 10) % t) * 10) / t)) dX8_shareOf_36 rfl hne (pk_lDiv (by omega) ht (by omega)) ?_
      refine v_ladd 38 (lN ((10 * ((10 * (a / t)) + (((a % t) * 10) / t))) + (((((a % t) * 10) % t) * 10) / t))) dX8_shareOf_37 rfl (lN_add _ _) ?_
      refine v_lstore 40 [some (.long (lN (a))), none, some (.long (lN (t))), none, some (.long (lN ((10 * ((10 * (a / t)) + (((a % t) * 10) / t))) + (((((a % t) * 10) % t) * 10) / t)))), none, some (.long (lN ((((a % t) * 10) % t) * 10))), none, some (.int (nI (0 + 1)))] dX8_shareOf_38 rfl (by decide) rfl ?_
      refine v_lload 42 rfl dX8_shareOf_40 rfl ?_
      refine v_lload_n 43 rfl dX8_shareOf_42 rfl ?_
      refine v_lrem 44 (lN (((((a % t) * 10) % t) * 10) % t)) dX8_shareOf_43 rfl hne (pk_lRem (by omega) ht (by omega)) ?_
      refine v_lstore 46 [some (.long (lN (a))), none, some (.long (lN (t))), none, some (.long (lN ((10 * ((10 * (a / t)) + (((a % t) * 10) / t))) + (((((a % t) * 10) % t) * 10) / t)))), none, some (.long (lN (((((a % t) * 10) % t) * 10) % t))), none, some (.int (nI (0 + 1)))] dX8_shareOf_44 rfl (by decide) rfl ?_
      refine v_iinc 49 [some (.long (lN (a))), none, some (.long (lN (t))), none, some (.long (lN ((10 * ((10 * (a / t)) + (((a % t) * 10) / t))) + (((((a % t) * 10) % t) * 10) / t)))), none, some (.long (lN (((((a % t) * 10) % t) * 10) % t))), none, some (.int (nI ((0 + 1) + 1)))] (nI ((0 + 1) + 1)) dX8_shareOf_46 rfl (by decide) rfl (nI_inc _) rfl ?_
      refine v_goto 13 dX8_shareOf_49 (by decide) ?_
      refine v_iload 15 rfl dX8_shareOf_13 rfl ?_
      refine v_iconst 16 (nI (3)) (by decide) dX8_shareOf_15 rfl ?_
      refine v_icmpN_ge 52 19 dX8_shareOf_16 (by decide) rfl (by omega) (by omega) (fun h16 => ?_) (fun h16 => ?_)
      · skip
        exact absurd h16 (by omega)
      · skip
        refine v_lload 21 rfl dX8_shareOf_19 rfl ?_
        refine v_ldc2 24 (lN (10)) dX8_shareOf_21 rfl ko_X8_91 ?_
        refine v_lmul 25 (lN ((((((a % t) * 10) % t) * 10) % t) * 10)) dX8_shareOf_24 rfl (lN_mul _ _) ?_
        refine v_lstore 27 [some (.long (lN (a))), none, some (.long (lN (t))), none, some (.long (lN ((10 * ((10 * (a / t)) + (((a % t) * 10) / t))) + (((((a % t) * 10) % t) * 10) / t)))), none, some (.long (lN ((((((a % t) * 10) % t) * 10) % t) * 10))), none, some (.int (nI ((0 + 1) + 1)))] dX8_shareOf_25 rfl (by decide) rfl ?_
        refine v_ldc2 30 (lN (10)) dX8_shareOf_27 rfl ko_X8_91 ?_
        refine v_lload 32 rfl dX8_shareOf_30 rfl ?_
        refine v_lmul 33 (lN (10 * ((10 * ((10 * (a / t)) + (((a % t) * 10) / t))) + (((((a % t) * 10) % t) * 10) / t)))) dX8_shareOf_32 rfl (lN_mul _ _) ?_
        refine v_lload 35 rfl dX8_shareOf_33 rfl ?_
        refine v_lload_n 36 rfl dX8_shareOf_35 rfl ?_
        refine v_ldiv 37 (lN (((((((a % t) * 10) % t) * 10) % t) * 10) / t)) dX8_shareOf_36 rfl hne (pk_lDiv (by omega) ht (by omega)) ?_
        refine v_ladd 38 (lN ((10 * ((10 * ((10 * (a / t)) + (((a % t) * 10) / t))) + (((((a % t) * 10) % t) * 10) / t))) + (((((((a % t) * 10) % t) * 10) % t) * 10) / t))) dX8_shareOf_37 rfl (lN_add _ _) ?_
        refine v_lstore 40 [some (.long (lN (a))), none, some (.long (lN (t))), none, some (.long (lN ((10 * ((10 * ((10 * (a / t)) + (((a % t) * 10) / t))) + (((((a % t) * 10) % t) * 10) / t))) + (((((((a % t) * 10) % t) * 10) % t) * 10) / t)))), none, some (.long (lN ((((((a % t) * 10) % t) * 10) % t) * 10))), none, some (.int (nI ((0 + 1) + 1)))] dX8_shareOf_38 rfl (by decide) rfl ?_
        refine v_lload 42 rfl dX8_shareOf_40 rfl ?_
        refine v_lload_n 43 rfl dX8_shareOf_42 rfl ?_
        refine v_lrem 44 (lN (((((((a % t) * 10) % t) * 10) % t) * 10) % t)) dX8_shareOf_43 rfl hne (pk_lRem (by omega) ht (by omega)) ?_
        refine v_lstore 46 [some (.long (lN (a))), none, some (.long (lN (t))), none, some (.long (lN ((10 * ((10 * ((10 * (a / t)) + (((a % t) * 10) / t))) + (((((a % t) * 10) % t) * 10) / t))) + (((((((a % t) * 10) % t) * 10) % t) * 10) / t)))), none, some (.long (lN (((((((a % t) * 10) % t) * 10) % t) * 10) % t))), none, some (.int (nI ((0 + 1) + 1)))] dX8_shareOf_44 rfl (by decide) rfl ?_
        refine v_iinc 49 [some (.long (lN (a))), none, some (.long (lN (t))), none, some (.long (lN ((10 * ((10 * ((10 * (a / t)) + (((a % t) * 10) / t))) + (((((a % t) * 10) % t) * 10) / t))) + (((((((a % t) * 10) % t) * 10) % t) * 10) / t)))), none, some (.long (lN (((((((a % t) * 10) % t) * 10) % t) * 10) % t))), none, some (.int (nI (((0 + 1) + 1) + 1)))] (nI (((0 + 1) + 1) + 1)) dX8_shareOf_46 rfl (by decide) rfl (nI_inc _) rfl ?_
        refine v_goto 13 dX8_shareOf_49 (by decide) ?_
        refine v_iload 15 rfl dX8_shareOf_13 rfl ?_
        refine v_iconst 16 (nI (3)) (by decide) dX8_shareOf_15 rfl ?_
        refine v_icmpN_ge 52 19 dX8_shareOf_16 (by decide) rfl (by omega) (by omega) (fun h16 => ?_) (fun h16 => ?_)
        · skip
          refine v_lload 54 rfl dX8_shareOf_52 rfl ?_
          refine v_l2i 55 (nI ((10 * ((10 * ((10 * (a / t)) + (((a % t) * 10) / t))) + (((((a % t) * 10) % t) * 10) / t))) + (((((((a % t) * 10) % t) * 10) % t) * 10) / t))) dX8_shareOf_54 rfl (lN_i _) ?_
          refine v_iret rfl dX8_shareOf_55 ?_
          exact qI hQ (dig_3' ht)
        · skip
          exact absurd h16 (by omega)
set_option maxHeartbeats 4000000 in
theorem sp_X8_likeliestAt {x : Cx} {Q : Qt} {I : Iv} {L : Lv} {P : Pv} {f : Vw} (r : RR (I 41) f) (w : Wf f) {k : Nat} (hk : k < f 1) {p : Nat} (um : UM f k L) (hp : p < nP f k) (hQ : Q (some (.int (nI (lkW f k p)))) I L P) : SP x M_X8_likeliestAt [rfv x 40, .int (nI (p))] I L P Q := by
  have := w.n4
  have := w.n1
  have := w.m6
  have := w.p hk
  have hB : ∀ s, s < f 0 → wtW f k p s < 2 ^ 63 := fun s hs => Nat.lt_of_le_of_lt (wtW_le w hk hp hs) (by decide)
  refine SP.intro [some (rfv x 40), some (.int (nI (p))), none, none] pn_X8_likeliestAt (Nat.le_of_ble_eq_true rfl) rfl ?_
  refine v_iconst 1 (nI (0)) (by decide) dX8_likeliestAt_0 rfl ?_
  refine v_istore_n 2 [some (rfv x 40), some (.int (nI (p))), some (.int (nI (0))), none] dX8_likeliestAt_1 rfl (by decide) rfl ?_
  refine v_iconst 3 (nI (1)) (by decide) dX8_likeliestAt_2 rfl ?_
  refine v_istore_n 4 [some (rfv x 40), some (.int (nI (p))), some (.int (nI (0))), some (.int (nI (1)))] dX8_likeliestAt_3 rfl (by decide) rfl ?_
  have lp : ∀ i, i ≤ (f 0 - 1) → V x M_X8_likeliestAt Q 4 [some (rfv x 40), some (.int (nI (p))), some (.int (nI (amN (wtW f k p) i))), some (.int (nI (i + 1)))] [] I L P := by
    refine lpU ?_ ?_
    · skip
      refine v_iload_n 5 rfl dX8_likeliestAt_4 rfl ?_
      refine v_aload_n 6 rfl dX8_likeliestAt_5 rfl ?_
      refine v_get 9 (k := 1) 8 (rfv x 41) (by decide) rfl (by decide) (by decide) dX8_likeliestAt_6 rfl fl_X8_7 rfl ?_
      refine v_iconst 10 (nI (0)) (by decide) dX8_likeliestAt_9 rfl ?_
      refine v_iald 11 (k := 0) (nI (f 0)) (by decide) rfl (by decide) dX8_likeliestAt_10 rfl rfl (by omega) r.st ?_
      refine v_icmpN_ge 42 14 dX8_likeliestAt_11 (by decide) rfl (by omega) (by omega) (fun h11 => ?_) (fun h11 => ?_)
      · skip
        refine v_iload_n 43 rfl dX8_likeliestAt_42 rfl ?_
        refine v_iret rfl dX8_likeliestAt_43 ?_
        exact hQ
      · skip
        exact absurd h11 (by omega)
    · intro i hi ih 
      have := amN_le (wtW f k p) i
      have e2 := (pk_lLT (hB (amN (wtW f k p) i) (by omega)) (hB (i + 1) (by omega)))
      refine v_iload_n 5 rfl dX8_likeliestAt_4 rfl ?_
      refine v_aload_n 6 rfl dX8_likeliestAt_5 rfl ?_
      refine v_get 9 (k := 1) 8 (rfv x 41) (by decide) rfl (by decide) (by decide) dX8_likeliestAt_6 rfl fl_X8_7 rfl ?_
      refine v_iconst 10 (nI (0)) (by decide) dX8_likeliestAt_9 rfl ?_
      refine v_iald 11 (k := 0) (nI (f 0)) (by decide) rfl (by decide) dX8_likeliestAt_10 rfl rfl (by omega) r.st ?_
      refine v_icmpN_ge 42 14 dX8_likeliestAt_11 (by decide) rfl (by omega) (by omega) (fun h11 => ?_) (fun h11 => ?_)
      · skip
        exact absurd h11 (by omega)
      · skip
        refine v_aload_n 15 rfl dX8_likeliestAt_14 rfl ?_
        refine v_iload_n 16 rfl dX8_likeliestAt_15 rfl ?_
        refine v_iload_n 17 rfl dX8_likeliestAt_16 rfl ?_
        refine v_invV 20 M_X8_weightAt [.int (nI (p)), .int (nI (i + 1))] (by decide) rfl (by decide) rfl dX8_likeliestAt_17 rfl ml_X8_87 im_X8_weightAt se_X8_weightAt mc_X8_weightAt (by decide) (Nat.le_of_ble_eq_true rfl) (sp_X8_weightAt r w hk um (by omega) (by omega) ?_)
        refine v_aload_n 21 rfl dX8_likeliestAt_20 rfl ?_
        refine v_iload_n 22 rfl dX8_likeliestAt_21 rfl ?_
        refine v_iload_n 23 rfl dX8_likeliestAt_22 rfl ?_
        refine v_invV 26 M_X8_weightAt [.int (nI (p)), .int (nI (amN (wtW f k p) i))] (by decide) rfl (by decide) rfl dX8_likeliestAt_23 rfl ml_X8_87 im_X8_weightAt se_X8_weightAt mc_X8_weightAt (by decide) (Nat.le_of_ble_eq_true rfl) (sp_X8_weightAt r w hk um (by omega) (by omega) ?_)
        refine v_lcmp_le 27 34 30 dX8_likeliestAt_26 rfl dX8_likeliestAt_27 (by decide) rfl (fun h26 => ?_) (fun h26 => ?_)
        · skip
          refine v_iload_n 35 rfl dX8_likeliestAt_34 rfl ?_
          refine v_istore_n 36 [some (rfv x 40), some (.int (nI (p))), some (.int (nI (amN (wtW f k p) i))), some (.int (nI (i + 1)))] dX8_likeliestAt_35 rfl (by decide) rfl ?_
          refine v_iinc 39 [some (rfv x 40), some (.int (nI (p))), some (.int (nI (amN (wtW f k p) i))), some (.int (nI ((i + 1) + 1)))] (nI ((i + 1) + 1)) dX8_likeliestAt_36 rfl (by decide) rfl (nI_inc _) rfl ?_
          refine v_goto 4 dX8_likeliestAt_39 (by decide) ?_
          refine v_drop [some (rfv x 40), some (.int (nI (p))), some (.int (nI (amN (wtW f k p) (i + 1)))), some (.int (nI ((i + 1) + 1)))] (by rw [e2] at h26; simp [lsub, amN_s, h26]) ?_
          exact ih
        · skip
          refine v_iload_n 31 rfl dX8_likeliestAt_30 rfl ?_
          refine v_goto 35 dX8_likeliestAt_31 (by decide) ?_
          refine v_istore_n 36 [some (rfv x 40), some (.int (nI (p))), some (.int (nI (i + 1))), some (.int (nI (i + 1)))] dX8_likeliestAt_35 rfl (by decide) rfl ?_
          refine v_iinc 39 [some (rfv x 40), some (.int (nI (p))), some (.int (nI (i + 1))), some (.int (nI ((i + 1) + 1)))] (nI ((i + 1) + 1)) dX8_likeliestAt_36 rfl (by decide) rfl (nI_inc _) rfl ?_
          refine v_goto 4 dX8_likeliestAt_39 (by decide) ?_
          refine v_drop [some (rfv x 40), some (.int (nI (p))), some (.int (nI (amN (wtW f k p) (i + 1)))), some (.int (nI ((i + 1) + 1)))] (by rw [e2] at h26; simp [lsub, amN_s, h26]) ?_
          exact ih
  refine v_drop [some (rfv x 40), some (.int (nI (p))), some (.int (nI (amN (wtW f k p) 0))), some (.int (nI (0 + 1)))] (by simp [lsub, smN, amN, dbW, mxN]) ?_
  exact lp 0 (Nat.zero_le _)
