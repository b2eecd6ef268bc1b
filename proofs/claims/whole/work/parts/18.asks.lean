set_option maxHeartbeats 4000000 in
theorem sp_X3_hasPlace {x : Cx} {Q : Qt} {I : Iv} {L : Lv} {P : Pv} {f : Vw} (c : RC 1 f I) (w : Wf f) {z p : Int32} (hQ : Q (some (.int (nI (ipl f z p)))) I L P) : SP x M_X3_hasPlace [rfv x 1, .int (z), .int (p)] I L P Q := by
  have := w.n4
  have := w.m6
  refine SP.intro [some (rfv x 1), some (.int (z)), some (.int (p))] pn_X3_hasPlace (Nat.le_of_ble_eq_true rfl) rfl ?_
  refine v_aload_n 1 rfl dX3_hasPlace_0 rfl ?_
  refine v_iload_n 2 rfl dX3_hasPlace_1 rfl ?_
  refine v_invV 5 M_X3_hasSample [.int (z)] (by decide) rfl (by decide) rfl dX3_hasPlace_2 rfl ml_X3_37 im_X3_hasSample se_X3_hasSample mc_X3_hasSample (by decide) (Nat.le_of_ble_eq_true rfl) (sp_X3_hasSample c w ?_)
  refine v_ifN_eq 26 8 dX3_hasPlace_5 (by decide) rfl (by have := inb_lt z (f 1); omega) (fun h5 => ?_) (fun h5 => ?_)
  · skip
    refine v_iconst 27 (nI (0)) (by decide) dX3_hasPlace_26 rfl ?_
    refine v_zret rfl dX3_hasPlace_27 (by decide) ?_
    exact qI hQ (ipl_0 h5).symm
  · skip
    obtain ⟨k, hk, ez⟩ := inb_1 (by omega) h5
    subst ez
    have := w.p hk
    have e1 : ipl f (nI k) p = inb p (nP f k) := by rw [ipl_b h5, ix_n (by omega)]
    refine v_iload_n 9 rfl dX3_hasPlace_8 rfl ?_
    refine v_if_lt 26 12 dX3_hasPlace_9 (by decide) rfl (fun h9 => ?_) (fun h9 => ?_)
    · skip
      refine v_iconst 27 (nI (0)) (by decide) dX3_hasPlace_26 rfl ?_
      refine v_zret rfl dX3_hasPlace_27 (by decide) ?_
      first | exact qI hQ (by rw [e1, inb_out (Or.inl h9)]) | exact qI hQ (by rw [e1, inb_out (Or.inr h19)]) | exact qI hQ (by rw [e1, inb, if_neg (by rintro (q | q) <;> contradiction)])
    · skip
      refine v_iload_n 13 rfl dX3_hasPlace_12 rfl ?_
      refine v_aload_n 14 rfl dX3_hasPlace_13 rfl ?_
      refine v_get 17 (k := 3) 3 (rfv x 3) (by decide) rfl (by decide) (by decide) dX3_hasPlace_14 rfl fl_X3_22 rfl ?_
      refine v_iload_n 18 rfl dX3_hasPlace_17 rfl ?_
      refine v_iald 19 (k := k) (nI (nP f k)) (by decide) rfl (by decide) dX3_hasPlace_18 rfl rfl (by omega) (c.n hk) ?_
      refine v_icmp_ge 26 22 dX3_hasPlace_19 (by decide) rfl (fun h19 => ?_) (fun h19 => ?_)
      · skip
        refine v_iconst 27 (nI (0)) (by decide) dX3_hasPlace_26 rfl ?_
        refine v_zret rfl dX3_hasPlace_27 (by decide) ?_
        first | exact qI hQ (by rw [e1, inb_out (Or.inl h9)]) | exact qI hQ (by rw [e1, inb_out (Or.inr h19)]) | exact qI hQ (by rw [e1, inb, if_neg (by rintro (q | q) <;> contradiction)])
      · skip
        refine v_iconst 23 (nI (1)) (by decide) dX3_hasPlace_22 rfl ?_
        refine v_goto 27 dX3_hasPlace_23 (by decide) ?_
        refine v_zret rfl dX3_hasPlace_27 (by decide) ?_
        first | exact qI hQ (by rw [e1, inb_out (Or.inl h9)]) | exact qI hQ (by rw [e1, inb_out (Or.inr h19)]) | exact qI hQ (by rw [e1, inb, if_neg (by rintro (q | q) <;> contradiction)])
set_option maxHeartbeats 4000000 in
theorem sp_X7_sign {x : Cx} {Q : Qt} {I : Iv} {L : Lv} {P : Pv} {f : Vw} (c : RC 1 f I) (w : Wf f) {z p : Int32} (hQ : ∀ I1 L1, Kp I I1 → Q (some (.int (aSign f z p))) I1 L1 P) : SP x M_X7_sign [rfv x 0, .int (z), .int (p)] I L P Q := by
  have := w.n4
  have := w.m6
  refine SP.intro [some (rfv x 0), some (.int (z)), some (.int (p))] pn_X7_sign (Nat.le_of_ble_eq_true rfl) rfl ?_
  refine v_aload_n 1 rfl dX7_sign_0 rfl ?_
  refine v_get 4 (k := 0) 7 (rfv x 1) (by decide) rfl (by decide) (by decide) dX7_sign_1 rfl fl_X7_15 rfl ?_
  refine v_iload_n 5 rfl dX7_sign_4 rfl ?_
  refine v_iload_n 6 rfl dX7_sign_5 rfl ?_
  refine v_invV 9 M_X3_hasPlace [.int (z), .int (p)] (by decide) rfl (by decide) rfl dX7_sign_6 rfl ml_X7_168 im_X3_hasPlace se_X3_hasPlace mc_X3_hasPlace (by decide) (Nat.le_of_ble_eq_true rfl) (sp_X3_hasPlace c w ?_)
  refine v_ifN_eq 24 12 dX7_sign_9 (by decide) rfl (by have := ipl_lt f z p; omega) (fun h9 => ?_) (fun h9 => ?_)
  · skip
    refine v_iconst 25 ((-1)) (by decide) dX7_sign_24 rfl ?_
    refine v_iret rfl dX7_sign_25 ?_
    exact qZ (hQ I L (Kp.rf I)) (by rw [aSign, if_pos h9])
  · skip
    obtain ⟨k, q, hk, hq, ez, ep⟩ := ipl_1 w h9
    subst ez
    subst ep
    have hpl := ipl_in w hk hq
    have := w.p hk
    have ek : ix (nI k) = k := ix_n (by omega)
    have eq : ix (nI q) = q := ix_n (by omega)
    have hT := totW_le w hk
    have hbl := bestW_lt w hk
    refine v_aload_n 13 rfl dX7_sign_12 rfl ?_
    refine v_get 16 (k := 0) 7 (rfv x 1) (by decide) rfl (by decide) (by decide) dX7_sign_13 rfl fl_X7_15 rfl ?_
    refine v_iload_n 17 rfl dX7_sign_16 rfl ?_
    refine v_iload_n 18 rfl dX7_sign_17 rfl ?_
    refine v_invV 21 M_X3_signAt [.int (nI (k)), .int (nI (q))] (by decide) rfl (by decide) rfl dX7_sign_18 rfl ml_X7_172 im_X3_signAt se_X3_signAt mc_X3_signAt (by decide) (Nat.le_of_ble_eq_true rfl) (sp_X3_signAt c w (by omega) (by omega) ?_)
    refine v_goto 25 dX7_sign_21 (by decide) ?_
    refine v_iret rfl dX7_sign_25 ?_
    exact qZ (hQ I L (Kp.rf I)) (by simp [aSign, hpl, ek, eq])
set_option maxHeartbeats 4000000 in
theorem sp_X7_best {x : Cx} {Q : Qt} {I : Iv} {L : Lv} {P : Pv} {f : Vw} (c : RC 1 f I) (w : Wf f) {z p : Int32} (hQ : ∀ I1 L1, Kp I I1 → Q (some (.int (aBest f z p))) I1 L1 P) : SP x M_X7_best [rfv x 0, .int (z), .int (p)] I L P Q := by
  have := w.n4
  have := w.m6
  refine SP.intro [some (rfv x 0), some (.int (z)), some (.int (p))] pn_X7_best (Nat.le_of_ble_eq_true rfl) rfl ?_
  refine v_aload_n 1 rfl dX7_best_0 rfl ?_
  refine v_get 4 (k := 0) 7 (rfv x 1) (by decide) rfl (by decide) (by decide) dX7_best_1 rfl fl_X7_15 rfl ?_
  refine v_iload_n 5 rfl dX7_best_4 rfl ?_
  refine v_iload_n 6 rfl dX7_best_5 rfl ?_
  refine v_invV 9 M_X3_hasPlace [.int (z), .int (p)] (by decide) rfl (by decide) rfl dX7_best_6 rfl ml_X7_168 im_X3_hasPlace se_X3_hasPlace mc_X3_hasPlace (by decide) (Nat.le_of_ble_eq_true rfl) (sp_X3_hasPlace c w ?_)
  refine v_ifN_ne 14 12 dX7_best_9 (by decide) rfl (by have := ipl_lt f z p; omega) (fun h9 => ?_) (fun h9 => ?_)
  · skip
    obtain ⟨k, q, hk, hq, ez, ep⟩ := ipl_1 w h9
    subst ez
    subst ep
    have hpl := ipl_in w hk hq
    have := w.p hk
    have ek : ix (nI k) = k := ix_n (by omega)
    have eq : ix (nI q) = q := ix_n (by omega)
    have hT := totW_le w hk
    have hbl := bestW_lt w hk
    refine v_aload_n 15 rfl dX7_best_14 rfl ?_
    refine v_get 18 (k := 6) 7 (rfv x 32) (by decide) rfl (by decide) (by decide) dX7_best_15 rfl fl_X7_45 rfl ?_
    refine v_iload_n 19 rfl dX7_best_18 rfl ?_
    refine v_invV 22 M_X0_read [.int (nI (k))] (by decide) rfl (by decide) rfl dX7_best_19 rfl ml_X7_186 im_X0_read se_X0_read mc_X0_read (by decide) (Nat.le_of_ble_eq_true rfl) (sp_X0_read c w hk (fun Ir Lr f1 f2 bm => ?_))
    have cr : RC 1 f Ir := RC.same (I' := Ir) c (fun a _ _ => f1 a (by omega))
    have kp : Kp I Ir := fun a q hl => congrFun (f1 a (by unfold live at hl; omega)) q
    refine v_aload_n 23 rfl dX7_best_22 rfl ?_
    refine v_get 26 (k := 6) 7 (rfv x 32) (by decide) rfl (by decide) (by decide) dX7_best_23 rfl fl_X7_45 rfl ?_
    refine v_getN 29 (k := 3) 0 (.long (lN (bestW f k))) (by decide) rfl (by decide) (by decide) dX7_best_26 rfl fl_X7_187 (congrArg Value.long bm.2) ?_
    refine v_lconst 30 (lN (0)) rfl dX7_best_29 rfl ?_
    refine v_lcmp_le 31 46 34 dX7_best_30 rfl dX7_best_31 (by decide) rfl (fun h30 => ?_) (fun h30 => ?_)
    · skip
      have h0 : ¬ 0 < bestW f k := fun q9 => h30 ((pk_lLT (by omega) (by omega)).mpr q9)
      refine v_bipush 48 ((-5)) (by decide) dX7_best_46 rfl ?_
      refine v_iret rfl dX7_best_48 ?_
      exact qZ (hQ Ir Lr kp) (by simp [aBest, hpl, ek, eq, h0])
    · skip
      have h0 : 0 < bestW f k := (pk_lLT (by omega) (by omega)).mp h30
      refine v_aload_n 35 rfl dX7_best_34 rfl ?_
      refine v_get 38 (k := 6) 7 (rfv x 32) (by decide) rfl (by decide) (by decide) dX7_best_35 rfl fl_X7_45 rfl ?_
      refine v_getN 41 (k := 2) 0 (rfv x 34) (by decide) rfl (by decide) (by decide) dX7_best_38 rfl fl_X7_192 rfl ?_
      refine v_iload_n 42 rfl dX7_best_41 rfl ?_
      refine v_iald 43 (k := q) (nI (pathW f k q)) (by decide) rfl (by decide) dX7_best_42 rfl rfl (by omega) (bm.1 q hq) ?_
      refine v_goto 48 dX7_best_43 (by decide) ?_
      refine v_iret rfl dX7_best_48 ?_
      exact qZ (hQ Ir Lr kp) (by simp [aBest, hpl, ek, eq, h0])
  · skip
    refine v_iconst 13 ((-1)) (by decide) dX7_best_12 rfl ?_
    refine v_iret rfl dX7_best_13 ?_
    exact qZ (hQ I L (Kp.rf I)) (by rw [aBest, if_pos h9])
set_option maxHeartbeats 4000000 in
theorem sp_X7_likeliest {x : Cx} {Q : Qt} {I : Iv} {L : Lv} {P : Pv} {f : Vw} (c : RC 1 f I) (w : Wf f) {z p : Int32} (hQ : ∀ I1 L1, Kp I I1 → Q (some (.int (aLike f z p))) I1 L1 P) : SP x M_X7_likeliest [rfv x 0, .int (z), .int (p)] I L P Q := by
  have := w.n4
  have := w.m6
  refine SP.intro [some (rfv x 0), some (.int (z)), some (.int (p))] pn_X7_likeliest (Nat.le_of_ble_eq_true rfl) rfl ?_
  refine v_aload_n 1 rfl dX7_likeliest_0 rfl ?_
  refine v_get 4 (k := 0) 7 (rfv x 1) (by decide) rfl (by decide) (by decide) dX7_likeliest_1 rfl fl_X7_15 rfl ?_
  refine v_iload_n 5 rfl dX7_likeliest_4 rfl ?_
  refine v_iload_n 6 rfl dX7_likeliest_5 rfl ?_
  refine v_invV 9 M_X3_hasPlace [.int (z), .int (p)] (by decide) rfl (by decide) rfl dX7_likeliest_6 rfl ml_X7_168 im_X3_hasPlace se_X3_hasPlace mc_X3_hasPlace (by decide) (Nat.le_of_ble_eq_true rfl) (sp_X3_hasPlace c w ?_)
  refine v_ifN_ne 14 12 dX7_likeliest_9 (by decide) rfl (by have := ipl_lt f z p; omega) (fun h9 => ?_) (fun h9 => ?_)
  · skip
    obtain ⟨k, q, hk, hq, ez, ep⟩ := ipl_1 w h9
    subst ez
    subst ep
    have hpl := ipl_in w hk hq
    have := w.p hk
    have ek : ix (nI k) = k := ix_n (by omega)
    have eq : ix (nI q) = q := ix_n (by omega)
    have hT := totW_le w hk
    have hbl := bestW_lt w hk
    refine v_aload_n 15 rfl dX7_likeliest_14 rfl ?_
    refine v_get 18 (k := 5) 7 (rfv x 29) (by decide) rfl (by decide) (by decide) dX7_likeliest_15 rfl fl_X7_38 rfl ?_
    refine v_iload_n 19 rfl dX7_likeliest_18 rfl ?_
    refine v_invV 22 M_X6_read [.int (nI (k))] (by decide) rfl (by decide) rfl dX7_likeliest_19 rfl ml_X7_177 im_X6_read se_X6_read mc_X6_read (by decide) (Nat.le_of_ble_eq_true rfl) (sp_X6_read c w hk (fun Ir Lr f1 f2 sm => ?_))
    have cr : RC 1 f Ir := RC.same (I' := Ir) c (fun a _ _ => f1 a (by omega))
    have kp : Kp I Ir := fun a q hl => congrFun (f1 a (by unfold live at hl; omega)) q
    refine v_aload_n 23 rfl dX7_likeliest_22 rfl ?_
    refine v_get 26 (k := 5) 7 (rfv x 29) (by decide) rfl (by decide) (by decide) dX7_likeliest_23 rfl fl_X7_38 rfl ?_
    refine v_getN 29 (k := 5) 6 (.long (lN (totW f k))) (by decide) rfl (by decide) (by decide) dX7_likeliest_26 rfl fl_X7_180 (congrArg Value.long sm.2.2.2.2) ?_
    refine v_lconst 30 (lN (0)) rfl dX7_likeliest_29 rfl ?_
    refine v_lcmp_le 31 45 34 dX7_likeliest_30 rfl dX7_likeliest_31 (by decide) rfl (fun h30 => ?_) (fun h30 => ?_)
    · skip
      have h0 : ¬ 0 < totW f k := fun q9 => h30 ((pk_lLT (by omega) (by omega)).mpr q9)
      refine v_bipush 47 ((-5)) (by decide) dX7_likeliest_45 rfl ?_
      refine v_iret rfl dX7_likeliest_47 ?_
      exact qZ (hQ Ir Lr kp) (by simp [aLike, hpl, ek, eq, h0])
    · skip
      have h0 : 0 < totW f k := (pk_lLT (by omega) (by omega)).mp h30
      refine v_aload_n 35 rfl dX7_likeliest_34 rfl ?_
      refine v_get 38 (k := 5) 7 (rfv x 29) (by decide) rfl (by decide) (by decide) dX7_likeliest_35 rfl fl_X7_38 rfl ?_
      refine v_iload_n 39 rfl dX7_likeliest_38 rfl ?_
      refine v_invV 42 M_X6_likeliestAt [.int (nI (q))] (by decide) rfl (by decide) rfl dX7_likeliest_39 rfl ml_X7_203 im_X6_likeliestAt se_X6_likeliestAt mc_X6_likeliestAt (by decide) (Nat.le_of_ble_eq_true rfl) (sp_X6_likeliestAt cr w hk sm (by omega) ?_)
      refine v_goto 47 dX7_likeliest_42 (by decide) ?_
      refine v_iret rfl dX7_likeliest_47 ?_
      exact qZ (hQ Ir Lr kp) (by simp [aLike, hpl, ek, eq, h0])
  · skip
    refine v_iconst 13 ((-1)) (by decide) dX7_likeliest_12 rfl ?_
    refine v_iret rfl dX7_likeliest_13 ?_
    exact qZ (hQ I L (Kp.rf I)) (by rw [aLike, if_pos h9])
set_option maxHeartbeats 4000000 in
theorem sp_X7_doubtful {x : Cx} {Q : Qt} {I : Iv} {L : Lv} {P : Pv} {f : Vw} (c : RC 1 f I) (w : Wf f) {z : Int32} (hQ : ∀ I1 L1, Kp I I1 → Q (some (.int (aDoubt f z))) I1 L1 P) : SP x M_X7_doubtful [rfv x 0, .int (z)] I L P Q := by
  have := w.n4
  have := w.m6
  refine SP.intro [some (rfv x 0), some (.int (z))] pn_X7_doubtful (Nat.le_of_ble_eq_true rfl) rfl ?_
  refine v_aload_n 1 rfl dX7_doubtful_0 rfl ?_
  refine v_get 4 (k := 0) 7 (rfv x 1) (by decide) rfl (by decide) (by decide) dX7_doubtful_1 rfl fl_X7_15 rfl ?_
  refine v_iload_n 5 rfl dX7_doubtful_4 rfl ?_
  refine v_invV 8 M_X3_hasSample [.int (z)] (by decide) rfl (by decide) rfl dX7_doubtful_5 rfl ml_X7_129 im_X3_hasSample se_X3_hasSample mc_X3_hasSample (by decide) (Nat.le_of_ble_eq_true rfl) (sp_X3_hasSample c w ?_)
  refine v_ifN_ne 13 11 dX7_doubtful_8 (by decide) rfl (by have := inb_lt z (f 1); omega) (fun h8 => ?_) (fun h8 => ?_)
  · skip
    obtain ⟨k, hk, ez⟩ := inb_1 (by omega) h8
    subst ez
    have hin := inb_in hk (by have := w.m6; omega)
    have := w.p hk
    have ek : ix (nI k) = k := ix_n (by omega)
    have hT := totW_le w hk
    have hbl := bestW_lt w hk
    have hcl := cntW_le w hk
    refine v_aload_n 14 rfl dX7_doubtful_13 rfl ?_
    refine v_get 17 (k := 5) 7 (rfv x 29) (by decide) rfl (by decide) (by decide) dX7_doubtful_14 rfl fl_X7_38 rfl ?_
    refine v_iload_n 18 rfl dX7_doubtful_17 rfl ?_
    refine v_invV 21 M_X6_read [.int (nI (k))] (by decide) rfl (by decide) rfl dX7_doubtful_18 rfl ml_X7_177 im_X6_read se_X6_read mc_X6_read (by decide) (Nat.le_of_ble_eq_true rfl) (sp_X6_read c w hk (fun Ir Lr f1 f2 sm => ?_))
    have cr : RC 1 f Ir := RC.same (I' := Ir) c (fun a _ _ => f1 a (by omega))
    have kp : Kp I Ir := fun a q hl => congrFun (f1 a (by unfold live at hl; omega)) q
    refine v_aload_n 22 rfl dX7_doubtful_21 rfl ?_
    refine v_get 25 (k := 5) 7 (rfv x 29) (by decide) rfl (by decide) (by decide) dX7_doubtful_22 rfl fl_X7_38 rfl ?_
    refine v_invV 28 M_X6_doubtfulPlaces [] (by decide) rfl (by decide) rfl dX7_doubtful_25 rfl ml_X7_207 im_X6_doubtfulPlaces se_X6_doubtfulPlaces mc_X6_doubtfulPlaces (by decide) (Nat.le_of_ble_eq_true rfl) (sp_X6_doubtfulPlaces cr w hk sm ?_)
    refine v_iret rfl dX7_doubtful_28 ?_
    exact qZ (hQ Ir Lr kp) (by simp [aDoubt, hin, ek, dW])
  · skip
    refine v_iconst 12 ((-1)) (by decide) dX7_doubtful_11 rfl ?_
    refine v_iret rfl dX7_doubtful_12 ?_
    exact qZ (hQ I L (Kp.rf I)) (by rw [aDoubt, if_pos h8])
set_option maxHeartbeats 4000000 in
theorem sp_X7_share {x : Cx} {Q : Qt} {I : Iv} {L : Lv} {P : Pv} {f : Vw} (c : RC 1 f I) (w : Wf f) {z p s : Int32} (hQ : ∀ I1 L1, Kp I I1 → Q (some (.int (aShare f z p s))) I1 L1 P) : SP x M_X7_share [rfv x 0, .int (z), .int (p), .int (s)] I L P Q := by
  have := w.n4
  have := w.m6
  refine SP.intro [some (rfv x 0), some (.int (z)), some (.int (p)), some (.int (s))] pn_X7_share (Nat.le_of_ble_eq_true rfl) rfl ?_
  refine v_aload_n 1 rfl dX7_share_0 rfl ?_
  refine v_get 4 (k := 0) 7 (rfv x 1) (by decide) rfl (by decide) (by decide) dX7_share_1 rfl fl_X7_15 rfl ?_
  refine v_iload_n 5 rfl dX7_share_4 rfl ?_
  refine v_iload_n 6 rfl dX7_share_5 rfl ?_
  refine v_invV 9 M_X3_hasPlace [.int (z), .int (p)] (by decide) rfl (by decide) rfl dX7_share_6 rfl ml_X7_168 im_X3_hasPlace se_X3_hasPlace mc_X3_hasPlace (by decide) (Nat.le_of_ble_eq_true rfl) (sp_X3_hasPlace c w ?_)
  refine v_ifN_eq 23 12 dX7_share_9 (by decide) rfl (by have := ipl_lt f z p; omega) (fun h9 => ?_) (fun h9 => ?_)
  · skip
    refine v_iconst 24 ((-1)) (by decide) dX7_share_23 rfl ?_
    refine v_iret rfl dX7_share_24 ?_
    exact qZ (hQ I L (Kp.rf I)) (by rw [aShare, if_pos (Or.inl h9)])
  · skip
    obtain ⟨k, q, hk, hq, ez, ep⟩ := ipl_1 w h9
    subst ez
    subst ep
    have hpl := ipl_in w hk hq
    have := w.p hk
    have ek : ix (nI k) = k := ix_n (by omega)
    have eq : ix (nI q) = q := ix_n (by omega)
    have hT := totW_le w hk
    have hbl := bestW_lt w hk
    refine v_aload_n 13 rfl dX7_share_12 rfl ?_
    refine v_get 16 (k := 0) 7 (rfv x 1) (by decide) rfl (by decide) (by decide) dX7_share_13 rfl fl_X7_15 rfl ?_
    refine v_iload_n 17 rfl dX7_share_16 rfl ?_
    refine v_invV 20 M_X3_hasState [.int (s)] (by decide) rfl (by decide) rfl dX7_share_17 rfl ml_X7_91 im_X3_hasState se_X3_hasState mc_X3_hasState (by decide) (Nat.le_of_ble_eq_true rfl) (sp_X3_hasState c w ?_)
    refine v_ifN_ne 25 23 dX7_share_20 (by decide) rfl (by have := inb_lt s (f 0); omega) (fun h20 => ?_) (fun h20 => ?_)
    · skip
      obtain ⟨t, ht, es⟩ := inb_1 (by omega) h20
      subst es
      have hst := inb_in ht (by omega)
      have et : ix (nI t) = t := ix_n (by omega)
      have hwt := wtW_le w hk hq ht
      refine v_aload_n 26 rfl dX7_share_25 rfl ?_
      refine v_get 29 (k := 5) 7 (rfv x 29) (by decide) rfl (by decide) (by decide) dX7_share_26 rfl fl_X7_38 rfl ?_
      refine v_iload_n 30 rfl dX7_share_29 rfl ?_
      refine v_invV 33 M_X6_read [.int (nI (k))] (by decide) rfl (by decide) rfl dX7_share_30 rfl ml_X7_177 im_X6_read se_X6_read mc_X6_read (by decide) (Nat.le_of_ble_eq_true rfl) (sp_X6_read c w hk (fun Ir Lr f1 f2 sm => ?_))
      have cr : RC 1 f Ir := RC.same (I' := Ir) c (fun a _ _ => f1 a (by omega))
      have kp : Kp I Ir := fun a q hl => congrFun (f1 a (by unfold live at hl; omega)) q
      refine v_aload_n 34 rfl dX7_share_33 rfl ?_
      refine v_get 37 (k := 5) 7 (rfv x 29) (by decide) rfl (by decide) (by decide) dX7_share_34 rfl fl_X7_38 rfl ?_
      refine v_getN 40 (k := 5) 6 (.long (lN (totW f k))) (by decide) rfl (by decide) (by decide) dX7_share_37 rfl fl_X7_180 (congrArg Value.long sm.2.2.2.2) ?_
      refine v_lconst 41 (lN (0)) rfl dX7_share_40 rfl ?_
      refine v_lcmp_le 42 67 45 dX7_share_41 rfl dX7_share_42 (by decide) rfl (fun h41 => ?_) (fun h41 => ?_)
      · skip
        have h0 : ¬ 0 < totW f k := fun q9 => h41 ((pk_lLT (by omega) (by omega)).mpr q9)
        refine v_bipush 69 ((-5)) (by decide) dX7_share_67 rfl ?_
        refine v_iret rfl dX7_share_69 ?_
        exact qZ (hQ Ir Lr kp) (by simp [aShare, hpl, hst, ek, eq, et, h0])
      · skip
        have h0 : 0 < totW f k := (pk_lLT (by omega) (by omega)).mp h41
        refine v_aload_n 46 rfl dX7_share_45 rfl ?_
        refine v_get 49 (k := 5) 7 (rfv x 29) (by decide) rfl (by decide) (by decide) dX7_share_46 rfl fl_X7_38 rfl ?_
        refine v_iload_n 50 rfl dX7_share_49 rfl ?_
        refine v_iload_n 51 rfl dX7_share_50 rfl ?_
        refine v_invV 54 M_X6_at [.int (nI (q)), .int (nI (t))] (by decide) rfl (by decide) rfl dX7_share_51 rfl ml_X7_195 im_X6_at se_X6_at mc_X6_at (by decide) (Nat.le_of_ble_eq_true rfl) (sp_X6_wt w hk sm (by omega) (by omega) ?_)
        refine v_aload_n 55 rfl dX7_share_54 rfl ?_
        refine v_get 58 (k := 5) 7 (rfv x 29) (by decide) rfl (by decide) (by decide) dX7_share_55 rfl fl_X7_38 rfl ?_
        refine v_getN 61 (k := 5) 6 (.long (lN (totW f k))) (by decide) rfl (by decide) (by decide) dX7_share_58 rfl fl_X7_180 (congrArg Value.long sm.2.2.2.2) ?_
        refine v_invT 64 M_X7_shareOf [.long (lN (wtW f k q t)), .long (lN (totW f k))] dX7_share_61 rfl ml_X7_199 sm_X7_shareOf mc_X7_shareOf (by decide) (Nat.le_of_ble_eq_true rfl) (sp_X7_shareOf (by omega) (by omega) (by omega) ?_)
        refine v_goto 69 dX7_share_64 (by decide) ?_
        refine v_iret rfl dX7_share_69 ?_
        exact qZ (hQ Ir Lr kp) (by simp [aShare, hpl, hst, ek, eq, et, h0])
    · skip
      refine v_iconst 24 ((-1)) (by decide) dX7_share_23 rfl ?_
      refine v_iret rfl dX7_share_24 ?_
      exact qZ (hQ I L (Kp.rf I)) (by rw [aShare, if_pos (Or.inr h20)])
set_option maxHeartbeats 4000000 in
theorem sp_X7_run {x : Cx} {Q : Qt} {I : Iv} {L : Lv} {P : Pv} {f : Vw} (c : RC 1 f I) (w : Wf f) {z r p : Int32} (hQ : ∀ I1 L1, Kp I I1 → Q (some (.int (aRun f z r p))) I1 L1 P) : SP x M_X7_run [rfv x 0, .int (z), .int (r), .int (p)] I L P Q := by
  have := w.n4
  have := w.m6
  refine SP.intro [some (rfv x 0), some (.int (z)), some (.int (r)), some (.int (p))] pn_X7_run (Nat.le_of_ble_eq_true rfl) rfl ?_
  refine v_aload_n 1 rfl dX7_run_0 rfl ?_
  refine v_get 4 (k := 0) 7 (rfv x 1) (by decide) rfl (by decide) (by decide) dX7_run_1 rfl fl_X7_15 rfl ?_
  refine v_iload_n 5 rfl dX7_run_4 rfl ?_
  refine v_iload_n 6 rfl dX7_run_5 rfl ?_
  refine v_invV 9 M_X3_hasPlace [.int (z), .int (p)] (by decide) rfl (by decide) rfl dX7_run_6 rfl ml_X7_168 im_X3_hasPlace se_X3_hasPlace mc_X3_hasPlace (by decide) (Nat.le_of_ble_eq_true rfl) (sp_X3_hasPlace c w ?_)
  refine v_ifN_ne 14 12 dX7_run_9 (by decide) rfl (by have := ipl_lt f z p; omega) (fun h9 => ?_) (fun h9 => ?_)
  · skip
    obtain ⟨k, q, hk, hq, ez, ep⟩ := ipl_1 w h9
    subst ez
    subst ep
    have hpl := ipl_in w hk hq
    have := w.p hk
    have ek : ix (nI k) = k := ix_n (by omega)
    have eq : ix (nI q) = q := ix_n (by omega)
    have hT := totW_le w hk
    have hbl := bestW_lt w hk
    refine v_iload_n 15 rfl dX7_run_14 rfl ?_
    refine v_if_ge 21 18 dX7_run_15 (by decide) rfl (fun h15 => ?_) (fun h15 => ?_)
    · skip
      have h15n : ¬ r < 0 := Int32.not_lt.mpr h15
      obtain ⟨r0, hr0, er⟩ := nI_of h15n
      subst er
      have e0 : ix (nI r0) = r0 := ix_n (by omega)
      have hn : ¬ nI r0 < 0 := nI_pos hr0
      have hcl := cntW_le w hk
      refine v_aload_n 22 rfl dX7_run_21 rfl ?_
      refine v_get 25 (k := 7) 7 (rfv x 35) (by decide) rfl (by decide) (by decide) dX7_run_22 rfl fl_X7_52 rfl ?_
      refine v_iload_n 26 rfl dX7_run_25 rfl ?_
      refine v_invV 29 M_X4_read [.int (nI (k))] (by decide) rfl (by decide) rfl dX7_run_26 rfl ml_X7_184 im_X4_read se_X4_read mc_X4_read (by decide) (Nat.le_of_ble_eq_true rfl) (sp_X4_read c w hk (fun Ir f1 rm => ?_))
      have cr : RC 1 f Ir := RC.same (I' := Ir) c (fun a _ _ => f1 a (by omega) (by omega))
      have kp : Kp I Ir := fun a q hl => congrFun (f1 a (by unfold live at hl; omega) (by unfold live at hl; omega)) q
      refine v_iload_n 30 rfl dX7_run_29 rfl ?_
      refine v_aload_n 31 rfl dX7_run_30 rfl ?_
      refine v_get 34 (k := 7) 7 (rfv x 35) (by decide) rfl (by decide) (by decide) dX7_run_31 rfl fl_X7_52 rfl ?_
      refine v_getN 37 (k := 2) 4 (.int (nI (cntW f k))) (by decide) rfl (by decide) (by decide) dX7_run_34 rfl fl_X7_185 (congrArg Value.int rm.2) ?_
      refine v_icmpN_ge 52 40 dX7_run_37 (by decide) rfl (by omega) (by omega) (fun h37 => ?_) (fun h37 => ?_)
      · skip
        have h0 : ¬ r0 < cntW f k := by omega
        refine v_bipush 54 ((-5)) (by decide) dX7_run_52 rfl ?_
        refine v_iret rfl dX7_run_54 ?_
        exact qZ (hQ Ir L kp) (by simp [aRun, hpl, ek, eq, e0, hn, h0])
      · skip
        have h0 : r0 < cntW f k := by omega
        refine v_aload_n 41 rfl dX7_run_40 rfl ?_
        refine v_get 44 (k := 7) 7 (rfv x 35) (by decide) rfl (by decide) (by decide) dX7_run_41 rfl fl_X7_52 rfl ?_
        refine v_iload_n 45 rfl dX7_run_44 rfl ?_
        refine v_iload_n 46 rfl dX7_run_45 rfl ?_
        refine v_invV 49 M_X4_stateAt [.int (nI (r0)), .int (nI (q))] (by decide) rfl (by decide) rfl dX7_run_46 rfl ml_X7_210 im_X4_stateAt se_X4_stateAt mc_X4_stateAt (by decide) (Nat.le_of_ble_eq_true rfl) (sp_X4_stateAt cr w hk rm (by omega) (by omega) ?_)
        refine v_goto 54 dX7_run_49 (by decide) ?_
        refine v_iret rfl dX7_run_54 ?_
        exact qZ (hQ Ir L kp) (by simp [aRun, hpl, ek, eq, e0, hn, h0])
    · skip
      refine v_bipush 20 ((-2)) (by decide) dX7_run_18 rfl ?_
      refine v_iret rfl dX7_run_20 ?_
      exact qZ (hQ I L (Kp.rf I)) (by have h15n : r < 0 := Int32.not_le.mp h15; simp [aRun, hpl, h15n])
  · skip
    refine v_iconst 13 ((-1)) (by decide) dX7_run_12 rfl ?_
    refine v_iret rfl dX7_run_13 ?_
    exact qZ (hQ I L (Kp.rf I)) (by rw [aRun, if_pos h9])
theorem tabN3 {h : Int32} (q0 : ¬ h = nI 0) (q1 : ¬ h = nI 1) (q2 : ¬ h = nI 2) : h.toInt < 0 ∨ 2 < h.toInt := by
  by_cases c : h.toInt < 0 ∨ 2 < h.toInt
  · exact c
  · exfalso
    have e : ∀ n : Nat, n < 3 → h.toInt = n → h = nI n := fun n hn e => Int32.toInt_inj.mp (by rw [e, nI_toInt (by omega)])
    rcases (show h.toInt = 0 ∨ h.toInt = 1 ∨ h.toInt = 2 by omega) with t | t | t
    · exact q0 (e 0 (by decide) t)
    · exact q1 (e 1 (by decide) t)
    · exact q2 (e 2 (by decide) t)
set_option maxHeartbeats 4000000 in
theorem sp_X7_ofSample {x : Cx} {Q : Qt} {I : Iv} {L : Lv} {P : Pv} {f : Vw} (c : RC 1 f I) (w : Wf f) {z h : Int32} (hQ : ∀ I1 L1, Kp I I1 → Q (some (.long (aOf f z h))) I1 L1 P) : SP x M_X7_ofSample [rfv x 0, .int (z), .int (h)] I L P Q := by
  have := w.n4
  have := w.m6
  refine SP.intro [some (rfv x 0), some (.int (z)), some (.int (h))] pn_X7_ofSample (Nat.le_of_ble_eq_true rfl) rfl ?_
  refine v_aload_n 1 rfl dX7_ofSample_0 rfl ?_
  refine v_get 4 (k := 0) 7 (rfv x 1) (by decide) rfl (by decide) (by decide) dX7_ofSample_1 rfl fl_X7_15 rfl ?_
  refine v_iload_n 5 rfl dX7_ofSample_4 rfl ?_
  refine v_invV 8 M_X3_hasSample [.int (z)] (by decide) rfl (by decide) rfl dX7_ofSample_5 rfl ml_X7_129 im_X3_hasSample se_X3_hasSample mc_X3_hasSample (by decide) (Nat.le_of_ble_eq_true rfl) (sp_X3_hasSample c w ?_)
  refine v_ifN_ne 15 11 dX7_ofSample_8 (by decide) rfl (by have := inb_lt z (f 1); omega) (fun h8 => ?_) (fun h8 => ?_)
  · skip
    obtain ⟨k, hk, ez⟩ := inb_1 (by omega) h8
    subst ez
    have hin := inb_in hk (by have := w.m6; omega)
    have := w.p hk
    have ek : ix (nI k) = k := ix_n (by omega)
    have hT := totW_le w hk
    have hbl := bestW_lt w hk
    have hcl := cntW_le w hk
    refine v_iload_n 16 rfl dX7_ofSample_15 rfl ?_
    by_cases q0 : h = nI 0
    · skip
      subst q0
      refine v_tin 44 (off := 28) dX7_ofSample_16 (by decide) (by decide) (by decide +kernel) (by decide) ?_
      refine v_aload_n 45 rfl dX7_ofSample_44 rfl ?_
      refine v_get 48 (k := 5) 7 (rfv x 29) (by decide) rfl (by decide) (by decide) dX7_ofSample_45 rfl fl_X7_38 rfl ?_
      refine v_iload_n 49 rfl dX7_ofSample_48 rfl ?_
      refine v_invV 52 M_X6_read [.int (nI (k))] (by decide) rfl (by decide) rfl dX7_ofSample_49 rfl ml_X7_177 im_X6_read se_X6_read mc_X6_read (by decide) (Nat.le_of_ble_eq_true rfl) (sp_X6_read c w hk (fun Ir Lr f1 f2 sm => ?_))
      have cr : RC 1 f Ir := RC.same (I' := Ir) c (fun a _ _ => f1 a (by omega))
      have kp : Kp I Ir := fun a q hl => congrFun (f1 a (by unfold live at hl; omega)) q
      refine v_aload_n 53 rfl dX7_ofSample_52 rfl ?_
      refine v_get 56 (k := 5) 7 (rfv x 29) (by decide) rfl (by decide) (by decide) dX7_ofSample_53 rfl fl_X7_38 rfl ?_
      refine v_getN 59 (k := 5) 6 (.long (lN (totW f k))) (by decide) rfl (by decide) (by decide) dX7_ofSample_56 rfl fl_X7_180 (congrArg Value.long sm.2.2.2.2) ?_
      refine v_lret rfl dX7_ofSample_59 ?_
      exact qW (hQ Ir Lr kp) (by simp [aOf, hin, ek])
    by_cases q1 : h = nI 1
    · skip
      subst q1
      refine v_tin 60 (off := 44) dX7_ofSample_16 (by decide) (by decide) (by decide +kernel) (by decide) ?_
      refine v_aload_n 61 rfl dX7_ofSample_60 rfl ?_
      refine v_get 64 (k := 7) 7 (rfv x 35) (by decide) rfl (by decide) (by decide) dX7_ofSample_61 rfl fl_X7_52 rfl ?_
      refine v_iload_n 65 rfl dX7_ofSample_64 rfl ?_
      refine v_invV 68 M_X4_read [.int (nI (k))] (by decide) rfl (by decide) rfl dX7_ofSample_65 rfl ml_X7_184 im_X4_read se_X4_read mc_X4_read (by decide) (Nat.le_of_ble_eq_true rfl) (sp_X4_read c w hk (fun Ir f1 rm => ?_))
      have cr : RC 1 f Ir := RC.same (I' := Ir) c (fun a _ _ => f1 a (by omega) (by omega))
      have kp : Kp I Ir := fun a q hl => congrFun (f1 a (by unfold live at hl; omega) (by unfold live at hl; omega)) q
      refine v_aload_n 69 rfl dX7_ofSample_68 rfl ?_
      refine v_get 72 (k := 7) 7 (rfv x 35) (by decide) rfl (by decide) (by decide) dX7_ofSample_69 rfl fl_X7_52 rfl ?_
      refine v_getN 75 (k := 2) 4 (.int (nI (cntW f k))) (by decide) rfl (by decide) (by decide) dX7_ofSample_72 rfl fl_X7_185 (congrArg Value.int rm.2) ?_
      refine v_i2l 76 (lN (cntW f k)) dX7_ofSample_75 rfl (nI_l (by omega)) ?_
      refine v_lret rfl dX7_ofSample_76 ?_
      exact qW (hQ Ir L kp) (by simp [aOf, hin, ek, show ¬ (nI 1 = nI 0) by decide])
    by_cases q2 : h = nI 2
    · skip
      subst q2
      refine v_tin 77 (off := 61) dX7_ofSample_16 (by decide) (by decide) (by decide +kernel) (by decide) ?_
      refine v_aload_n 78 rfl dX7_ofSample_77 rfl ?_
      refine v_get 81 (k := 6) 7 (rfv x 32) (by decide) rfl (by decide) (by decide) dX7_ofSample_78 rfl fl_X7_45 rfl ?_
      refine v_iload_n 82 rfl dX7_ofSample_81 rfl ?_
      refine v_invV 85 M_X0_read [.int (nI (k))] (by decide) rfl (by decide) rfl dX7_ofSample_82 rfl ml_X7_186 im_X0_read se_X0_read mc_X0_read (by decide) (Nat.le_of_ble_eq_true rfl) (sp_X0_read c w hk (fun Ir Lr f1 f2 bm => ?_))
      have cr : RC 1 f Ir := RC.same (I' := Ir) c (fun a _ _ => f1 a (by omega))
      have kp : Kp I Ir := fun a q hl => congrFun (f1 a (by unfold live at hl; omega)) q
      refine v_aload_n 86 rfl dX7_ofSample_85 rfl ?_
      refine v_get 89 (k := 6) 7 (rfv x 32) (by decide) rfl (by decide) (by decide) dX7_ofSample_86 rfl fl_X7_45 rfl ?_
      refine v_getN 92 (k := 3) 0 (.long (lN (bestW f k))) (by decide) rfl (by decide) (by decide) dX7_ofSample_89 rfl fl_X7_187 (congrArg Value.long bm.2) ?_
      refine v_lret rfl dX7_ofSample_92 ?_
      exact qW (hQ Ir Lr kp) (by simp [aOf, hin, ek, show ¬ (nI 2 = nI 0) by decide, show ¬ (nI 2 = nI 1) by decide])
    refine v_tout 93 dX7_ofSample_16 (tabN3 q0 q1 q2) (by decide) ?_
    refine v_ldc2 96 ((-2)) dX7_ofSample_93 rfl ko_X7_190 ?_
    refine v_lret rfl dX7_ofSample_96 ?_
    exact qW (hQ I L (Kp.rf I)) (by simp [aOf, hin, q0, q1, q2])
  · skip
    refine v_ldc2 14 ((-1)) dX7_ofSample_11 rfl ko_X7_175 ?_
    refine v_lret rfl dX7_ofSample_14 ?_
    exact qW (hQ I L (Kp.rf I)) (by rw [aOf, if_pos h8])
set_option maxHeartbeats 4000000 in
theorem sp_X7_next {x : Cx} {Q : Qt} {I : Iv} {L : Lv} {P : Pv} {f : Vw} (c : RC 1 f I) (w : Wf f) {z g : Int32} (hQ : ∀ I1 L1, Kp I I1 → Q (some (.int (aNext f z g))) I1 L1 P) : SP x M_X7_next [rfv x 0, .int (z), .int (g)] I L P Q := by
  have := w.n4
  have := w.m6
  refine SP.intro [some (rfv x 0), some (.int (z)), some (.int (g)), none, none, none] pn_X7_next (Nat.le_of_ble_eq_true rfl) rfl ?_
  refine v_aload_n 1 rfl dX7_next_0 rfl ?_
  refine v_get 4 (k := 0) 7 (rfv x 1) (by decide) rfl (by decide) (by decide) dX7_next_1 rfl fl_X7_15 rfl ?_
  refine v_iload_n 5 rfl dX7_next_4 rfl ?_
  refine v_invV 8 M_X3_hasSample [.int (z)] (by decide) rfl (by decide) rfl dX7_next_5 rfl ml_X7_129 im_X3_hasSample se_X3_hasSample mc_X3_hasSample (by decide) (Nat.le_of_ble_eq_true rfl) (sp_X3_hasSample c w ?_)
  refine v_ifN_eq 20 11 dX7_next_8 (by decide) rfl (by have := inb_lt z (f 1); omega) (fun h8 => ?_) (fun h8 => ?_)
  · skip
    refine v_iconst 21 ((-1)) (by decide) dX7_next_20 rfl ?_
    refine v_iret rfl dX7_next_21 ?_
    exact qZ (hQ I L (Kp.rf I)) (by rw [aNext, if_pos (Or.inl h8)])
  · skip
    obtain ⟨k, hk, ez⟩ := inb_1 (by omega) h8
    subst ez
    have hin := inb_in hk (by have := w.m6; omega)
    have := w.p hk
    have ek : ix (nI k) = k := ix_n (by omega)
    have hT := totW_le w hk
    have hbl := bestW_lt w hk
    have hcl := cntW_le w hk
    have hnx := nxT_le w hk
    have hnx2 : smN 3 (nxW f k) < 576460752303423488 := nxT_le w hk
    refine v_iload_n 12 rfl dX7_next_11 rfl ?_
    refine v_if_lt 20 15 dX7_next_12 (by decide) rfl (fun h12 => ?_) (fun h12 => ?_)
    · skip
      refine v_iconst 21 ((-1)) (by decide) dX7_next_20 rfl ?_
      refine v_iret rfl dX7_next_21 ?_
      first | exact qZ (hQ I L (Kp.rf I)) (by rw [aNext, if_pos (Or.inr (inb_out (Or.inl h12)))]) | exact qZ (hQ I L (Kp.rf I)) (by rw [aNext, if_pos (Or.inr (inb_out (Or.inr (Int32.not_lt.mp h17))))])
    · skip
      refine v_iload_n 16 rfl dX7_next_15 rfl ?_
      refine v_iconst 17 (nI (3)) (by decide) dX7_next_16 rfl ?_
      refine v_icmp_lt 22 20 dX7_next_17 (by decide) rfl (fun h17 => ?_) (fun h17 => ?_)
      · skip
        have hg1 : inb g 3 ≠ 0 := by rw [inb, if_neg (by rintro (q | q); exact h12 q; exact absurd h17 (Int32.not_lt.mpr q))]; decide
        obtain ⟨t, ht, es⟩ := inb_1 (by decide) hg1
        subst es
        have hgt := inb_in ht (by decide)
        have et : ix (nI t) = t := ix_n (by omega)
        have hnw := nxW_le w hk ht
        refine v_aload_n 23 rfl dX7_next_22 rfl ?_
        refine v_get 26 (k := 5) 7 (rfv x 29) (by decide) rfl (by decide) (by decide) dX7_next_23 rfl fl_X7_38 rfl ?_
        refine v_iload_n 27 rfl dX7_next_26 rfl ?_
        refine v_invV 30 M_X6_read [.int (nI (k))] (by decide) rfl (by decide) rfl dX7_next_27 rfl ml_X7_177 im_X6_read se_X6_read mc_X6_read (by decide) (Nat.le_of_ble_eq_true rfl) (sp_X6_read c w hk (fun Ir Lr f1 f2 sm => ?_))
        have cr : RC 1 f Ir := RC.same (I' := Ir) c (fun a _ _ => f1 a (by omega))
        have kp : Kp I Ir := fun a q hl => congrFun (f1 a (by unfold live at hl; omega)) q
        refine v_lconst 31 (lN (0)) rfl dX7_next_30 rfl ?_
        refine v_lstore_n 32 [some (rfv x 0), some (.int (nI (k))), some (.int (nI (t))), some (.long (lN (0))), none, none] dX7_next_31 rfl (by decide) rfl ?_
        refine v_iconst 33 (nI (0)) (by decide) dX7_next_32 rfl ?_
        refine v_istore 35 [some (rfv x 0), some (.int (nI (k))), some (.int (nI (t))), some (.long (lN (0))), none, some (.int (nI (0)))] dX7_next_33 rfl (by decide) rfl ?_
        have lp : ∀ i, i ≤ 3 → V x M_X7_next Q 35 [some (rfv x 0), some (.int (nI (k))), some (.int (nI (t))), some (.long (lN (smN i (nxW f k)))), none, some (.int (nI (i)))] [] Ir Lr P := by
          refine lpU ?_ ?_
          · skip
            refine v_iload 37 rfl dX7_next_35 rfl ?_
            refine v_iconst 38 (nI (3)) (by decide) dX7_next_37 rfl ?_
            refine v_icmpN_ge 59 41 dX7_next_38 (by decide) rfl (by omega) (by omega) (fun h38 => ?_) (fun h38 => ?_)
            · skip
              refine v_lload_n 60 rfl dX7_next_59 rfl ?_
              refine v_lconst 61 (lN (0)) rfl dX7_next_60 rfl ?_
              refine v_lcmp_le 62 80 65 dX7_next_61 rfl dX7_next_62 (by decide) rfl (fun h61 => ?_) (fun h61 => ?_)
              · skip
                have h0 : ¬ 0 < nxT f k := fun q9 => h61 ((pk_lLT (by omega) (by omega)).mpr q9)
                refine v_bipush 82 ((-5)) (by decide) dX7_next_80 rfl ?_
                refine v_iret rfl dX7_next_82 ?_
                exact qZ (hQ Ir Lr kp) (by simp [aNext, hin, hgt, ek, et, h0]; try rfl)
              · skip
                have h0 : 0 < nxT f k := (pk_lLT (by omega) (by omega)).mp h61
                refine v_aload_n 66 rfl dX7_next_65 rfl ?_
                refine v_get 69 (k := 5) 7 (rfv x 29) (by decide) rfl (by decide) (by decide) dX7_next_66 rfl fl_X7_38 rfl ?_
                refine v_iload_n 70 rfl dX7_next_69 rfl ?_
                refine v_invV 73 M_X6_behindLast [.int (nI (t))] (by decide) rfl (by decide) rfl dX7_next_70 rfl ml_X7_213 im_X6_behindLast se_X6_behindLast mc_X6_behindLast (by decide) (Nat.le_of_ble_eq_true rfl) (sp_X6_behindLast cr w hk sm (by omega) ?_)
                refine v_lload_n 74 rfl dX7_next_73 rfl ?_
                refine v_invT 77 M_X7_shareOf [.long (lN (nxW f k t)), .long (lN (smN 3 (nxW f k)))] dX7_next_74 rfl ml_X7_199 sm_X7_shareOf mc_X7_shareOf (by decide) (Nat.le_of_ble_eq_true rfl) (sp_X7_shareOf h0 (by unfold nxT at hnx; omega) (by omega) ?_)
                refine v_goto 82 dX7_next_77 (by decide) ?_
                refine v_iret rfl dX7_next_82 ?_
                exact qZ (hQ Ir Lr kp) (by simp [aNext, hin, hgt, ek, et, h0]; try rfl)
            · skip
              exact absurd h38 (by omega)
          · intro i hi ih 
            refine v_iload 37 rfl dX7_next_35 rfl ?_
            refine v_iconst 38 (nI (3)) (by decide) dX7_next_37 rfl ?_
            refine v_icmpN_ge 59 41 dX7_next_38 (by decide) rfl (by omega) (by omega) (fun h38 => ?_) (fun h38 => ?_)
            · skip
              exact absurd h38 (by omega)
            · skip
              refine v_lload_n 42 rfl dX7_next_41 rfl ?_
              refine v_aload_n 43 rfl dX7_next_42 rfl ?_
              refine v_get 46 (k := 5) 7 (rfv x 29) (by decide) rfl (by decide) (by decide) dX7_next_43 rfl fl_X7_38 rfl ?_
              refine v_iload 48 rfl dX7_next_46 rfl ?_
              refine v_invV 51 M_X6_behindLast [.int (nI (i))] (by decide) rfl (by decide) rfl dX7_next_48 rfl ml_X7_213 im_X6_behindLast se_X6_behindLast mc_X6_behindLast (by decide) (Nat.le_of_ble_eq_true rfl) (sp_X6_behindLast cr w hk sm (by omega) ?_)
              refine v_ladd 52 (lN ((smN i (nxW f k)) + (nxW f k i))) dX7_next_51 rfl (lN_add _ _) ?_
              refine v_lstore_n 53 [some (rfv x 0), some (.int (nI (k))), some (.int (nI (t))), some (.long (lN ((smN i (nxW f k)) + (nxW f k i)))), none, some (.int (nI (i)))] dX7_next_52 rfl (by decide) rfl ?_
              refine v_iinc 56 [some (rfv x 0), some (.int (nI (k))), some (.int (nI (t))), some (.long (lN ((smN i (nxW f k)) + (nxW f k i)))), none, some (.int (nI (i + 1)))] (nI (i + 1)) dX7_next_53 rfl (by decide) rfl (nI_inc _) rfl ?_
              refine v_goto 35 dX7_next_56 (by decide) ?_
              refine v_drop [some (rfv x 0), some (.int (nI (k))), some (.int (nI (t))), some (.long (lN (smN (i + 1) (nxW f k)))), none, some (.int (nI (i + 1)))] (by simp [lsub, smN_s]) ?_
              exact ih
        refine v_drop [some (rfv x 0), some (.int (nI (k))), some (.int (nI (t))), some (.long (lN (smN 0 (nxW f k)))), none, some (.int (nI (0)))] (by simp [lsub, smN, amN, dbW, mxN]) ?_
        exact lp 0 (Nat.zero_le _)
      · skip
        refine v_iconst 21 ((-1)) (by decide) dX7_next_20 rfl ?_
        refine v_iret rfl dX7_next_21 ?_
        first | exact qZ (hQ I L (Kp.rf I)) (by rw [aNext, if_pos (Or.inr (inb_out (Or.inl h12)))]) | exact qZ (hQ I L (Kp.rf I)) (by rw [aNext, if_pos (Or.inr (inb_out (Or.inr (Int32.not_lt.mp h17))))])
