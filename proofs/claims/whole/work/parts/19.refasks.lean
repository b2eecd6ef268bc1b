set_option maxHeartbeats 4000000 in
theorem sp_X8_isPlace {x : Cx} {Q : Qt} {I : Iv} {L : Lv} {P : Pv} {f : Vw} (r : RR (I 41) f) (w : Wf f) {z p : Int32} (hQ : Q (some (.int (nI (ipl f z p)))) I L P) : SP x M_X8_isPlace [rfv x 40, .int (z), .int (p)] I L P Q := by
  have := w.n4
  have := w.n1
  have := w.m6
  
  refine SP.intro [some (rfv x 40), some (.int (z)), some (.int (p))] pn_X8_isPlace (Nat.le_of_ble_eq_true rfl) rfl ?_
  refine v_aload_n 1 rfl dX8_isPlace_0 rfl ?_
  refine v_iload_n 2 rfl dX8_isPlace_1 rfl ?_
  refine v_invV 5 M_X8_isSample [.int (z)] (by decide) rfl (by decide) rfl dX8_isPlace_2 rfl ml_X8_140 im_X8_isSample se_X8_isSample mc_X8_isSample (by decide) (Nat.le_of_ble_eq_true rfl) (sp_X8_isSample r w ?_)
  refine v_ifN_eq 27 8 dX8_isPlace_5 (by decide) rfl (by have := inb_lt z (f 1); omega) (fun h5 => ?_) (fun h5 => ?_)
  · skip
    refine v_iconst 28 (nI (0)) (by decide) dX8_isPlace_27 rfl ?_
    refine v_zret rfl dX8_isPlace_28 (by decide) ?_
    exact qI hQ (ipl_0 h5).symm
  · skip
    obtain ⟨k, hk, ez⟩ := inb_1 (by omega) h5
    subst ez
    have := w.p hk
    have e1 : ipl f (nI k) p = inb p (nP f k) := by rw [ipl_b h5, ix_n (by omega)]
    have e2 := inr_inb (z := p) (n := nP f k) (by omega)
    refine v_iload_n 9 rfl dX8_isPlace_8 rfl ?_
    refine v_iconst 10 (nI (0)) (by decide) dX8_isPlace_9 rfl ?_
    refine v_aload_n 11 rfl dX8_isPlace_10 rfl ?_
    refine v_iload_n 12 rfl dX8_isPlace_11 rfl ?_
    refine v_invV 15 M_X8_placesOf [.int (nI (k))] (by decide) rfl (by decide) rfl dX8_isPlace_12 rfl ml_X8_65 im_X8_placesOf se_X8_placesOf mc_X8_placesOf (by decide) (Nat.le_of_ble_eq_true rfl) (sp_X8_placesOf r w (by omega) ?_)
    refine v_iconst 16 (nI (1)) (by decide) dX8_isPlace_15 rfl ?_
    refine v_isub 17 (nI (nP f k) - nI 1) dX8_isPlace_16 rfl rfl ?_
    refine v_invT 20 M_X8_in [.int (p), .int (nI (0)), .int (nI (nP f k) - nI 1)] dX8_isPlace_17 rfl ml_X8_58 sm_X8_in mc_X8_in (by decide) (Nat.le_of_ble_eq_true rfl) (sp_X8_in ?_)
    refine v_ifN_eq 27 23 dX8_isPlace_20 (by decide) rfl (by have := inr_lt p (nI 0) (nI (nP f k) - nI 1); omega) (fun h20 => ?_) (fun h20 => ?_)
    · skip
      refine v_iconst 28 (nI (0)) (by decide) dX8_isPlace_27 rfl ?_
      refine v_zret rfl dX8_isPlace_28 (by decide) ?_
      first | exact qI hQ (by rw [e1, ← e2]; exact h20.symm) | exact qI hQ (by rw [e1, ← e2]; have := inr_lt p (nI 0) (nI (nP f k) - nI 1); omega)
    · skip
      refine v_iconst 24 (nI (1)) (by decide) dX8_isPlace_23 rfl ?_
      refine v_goto 28 dX8_isPlace_24 (by decide) ?_
      refine v_zret rfl dX8_isPlace_28 (by decide) ?_
      first | exact qI hQ (by rw [e1, ← e2]; exact h20.symm) | exact qI hQ (by rw [e1, ← e2]; have := inr_lt p (nI 0) (nI (nP f k) - nI 1); omega)
set_option maxHeartbeats 4000000 in
theorem sp_X8_sign {x : Cx} {Q : Qt} {I : Iv} {L : Lv} {P : Pv} {f : Vw} (r : RR (I 41) f) (w : Wf f) {z p : Int32} (hQ : ∀ I1 L1, Kp I I1 → Q (some (.int (aSign f z p))) I1 L1 P) : SP x M_X8_sign [rfv x 40, .int (z), .int (p)] I L P Q := by
  have := w.n4
  have := w.n1
  have := w.m6
  
  refine SP.intro [some (rfv x 40), some (.int (z)), some (.int (p))] pn_X8_sign (Nat.le_of_ble_eq_true rfl) rfl ?_
  refine v_aload_n 1 rfl dX8_sign_0 rfl ?_
  refine v_iconst 2 (nI (0)) (by decide) dX8_sign_1 rfl ?_
  refine v_putI 5 (k := 0) 8 .int (by decide) rfl (by decide) (by decide) rfl (by decide +kernel) rfl rfl (fun _ _ => rfl) dX8_sign_2 rfl fl_X8_50 (fun I2 e2 => ?_)
  have r2 : RR (I2 41) f := by rw [up2_row e2 (by omega)]; exact r
  have kp : Kp I I2 := fun a q hl => up2_off e2 (by unfold live at hl; omega)
  refine v_aload_n 6 rfl dX8_sign_5 rfl ?_
  refine v_iload_n 7 rfl dX8_sign_6 rfl ?_
  refine v_iload_n 8 rfl dX8_sign_7 rfl ?_
  refine v_invV 11 M_X8_isPlace [.int (z), .int (p)] (by decide) rfl (by decide) rfl dX8_sign_8 rfl ml_X8_181 im_X8_isPlace se_X8_isPlace mc_X8_isPlace (by decide) (Nat.le_of_ble_eq_true rfl) (sp_X8_isPlace r2 w ?_)
  refine v_ifN_eq 23 14 dX8_sign_11 (by decide) rfl (by have := ipl_lt f z p; omega) (fun h11 => ?_) (fun h11 => ?_)
  · skip
    refine v_iconst 24 ((-1)) (by decide) dX8_sign_23 rfl ?_
    refine v_iret rfl dX8_sign_24 ?_
    exact qZ (hQ I2 L kp) (by rw [aSign, if_pos h11])
  · skip
    obtain ⟨k, q, hk, hq, ez, ep⟩ := ipl_1 w h11
    subst ez
    subst ep
    have hpl := ipl_in w hk hq
    have := w.p hk
    have ek : ix (nI k) = k := ix_n (by omega)
    have eq : ix (nI q) = q := ix_n (by omega)
    have hT := totW_le w hk
    have hbl := bestW_lt w hk
    refine v_aload_n 15 rfl dX8_sign_14 rfl ?_
    refine v_iload_n 16 rfl dX8_sign_15 rfl ?_
    refine v_iload_n 17 rfl dX8_sign_16 rfl ?_
    refine v_invV 20 M_X8_signAt [.int (nI (k)), .int (nI (q))] (by decide) rfl (by decide) rfl dX8_sign_17 rfl ml_X8_69 im_X8_signAt se_X8_signAt mc_X8_signAt (by decide) (Nat.le_of_ble_eq_true rfl) (sp_X8_signAt r2 w (by omega) (by omega) ?_)
    refine v_goto 24 dX8_sign_20 (by decide) ?_
    refine v_iret rfl dX8_sign_24 ?_
    exact qZ (hQ I2 L kp) (by simp [aSign, hpl, ek, eq])
set_option maxHeartbeats 4000000 in
theorem sp_X8_best {x : Cx} {Q : Qt} {I : Iv} {L : Lv} {P : Pv} {f : Vw} (r : RR (I 41) f) (w : Wf f) {z p : Int32} (hQ : ∀ I1 L1, Kp I I1 → Q (some (.int (aBest f z p))) I1 L1 P) : SP x M_X8_best [rfv x 40, .int (z), .int (p)] I L P Q := by
  have := w.n4
  have := w.n1
  have := w.m6
  
  refine SP.intro [some (rfv x 40), some (.int (z)), some (.int (p))] pn_X8_best (Nat.le_of_ble_eq_true rfl) rfl ?_
  refine v_aload_n 1 rfl dX8_best_0 rfl ?_
  refine v_iconst 2 (nI (0)) (by decide) dX8_best_1 rfl ?_
  refine v_putI 5 (k := 0) 8 .int (by decide) rfl (by decide) (by decide) rfl (by decide +kernel) rfl rfl (fun _ _ => rfl) dX8_best_2 rfl fl_X8_50 (fun I2 e2 => ?_)
  have r2 : RR (I2 41) f := by rw [up2_row e2 (by omega)]; exact r
  have kp : Kp I I2 := fun a q hl => up2_off e2 (by unfold live at hl; omega)
  refine v_aload_n 6 rfl dX8_best_5 rfl ?_
  refine v_iload_n 7 rfl dX8_best_6 rfl ?_
  refine v_iload_n 8 rfl dX8_best_7 rfl ?_
  refine v_invV 11 M_X8_isPlace [.int (z), .int (p)] (by decide) rfl (by decide) rfl dX8_best_8 rfl ml_X8_181 im_X8_isPlace se_X8_isPlace mc_X8_isPlace (by decide) (Nat.le_of_ble_eq_true rfl) (sp_X8_isPlace r2 w ?_)
  refine v_ifN_ne 16 14 dX8_best_11 (by decide) rfl (by have := ipl_lt f z p; omega) (fun h11 => ?_) (fun h11 => ?_)
  · skip
    obtain ⟨k, q, hk, hq, ez, ep⟩ := ipl_1 w h11
    subst ez
    subst ep
    have hpl := ipl_in w hk hq
    have := w.p hk
    have ek : ix (nI k) = k := ix_n (by omega)
    have eq : ix (nI q) = q := ix_n (by omega)
    have hT := totW_le w hk
    have hbl := bestW_lt w hk
    refine v_aload_n 17 rfl dX8_best_16 rfl ?_
    refine v_iload_n 18 rfl dX8_best_17 rfl ?_
    refine v_invV 21 M_X8_laysRuns [.int (nI (k))] (by decide) rfl (by decide) rfl dX8_best_18 rfl ml_X8_151 im_X8_laysRuns se_X8_laysRuns mc_X8_laysRuns (by decide) (Nat.le_of_ble_eq_true rfl) (sp_X8_laysRuns r2 w hk (fun Lr lf um => ?_))
    refine v_aload_n 22 rfl dX8_best_21 rfl ?_
    refine v_invV 25 M_X8_bestWeight [] (by decide) rfl (by decide) rfl dX8_best_22 rfl ml_X8_93 im_X8_bestWeight se_X8_bestWeight mc_X8_bestWeight (by decide) (Nat.le_of_ble_eq_true rfl) (sp_X8_bestWeight r2 w hk um ?_)
    refine v_lconst 26 (lN (0)) rfl dX8_best_25 rfl ?_
    refine v_lcmp_ne 27 35 30 dX8_best_26 rfl dX8_best_27 (by decide) rfl (fun h26 => ?_) (fun h26 => ?_)
    · skip
      have h0 : 0 < bestW f k := Nat.pos_of_ne_zero (fun q9 => h26 ((pk_lEQ (by omega) (by omega)).mpr q9))
      refine v_aload_n 36 rfl dX8_best_35 rfl ?_
      refine v_iload_n 37 rfl dX8_best_36 rfl ?_
      refine v_iload_n 38 rfl dX8_best_37 rfl ?_
      refine v_invV 41 M_X8_bestAt [.int (nI (k)), .int (nI (q))] (by decide) rfl (by decide) rfl dX8_best_38 rfl ml_X8_191 im_X8_bestAt se_X8_bestAt mc_X8_bestAt (by decide) (Nat.le_of_ble_eq_true rfl) (sp_X8_bestAt r2 w hk um (by omega) ?_)
      refine v_iret rfl dX8_best_41 ?_
      exact qZ (hQ I2 Lr kp) (by simp [aBest, hpl, ek, eq, h0])
    · skip
      have h0 : ¬ 0 < bestW f k := by have := (pk_lEQ (by omega) (by omega)).mp h26; omega
      refine v_bipush 32 ((-5)) (by decide) dX8_best_30 rfl ?_
      refine v_goto 41 dX8_best_32 (by decide) ?_
      refine v_iret rfl dX8_best_41 ?_
      exact qZ (hQ I2 Lr kp) (by simp [aBest, hpl, ek, eq, h0])
  · skip
    refine v_iconst 15 ((-1)) (by decide) dX8_best_14 rfl ?_
    refine v_iret rfl dX8_best_15 ?_
    exact qZ (hQ I2 L kp) (by rw [aBest, if_pos h11])
set_option maxHeartbeats 4000000 in
theorem sp_X8_likeliest {x : Cx} {Q : Qt} {I : Iv} {L : Lv} {P : Pv} {f : Vw} (r : RR (I 41) f) (w : Wf f) {z p : Int32} (hQ : ∀ I1 L1, Kp I I1 → Q (some (.int (aLike f z p))) I1 L1 P) : SP x M_X8_likeliest [rfv x 40, .int (z), .int (p)] I L P Q := by
  have := w.n4
  have := w.n1
  have := w.m6
  
  refine SP.intro [some (rfv x 40), some (.int (z)), some (.int (p))] pn_X8_likeliest (Nat.le_of_ble_eq_true rfl) rfl ?_
  refine v_aload_n 1 rfl dX8_likeliest_0 rfl ?_
  refine v_iconst 2 (nI (0)) (by decide) dX8_likeliest_1 rfl ?_
  refine v_putI 5 (k := 0) 8 .int (by decide) rfl (by decide) (by decide) rfl (by decide +kernel) rfl rfl (fun _ _ => rfl) dX8_likeliest_2 rfl fl_X8_50 (fun I2 e2 => ?_)
  have r2 : RR (I2 41) f := by rw [up2_row e2 (by omega)]; exact r
  have kp : Kp I I2 := fun a q hl => up2_off e2 (by unfold live at hl; omega)
  refine v_aload_n 6 rfl dX8_likeliest_5 rfl ?_
  refine v_iload_n 7 rfl dX8_likeliest_6 rfl ?_
  refine v_iload_n 8 rfl dX8_likeliest_7 rfl ?_
  refine v_invV 11 M_X8_isPlace [.int (z), .int (p)] (by decide) rfl (by decide) rfl dX8_likeliest_8 rfl ml_X8_181 im_X8_isPlace se_X8_isPlace mc_X8_isPlace (by decide) (Nat.le_of_ble_eq_true rfl) (sp_X8_isPlace r2 w ?_)
  refine v_ifN_ne 16 14 dX8_likeliest_11 (by decide) rfl (by have := ipl_lt f z p; omega) (fun h11 => ?_) (fun h11 => ?_)
  · skip
    obtain ⟨k, q, hk, hq, ez, ep⟩ := ipl_1 w h11
    subst ez
    subst ep
    have hpl := ipl_in w hk hq
    have := w.p hk
    have ek : ix (nI k) = k := ix_n (by omega)
    have eq : ix (nI q) = q := ix_n (by omega)
    have hT := totW_le w hk
    have hbl := bestW_lt w hk
    refine v_aload_n 17 rfl dX8_likeliest_16 rfl ?_
    refine v_iload_n 18 rfl dX8_likeliest_17 rfl ?_
    refine v_invV 21 M_X8_laysRuns [.int (nI (k))] (by decide) rfl (by decide) rfl dX8_likeliest_18 rfl ml_X8_151 im_X8_laysRuns se_X8_laysRuns mc_X8_laysRuns (by decide) (Nat.le_of_ble_eq_true rfl) (sp_X8_laysRuns r2 w hk (fun Lr lf um => ?_))
    refine v_aload_n 22 rfl dX8_likeliest_21 rfl ?_
    refine v_invV 25 M_X8_total [] (by decide) rfl (by decide) rfl dX8_likeliest_22 rfl ml_X8_154 im_X8_total se_X8_total mc_X8_total (by decide) (Nat.le_of_ble_eq_true rfl) (sp_X8_total r2 w hk um ?_)
    refine v_lconst 26 (lN (0)) rfl dX8_likeliest_25 rfl ?_
    refine v_lcmp_ne 27 35 30 dX8_likeliest_26 rfl dX8_likeliest_27 (by decide) rfl (fun h26 => ?_) (fun h26 => ?_)
    · skip
      have h0 : 0 < totW f k := Nat.pos_of_ne_zero (fun q9 => h26 ((pk_lEQ (by omega) (by omega)).mpr q9))
      refine v_aload_n 36 rfl dX8_likeliest_35 rfl ?_
      refine v_iload_n 37 rfl dX8_likeliest_36 rfl ?_
      refine v_invV 40 M_X8_likeliestAt [.int (nI (q))] (by decide) rfl (by decide) rfl dX8_likeliest_37 rfl ml_X8_194 im_X8_likeliestAt se_X8_likeliestAt mc_X8_likeliestAt (by decide) (Nat.le_of_ble_eq_true rfl) (sp_X8_likeliestAt r2 w hk um (by omega) ?_)
      refine v_iret rfl dX8_likeliest_40 ?_
      exact qZ (hQ I2 Lr kp) (by simp [aLike, hpl, ek, eq, h0])
    · skip
      have h0 : ¬ 0 < totW f k := by have := (pk_lEQ (by omega) (by omega)).mp h26; omega
      refine v_bipush 32 ((-5)) (by decide) dX8_likeliest_30 rfl ?_
      refine v_goto 40 dX8_likeliest_32 (by decide) ?_
      refine v_iret rfl dX8_likeliest_40 ?_
      exact qZ (hQ I2 Lr kp) (by simp [aLike, hpl, ek, eq, h0])
  · skip
    refine v_iconst 15 ((-1)) (by decide) dX8_likeliest_14 rfl ?_
    refine v_iret rfl dX8_likeliest_15 ?_
    exact qZ (hQ I2 L kp) (by rw [aLike, if_pos h11])
set_option maxHeartbeats 4000000 in
theorem sp_X8_share {x : Cx} {Q : Qt} {I : Iv} {L : Lv} {P : Pv} {f : Vw} (r : RR (I 41) f) (w : Wf f) {z p s : Int32} (hQ : ∀ I1 L1, Kp I I1 → Q (some (.int (aShare f z p s))) I1 L1 P) : SP x M_X8_share [rfv x 40, .int (z), .int (p), .int (s)] I L P Q := by
  have := w.n4
  have := w.n1
  have := w.m6
  
  refine SP.intro [some (rfv x 40), some (.int (z)), some (.int (p)), some (.int (s))] pn_X8_share (Nat.le_of_ble_eq_true rfl) rfl ?_
  refine v_aload_n 1 rfl dX8_share_0 rfl ?_
  refine v_iconst 2 (nI (0)) (by decide) dX8_share_1 rfl ?_
  refine v_putI 5 (k := 0) 8 .int (by decide) rfl (by decide) (by decide) rfl (by decide +kernel) rfl rfl (fun _ _ => rfl) dX8_share_2 rfl fl_X8_50 (fun I2 e2 => ?_)
  have r2 : RR (I2 41) f := by rw [up2_row e2 (by omega)]; exact r
  have kp : Kp I I2 := fun a q hl => up2_off e2 (by unfold live at hl; omega)
  refine v_aload_n 6 rfl dX8_share_5 rfl ?_
  refine v_iload_n 7 rfl dX8_share_6 rfl ?_
  refine v_iload_n 8 rfl dX8_share_7 rfl ?_
  refine v_invV 11 M_X8_isPlace [.int (z), .int (p)] (by decide) rfl (by decide) rfl dX8_share_8 rfl ml_X8_181 im_X8_isPlace se_X8_isPlace mc_X8_isPlace (by decide) (Nat.le_of_ble_eq_true rfl) (sp_X8_isPlace r2 w ?_)
  refine v_ifN_eq 22 14 dX8_share_11 (by decide) rfl (by have := ipl_lt f z p; omega) (fun h11 => ?_) (fun h11 => ?_)
  · skip
    refine v_iconst 23 ((-1)) (by decide) dX8_share_22 rfl ?_
    refine v_iret rfl dX8_share_23 ?_
    exact qZ (hQ I2 L kp) (by rw [aShare, if_pos (Or.inl h11)])
  · skip
    obtain ⟨k, q, hk, hq, ez, ep⟩ := ipl_1 w h11
    subst ez
    subst ep
    have hpl := ipl_in w hk hq
    have := w.p hk
    have ek : ix (nI k) = k := ix_n (by omega)
    have eq : ix (nI q) = q := ix_n (by omega)
    have hT := totW_le w hk
    have hbl := bestW_lt w hk
    refine v_aload_n 15 rfl dX8_share_14 rfl ?_
    refine v_iload_n 16 rfl dX8_share_15 rfl ?_
    refine v_invV 19 M_X8_isState [.int (s)] (by decide) rfl (by decide) rfl dX8_share_16 rfl ml_X8_97 im_X8_isState se_X8_isState mc_X8_isState (by decide) (Nat.le_of_ble_eq_true rfl) (sp_X8_isState r2 w ?_)
    refine v_ifN_ne 24 22 dX8_share_19 (by decide) rfl (by have := inb_lt s (f 0); omega) (fun h19 => ?_) (fun h19 => ?_)
    · skip
      obtain ⟨t, ht, es⟩ := inb_1 (by omega) h19
      subst es
      have hst := inb_in ht (by omega)
      have et : ix (nI t) = t := ix_n (by omega)
      have hwt := wtW_le w hk hq ht
      refine v_aload_n 25 rfl dX8_share_24 rfl ?_
      refine v_iload_n 26 rfl dX8_share_25 rfl ?_
      refine v_invV 29 M_X8_laysRuns [.int (nI (k))] (by decide) rfl (by decide) rfl dX8_share_26 rfl ml_X8_151 im_X8_laysRuns se_X8_laysRuns mc_X8_laysRuns (by decide) (Nat.le_of_ble_eq_true rfl) (sp_X8_laysRuns r2 w hk (fun Lr lf um => ?_))
      refine v_aload_n 30 rfl dX8_share_29 rfl ?_
      refine v_invV 33 M_X8_total [] (by decide) rfl (by decide) rfl dX8_share_30 rfl ml_X8_154 im_X8_total se_X8_total mc_X8_total (by decide) (Nat.le_of_ble_eq_true rfl) (sp_X8_total r2 w hk um ?_)
      refine v_lconst 34 (lN (0)) rfl dX8_share_33 rfl ?_
      refine v_lcmp_ne 35 43 38 dX8_share_34 rfl dX8_share_35 (by decide) rfl (fun h34 => ?_) (fun h34 => ?_)
      · skip
        have h0 : 0 < totW f k := Nat.pos_of_ne_zero (fun q9 => h34 ((pk_lEQ (by omega) (by omega)).mpr q9))
        refine v_aload_n 44 rfl dX8_share_43 rfl ?_
        refine v_iload_n 45 rfl dX8_share_44 rfl ?_
        refine v_iload_n 46 rfl dX8_share_45 rfl ?_
        refine v_invV 49 M_X8_weightAt [.int (nI (q)), .int (nI (t))] (by decide) rfl (by decide) rfl dX8_share_46 rfl ml_X8_87 im_X8_weightAt se_X8_weightAt mc_X8_weightAt (by decide) (Nat.le_of_ble_eq_true rfl) (sp_X8_weightAt r2 w hk um (by omega) (by omega) ?_)
        refine v_aload_n 50 rfl dX8_share_49 rfl ?_
        refine v_invV 53 M_X8_total [] (by decide) rfl (by decide) rfl dX8_share_50 rfl ml_X8_154 im_X8_total se_X8_total mc_X8_total (by decide) (Nat.le_of_ble_eq_true rfl) (sp_X8_total r2 w hk um ?_)
        refine v_invT 56 M_X8_shareOf [.long (lN (wtW f k q t)), .long (lN (totW f k))] dX8_share_53 rfl ml_X8_143 sm_X8_shareOf mc_X8_shareOf (by decide) (Nat.le_of_ble_eq_true rfl) (sp_X8_shareOf (by omega) (by omega) (by omega) ?_)
        refine v_iret rfl dX8_share_56 ?_
        exact qZ (hQ I2 Lr kp) (by simp [aShare, hpl, hst, ek, eq, et, h0])
      · skip
        have h0 : ¬ 0 < totW f k := by have := (pk_lEQ (by omega) (by omega)).mp h34; omega
        refine v_bipush 40 ((-5)) (by decide) dX8_share_38 rfl ?_
        refine v_goto 56 dX8_share_40 (by decide) ?_
        refine v_iret rfl dX8_share_56 ?_
        exact qZ (hQ I2 Lr kp) (by simp [aShare, hpl, hst, ek, eq, et, h0])
    · skip
      refine v_iconst 23 ((-1)) (by decide) dX8_share_22 rfl ?_
      refine v_iret rfl dX8_share_23 ?_
      exact qZ (hQ I2 L kp) (by rw [aShare, if_pos (Or.inr h19)])
theorem or_0 (a : Nat) : nI a ||| nI 0 = nI a := by
  apply Int32.toBitVec_inj.mp
  rw [Int32.toBitVec_or]
  show BitVec.ofNat 32 a ||| BitVec.ofNat 32 0 = BitVec.ofNat 32 a
  simp
set_option maxHeartbeats 4000000 in
theorem sp_X8_doubts {x : Cx} {Q : Qt} {I : Iv} {L : Lv} {P : Pv} {f : Vw} (r : RR (I 41) f) (w : Wf f) {k : Nat} (hk : k < f 1) (hQ : ∀ L1, UM f k L1 → Q (some (.int (nI (dW f k)))) I L1 P) : SP x M_X8_doubts [rfv x 40, .int (nI (k))] I L P Q := by
  have := w.n4
  have := w.n1
  have := w.m6
  have := w.p hk
  have hT := totW_le w hk
  refine SP.intro [some (rfv x 40), some (.int (nI (k))), none, none, none, none] pn_X8_doubts (Nat.le_of_ble_eq_true rfl) rfl ?_
  refine v_aload_n 1 rfl dX8_doubts_0 rfl ?_
  refine v_iload_n 2 rfl dX8_doubts_1 rfl ?_
  refine v_invV 5 M_X8_laysRuns [.int (nI (k))] (by decide) rfl (by decide) rfl dX8_doubts_2 rfl ml_X8_151 im_X8_laysRuns se_X8_laysRuns mc_X8_laysRuns (by decide) (Nat.le_of_ble_eq_true rfl) (sp_X8_laysRuns r w hk (fun Lr lf um => ?_))
  refine v_aload_n 6 rfl dX8_doubts_5 rfl ?_
  refine v_invV 9 M_X8_total [] (by decide) rfl (by decide) rfl dX8_doubts_6 rfl ml_X8_154 im_X8_total se_X8_total mc_X8_total (by decide) (Nat.le_of_ble_eq_true rfl) (sp_X8_total r w hk um ?_)
  refine v_lstore_n 10 [some (rfv x 40), some (.int (nI (k))), some (.long (lN (totW f k))), none, none, none] dX8_doubts_9 rfl (by decide) rfl ?_
  refine v_iconst 11 (nI (0)) (by decide) dX8_doubts_10 rfl ?_
  refine v_istore 13 [some (rfv x 40), some (.int (nI (k))), some (.long (lN (totW f k))), none, some (.int (nI (0))), none] dX8_doubts_11 rfl (by decide) rfl ?_
  refine v_iconst 14 (nI (0)) (by decide) dX8_doubts_13 rfl ?_
  refine v_istore 16 [some (rfv x 40), some (.int (nI (k))), some (.long (lN (totW f k))), none, some (.int (nI (0))), some (.int (nI (0)))] dX8_doubts_14 rfl (by decide) rfl ?_
  have e0 := (pk_lLT (a := 0) (b := totW f k) (by decide) (by omega))
  by_cases h0 : 0 < totW f k
  · skip
    have lp : ∀ i, i ≤ nP f k → V x M_X8_doubts Q 16 [some (rfv x 40), some (.int (nI (k))), some (.long (lN (totW f k))), none, some (.int (nI (dbW f k i))), some (.int (nI (i)))] [] I Lr P := by
      refine lpU ?_ ?_
      · skip
        refine v_iload 18 rfl dX8_doubts_16 rfl ?_
        refine v_aload_n 19 rfl dX8_doubts_18 rfl ?_
        refine v_iload_n 20 rfl dX8_doubts_19 rfl ?_
        refine v_invV 23 M_X8_placesOf [.int (nI (k))] (by decide) rfl (by decide) rfl dX8_doubts_20 rfl ml_X8_65 im_X8_placesOf se_X8_placesOf mc_X8_placesOf (by decide) (Nat.le_of_ble_eq_true rfl) (sp_X8_placesOf r w (by omega) ?_)
        refine v_icmpN_ge 76 26 dX8_doubts_23 (by decide) rfl (by omega) (by omega) (fun h23 => ?_) (fun h23 => ?_)
        · skip
          refine v_iload 78 rfl dX8_doubts_76 rfl ?_
          refine v_iret rfl dX8_doubts_78 ?_
          exact qI (hQ Lr um) (if_pos h0).symm
        · skip
          exact absurd h23 (by omega)
      · intro i hi ih 
        have hl := lkW_lt (k := k) (p := i) w
        have hw := wtW_le w hk hi hl
        have hSh : shN (wtW f k i (lkW f k i)) (totW f k) < 2147483648 := shN_small w hk hi hl
        refine v_iload 18 rfl dX8_doubts_16 rfl ?_
        refine v_aload_n 19 rfl dX8_doubts_18 rfl ?_
        refine v_iload_n 20 rfl dX8_doubts_19 rfl ?_
        refine v_invV 23 M_X8_placesOf [.int (nI (k))] (by decide) rfl (by decide) rfl dX8_doubts_20 rfl ml_X8_65 im_X8_placesOf se_X8_placesOf mc_X8_placesOf (by decide) (Nat.le_of_ble_eq_true rfl) (sp_X8_placesOf r w (by omega) ?_)
        refine v_icmpN_ge 76 26 dX8_doubts_23 (by decide) rfl (by omega) (by omega) (fun h23 => ?_) (fun h23 => ?_)
        · skip
          exact absurd h23 (by omega)
        · skip
          refine v_lload_n 27 rfl dX8_doubts_26 rfl ?_
          refine v_lconst 28 (lN (0)) rfl dX8_doubts_27 rfl ?_
          refine v_lcmp_le 29 76 32 dX8_doubts_28 rfl dX8_doubts_29 (by decide) rfl (fun h28 => ?_) (fun h28 => ?_)
          · skip
            exact absurd (e0.mpr h0) h28
          · skip
            refine v_iload 34 rfl dX8_doubts_32 rfl ?_
            refine v_aload_n 35 rfl dX8_doubts_34 rfl ?_
            refine v_iload 37 rfl dX8_doubts_35 rfl ?_
            refine v_aload_n 38 rfl dX8_doubts_37 rfl ?_
            refine v_iload 40 rfl dX8_doubts_38 rfl ?_
            refine v_invV 43 M_X8_likeliestAt [.int (nI (i))] (by decide) rfl (by decide) rfl dX8_doubts_40 rfl ml_X8_194 im_X8_likeliestAt se_X8_likeliestAt mc_X8_likeliestAt (by decide) (Nat.le_of_ble_eq_true rfl) (sp_X8_likeliestAt r w hk um (by omega) ?_)
            refine v_invV 46 M_X8_weightAt [.int (nI (i)), .int (nI (lkW f k i))] (by decide) rfl (by decide) rfl dX8_doubts_43 rfl ml_X8_87 im_X8_weightAt se_X8_weightAt mc_X8_weightAt (by decide) (Nat.le_of_ble_eq_true rfl) (sp_X8_weightAt r w hk um (by omega) (by omega) ?_)
            refine v_lload_n 47 rfl dX8_doubts_46 rfl ?_
            refine v_invT 50 M_X8_shareOf [.long (lN (wtW f k i (lkW f k i))), .long (lN (totW f k))] dX8_doubts_47 rfl ml_X8_143 sm_X8_shareOf mc_X8_shareOf (by decide) (Nat.le_of_ble_eq_true rfl) (sp_X8_shareOf (by omega) (by omega) (by omega) ?_)
            refine v_aload_n 51 rfl dX8_doubts_50 rfl ?_
            refine v_get 54 (k := 1) 8 (rfv x 41) (by decide) rfl (by decide) (by decide) dX8_doubts_51 rfl fl_X8_7 rfl ?_
            refine v_iconst 55 (nI (2)) (by decide) dX8_doubts_54 rfl ?_
            refine v_iald 56 (k := 2) (nI (f 2)) (by decide) rfl (by decide) dX8_doubts_55 rfl rfl (by omega) r.bd ?_
            refine v_icmpN_ge 66 59 dX8_doubts_56 (by decide) rfl hSh (by have := w.2.2.1; omega) (fun h56 => ?_) (fun h56 => ?_)
            · skip
              refine v_iconst 67 (nI (0)) (by decide) dX8_doubts_66 rfl ?_
              refine v_ior 68 (nI (dbW f k i)) dX8_doubts_67 rfl (or_0 _) ?_
              refine v_istore 70 [some (rfv x 40), some (.int (nI (k))), some (.long (lN (totW f k))), none, some (.int (nI (dbW f k i))), some (.int (nI (i)))] dX8_doubts_68 rfl (by decide) rfl ?_
              refine v_iinc 73 [some (rfv x 40), some (.int (nI (k))), some (.long (lN (totW f k))), none, some (.int (nI (dbW f k i))), some (.int (nI (i + 1)))] (nI (i + 1)) dX8_doubts_70 rfl (by decide) rfl (nI_inc _) rfl ?_
              refine v_goto 16 dX8_doubts_73 (by decide) ?_
              refine v_drop [some (rfv x 40), some (.int (nI (k))), some (.long (lN (totW f k))), none, some (.int (nI (dbW f k (i + 1)))), some (.int (nI (i + 1)))] (by first | (simp [lsub, dbW, smN_s, if_pos h56]; done) | (simp [lsub, dbW, smN_s, if_neg (Nat.not_lt.mpr h56)]; done)) ?_
              exact ih
            · skip
              refine v_iconst 60 (nI (1)) (by decide) dX8_doubts_59 rfl ?_
              refine v_iload 62 rfl dX8_doubts_60 rfl ?_
              refine v_ishl 63 (nI (2 ^ i)) dX8_doubts_62 rfl (bit_shl (by omega)) ?_
              refine v_goto 67 dX8_doubts_63 (by decide) ?_
              refine v_ior 68 (nI (dbW f k i + 2 ^ i)) dX8_doubts_67 rfl (bit_or (dbW_lt f k i) (by omega)) ?_
              refine v_istore 70 [some (rfv x 40), some (.int (nI (k))), some (.long (lN (totW f k))), none, some (.int (nI (dbW f k i + 2 ^ i))), some (.int (nI (i)))] dX8_doubts_68 rfl (by decide) rfl ?_
              refine v_iinc 73 [some (rfv x 40), some (.int (nI (k))), some (.long (lN (totW f k))), none, some (.int (nI (dbW f k i + 2 ^ i))), some (.int (nI (i + 1)))] (nI (i + 1)) dX8_doubts_70 rfl (by decide) rfl (nI_inc _) rfl ?_
              refine v_goto 16 dX8_doubts_73 (by decide) ?_
              refine v_drop [some (rfv x 40), some (.int (nI (k))), some (.long (lN (totW f k))), none, some (.int (nI (dbW f k (i + 1)))), some (.int (nI (i + 1)))] (by first | (simp [lsub, dbW, smN_s, if_pos h56]; done) | (simp [lsub, dbW, smN_s, if_neg (Nat.not_lt.mpr h56)]; done)) ?_
              exact ih
    refine v_drop [some (rfv x 40), some (.int (nI (k))), some (.long (lN (totW f k))), none, some (.int (nI (dbW f k 0))), some (.int (nI (0)))] (by simp [lsub, smN, amN, dbW, mxN]) ?_
    exact lp 0 (Nat.zero_le _)
  · skip
    refine v_iload 18 rfl dX8_doubts_16 rfl ?_
    refine v_aload_n 19 rfl dX8_doubts_18 rfl ?_
    refine v_iload_n 20 rfl dX8_doubts_19 rfl ?_
    refine v_invV 23 M_X8_placesOf [.int (nI (k))] (by decide) rfl (by decide) rfl dX8_doubts_20 rfl ml_X8_65 im_X8_placesOf se_X8_placesOf mc_X8_placesOf (by decide) (Nat.le_of_ble_eq_true rfl) (sp_X8_placesOf r w (by omega) ?_)
    refine v_icmpN_ge 76 26 dX8_doubts_23 (by decide) rfl (by omega) (by omega) (fun h23 => ?_) (fun h23 => ?_)
    · skip
      refine v_iload 78 rfl dX8_doubts_76 rfl ?_
      refine v_iret rfl dX8_doubts_78 ?_
      exact qI (hQ Lr um) (if_neg h0).symm
    · skip
      refine v_lload_n 27 rfl dX8_doubts_26 rfl ?_
      refine v_lconst 28 (lN (0)) rfl dX8_doubts_27 rfl ?_
      refine v_lcmp_le 29 76 32 dX8_doubts_28 rfl dX8_doubts_29 (by decide) rfl (fun h28 => ?_) (fun h28 => ?_)
      · skip
        refine v_iload 78 rfl dX8_doubts_76 rfl ?_
        refine v_iret rfl dX8_doubts_78 ?_
        exact qI (hQ Lr um) (if_neg h0).symm
      · skip
        exact absurd (e0.mp h28) h0
set_option maxHeartbeats 4000000 in
theorem sp_X8_doubtful {x : Cx} {Q : Qt} {I : Iv} {L : Lv} {P : Pv} {f : Vw} (r : RR (I 41) f) (w : Wf f) {z : Int32} (hQ : ∀ I1 L1, Kp I I1 → Q (some (.int (aDoubt f z))) I1 L1 P) : SP x M_X8_doubtful [rfv x 40, .int (z)] I L P Q := by
  have := w.n4
  have := w.n1
  have := w.m6
  
  refine SP.intro [some (rfv x 40), some (.int (z))] pn_X8_doubtful (Nat.le_of_ble_eq_true rfl) rfl ?_
  refine v_aload_n 1 rfl dX8_doubtful_0 rfl ?_
  refine v_iconst 2 (nI (0)) (by decide) dX8_doubtful_1 rfl ?_
  refine v_putI 5 (k := 0) 8 .int (by decide) rfl (by decide) (by decide) rfl (by decide +kernel) rfl rfl (fun _ _ => rfl) dX8_doubtful_2 rfl fl_X8_50 (fun I2 e2 => ?_)
  have r2 : RR (I2 41) f := by rw [up2_row e2 (by omega)]; exact r
  have kp : Kp I I2 := fun a q hl => up2_off e2 (by unfold live at hl; omega)
  refine v_aload_n 6 rfl dX8_doubtful_5 rfl ?_
  refine v_iload_n 7 rfl dX8_doubtful_6 rfl ?_
  refine v_invV 10 M_X8_isSample [.int (z)] (by decide) rfl (by decide) rfl dX8_doubtful_7 rfl ml_X8_140 im_X8_isSample se_X8_isSample mc_X8_isSample (by decide) (Nat.le_of_ble_eq_true rfl) (sp_X8_isSample r2 w ?_)
  refine v_ifN_eq 21 13 dX8_doubtful_10 (by decide) rfl (by have := inb_lt z (f 1); omega) (fun h10 => ?_) (fun h10 => ?_)
  · skip
    refine v_iconst 22 ((-1)) (by decide) dX8_doubtful_21 rfl ?_
    refine v_iret rfl dX8_doubtful_22 ?_
    exact qZ (hQ I2 L kp) (by rw [aDoubt, if_pos h10])
  · skip
    obtain ⟨k, hk, ez⟩ := inb_1 (by omega) h10
    subst ez
    have hin := inb_in hk (by have := w.m6; omega)
    have := w.p hk
    have ek : ix (nI k) = k := ix_n (by omega)
    have hT := totW_le w hk
    have hbl := bestW_lt w hk
    have hcl := cntW_le w hk
    refine v_aload_n 14 rfl dX8_doubtful_13 rfl ?_
    refine v_iload_n 15 rfl dX8_doubtful_14 rfl ?_
    refine v_invV 18 M_X8_doubts [.int (nI (k))] (by decide) rfl (by decide) rfl dX8_doubtful_15 rfl ml_X8_197 im_X8_doubts se_X8_doubts mc_X8_doubts (by decide) (Nat.le_of_ble_eq_true rfl) (sp_X8_doubts r2 w hk (fun Lr um => ?_))
    refine v_goto 22 dX8_doubtful_18 (by decide) ?_
    refine v_iret rfl dX8_doubtful_22 ?_
    exact qZ (hQ I2 Lr kp) (by simp [aDoubt, hin, ek])
set_option maxHeartbeats 4000000 in
theorem sp_X8_run {x : Cx} {Q : Qt} {I : Iv} {L : Lv} {P : Pv} {f : Vw} (r : RR (I 41) f) (w : Wf f) {z r9 p : Int32} (hQ : ∀ I1 L1, Kp I I1 → Q (some (.int (aRun f z r9 p))) I1 L1 P) : SP x M_X8_run [rfv x 40, .int (z), .int (r9), .int (p)] I L P Q := by
  have := w.n4
  have := w.n1
  have := w.m6
  
  refine SP.intro [some (rfv x 40), some (.int (z)), some (.int (r9)), some (.int (p))] pn_X8_run (Nat.le_of_ble_eq_true rfl) rfl ?_
  refine v_aload_n 1 rfl dX8_run_0 rfl ?_
  refine v_iconst 2 (nI (0)) (by decide) dX8_run_1 rfl ?_
  refine v_putI 5 (k := 0) 8 .int (by decide) rfl (by decide) (by decide) rfl (by decide +kernel) rfl rfl (fun _ _ => rfl) dX8_run_2 rfl fl_X8_50 (fun I2 e2 => ?_)
  have r2 : RR (I2 41) f := by rw [up2_row e2 (by omega)]; exact r
  have kp : Kp I I2 := fun a q hl => up2_off e2 (by unfold live at hl; omega)
  refine v_aload_n 6 rfl dX8_run_5 rfl ?_
  refine v_iload_n 7 rfl dX8_run_6 rfl ?_
  refine v_iload_n 8 rfl dX8_run_7 rfl ?_
  refine v_invV 11 M_X8_isPlace [.int (z), .int (p)] (by decide) rfl (by decide) rfl dX8_run_8 rfl ml_X8_181 im_X8_isPlace se_X8_isPlace mc_X8_isPlace (by decide) (Nat.le_of_ble_eq_true rfl) (sp_X8_isPlace r2 w ?_)
  refine v_ifN_ne 16 14 dX8_run_11 (by decide) rfl (by have := ipl_lt f z p; omega) (fun h11 => ?_) (fun h11 => ?_)
  · skip
    obtain ⟨k, q, hk, hq, ez, ep⟩ := ipl_1 w h11
    subst ez
    subst ep
    have hpl := ipl_in w hk hq
    have := w.p hk
    have ek : ix (nI k) = k := ix_n (by omega)
    have eq : ix (nI q) = q := ix_n (by omega)
    have hT := totW_le w hk
    have hbl := bestW_lt w hk
    refine v_iload_n 17 rfl dX8_run_16 rfl ?_
    refine v_if_ge 23 20 dX8_run_17 (by decide) rfl (fun h17 => ?_) (fun h17 => ?_)
    · skip
      have h16n : ¬ r9 < 0 := Int32.not_lt.mpr h17
      obtain ⟨r0, hr0, er⟩ := nI_of h16n
      subst er
      have e0 : ix (nI r0) = r0 := ix_n (by omega)
      have hn : ¬ nI r0 < 0 := nI_pos hr0
      have hcl := cntW_le w hk
      refine v_aload_n 24 rfl dX8_run_23 rfl ?_
      refine v_iload_n 25 rfl dX8_run_24 rfl ?_
      refine v_invV 28 M_X8_laysRuns [.int (nI (k))] (by decide) rfl (by decide) rfl dX8_run_25 rfl ml_X8_151 im_X8_laysRuns se_X8_laysRuns mc_X8_laysRuns (by decide) (Nat.le_of_ble_eq_true rfl) (sp_X8_laysRuns r2 w hk (fun Lr lf um => ?_))
      refine v_iload_n 29 rfl dX8_run_28 rfl ?_
      refine v_i2l 30 (lN (r0)) dX8_run_29 rfl (nI_l (by omega)) ?_
      refine v_aload_n 31 rfl dX8_run_30 rfl ?_
      refine v_invV 34 M_X8_runsThatCount [] (by decide) rfl (by decide) rfl dX8_run_31 rfl ml_X8_188 im_X8_runsThatCount se_X8_runsThatCount mc_X8_runsThatCount (by decide) (Nat.le_of_ble_eq_true rfl) (sp_X8_runsThatCount r2 w hk um ?_)
      refine v_lcmp_ge 35 48 38 dX8_run_34 rfl dX8_run_35 (by decide) rfl (fun h34 => ?_) (fun h34 => ?_)
      · skip
        have h0 : ¬ r0 < cntW f k := fun q9 => h34 ((pk_lLT (by omega) (by omega)).mpr q9)
        refine v_bipush 50 ((-5)) (by decide) dX8_run_48 rfl ?_
        refine v_iret rfl dX8_run_50 ?_
        exact qZ (hQ I2 Lr kp) (by simp [aRun, hpl, ek, eq, e0, hn, h0])
      · skip
        have h0 : r0 < cntW f k := (pk_lLT (by omega) (by omega)).mp h34
        refine v_aload_n 39 rfl dX8_run_38 rfl ?_
        refine v_iload_n 40 rfl dX8_run_39 rfl ?_
        refine v_iload_n 41 rfl dX8_run_40 rfl ?_
        refine v_iload_n 42 rfl dX8_run_41 rfl ?_
        refine v_invV 45 M_X8_runAt [.int (nI (k)), .int (nI (r0)), .int (nI (q))] (by decide) rfl (by decide) rfl dX8_run_42 rfl ml_X8_200 im_X8_runAt se_X8_runAt mc_X8_runAt (by decide) (Nat.le_of_ble_eq_true rfl) (sp_X8_runAt r2 w hk um h0 (by omega) ?_)
        refine v_goto 50 dX8_run_45 (by decide) ?_
        refine v_iret rfl dX8_run_50 ?_
        exact qZ (hQ I2 Lr kp) (by simp [aRun, hpl, ek, eq, e0, hn, h0])
    · skip
      refine v_bipush 22 ((-2)) (by decide) dX8_run_20 rfl ?_
      refine v_iret rfl dX8_run_22 ?_
      exact qZ (hQ I2 L kp) (by have h17n : r9 < 0 := Int32.not_le.mp h17; simp [aRun, hpl, h17n])
  · skip
    refine v_iconst 15 ((-1)) (by decide) dX8_run_14 rfl ?_
    refine v_iret rfl dX8_run_15 ?_
    exact qZ (hQ I2 L kp) (by rw [aRun, if_pos h11])
theorem inr_3 {h : Int32} (c : inr h (nI 0) (nI 2) ≠ 0) : ∃ t, t < 3 ∧ h = nI t := by
  have e : ¬ (h < nI 0 ∨ nI 2 < h) := fun q => c (if_pos q)
  rcases pk_ix h (n := 3) (by decide) with q | q | q
  · exact absurd (Or.inl q) e
  · refine absurd (Or.inr ?_) e
    rw [Int32.lt_iff_toInt_lt]
    have := Int32.le_iff_toInt_le.mp q
    rw [nI_toInt (by decide)] at this ⊢
    omega
  · exact q
set_option maxHeartbeats 4000000 in
theorem sp_X8_ofSample {x : Cx} {Q : Qt} {I : Iv} {L : Lv} {P : Pv} {f : Vw} (r : RR (I 41) f) (w : Wf f) {z h : Int32} (hQ : ∀ I1 L1, Kp I I1 → Q (some (.long (aOf f z h))) I1 L1 P) : SP x M_X8_ofSample [rfv x 40, .int (z), .int (h)] I L P Q := by
  have := w.n4
  have := w.n1
  have := w.m6
  
  refine SP.intro [some (rfv x 40), some (.int (z)), some (.int (h))] pn_X8_ofSample (Nat.le_of_ble_eq_true rfl) rfl ?_
  refine v_aload_n 1 rfl dX8_ofSample_0 rfl ?_
  refine v_iconst 2 (nI (0)) (by decide) dX8_ofSample_1 rfl ?_
  refine v_putI 5 (k := 0) 8 .int (by decide) rfl (by decide) (by decide) rfl (by decide +kernel) rfl rfl (fun _ _ => rfl) dX8_ofSample_2 rfl fl_X8_50 (fun I2 e2 => ?_)
  have r2 : RR (I2 41) f := by rw [up2_row e2 (by omega)]; exact r
  have kp : Kp I I2 := fun a q hl => up2_off e2 (by unfold live at hl; omega)
  refine v_aload_n 6 rfl dX8_ofSample_5 rfl ?_
  refine v_iload_n 7 rfl dX8_ofSample_6 rfl ?_
  refine v_invV 10 M_X8_isSample [.int (z)] (by decide) rfl (by decide) rfl dX8_ofSample_7 rfl ml_X8_140 im_X8_isSample se_X8_isSample mc_X8_isSample (by decide) (Nat.le_of_ble_eq_true rfl) (sp_X8_isSample r2 w ?_)
  refine v_ifN_ne 17 13 dX8_ofSample_10 (by decide) rfl (by have := inb_lt z (f 1); omega) (fun h10 => ?_) (fun h10 => ?_)
  · skip
    obtain ⟨k, hk, ez⟩ := inb_1 (by omega) h10
    subst ez
    have hin := inb_in hk (by have := w.m6; omega)
    have := w.p hk
    have ek : ix (nI k) = k := ix_n (by omega)
    have hT := totW_le w hk
    have hbl := bestW_lt w hk
    have hcl := cntW_le w hk
    have hi3 : inr h (nI 0) (nI 2) = 0 → aOf f (nI k) h = -2 := fun q => by
      have g0 : ¬ h = nI 0 := fun e => by rw [e] at q; exact absurd q (by decide)
      have g1 : ¬ h = nI 1 := fun e => by rw [e] at q; exact absurd q (by decide)
      have g2 : ¬ h = nI 2 := fun e => by rw [e] at q; exact absurd q (by decide)
      simp [aOf, hin, g0, g1, g2]
    refine v_iload_n 18 rfl dX8_ofSample_17 rfl ?_
    refine v_iconst 19 (nI (0)) (by decide) dX8_ofSample_18 rfl ?_
    refine v_iconst 20 (nI (2)) (by decide) dX8_ofSample_19 rfl ?_
    refine v_invT 23 M_X8_in [.int (h), .int (nI (0)), .int (nI (2))] dX8_ofSample_20 rfl ml_X8_58 sm_X8_in mc_X8_in (by decide) (Nat.le_of_ble_eq_true rfl) (sp_X8_in ?_)
    refine v_ifN_ne 30 26 dX8_ofSample_23 (by decide) rfl (by have := inr_lt h (nI 0) (nI 2); omega) (fun h23 => ?_) (fun h23 => ?_)
    · skip
      obtain ⟨t, ht, eh⟩ := inr_3 h23
      subst eh
      refine v_aload_n 31 rfl dX8_ofSample_30 rfl ?_
      refine v_iload_n 32 rfl dX8_ofSample_31 rfl ?_
      refine v_invV 35 M_X8_laysRuns [.int (nI (k))] (by decide) rfl (by decide) rfl dX8_ofSample_32 rfl ml_X8_151 im_X8_laysRuns se_X8_laysRuns mc_X8_laysRuns (by decide) (Nat.le_of_ble_eq_true rfl) (sp_X8_laysRuns r2 w hk (fun Lr lf um => ?_))
      refine v_iload_n 36 rfl dX8_ofSample_35 rfl ?_
      refine v_ifN_ne 46 39 dX8_ofSample_36 (by decide) rfl (by omega) (fun h36 => ?_) (fun h36 => ?_)
      · skip
        have ht2 : t ≠ 0 := h36
        refine v_iload_n 47 rfl dX8_ofSample_46 rfl ?_
        refine v_iconst 48 (nI (1)) (by decide) dX8_ofSample_47 rfl ?_
        refine v_icmpN_ne 58 51 dX8_ofSample_48 (by decide) rfl (by omega) (by omega) (fun h48 => ?_) (fun h48 => ?_)
        · skip
          refine v_aload_n 59 rfl dX8_ofSample_58 rfl ?_
          refine v_invV 62 M_X8_bestWeight [] (by decide) rfl (by decide) rfl dX8_ofSample_59 rfl ml_X8_93 im_X8_bestWeight se_X8_bestWeight mc_X8_bestWeight (by decide) (Nat.le_of_ble_eq_true rfl) (sp_X8_bestWeight r2 w hk um ?_)
          refine v_lret rfl dX8_ofSample_62 ?_
          refine qW (hQ I2 Lr kp) ?_
          first
          | (simp [aOf, hin, ek, h36]; done)
          | (subst h48; simp [aOf, hin, ek, show ¬ (nI 1 = nI 0) by decide]; done)
          | (have e3 : t = 2 := (by omega); subst e3; simp [aOf, hin, ek, show ¬ (nI 2 = nI 0) by decide, show ¬ (nI 2 = nI 1) by decide]; done)
        · skip
          refine v_aload_n 52 rfl dX8_ofSample_51 rfl ?_
          refine v_invV 55 M_X8_runsThatCount [] (by decide) rfl (by decide) rfl dX8_ofSample_52 rfl ml_X8_188 im_X8_runsThatCount se_X8_runsThatCount mc_X8_runsThatCount (by decide) (Nat.le_of_ble_eq_true rfl) (sp_X8_runsThatCount r2 w hk um ?_)
          refine v_goto 62 dX8_ofSample_55 (by decide) ?_
          refine v_lret rfl dX8_ofSample_62 ?_
          refine qW (hQ I2 Lr kp) ?_
          first
          | (simp [aOf, hin, ek, h36]; done)
          | (subst h48; simp [aOf, hin, ek, show ¬ (nI 1 = nI 0) by decide]; done)
          | (have e3 : t = 2 := (by omega); subst e3; simp [aOf, hin, ek, show ¬ (nI 2 = nI 0) by decide, show ¬ (nI 2 = nI 1) by decide]; done)
      · skip
        refine v_aload_n 40 rfl dX8_ofSample_39 rfl ?_
        refine v_invV 43 M_X8_total [] (by decide) rfl (by decide) rfl dX8_ofSample_40 rfl ml_X8_154 im_X8_total se_X8_total mc_X8_total (by decide) (Nat.le_of_ble_eq_true rfl) (sp_X8_total r2 w hk um ?_)
        refine v_goto 62 dX8_ofSample_43 (by decide) ?_
        refine v_lret rfl dX8_ofSample_62 ?_
        refine qW (hQ I2 Lr kp) ?_
        first
        | (simp [aOf, hin, ek, h36]; done)
        | (subst h48; simp [aOf, hin, ek, show ¬ (nI 1 = nI 0) by decide]; done)
        | (have e3 : t = 2 := (by omega); subst e3; simp [aOf, hin, ek, show ¬ (nI 2 = nI 0) by decide, show ¬ (nI 2 = nI 1) by decide]; done)
    · skip
      refine v_ldc2 29 ((-2)) dX8_ofSample_26 rfl ko_X8_186 ?_
      refine v_lret rfl dX8_ofSample_29 ?_
      exact qW (hQ I2 L kp) (hi3 h23).symm
  · skip
    refine v_ldc2 16 ((-1)) dX8_ofSample_13 rfl ko_X8_184 ?_
    refine v_lret rfl dX8_ofSample_16 ?_
    exact qW (hQ I2 L kp) (by rw [aOf, if_pos h10])
set_option maxHeartbeats 4000000 in
theorem sp_X8_weightOfNext {x : Cx} {Q : Qt} {I : Iv} {L : Lv} {P : Pv} {f : Vw} (r : RR (I 41) f) (w : Wf f) {k : Nat} (hk : k < f 1) {g : Nat} (um : UM f k L) (hg : g < 3) (hQ : Q (some (.long (lN (nxW f k g)))) I L P) : SP x M_X8_weightOfNext [rfv x 40, .int (nI (k)), .int (nI (g))] I L P Q := by
  have := w.n4
  have := w.n1
  have := w.m6
  have := w.p hk
  
  refine SP.intro [some (rfv x 40), some (.int (nI (k))), some (.int (nI (g))), none, none, none, none, none] pn_X8_weightOfNext (Nat.le_of_ble_eq_true rfl) rfl ?_
  refine v_lconst 1 (lN (0)) rfl dX8_weightOfNext_0 rfl ?_
  refine v_lstore_n 2 [some (rfv x 40), some (.int (nI (k))), some (.int (nI (g))), some (.long (lN (0))), none, none, none, none] dX8_weightOfNext_1 rfl (by decide) rfl ?_
  refine v_aload_n 3 rfl dX8_weightOfNext_2 rfl ?_
  refine v_iload_n 4 rfl dX8_weightOfNext_3 rfl ?_
  refine v_invV 7 M_X8_placesOf [.int (nI (k))] (by decide) rfl (by decide) rfl dX8_weightOfNext_4 rfl ml_X8_65 im_X8_placesOf se_X8_placesOf mc_X8_placesOf (by decide) (Nat.le_of_ble_eq_true rfl) (sp_X8_placesOf r w (by omega) ?_)
  refine v_iconst 8 (nI (1)) (by decide) dX8_weightOfNext_7 rfl ?_
  refine v_isub 9 (nI ((nP f k) - 1)) dX8_weightOfNext_8 rfl (pk_sub (by omega)) ?_
  refine v_istore 11 [some (rfv x 40), some (.int (nI (k))), some (.int (nI (g))), some (.long (lN (0))), none, some (.int (nI ((nP f k) - 1))), none, none] dX8_weightOfNext_9 rfl (by decide) rfl ?_
  refine v_iconst 12 (nI (0)) (by decide) dX8_weightOfNext_11 rfl ?_
  refine v_istore 14 [some (rfv x 40), some (.int (nI (k))), some (.int (nI (g))), some (.long (lN (0))), none, some (.int (nI ((nP f k) - 1))), some (.int (nI (0))), none] dX8_weightOfNext_12 rfl (by decide) rfl ?_
  have lp : ∀ i, i ≤ f 0 → V x M_X8_weightOfNext Q 14 [some (rfv x 40), some (.int (nI (k))), some (.int (nI (g))), some (.long (lN (smN i (fun s => smN (f 0) (fun t => upW f k (nP f k - 1) s * gW f s t * sW f t g))))), none, some (.int (nI (nP f k - 1))), some (.int (nI (i))), none] [] I L P := by
    refine lpU ?_ ?_
    · skip
      refine v_iload 16 rfl dX8_weightOfNext_14 rfl ?_
      refine v_aload_n 17 rfl dX8_weightOfNext_16 rfl ?_
      refine v_get 20 (k := 1) 8 (rfv x 41) (by decide) rfl (by decide) (by decide) dX8_weightOfNext_17 rfl fl_X8_7 rfl ?_
      refine v_iconst 21 (nI (0)) (by decide) dX8_weightOfNext_20 rfl ?_
      refine v_iald 22 (k := 0) (nI (f 0)) (by decide) rfl (by decide) dX8_weightOfNext_21 rfl rfl (by omega) r.st ?_
      refine v_icmpN_ge 85 25 dX8_weightOfNext_22 (by decide) rfl (by omega) (by omega) (fun h22 => ?_) (fun h22 => ?_)
      · skip
        refine v_lload_n 86 rfl dX8_weightOfNext_85 rfl ?_
        refine v_lret rfl dX8_weightOfNext_86 ?_
        exact hQ
      · skip
        exact absurd h22 (by omega)
    · intro i hi ih 
      refine v_iload 16 rfl dX8_weightOfNext_14 rfl ?_
      refine v_aload_n 17 rfl dX8_weightOfNext_16 rfl ?_
      refine v_get 20 (k := 1) 8 (rfv x 41) (by decide) rfl (by decide) (by decide) dX8_weightOfNext_17 rfl fl_X8_7 rfl ?_
      refine v_iconst 21 (nI (0)) (by decide) dX8_weightOfNext_20 rfl ?_
      refine v_iald 22 (k := 0) (nI (f 0)) (by decide) rfl (by decide) dX8_weightOfNext_21 rfl rfl (by omega) r.st ?_
      refine v_icmpN_ge 85 25 dX8_weightOfNext_22 (by decide) rfl (by omega) (by omega) (fun h22 => ?_) (fun h22 => ?_)
      · skip
        exact absurd h22 (by omega)
      · skip
        refine v_iconst 26 (nI (0)) (by decide) dX8_weightOfNext_25 rfl ?_
        refine v_istore 28 [some (rfv x 40), some (.int (nI (k))), some (.int (nI (g))), some (.long (lN (smN i (fun s => smN (f 0) (fun t => upW f k (nP f k - 1) s * gW f s t * sW f t g))))), none, some (.int (nI (nP f k - 1))), some (.int (nI (i))), some (.int (nI (0)))] dX8_weightOfNext_26 rfl (by decide) rfl ?_
        have lq : ∀ j, j ≤ f 0 → V x M_X8_weightOfNext Q 28 [some (rfv x 40), some (.int (nI (k))), some (.int (nI (g))), some (.long (lN (smN i (fun s => smN (f 0) (fun t => upW f k (nP f k - 1) s * gW f s t * sW f t g)) + smN j (fun t => upW f k (nP f k - 1) i * gW f i t * sW f t g)))), none, some (.int (nI (nP f k - 1))), some (.int (nI (i))), some (.int (nI (j)))] [] I L P := by
          refine lpU ?_ ?_
          · skip
            refine v_iload 30 rfl dX8_weightOfNext_28 rfl ?_
            refine v_aload_n 31 rfl dX8_weightOfNext_30 rfl ?_
            refine v_get 34 (k := 1) 8 (rfv x 41) (by decide) rfl (by decide) (by decide) dX8_weightOfNext_31 rfl fl_X8_7 rfl ?_
            refine v_iconst 35 (nI (0)) (by decide) dX8_weightOfNext_34 rfl ?_
            refine v_iald 36 (k := 0) (nI (f 0)) (by decide) rfl (by decide) dX8_weightOfNext_35 rfl rfl (by omega) r.st ?_
            refine v_icmpN_ge 79 39 dX8_weightOfNext_36 (by decide) rfl (by omega) (by omega) (fun h36 => ?_) (fun h36 => ?_)
            · skip
              refine v_iinc 82 [some (rfv x 40), some (.int (nI (k))), some (.int (nI (g))), some (.long (lN (smN i (fun s => smN (f 0) (fun t => upW f k (nP f k - 1) s * gW f s t * sW f t g)) + smN (f 0) (fun t => upW f k (nP f k - 1) i * gW f i t * sW f t g)))), none, some (.int (nI (nP f k - 1))), some (.int (nI (i + 1))), some (.int (nI (f 0)))] (nI (i + 1)) dX8_weightOfNext_79 rfl (by decide) rfl (nI_inc _) rfl ?_
              refine v_goto 14 dX8_weightOfNext_82 (by decide) ?_
              refine v_drop [some (rfv x 40), some (.int (nI (k))), some (.int (nI (g))), some (.long (lN (smN (i + 1) (fun s => smN (f 0) (fun t => upW f k (nP f k - 1) s * gW f s t * sW f t g))))), none, some (.int (nI (nP f k - 1))), some (.int (nI (i + 1))), none] (by simp [lsub, smN_s]) ?_
              exact ih
            · skip
              exact absurd h36 (by omega)
          · intro j hj ih2 
            have := w.g hi hj
            have := w.w hj hg
            refine v_iload 30 rfl dX8_weightOfNext_28 rfl ?_
            refine v_aload_n 31 rfl dX8_weightOfNext_30 rfl ?_
            refine v_get 34 (k := 1) 8 (rfv x 41) (by decide) rfl (by decide) (by decide) dX8_weightOfNext_31 rfl fl_X8_7 rfl ?_
            refine v_iconst 35 (nI (0)) (by decide) dX8_weightOfNext_34 rfl ?_
            refine v_iald 36 (k := 0) (nI (f 0)) (by decide) rfl (by decide) dX8_weightOfNext_35 rfl rfl (by omega) r.st ?_
            refine v_icmpN_ge 79 39 dX8_weightOfNext_36 (by decide) rfl (by omega) (by omega) (fun h36 => ?_) (fun h36 => ?_)
            · skip
              exact absurd h36 (by omega)
            · skip
              refine v_lload_n 40 rfl dX8_weightOfNext_39 rfl ?_
              refine v_aload_n 41 rfl dX8_weightOfNext_40 rfl ?_
              refine v_get 44 (k := 9) 8 (rfv x 46) (by decide) rfl (by decide) (by decide) dX8_weightOfNext_41 rfl fl_X8_25 rfl ?_
              refine v_iconst 45 (nI (4)) (by decide) dX8_weightOfNext_44 rfl ?_
              refine v_iload 47 rfl dX8_weightOfNext_45 rfl ?_
              refine v_imul 48 (nI (4 * (nP f k - 1))) dX8_weightOfNext_47 rfl (pk_mul _ _) ?_
              refine v_iload 50 rfl dX8_weightOfNext_48 rfl ?_
              refine v_iadd 51 (nI ((4 * (nP f k - 1)) + i)) dX8_weightOfNext_50 rfl (nI_add _ _) ?_
              refine v_lald 52 (k := (4 * (nP f k - 1)) + i) (lN (upW f k (nP f k - 1) i)) (by decide) rfl (by decide) dX8_weightOfNext_51 rfl rfl (by omega) (um.1 (nP f k - 1) i _ (by omega) hi rfl) ?_
              refine v_aload_n 53 rfl dX8_weightOfNext_52 rfl ?_
              refine v_iload 55 rfl dX8_weightOfNext_53 rfl ?_
              refine v_iload 57 rfl dX8_weightOfNext_55 rfl ?_
              refine v_invV 60 M_X8_go [.int (nI (i)), .int (nI (j))] (by decide) rfl (by decide) rfl dX8_weightOfNext_57 rfl ml_X8_76 im_X8_go se_X8_go mc_X8_go (by decide) (Nat.le_of_ble_eq_true rfl) (sp_X8_go r w (by omega) (by omega) ?_)
              refine v_i2l 61 (lN (gW f i j)) dX8_weightOfNext_60 rfl (nI_l (by omega)) ?_
              refine v_lmul 62 (lN ((upW f k (nP f k - 1) i) * (gW f i j))) dX8_weightOfNext_61 rfl (lN_mul _ _) ?_
              refine v_aload_n 63 rfl dX8_weightOfNext_62 rfl ?_
              refine v_iload 65 rfl dX8_weightOfNext_63 rfl ?_
              refine v_iload_n 66 rfl dX8_weightOfNext_65 rfl ?_
              refine v_invV 69 M_X8_show [.int (nI (j)), .int (nI (g))] (by decide) rfl (by decide) rfl dX8_weightOfNext_66 rfl ml_X8_73 im_X8_show se_X8_show mc_X8_show (by decide) (Nat.le_of_ble_eq_true rfl) (sp_X8_show r w (by omega) (by omega) ?_)
              refine v_i2l 70 (lN (sW f j g)) dX8_weightOfNext_69 rfl (nI_l (by omega)) ?_
              refine v_lmul 71 (lN (((upW f k (nP f k - 1) i) * (gW f i j)) * (sW f j g))) dX8_weightOfNext_70 rfl (lN_mul _ _) ?_
              refine v_ladd 72 (lN ((smN i (fun s => smN (f 0) (fun t => upW f k (nP f k - 1) s * gW f s t * sW f t g)) + smN j (fun t => upW f k (nP f k - 1) i * gW f i t * sW f t g)) + (((upW f k (nP f k - 1) i) * (gW f i j)) * (sW f j g)))) dX8_weightOfNext_71 rfl (lN_add _ _) ?_
              refine v_lstore_n 73 [some (rfv x 40), some (.int (nI (k))), some (.int (nI (g))), some (.long (lN ((smN i (fun s => smN (f 0) (fun t => upW f k (nP f k - 1) s * gW f s t * sW f t g)) + smN j (fun t => upW f k (nP f k - 1) i * gW f i t * sW f t g)) + (((upW f k (nP f k - 1) i) * (gW f i j)) * (sW f j g))))), none, some (.int (nI (nP f k - 1))), some (.int (nI (i))), some (.int (nI (j)))] dX8_weightOfNext_72 rfl (by decide) rfl ?_
              refine v_iinc 76 [some (rfv x 40), some (.int (nI (k))), some (.int (nI (g))), some (.long (lN ((smN i (fun s => smN (f 0) (fun t => upW f k (nP f k - 1) s * gW f s t * sW f t g)) + smN j (fun t => upW f k (nP f k - 1) i * gW f i t * sW f t g)) + (((upW f k (nP f k - 1) i) * (gW f i j)) * (sW f j g))))), none, some (.int (nI (nP f k - 1))), some (.int (nI (i))), some (.int (nI (j + 1)))] (nI (j + 1)) dX8_weightOfNext_73 rfl (by decide) rfl (nI_inc _) rfl ?_
              refine v_goto 28 dX8_weightOfNext_76 (by decide) ?_
              refine v_drop [some (rfv x 40), some (.int (nI (k))), some (.int (nI (g))), some (.long (lN (smN i (fun s => smN (f 0) (fun t => upW f k (nP f k - 1) s * gW f s t * sW f t g)) + smN (j + 1) (fun t => upW f k (nP f k - 1) i * gW f i t * sW f t g)))), none, some (.int (nI (nP f k - 1))), some (.int (nI (i))), some (.int (nI (j + 1)))] (by simp [lsub, smN_s, Nat.add_assoc]) ?_
              exact ih2
        refine v_drop [some (rfv x 40), some (.int (nI (k))), some (.int (nI (g))), some (.long (lN (smN i (fun s => smN (f 0) (fun t => upW f k (nP f k - 1) s * gW f s t * sW f t g)) + smN 0 (fun t => upW f k (nP f k - 1) i * gW f i t * sW f t g)))), none, some (.int (nI (nP f k - 1))), some (.int (nI (i))), some (.int (nI (0)))] (by simp [lsub, smN, amN, dbW, mxN]) ?_
        exact lq 0 (Nat.zero_le _)
  refine v_drop [some (rfv x 40), some (.int (nI (k))), some (.int (nI (g))), some (.long (lN (smN 0 (fun s => smN (f 0) (fun t => upW f k (nP f k - 1) s * gW f s t * sW f t g))))), none, some (.int (nI (nP f k - 1))), some (.int (nI (0))), none] (by simp [lsub, smN, amN, dbW, mxN]) ?_
  exact lp 0 (Nat.zero_le _)
theorem inr_in3 {g : Int32} (c : inr g (nI 0) (nI 2) = 0) : inb g 3 = 0 := by
  by_cases q : inb g 3 = 0
  · exact q
  · obtain ⟨t, ht, e⟩ := inb_1 (by decide) q
    subst e
    exact absurd c ((show ∀ t, t < 3 → inr (nI t) (nI 0) (nI 2) ≠ 0 by decide +kernel) t ht)
set_option maxHeartbeats 4000000 in
theorem sp_X8_next {x : Cx} {Q : Qt} {I : Iv} {L : Lv} {P : Pv} {f : Vw} (r : RR (I 41) f) (w : Wf f) {z g : Int32} (hQ : ∀ I1 L1, Kp I I1 → Q (some (.int (aNext f z g))) I1 L1 P) : SP x M_X8_next [rfv x 40, .int (z), .int (g)] I L P Q := by
  have := w.n4
  have := w.n1
  have := w.m6
  
  refine SP.intro [some (rfv x 40), some (.int (z)), some (.int (g)), none, none] pn_X8_next (Nat.le_of_ble_eq_true rfl) rfl ?_
  refine v_aload_n 1 rfl dX8_next_0 rfl ?_
  refine v_iconst 2 (nI (0)) (by decide) dX8_next_1 rfl ?_
  refine v_putI 5 (k := 0) 8 .int (by decide) rfl (by decide) (by decide) rfl (by decide +kernel) rfl rfl (fun _ _ => rfl) dX8_next_2 rfl fl_X8_50 (fun I2 e2 => ?_)
  have r2 : RR (I2 41) f := by rw [up2_row e2 (by omega)]; exact r
  have kp : Kp I I2 := fun a q hl => up2_off e2 (by unfold live at hl; omega)
  refine v_aload_n 6 rfl dX8_next_5 rfl ?_
  refine v_iload_n 7 rfl dX8_next_6 rfl ?_
  refine v_invV 10 M_X8_isSample [.int (z)] (by decide) rfl (by decide) rfl dX8_next_7 rfl ml_X8_140 im_X8_isSample se_X8_isSample mc_X8_isSample (by decide) (Nat.le_of_ble_eq_true rfl) (sp_X8_isSample r2 w ?_)
  refine v_ifN_eq 22 13 dX8_next_10 (by decide) rfl (by have := inb_lt z (f 1); omega) (fun h10 => ?_) (fun h10 => ?_)
  · skip
    refine v_iconst 23 ((-1)) (by decide) dX8_next_22 rfl ?_
    refine v_iret rfl dX8_next_23 ?_
    exact qZ (hQ I2 L kp) (by rw [aNext, if_pos (Or.inl h10)])
  · skip
    obtain ⟨k, hk, ez⟩ := inb_1 (by omega) h10
    subst ez
    have hin := inb_in hk (by have := w.m6; omega)
    have := w.p hk
    have ek : ix (nI k) = k := ix_n (by omega)
    have hT := totW_le w hk
    have hbl := bestW_lt w hk
    have hcl := cntW_le w hk
    have hnx := nxT_le w hk
    have hnx2 : 0 + nxW f k 0 + nxW f k 1 + nxW f k 2 < 576460752303423488 := nxT_le w hk
    have hnx3 : nxT f k = nxW f k 0 + nxW f k 1 + nxW f k 2 := by show 0 + nxW f k 0 + nxW f k 1 + nxW f k 2 = _; omega
    refine v_iload_n 14 rfl dX8_next_13 rfl ?_
    refine v_iconst 15 (nI (0)) (by decide) dX8_next_14 rfl ?_
    refine v_iconst 16 (nI (2)) (by decide) dX8_next_15 rfl ?_
    refine v_invT 19 M_X8_in [.int (g), .int (nI (0)), .int (nI (2))] dX8_next_16 rfl ml_X8_58 sm_X8_in mc_X8_in (by decide) (Nat.le_of_ble_eq_true rfl) (sp_X8_in ?_)
    refine v_ifN_ne 24 22 dX8_next_19 (by decide) rfl (by have := inr_lt g (nI 0) (nI 2); omega) (fun h19 => ?_) (fun h19 => ?_)
    · skip
      obtain ⟨t, ht, es⟩ := inr_3 h19
      subst es
      have hgt := inb_in ht (by decide)
      have et : ix (nI t) = t := ix_n (by omega)
      have hnw := nxW_le w hk ht
      refine v_aload_n 25 rfl dX8_next_24 rfl ?_
      refine v_iload_n 26 rfl dX8_next_25 rfl ?_
      refine v_invV 29 M_X8_laysRuns [.int (nI (k))] (by decide) rfl (by decide) rfl dX8_next_26 rfl ml_X8_151 im_X8_laysRuns se_X8_laysRuns mc_X8_laysRuns (by decide) (Nat.le_of_ble_eq_true rfl) (sp_X8_laysRuns r2 w hk (fun Lr lf um => ?_))
      refine v_aload_n 30 rfl dX8_next_29 rfl ?_
      refine v_iload_n 31 rfl dX8_next_30 rfl ?_
      refine v_iconst 32 (nI (0)) (by decide) dX8_next_31 rfl ?_
      refine v_invV 35 M_X8_weightOfNext [.int (nI (k)), .int (nI (0))] (by decide) rfl (by decide) rfl dX8_next_32 rfl ml_X8_203 im_X8_weightOfNext se_X8_weightOfNext mc_X8_weightOfNext (by decide) (Nat.le_of_ble_eq_true rfl) (sp_X8_weightOfNext r2 w hk um (by omega) ?_)
      refine v_aload_n 36 rfl dX8_next_35 rfl ?_
      refine v_iload_n 37 rfl dX8_next_36 rfl ?_
      refine v_iconst 38 (nI (1)) (by decide) dX8_next_37 rfl ?_
      refine v_invV 41 M_X8_weightOfNext [.int (nI (k)), .int (nI (1))] (by decide) rfl (by decide) rfl dX8_next_38 rfl ml_X8_203 im_X8_weightOfNext se_X8_weightOfNext mc_X8_weightOfNext (by decide) (Nat.le_of_ble_eq_true rfl) (sp_X8_weightOfNext r2 w hk um (by omega) ?_)
      refine v_ladd 42 (lN ((nxW f k 0) + (nxW f k 1))) dX8_next_41 rfl (lN_add _ _) ?_
      refine v_aload_n 43 rfl dX8_next_42 rfl ?_
      refine v_iload_n 44 rfl dX8_next_43 rfl ?_
      refine v_iconst 45 (nI (2)) (by decide) dX8_next_44 rfl ?_
      refine v_invV 48 M_X8_weightOfNext [.int (nI (k)), .int (nI (2))] (by decide) rfl (by decide) rfl dX8_next_45 rfl ml_X8_203 im_X8_weightOfNext se_X8_weightOfNext mc_X8_weightOfNext (by decide) (Nat.le_of_ble_eq_true rfl) (sp_X8_weightOfNext r2 w hk um (by omega) ?_)
      refine v_ladd 49 (lN (((nxW f k 0) + (nxW f k 1)) + (nxW f k 2))) dX8_next_48 rfl (lN_add _ _) ?_
      refine v_lstore_n 50 [some (rfv x 40), some (.int (nI (k))), some (.int (nI (t))), some (.long (lN (((nxW f k 0) + (nxW f k 1)) + (nxW f k 2)))), none] dX8_next_49 rfl (by decide) rfl ?_
      refine v_lload_n 51 rfl dX8_next_50 rfl ?_
      refine v_lconst 52 (lN (0)) rfl dX8_next_51 rfl ?_
      refine v_lcmp_ne 53 61 56 dX8_next_52 rfl dX8_next_53 (by decide) rfl (fun h52 => ?_) (fun h52 => ?_)
      · skip
        have h0 : 0 < nxT f k := by rw [hnx3]; exact Nat.pos_of_ne_zero (fun q9 => h52 ((pk_lEQ (by omega) (by omega)).mpr q9))
        refine v_aload_n 62 rfl dX8_next_61 rfl ?_
        refine v_iload_n 63 rfl dX8_next_62 rfl ?_
        refine v_iload_n 64 rfl dX8_next_63 rfl ?_
        refine v_invV 67 M_X8_weightOfNext [.int (nI (k)), .int (nI (t))] (by decide) rfl (by decide) rfl dX8_next_64 rfl ml_X8_203 im_X8_weightOfNext se_X8_weightOfNext mc_X8_weightOfNext (by decide) (Nat.le_of_ble_eq_true rfl) (sp_X8_weightOfNext r2 w hk um (by omega) ?_)
        refine v_lload_n 68 rfl dX8_next_67 rfl ?_
        refine v_invT 71 M_X8_shareOf [.long (lN (nxW f k t)), .long (lN (((nxW f k 0) + (nxW f k 1)) + (nxW f k 2)))] dX8_next_68 rfl ml_X8_143 sm_X8_shareOf mc_X8_shareOf (by decide) (Nat.le_of_ble_eq_true rfl) (sp_X8_shareOf (by omega) (by omega) (by omega) ?_)
        refine v_iret rfl dX8_next_71 ?_
        exact qZ (hQ I2 Lr kp) (by simp [aNext, hin, hgt, ek, et, h0, hnx3]; try omega)
      · skip
        have h0 : ¬ 0 < nxT f k := by have := (pk_lEQ (by omega) (by omega)).mp h52; omega
        refine v_bipush 58 ((-5)) (by decide) dX8_next_56 rfl ?_
        refine v_goto 71 dX8_next_58 (by decide) ?_
        refine v_iret rfl dX8_next_71 ?_
        exact qZ (hQ I2 Lr kp) (by simp [aNext, hin, hgt, ek, et, h0, hnx3]; try omega)
    · skip
      refine v_iconst 23 ((-1)) (by decide) dX8_next_22 rfl ?_
      refine v_iret rfl dX8_next_23 ?_
      exact qZ (hQ I2 L kp) (by rw [aNext, if_pos (Or.inr ?_)]; exact inr_in3 h19)
