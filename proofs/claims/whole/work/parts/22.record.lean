set_option maxHeartbeats 4000000 in
theorem sp_X1_record {x : Cx} {Q : Qt} {I : Iv} {L : Lv} {P : Pv} {H : Hs} {hn : Nat} {f : Vw} (hc : HC H hn I P) (c : RC 1 f I) (w : Wf f) (hQ : ∀ (I1 : Iv) (P1 : Pv), (∀ a, (a < 9 ∨ 26 < a) → I1 a = I a) → HC (recH H hn f) (recN hn) I1 P1 → Q none I1 L P1) : SP x M_X1_record [rfv x 9, rfv x 1] I L P Q := by
  have hn4 := hc.1
  refine SP.intro [some (rfv x 9), some (rfv x 1)] pn_X1_record (Nat.le_of_ble_eq_true rfl) rfl ?_
  refine v_aload_n 1 rfl dX1_record_0 rfl ?_
  refine v_get 4 (k := 1) 1 (.int (nI (hn))) (by decide) rfl (by decide) (by decide) dX1_record_1 rfl fl_X1_18 (congrArg Value.int hc.2.1) ?_
  refine v_iconst 5 (nI (4)) (by decide) dX1_record_4 rfl ?_
  refine v_icmpN_ne 12 8 dX1_record_5 (by decide) rfl (by omega) (by omega) (fun h5 => ?_) (fun h5 => ?_)
  · skip
    have hM : isM (P hn) := hc.2.2.1 hn (by omega)
    rcases hM with eM | eM | eM | eM
    · skip
      refine v_aload_n 13 rfl dX1_record_12 rfl ?_
      refine v_get 16 (k := 0) 1 (rfv x 10) (by decide) rfl (by decide) (by decide) dX1_record_13 rfl fl_X1_11 rfl ?_
      refine v_aload_n 17 rfl dX1_record_16 rfl ?_
      refine v_get 20 (k := 1) 1 (.int (nI (hn))) (by decide) rfl (by decide) (by decide) dX1_record_17 rfl fl_X1_18 (congrArg Value.int hc.2.1) ?_
      refine v_aald 21 (k := hn) 11 (by decide) rfl (by decide) dX1_record_20 rfl rfl (by omega) eM ?_
      refine v_aload_n 22 rfl dX1_record_21 rfl ?_
      refine v_invV 25 M_X3_copyFrom [rfv x 1] (by decide) rfl (by decide) rfl dX1_record_22 rfl ml_X1_25 im_X3_copyFrom se_X3_copyFrom mc_X3_copyFrom (by decide) (Nat.le_of_ble_eq_true rfl) (sp_X3_copyFrom_11_1 (fun Ic fc cc => ?_))
      refine v_aload_n 26 rfl dX1_record_25 rfl ?_
      refine v_dup 27 dX1_record_26 rfl rfl ?_
      refine v_get 30 (k := 1) 1 (.int (nI (hn))) (by decide) rfl (by decide) (by decide) dX1_record_27 rfl fl_X1_18 (congrArg Value.int ((congrFun (fc 9 (by decide)) 1).trans hc.2.1)) ?_
      refine v_iconst 31 (nI (1)) (by decide) dX1_record_30 rfl ?_
      refine v_iadd 32 (nI (hn + 1)) dX1_record_31 rfl (nI_add _ _) ?_
      refine v_putI 35 (k := 1) 1 .int (by decide) rfl (by decide) (by decide) rfl (by decide +kernel) rfl rfl (fun _ _ => rfl) dX1_record_32 rfl fl_X1_18 (fun I32 e32 => ?_)
      refine v_vret rfl dX1_record_35 ?_
      refine hQ I32 P (fun a ha => ?_) (HC_recA hc w c h5 (by rw [eM]; exact fc) (by rw [eM]; exact cc) e32)
      rw [up2_row e32 (by omega), fc a (by omega)]
    · skip
      refine v_aload_n 13 rfl dX1_record_12 rfl ?_
      refine v_get 16 (k := 0) 1 (rfv x 10) (by decide) rfl (by decide) (by decide) dX1_record_13 rfl fl_X1_11 rfl ?_
      refine v_aload_n 17 rfl dX1_record_16 rfl ?_
      refine v_get 20 (k := 1) 1 (.int (nI (hn))) (by decide) rfl (by decide) (by decide) dX1_record_17 rfl fl_X1_18 (congrArg Value.int hc.2.1) ?_
      refine v_aald 21 (k := hn) 15 (by decide) rfl (by decide) dX1_record_20 rfl rfl (by omega) eM ?_
      refine v_aload_n 22 rfl dX1_record_21 rfl ?_
      refine v_invV 25 M_X3_copyFrom [rfv x 1] (by decide) rfl (by decide) rfl dX1_record_22 rfl ml_X1_25 im_X3_copyFrom se_X3_copyFrom mc_X3_copyFrom (by decide) (Nat.le_of_ble_eq_true rfl) (sp_X3_copyFrom_15_1 (fun Ic fc cc => ?_))
      refine v_aload_n 26 rfl dX1_record_25 rfl ?_
      refine v_dup 27 dX1_record_26 rfl rfl ?_
      refine v_get 30 (k := 1) 1 (.int (nI (hn))) (by decide) rfl (by decide) (by decide) dX1_record_27 rfl fl_X1_18 (congrArg Value.int ((congrFun (fc 9 (by decide)) 1).trans hc.2.1)) ?_
      refine v_iconst 31 (nI (1)) (by decide) dX1_record_30 rfl ?_
      refine v_iadd 32 (nI (hn + 1)) dX1_record_31 rfl (nI_add _ _) ?_
      refine v_putI 35 (k := 1) 1 .int (by decide) rfl (by decide) (by decide) rfl (by decide +kernel) rfl rfl (fun _ _ => rfl) dX1_record_32 rfl fl_X1_18 (fun I32 e32 => ?_)
      refine v_vret rfl dX1_record_35 ?_
      refine hQ I32 P (fun a ha => ?_) (HC_recA hc w c h5 (by rw [eM]; exact fc) (by rw [eM]; exact cc) e32)
      rw [up2_row e32 (by omega), fc a (by omega)]
    · skip
      refine v_aload_n 13 rfl dX1_record_12 rfl ?_
      refine v_get 16 (k := 0) 1 (rfv x 10) (by decide) rfl (by decide) (by decide) dX1_record_13 rfl fl_X1_11 rfl ?_
      refine v_aload_n 17 rfl dX1_record_16 rfl ?_
      refine v_get 20 (k := 1) 1 (.int (nI (hn))) (by decide) rfl (by decide) (by decide) dX1_record_17 rfl fl_X1_18 (congrArg Value.int hc.2.1) ?_
      refine v_aald 21 (k := hn) 19 (by decide) rfl (by decide) dX1_record_20 rfl rfl (by omega) eM ?_
      refine v_aload_n 22 rfl dX1_record_21 rfl ?_
      refine v_invV 25 M_X3_copyFrom [rfv x 1] (by decide) rfl (by decide) rfl dX1_record_22 rfl ml_X1_25 im_X3_copyFrom se_X3_copyFrom mc_X3_copyFrom (by decide) (Nat.le_of_ble_eq_true rfl) (sp_X3_copyFrom_19_1 (fun Ic fc cc => ?_))
      refine v_aload_n 26 rfl dX1_record_25 rfl ?_
      refine v_dup 27 dX1_record_26 rfl rfl ?_
      refine v_get 30 (k := 1) 1 (.int (nI (hn))) (by decide) rfl (by decide) (by decide) dX1_record_27 rfl fl_X1_18 (congrArg Value.int ((congrFun (fc 9 (by decide)) 1).trans hc.2.1)) ?_
      refine v_iconst 31 (nI (1)) (by decide) dX1_record_30 rfl ?_
      refine v_iadd 32 (nI (hn + 1)) dX1_record_31 rfl (nI_add _ _) ?_
      refine v_putI 35 (k := 1) 1 .int (by decide) rfl (by decide) (by decide) rfl (by decide +kernel) rfl rfl (fun _ _ => rfl) dX1_record_32 rfl fl_X1_18 (fun I32 e32 => ?_)
      refine v_vret rfl dX1_record_35 ?_
      refine hQ I32 P (fun a ha => ?_) (HC_recA hc w c h5 (by rw [eM]; exact fc) (by rw [eM]; exact cc) e32)
      rw [up2_row e32 (by omega), fc a (by omega)]
    · skip
      refine v_aload_n 13 rfl dX1_record_12 rfl ?_
      refine v_get 16 (k := 0) 1 (rfv x 10) (by decide) rfl (by decide) (by decide) dX1_record_13 rfl fl_X1_11 rfl ?_
      refine v_aload_n 17 rfl dX1_record_16 rfl ?_
      refine v_get 20 (k := 1) 1 (.int (nI (hn))) (by decide) rfl (by decide) (by decide) dX1_record_17 rfl fl_X1_18 (congrArg Value.int hc.2.1) ?_
      refine v_aald 21 (k := hn) 23 (by decide) rfl (by decide) dX1_record_20 rfl rfl (by omega) eM ?_
      refine v_aload_n 22 rfl dX1_record_21 rfl ?_
      refine v_invV 25 M_X3_copyFrom [rfv x 1] (by decide) rfl (by decide) rfl dX1_record_22 rfl ml_X1_25 im_X3_copyFrom se_X3_copyFrom mc_X3_copyFrom (by decide) (Nat.le_of_ble_eq_true rfl) (sp_X3_copyFrom_23_1 (fun Ic fc cc => ?_))
      refine v_aload_n 26 rfl dX1_record_25 rfl ?_
      refine v_dup 27 dX1_record_26 rfl rfl ?_
      refine v_get 30 (k := 1) 1 (.int (nI (hn))) (by decide) rfl (by decide) (by decide) dX1_record_27 rfl fl_X1_18 (congrArg Value.int ((congrFun (fc 9 (by decide)) 1).trans hc.2.1)) ?_
      refine v_iconst 31 (nI (1)) (by decide) dX1_record_30 rfl ?_
      refine v_iadd 32 (nI (hn + 1)) dX1_record_31 rfl (nI_add _ _) ?_
      refine v_putI 35 (k := 1) 1 .int (by decide) rfl (by decide) (by decide) rfl (by decide +kernel) rfl rfl (fun _ _ => rfl) dX1_record_32 rfl fl_X1_18 (fun I32 e32 => ?_)
      refine v_vret rfl dX1_record_35 ?_
      refine hQ I32 P (fun a ha => ?_) (HC_recA hc w c h5 (by rw [eM]; exact fc) (by rw [eM]; exact cc) e32)
      rw [up2_row e32 (by omega), fc a (by omega)]
  · skip
    subst h5
    have hc4 : HC H 4 I P := hc
    refine v_aload_n 9 rfl dX1_record_8 rfl ?_
    refine v_invV 12 M_X1_dropOldest [] (by decide) rfl (by decide) rfl dX1_record_9 rfl ml_X1_22 im_X1_dropOldest se_X1_dropOldest mc_X1_dropOldest (by decide) (Nat.le_of_ble_eq_true rfl) (sp_X1_dropOldest (f := f) hc4 (fun Id Pd ed pd1 pd2 => ?_))
    have hM : isM (P 0) := hc.2.2.1 0 (by omega)
    rcases hM with eM | eM | eM | eM
    · skip
      refine v_aload_n 13 rfl dX1_record_12 rfl ?_
      refine v_get 16 (k := 0) 1 (rfv x 10) (by decide) rfl (by decide) (by decide) dX1_record_13 rfl fl_X1_11 rfl ?_
      refine v_aload_n 17 rfl dX1_record_16 rfl ?_
      refine v_get 20 (k := 1) 1 (.int (nI (3))) (by decide) rfl (by decide) (by decide) dX1_record_17 rfl fl_X1_18 (congrArg Value.int (up2_at ed)) ?_
      refine v_aald 21 (k := 3) 11 (by decide) rfl (by decide) dX1_record_20 rfl rfl (by omega) (pd2.trans eM) ?_
      refine v_aload_n 22 rfl dX1_record_21 rfl ?_
      refine v_invV 25 M_X3_copyFrom [rfv x 1] (by decide) rfl (by decide) rfl dX1_record_22 rfl ml_X1_25 im_X3_copyFrom se_X3_copyFrom mc_X3_copyFrom (by decide) (Nat.le_of_ble_eq_true rfl) (sp_X3_copyFrom_11_1 (fun Ic fc cc => ?_))
      refine v_aload_n 26 rfl dX1_record_25 rfl ?_
      refine v_dup 27 dX1_record_26 rfl rfl ?_
      refine v_get 30 (k := 1) 1 (.int (nI (3))) (by decide) rfl (by decide) (by decide) dX1_record_27 rfl fl_X1_18 (congrArg Value.int ((congrFun (fc 9 (by decide)) 1).trans (up2_at ed))) ?_
      refine v_iconst 31 (nI (1)) (by decide) dX1_record_30 rfl ?_
      refine v_iadd 32 (nI (3 + 1)) dX1_record_31 rfl (nI_add _ _) ?_
      refine v_putI 35 (k := 1) 1 .int (by decide) rfl (by decide) (by decide) rfl (by decide +kernel) rfl rfl (fun _ _ => rfl) dX1_record_32 rfl fl_X1_18 (fun I32 e32 => ?_)
      refine v_vret rfl dX1_record_35 ?_
      refine hQ I32 Pd (fun a ha => ?_) (HC_recB hc w c ed pd1 pd2 (by rw [eM]; exact fc) (by rw [eM]; exact cc) e32)
      rw [up2_row e32 (by omega), fc a (by omega), up2_row ed (by omega)]
    · skip
      refine v_aload_n 13 rfl dX1_record_12 rfl ?_
      refine v_get 16 (k := 0) 1 (rfv x 10) (by decide) rfl (by decide) (by decide) dX1_record_13 rfl fl_X1_11 rfl ?_
      refine v_aload_n 17 rfl dX1_record_16 rfl ?_
      refine v_get 20 (k := 1) 1 (.int (nI (3))) (by decide) rfl (by decide) (by decide) dX1_record_17 rfl fl_X1_18 (congrArg Value.int (up2_at ed)) ?_
      refine v_aald 21 (k := 3) 15 (by decide) rfl (by decide) dX1_record_20 rfl rfl (by omega) (pd2.trans eM) ?_
      refine v_aload_n 22 rfl dX1_record_21 rfl ?_
      refine v_invV 25 M_X3_copyFrom [rfv x 1] (by decide) rfl (by decide) rfl dX1_record_22 rfl ml_X1_25 im_X3_copyFrom se_X3_copyFrom mc_X3_copyFrom (by decide) (Nat.le_of_ble_eq_true rfl) (sp_X3_copyFrom_15_1 (fun Ic fc cc => ?_))
      refine v_aload_n 26 rfl dX1_record_25 rfl ?_
      refine v_dup 27 dX1_record_26 rfl rfl ?_
      refine v_get 30 (k := 1) 1 (.int (nI (3))) (by decide) rfl (by decide) (by decide) dX1_record_27 rfl fl_X1_18 (congrArg Value.int ((congrFun (fc 9 (by decide)) 1).trans (up2_at ed))) ?_
      refine v_iconst 31 (nI (1)) (by decide) dX1_record_30 rfl ?_
      refine v_iadd 32 (nI (3 + 1)) dX1_record_31 rfl (nI_add _ _) ?_
      refine v_putI 35 (k := 1) 1 .int (by decide) rfl (by decide) (by decide) rfl (by decide +kernel) rfl rfl (fun _ _ => rfl) dX1_record_32 rfl fl_X1_18 (fun I32 e32 => ?_)
      refine v_vret rfl dX1_record_35 ?_
      refine hQ I32 Pd (fun a ha => ?_) (HC_recB hc w c ed pd1 pd2 (by rw [eM]; exact fc) (by rw [eM]; exact cc) e32)
      rw [up2_row e32 (by omega), fc a (by omega), up2_row ed (by omega)]
    · skip
      refine v_aload_n 13 rfl dX1_record_12 rfl ?_
      refine v_get 16 (k := 0) 1 (rfv x 10) (by decide) rfl (by decide) (by decide) dX1_record_13 rfl fl_X1_11 rfl ?_
      refine v_aload_n 17 rfl dX1_record_16 rfl ?_
      refine v_get 20 (k := 1) 1 (.int (nI (3))) (by decide) rfl (by decide) (by decide) dX1_record_17 rfl fl_X1_18 (congrArg Value.int (up2_at ed)) ?_
      refine v_aald 21 (k := 3) 19 (by decide) rfl (by decide) dX1_record_20 rfl rfl (by omega) (pd2.trans eM) ?_
      refine v_aload_n 22 rfl dX1_record_21 rfl ?_
      refine v_invV 25 M_X3_copyFrom [rfv x 1] (by decide) rfl (by decide) rfl dX1_record_22 rfl ml_X1_25 im_X3_copyFrom se_X3_copyFrom mc_X3_copyFrom (by decide) (Nat.le_of_ble_eq_true rfl) (sp_X3_copyFrom_19_1 (fun Ic fc cc => ?_))
      refine v_aload_n 26 rfl dX1_record_25 rfl ?_
      refine v_dup 27 dX1_record_26 rfl rfl ?_
      refine v_get 30 (k := 1) 1 (.int (nI (3))) (by decide) rfl (by decide) (by decide) dX1_record_27 rfl fl_X1_18 (congrArg Value.int ((congrFun (fc 9 (by decide)) 1).trans (up2_at ed))) ?_
      refine v_iconst 31 (nI (1)) (by decide) dX1_record_30 rfl ?_
      refine v_iadd 32 (nI (3 + 1)) dX1_record_31 rfl (nI_add _ _) ?_
      refine v_putI 35 (k := 1) 1 .int (by decide) rfl (by decide) (by decide) rfl (by decide +kernel) rfl rfl (fun _ _ => rfl) dX1_record_32 rfl fl_X1_18 (fun I32 e32 => ?_)
      refine v_vret rfl dX1_record_35 ?_
      refine hQ I32 Pd (fun a ha => ?_) (HC_recB hc w c ed pd1 pd2 (by rw [eM]; exact fc) (by rw [eM]; exact cc) e32)
      rw [up2_row e32 (by omega), fc a (by omega), up2_row ed (by omega)]
    · skip
      refine v_aload_n 13 rfl dX1_record_12 rfl ?_
      refine v_get 16 (k := 0) 1 (rfv x 10) (by decide) rfl (by decide) (by decide) dX1_record_13 rfl fl_X1_11 rfl ?_
      refine v_aload_n 17 rfl dX1_record_16 rfl ?_
      refine v_get 20 (k := 1) 1 (.int (nI (3))) (by decide) rfl (by decide) (by decide) dX1_record_17 rfl fl_X1_18 (congrArg Value.int (up2_at ed)) ?_
      refine v_aald 21 (k := 3) 23 (by decide) rfl (by decide) dX1_record_20 rfl rfl (by omega) (pd2.trans eM) ?_
      refine v_aload_n 22 rfl dX1_record_21 rfl ?_
      refine v_invV 25 M_X3_copyFrom [rfv x 1] (by decide) rfl (by decide) rfl dX1_record_22 rfl ml_X1_25 im_X3_copyFrom se_X3_copyFrom mc_X3_copyFrom (by decide) (Nat.le_of_ble_eq_true rfl) (sp_X3_copyFrom_23_1 (fun Ic fc cc => ?_))
      refine v_aload_n 26 rfl dX1_record_25 rfl ?_
      refine v_dup 27 dX1_record_26 rfl rfl ?_
      refine v_get 30 (k := 1) 1 (.int (nI (3))) (by decide) rfl (by decide) (by decide) dX1_record_27 rfl fl_X1_18 (congrArg Value.int ((congrFun (fc 9 (by decide)) 1).trans (up2_at ed))) ?_
      refine v_iconst 31 (nI (1)) (by decide) dX1_record_30 rfl ?_
      refine v_iadd 32 (nI (3 + 1)) dX1_record_31 rfl (nI_add _ _) ?_
      refine v_putI 35 (k := 1) 1 .int (by decide) rfl (by decide) (by decide) rfl (by decide +kernel) rfl rfl (fun _ _ => rfl) dX1_record_32 rfl fl_X1_18 (fun I32 e32 => ?_)
      refine v_vret rfl dX1_record_35 ?_
      refine hQ I32 Pd (fun a ha => ?_) (HC_recB hc w c ed pd1 pd2 (by rw [eM]; exact fc) (by rw [eM]; exact cc) e32)
      rw [up2_row e32 (by omega), fc a (by omega), up2_row ed (by omega)]
set_option maxHeartbeats 4000000 in
theorem sp_X1_takeLatest {x : Cx} {Q : Qt} {I : Iv} {L : Lv} {P : Pv} {H : Hs} {hn : Nat} (hc : HC H (hn + 1) I P) (hw : Wf (H hn)) (hQ : ∀ (I1 : Iv), (∀ a, (4 < a ∧ a ≠ 9) ∨ a < 1 → I1 a = I a) → HC H hn I1 P → RC 1 (H hn) I1 → Q none I1 L P) : SP x M_X1_takeLatest [rfv x 9, rfv x 1] I L P Q := by
  have hn4 := hc.1
  have hM : isM (P hn) := hc.2.2.1 hn (by omega)
  rcases hM with eM | eM | eM | eM
  · skip
    refine SP.intro [some (rfv x 9), some (rfv x 1)] pn_X1_takeLatest (Nat.le_of_ble_eq_true rfl) rfl ?_
    refine v_aload_n 1 rfl dX1_takeLatest_0 rfl ?_
    refine v_dup 2 dX1_takeLatest_1 rfl rfl ?_
    refine v_get 5 (k := 1) 1 (.int (nI (hn + 1))) (by decide) rfl (by decide) (by decide) dX1_takeLatest_2 rfl fl_X1_18 (congrArg Value.int hc.2.1) ?_
    refine v_iconst 6 (nI (1)) (by decide) dX1_takeLatest_5 rfl ?_
    refine v_isub 7 (nI (hn)) dX1_takeLatest_6 rfl (by rw [show nI (hn + 1) - nI 1 = nI hn from nI_pred hn]) ?_
    refine v_putI 10 (k := 1) 1 .int (by decide) rfl (by decide) (by decide) rfl (by decide +kernel) rfl rfl (fun _ _ => rfl) dX1_takeLatest_7 rfl fl_X1_18 (fun I7 e7 => ?_)
    refine v_aload_n 11 rfl dX1_takeLatest_10 rfl ?_
    refine v_aload_n 12 rfl dX1_takeLatest_11 rfl ?_
    refine v_get 15 (k := 0) 1 (rfv x 10) (by decide) rfl (by decide) (by decide) dX1_takeLatest_12 rfl fl_X1_11 rfl ?_
    refine v_aload_n 16 rfl dX1_takeLatest_15 rfl ?_
    refine v_get 19 (k := 1) 1 (.int (nI (hn))) (by decide) rfl (by decide) (by decide) dX1_takeLatest_16 rfl fl_X1_18 (congrArg Value.int (up2_at e7)) ?_
    refine v_aald 20 (k := hn) 11 (by decide) rfl (by decide) dX1_takeLatest_19 rfl rfl (by omega) eM ?_
    refine v_invV 23 M_X3_copyFrom [rfv x 11] (by decide) rfl (by decide) rfl dX1_takeLatest_20 rfl ml_X1_25 im_X3_copyFrom se_X3_copyFrom mc_X3_copyFrom (by decide) (Nat.le_of_ble_eq_true rfl) (sp_X3_copyFrom_1_11 (fun Ic fc cc => ?_))
    refine v_vret rfl dX1_takeLatest_23 ?_
    refine hQ Ic (fun a ha => ?_) (HC_take hc e7 fc) (cc.rc (f := H hn) ?_ hw)
    · rw [fc a (by omega), up2_row e7 (by omega)]
    · have h9 := hc.2.2.2.2 hn (by omega)
      rw [eM] at h9
      exact h9.same (fun a q1 q2 => up2_row e7 (by omega))
  · skip
    refine SP.intro [some (rfv x 9), some (rfv x 1)] pn_X1_takeLatest (Nat.le_of_ble_eq_true rfl) rfl ?_
    refine v_aload_n 1 rfl dX1_takeLatest_0 rfl ?_
    refine v_dup 2 dX1_takeLatest_1 rfl rfl ?_
    refine v_get 5 (k := 1) 1 (.int (nI (hn + 1))) (by decide) rfl (by decide) (by decide) dX1_takeLatest_2 rfl fl_X1_18 (congrArg Value.int hc.2.1) ?_
    refine v_iconst 6 (nI (1)) (by decide) dX1_takeLatest_5 rfl ?_
    refine v_isub 7 (nI (hn)) dX1_takeLatest_6 rfl (by rw [show nI (hn + 1) - nI 1 = nI hn from nI_pred hn]) ?_
    refine v_putI 10 (k := 1) 1 .int (by decide) rfl (by decide) (by decide) rfl (by decide +kernel) rfl rfl (fun _ _ => rfl) dX1_takeLatest_7 rfl fl_X1_18 (fun I7 e7 => ?_)
    refine v_aload_n 11 rfl dX1_takeLatest_10 rfl ?_
    refine v_aload_n 12 rfl dX1_takeLatest_11 rfl ?_
    refine v_get 15 (k := 0) 1 (rfv x 10) (by decide) rfl (by decide) (by decide) dX1_takeLatest_12 rfl fl_X1_11 rfl ?_
    refine v_aload_n 16 rfl dX1_takeLatest_15 rfl ?_
    refine v_get 19 (k := 1) 1 (.int (nI (hn))) (by decide) rfl (by decide) (by decide) dX1_takeLatest_16 rfl fl_X1_18 (congrArg Value.int (up2_at e7)) ?_
    refine v_aald 20 (k := hn) 15 (by decide) rfl (by decide) dX1_takeLatest_19 rfl rfl (by omega) eM ?_
    refine v_invV 23 M_X3_copyFrom [rfv x 15] (by decide) rfl (by decide) rfl dX1_takeLatest_20 rfl ml_X1_25 im_X3_copyFrom se_X3_copyFrom mc_X3_copyFrom (by decide) (Nat.le_of_ble_eq_true rfl) (sp_X3_copyFrom_1_15 (fun Ic fc cc => ?_))
    refine v_vret rfl dX1_takeLatest_23 ?_
    refine hQ Ic (fun a ha => ?_) (HC_take hc e7 fc) (cc.rc (f := H hn) ?_ hw)
    · rw [fc a (by omega), up2_row e7 (by omega)]
    · have h9 := hc.2.2.2.2 hn (by omega)
      rw [eM] at h9
      exact h9.same (fun a q1 q2 => up2_row e7 (by omega))
  · skip
    refine SP.intro [some (rfv x 9), some (rfv x 1)] pn_X1_takeLatest (Nat.le_of_ble_eq_true rfl) rfl ?_
    refine v_aload_n 1 rfl dX1_takeLatest_0 rfl ?_
    refine v_dup 2 dX1_takeLatest_1 rfl rfl ?_
    refine v_get 5 (k := 1) 1 (.int (nI (hn + 1))) (by decide) rfl (by decide) (by decide) dX1_takeLatest_2 rfl fl_X1_18 (congrArg Value.int hc.2.1) ?_
    refine v_iconst 6 (nI (1)) (by decide) dX1_takeLatest_5 rfl ?_
    refine v_isub 7 (nI (hn)) dX1_takeLatest_6 rfl (by rw [show nI (hn + 1) - nI 1 = nI hn from nI_pred hn]) ?_
    refine v_putI 10 (k := 1) 1 .int (by decide) rfl (by decide) (by decide) rfl (by decide +kernel) rfl rfl (fun _ _ => rfl) dX1_takeLatest_7 rfl fl_X1_18 (fun I7 e7 => ?_)
    refine v_aload_n 11 rfl dX1_takeLatest_10 rfl ?_
    refine v_aload_n 12 rfl dX1_takeLatest_11 rfl ?_
    refine v_get 15 (k := 0) 1 (rfv x 10) (by decide) rfl (by decide) (by decide) dX1_takeLatest_12 rfl fl_X1_11 rfl ?_
    refine v_aload_n 16 rfl dX1_takeLatest_15 rfl ?_
    refine v_get 19 (k := 1) 1 (.int (nI (hn))) (by decide) rfl (by decide) (by decide) dX1_takeLatest_16 rfl fl_X1_18 (congrArg Value.int (up2_at e7)) ?_
    refine v_aald 20 (k := hn) 19 (by decide) rfl (by decide) dX1_takeLatest_19 rfl rfl (by omega) eM ?_
    refine v_invV 23 M_X3_copyFrom [rfv x 19] (by decide) rfl (by decide) rfl dX1_takeLatest_20 rfl ml_X1_25 im_X3_copyFrom se_X3_copyFrom mc_X3_copyFrom (by decide) (Nat.le_of_ble_eq_true rfl) (sp_X3_copyFrom_1_19 (fun Ic fc cc => ?_))
    refine v_vret rfl dX1_takeLatest_23 ?_
    refine hQ Ic (fun a ha => ?_) (HC_take hc e7 fc) (cc.rc (f := H hn) ?_ hw)
    · rw [fc a (by omega), up2_row e7 (by omega)]
    · have h9 := hc.2.2.2.2 hn (by omega)
      rw [eM] at h9
      exact h9.same (fun a q1 q2 => up2_row e7 (by omega))
  · skip
    refine SP.intro [some (rfv x 9), some (rfv x 1)] pn_X1_takeLatest (Nat.le_of_ble_eq_true rfl) rfl ?_
    refine v_aload_n 1 rfl dX1_takeLatest_0 rfl ?_
    refine v_dup 2 dX1_takeLatest_1 rfl rfl ?_
    refine v_get 5 (k := 1) 1 (.int (nI (hn + 1))) (by decide) rfl (by decide) (by decide) dX1_takeLatest_2 rfl fl_X1_18 (congrArg Value.int hc.2.1) ?_
    refine v_iconst 6 (nI (1)) (by decide) dX1_takeLatest_5 rfl ?_
    refine v_isub 7 (nI (hn)) dX1_takeLatest_6 rfl (by rw [show nI (hn + 1) - nI 1 = nI hn from nI_pred hn]) ?_
    refine v_putI 10 (k := 1) 1 .int (by decide) rfl (by decide) (by decide) rfl (by decide +kernel) rfl rfl (fun _ _ => rfl) dX1_takeLatest_7 rfl fl_X1_18 (fun I7 e7 => ?_)
    refine v_aload_n 11 rfl dX1_takeLatest_10 rfl ?_
    refine v_aload_n 12 rfl dX1_takeLatest_11 rfl ?_
    refine v_get 15 (k := 0) 1 (rfv x 10) (by decide) rfl (by decide) (by decide) dX1_takeLatest_12 rfl fl_X1_11 rfl ?_
    refine v_aload_n 16 rfl dX1_takeLatest_15 rfl ?_
    refine v_get 19 (k := 1) 1 (.int (nI (hn))) (by decide) rfl (by decide) (by decide) dX1_takeLatest_16 rfl fl_X1_18 (congrArg Value.int (up2_at e7)) ?_
    refine v_aald 20 (k := hn) 23 (by decide) rfl (by decide) dX1_takeLatest_19 rfl rfl (by omega) eM ?_
    refine v_invV 23 M_X3_copyFrom [rfv x 23] (by decide) rfl (by decide) rfl dX1_takeLatest_20 rfl ml_X1_25 im_X3_copyFrom se_X3_copyFrom mc_X3_copyFrom (by decide) (Nat.le_of_ble_eq_true rfl) (sp_X3_copyFrom_1_23 (fun Ic fc cc => ?_))
    refine v_vret rfl dX1_takeLatest_23 ?_
    refine hQ Ic (fun a ha => ?_) (HC_take hc e7 fc) (cc.rc (f := H hn) ?_ hw)
    · rw [fc a (by omega), up2_row e7 (by omega)]
    · have h9 := hc.2.2.2.2 hn (by omega)
      rw [eM] at h9
      exact h9.same (fun a q1 q2 => up2_row e7 (by omega))
theorem HR_recA {H : Hs} {hn : Nat} {I Ij I1 : Iv} {f : Vw} (hr : HR H hn I) (hw : HW H hn) (w : Wf f) (r : RR (I 41) f) (h4 : hn ≠ 4) (hA : ∀ q, q < 83 → Ij 43 (83 * hn + q) = I 41 q) (hF : ∀ a q, (a ≠ 43 ∨ q < 83 * hn) → Ij a q = I a q) (e : I1 = up2 Ij 40 4 (nI (hn + 1))) : HR (recH H hn f) (recN hn) I1 := by
  obtain ⟨h1, h2, h3⟩ := hr
  refine ⟨by unfold recN; rw [if_neg h4]; omega, by rw [recN, if_neg h4]; exact up2_at e, fun i hi => ?_⟩
  rw [recN, if_neg h4] at hi
  unfold recH
  rw [if_neg h4, up2_row e (show (43 : Nat) ≠ 40 by decide)]
  by_cases q : i = hn
  · subst q
    simp only [if_true]
    exact r.on w (fun j hj => hA j hj)
  · simp only [q, if_false]
    exact (h3 i (by omega)).on (hw i (by omega)) (fun j hj => hF 43 _ (Or.inr (by omega)))
theorem HR_recB {H : Hs} {I Ik Id Ij I1 : Iv} {f : Vw} (hr : HR H 4 I) (hw : HW H 4) (w : Wf f) (r : RR (I 41) f) (gA : ∀ q, q < 249 → Ik 43 q = I 43 (q + 83)) (ed : Id = up2 Ik 40 4 (nI 3)) (hA : ∀ q, q < 83 → Ij 43 (83 * 3 + q) = I 41 q) (hF : ∀ a q, (a ≠ 43 ∨ q < 83 * 3) → Ij a q = Id a q) (e : I1 = up2 Ij 40 4 (nI (3 + 1))) : HR (recH H 4 f) (recN 4) I1 := by
  obtain ⟨h1, h2, h3⟩ := hr
  refine ⟨Nat.le_refl 4, up2_at e, fun i hi => ?_⟩
  have hi4 : i < 4 := hi
  unfold recH
  rw [if_pos rfl, up2_row e (show (43 : Nat) ≠ 40 by decide)]
  by_cases q : i = 3
  · subst q
    simp only [if_true]
    exact r.on w (fun j hj => hA j hj)
  · simp only [q, if_false]
    refine (h3 (i + 1) (by omega)).on (hw (i + 1) (by omega)) (fun j hj => ?_)
    show Ij 43 (83 * i + j) = I 43 (83 * (i + 1) + j)
    rw [hF 43 _ (Or.inr (by omega)), up2_off ed (by omega), gA _ (by omega), show 83 * i + j + 83 = 83 * (i + 1) + j by omega]
set_option maxHeartbeats 4000000 in
theorem sp_X8_records {x : Cx} {Q : Qt} {I : Iv} {L : Lv} {P : Pv} {H : Hs} {hn : Nat} {f : Vw} (hr : HR H hn I) (hw : HW H hn) (r : RR (I 41) f) (w : Wf f) (hQ : ∀ I1 : Iv, (∀ a q, a ≠ 43 → (a ≠ 40 ∨ q ≠ 4) → I1 a q = I a q) → HR (recH H hn f) (recN hn) I1 → Q none I1 L P) : SP x M_X8_records [rfv x 40] I L P Q := by
  have hn4 := hr.1
  refine SP.intro [some (rfv x 40), none] pn_X8_records (Nat.le_of_ble_eq_true rfl) rfl ?_
  refine v_aload_n 1 rfl dX8_records_0 rfl ?_
  refine v_get 4 (k := 4) 8 (.int (nI (hn))) (by decide) rfl (by decide) (by decide) dX8_records_1 rfl fl_X8_62 (congrArg Value.int hr.2.1) ?_
  refine v_iconst 5 (nI (4)) (by decide) dX8_records_4 rfl ?_
  refine v_icmpN_ne 48 8 dX8_records_5 (by decide) rfl (by omega) (by omega) (fun h5 => ?_) (fun h5 => ?_)
  · skip
    refine v_iconst 49 (nI (0)) (by decide) dX8_records_48 rfl ?_
    refine v_istore_n 50 [some (rfv x 40), some (.int (nI (0)))] dX8_records_49 rfl (by decide) rfl ?_
    have lq : ∀ j, j ≤ 83 → ∀ Ij : Iv, (∀ q, q < j → Ij 43 (83 * hn + q) = I 41 q) → (∀ a q, (a ≠ 43 ∨ q < 83 * hn) → Ij a q = I a q) → V x M_X8_records Q 50 [some (rfv x 40), some (.int (nI (j)))] [] Ij L P := by
      refine lpU ?_ ?_
      · intro Ij hA hF
        refine v_iload_n 51 rfl dX8_records_50 rfl ?_
        refine v_bipush 53 (nI (83)) (by decide) dX8_records_51 rfl ?_
        refine v_icmpN_ge 82 56 dX8_records_53 (by decide) rfl (by omega) (by omega) (fun h53 => ?_) (fun h53 => ?_)
        · skip
          refine v_aload_n 83 rfl dX8_records_82 rfl ?_
          refine v_dup 84 dX8_records_83 rfl rfl ?_
          refine v_get 87 (k := 4) 8 (.int (nI (hn))) (by decide) rfl (by decide) (by decide) dX8_records_84 rfl fl_X8_62 (congrArg Value.int ((hF 40 4 (Or.inl (by decide))).trans hr.2.1)) ?_
          refine v_iconst 88 (nI (1)) (by decide) dX8_records_87 rfl ?_
          refine v_iadd 89 (nI (hn + 1)) dX8_records_88 rfl (nI_add _ _) ?_
          refine v_putI 92 (k := 4) 8 .int (by decide) rfl (by decide) (by decide) rfl (by decide +kernel) rfl rfl (fun _ _ => rfl) dX8_records_89 rfl fl_X8_62 (fun I89 e89 => ?_)
          refine v_vret rfl dX8_records_92 ?_
          exact hQ I89 (fun a q h1 h2 => (up2_off e89 (by omega)).trans (hF a q (Or.inl h1))) (HR_recA hr hw w r h5 hA hF e89)
        · skip
          exact absurd h53 (by decide)
      · intro j hj ih Ij hA hF
        refine v_iload_n 51 rfl dX8_records_50 rfl ?_
        refine v_bipush 53 (nI (83)) (by decide) dX8_records_51 rfl ?_
        refine v_icmpN_ge 82 56 dX8_records_53 (by decide) rfl (by omega) (by omega) (fun h53 => ?_) (fun h53 => ?_)
        · skip
          exact absurd h53 (by omega)
        · skip
          refine v_aload_n 57 rfl dX8_records_56 rfl ?_
          refine v_get 60 (k := 3) 8 (rfv x 43) (by decide) rfl (by decide) (by decide) dX8_records_57 rfl fl_X8_16 rfl ?_
          refine v_bipush 62 (nI (83)) (by decide) dX8_records_60 rfl ?_
          refine v_aload_n 63 rfl dX8_records_62 rfl ?_
          refine v_get 66 (k := 4) 8 (.int (nI (hn))) (by decide) rfl (by decide) (by decide) dX8_records_63 rfl fl_X8_62 (congrArg Value.int ((hF 40 4 (Or.inl (by decide))).trans hr.2.1)) ?_
          refine v_imul 67 (nI (83 * hn)) dX8_records_66 rfl (pk_mul _ _) ?_
          refine v_iload_n 68 rfl dX8_records_67 rfl ?_
          refine v_iadd 69 (nI ((83 * hn) + j)) dX8_records_68 rfl (nI_add _ _) ?_
          refine v_aload_n 70 rfl dX8_records_69 rfl ?_
          refine v_get 73 (k := 1) 8 (rfv x 41) (by decide) rfl (by decide) (by decide) dX8_records_70 rfl fl_X8_7 rfl ?_
          refine v_iload_n 74 rfl dX8_records_73 rfl ?_
          refine v_iald 75 (k := j) (I 41 j) (by decide) rfl (by decide) dX8_records_74 rfl rfl (by omega) (hF 41 j (Or.inl (by decide))) ?_
          refine v_iast 76 (k := (83 * hn) + j) (I 41 j) (by decide) rfl (by decide) dX8_records_75 rfl rfl (by omega) rfl (fun I75 e75 => ?_)
          refine v_iinc 79 [some (rfv x 40), some (.int (nI (j + 1)))] (nI (j + 1)) dX8_records_76 rfl (by decide) rfl (nI_inc _) rfl ?_
          refine v_goto 50 dX8_records_79 (by decide) ?_
          refine v_drop [some (rfv x 40), some (.int (nI (j + 1)))] (by simp [lsub, smN_s]) ?_
          refine ih I75 (fun q hq => ?_) (fun a q hq => ?_)
          · by_cases z : q = j
            · subst z
              exact up2_at e75
            · exact (up2_off e75 (by omega)).trans (hA q (by omega))
          · exact (up2_off e75 (by omega)).trans (hF a q hq)
    refine v_drop [some (rfv x 40), some (.int (nI (0)))] (by simp [lsub, smN, amN, dbW, mxN]) ?_
    exact lq 0 (Nat.zero_le _) I (fun j h => absurd h (Nat.not_lt_zero j)) (fun a q _ => rfl)
  · skip
    subst h5
    refine v_iconst 9 (nI (0)) (by decide) dX8_records_8 rfl ?_
    refine v_istore_n 10 [some (rfv x 40), some (.int (nI (0)))] dX8_records_9 rfl (by decide) rfl ?_
    have lp : ∀ k, k ≤ 249 → ∀ Ik : Iv, (∀ q, q < k → Ik 43 q = I 43 (q + 83)) → (∀ a q, (a ≠ 43 ∨ k ≤ q) → Ik a q = I a q) → V x M_X8_records Q 10 [some (rfv x 40), some (.int (nI (k)))] [] Ik L P := by
      refine lpU ?_ ?_
      · intro Ik gA gF0
        refine v_iload_n 11 rfl dX8_records_10 rfl ?_
        refine v_sipush 14 (nI (249)) (by decide) dX8_records_11 rfl ?_
        refine v_icmpN_ge 38 17 dX8_records_14 (by decide) rfl (by omega) (by omega) (fun h14 => ?_) (fun h14 => ?_)
        · skip
          have gF : ∀ a q, a ≠ 43 → Ik a q = I a q := fun a q h => gF0 a q (Or.inl h)
          refine v_aload_n 39 rfl dX8_records_38 rfl ?_
          refine v_dup 40 dX8_records_39 rfl rfl ?_
          refine v_get 43 (k := 4) 8 (.int (nI (4))) (by decide) rfl (by decide) (by decide) dX8_records_40 rfl fl_X8_62 (congrArg Value.int ((gF0 40 4 (Or.inl (by decide))).trans hr.2.1)) ?_
          refine v_iconst 44 (nI (1)) (by decide) dX8_records_43 rfl ?_
          refine v_isub 45 (nI (3)) dX8_records_44 rfl (by decide) ?_
          refine v_putI 48 (k := 4) 8 .int (by decide) rfl (by decide) (by decide) rfl (by decide +kernel) rfl rfl (fun _ _ => rfl) dX8_records_45 rfl fl_X8_62 (fun I45 e45 => ?_)
          refine v_iconst 49 (nI (0)) (by decide) dX8_records_48 rfl ?_
          refine v_istore_n 50 [some (rfv x 40), some (.int (nI (0)))] dX8_records_49 rfl (by decide) rfl ?_
          have lq : ∀ j, j ≤ 83 → ∀ Ij : Iv, (∀ q, q < j → Ij 43 (83 * 3 + q) = I 41 q) → (∀ a q, (a ≠ 43 ∨ q < 83 * 3) → Ij a q = I45 a q) → V x M_X8_records Q 50 [some (rfv x 40), some (.int (nI (j)))] [] Ij L P := by
            refine lpU ?_ ?_
            · intro Ij hA hF
              refine v_iload_n 51 rfl dX8_records_50 rfl ?_
              refine v_bipush 53 (nI (83)) (by decide) dX8_records_51 rfl ?_
              refine v_icmpN_ge 82 56 dX8_records_53 (by decide) rfl (by omega) (by omega) (fun h53 => ?_) (fun h53 => ?_)
              · skip
                refine v_aload_n 83 rfl dX8_records_82 rfl ?_
                refine v_dup 84 dX8_records_83 rfl rfl ?_
                refine v_get 87 (k := 4) 8 (.int (nI (3))) (by decide) rfl (by decide) (by decide) dX8_records_84 rfl fl_X8_62 (congrArg Value.int ((hF 40 4 (Or.inl (by decide))).trans (up2_at e45))) ?_
                refine v_iconst 88 (nI (1)) (by decide) dX8_records_87 rfl ?_
                refine v_iadd 89 (nI (3 + 1)) dX8_records_88 rfl (nI_add _ _) ?_
                refine v_putI 92 (k := 4) 8 .int (by decide) rfl (by decide) (by decide) rfl (by decide +kernel) rfl rfl (fun _ _ => rfl) dX8_records_89 rfl fl_X8_62 (fun I89 e89 => ?_)
                refine v_vret rfl dX8_records_92 ?_
                exact hQ I89 (fun a q h1 h2 => (up2_off e89 (by omega)).trans ((hF a q (Or.inl h1)).trans ((up2_off e45 (by omega)).trans (gF a q h1)))) (HR_recB hr hw w r gA e45 hA hF e89)
              · skip
                exact absurd h53 (by decide)
            · intro j hj ih Ij hA hF
              refine v_iload_n 51 rfl dX8_records_50 rfl ?_
              refine v_bipush 53 (nI (83)) (by decide) dX8_records_51 rfl ?_
              refine v_icmpN_ge 82 56 dX8_records_53 (by decide) rfl (by omega) (by omega) (fun h53 => ?_) (fun h53 => ?_)
              · skip
                exact absurd h53 (by omega)
              · skip
                refine v_aload_n 57 rfl dX8_records_56 rfl ?_
                refine v_get 60 (k := 3) 8 (rfv x 43) (by decide) rfl (by decide) (by decide) dX8_records_57 rfl fl_X8_16 rfl ?_
                refine v_bipush 62 (nI (83)) (by decide) dX8_records_60 rfl ?_
                refine v_aload_n 63 rfl dX8_records_62 rfl ?_
                refine v_get 66 (k := 4) 8 (.int (nI (3))) (by decide) rfl (by decide) (by decide) dX8_records_63 rfl fl_X8_62 (congrArg Value.int ((hF 40 4 (Or.inl (by decide))).trans (up2_at e45))) ?_
                refine v_imul 67 (nI (83 * 3)) dX8_records_66 rfl (pk_mul _ _) ?_
                refine v_iload_n 68 rfl dX8_records_67 rfl ?_
                refine v_iadd 69 (nI ((83 * 3) + j)) dX8_records_68 rfl (nI_add _ _) ?_
                refine v_aload_n 70 rfl dX8_records_69 rfl ?_
                refine v_get 73 (k := 1) 8 (rfv x 41) (by decide) rfl (by decide) (by decide) dX8_records_70 rfl fl_X8_7 rfl ?_
                refine v_iload_n 74 rfl dX8_records_73 rfl ?_
                refine v_iald 75 (k := j) (I 41 j) (by decide) rfl (by decide) dX8_records_74 rfl rfl (by omega) ((hF 41 j (Or.inl (by decide))).trans ((up2_off e45 (by omega)).trans (gF 41 j (by decide)))) ?_
                refine v_iast 76 (k := (83 * 3) + j) (I 41 j) (by decide) rfl (by decide) dX8_records_75 rfl rfl (by omega) rfl (fun I75 e75 => ?_)
                refine v_iinc 79 [some (rfv x 40), some (.int (nI (j + 1)))] (nI (j + 1)) dX8_records_76 rfl (by decide) rfl (nI_inc _) rfl ?_
                refine v_goto 50 dX8_records_79 (by decide) ?_
                refine v_drop [some (rfv x 40), some (.int (nI (j + 1)))] (by simp [lsub, smN_s]) ?_
                refine ih I75 (fun q hq => ?_) (fun a q hq => ?_)
                · by_cases z : q = j
                  · subst z
                    exact up2_at e75
                  · exact (up2_off e75 (by omega)).trans (hA q (by omega))
                · exact (up2_off e75 (by omega)).trans (hF a q hq)
          refine v_drop [some (rfv x 40), some (.int (nI (0)))] (by simp [lsub, smN, amN, dbW, mxN]) ?_
          exact lq 0 (Nat.zero_le _) I45 (fun j h => absurd h (Nat.not_lt_zero j)) (fun a q _ => rfl)
        · skip
          exact absurd h14 (by decide)
      · intro k hk ih Ik gA gF0
        refine v_iload_n 11 rfl dX8_records_10 rfl ?_
        refine v_sipush 14 (nI (249)) (by decide) dX8_records_11 rfl ?_
        refine v_icmpN_ge 38 17 dX8_records_14 (by decide) rfl (by omega) (by omega) (fun h14 => ?_) (fun h14 => ?_)
        · skip
          exact absurd h14 (by omega)
        · skip
          refine v_aload_n 18 rfl dX8_records_17 rfl ?_
          refine v_get 21 (k := 3) 8 (rfv x 43) (by decide) rfl (by decide) (by decide) dX8_records_18 rfl fl_X8_16 rfl ?_
          refine v_iload_n 22 rfl dX8_records_21 rfl ?_
          refine v_aload_n 23 rfl dX8_records_22 rfl ?_
          refine v_get 26 (k := 3) 8 (rfv x 43) (by decide) rfl (by decide) (by decide) dX8_records_23 rfl fl_X8_16 rfl ?_
          refine v_iload_n 27 rfl dX8_records_26 rfl ?_
          refine v_bipush 29 (nI (83)) (by decide) dX8_records_27 rfl ?_
          refine v_iadd 30 (nI (k + 83)) dX8_records_29 rfl (nI_add _ _) ?_
          refine v_iald 31 (k := k + 83) (I 43 (k + 83)) (by decide) rfl (by decide) dX8_records_30 rfl rfl (by omega) (gF0 43 (k + 83) (Or.inr (by omega))) ?_
          refine v_iast 32 (k := k) (I 43 (k + 83)) (by decide) rfl (by decide) dX8_records_31 rfl rfl (by omega) rfl (fun I31 e31 => ?_)
          refine v_iinc 35 [some (rfv x 40), some (.int (nI (k + 1)))] (nI (k + 1)) dX8_records_32 rfl (by decide) rfl (nI_inc _) rfl ?_
          refine v_goto 10 dX8_records_35 (by decide) ?_
          refine v_drop [some (rfv x 40), some (.int (nI (k + 1)))] (by simp [lsub, smN_s]) ?_
          refine ih I31 (fun q hq => ?_) (fun a q hq => (up2_off e31 (by omega)).trans (gF0 a q (by omega)))
          by_cases z : q = k
          · subst z
            exact up2_at e31
          · exact (up2_off e31 (by omega)).trans (gA q (by omega))
    refine v_drop [some (rfv x 40), some (.int (nI (0)))] (by simp [lsub, smN, amN, dbW, mxN]) ?_
    exact lp 0 (Nat.zero_le _) I (fun j h => absurd h (Nat.not_lt_zero j)) (fun a q _ => rfl)
