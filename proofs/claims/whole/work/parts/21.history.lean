set_option maxHeartbeats 4000000 in
theorem sp_X3_copyFrom_5_1 {x : Cx} {Q : Qt} {I : Iv} {L : Lv} {P : Pv} (hQ : ∀ I1 : Iv, (∀ a, (a < 5 ∨ 8 < a) → I1 a = I a) → CPY 5 1 I I1 → Q none I1 L P) : SP x M_X3_copyFrom [rfv x 5, rfv x 1] I L P Q := by
  refine SP.intro [some (rfv x 5), some (rfv x 1)] pn_X3_copyFrom (Nat.le_of_ble_eq_true rfl) rfl ?_
  refine v_aload_n 1 rfl dX3_copyFrom_0 rfl ?_
  refine v_get 4 (k := 0) 3 (rfv x 2) (by decide) rfl (by decide) (by decide) dX3_copyFrom_1 rfl fl_X3_11 rfl ?_
  refine v_iconst 5 (nI (0)) (by decide) dX3_copyFrom_4 rfl ?_
  refine v_aload_n 6 rfl dX3_copyFrom_5 rfl ?_
  refine v_get 9 (k := 0) 3 (rfv x 6) (by decide) rfl (by decide) (by decide) dX3_copyFrom_6 rfl fl_X3_11 rfl ?_
  refine v_iconst 10 (nI (0)) (by decide) dX3_copyFrom_9 rfl ?_
  refine v_bipush 12 (nI (32)) (by decide) dX3_copyFrom_10 rfl ?_
  refine v_acopy 15 (sp := 0) (dp := 0) (n := 32) (by decide) (by decide) rfl rfl dX3_copyFrom_12 rfl ml_X3_28 ⟨by decide, Nat.le_of_ble_eq_true rfl⟩ rfl rfl rfl ⟨by decide, by decide⟩ (by omega) (by omega) (fun I12 e12 => ?_)
  refine v_aload_n 16 rfl dX3_copyFrom_15 rfl ?_
  refine v_aload_n 17 rfl dX3_copyFrom_16 rfl ?_
  refine v_get 20 (k := 1) 3 (.int (I12 1 1)) (by decide) rfl (by decide) (by decide) dX3_copyFrom_17 rfl fl_X3_15 rfl ?_
  refine v_putI 23 (k := 1) 3 .int (by decide) rfl (by decide) (by decide) rfl (by decide +kernel) rfl rfl (fun _ _ => rfl) dX3_copyFrom_20 rfl fl_X3_15 (fun I20 e20 => ?_)
  refine v_aload_n 24 rfl dX3_copyFrom_23 rfl ?_
  refine v_aload_n 25 rfl dX3_copyFrom_24 rfl ?_
  refine v_get 28 (k := 2) 3 (.int (I20 1 2)) (by decide) rfl (by decide) (by decide) dX3_copyFrom_25 rfl fl_X3_19 rfl ?_
  refine v_putI 31 (k := 2) 3 .int (by decide) rfl (by decide) (by decide) rfl (by decide +kernel) rfl rfl (fun _ _ => rfl) dX3_copyFrom_28 rfl fl_X3_19 (fun I28 e28 => ?_)
  refine v_aload_n 32 rfl dX3_copyFrom_31 rfl ?_
  refine v_get 35 (k := 3) 3 (rfv x 3) (by decide) rfl (by decide) (by decide) dX3_copyFrom_32 rfl fl_X3_22 rfl ?_
  refine v_iconst 36 (nI (0)) (by decide) dX3_copyFrom_35 rfl ?_
  refine v_aload_n 37 rfl dX3_copyFrom_36 rfl ?_
  refine v_get 40 (k := 3) 3 (rfv x 7) (by decide) rfl (by decide) (by decide) dX3_copyFrom_37 rfl fl_X3_22 rfl ?_
  refine v_iconst 41 (nI (0)) (by decide) dX3_copyFrom_40 rfl ?_
  refine v_bipush 43 (nI (6)) (by decide) dX3_copyFrom_41 rfl ?_
  refine v_acopy 46 (sp := 0) (dp := 0) (n := 6) (by decide) (by decide) rfl rfl dX3_copyFrom_43 rfl ml_X3_28 ⟨by decide, Nat.le_of_ble_eq_true rfl⟩ rfl rfl rfl ⟨by decide, by decide⟩ (by omega) (by omega) (fun I43 e43 => ?_)
  refine v_aload_n 47 rfl dX3_copyFrom_46 rfl ?_
  refine v_get 50 (k := 4) 3 (rfv x 4) (by decide) rfl (by decide) (by decide) dX3_copyFrom_47 rfl fl_X3_25 rfl ?_
  refine v_iconst 51 (nI (0)) (by decide) dX3_copyFrom_50 rfl ?_
  refine v_aload_n 52 rfl dX3_copyFrom_51 rfl ?_
  refine v_get 55 (k := 4) 3 (rfv x 8) (by decide) rfl (by decide) (by decide) dX3_copyFrom_52 rfl fl_X3_25 rfl ?_
  refine v_iconst 56 (nI (0)) (by decide) dX3_copyFrom_55 rfl ?_
  refine v_bipush 58 (nI (42)) (by decide) dX3_copyFrom_56 rfl ?_
  refine v_acopy 61 (sp := 0) (dp := 0) (n := 42) (by decide) (by decide) rfl rfl dX3_copyFrom_58 rfl ml_X3_28 ⟨by decide, Nat.le_of_ble_eq_true rfl⟩ rfl rfl rfl ⟨by decide, by decide⟩ (by omega) (by omega) (fun I58 e58 => ?_)
  refine v_aload_n 62 rfl dX3_copyFrom_61 rfl ?_
  refine v_aload_n 63 rfl dX3_copyFrom_62 rfl ?_
  refine v_get 66 (k := 5) 3 (.int (I58 1 5)) (by decide) rfl (by decide) (by decide) dX3_copyFrom_63 rfl fl_X3_34 rfl ?_
  refine v_putI 69 (k := 5) 3 .int (by decide) rfl (by decide) (by decide) rfl (by decide +kernel) rfl rfl (fun _ _ => rfl) dX3_copyFrom_66 rfl fl_X3_34 (fun I66 e66 => ?_)
  refine v_vret rfl dX3_copyFrom_69 ?_
  refine hQ I66 (fun a ha => ?_) ⟨?_, ?_, ?_, fun j hj => ?_, fun j hj => ?_, fun j hj => ?_⟩
  · rw [up2_row e66 (by omega), cpy_row e58 (by omega), cpy_row e43 (by omega), up2_row e28 (by omega), up2_row e20 (by omega), cpy_row e12 (by omega)]
  · rw [up2_off e66 (by omega), cpy_row e58 (by decide), cpy_row e43 (by decide), up2_off e28 (by omega), up2_at e20, cpy_row e12 (by decide)]
  · rw [up2_off e66 (by omega), cpy_row e58 (by decide), cpy_row e43 (by decide), up2_at e28, up2_row e20 (by decide), cpy_row e12 (by decide)]
  · rw [up2_at e66, cpy_row e58 (by decide), cpy_row e43 (by decide), up2_row e28 (by decide), up2_row e20 (by decide), cpy_row e12 (by decide)]
  · rw [up2_row e66 (by decide), cpy_row e58 (by decide), cpy_row e43 (by decide), up2_row e28 (by decide), up2_row e20 (by decide), cpy_at e12 hj]
  · rw [up2_row e66 (by decide), cpy_row e58 (by decide), cpy_at e43 hj, up2_row e28 (by decide), up2_row e20 (by decide), cpy_row e12 (by decide)]
  · rw [up2_row e66 (by decide), cpy_at e58 hj, cpy_row e43 (by decide), up2_row e28 (by decide), up2_row e20 (by decide), cpy_row e12 (by decide)]
set_option maxHeartbeats 4000000 in
theorem sp_X3_copyFrom_1_5 {x : Cx} {Q : Qt} {I : Iv} {L : Lv} {P : Pv} (hQ : ∀ I1 : Iv, (∀ a, (a < 1 ∨ 4 < a) → I1 a = I a) → CPY 1 5 I I1 → Q none I1 L P) : SP x M_X3_copyFrom [rfv x 1, rfv x 5] I L P Q := by
  refine SP.intro [some (rfv x 1), some (rfv x 5)] pn_X3_copyFrom (Nat.le_of_ble_eq_true rfl) rfl ?_
  refine v_aload_n 1 rfl dX3_copyFrom_0 rfl ?_
  refine v_get 4 (k := 0) 3 (rfv x 6) (by decide) rfl (by decide) (by decide) dX3_copyFrom_1 rfl fl_X3_11 rfl ?_
  refine v_iconst 5 (nI (0)) (by decide) dX3_copyFrom_4 rfl ?_
  refine v_aload_n 6 rfl dX3_copyFrom_5 rfl ?_
  refine v_get 9 (k := 0) 3 (rfv x 2) (by decide) rfl (by decide) (by decide) dX3_copyFrom_6 rfl fl_X3_11 rfl ?_
  refine v_iconst 10 (nI (0)) (by decide) dX3_copyFrom_9 rfl ?_
  refine v_bipush 12 (nI (32)) (by decide) dX3_copyFrom_10 rfl ?_
  refine v_acopy 15 (sp := 0) (dp := 0) (n := 32) (by decide) (by decide) rfl rfl dX3_copyFrom_12 rfl ml_X3_28 ⟨by decide, Nat.le_of_ble_eq_true rfl⟩ rfl rfl rfl ⟨by decide, by decide⟩ (by omega) (by omega) (fun I12 e12 => ?_)
  refine v_aload_n 16 rfl dX3_copyFrom_15 rfl ?_
  refine v_aload_n 17 rfl dX3_copyFrom_16 rfl ?_
  refine v_get 20 (k := 1) 3 (.int (I12 5 1)) (by decide) rfl (by decide) (by decide) dX3_copyFrom_17 rfl fl_X3_15 rfl ?_
  refine v_putI 23 (k := 1) 3 .int (by decide) rfl (by decide) (by decide) rfl (by decide +kernel) rfl rfl (fun _ _ => rfl) dX3_copyFrom_20 rfl fl_X3_15 (fun I20 e20 => ?_)
  refine v_aload_n 24 rfl dX3_copyFrom_23 rfl ?_
  refine v_aload_n 25 rfl dX3_copyFrom_24 rfl ?_
  refine v_get 28 (k := 2) 3 (.int (I20 5 2)) (by decide) rfl (by decide) (by decide) dX3_copyFrom_25 rfl fl_X3_19 rfl ?_
  refine v_putI 31 (k := 2) 3 .int (by decide) rfl (by decide) (by decide) rfl (by decide +kernel) rfl rfl (fun _ _ => rfl) dX3_copyFrom_28 rfl fl_X3_19 (fun I28 e28 => ?_)
  refine v_aload_n 32 rfl dX3_copyFrom_31 rfl ?_
  refine v_get 35 (k := 3) 3 (rfv x 7) (by decide) rfl (by decide) (by decide) dX3_copyFrom_32 rfl fl_X3_22 rfl ?_
  refine v_iconst 36 (nI (0)) (by decide) dX3_copyFrom_35 rfl ?_
  refine v_aload_n 37 rfl dX3_copyFrom_36 rfl ?_
  refine v_get 40 (k := 3) 3 (rfv x 3) (by decide) rfl (by decide) (by decide) dX3_copyFrom_37 rfl fl_X3_22 rfl ?_
  refine v_iconst 41 (nI (0)) (by decide) dX3_copyFrom_40 rfl ?_
  refine v_bipush 43 (nI (6)) (by decide) dX3_copyFrom_41 rfl ?_
  refine v_acopy 46 (sp := 0) (dp := 0) (n := 6) (by decide) (by decide) rfl rfl dX3_copyFrom_43 rfl ml_X3_28 ⟨by decide, Nat.le_of_ble_eq_true rfl⟩ rfl rfl rfl ⟨by decide, by decide⟩ (by omega) (by omega) (fun I43 e43 => ?_)
  refine v_aload_n 47 rfl dX3_copyFrom_46 rfl ?_
  refine v_get 50 (k := 4) 3 (rfv x 8) (by decide) rfl (by decide) (by decide) dX3_copyFrom_47 rfl fl_X3_25 rfl ?_
  refine v_iconst 51 (nI (0)) (by decide) dX3_copyFrom_50 rfl ?_
  refine v_aload_n 52 rfl dX3_copyFrom_51 rfl ?_
  refine v_get 55 (k := 4) 3 (rfv x 4) (by decide) rfl (by decide) (by decide) dX3_copyFrom_52 rfl fl_X3_25 rfl ?_
  refine v_iconst 56 (nI (0)) (by decide) dX3_copyFrom_55 rfl ?_
  refine v_bipush 58 (nI (42)) (by decide) dX3_copyFrom_56 rfl ?_
  refine v_acopy 61 (sp := 0) (dp := 0) (n := 42) (by decide) (by decide) rfl rfl dX3_copyFrom_58 rfl ml_X3_28 ⟨by decide, Nat.le_of_ble_eq_true rfl⟩ rfl rfl rfl ⟨by decide, by decide⟩ (by omega) (by omega) (fun I58 e58 => ?_)
  refine v_aload_n 62 rfl dX3_copyFrom_61 rfl ?_
  refine v_aload_n 63 rfl dX3_copyFrom_62 rfl ?_
  refine v_get 66 (k := 5) 3 (.int (I58 5 5)) (by decide) rfl (by decide) (by decide) dX3_copyFrom_63 rfl fl_X3_34 rfl ?_
  refine v_putI 69 (k := 5) 3 .int (by decide) rfl (by decide) (by decide) rfl (by decide +kernel) rfl rfl (fun _ _ => rfl) dX3_copyFrom_66 rfl fl_X3_34 (fun I66 e66 => ?_)
  refine v_vret rfl dX3_copyFrom_69 ?_
  refine hQ I66 (fun a ha => ?_) ⟨?_, ?_, ?_, fun j hj => ?_, fun j hj => ?_, fun j hj => ?_⟩
  · rw [up2_row e66 (by omega), cpy_row e58 (by omega), cpy_row e43 (by omega), up2_row e28 (by omega), up2_row e20 (by omega), cpy_row e12 (by omega)]
  · rw [up2_off e66 (by omega), cpy_row e58 (by decide), cpy_row e43 (by decide), up2_off e28 (by omega), up2_at e20, cpy_row e12 (by decide)]
  · rw [up2_off e66 (by omega), cpy_row e58 (by decide), cpy_row e43 (by decide), up2_at e28, up2_row e20 (by decide), cpy_row e12 (by decide)]
  · rw [up2_at e66, cpy_row e58 (by decide), cpy_row e43 (by decide), up2_row e28 (by decide), up2_row e20 (by decide), cpy_row e12 (by decide)]
  · rw [up2_row e66 (by decide), cpy_row e58 (by decide), cpy_row e43 (by decide), up2_row e28 (by decide), up2_row e20 (by decide), cpy_at e12 hj]
  · rw [up2_row e66 (by decide), cpy_row e58 (by decide), cpy_at e43 hj, up2_row e28 (by decide), up2_row e20 (by decide), cpy_row e12 (by decide)]
  · rw [up2_row e66 (by decide), cpy_at e58 hj, cpy_row e43 (by decide), up2_row e28 (by decide), up2_row e20 (by decide), cpy_row e12 (by decide)]
set_option maxHeartbeats 4000000 in
theorem sp_X3_copyFrom_11_1 {x : Cx} {Q : Qt} {I : Iv} {L : Lv} {P : Pv} (hQ : ∀ I1 : Iv, (∀ a, (a < 11 ∨ 14 < a) → I1 a = I a) → CPY 11 1 I I1 → Q none I1 L P) : SP x M_X3_copyFrom [rfv x 11, rfv x 1] I L P Q := by
  refine SP.intro [some (rfv x 11), some (rfv x 1)] pn_X3_copyFrom (Nat.le_of_ble_eq_true rfl) rfl ?_
  refine v_aload_n 1 rfl dX3_copyFrom_0 rfl ?_
  refine v_get 4 (k := 0) 3 (rfv x 2) (by decide) rfl (by decide) (by decide) dX3_copyFrom_1 rfl fl_X3_11 rfl ?_
  refine v_iconst 5 (nI (0)) (by decide) dX3_copyFrom_4 rfl ?_
  refine v_aload_n 6 rfl dX3_copyFrom_5 rfl ?_
  refine v_get 9 (k := 0) 3 (rfv x 12) (by decide) rfl (by decide) (by decide) dX3_copyFrom_6 rfl fl_X3_11 rfl ?_
  refine v_iconst 10 (nI (0)) (by decide) dX3_copyFrom_9 rfl ?_
  refine v_bipush 12 (nI (32)) (by decide) dX3_copyFrom_10 rfl ?_
  refine v_acopy 15 (sp := 0) (dp := 0) (n := 32) (by decide) (by decide) rfl rfl dX3_copyFrom_12 rfl ml_X3_28 ⟨by decide, Nat.le_of_ble_eq_true rfl⟩ rfl rfl rfl ⟨by decide, by decide⟩ (by omega) (by omega) (fun I12 e12 => ?_)
  refine v_aload_n 16 rfl dX3_copyFrom_15 rfl ?_
  refine v_aload_n 17 rfl dX3_copyFrom_16 rfl ?_
  refine v_get 20 (k := 1) 3 (.int (I12 1 1)) (by decide) rfl (by decide) (by decide) dX3_copyFrom_17 rfl fl_X3_15 rfl ?_
  refine v_putI 23 (k := 1) 3 .int (by decide) rfl (by decide) (by decide) rfl (by decide +kernel) rfl rfl (fun _ _ => rfl) dX3_copyFrom_20 rfl fl_X3_15 (fun I20 e20 => ?_)
  refine v_aload_n 24 rfl dX3_copyFrom_23 rfl ?_
  refine v_aload_n 25 rfl dX3_copyFrom_24 rfl ?_
  refine v_get 28 (k := 2) 3 (.int (I20 1 2)) (by decide) rfl (by decide) (by decide) dX3_copyFrom_25 rfl fl_X3_19 rfl ?_
  refine v_putI 31 (k := 2) 3 .int (by decide) rfl (by decide) (by decide) rfl (by decide +kernel) rfl rfl (fun _ _ => rfl) dX3_copyFrom_28 rfl fl_X3_19 (fun I28 e28 => ?_)
  refine v_aload_n 32 rfl dX3_copyFrom_31 rfl ?_
  refine v_get 35 (k := 3) 3 (rfv x 3) (by decide) rfl (by decide) (by decide) dX3_copyFrom_32 rfl fl_X3_22 rfl ?_
  refine v_iconst 36 (nI (0)) (by decide) dX3_copyFrom_35 rfl ?_
  refine v_aload_n 37 rfl dX3_copyFrom_36 rfl ?_
  refine v_get 40 (k := 3) 3 (rfv x 13) (by decide) rfl (by decide) (by decide) dX3_copyFrom_37 rfl fl_X3_22 rfl ?_
  refine v_iconst 41 (nI (0)) (by decide) dX3_copyFrom_40 rfl ?_
  refine v_bipush 43 (nI (6)) (by decide) dX3_copyFrom_41 rfl ?_
  refine v_acopy 46 (sp := 0) (dp := 0) (n := 6) (by decide) (by decide) rfl rfl dX3_copyFrom_43 rfl ml_X3_28 ⟨by decide, Nat.le_of_ble_eq_true rfl⟩ rfl rfl rfl ⟨by decide, by decide⟩ (by omega) (by omega) (fun I43 e43 => ?_)
  refine v_aload_n 47 rfl dX3_copyFrom_46 rfl ?_
  refine v_get 50 (k := 4) 3 (rfv x 4) (by decide) rfl (by decide) (by decide) dX3_copyFrom_47 rfl fl_X3_25 rfl ?_
  refine v_iconst 51 (nI (0)) (by decide) dX3_copyFrom_50 rfl ?_
  refine v_aload_n 52 rfl dX3_copyFrom_51 rfl ?_
  refine v_get 55 (k := 4) 3 (rfv x 14) (by decide) rfl (by decide) (by decide) dX3_copyFrom_52 rfl fl_X3_25 rfl ?_
  refine v_iconst 56 (nI (0)) (by decide) dX3_copyFrom_55 rfl ?_
  refine v_bipush 58 (nI (42)) (by decide) dX3_copyFrom_56 rfl ?_
  refine v_acopy 61 (sp := 0) (dp := 0) (n := 42) (by decide) (by decide) rfl rfl dX3_copyFrom_58 rfl ml_X3_28 ⟨by decide, Nat.le_of_ble_eq_true rfl⟩ rfl rfl rfl ⟨by decide, by decide⟩ (by omega) (by omega) (fun I58 e58 => ?_)
  refine v_aload_n 62 rfl dX3_copyFrom_61 rfl ?_
  refine v_aload_n 63 rfl dX3_copyFrom_62 rfl ?_
  refine v_get 66 (k := 5) 3 (.int (I58 1 5)) (by decide) rfl (by decide) (by decide) dX3_copyFrom_63 rfl fl_X3_34 rfl ?_
  refine v_putI 69 (k := 5) 3 .int (by decide) rfl (by decide) (by decide) rfl (by decide +kernel) rfl rfl (fun _ _ => rfl) dX3_copyFrom_66 rfl fl_X3_34 (fun I66 e66 => ?_)
  refine v_vret rfl dX3_copyFrom_69 ?_
  refine hQ I66 (fun a ha => ?_) ⟨?_, ?_, ?_, fun j hj => ?_, fun j hj => ?_, fun j hj => ?_⟩
  · rw [up2_row e66 (by omega), cpy_row e58 (by omega), cpy_row e43 (by omega), up2_row e28 (by omega), up2_row e20 (by omega), cpy_row e12 (by omega)]
  · rw [up2_off e66 (by omega), cpy_row e58 (by decide), cpy_row e43 (by decide), up2_off e28 (by omega), up2_at e20, cpy_row e12 (by decide)]
  · rw [up2_off e66 (by omega), cpy_row e58 (by decide), cpy_row e43 (by decide), up2_at e28, up2_row e20 (by decide), cpy_row e12 (by decide)]
  · rw [up2_at e66, cpy_row e58 (by decide), cpy_row e43 (by decide), up2_row e28 (by decide), up2_row e20 (by decide), cpy_row e12 (by decide)]
  · rw [up2_row e66 (by decide), cpy_row e58 (by decide), cpy_row e43 (by decide), up2_row e28 (by decide), up2_row e20 (by decide), cpy_at e12 hj]
  · rw [up2_row e66 (by decide), cpy_row e58 (by decide), cpy_at e43 hj, up2_row e28 (by decide), up2_row e20 (by decide), cpy_row e12 (by decide)]
  · rw [up2_row e66 (by decide), cpy_at e58 hj, cpy_row e43 (by decide), up2_row e28 (by decide), up2_row e20 (by decide), cpy_row e12 (by decide)]
set_option maxHeartbeats 4000000 in
theorem sp_X3_copyFrom_15_1 {x : Cx} {Q : Qt} {I : Iv} {L : Lv} {P : Pv} (hQ : ∀ I1 : Iv, (∀ a, (a < 15 ∨ 18 < a) → I1 a = I a) → CPY 15 1 I I1 → Q none I1 L P) : SP x M_X3_copyFrom [rfv x 15, rfv x 1] I L P Q := by
  refine SP.intro [some (rfv x 15), some (rfv x 1)] pn_X3_copyFrom (Nat.le_of_ble_eq_true rfl) rfl ?_
  refine v_aload_n 1 rfl dX3_copyFrom_0 rfl ?_
  refine v_get 4 (k := 0) 3 (rfv x 2) (by decide) rfl (by decide) (by decide) dX3_copyFrom_1 rfl fl_X3_11 rfl ?_
  refine v_iconst 5 (nI (0)) (by decide) dX3_copyFrom_4 rfl ?_
  refine v_aload_n 6 rfl dX3_copyFrom_5 rfl ?_
  refine v_get 9 (k := 0) 3 (rfv x 16) (by decide) rfl (by decide) (by decide) dX3_copyFrom_6 rfl fl_X3_11 rfl ?_
  refine v_iconst 10 (nI (0)) (by decide) dX3_copyFrom_9 rfl ?_
  refine v_bipush 12 (nI (32)) (by decide) dX3_copyFrom_10 rfl ?_
  refine v_acopy 15 (sp := 0) (dp := 0) (n := 32) (by decide) (by decide) rfl rfl dX3_copyFrom_12 rfl ml_X3_28 ⟨by decide, Nat.le_of_ble_eq_true rfl⟩ rfl rfl rfl ⟨by decide, by decide⟩ (by omega) (by omega) (fun I12 e12 => ?_)
  refine v_aload_n 16 rfl dX3_copyFrom_15 rfl ?_
  refine v_aload_n 17 rfl dX3_copyFrom_16 rfl ?_
  refine v_get 20 (k := 1) 3 (.int (I12 1 1)) (by decide) rfl (by decide) (by decide) dX3_copyFrom_17 rfl fl_X3_15 rfl ?_
  refine v_putI 23 (k := 1) 3 .int (by decide) rfl (by decide) (by decide) rfl (by decide +kernel) rfl rfl (fun _ _ => rfl) dX3_copyFrom_20 rfl fl_X3_15 (fun I20 e20 => ?_)
  refine v_aload_n 24 rfl dX3_copyFrom_23 rfl ?_
  refine v_aload_n 25 rfl dX3_copyFrom_24 rfl ?_
  refine v_get 28 (k := 2) 3 (.int (I20 1 2)) (by decide) rfl (by decide) (by decide) dX3_copyFrom_25 rfl fl_X3_19 rfl ?_
  refine v_putI 31 (k := 2) 3 .int (by decide) rfl (by decide) (by decide) rfl (by decide +kernel) rfl rfl (fun _ _ => rfl) dX3_copyFrom_28 rfl fl_X3_19 (fun I28 e28 => ?_)
  refine v_aload_n 32 rfl dX3_copyFrom_31 rfl ?_
  refine v_get 35 (k := 3) 3 (rfv x 3) (by decide) rfl (by decide) (by decide) dX3_copyFrom_32 rfl fl_X3_22 rfl ?_
  refine v_iconst 36 (nI (0)) (by decide) dX3_copyFrom_35 rfl ?_
  refine v_aload_n 37 rfl dX3_copyFrom_36 rfl ?_
  refine v_get 40 (k := 3) 3 (rfv x 17) (by decide) rfl (by decide) (by decide) dX3_copyFrom_37 rfl fl_X3_22 rfl ?_
  refine v_iconst 41 (nI (0)) (by decide) dX3_copyFrom_40 rfl ?_
  refine v_bipush 43 (nI (6)) (by decide) dX3_copyFrom_41 rfl ?_
  refine v_acopy 46 (sp := 0) (dp := 0) (n := 6) (by decide) (by decide) rfl rfl dX3_copyFrom_43 rfl ml_X3_28 ⟨by decide, Nat.le_of_ble_eq_true rfl⟩ rfl rfl rfl ⟨by decide, by decide⟩ (by omega) (by omega) (fun I43 e43 => ?_)
  refine v_aload_n 47 rfl dX3_copyFrom_46 rfl ?_
  refine v_get 50 (k := 4) 3 (rfv x 4) (by decide) rfl (by decide) (by decide) dX3_copyFrom_47 rfl fl_X3_25 rfl ?_
  refine v_iconst 51 (nI (0)) (by decide) dX3_copyFrom_50 rfl ?_
  refine v_aload_n 52 rfl dX3_copyFrom_51 rfl ?_
  refine v_get 55 (k := 4) 3 (rfv x 18) (by decide) rfl (by decide) (by decide) dX3_copyFrom_52 rfl fl_X3_25 rfl ?_
  refine v_iconst 56 (nI (0)) (by decide) dX3_copyFrom_55 rfl ?_
  refine v_bipush 58 (nI (42)) (by decide) dX3_copyFrom_56 rfl ?_
  refine v_acopy 61 (sp := 0) (dp := 0) (n := 42) (by decide) (by decide) rfl rfl dX3_copyFrom_58 rfl ml_X3_28 ⟨by decide, Nat.le_of_ble_eq_true rfl⟩ rfl rfl rfl ⟨by decide, by decide⟩ (by omega) (by omega) (fun I58 e58 => ?_)
  refine v_aload_n 62 rfl dX3_copyFrom_61 rfl ?_
  refine v_aload_n 63 rfl dX3_copyFrom_62 rfl ?_
  refine v_get 66 (k := 5) 3 (.int (I58 1 5)) (by decide) rfl (by decide) (by decide) dX3_copyFrom_63 rfl fl_X3_34 rfl ?_
  refine v_putI 69 (k := 5) 3 .int (by decide) rfl (by decide) (by decide) rfl (by decide +kernel) rfl rfl (fun _ _ => rfl) dX3_copyFrom_66 rfl fl_X3_34 (fun I66 e66 => ?_)
  refine v_vret rfl dX3_copyFrom_69 ?_
  refine hQ I66 (fun a ha => ?_) ⟨?_, ?_, ?_, fun j hj => ?_, fun j hj => ?_, fun j hj => ?_⟩
  · rw [up2_row e66 (by omega), cpy_row e58 (by omega), cpy_row e43 (by omega), up2_row e28 (by omega), up2_row e20 (by omega), cpy_row e12 (by omega)]
  · rw [up2_off e66 (by omega), cpy_row e58 (by decide), cpy_row e43 (by decide), up2_off e28 (by omega), up2_at e20, cpy_row e12 (by decide)]
  · rw [up2_off e66 (by omega), cpy_row e58 (by decide), cpy_row e43 (by decide), up2_at e28, up2_row e20 (by decide), cpy_row e12 (by decide)]
  · rw [up2_at e66, cpy_row e58 (by decide), cpy_row e43 (by decide), up2_row e28 (by decide), up2_row e20 (by decide), cpy_row e12 (by decide)]
  · rw [up2_row e66 (by decide), cpy_row e58 (by decide), cpy_row e43 (by decide), up2_row e28 (by decide), up2_row e20 (by decide), cpy_at e12 hj]
  · rw [up2_row e66 (by decide), cpy_row e58 (by decide), cpy_at e43 hj, up2_row e28 (by decide), up2_row e20 (by decide), cpy_row e12 (by decide)]
  · rw [up2_row e66 (by decide), cpy_at e58 hj, cpy_row e43 (by decide), up2_row e28 (by decide), up2_row e20 (by decide), cpy_row e12 (by decide)]
set_option maxHeartbeats 4000000 in
theorem sp_X3_copyFrom_19_1 {x : Cx} {Q : Qt} {I : Iv} {L : Lv} {P : Pv} (hQ : ∀ I1 : Iv, (∀ a, (a < 19 ∨ 22 < a) → I1 a = I a) → CPY 19 1 I I1 → Q none I1 L P) : SP x M_X3_copyFrom [rfv x 19, rfv x 1] I L P Q := by
  refine SP.intro [some (rfv x 19), some (rfv x 1)] pn_X3_copyFrom (Nat.le_of_ble_eq_true rfl) rfl ?_
  refine v_aload_n 1 rfl dX3_copyFrom_0 rfl ?_
  refine v_get 4 (k := 0) 3 (rfv x 2) (by decide) rfl (by decide) (by decide) dX3_copyFrom_1 rfl fl_X3_11 rfl ?_
  refine v_iconst 5 (nI (0)) (by decide) dX3_copyFrom_4 rfl ?_
  refine v_aload_n 6 rfl dX3_copyFrom_5 rfl ?_
  refine v_get 9 (k := 0) 3 (rfv x 20) (by decide) rfl (by decide) (by decide) dX3_copyFrom_6 rfl fl_X3_11 rfl ?_
  refine v_iconst 10 (nI (0)) (by decide) dX3_copyFrom_9 rfl ?_
  refine v_bipush 12 (nI (32)) (by decide) dX3_copyFrom_10 rfl ?_
  refine v_acopy 15 (sp := 0) (dp := 0) (n := 32) (by decide) (by decide) rfl rfl dX3_copyFrom_12 rfl ml_X3_28 ⟨by decide, Nat.le_of_ble_eq_true rfl⟩ rfl rfl rfl ⟨by decide, by decide⟩ (by omega) (by omega) (fun I12 e12 => ?_)
  refine v_aload_n 16 rfl dX3_copyFrom_15 rfl ?_
  refine v_aload_n 17 rfl dX3_copyFrom_16 rfl ?_
  refine v_get 20 (k := 1) 3 (.int (I12 1 1)) (by decide) rfl (by decide) (by decide) dX3_copyFrom_17 rfl fl_X3_15 rfl ?_
  refine v_putI 23 (k := 1) 3 .int (by decide) rfl (by decide) (by decide) rfl (by decide +kernel) rfl rfl (fun _ _ => rfl) dX3_copyFrom_20 rfl fl_X3_15 (fun I20 e20 => ?_)
  refine v_aload_n 24 rfl dX3_copyFrom_23 rfl ?_
  refine v_aload_n 25 rfl dX3_copyFrom_24 rfl ?_
  refine v_get 28 (k := 2) 3 (.int (I20 1 2)) (by decide) rfl (by decide) (by decide) dX3_copyFrom_25 rfl fl_X3_19 rfl ?_
  refine v_putI 31 (k := 2) 3 .int (by decide) rfl (by decide) (by decide) rfl (by decide +kernel) rfl rfl (fun _ _ => rfl) dX3_copyFrom_28 rfl fl_X3_19 (fun I28 e28 => ?_)
  refine v_aload_n 32 rfl dX3_copyFrom_31 rfl ?_
  refine v_get 35 (k := 3) 3 (rfv x 3) (by decide) rfl (by decide) (by decide) dX3_copyFrom_32 rfl fl_X3_22 rfl ?_
  refine v_iconst 36 (nI (0)) (by decide) dX3_copyFrom_35 rfl ?_
  refine v_aload_n 37 rfl dX3_copyFrom_36 rfl ?_
  refine v_get 40 (k := 3) 3 (rfv x 21) (by decide) rfl (by decide) (by decide) dX3_copyFrom_37 rfl fl_X3_22 rfl ?_
  refine v_iconst 41 (nI (0)) (by decide) dX3_copyFrom_40 rfl ?_
  refine v_bipush 43 (nI (6)) (by decide) dX3_copyFrom_41 rfl ?_
  refine v_acopy 46 (sp := 0) (dp := 0) (n := 6) (by decide) (by decide) rfl rfl dX3_copyFrom_43 rfl ml_X3_28 ⟨by decide, Nat.le_of_ble_eq_true rfl⟩ rfl rfl rfl ⟨by decide, by decide⟩ (by omega) (by omega) (fun I43 e43 => ?_)
  refine v_aload_n 47 rfl dX3_copyFrom_46 rfl ?_
  refine v_get 50 (k := 4) 3 (rfv x 4) (by decide) rfl (by decide) (by decide) dX3_copyFrom_47 rfl fl_X3_25 rfl ?_
  refine v_iconst 51 (nI (0)) (by decide) dX3_copyFrom_50 rfl ?_
  refine v_aload_n 52 rfl dX3_copyFrom_51 rfl ?_
  refine v_get 55 (k := 4) 3 (rfv x 22) (by decide) rfl (by decide) (by decide) dX3_copyFrom_52 rfl fl_X3_25 rfl ?_
  refine v_iconst 56 (nI (0)) (by decide) dX3_copyFrom_55 rfl ?_
  refine v_bipush 58 (nI (42)) (by decide) dX3_copyFrom_56 rfl ?_
  refine v_acopy 61 (sp := 0) (dp := 0) (n := 42) (by decide) (by decide) rfl rfl dX3_copyFrom_58 rfl ml_X3_28 ⟨by decide, Nat.le_of_ble_eq_true rfl⟩ rfl rfl rfl ⟨by decide, by decide⟩ (by omega) (by omega) (fun I58 e58 => ?_)
  refine v_aload_n 62 rfl dX3_copyFrom_61 rfl ?_
  refine v_aload_n 63 rfl dX3_copyFrom_62 rfl ?_
  refine v_get 66 (k := 5) 3 (.int (I58 1 5)) (by decide) rfl (by decide) (by decide) dX3_copyFrom_63 rfl fl_X3_34 rfl ?_
  refine v_putI 69 (k := 5) 3 .int (by decide) rfl (by decide) (by decide) rfl (by decide +kernel) rfl rfl (fun _ _ => rfl) dX3_copyFrom_66 rfl fl_X3_34 (fun I66 e66 => ?_)
  refine v_vret rfl dX3_copyFrom_69 ?_
  refine hQ I66 (fun a ha => ?_) ⟨?_, ?_, ?_, fun j hj => ?_, fun j hj => ?_, fun j hj => ?_⟩
  · rw [up2_row e66 (by omega), cpy_row e58 (by omega), cpy_row e43 (by omega), up2_row e28 (by omega), up2_row e20 (by omega), cpy_row e12 (by omega)]
  · rw [up2_off e66 (by omega), cpy_row e58 (by decide), cpy_row e43 (by decide), up2_off e28 (by omega), up2_at e20, cpy_row e12 (by decide)]
  · rw [up2_off e66 (by omega), cpy_row e58 (by decide), cpy_row e43 (by decide), up2_at e28, up2_row e20 (by decide), cpy_row e12 (by decide)]
  · rw [up2_at e66, cpy_row e58 (by decide), cpy_row e43 (by decide), up2_row e28 (by decide), up2_row e20 (by decide), cpy_row e12 (by decide)]
  · rw [up2_row e66 (by decide), cpy_row e58 (by decide), cpy_row e43 (by decide), up2_row e28 (by decide), up2_row e20 (by decide), cpy_at e12 hj]
  · rw [up2_row e66 (by decide), cpy_row e58 (by decide), cpy_at e43 hj, up2_row e28 (by decide), up2_row e20 (by decide), cpy_row e12 (by decide)]
  · rw [up2_row e66 (by decide), cpy_at e58 hj, cpy_row e43 (by decide), up2_row e28 (by decide), up2_row e20 (by decide), cpy_row e12 (by decide)]
set_option maxHeartbeats 4000000 in
theorem sp_X3_copyFrom_23_1 {x : Cx} {Q : Qt} {I : Iv} {L : Lv} {P : Pv} (hQ : ∀ I1 : Iv, (∀ a, (a < 23 ∨ 26 < a) → I1 a = I a) → CPY 23 1 I I1 → Q none I1 L P) : SP x M_X3_copyFrom [rfv x 23, rfv x 1] I L P Q := by
  refine SP.intro [some (rfv x 23), some (rfv x 1)] pn_X3_copyFrom (Nat.le_of_ble_eq_true rfl) rfl ?_
  refine v_aload_n 1 rfl dX3_copyFrom_0 rfl ?_
  refine v_get 4 (k := 0) 3 (rfv x 2) (by decide) rfl (by decide) (by decide) dX3_copyFrom_1 rfl fl_X3_11 rfl ?_
  refine v_iconst 5 (nI (0)) (by decide) dX3_copyFrom_4 rfl ?_
  refine v_aload_n 6 rfl dX3_copyFrom_5 rfl ?_
  refine v_get 9 (k := 0) 3 (rfv x 24) (by decide) rfl (by decide) (by decide) dX3_copyFrom_6 rfl fl_X3_11 rfl ?_
  refine v_iconst 10 (nI (0)) (by decide) dX3_copyFrom_9 rfl ?_
  refine v_bipush 12 (nI (32)) (by decide) dX3_copyFrom_10 rfl ?_
  refine v_acopy 15 (sp := 0) (dp := 0) (n := 32) (by decide) (by decide) rfl rfl dX3_copyFrom_12 rfl ml_X3_28 ⟨by decide, Nat.le_of_ble_eq_true rfl⟩ rfl rfl rfl ⟨by decide, by decide⟩ (by omega) (by omega) (fun I12 e12 => ?_)
  refine v_aload_n 16 rfl dX3_copyFrom_15 rfl ?_
  refine v_aload_n 17 rfl dX3_copyFrom_16 rfl ?_
  refine v_get 20 (k := 1) 3 (.int (I12 1 1)) (by decide) rfl (by decide) (by decide) dX3_copyFrom_17 rfl fl_X3_15 rfl ?_
  refine v_putI 23 (k := 1) 3 .int (by decide) rfl (by decide) (by decide) rfl (by decide +kernel) rfl rfl (fun _ _ => rfl) dX3_copyFrom_20 rfl fl_X3_15 (fun I20 e20 => ?_)
  refine v_aload_n 24 rfl dX3_copyFrom_23 rfl ?_
  refine v_aload_n 25 rfl dX3_copyFrom_24 rfl ?_
  refine v_get 28 (k := 2) 3 (.int (I20 1 2)) (by decide) rfl (by decide) (by decide) dX3_copyFrom_25 rfl fl_X3_19 rfl ?_
  refine v_putI 31 (k := 2) 3 .int (by decide) rfl (by decide) (by decide) rfl (by decide +kernel) rfl rfl (fun _ _ => rfl) dX3_copyFrom_28 rfl fl_X3_19 (fun I28 e28 => ?_)
  refine v_aload_n 32 rfl dX3_copyFrom_31 rfl ?_
  refine v_get 35 (k := 3) 3 (rfv x 3) (by decide) rfl (by decide) (by decide) dX3_copyFrom_32 rfl fl_X3_22 rfl ?_
  refine v_iconst 36 (nI (0)) (by decide) dX3_copyFrom_35 rfl ?_
  refine v_aload_n 37 rfl dX3_copyFrom_36 rfl ?_
  refine v_get 40 (k := 3) 3 (rfv x 25) (by decide) rfl (by decide) (by decide) dX3_copyFrom_37 rfl fl_X3_22 rfl ?_
  refine v_iconst 41 (nI (0)) (by decide) dX3_copyFrom_40 rfl ?_
  refine v_bipush 43 (nI (6)) (by decide) dX3_copyFrom_41 rfl ?_
  refine v_acopy 46 (sp := 0) (dp := 0) (n := 6) (by decide) (by decide) rfl rfl dX3_copyFrom_43 rfl ml_X3_28 ⟨by decide, Nat.le_of_ble_eq_true rfl⟩ rfl rfl rfl ⟨by decide, by decide⟩ (by omega) (by omega) (fun I43 e43 => ?_)
  refine v_aload_n 47 rfl dX3_copyFrom_46 rfl ?_
  refine v_get 50 (k := 4) 3 (rfv x 4) (by decide) rfl (by decide) (by decide) dX3_copyFrom_47 rfl fl_X3_25 rfl ?_
  refine v_iconst 51 (nI (0)) (by decide) dX3_copyFrom_50 rfl ?_
  refine v_aload_n 52 rfl dX3_copyFrom_51 rfl ?_
  refine v_get 55 (k := 4) 3 (rfv x 26) (by decide) rfl (by decide) (by decide) dX3_copyFrom_52 rfl fl_X3_25 rfl ?_
  refine v_iconst 56 (nI (0)) (by decide) dX3_copyFrom_55 rfl ?_
  refine v_bipush 58 (nI (42)) (by decide) dX3_copyFrom_56 rfl ?_
  refine v_acopy 61 (sp := 0) (dp := 0) (n := 42) (by decide) (by decide) rfl rfl dX3_copyFrom_58 rfl ml_X3_28 ⟨by decide, Nat.le_of_ble_eq_true rfl⟩ rfl rfl rfl ⟨by decide, by decide⟩ (by omega) (by omega) (fun I58 e58 => ?_)
  refine v_aload_n 62 rfl dX3_copyFrom_61 rfl ?_
  refine v_aload_n 63 rfl dX3_copyFrom_62 rfl ?_
  refine v_get 66 (k := 5) 3 (.int (I58 1 5)) (by decide) rfl (by decide) (by decide) dX3_copyFrom_63 rfl fl_X3_34 rfl ?_
  refine v_putI 69 (k := 5) 3 .int (by decide) rfl (by decide) (by decide) rfl (by decide +kernel) rfl rfl (fun _ _ => rfl) dX3_copyFrom_66 rfl fl_X3_34 (fun I66 e66 => ?_)
  refine v_vret rfl dX3_copyFrom_69 ?_
  refine hQ I66 (fun a ha => ?_) ⟨?_, ?_, ?_, fun j hj => ?_, fun j hj => ?_, fun j hj => ?_⟩
  · rw [up2_row e66 (by omega), cpy_row e58 (by omega), cpy_row e43 (by omega), up2_row e28 (by omega), up2_row e20 (by omega), cpy_row e12 (by omega)]
  · rw [up2_off e66 (by omega), cpy_row e58 (by decide), cpy_row e43 (by decide), up2_off e28 (by omega), up2_at e20, cpy_row e12 (by decide)]
  · rw [up2_off e66 (by omega), cpy_row e58 (by decide), cpy_row e43 (by decide), up2_at e28, up2_row e20 (by decide), cpy_row e12 (by decide)]
  · rw [up2_at e66, cpy_row e58 (by decide), cpy_row e43 (by decide), up2_row e28 (by decide), up2_row e20 (by decide), cpy_row e12 (by decide)]
  · rw [up2_row e66 (by decide), cpy_row e58 (by decide), cpy_row e43 (by decide), up2_row e28 (by decide), up2_row e20 (by decide), cpy_at e12 hj]
  · rw [up2_row e66 (by decide), cpy_row e58 (by decide), cpy_at e43 hj, up2_row e28 (by decide), up2_row e20 (by decide), cpy_row e12 (by decide)]
  · rw [up2_row e66 (by decide), cpy_at e58 hj, cpy_row e43 (by decide), up2_row e28 (by decide), up2_row e20 (by decide), cpy_row e12 (by decide)]
set_option maxHeartbeats 4000000 in
theorem sp_X3_copyFrom_1_11 {x : Cx} {Q : Qt} {I : Iv} {L : Lv} {P : Pv} (hQ : ∀ I1 : Iv, (∀ a, (a < 1 ∨ 4 < a) → I1 a = I a) → CPY 1 11 I I1 → Q none I1 L P) : SP x M_X3_copyFrom [rfv x 1, rfv x 11] I L P Q := by
  refine SP.intro [some (rfv x 1), some (rfv x 11)] pn_X3_copyFrom (Nat.le_of_ble_eq_true rfl) rfl ?_
  refine v_aload_n 1 rfl dX3_copyFrom_0 rfl ?_
  refine v_get 4 (k := 0) 3 (rfv x 12) (by decide) rfl (by decide) (by decide) dX3_copyFrom_1 rfl fl_X3_11 rfl ?_
  refine v_iconst 5 (nI (0)) (by decide) dX3_copyFrom_4 rfl ?_
  refine v_aload_n 6 rfl dX3_copyFrom_5 rfl ?_
  refine v_get 9 (k := 0) 3 (rfv x 2) (by decide) rfl (by decide) (by decide) dX3_copyFrom_6 rfl fl_X3_11 rfl ?_
  refine v_iconst 10 (nI (0)) (by decide) dX3_copyFrom_9 rfl ?_
  refine v_bipush 12 (nI (32)) (by decide) dX3_copyFrom_10 rfl ?_
  refine v_acopy 15 (sp := 0) (dp := 0) (n := 32) (by decide) (by decide) rfl rfl dX3_copyFrom_12 rfl ml_X3_28 ⟨by decide, Nat.le_of_ble_eq_true rfl⟩ rfl rfl rfl ⟨by decide, by decide⟩ (by omega) (by omega) (fun I12 e12 => ?_)
  refine v_aload_n 16 rfl dX3_copyFrom_15 rfl ?_
  refine v_aload_n 17 rfl dX3_copyFrom_16 rfl ?_
  refine v_get 20 (k := 1) 3 (.int (I12 11 1)) (by decide) rfl (by decide) (by decide) dX3_copyFrom_17 rfl fl_X3_15 rfl ?_
  refine v_putI 23 (k := 1) 3 .int (by decide) rfl (by decide) (by decide) rfl (by decide +kernel) rfl rfl (fun _ _ => rfl) dX3_copyFrom_20 rfl fl_X3_15 (fun I20 e20 => ?_)
  refine v_aload_n 24 rfl dX3_copyFrom_23 rfl ?_
  refine v_aload_n 25 rfl dX3_copyFrom_24 rfl ?_
  refine v_get 28 (k := 2) 3 (.int (I20 11 2)) (by decide) rfl (by decide) (by decide) dX3_copyFrom_25 rfl fl_X3_19 rfl ?_
  refine v_putI 31 (k := 2) 3 .int (by decide) rfl (by decide) (by decide) rfl (by decide +kernel) rfl rfl (fun _ _ => rfl) dX3_copyFrom_28 rfl fl_X3_19 (fun I28 e28 => ?_)
  refine v_aload_n 32 rfl dX3_copyFrom_31 rfl ?_
  refine v_get 35 (k := 3) 3 (rfv x 13) (by decide) rfl (by decide) (by decide) dX3_copyFrom_32 rfl fl_X3_22 rfl ?_
  refine v_iconst 36 (nI (0)) (by decide) dX3_copyFrom_35 rfl ?_
  refine v_aload_n 37 rfl dX3_copyFrom_36 rfl ?_
  refine v_get 40 (k := 3) 3 (rfv x 3) (by decide) rfl (by decide) (by decide) dX3_copyFrom_37 rfl fl_X3_22 rfl ?_
  refine v_iconst 41 (nI (0)) (by decide) dX3_copyFrom_40 rfl ?_
  refine v_bipush 43 (nI (6)) (by decide) dX3_copyFrom_41 rfl ?_
  refine v_acopy 46 (sp := 0) (dp := 0) (n := 6) (by decide) (by decide) rfl rfl dX3_copyFrom_43 rfl ml_X3_28 ⟨by decide, Nat.le_of_ble_eq_true rfl⟩ rfl rfl rfl ⟨by decide, by decide⟩ (by omega) (by omega) (fun I43 e43 => ?_)
  refine v_aload_n 47 rfl dX3_copyFrom_46 rfl ?_
  refine v_get 50 (k := 4) 3 (rfv x 14) (by decide) rfl (by decide) (by decide) dX3_copyFrom_47 rfl fl_X3_25 rfl ?_
  refine v_iconst 51 (nI (0)) (by decide) dX3_copyFrom_50 rfl ?_
  refine v_aload_n 52 rfl dX3_copyFrom_51 rfl ?_
  refine v_get 55 (k := 4) 3 (rfv x 4) (by decide) rfl (by decide) (by decide) dX3_copyFrom_52 rfl fl_X3_25 rfl ?_
  refine v_iconst 56 (nI (0)) (by decide) dX3_copyFrom_55 rfl ?_
  refine v_bipush 58 (nI (42)) (by decide) dX3_copyFrom_56 rfl ?_
  refine v_acopy 61 (sp := 0) (dp := 0) (n := 42) (by decide) (by decide) rfl rfl dX3_copyFrom_58 rfl ml_X3_28 ⟨by decide, Nat.le_of_ble_eq_true rfl⟩ rfl rfl rfl ⟨by decide, by decide⟩ (by omega) (by omega) (fun I58 e58 => ?_)
  refine v_aload_n 62 rfl dX3_copyFrom_61 rfl ?_
  refine v_aload_n 63 rfl dX3_copyFrom_62 rfl ?_
  refine v_get 66 (k := 5) 3 (.int (I58 11 5)) (by decide) rfl (by decide) (by decide) dX3_copyFrom_63 rfl fl_X3_34 rfl ?_
  refine v_putI 69 (k := 5) 3 .int (by decide) rfl (by decide) (by decide) rfl (by decide +kernel) rfl rfl (fun _ _ => rfl) dX3_copyFrom_66 rfl fl_X3_34 (fun I66 e66 => ?_)
  refine v_vret rfl dX3_copyFrom_69 ?_
  refine hQ I66 (fun a ha => ?_) ⟨?_, ?_, ?_, fun j hj => ?_, fun j hj => ?_, fun j hj => ?_⟩
  · rw [up2_row e66 (by omega), cpy_row e58 (by omega), cpy_row e43 (by omega), up2_row e28 (by omega), up2_row e20 (by omega), cpy_row e12 (by omega)]
  · rw [up2_off e66 (by omega), cpy_row e58 (by decide), cpy_row e43 (by decide), up2_off e28 (by omega), up2_at e20, cpy_row e12 (by decide)]
  · rw [up2_off e66 (by omega), cpy_row e58 (by decide), cpy_row e43 (by decide), up2_at e28, up2_row e20 (by decide), cpy_row e12 (by decide)]
  · rw [up2_at e66, cpy_row e58 (by decide), cpy_row e43 (by decide), up2_row e28 (by decide), up2_row e20 (by decide), cpy_row e12 (by decide)]
  · rw [up2_row e66 (by decide), cpy_row e58 (by decide), cpy_row e43 (by decide), up2_row e28 (by decide), up2_row e20 (by decide), cpy_at e12 hj]
  · rw [up2_row e66 (by decide), cpy_row e58 (by decide), cpy_at e43 hj, up2_row e28 (by decide), up2_row e20 (by decide), cpy_row e12 (by decide)]
  · rw [up2_row e66 (by decide), cpy_at e58 hj, cpy_row e43 (by decide), up2_row e28 (by decide), up2_row e20 (by decide), cpy_row e12 (by decide)]
set_option maxHeartbeats 4000000 in
theorem sp_X3_copyFrom_1_15 {x : Cx} {Q : Qt} {I : Iv} {L : Lv} {P : Pv} (hQ : ∀ I1 : Iv, (∀ a, (a < 1 ∨ 4 < a) → I1 a = I a) → CPY 1 15 I I1 → Q none I1 L P) : SP x M_X3_copyFrom [rfv x 1, rfv x 15] I L P Q := by
  refine SP.intro [some (rfv x 1), some (rfv x 15)] pn_X3_copyFrom (Nat.le_of_ble_eq_true rfl) rfl ?_
  refine v_aload_n 1 rfl dX3_copyFrom_0 rfl ?_
  refine v_get 4 (k := 0) 3 (rfv x 16) (by decide) rfl (by decide) (by decide) dX3_copyFrom_1 rfl fl_X3_11 rfl ?_
  refine v_iconst 5 (nI (0)) (by decide) dX3_copyFrom_4 rfl ?_
  refine v_aload_n 6 rfl dX3_copyFrom_5 rfl ?_
  refine v_get 9 (k := 0) 3 (rfv x 2) (by decide) rfl (by decide) (by decide) dX3_copyFrom_6 rfl fl_X3_11 rfl ?_
  refine v_iconst 10 (nI (0)) (by decide) dX3_copyFrom_9 rfl ?_
  refine v_bipush 12 (nI (32)) (by decide) dX3_copyFrom_10 rfl ?_
  refine v_acopy 15 (sp := 0) (dp := 0) (n := 32) (by decide) (by decide) rfl rfl dX3_copyFrom_12 rfl ml_X3_28 ⟨by decide, Nat.le_of_ble_eq_true rfl⟩ rfl rfl rfl ⟨by decide, by decide⟩ (by omega) (by omega) (fun I12 e12 => ?_)
  refine v_aload_n 16 rfl dX3_copyFrom_15 rfl ?_
  refine v_aload_n 17 rfl dX3_copyFrom_16 rfl ?_
  refine v_get 20 (k := 1) 3 (.int (I12 15 1)) (by decide) rfl (by decide) (by decide) dX3_copyFrom_17 rfl fl_X3_15 rfl ?_
  refine v_putI 23 (k := 1) 3 .int (by decide) rfl (by decide) (by decide) rfl (by decide +kernel) rfl rfl (fun _ _ => rfl) dX3_copyFrom_20 rfl fl_X3_15 (fun I20 e20 => ?_)
  refine v_aload_n 24 rfl dX3_copyFrom_23 rfl ?_
  refine v_aload_n 25 rfl dX3_copyFrom_24 rfl ?_
  refine v_get 28 (k := 2) 3 (.int (I20 15 2)) (by decide) rfl (by decide) (by decide) dX3_copyFrom_25 rfl fl_X3_19 rfl ?_
  refine v_putI 31 (k := 2) 3 .int (by decide) rfl (by decide) (by decide) rfl (by decide +kernel) rfl rfl (fun _ _ => rfl) dX3_copyFrom_28 rfl fl_X3_19 (fun I28 e28 => ?_)
  refine v_aload_n 32 rfl dX3_copyFrom_31 rfl ?_
  refine v_get 35 (k := 3) 3 (rfv x 17) (by decide) rfl (by decide) (by decide) dX3_copyFrom_32 rfl fl_X3_22 rfl ?_
  refine v_iconst 36 (nI (0)) (by decide) dX3_copyFrom_35 rfl ?_
  refine v_aload_n 37 rfl dX3_copyFrom_36 rfl ?_
  refine v_get 40 (k := 3) 3 (rfv x 3) (by decide) rfl (by decide) (by decide) dX3_copyFrom_37 rfl fl_X3_22 rfl ?_
  refine v_iconst 41 (nI (0)) (by decide) dX3_copyFrom_40 rfl ?_
  refine v_bipush 43 (nI (6)) (by decide) dX3_copyFrom_41 rfl ?_
  refine v_acopy 46 (sp := 0) (dp := 0) (n := 6) (by decide) (by decide) rfl rfl dX3_copyFrom_43 rfl ml_X3_28 ⟨by decide, Nat.le_of_ble_eq_true rfl⟩ rfl rfl rfl ⟨by decide, by decide⟩ (by omega) (by omega) (fun I43 e43 => ?_)
  refine v_aload_n 47 rfl dX3_copyFrom_46 rfl ?_
  refine v_get 50 (k := 4) 3 (rfv x 18) (by decide) rfl (by decide) (by decide) dX3_copyFrom_47 rfl fl_X3_25 rfl ?_
  refine v_iconst 51 (nI (0)) (by decide) dX3_copyFrom_50 rfl ?_
  refine v_aload_n 52 rfl dX3_copyFrom_51 rfl ?_
  refine v_get 55 (k := 4) 3 (rfv x 4) (by decide) rfl (by decide) (by decide) dX3_copyFrom_52 rfl fl_X3_25 rfl ?_
  refine v_iconst 56 (nI (0)) (by decide) dX3_copyFrom_55 rfl ?_
  refine v_bipush 58 (nI (42)) (by decide) dX3_copyFrom_56 rfl ?_
  refine v_acopy 61 (sp := 0) (dp := 0) (n := 42) (by decide) (by decide) rfl rfl dX3_copyFrom_58 rfl ml_X3_28 ⟨by decide, Nat.le_of_ble_eq_true rfl⟩ rfl rfl rfl ⟨by decide, by decide⟩ (by omega) (by omega) (fun I58 e58 => ?_)
  refine v_aload_n 62 rfl dX3_copyFrom_61 rfl ?_
  refine v_aload_n 63 rfl dX3_copyFrom_62 rfl ?_
  refine v_get 66 (k := 5) 3 (.int (I58 15 5)) (by decide) rfl (by decide) (by decide) dX3_copyFrom_63 rfl fl_X3_34 rfl ?_
  refine v_putI 69 (k := 5) 3 .int (by decide) rfl (by decide) (by decide) rfl (by decide +kernel) rfl rfl (fun _ _ => rfl) dX3_copyFrom_66 rfl fl_X3_34 (fun I66 e66 => ?_)
  refine v_vret rfl dX3_copyFrom_69 ?_
  refine hQ I66 (fun a ha => ?_) ⟨?_, ?_, ?_, fun j hj => ?_, fun j hj => ?_, fun j hj => ?_⟩
  · rw [up2_row e66 (by omega), cpy_row e58 (by omega), cpy_row e43 (by omega), up2_row e28 (by omega), up2_row e20 (by omega), cpy_row e12 (by omega)]
  · rw [up2_off e66 (by omega), cpy_row e58 (by decide), cpy_row e43 (by decide), up2_off e28 (by omega), up2_at e20, cpy_row e12 (by decide)]
  · rw [up2_off e66 (by omega), cpy_row e58 (by decide), cpy_row e43 (by decide), up2_at e28, up2_row e20 (by decide), cpy_row e12 (by decide)]
  · rw [up2_at e66, cpy_row e58 (by decide), cpy_row e43 (by decide), up2_row e28 (by decide), up2_row e20 (by decide), cpy_row e12 (by decide)]
  · rw [up2_row e66 (by decide), cpy_row e58 (by decide), cpy_row e43 (by decide), up2_row e28 (by decide), up2_row e20 (by decide), cpy_at e12 hj]
  · rw [up2_row e66 (by decide), cpy_row e58 (by decide), cpy_at e43 hj, up2_row e28 (by decide), up2_row e20 (by decide), cpy_row e12 (by decide)]
  · rw [up2_row e66 (by decide), cpy_at e58 hj, cpy_row e43 (by decide), up2_row e28 (by decide), up2_row e20 (by decide), cpy_row e12 (by decide)]
set_option maxHeartbeats 4000000 in
theorem sp_X3_copyFrom_1_19 {x : Cx} {Q : Qt} {I : Iv} {L : Lv} {P : Pv} (hQ : ∀ I1 : Iv, (∀ a, (a < 1 ∨ 4 < a) → I1 a = I a) → CPY 1 19 I I1 → Q none I1 L P) : SP x M_X3_copyFrom [rfv x 1, rfv x 19] I L P Q := by
  refine SP.intro [some (rfv x 1), some (rfv x 19)] pn_X3_copyFrom (Nat.le_of_ble_eq_true rfl) rfl ?_
  refine v_aload_n 1 rfl dX3_copyFrom_0 rfl ?_
  refine v_get 4 (k := 0) 3 (rfv x 20) (by decide) rfl (by decide) (by decide) dX3_copyFrom_1 rfl fl_X3_11 rfl ?_
  refine v_iconst 5 (nI (0)) (by decide) dX3_copyFrom_4 rfl ?_
  refine v_aload_n 6 rfl dX3_copyFrom_5 rfl ?_
  refine v_get 9 (k := 0) 3 (rfv x 2) (by decide) rfl (by decide) (by decide) dX3_copyFrom_6 rfl fl_X3_11 rfl ?_
  refine v_iconst 10 (nI (0)) (by decide) dX3_copyFrom_9 rfl ?_
  refine v_bipush 12 (nI (32)) (by decide) dX3_copyFrom_10 rfl ?_
  refine v_acopy 15 (sp := 0) (dp := 0) (n := 32) (by decide) (by decide) rfl rfl dX3_copyFrom_12 rfl ml_X3_28 ⟨by decide, Nat.le_of_ble_eq_true rfl⟩ rfl rfl rfl ⟨by decide, by decide⟩ (by omega) (by omega) (fun I12 e12 => ?_)
  refine v_aload_n 16 rfl dX3_copyFrom_15 rfl ?_
  refine v_aload_n 17 rfl dX3_copyFrom_16 rfl ?_
  refine v_get 20 (k := 1) 3 (.int (I12 19 1)) (by decide) rfl (by decide) (by decide) dX3_copyFrom_17 rfl fl_X3_15 rfl ?_
  refine v_putI 23 (k := 1) 3 .int (by decide) rfl (by decide) (by decide) rfl (by decide +kernel) rfl rfl (fun _ _ => rfl) dX3_copyFrom_20 rfl fl_X3_15 (fun I20 e20 => ?_)
  refine v_aload_n 24 rfl dX3_copyFrom_23 rfl ?_
  refine v_aload_n 25 rfl dX3_copyFrom_24 rfl ?_
  refine v_get 28 (k := 2) 3 (.int (I20 19 2)) (by decide) rfl (by decide) (by decide) dX3_copyFrom_25 rfl fl_X3_19 rfl ?_
  refine v_putI 31 (k := 2) 3 .int (by decide) rfl (by decide) (by decide) rfl (by decide +kernel) rfl rfl (fun _ _ => rfl) dX3_copyFrom_28 rfl fl_X3_19 (fun I28 e28 => ?_)
  refine v_aload_n 32 rfl dX3_copyFrom_31 rfl ?_
  refine v_get 35 (k := 3) 3 (rfv x 21) (by decide) rfl (by decide) (by decide) dX3_copyFrom_32 rfl fl_X3_22 rfl ?_
  refine v_iconst 36 (nI (0)) (by decide) dX3_copyFrom_35 rfl ?_
  refine v_aload_n 37 rfl dX3_copyFrom_36 rfl ?_
  refine v_get 40 (k := 3) 3 (rfv x 3) (by decide) rfl (by decide) (by decide) dX3_copyFrom_37 rfl fl_X3_22 rfl ?_
  refine v_iconst 41 (nI (0)) (by decide) dX3_copyFrom_40 rfl ?_
  refine v_bipush 43 (nI (6)) (by decide) dX3_copyFrom_41 rfl ?_
  refine v_acopy 46 (sp := 0) (dp := 0) (n := 6) (by decide) (by decide) rfl rfl dX3_copyFrom_43 rfl ml_X3_28 ⟨by decide, Nat.le_of_ble_eq_true rfl⟩ rfl rfl rfl ⟨by decide, by decide⟩ (by omega) (by omega) (fun I43 e43 => ?_)
  refine v_aload_n 47 rfl dX3_copyFrom_46 rfl ?_
  refine v_get 50 (k := 4) 3 (rfv x 22) (by decide) rfl (by decide) (by decide) dX3_copyFrom_47 rfl fl_X3_25 rfl ?_
  refine v_iconst 51 (nI (0)) (by decide) dX3_copyFrom_50 rfl ?_
  refine v_aload_n 52 rfl dX3_copyFrom_51 rfl ?_
  refine v_get 55 (k := 4) 3 (rfv x 4) (by decide) rfl (by decide) (by decide) dX3_copyFrom_52 rfl fl_X3_25 rfl ?_
  refine v_iconst 56 (nI (0)) (by decide) dX3_copyFrom_55 rfl ?_
  refine v_bipush 58 (nI (42)) (by decide) dX3_copyFrom_56 rfl ?_
  refine v_acopy 61 (sp := 0) (dp := 0) (n := 42) (by decide) (by decide) rfl rfl dX3_copyFrom_58 rfl ml_X3_28 ⟨by decide, Nat.le_of_ble_eq_true rfl⟩ rfl rfl rfl ⟨by decide, by decide⟩ (by omega) (by omega) (fun I58 e58 => ?_)
  refine v_aload_n 62 rfl dX3_copyFrom_61 rfl ?_
  refine v_aload_n 63 rfl dX3_copyFrom_62 rfl ?_
  refine v_get 66 (k := 5) 3 (.int (I58 19 5)) (by decide) rfl (by decide) (by decide) dX3_copyFrom_63 rfl fl_X3_34 rfl ?_
  refine v_putI 69 (k := 5) 3 .int (by decide) rfl (by decide) (by decide) rfl (by decide +kernel) rfl rfl (fun _ _ => rfl) dX3_copyFrom_66 rfl fl_X3_34 (fun I66 e66 => ?_)
  refine v_vret rfl dX3_copyFrom_69 ?_
  refine hQ I66 (fun a ha => ?_) ⟨?_, ?_, ?_, fun j hj => ?_, fun j hj => ?_, fun j hj => ?_⟩
  · rw [up2_row e66 (by omega), cpy_row e58 (by omega), cpy_row e43 (by omega), up2_row e28 (by omega), up2_row e20 (by omega), cpy_row e12 (by omega)]
  · rw [up2_off e66 (by omega), cpy_row e58 (by decide), cpy_row e43 (by decide), up2_off e28 (by omega), up2_at e20, cpy_row e12 (by decide)]
  · rw [up2_off e66 (by omega), cpy_row e58 (by decide), cpy_row e43 (by decide), up2_at e28, up2_row e20 (by decide), cpy_row e12 (by decide)]
  · rw [up2_at e66, cpy_row e58 (by decide), cpy_row e43 (by decide), up2_row e28 (by decide), up2_row e20 (by decide), cpy_row e12 (by decide)]
  · rw [up2_row e66 (by decide), cpy_row e58 (by decide), cpy_row e43 (by decide), up2_row e28 (by decide), up2_row e20 (by decide), cpy_at e12 hj]
  · rw [up2_row e66 (by decide), cpy_row e58 (by decide), cpy_at e43 hj, up2_row e28 (by decide), up2_row e20 (by decide), cpy_row e12 (by decide)]
  · rw [up2_row e66 (by decide), cpy_at e58 hj, cpy_row e43 (by decide), up2_row e28 (by decide), up2_row e20 (by decide), cpy_row e12 (by decide)]
set_option maxHeartbeats 4000000 in
theorem sp_X3_copyFrom_1_23 {x : Cx} {Q : Qt} {I : Iv} {L : Lv} {P : Pv} (hQ : ∀ I1 : Iv, (∀ a, (a < 1 ∨ 4 < a) → I1 a = I a) → CPY 1 23 I I1 → Q none I1 L P) : SP x M_X3_copyFrom [rfv x 1, rfv x 23] I L P Q := by
  refine SP.intro [some (rfv x 1), some (rfv x 23)] pn_X3_copyFrom (Nat.le_of_ble_eq_true rfl) rfl ?_
  refine v_aload_n 1 rfl dX3_copyFrom_0 rfl ?_
  refine v_get 4 (k := 0) 3 (rfv x 24) (by decide) rfl (by decide) (by decide) dX3_copyFrom_1 rfl fl_X3_11 rfl ?_
  refine v_iconst 5 (nI (0)) (by decide) dX3_copyFrom_4 rfl ?_
  refine v_aload_n 6 rfl dX3_copyFrom_5 rfl ?_
  refine v_get 9 (k := 0) 3 (rfv x 2) (by decide) rfl (by decide) (by decide) dX3_copyFrom_6 rfl fl_X3_11 rfl ?_
  refine v_iconst 10 (nI (0)) (by decide) dX3_copyFrom_9 rfl ?_
  refine v_bipush 12 (nI (32)) (by decide) dX3_copyFrom_10 rfl ?_
  refine v_acopy 15 (sp := 0) (dp := 0) (n := 32) (by decide) (by decide) rfl rfl dX3_copyFrom_12 rfl ml_X3_28 ⟨by decide, Nat.le_of_ble_eq_true rfl⟩ rfl rfl rfl ⟨by decide, by decide⟩ (by omega) (by omega) (fun I12 e12 => ?_)
  refine v_aload_n 16 rfl dX3_copyFrom_15 rfl ?_
  refine v_aload_n 17 rfl dX3_copyFrom_16 rfl ?_
  refine v_get 20 (k := 1) 3 (.int (I12 23 1)) (by decide) rfl (by decide) (by decide) dX3_copyFrom_17 rfl fl_X3_15 rfl ?_
  refine v_putI 23 (k := 1) 3 .int (by decide) rfl (by decide) (by decide) rfl (by decide +kernel) rfl rfl (fun _ _ => rfl) dX3_copyFrom_20 rfl fl_X3_15 (fun I20 e20 => ?_)
  refine v_aload_n 24 rfl dX3_copyFrom_23 rfl ?_
  refine v_aload_n 25 rfl dX3_copyFrom_24 rfl ?_
  refine v_get 28 (k := 2) 3 (.int (I20 23 2)) (by decide) rfl (by decide) (by decide) dX3_copyFrom_25 rfl fl_X3_19 rfl ?_
  refine v_putI 31 (k := 2) 3 .int (by decide) rfl (by decide) (by decide) rfl (by decide +kernel) rfl rfl (fun _ _ => rfl) dX3_copyFrom_28 rfl fl_X3_19 (fun I28 e28 => ?_)
  refine v_aload_n 32 rfl dX3_copyFrom_31 rfl ?_
  refine v_get 35 (k := 3) 3 (rfv x 25) (by decide) rfl (by decide) (by decide) dX3_copyFrom_32 rfl fl_X3_22 rfl ?_
  refine v_iconst 36 (nI (0)) (by decide) dX3_copyFrom_35 rfl ?_
  refine v_aload_n 37 rfl dX3_copyFrom_36 rfl ?_
  refine v_get 40 (k := 3) 3 (rfv x 3) (by decide) rfl (by decide) (by decide) dX3_copyFrom_37 rfl fl_X3_22 rfl ?_
  refine v_iconst 41 (nI (0)) (by decide) dX3_copyFrom_40 rfl ?_
  refine v_bipush 43 (nI (6)) (by decide) dX3_copyFrom_41 rfl ?_
  refine v_acopy 46 (sp := 0) (dp := 0) (n := 6) (by decide) (by decide) rfl rfl dX3_copyFrom_43 rfl ml_X3_28 ⟨by decide, Nat.le_of_ble_eq_true rfl⟩ rfl rfl rfl ⟨by decide, by decide⟩ (by omega) (by omega) (fun I43 e43 => ?_)
  refine v_aload_n 47 rfl dX3_copyFrom_46 rfl ?_
  refine v_get 50 (k := 4) 3 (rfv x 26) (by decide) rfl (by decide) (by decide) dX3_copyFrom_47 rfl fl_X3_25 rfl ?_
  refine v_iconst 51 (nI (0)) (by decide) dX3_copyFrom_50 rfl ?_
  refine v_aload_n 52 rfl dX3_copyFrom_51 rfl ?_
  refine v_get 55 (k := 4) 3 (rfv x 4) (by decide) rfl (by decide) (by decide) dX3_copyFrom_52 rfl fl_X3_25 rfl ?_
  refine v_iconst 56 (nI (0)) (by decide) dX3_copyFrom_55 rfl ?_
  refine v_bipush 58 (nI (42)) (by decide) dX3_copyFrom_56 rfl ?_
  refine v_acopy 61 (sp := 0) (dp := 0) (n := 42) (by decide) (by decide) rfl rfl dX3_copyFrom_58 rfl ml_X3_28 ⟨by decide, Nat.le_of_ble_eq_true rfl⟩ rfl rfl rfl ⟨by decide, by decide⟩ (by omega) (by omega) (fun I58 e58 => ?_)
  refine v_aload_n 62 rfl dX3_copyFrom_61 rfl ?_
  refine v_aload_n 63 rfl dX3_copyFrom_62 rfl ?_
  refine v_get 66 (k := 5) 3 (.int (I58 23 5)) (by decide) rfl (by decide) (by decide) dX3_copyFrom_63 rfl fl_X3_34 rfl ?_
  refine v_putI 69 (k := 5) 3 .int (by decide) rfl (by decide) (by decide) rfl (by decide +kernel) rfl rfl (fun _ _ => rfl) dX3_copyFrom_66 rfl fl_X3_34 (fun I66 e66 => ?_)
  refine v_vret rfl dX3_copyFrom_69 ?_
  refine hQ I66 (fun a ha => ?_) ⟨?_, ?_, ?_, fun j hj => ?_, fun j hj => ?_, fun j hj => ?_⟩
  · rw [up2_row e66 (by omega), cpy_row e58 (by omega), cpy_row e43 (by omega), up2_row e28 (by omega), up2_row e20 (by omega), cpy_row e12 (by omega)]
  · rw [up2_off e66 (by omega), cpy_row e58 (by decide), cpy_row e43 (by decide), up2_off e28 (by omega), up2_at e20, cpy_row e12 (by decide)]
  · rw [up2_off e66 (by omega), cpy_row e58 (by decide), cpy_row e43 (by decide), up2_at e28, up2_row e20 (by decide), cpy_row e12 (by decide)]
  · rw [up2_at e66, cpy_row e58 (by decide), cpy_row e43 (by decide), up2_row e28 (by decide), up2_row e20 (by decide), cpy_row e12 (by decide)]
  · rw [up2_row e66 (by decide), cpy_row e58 (by decide), cpy_row e43 (by decide), up2_row e28 (by decide), up2_row e20 (by decide), cpy_at e12 hj]
  · rw [up2_row e66 (by decide), cpy_row e58 (by decide), cpy_at e43 hj, up2_row e28 (by decide), up2_row e20 (by decide), cpy_row e12 (by decide)]
  · rw [up2_row e66 (by decide), cpy_at e58 hj, cpy_row e43 (by decide), up2_row e28 (by decide), up2_row e20 (by decide), cpy_row e12 (by decide)]
set_option maxHeartbeats 4000000 in
theorem sp_X1_dropOldest {x : Cx} {Q : Qt} {I : Iv} {L : Lv} {P : Pv} {H : Hs} {f : Vw} (hc : HC H 4 I P) (hQ : ∀ (I1 : Iv) (P1 : Pv), I1 = up2 I 9 1 (nI 3) → (∀ i, i < 3 → P1 i = P (i + 1)) → P1 3 = P 0 → Q none I1 L P1) : SP x M_X1_dropOldest [rfv x 9] I L P Q := by
  have i0 := isM_hs (hc.2.2.1 0 (by decide))
  have i1 := isM_hs (hc.2.2.1 1 (by decide))
  have i2 := isM_hs (hc.2.2.1 2 (by decide))
  have i3 := isM_hs (hc.2.2.1 3 (by decide))
  refine SP.intro [some (rfv x 9), none, none] pn_X1_dropOldest (Nat.le_of_ble_eq_true rfl) rfl ?_
  refine v_aload_n 1 rfl dX1_dropOldest_0 rfl ?_
  refine v_get 4 (k := 0) 1 (rfv x 10) (by decide) rfl (by decide) (by decide) dX1_dropOldest_1 rfl fl_X1_11 rfl ?_
  refine v_iconst 5 (nI (0)) (by decide) dX1_dropOldest_4 rfl ?_
  refine v_aald 6 (k := 0) (P 0) (by decide) rfl (by decide) dX1_dropOldest_5 rfl rfl (by omega) rfl ?_
  refine v_astore_n 7 [some (rfv x 9), some (rfv x (P 0)), none] dX1_dropOldest_6 rfl (by decide) rfl ?_
  refine v_iconst 8 (nI (1)) (by decide) dX1_dropOldest_7 rfl ?_
  refine v_istore_n 9 [some (rfv x 9), some (rfv x (P 0)), some (.int (nI (1)))] dX1_dropOldest_8 rfl (by decide) rfl ?_
  refine v_iload_n 10 rfl dX1_dropOldest_9 rfl ?_
  refine v_iconst 11 (nI (4)) (by decide) dX1_dropOldest_10 rfl ?_
  refine v_icmpN_ge 34 14 dX1_dropOldest_11 (by decide) rfl (by omega) (by omega) (fun h11 => ?_) (fun h11 => ?_)
  · skip
    exact absurd h11 (by omega)
  · skip
    refine v_aload_n 15 rfl dX1_dropOldest_14 rfl ?_
    refine v_get 18 (k := 0) 1 (rfv x 10) (by decide) rfl (by decide) (by decide) dX1_dropOldest_15 rfl fl_X1_11 rfl ?_
    refine v_iload_n 19 rfl dX1_dropOldest_18 rfl ?_
    refine v_iconst 20 (nI (1)) (by decide) dX1_dropOldest_19 rfl ?_
    refine v_isub 21 (nI (1 - 1)) dX1_dropOldest_20 rfl (pk_sub (by omega)) ?_
    refine v_aload_n 22 rfl dX1_dropOldest_21 rfl ?_
    refine v_get 25 (k := 0) 1 (rfv x 10) (by decide) rfl (by decide) (by decide) dX1_dropOldest_22 rfl fl_X1_11 rfl ?_
    refine v_iload_n 26 rfl dX1_dropOldest_25 rfl ?_
    refine v_aald 27 (k := 1) (P 1) (by decide) rfl (by decide) dX1_dropOldest_26 rfl rfl (by omega) rfl ?_
    refine v_aast 28 (k := 1 - 1) i1.1 i1.2 dX1_dropOldest_27 rfl rfl (by omega) (fun P27_1 e27 => ?_)
    obtain ⟨e27_1, -⟩ : P27_1 = va_up P (1 - 1) (P 1) ∧ True := ⟨e27, trivial⟩
    clear e27
    refine v_iinc 31 [some (rfv x 9), some (rfv x (P 0)), some (.int (nI (1 + 1)))] (nI (1 + 1)) dX1_dropOldest_28 rfl (by decide) rfl (nI_inc _) rfl ?_
    refine v_goto 9 dX1_dropOldest_31 (by decide) ?_
    refine v_drop [some (rfv x 9), some (rfv x (P 0)), some (.int (nI (2)))] ⟨rfl, rfl, rfl, trivial⟩ ?_
    skip
    refine v_iload_n 10 rfl dX1_dropOldest_9 rfl ?_
    refine v_iconst 11 (nI (4)) (by decide) dX1_dropOldest_10 rfl ?_
    refine v_icmpN_ge 34 14 dX1_dropOldest_11 (by decide) rfl (by omega) (by omega) (fun h11 => ?_) (fun h11 => ?_)
    · skip
      exact absurd h11 (by omega)
    · skip
      refine v_aload_n 15 rfl dX1_dropOldest_14 rfl ?_
      refine v_get 18 (k := 0) 1 (rfv x 10) (by decide) rfl (by decide) (by decide) dX1_dropOldest_15 rfl fl_X1_11 rfl ?_
      refine v_iload_n 19 rfl dX1_dropOldest_18 rfl ?_
      refine v_iconst 20 (nI (1)) (by decide) dX1_dropOldest_19 rfl ?_
      refine v_isub 21 (nI (2 - 1)) dX1_dropOldest_20 rfl (pk_sub (by omega)) ?_
      refine v_aload_n 22 rfl dX1_dropOldest_21 rfl ?_
      refine v_get 25 (k := 0) 1 (rfv x 10) (by decide) rfl (by decide) (by decide) dX1_dropOldest_22 rfl fl_X1_11 rfl ?_
      refine v_iload_n 26 rfl dX1_dropOldest_25 rfl ?_
      refine v_aald 27 (k := 2) (P 2) (by decide) rfl (by decide) dX1_dropOldest_26 rfl rfl (by omega) (by rw [e27_1]; rfl) ?_
      refine v_aast 28 (k := 2 - 1) i2.1 i2.2 dX1_dropOldest_27 rfl rfl (by omega) (fun P27_2 e27 => ?_)
      obtain ⟨e27_2, -⟩ : P27_2 = va_up P27_1 (2 - 1) (P 2) ∧ True := ⟨e27, trivial⟩
      clear e27
      refine v_iinc 31 [some (rfv x 9), some (rfv x (P 0)), some (.int (nI (2 + 1)))] (nI (2 + 1)) dX1_dropOldest_28 rfl (by decide) rfl (nI_inc _) rfl ?_
      refine v_goto 9 dX1_dropOldest_31 (by decide) ?_
      refine v_drop [some (rfv x 9), some (rfv x (P 0)), some (.int (nI (3)))] ⟨rfl, rfl, rfl, trivial⟩ ?_
      skip
      refine v_iload_n 10 rfl dX1_dropOldest_9 rfl ?_
      refine v_iconst 11 (nI (4)) (by decide) dX1_dropOldest_10 rfl ?_
      refine v_icmpN_ge 34 14 dX1_dropOldest_11 (by decide) rfl (by omega) (by omega) (fun h11 => ?_) (fun h11 => ?_)
      · skip
        exact absurd h11 (by omega)
      · skip
        refine v_aload_n 15 rfl dX1_dropOldest_14 rfl ?_
        refine v_get 18 (k := 0) 1 (rfv x 10) (by decide) rfl (by decide) (by decide) dX1_dropOldest_15 rfl fl_X1_11 rfl ?_
        refine v_iload_n 19 rfl dX1_dropOldest_18 rfl ?_
        refine v_iconst 20 (nI (1)) (by decide) dX1_dropOldest_19 rfl ?_
        refine v_isub 21 (nI (3 - 1)) dX1_dropOldest_20 rfl (pk_sub (by omega)) ?_
        refine v_aload_n 22 rfl dX1_dropOldest_21 rfl ?_
        refine v_get 25 (k := 0) 1 (rfv x 10) (by decide) rfl (by decide) (by decide) dX1_dropOldest_22 rfl fl_X1_11 rfl ?_
        refine v_iload_n 26 rfl dX1_dropOldest_25 rfl ?_
        refine v_aald 27 (k := 3) (P 3) (by decide) rfl (by decide) dX1_dropOldest_26 rfl rfl (by omega) (by rw [e27_2, e27_1]; rfl) ?_
        refine v_aast 28 (k := 3 - 1) i3.1 i3.2 dX1_dropOldest_27 rfl rfl (by omega) (fun P27_3 e27 => ?_)
        obtain ⟨e27_3, -⟩ : P27_3 = va_up P27_2 (3 - 1) (P 3) ∧ True := ⟨e27, trivial⟩
        clear e27
        refine v_iinc 31 [some (rfv x 9), some (rfv x (P 0)), some (.int (nI (3 + 1)))] (nI (3 + 1)) dX1_dropOldest_28 rfl (by decide) rfl (nI_inc _) rfl ?_
        refine v_goto 9 dX1_dropOldest_31 (by decide) ?_
        refine v_drop [some (rfv x 9), some (rfv x (P 0)), some (.int (nI (4)))] ⟨rfl, rfl, rfl, trivial⟩ ?_
        skip
        refine v_iload_n 10 rfl dX1_dropOldest_9 rfl ?_
        refine v_iconst 11 (nI (4)) (by decide) dX1_dropOldest_10 rfl ?_
        refine v_icmpN_ge 34 14 dX1_dropOldest_11 (by decide) rfl (by omega) (by omega) (fun h11 => ?_) (fun h11 => ?_)
        · skip
          refine v_aload_n 35 rfl dX1_dropOldest_34 rfl ?_
          refine v_get 38 (k := 0) 1 (rfv x 10) (by decide) rfl (by decide) (by decide) dX1_dropOldest_35 rfl fl_X1_11 rfl ?_
          refine v_iconst 39 (nI (3)) (by decide) dX1_dropOldest_38 rfl ?_
          refine v_aload_n 40 rfl dX1_dropOldest_39 rfl ?_
          refine v_aast 41 (k := 3) i0.1 i0.2 dX1_dropOldest_40 rfl rfl (by omega) (fun P40 e40 => ?_)
          refine v_aload_n 42 rfl dX1_dropOldest_41 rfl ?_
          refine v_dup 43 dX1_dropOldest_42 rfl rfl ?_
          refine v_get 46 (k := 1) 1 (.int (nI (4))) (by decide) rfl (by decide) (by decide) dX1_dropOldest_43 rfl fl_X1_18 (congrArg Value.int hc.2.1) ?_
          refine v_iconst 47 (nI (1)) (by decide) dX1_dropOldest_46 rfl ?_
          refine v_isub 48 (nI (4 - 1)) dX1_dropOldest_47 rfl (pk_sub (by omega)) ?_
          refine v_putI 51 (k := 1) 1 .int (by decide) rfl (by decide) (by decide) rfl (by decide +kernel) rfl rfl (fun _ _ => rfl) dX1_dropOldest_48 rfl fl_X1_18 (fun I48 e48 => ?_)
          refine v_vret rfl dX1_dropOldest_51 ?_
          refine hQ I48 P40 e48 (fun i hi => ?_) ?_
          · rw [e40, e27_3, e27_2, e27_1]
            rcases (show i = 0 ∨ i = 1 ∨ i = 2 by omega) with q | q | q <;> subst q <;> rfl
          · rw [e40]
            rfl
        · skip
          exact absurd h11 (by omega)
