def uA (hn : Nat) : Int32 := if hn = 0 then (-5) else nI (hn - 1)
def uF (f : Vw) (H : Hs) (hn : Nat) : Vw := if hn = 0 then f else H (hn - 1)
def rA (sn : Nat) (g : Vw) : Int32 := if sn = 0 then (-5) else nI (g 1)
def rB (sn : Nat) : Bool := !decide (sn = 0)
def tA (tl : Nat) : Int32 := if tl = 60 then (-3) else nI (tl + 1)
def tT (T : Tx) (tl ch : Nat) : Tx := if tl = 60 then T else (fun i => if i = tl then ch else T i)
def tN (tl : Nat) : Nat := if tl = 60 then 60 else tl + 1
theorem nar_c0 {n : Nat} (h : n < 65536) : (nI n).toUInt32.toUInt16.toUInt32.toInt32 = nI n := by
  have h1 := pk_charN h
  have h2 := congrArg (fun v => match v with | Value.int y => y | _ => 0) h1.1
  have h3 : vp_nar .char (nI n) = nI n := by
    unfold vp_nar
    rw [h1.1]
  rw [vp_nar_char] at h3
  exact h3
theorem nar_c {q : Nat} (hq : q < 65536) : vp_nar .char (nI q) = nI q := by
  rw [vp_nar_char, nar_c0 hq]
set_option maxHeartbeats 4000000 in
theorem sp_X7_undo {x : Cx} {Q : Qt} {I : Iv} {L : Lv} {P : Pv} {f : Vw} {H : Hs} {hn sn : Nat} {g : Vw} {T : Tx} {tl : Nat} (ci : CI f H hn sn g T tl I P) (wi : WI f H hn sn g T tl) (hQ : ∀ (I1 : Iv) (L1 : Lv) (P1 : Pv), (∀ a, 40 ≤ a → I1 a = I a) → CI (uF f H hn) H (hn - 1) sn g T tl I1 P1 → Q (some (.int (uA hn))) I1 L1 P1) : SP x M_X7_undo [rfv x 0] I L P Q := by
  obtain ⟨c, hc, hsn, hsg, htx⟩ := id ci
  obtain ⟨w, hw, hs2, hwg, htl, hT⟩ := id wi
  have := w.n4
  have := w.m6
  have := w.n1
  refine SP.intro [some (rfv x 0)] pn_X7_undo (Nat.le_of_ble_eq_true rfl) rfl ?_
  refine v_aload_n 1 rfl dX7_undo_0 rfl ?_
  refine v_get 4 (k := 3) 7 (rfv x 9) (by decide) rfl (by decide) (by decide) dX7_undo_1 rfl fl_X7_27 rfl ?_
  refine v_getN 7 (k := 1) 1 (.int (nI (hn))) (by decide) rfl (by decide) (by decide) dX7_undo_4 rfl fl_X7_152 (congrArg Value.int hc.2.1) ?_
  refine v_ifN_ne 13 10 dX7_undo_7 (by decide) rfl (by have := hc.1; omega) (fun h7 => ?_) (fun h7 => ?_)
  · skip
    obtain ⟨n, en⟩ : ∃ n, hn = n + 1 := ⟨hn - 1, by omega⟩
    subst en
    have hwl : Wf (H n) := hw n (by omega)
    refine v_aload_n 14 rfl dX7_undo_13 rfl ?_
    refine v_get 17 (k := 3) 7 (rfv x 9) (by decide) rfl (by decide) (by decide) dX7_undo_14 rfl fl_X7_27 rfl ?_
    refine v_aload_n 18 rfl dX7_undo_17 rfl ?_
    refine v_get 21 (k := 0) 7 (rfv x 1) (by decide) rfl (by decide) (by decide) dX7_undo_18 rfl fl_X7_15 rfl ?_
    refine v_invV 24 M_X1_takeLatest [rfv x 1] (by decide) rfl (by decide) rfl dX7_undo_21 rfl ml_X7_155 im_X1_takeLatest se_X1_takeLatest mc_X1_takeLatest (by decide) (Nat.le_of_ble_eq_true rfl) (sp_X1_takeLatest hc hwl (fun It ft hct ct => ?_))
    refine v_aload_n 25 rfl dX7_undo_24 rfl ?_
    refine v_get 28 (k := 3) 7 (rfv x 9) (by decide) rfl (by decide) (by decide) dX7_undo_25 rfl fl_X7_27 rfl ?_
    refine v_getN 31 (k := 1) 1 (.int (nI (n))) (by decide) rfl (by decide) (by decide) dX7_undo_28 rfl fl_X7_152 (congrArg Value.int hct.2.1) ?_
    refine v_iret rfl dX7_undo_31 ?_
    refine qZ (hQ It L P (fun a ha => ft a (by omega)) ?_) (by simp [uA])
    refine ⟨by simpa [uF] using ct, by simpa using hct, ?_, fun e => (hsg e).same (fun a _ _ => ft a (by omega)), ?_, fun i hi => ?_⟩
    · rw [ft 0 (by omega)]
      exact hsn
    · rw [ft 27 (by omega)]
      exact htx.1
    · rw [ft 28 (by omega)]
      exact htx.2 i hi
  · skip
    refine v_bipush 12 ((-5)) (by decide) dX7_undo_10 rfl ?_
    refine v_iret rfl dX7_undo_12 ?_
    subst h7
    exact qZ (hQ I L P (fun _ _ => rfl) ci) rfl
set_option maxHeartbeats 4000000 in
theorem sp_X8_undo {x : Cx} {Q : Qt} {I : Iv} {L : Lv} {P : Pv} {f : Vw} {H : Hs} {hn sn : Nat} {g : Vw} {T : Tx} {tl : Nat} (ri : RI f H hn sn g T tl I) (wi : WI f H hn sn g T tl) (hQ : ∀ (I1 : Iv) (L1 : Lv), (∀ a, a < 40 → I1 a = I a) → RI (uF f H hn) H (hn - 1) sn g T tl I1 → Q (some (.int (uA hn))) I1 L1 P) : SP x M_X8_undo [rfv x 40] I L P Q := by
  obtain ⟨r, hr, hsn, hsg, htx⟩ := id ri
  obtain ⟨w, hw, hs2, hwg, htl, hT⟩ := id wi
  have := w.n4
  have := w.m6
  have := w.n1
  refine SP.intro [some (rfv x 40), none] pn_X8_undo (Nat.le_of_ble_eq_true rfl) rfl ?_
  refine v_aload_n 1 rfl dX8_undo_0 rfl ?_
  refine v_iconst 2 (nI (0)) (by decide) dX8_undo_1 rfl ?_
  refine v_putI 5 (k := 0) 8 .int (by decide) rfl (by decide) (by decide) rfl (by decide +kernel) rfl rfl (fun _ _ => rfl) dX8_undo_2 rfl fl_X8_50 (fun I2 e2 => ?_)
  have ht0 : I2 = up2 I 40 0 (nI 0) := e2
  have r2 : RR (I2 41) f := by rw [up2_row e2 (by omega)]; exact r
  have hr2 : HR H hn I2 := ⟨hr.1, (up2_off e2 (by omega)).trans hr.2.1, fun i hi => by rw [up2_row e2 (by omega)]; exact hr.2.2 i hi⟩
  have ri2 : RI f H hn sn g T tl I2 := ri.kp (fun a q hl => up2_off e2 (by unfold live at hl; omega))
  have lo2 : ∀ a, a < 40 → I2 a = I a := fun a ha => up2_row e2 (by omega)
  refine v_aload_n 6 rfl dX8_undo_5 rfl ?_
  refine v_get 9 (k := 4) 8 (.int (nI (hn))) (by decide) rfl (by decide) (by decide) dX8_undo_6 rfl fl_X8_62 (congrArg Value.int hr2.2.1) ?_
  refine v_ifN_ne 15 12 dX8_undo_9 (by decide) rfl (by have := hr.1; omega) (fun h9 => ?_) (fun h9 => ?_)
  · skip
    obtain ⟨n, en⟩ : ∃ n, hn = n + 1 := ⟨hn - 1, by omega⟩
    subst en
    have hwl : Wf (H n) := hw n (by omega)
    refine v_aload_n 16 rfl dX8_undo_15 rfl ?_
    refine v_dup 17 dX8_undo_16 rfl rfl ?_
    refine v_get 20 (k := 4) 8 (.int (nI (n + 1))) (by decide) rfl (by decide) (by decide) dX8_undo_17 rfl fl_X8_62 (congrArg Value.int hr2.2.1) ?_
    refine v_iconst 21 (nI (1)) (by decide) dX8_undo_20 rfl ?_
    refine v_isub 22 (nI (n)) dX8_undo_21 rfl (by rw [show nI (n + 1) - nI 1 = nI n from nI_pred n]) ?_
    refine v_putI 25 (k := 4) 8 .int (by decide) rfl (by decide) (by decide) rfl (by decide +kernel) rfl rfl (fun _ _ => rfl) dX8_undo_22 rfl fl_X8_62 (fun I22 e22 => ?_)
    refine v_iconst 26 (nI (0)) (by decide) dX8_undo_25 rfl ?_
    refine v_istore_n 27 [some (rfv x 40), some (.int (nI (0)))] dX8_undo_26 rfl (by decide) rfl ?_
    have lp : ∀ j, j ≤ 83 → ∀ Ij : Iv, (∀ q, q < j → Ij 41 q = I 43 (83 * n + q)) → (∀ a q, a ≠ 41 → Ij a q = I22 a q) → V x M_X8_undo Q 27 [some (rfv x 40), some (.int (nI (j)))] [] Ij L P := by
      refine lpU ?_ ?_
      · intro Ij hA hF
        refine v_iload_n 28 rfl dX8_undo_27 rfl ?_
        refine v_bipush 30 (nI (83)) (by decide) dX8_undo_28 rfl ?_
        refine v_icmpN_ge 59 33 dX8_undo_30 (by decide) rfl (by omega) (by omega) (fun h30 => ?_) (fun h30 => ?_)
        · skip
          refine v_aload_n 60 rfl dX8_undo_59 rfl ?_
          refine v_get 63 (k := 4) 8 (.int (nI (n))) (by decide) rfl (by decide) (by decide) dX8_undo_60 rfl fl_X8_62 (congrArg Value.int ((hF 40 4 (by decide)).trans (up2_at e22))) ?_
          refine v_iret rfl dX8_undo_63 ?_
          have k1 : ∀ a q, a ≠ 41 → (a ≠ 40 ∨ (q ≠ 4 ∧ q ≠ 0)) → Ij a q = I a q := fun a q h h2 => (hF a q h).trans ((up2_off e22 (by omega)).trans (up2_off e2 (by omega)))
          refine qZ (hQ Ij L (fun a ha => funext (fun q => k1 a q (by omega) (Or.inl (by omega)))) ?_) (by simp [uA])
          refine ⟨?_, ⟨by have := hr.1; omega, ?_, fun i hi => ?_⟩, ?_, fun e => ?_, ?_, fun i hi => ?_⟩
          · have h9 := (hr.2.2 n (by omega)).on (h' := Ij 41) hwl (fun j hj => hA j hj)
            simpa [uF] using h9
          · have h9 := (hF 40 4 (by decide)).trans (up2_at e22)
            simpa using h9
          · exact (hr.2.2 i (by omega)).on (hw i (by omega)) (fun j _ => k1 43 _ (by decide) (Or.inl (by decide)))
          · exact (k1 40 6 (by decide) (Or.inr (by decide))).trans hsn
          · exact (hsg e).on (hwg e) (fun j _ => k1 44 j (by decide) (Or.inl (by decide)))
          · exact (k1 40 8 (by decide) (Or.inr (by decide))).trans htx.1
          · exact (k1 45 i (by decide) (Or.inl (by decide))).trans (htx.2 i hi)
        · skip
          exact absurd h30 (by decide)
      · intro j hj ih Ij hA hF
        refine v_iload_n 28 rfl dX8_undo_27 rfl ?_
        refine v_bipush 30 (nI (83)) (by decide) dX8_undo_28 rfl ?_
        refine v_icmpN_ge 59 33 dX8_undo_30 (by decide) rfl (by omega) (by omega) (fun h30 => ?_) (fun h30 => ?_)
        · skip
          exact absurd h30 (by omega)
        · skip
          refine v_aload_n 34 rfl dX8_undo_33 rfl ?_
          refine v_get 37 (k := 1) 8 (rfv x 41) (by decide) rfl (by decide) (by decide) dX8_undo_34 rfl fl_X8_7 rfl ?_
          refine v_iload_n 38 rfl dX8_undo_37 rfl ?_
          refine v_aload_n 39 rfl dX8_undo_38 rfl ?_
          refine v_get 42 (k := 3) 8 (rfv x 43) (by decide) rfl (by decide) (by decide) dX8_undo_39 rfl fl_X8_16 rfl ?_
          refine v_bipush 44 (nI (83)) (by decide) dX8_undo_42 rfl ?_
          refine v_aload_n 45 rfl dX8_undo_44 rfl ?_
          refine v_get 48 (k := 4) 8 (.int (nI (n))) (by decide) rfl (by decide) (by decide) dX8_undo_45 rfl fl_X8_62 (congrArg Value.int ((hF 40 4 (by decide)).trans (up2_at e22))) ?_
          refine v_imul 49 (nI (83 * n)) dX8_undo_48 rfl (pk_mul _ _) ?_
          refine v_iload_n 50 rfl dX8_undo_49 rfl ?_
          refine v_iadd 51 (nI ((83 * n) + j)) dX8_undo_50 rfl (nI_add _ _) ?_
          refine v_iald 52 (k := (83 * n) + j) (I 43 (83 * n + j)) (by decide) rfl (by decide) dX8_undo_51 rfl rfl (by have := hr.1; omega) ((hF 43 _ (by decide)).trans ((up2_off e22 (by omega)).trans (up2_off e2 (by omega)))) ?_
          refine v_iast 53 (k := j) (I 43 (83 * n + j)) (by decide) rfl (by decide) dX8_undo_52 rfl rfl (by omega) rfl (fun I52 e52 => ?_)
          refine v_iinc 56 [some (rfv x 40), some (.int (nI (j + 1)))] (nI (j + 1)) dX8_undo_53 rfl (by decide) rfl (nI_inc _) rfl ?_
          refine v_goto 27 dX8_undo_56 (by decide) ?_
          refine v_drop [some (rfv x 40), some (.int (nI (j + 1)))] (by simp [lsub, smN_s]) ?_
          refine ih I52 (fun q hq => ?_) (fun a q h => (up2_off e52 (by omega)).trans (hF a q h))
          by_cases z : q = j
          · subst z
            exact up2_at e52
          · exact (up2_off e52 (by omega)).trans (hA q (by omega))
    refine v_drop [some (rfv x 40), some (.int (nI (0)))] (by simp [lsub, smN, amN, dbW, mxN]) ?_
    exact lp 0 (Nat.zero_le _) I22 (fun j h => absurd h (Nat.not_lt_zero j)) (fun a q _ => rfl)
  · skip
    refine v_bipush 14 ((-5)) (by decide) dX8_undo_12 rfl ?_
    refine v_iret rfl dX8_undo_14 ?_
    subst h9
    exact qZ (hQ I2 L lo2 ri2) rfl
set_option maxHeartbeats 4000000 in
theorem sp_X7_keep {x : Cx} {Q : Qt} {I : Iv} {L : Lv} {P : Pv} {f : Vw} {H : Hs} {hn sn : Nat} {g : Vw} {T : Tx} {tl : Nat} (ci : CI f H hn sn g T tl I P) (wi : WI f H hn sn g T tl) (hQ : ∀ (I1 : Iv) (L1 : Lv) (P1 : Pv), (∀ a, 40 ≤ a → I1 a = I a) → CI f H hn 1 f T tl I1 P1 → Q (some (.int (nI (f 1)))) I1 L1 P1) : SP x M_X7_keep [rfv x 0] I L P Q := by
  obtain ⟨c, hc, hsn, hsg, htx⟩ := id ci
  obtain ⟨w, hw, hs2, hwg, htl, hT⟩ := id wi
  have := w.n4
  have := w.m6
  have := w.n1
  refine SP.intro [some (rfv x 0)] pn_X7_keep (Nat.le_of_ble_eq_true rfl) rfl ?_
  refine v_aload_n 1 rfl dX7_keep_0 rfl ?_
  refine v_get 4 (k := 1) 7 (rfv x 5) (by decide) rfl (by decide) (by decide) dX7_keep_1 rfl fl_X7_21 rfl ?_
  refine v_aload_n 5 rfl dX7_keep_4 rfl ?_
  refine v_get 8 (k := 0) 7 (rfv x 1) (by decide) rfl (by decide) (by decide) dX7_keep_5 rfl fl_X7_15 rfl ?_
  refine v_invV 11 M_X3_copyFrom [rfv x 1] (by decide) rfl (by decide) rfl dX7_keep_8 rfl ml_X7_158 im_X3_copyFrom se_X3_copyFrom mc_X3_copyFrom (by decide) (Nat.le_of_ble_eq_true rfl) (sp_X3_copyFrom_5_1 (fun Ic fc cc => ?_))
  refine v_aload_n 12 rfl dX7_keep_11 rfl ?_
  refine v_iconst 13 (nI (1)) (by decide) dX7_keep_12 rfl ?_
  refine v_putI 16 (k := 2) 7 .boolean (by decide) rfl (by decide) (by decide) rfl (by decide +kernel) (by decide +kernel) rfl (fun _ _ => rfl) dX7_keep_13 rfl fl_X7_161 (fun I13 e13 => ?_)
  have k1 : ∀ a, a ≠ 0 → (a < 5 ∨ 8 < a) → I13 a = I a := fun a h1 h2 => (up2_row e13 h1).trans (fc a h2)
  refine v_aload_n 17 rfl dX7_keep_16 rfl ?_
  refine v_get 20 (k := 0) 7 (rfv x 1) (by decide) rfl (by decide) (by decide) dX7_keep_17 rfl fl_X7_15 rfl ?_
  refine v_getN 23 (k := 5) 3 (.int (nI (f 1))) (by decide) rfl (by decide) (by decide) dX7_keep_20 rfl fl_X7_124 (congrArg Value.int ((congrFun (k1 1 (by decide) (by decide)) 5).trans c.sm)) ?_
  refine v_iret rfl dX7_keep_23 ?_
  refine hQ I13 L P (fun a ha => k1 a (by omega) (by omega)) ⟨c.same (fun a _ _ => k1 a (by omega) (by omega)), hc.same (fun a _ _ => k1 a (by omega) (by omega)), up2_at e13, fun _ => (cc.rc c w).same (fun a _ _ => up2_row e13 (by omega)), ?_, fun i hi => ?_⟩
  · rw [k1 27 (by decide) (by decide)]
    exact htx.1
  · rw [k1 28 (by decide) (by decide)]
    exact htx.2 i hi
set_option maxHeartbeats 4000000 in
theorem sp_X8_keep {x : Cx} {Q : Qt} {I : Iv} {L : Lv} {P : Pv} {f : Vw} {H : Hs} {hn sn : Nat} {g : Vw} {T : Tx} {tl : Nat} (ri : RI f H hn sn g T tl I) (wi : WI f H hn sn g T tl) (hQ : ∀ (I1 : Iv) (L1 : Lv), (∀ a, a < 40 → I1 a = I a) → RI f H hn 1 f T tl I1 → Q (some (.int (nI (f 1)))) I1 L1 P) : SP x M_X8_keep [rfv x 40] I L P Q := by
  obtain ⟨r, hr, hsn, hsg, htx⟩ := id ri
  obtain ⟨w, hw, hs2, hwg, htl, hT⟩ := id wi
  have := w.n4
  have := w.m6
  have := w.n1
  refine SP.intro [some (rfv x 40), none] pn_X8_keep (Nat.le_of_ble_eq_true rfl) rfl ?_
  refine v_aload_n 1 rfl dX8_keep_0 rfl ?_
  refine v_iconst 2 (nI (0)) (by decide) dX8_keep_1 rfl ?_
  refine v_putI 5 (k := 0) 8 .int (by decide) rfl (by decide) (by decide) rfl (by decide +kernel) rfl rfl (fun _ _ => rfl) dX8_keep_2 rfl fl_X8_50 (fun I2 e2 => ?_)
  have ht0 : I2 = up2 I 40 0 (nI 0) := e2
  have r2 : RR (I2 41) f := by rw [up2_row e2 (by omega)]; exact r
  have hr2 : HR H hn I2 := ⟨hr.1, (up2_off e2 (by omega)).trans hr.2.1, fun i hi => by rw [up2_row e2 (by omega)]; exact hr.2.2 i hi⟩
  have ri2 : RI f H hn sn g T tl I2 := ri.kp (fun a q hl => up2_off e2 (by unfold live at hl; omega))
  have lo2 : ∀ a, a < 40 → I2 a = I a := fun a ha => up2_row e2 (by omega)
  refine v_iconst 6 (nI (0)) (by decide) dX8_keep_5 rfl ?_
  refine v_istore_n 7 [some (rfv x 40), some (.int (nI (0)))] dX8_keep_6 rfl (by decide) rfl ?_
  have lp : ∀ j, j ≤ 83 → ∀ Ij : Iv, (∀ q, q < j → Ij 44 q = I 41 q) → (∀ a q, a ≠ 44 → Ij a q = I2 a q) → V x M_X8_keep Q 7 [some (rfv x 40), some (.int (nI (j)))] [] Ij L P := by
    refine lpU ?_ ?_
    · intro Ij hA hF
      refine v_iload_n 8 rfl dX8_keep_7 rfl ?_
      refine v_bipush 10 (nI (83)) (by decide) dX8_keep_8 rfl ?_
      refine v_icmpN_ge 31 13 dX8_keep_10 (by decide) rfl (by omega) (by omega) (fun h10 => ?_) (fun h10 => ?_)
      · skip
        refine v_aload_n 32 rfl dX8_keep_31 rfl ?_
        refine v_iconst 33 (nI (1)) (by decide) dX8_keep_32 rfl ?_
        refine v_putI 36 (k := 6) 8 .boolean (by decide) rfl (by decide) (by decide) rfl (by decide +kernel) (by decide +kernel) rfl (fun _ _ => rfl) dX8_keep_33 rfl fl_X8_171 (fun I33 e33 => ?_)
        refine v_aload_n 37 rfl dX8_keep_36 rfl ?_
        refine v_get 40 (k := 1) 8 (rfv x 41) (by decide) rfl (by decide) (by decide) dX8_keep_37 rfl fl_X8_7 rfl ?_
        refine v_iconst 41 (nI (1)) (by decide) dX8_keep_40 rfl ?_
        refine v_iald 42 (k := 1) (nI (f 1)) (by decide) rfl (by decide) dX8_keep_41 rfl rfl (by omega) ((up2_off e33 (by omega)).trans ((hF 41 1 (by decide)).trans ((up2_off e2 (by omega)).trans r.sm))) ?_
        refine v_iret rfl dX8_keep_42 ?_
        have k1 : ∀ a q, a ≠ 44 → (a ≠ 40 ∨ (q ≠ 6 ∧ q ≠ 0)) → I33 a q = I a q := fun a q h h2 => (up2_off e33 (by omega)).trans ((hF a q h).trans (up2_off e2 (by omega)))
        refine hQ I33 L (fun a ha => funext (fun q => k1 a q (by omega) (Or.inl (by omega)))) ⟨r.on w (fun j _ => k1 41 j (by decide) (Or.inl (by decide))), ⟨hr.1, (k1 40 4 (by decide) (Or.inr (by decide))).trans hr.2.1, fun i hi => ?_⟩, up2_at e33, fun _ => ?_, ?_, fun i hi => ?_⟩
        · exact (hr.2.2 i hi).on (hw i hi) (fun j _ => k1 43 _ (by decide) (Or.inl (by decide)))
        · exact r.on w (fun j hj => (up2_off e33 (by omega)).trans (hA j hj))
        · exact (k1 40 8 (by decide) (Or.inr (by decide))).trans htx.1
        · exact (k1 45 i (by decide) (Or.inl (by decide))).trans (htx.2 i hi)
      · skip
        exact absurd h10 (by decide)
    · intro j hj ih Ij hA hF
      refine v_iload_n 8 rfl dX8_keep_7 rfl ?_
      refine v_bipush 10 (nI (83)) (by decide) dX8_keep_8 rfl ?_
      refine v_icmpN_ge 31 13 dX8_keep_10 (by decide) rfl (by omega) (by omega) (fun h10 => ?_) (fun h10 => ?_)
      · skip
        exact absurd h10 (by omega)
      · skip
        refine v_aload_n 14 rfl dX8_keep_13 rfl ?_
        refine v_get 17 (k := 5) 8 (rfv x 44) (by decide) rfl (by decide) (by decide) dX8_keep_14 rfl fl_X8_19 rfl ?_
        refine v_iload_n 18 rfl dX8_keep_17 rfl ?_
        refine v_aload_n 19 rfl dX8_keep_18 rfl ?_
        refine v_get 22 (k := 1) 8 (rfv x 41) (by decide) rfl (by decide) (by decide) dX8_keep_19 rfl fl_X8_7 rfl ?_
        refine v_iload_n 23 rfl dX8_keep_22 rfl ?_
        refine v_iald 24 (k := j) (I 41 j) (by decide) rfl (by decide) dX8_keep_23 rfl rfl (by omega) ((hF 41 _ (by decide)).trans (up2_off e2 (by omega))) ?_
        refine v_iast 25 (k := j) (I 41 j) (by decide) rfl (by decide) dX8_keep_24 rfl rfl (by omega) rfl (fun I24 e24 => ?_)
        refine v_iinc 28 [some (rfv x 40), some (.int (nI (j + 1)))] (nI (j + 1)) dX8_keep_25 rfl (by decide) rfl (nI_inc _) rfl ?_
        refine v_goto 7 dX8_keep_28 (by decide) ?_
        refine v_drop [some (rfv x 40), some (.int (nI (j + 1)))] (by simp [lsub, smN_s]) ?_
        refine ih I24 (fun q hq => ?_) (fun a q h => (up2_off e24 (by omega)).trans (hF a q h))
        by_cases z : q = j
        · subst z
          exact up2_at e24
        · exact (up2_off e24 (by omega)).trans (hA q (by omega))
  refine v_drop [some (rfv x 40), some (.int (nI (0)))] (by simp [lsub, smN, amN, dbW, mxN]) ?_
  exact lp 0 (Nat.zero_le _) I2 (fun j h => absurd h (Nat.not_lt_zero j)) (fun a q _ => rfl)
set_option maxHeartbeats 4000000 in
theorem sp_X7_restore {x : Cx} {Q : Qt} {I : Iv} {L : Lv} {P : Pv} {f : Vw} {H : Hs} {hn sn : Nat} {g : Vw} {T : Tx} {tl : Nat} (ci : CI f H hn sn g T tl I P) (wi : WI f H hn sn g T tl) (hQ : ∀ (I1 : Iv) (L1 : Lv) (P1 : Pv), (∀ a, 40 ≤ a → I1 a = I a) → CI (stF (rB sn) f g) (stH (rB sn) H hn f) (stN (rB sn) hn) sn g T tl I1 P1 → Q (some (.int (rA sn g))) I1 L1 P1) : SP x M_X7_restore [rfv x 0] I L P Q := by
  obtain ⟨c, hc, hsn, hsg, htx⟩ := id ci
  obtain ⟨w, hw, hs2, hwg, htl, hT⟩ := id wi
  have := w.n4
  have := w.m6
  have := w.n1
  refine SP.intro [some (rfv x 0)] pn_X7_restore (Nat.le_of_ble_eq_true rfl) rfl ?_
  refine v_aload_n 1 rfl dX7_restore_0 rfl ?_
  refine v_get 4 (k := 2) 7 (.int (nI (sn))) (by decide) rfl (by decide) (by decide) dX7_restore_1 rfl fl_X7_161 (congrArg Value.int hsn) ?_
  refine v_ifN_ne 10 7 dX7_restore_4 (by decide) rfl (by omega) (fun h4 => ?_) (fun h4 => ?_)
  · skip
    have s1 : sn = 1 := by omega
    subst s1
    have wg := hwg rfl
    refine v_aload_n 11 rfl dX7_restore_10 rfl ?_
    refine v_get 14 (k := 3) 7 (rfv x 9) (by decide) rfl (by decide) (by decide) dX7_restore_11 rfl fl_X7_27 rfl ?_
    refine v_aload_n 15 rfl dX7_restore_14 rfl ?_
    refine v_get 18 (k := 0) 7 (rfv x 1) (by decide) rfl (by decide) (by decide) dX7_restore_15 rfl fl_X7_15 rfl ?_
    refine v_invV 21 M_X1_record [rfv x 1] (by decide) rfl (by decide) rfl dX7_restore_18 rfl ml_X7_81 im_X1_record se_X1_record mc_X1_record (by decide) (Nat.le_of_ble_eq_true rfl) (sp_X1_record hc c w (fun Ir Pr fr hcr => ?_))
    refine v_aload_n 22 rfl dX7_restore_21 rfl ?_
    refine v_get 25 (k := 0) 7 (rfv x 1) (by decide) rfl (by decide) (by decide) dX7_restore_22 rfl fl_X7_15 rfl ?_
    refine v_aload_n 26 rfl dX7_restore_25 rfl ?_
    refine v_get 29 (k := 1) 7 (rfv x 5) (by decide) rfl (by decide) (by decide) dX7_restore_26 rfl fl_X7_21 rfl ?_
    refine v_invV 32 M_X3_copyFrom [rfv x 5] (by decide) rfl (by decide) rfl dX7_restore_29 rfl ml_X7_158 im_X3_copyFrom se_X3_copyFrom mc_X3_copyFrom (by decide) (Nat.le_of_ble_eq_true rfl) (sp_X3_copyFrom_1_5 (fun Ic fc cc => ?_))
    refine v_aload_n 33 rfl dX7_restore_32 rfl ?_
    refine v_get 36 (k := 0) 7 (rfv x 1) (by decide) rfl (by decide) (by decide) dX7_restore_33 rfl fl_X7_15 rfl ?_
    refine v_getN 39 (k := 5) 3 (.int (nI (g 1))) (by decide) rfl (by decide) (by decide) dX7_restore_36 rfl fl_X7_124 (congrArg Value.int (cc.rc (f := g) ((hsg rfl).same (fun a _ _ => fr a (by omega))) wg).sm) ?_
    refine v_iret rfl dX7_restore_39 ?_
    have cg : RC 5 g Ir := (hsg rfl).same (fun a _ _ => fr a (by omega))
    refine qZ (hQ Ic L Pr (fun a ha => (fc a (by omega)).trans (fr a (by omega))) ⟨cc.rc cg wg, hcr.same (fun a _ _ => fc a (by omega)), ?_, fun _ => cg.same (fun a _ _ => fc a (by omega)), ?_, fun i hi => ?_⟩) rfl
    · rw [fc 0 (by omega), fr 0 (by omega)]
      exact hsn
    · rw [fc 27 (by omega), fr 27 (by omega)]
      exact htx.1
    · rw [fc 28 (by omega), fr 28 (by omega)]
      exact htx.2 i hi
  · skip
    refine v_bipush 9 ((-5)) (by decide) dX7_restore_7 rfl ?_
    refine v_iret rfl dX7_restore_9 ?_
    subst h4
    exact qZ (hQ I L P (fun _ _ => rfl) ci) rfl
set_option maxHeartbeats 4000000 in
theorem sp_X8_restore {x : Cx} {Q : Qt} {I : Iv} {L : Lv} {P : Pv} {f : Vw} {H : Hs} {hn sn : Nat} {g : Vw} {T : Tx} {tl : Nat} (ri : RI f H hn sn g T tl I) (wi : WI f H hn sn g T tl) (hQ : ∀ (I1 : Iv) (L1 : Lv), (∀ a, a < 40 → I1 a = I a) → RI (stF (rB sn) f g) (stH (rB sn) H hn f) (stN (rB sn) hn) sn g T tl I1 → Q (some (.int (rA sn g))) I1 L1 P) : SP x M_X8_restore [rfv x 40] I L P Q := by
  obtain ⟨r, hr, hsn, hsg, htx⟩ := id ri
  obtain ⟨w, hw, hs2, hwg, htl, hT⟩ := id wi
  have := w.n4
  have := w.m6
  have := w.n1
  refine SP.intro [some (rfv x 40), none] pn_X8_restore (Nat.le_of_ble_eq_true rfl) rfl ?_
  refine v_aload_n 1 rfl dX8_restore_0 rfl ?_
  refine v_iconst 2 (nI (0)) (by decide) dX8_restore_1 rfl ?_
  refine v_putI 5 (k := 0) 8 .int (by decide) rfl (by decide) (by decide) rfl (by decide +kernel) rfl rfl (fun _ _ => rfl) dX8_restore_2 rfl fl_X8_50 (fun I2 e2 => ?_)
  have ht0 : I2 = up2 I 40 0 (nI 0) := e2
  have r2 : RR (I2 41) f := by rw [up2_row e2 (by omega)]; exact r
  have hr2 : HR H hn I2 := ⟨hr.1, (up2_off e2 (by omega)).trans hr.2.1, fun i hi => by rw [up2_row e2 (by omega)]; exact hr.2.2 i hi⟩
  have ri2 : RI f H hn sn g T tl I2 := ri.kp (fun a q hl => up2_off e2 (by unfold live at hl; omega))
  have lo2 : ∀ a, a < 40 → I2 a = I a := fun a ha => up2_row e2 (by omega)
  refine v_aload_n 6 rfl dX8_restore_5 rfl ?_
  refine v_get 9 (k := 6) 8 (.int (nI (sn))) (by decide) rfl (by decide) (by decide) dX8_restore_6 rfl fl_X8_171 (congrArg Value.int ri2.2.2.1) ?_
  refine v_ifN_ne 15 12 dX8_restore_9 (by decide) rfl (by omega) (fun h9 => ?_) (fun h9 => ?_)
  · skip
    have s1 : sn = 1 := by omega
    subst s1
    have wg := hwg rfl
    refine v_aload_n 16 rfl dX8_restore_15 rfl ?_
    refine v_invV 19 M_X8_records [] (by decide) rfl (by decide) rfl dX8_restore_16 rfl ml_X8_105 im_X8_records se_X8_records mc_X8_records (by decide) (Nat.le_of_ble_eq_true rfl) (sp_X8_records hr2 hw r2 w (fun Ir fr hrr => ?_))
    have rr : RR (Ir 41) f := (r2.on w (fun j _ => fr 41 j (by decide) (Or.inl (by decide))))
    refine v_iconst 20 (nI (0)) (by decide) dX8_restore_19 rfl ?_
    refine v_istore_n 21 [some (rfv x 40), some (.int (nI (0)))] dX8_restore_20 rfl (by decide) rfl ?_
    have lp : ∀ j, j ≤ 83 → ∀ Ij : Iv, (∀ q, q < j → Ij 41 q = I2 44 q) → (∀ a q, a ≠ 41 → Ij a q = Ir a q) → V x M_X8_restore Q 21 [some (rfv x 40), some (.int (nI (j)))] [] Ij L P := by
      refine lpU ?_ ?_
      · intro Ij hA hF
        refine v_iload_n 22 rfl dX8_restore_21 rfl ?_
        refine v_bipush 24 (nI (83)) (by decide) dX8_restore_22 rfl ?_
        refine v_icmpN_ge 45 27 dX8_restore_24 (by decide) rfl (by omega) (by omega) (fun h24 => ?_) (fun h24 => ?_)
        · skip
          have rg : RR (Ij 41) g := (ri2.2.2.2.1 rfl).on wg (fun j hj => hA j hj)
          refine v_aload_n 46 rfl dX8_restore_45 rfl ?_
          refine v_get 49 (k := 1) 8 (rfv x 41) (by decide) rfl (by decide) (by decide) dX8_restore_46 rfl fl_X8_7 rfl ?_
          refine v_iconst 50 (nI (1)) (by decide) dX8_restore_49 rfl ?_
          refine v_iald 51 (k := 1) (nI (g 1)) (by decide) rfl (by decide) dX8_restore_50 rfl rfl (by omega) rg.sm ?_
          refine v_iret rfl dX8_restore_51 ?_
          refine qZ (hQ Ij L (fun a ha => ?_) ⟨rg, ⟨hrr.1, (hF 40 4 (by decide)).trans hrr.2.1, fun i hi => ?_⟩, ?_, fun _ => ?_, ?_, fun i hi => ?_⟩) rfl
          · rw [show Ij a = Ir a from funext (fun q => hF a q (by omega)), show Ir a = I2 a from funext (fun q => fr a q (by omega) (Or.inl (by omega)))]
            exact lo2 a ha
          · exact (hrr.2.2 i hi).on ((hw.rec w) i hi) (fun j _ => hF 43 _ (by decide))
          · exact (hF 40 6 (by decide)).trans ((fr 40 6 (by decide) (Or.inr (by decide))).trans ri2.2.2.1)
          · exact (ri2.2.2.2.1 rfl).on wg (fun j _ => (hF 44 j (by decide)).trans (fr 44 j (by decide) (Or.inl (by decide))))
          · exact (hF 40 8 (by decide)).trans ((fr 40 8 (by decide) (Or.inr (by decide))).trans ri2.2.2.2.2.1)
          · exact (hF 45 i (by decide)).trans ((fr 45 i (by decide) (Or.inl (by decide))).trans (ri2.2.2.2.2.2 i hi))
        · skip
          exact absurd h24 (by decide)
      · intro j hj ih Ij hA hF
        refine v_iload_n 22 rfl dX8_restore_21 rfl ?_
        refine v_bipush 24 (nI (83)) (by decide) dX8_restore_22 rfl ?_
        refine v_icmpN_ge 45 27 dX8_restore_24 (by decide) rfl (by omega) (by omega) (fun h24 => ?_) (fun h24 => ?_)
        · skip
          exact absurd h24 (by omega)
        · skip
          refine v_aload_n 28 rfl dX8_restore_27 rfl ?_
          refine v_get 31 (k := 1) 8 (rfv x 41) (by decide) rfl (by decide) (by decide) dX8_restore_28 rfl fl_X8_7 rfl ?_
          refine v_iload_n 32 rfl dX8_restore_31 rfl ?_
          refine v_aload_n 33 rfl dX8_restore_32 rfl ?_
          refine v_get 36 (k := 5) 8 (rfv x 44) (by decide) rfl (by decide) (by decide) dX8_restore_33 rfl fl_X8_19 rfl ?_
          refine v_iload_n 37 rfl dX8_restore_36 rfl ?_
          refine v_iald 38 (k := j) (I2 44 j) (by decide) rfl (by decide) dX8_restore_37 rfl rfl (by omega) ((hF 44 _ (by decide)).trans (fr 44 j (by decide) (Or.inl (by decide)))) ?_
          refine v_iast 39 (k := j) (I2 44 j) (by decide) rfl (by decide) dX8_restore_38 rfl rfl (by omega) rfl (fun I38 e38 => ?_)
          refine v_iinc 42 [some (rfv x 40), some (.int (nI (j + 1)))] (nI (j + 1)) dX8_restore_39 rfl (by decide) rfl (nI_inc _) rfl ?_
          refine v_goto 21 dX8_restore_42 (by decide) ?_
          refine v_drop [some (rfv x 40), some (.int (nI (j + 1)))] (by simp [lsub, smN_s]) ?_
          refine ih I38 (fun q hq => ?_) (fun a q h => (up2_off e38 (by omega)).trans (hF a q h))
          by_cases z : q = j
          · subst z
            exact up2_at e38
          · exact (up2_off e38 (by omega)).trans (hA q (by omega))
    refine v_drop [some (rfv x 40), some (.int (nI (0)))] (by simp [lsub, smN, amN, dbW, mxN]) ?_
    exact lp 0 (Nat.zero_le _) Ir (fun j h => absurd h (Nat.not_lt_zero j)) (fun a q _ => rfl)
  · skip
    refine v_bipush 14 ((-5)) (by decide) dX8_restore_12 rfl ?_
    refine v_iret rfl dX8_restore_14 ?_
    subst h9
    exact qZ (hQ I2 L lo2 ri2) rfl
set_option maxHeartbeats 4000000 in
theorem sp_X5_append {x : Cx} {Q : Qt} {I : Iv} {L : Lv} {P : Pv} {tl ch : Nat} (h1 : I 27 1 = nI tl) (ht : tl < 60) (hch : ch < 65536) (hQ : ∀ I1 : Iv, (∀ a q, (a ≠ 28 ∨ q ≠ tl) → (a ≠ 27 ∨ q ≠ 1) → I1 a q = I a q) → I1 27 1 = nI (tl + 1) → I1 28 tl = nI ch → Q none I1 L P) : SP x M_X5_append [rfv x 27, .int (nI (ch))] I L P Q := by
  refine SP.intro [some (rfv x 27), some (.int (nI (ch)))] pn_X5_append (Nat.le_of_ble_eq_true rfl) rfl ?_
  refine v_aload_n 1 rfl dX5_append_0 rfl ?_
  refine v_get 4 (k := 0) 5 (rfv x 28) (by decide) rfl (by decide) (by decide) dX5_append_1 rfl fl_X5_9 rfl ?_
  refine v_aload_n 5 rfl dX5_append_4 rfl ?_
  refine v_get 8 (k := 1) 5 (.int (nI (tl))) (by decide) rfl (by decide) (by decide) dX5_append_5 rfl fl_X5_15 (congrArg Value.int h1) ?_
  refine v_iload_n 9 rfl dX5_append_8 rfl ?_
  refine v_cast 10 (k := tl) (nI (ch)) (by decide) rfl (by decide) dX5_append_9 rfl rfl (by omega) (nar_c hch) (fun I9 e9 => ?_)
  refine v_aload_n 11 rfl dX5_append_10 rfl ?_
  refine v_dup 12 dX5_append_11 rfl rfl ?_
  refine v_get 15 (k := 1) 5 (.int (nI (tl))) (by decide) rfl (by decide) (by decide) dX5_append_12 rfl fl_X5_15 (congrArg Value.int ((up2_off e9 (by omega)).trans h1)) ?_
  refine v_iconst 16 (nI (1)) (by decide) dX5_append_15 rfl ?_
  refine v_iadd 17 (nI (tl + 1)) dX5_append_16 rfl (nI_add _ _) ?_
  refine v_putI 20 (k := 1) 5 .int (by decide) rfl (by decide) (by decide) rfl (by decide +kernel) rfl rfl (fun _ _ => rfl) dX5_append_17 rfl fl_X5_15 (fun I17 e17 => ?_)
  refine v_vret rfl dX5_append_20 ?_
  exact hQ I17 (fun a q g1 g2 => (up2_off e17 (by omega)).trans (up2_off e9 (by omega))) (up2_at e17) ((up2_off e17 (by omega)).trans (up2_at e9))
set_option maxHeartbeats 4000000 in
theorem sp_X5_empty {x : Cx} {Q : Qt} {I : Iv} {L : Lv} {P : Pv} (hQ : ∀ I1 : Iv, I1 = up2 I 27 1 (nI 0) → Q none I1 L P) : SP x M_X5_empty [rfv x 27] I L P Q := by
  refine SP.intro [some (rfv x 27)] pn_X5_empty (Nat.le_of_ble_eq_true rfl) rfl ?_
  refine v_aload_n 1 rfl dX5_empty_0 rfl ?_
  refine v_iconst 2 (nI (0)) (by decide) dX5_empty_1 rfl ?_
  refine v_putI 5 (k := 1) 5 .int (by decide) rfl (by decide) (by decide) rfl (by decide +kernel) rfl rfl (fun _ _ => rfl) dX5_empty_2 rfl fl_X5_15 (fun I2 e2 => ?_)
  refine v_vret rfl dX5_empty_5 ?_
  exact hQ I2 e2
set_option maxHeartbeats 4000000 in
theorem sp_X7_type {x : Cx} {Q : Qt} {I : Iv} {L : Lv} {P : Pv} {f : Vw} {H : Hs} {hn sn : Nat} {g : Vw} {T : Tx} {tl : Nat} (ci : CI f H hn sn g T tl I P) (wi : WI f H hn sn g T tl) {ch : Nat} (hch : ch < 65536) (hQ : ∀ (I1 : Iv) (L1 : Lv) (P1 : Pv), (∀ a, 40 ≤ a → I1 a = I a) → CI f H hn sn g (tT T tl ch) (tN tl) I1 P1 → Q (some (.int (tA tl))) I1 L1 P1) : SP x M_X7_type [rfv x 0, .int (nI (ch))] I L P Q := by
  obtain ⟨c, hc, hsn, hsg, htx⟩ := id ci
  obtain ⟨w, hw, hs2, hwg, htl, hT⟩ := id wi
  have := w.n4
  have := w.m6
  have := w.n1
  refine SP.intro [some (rfv x 0), some (.int (nI (ch)))] pn_X7_type (Nat.le_of_ble_eq_true rfl) rfl ?_
  refine v_aload_n 1 rfl dX7_type_0 rfl ?_
  refine v_get 4 (k := 4) 7 (rfv x 27) (by decide) rfl (by decide) (by decide) dX7_type_1 rfl fl_X7_34 rfl ?_
  refine v_getN 7 (k := 1) 5 (.int (nI (tl))) (by decide) rfl (by decide) (by decide) dX7_type_4 rfl fl_X7_142 (congrArg Value.int htx.1) ?_
  refine v_bipush 9 (nI (60)) (by decide) dX7_type_7 rfl ?_
  refine v_icmpN_ne 15 12 dX7_type_9 (by decide) rfl (by omega) (by omega) (fun h9 => ?_) (fun h9 => ?_)
  · skip
    refine v_aload_n 16 rfl dX7_type_15 rfl ?_
    refine v_get 19 (k := 4) 7 (rfv x 27) (by decide) rfl (by decide) (by decide) dX7_type_16 rfl fl_X7_34 rfl ?_
    refine v_iload_n 20 rfl dX7_type_19 rfl ?_
    refine v_invV 23 M_X5_append [.int (nI (ch))] (by decide) rfl (by decide) rfl dX7_type_20 rfl ml_X7_145 im_X5_append se_X5_append mc_X5_append (by decide) (Nat.le_of_ble_eq_true rfl) (sp_X5_append htx.1 (by omega) hch (fun It g1 g2 g3 => ?_))
    refine v_aload_n 24 rfl dX7_type_23 rfl ?_
    refine v_get 27 (k := 4) 7 (rfv x 27) (by decide) rfl (by decide) (by decide) dX7_type_24 rfl fl_X7_34 rfl ?_
    refine v_getN 30 (k := 1) 5 (.int (nI (tl + 1))) (by decide) rfl (by decide) (by decide) dX7_type_27 rfl fl_X7_142 (congrArg Value.int g2) ?_
    refine v_iret rfl dX7_type_30 ?_
    have k1 : ∀ a, a ≠ 27 → a ≠ 28 → It a = I a := fun a q1 q2 => funext (fun q => g1 a q (Or.inl q2) (Or.inl q1))
    have e1 : tN tl = tl + 1 := if_neg h9
    have e2 : tT T tl ch = fun i => if i = tl then ch else T i := if_neg h9
    refine qZ (hQ It L P (fun a ha => k1 a (by omega) (by omega)) ?_) (by rw [tA, if_neg h9])
    rw [e1, e2]
    refine ⟨c.same (fun a _ _ => k1 a (by omega) (by omega)), hc.same (fun a _ _ => k1 a (by omega) (by omega)), ?_, fun e => (hsg e).same (fun a _ _ => k1 a (by omega) (by omega)), g2, fun i hi => ?_⟩
    · rw [k1 0 (by decide) (by decide)]
      exact hsn
    · by_cases q : i = tl
      · subst q
        simpa using g3
      · simp only [q, if_false]
        exact (g1 28 i (Or.inr q) (Or.inl (by decide))).trans (htx.2 i (by omega))
  · skip
    refine v_bipush 14 ((-3)) (by decide) dX7_type_12 rfl ?_
    refine v_iret rfl dX7_type_14 ?_
    subst h9
    exact qZ (hQ I L P (fun _ _ => rfl) ci) rfl
set_option maxHeartbeats 4000000 in
theorem sp_X7_clearText {x : Cx} {Q : Qt} {I : Iv} {L : Lv} {P : Pv} {f : Vw} {H : Hs} {hn sn : Nat} {g : Vw} {T : Tx} {tl : Nat} (ci : CI f H hn sn g T tl I P) (wi : WI f H hn sn g T tl) (hQ : ∀ (I1 : Iv) (L1 : Lv) (P1 : Pv), (∀ a, 40 ≤ a → I1 a = I a) → CI f H hn sn g T 0 I1 P1 → Q (some (.int (nI tl))) I1 L1 P1) : SP x M_X7_clearText [rfv x 0] I L P Q := by
  obtain ⟨c, hc, hsn, hsg, htx⟩ := id ci
  obtain ⟨w, hw, hs2, hwg, htl, hT⟩ := id wi
  have := w.n4
  have := w.m6
  have := w.n1
  refine SP.intro [some (rfv x 0), none] pn_X7_clearText (Nat.le_of_ble_eq_true rfl) rfl ?_
  refine v_aload_n 1 rfl dX7_clearText_0 rfl ?_
  refine v_get 4 (k := 4) 7 (rfv x 27) (by decide) rfl (by decide) (by decide) dX7_clearText_1 rfl fl_X7_34 rfl ?_
  refine v_getN 7 (k := 1) 5 (.int (nI (tl))) (by decide) rfl (by decide) (by decide) dX7_clearText_4 rfl fl_X7_142 (congrArg Value.int htx.1) ?_
  refine v_istore_n 8 [some (rfv x 0), some (.int (nI (tl)))] dX7_clearText_7 rfl (by decide) rfl ?_
  refine v_aload_n 9 rfl dX7_clearText_8 rfl ?_
  refine v_get 12 (k := 4) 7 (rfv x 27) (by decide) rfl (by decide) (by decide) dX7_clearText_9 rfl fl_X7_34 rfl ?_
  refine v_invV 15 M_X5_empty [] (by decide) rfl (by decide) rfl dX7_clearText_12 rfl ml_X7_149 im_X5_empty se_X5_empty mc_X5_empty (by decide) (Nat.le_of_ble_eq_true rfl) (sp_X5_empty (fun It g1 => ?_))
  refine v_iload_n 16 rfl dX7_clearText_15 rfl ?_
  refine v_iret rfl dX7_clearText_16 ?_
  have k1 : ∀ a, a ≠ 27 → It a = I a := fun a q => up2_row g1 q
  refine hQ It L P (fun a ha => k1 a (by omega)) ⟨c.same (fun a _ _ => k1 a (by omega)), hc.same (fun a _ _ => k1 a (by omega)), ?_, fun e => (hsg e).same (fun a _ _ => k1 a (by omega)), up2_at g1, fun i hi => absurd hi (Nat.not_lt_zero i)⟩
  rw [k1 0 (by decide)]
  exact hsn
set_option maxHeartbeats 4000000 in
theorem sp_X8_type {x : Cx} {Q : Qt} {I : Iv} {L : Lv} {P : Pv} {f : Vw} {H : Hs} {hn sn : Nat} {g : Vw} {T : Tx} {tl : Nat} (ri : RI f H hn sn g T tl I) (wi : WI f H hn sn g T tl) {ch : Nat} (hch : ch < 65536) (hQ : ∀ (I1 : Iv) (L1 : Lv), (∀ a, a < 40 → I1 a = I a) → RI f H hn sn g (tT T tl ch) (tN tl) I1 → Q (some (.int (tA tl))) I1 L1 P) : SP x M_X8_type [rfv x 40, .int (nI (ch))] I L P Q := by
  obtain ⟨r, hr, hsn, hsg, htx⟩ := id ri
  obtain ⟨w, hw, hs2, hwg, htl, hT⟩ := id wi
  have := w.n4
  have := w.m6
  have := w.n1
  refine SP.intro [some (rfv x 40), some (.int (nI (ch)))] pn_X8_type (Nat.le_of_ble_eq_true rfl) rfl ?_
  refine v_aload_n 1 rfl dX8_type_0 rfl ?_
  refine v_iconst 2 (nI (0)) (by decide) dX8_type_1 rfl ?_
  refine v_putI 5 (k := 0) 8 .int (by decide) rfl (by decide) (by decide) rfl (by decide +kernel) rfl rfl (fun _ _ => rfl) dX8_type_2 rfl fl_X8_50 (fun I2 e2 => ?_)
  have ht0 : I2 = up2 I 40 0 (nI 0) := e2
  have r2 : RR (I2 41) f := by rw [up2_row e2 (by omega)]; exact r
  have hr2 : HR H hn I2 := ⟨hr.1, (up2_off e2 (by omega)).trans hr.2.1, fun i hi => by rw [up2_row e2 (by omega)]; exact hr.2.2 i hi⟩
  have ri2 : RI f H hn sn g T tl I2 := ri.kp (fun a q hl => up2_off e2 (by unfold live at hl; omega))
  have lo2 : ∀ a, a < 40 → I2 a = I a := fun a ha => up2_row e2 (by omega)
  refine v_aload_n 6 rfl dX8_type_5 rfl ?_
  refine v_get 9 (k := 8) 8 (.int (nI (tl))) (by decide) rfl (by decide) (by decide) dX8_type_6 rfl fl_X8_120 (congrArg Value.int ri2.2.2.2.2.1) ?_
  refine v_bipush 11 (nI (60)) (by decide) dX8_type_9 rfl ?_
  refine v_icmpN_ne 17 14 dX8_type_11 (by decide) rfl (by omega) (by omega) (fun h11 => ?_) (fun h11 => ?_)
  · skip
    refine v_aload_n 18 rfl dX8_type_17 rfl ?_
    refine v_get 21 (k := 7) 8 (rfv x 45) (by decide) rfl (by decide) (by decide) dX8_type_18 rfl fl_X8_22 rfl ?_
    refine v_aload_n 22 rfl dX8_type_21 rfl ?_
    refine v_get 25 (k := 8) 8 (.int (nI (tl))) (by decide) rfl (by decide) (by decide) dX8_type_22 rfl fl_X8_120 (congrArg Value.int ri2.2.2.2.2.1) ?_
    refine v_iload_n 26 rfl dX8_type_25 rfl ?_
    refine v_iast 27 (k := tl) (nI (ch)) (by decide) rfl (by decide) dX8_type_26 rfl rfl (by omega) rfl (fun I26 e26 => ?_)
    refine v_aload_n 28 rfl dX8_type_27 rfl ?_
    refine v_dup 29 dX8_type_28 rfl rfl ?_
    refine v_get 32 (k := 8) 8 (.int (nI (tl))) (by decide) rfl (by decide) (by decide) dX8_type_29 rfl fl_X8_120 (congrArg Value.int ((up2_off e26 (by omega)).trans ri2.2.2.2.2.1)) ?_
    refine v_iconst 33 (nI (1)) (by decide) dX8_type_32 rfl ?_
    refine v_iadd 34 (nI (tl + 1)) dX8_type_33 rfl (nI_add _ _) ?_
    refine v_putI 37 (k := 8) 8 .int (by decide) rfl (by decide) (by decide) rfl (by decide +kernel) rfl rfl (fun _ _ => rfl) dX8_type_34 rfl fl_X8_120 (fun I34 e34 => ?_)
    refine v_aload_n 38 rfl dX8_type_37 rfl ?_
    refine v_get 41 (k := 8) 8 (.int (nI (tl + 1))) (by decide) rfl (by decide) (by decide) dX8_type_38 rfl fl_X8_120 (congrArg Value.int (up2_at e34)) ?_
    refine v_iret rfl dX8_type_41 ?_
    have e1 : tN tl = tl + 1 := if_neg h11
    have e9 : tT T tl ch = fun i => if i = tl then ch else T i := if_neg h11
    have k1 : ∀ a q, a ≠ 45 → (a ≠ 40 ∨ q ≠ 8) → I34 a q = I2 a q := fun a q z1 z2 => (up2_off e34 (by omega)).trans (up2_off e26 (by omega))
    refine qZ (hQ I34 L (fun a ha => ?_) ?_) (by rw [tA, if_neg h11])
    · rw [show I34 a = I2 a from funext (fun q => k1 a q (by omega) (Or.inl (by omega)))]
      exact lo2 a ha
    · rw [e1, e9]
      refine ⟨r2.on w (fun j _ => k1 41 j (by decide) (Or.inl (by decide))), ⟨hr.1, (k1 40 4 (by decide) (Or.inr (by decide))).trans hr2.2.1, fun i hi => (hr2.2.2 i hi).on (hw i hi) (fun j _ => k1 43 _ (by decide) (Or.inl (by decide)))⟩, (k1 40 6 (by decide) (Or.inr (by decide))).trans ri2.2.2.1, fun e => (ri2.2.2.2.1 e).on (hwg e) (fun j _ => k1 44 j (by decide) (Or.inl (by decide))), up2_at e34, fun i hi => ?_⟩
      by_cases q : i = tl
      · subst q
        rw [up2_off e34 (by omega), up2_at e26]
        simp
      · simp only [q, if_false]
        rw [up2_off e34 (by omega), up2_off e26 (by omega)]
        exact ri2.2.2.2.2.2 i (by omega)
  · skip
    refine v_bipush 16 ((-3)) (by decide) dX8_type_14 rfl ?_
    refine v_iret rfl dX8_type_16 ?_
    subst h11
    exact qZ (hQ I2 L lo2 ri2) rfl
set_option maxHeartbeats 4000000 in
theorem sp_X8_clearText {x : Cx} {Q : Qt} {I : Iv} {L : Lv} {P : Pv} {f : Vw} {H : Hs} {hn sn : Nat} {g : Vw} {T : Tx} {tl : Nat} (ri : RI f H hn sn g T tl I) (wi : WI f H hn sn g T tl) (hQ : ∀ (I1 : Iv) (L1 : Lv), (∀ a, a < 40 → I1 a = I a) → RI f H hn sn g T 0 I1 → Q (some (.int (nI tl))) I1 L1 P) : SP x M_X8_clearText [rfv x 40] I L P Q := by
  obtain ⟨r, hr, hsn, hsg, htx⟩ := id ri
  obtain ⟨w, hw, hs2, hwg, htl, hT⟩ := id wi
  have := w.n4
  have := w.m6
  have := w.n1
  refine SP.intro [some (rfv x 40), none] pn_X8_clearText (Nat.le_of_ble_eq_true rfl) rfl ?_
  refine v_aload_n 1 rfl dX8_clearText_0 rfl ?_
  refine v_iconst 2 (nI (0)) (by decide) dX8_clearText_1 rfl ?_
  refine v_putI 5 (k := 0) 8 .int (by decide) rfl (by decide) (by decide) rfl (by decide +kernel) rfl rfl (fun _ _ => rfl) dX8_clearText_2 rfl fl_X8_50 (fun I2 e2 => ?_)
  have ht0 : I2 = up2 I 40 0 (nI 0) := e2
  have r2 : RR (I2 41) f := by rw [up2_row e2 (by omega)]; exact r
  have hr2 : HR H hn I2 := ⟨hr.1, (up2_off e2 (by omega)).trans hr.2.1, fun i hi => by rw [up2_row e2 (by omega)]; exact hr.2.2 i hi⟩
  have ri2 : RI f H hn sn g T tl I2 := ri.kp (fun a q hl => up2_off e2 (by unfold live at hl; omega))
  have lo2 : ∀ a, a < 40 → I2 a = I a := fun a ha => up2_row e2 (by omega)
  refine v_aload_n 6 rfl dX8_clearText_5 rfl ?_
  refine v_get 9 (k := 8) 8 (.int (nI (tl))) (by decide) rfl (by decide) (by decide) dX8_clearText_6 rfl fl_X8_120 (congrArg Value.int ri2.2.2.2.2.1) ?_
  refine v_istore_n 10 [some (rfv x 40), some (.int (nI (tl)))] dX8_clearText_9 rfl (by decide) rfl ?_
  refine v_aload_n 11 rfl dX8_clearText_10 rfl ?_
  refine v_iconst 12 (nI (0)) (by decide) dX8_clearText_11 rfl ?_
  refine v_putI 15 (k := 8) 8 .int (by decide) rfl (by decide) (by decide) rfl (by decide +kernel) rfl rfl (fun _ _ => rfl) dX8_clearText_12 rfl fl_X8_120 (fun I12 e12 => ?_)
  refine v_iload_n 16 rfl dX8_clearText_15 rfl ?_
  refine v_iret rfl dX8_clearText_16 ?_
  have k1 : ∀ a q, (a ≠ 40 ∨ q ≠ 8) → I12 a q = I2 a q := fun a q z => up2_off e12 (by omega)
  refine hQ I12 L (fun a ha => ?_) ⟨r2.on w (fun j _ => k1 41 j (Or.inl (by decide))), ⟨hr.1, (k1 40 4 (Or.inr (by decide))).trans hr2.2.1, fun i hi => (hr2.2.2 i hi).on (hw i hi) (fun j _ => k1 43 _ (Or.inl (by decide)))⟩, (k1 40 6 (Or.inr (by decide))).trans ri2.2.2.1, fun e => (ri2.2.2.2.1 e).on (hwg e) (fun j _ => k1 44 j (Or.inl (by decide))), up2_at e12, fun i hi => absurd hi (Nat.not_lt_zero i)⟩
  rw [show I12 a = I2 a from funext (fun q => k1 a q (Or.inl (by omega)))]
  exact lo2 a ha
