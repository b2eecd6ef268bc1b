theorem setB_ok {z : Int32} (q : ¬ (z < nI 500 ∨ nI 1000 < z)) : ∃ v, (500 ≤ v ∧ v ≤ 1000) ∧ z = nI v := by
  have h1 : ¬ z < nI 500 := fun h => q (Or.inl h)
  have h2 : ¬ nI 1000 < z := fun h => q (Or.inr h)
  rw [Int32.lt_iff_toInt_lt, nI_toInt (by decide)] at h1 h2
  have h0 : ¬ z < 0 := fun h => by
    have := Int32.lt_iff_toInt_lt.mp h
    rw [show (0 : Int32) = nI 0 from rfl, nI_toInt (by decide)] at this
    omega
  obtain ⟨v, hv, e⟩ := nI_of h0
  subst e
  rw [nI_toInt hv] at h1 h2
  exact ⟨v, by omega, rfl⟩
set_option maxHeartbeats 4000000 in
theorem sp_X7_setBound {x : Cx} {Q : Qt} {I : Iv} {L : Lv} {P : Pv} {f : Vw} {H : Hs} {hn sn : Nat} {g : Vw} {T : Tx} {tl : Nat} (ci : CI f H hn sn g T tl I P) (wi : WI f H hn sn g T tl) {z : Int32} (hQ : ∀ (I1 : Iv) (L1 : Lv) (P1 : Pv), (∀ a, 40 ≤ a → I1 a = I a) → CI (stF (setB f z) f (upf f 2 (ix z))) (stH (setB f z) H hn f) (stN (setB f z) hn) sn g T tl I1 P1 → Q (some (.int (setA f z))) I1 L1 P1) : SP x M_X7_setBound [rfv x 0, .int (z)] I L P Q := by
  obtain ⟨c, hc, hsn, hsg, htx⟩ := id ci
  obtain ⟨w, hw, hs2, hwg, htl, hT⟩ := id wi
  have := w.n4
  have := w.m6
  have := w.n1
  refine SP.intro [some (rfv x 0), some (.int (z)), none] pn_X7_setBound (Nat.le_of_ble_eq_true rfl) rfl ?_
  refine v_iload_n 1 rfl dX7_setBound_0 rfl ?_
  refine v_sipush 4 (nI (500)) (by decide) dX7_setBound_1 rfl ?_
  refine v_icmp_lt 14 7 dX7_setBound_4 (by decide) rfl (fun h4 => ?_) (fun h4 => ?_)
  · skip
    refine v_bipush 16 ((-2)) (by decide) dX7_setBound_14 rfl ?_
    refine v_iret rfl dX7_setBound_16 ?_
    first
    | (have q0 : z < nI 500 ∨ nI 1000 < z := Or.inl h4
       refine qZ (hQ I L P (fun _ _ => rfl) ?_) (by rw [setA, if_pos q0])
       rw [show setB f z = false by simp [setB, q0]]
       exact ci)
    | (have q0 : z < nI 500 ∨ nI 1000 < z := Or.inr (Int32.not_le.mp h11)
       refine qZ (hQ I L P (fun _ _ => rfl) ?_) (by rw [setA, if_pos q0])
       rw [show setB f z = false by simp [setB, q0]]
       exact ci)
  · skip
    refine v_iload_n 8 rfl dX7_setBound_7 rfl ?_
    refine v_sipush 11 (nI (1000)) (by decide) dX7_setBound_8 rfl ?_
    refine v_icmp_le 17 14 dX7_setBound_11 (by decide) rfl (fun h11 => ?_) (fun h11 => ?_)
    · skip
      have q0 : ¬ (z < nI 500 ∨ nI 1000 < z) := by
        rintro (q | q)
        · exact h4 q
        · exact absurd q (Int32.not_lt.mpr h11)
      refine v_aload_n 18 rfl dX7_setBound_17 rfl ?_
      refine v_get 21 (k := 0) 7 (rfv x 1) (by decide) rfl (by decide) (by decide) dX7_setBound_18 rfl fl_X7_15 rfl ?_
      refine v_getN 24 (k := 2) 3 (.int (nI (f 2))) (by decide) rfl (by decide) (by decide) dX7_setBound_21 rfl fl_X7_114 (congrArg Value.int c.bd) ?_
      refine v_istore_n 25 [some (rfv x 0), some (.int (z)), some (.int (nI (f 2)))] dX7_setBound_24 rfl (by decide) rfl ?_
      refine v_iload_n 26 rfl dX7_setBound_25 rfl ?_
      refine v_iload_n 27 rfl dX7_setBound_26 rfl ?_
      refine v_icmp_ne 33 30 dX7_setBound_27 (by decide) rfl (fun h27 => ?_) (fun h27 => ?_)
      · skip
        obtain ⟨v, hv, ez⟩ := setB_ok q0
        subst ez
        have hix : ix (nI v) = v := ix_n (by omega)
        refine v_aload_n 34 rfl dX7_setBound_33 rfl ?_
        refine v_get 37 (k := 3) 7 (rfv x 9) (by decide) rfl (by decide) (by decide) dX7_setBound_34 rfl fl_X7_27 rfl ?_
        refine v_aload_n 38 rfl dX7_setBound_37 rfl ?_
        refine v_get 41 (k := 0) 7 (rfv x 1) (by decide) rfl (by decide) (by decide) dX7_setBound_38 rfl fl_X7_15 rfl ?_
        refine v_invV 44 M_X1_record [rfv x 1] (by decide) rfl (by decide) rfl dX7_setBound_41 rfl ml_X7_81 im_X1_record se_X1_record mc_X1_record (by decide) (Nat.le_of_ble_eq_true rfl) (sp_X1_record hc c w (fun Ir Pr fr hcr => ?_))
        refine v_aload_n 45 rfl dX7_setBound_44 rfl ?_
        refine v_get 48 (k := 0) 7 (rfv x 1) (by decide) rfl (by decide) (by decide) dX7_setBound_45 rfl fl_X7_15 rfl ?_
        refine v_iload_n 49 rfl dX7_setBound_48 rfl ?_
        refine v_putIN 52 (k := 2) 3 .int (by decide) rfl (by decide) (by decide) rfl (by decide +kernel) rfl rfl (fun _ _ => rfl) dX7_setBound_49 rfl fl_X7_114 (fun I49 e49 => ?_)
        refine v_iload_n 53 rfl dX7_setBound_52 rfl ?_
        refine v_iret rfl dX7_setBound_53 ?_
        refine qZ (hQ I49 L Pr (fun a ha => (up2_row e49 (by omega)).trans (fr a (by omega))) ?_) (by rw [setA, if_neg q0, if_neg h27])
        rw [show setB f (nI v) = true by simp only [setB, q0, h27]; decide, hix]
        have c1 : RC 1 f Ir := c.same (fun a _ _ => fr a (by omega))
        refine ⟨c1.setB w e49, hcr.same (fun a _ _ => up2_row e49 (by omega)), ?_, fun e => ?_, ?_, fun i hi => ?_⟩
        · rw [up2_off e49 (by omega), fr 0 (by omega)]
          exact hsn
        · exact (hsg e).same (fun a _ _ => (up2_row e49 (by omega)).trans (fr a (by omega)))
        · rw [up2_off e49 (by omega), fr 27 (by omega)]
          exact htx.1
        · rw [up2_off e49 (by omega), fr 28 (by omega)]
          exact htx.2 i hi
      · skip
        refine v_bipush 32 ((-5)) (by decide) dX7_setBound_30 rfl ?_
        refine v_iret rfl dX7_setBound_32 ?_
        refine qZ (hQ I L P (fun _ _ => rfl) ?_) (by rw [setA, if_neg q0, if_pos h27])
        rw [show setB f z = false by simp [setB, h27]]
        exact ci
    · skip
      refine v_bipush 16 ((-2)) (by decide) dX7_setBound_14 rfl ?_
      refine v_iret rfl dX7_setBound_16 ?_
      first
      | (have q0 : z < nI 500 ∨ nI 1000 < z := Or.inl h4
         refine qZ (hQ I L P (fun _ _ => rfl) ?_) (by rw [setA, if_pos q0])
         rw [show setB f z = false by simp [setB, q0]]
         exact ci)
      | (have q0 : z < nI 500 ∨ nI 1000 < z := Or.inr (Int32.not_le.mp h11)
         refine qZ (hQ I L P (fun _ _ => rfl) ?_) (by rw [setA, if_pos q0])
         rw [show setB f z = false by simp [setB, q0]]
         exact ci)
set_option maxHeartbeats 4000000 in
theorem sp_X8_setBound {x : Cx} {Q : Qt} {I : Iv} {L : Lv} {P : Pv} {f : Vw} {H : Hs} {hn sn : Nat} {g : Vw} {T : Tx} {tl : Nat} (ri : RI f H hn sn g T tl I) (wi : WI f H hn sn g T tl) {z : Int32} (hQ : ∀ (I1 : Iv) (L1 : Lv), (∀ a, a < 40 → I1 a = I a) → RI (stF (setB f z) f (upf f 2 (ix z))) (stH (setB f z) H hn f) (stN (setB f z) hn) sn g T tl I1 → Q (some (.int (setA f z))) I1 L1 P) : SP x M_X8_setBound [rfv x 40, .int (z)] I L P Q := by
  obtain ⟨r, hr, hsn, hsg, htx⟩ := id ri
  obtain ⟨w, hw, hs2, hwg, htl, hT⟩ := id wi
  have := w.n4
  have := w.m6
  have := w.n1
  refine SP.intro [some (rfv x 40), some (.int (z)), none] pn_X8_setBound (Nat.le_of_ble_eq_true rfl) rfl ?_
  refine v_aload_n 1 rfl dX8_setBound_0 rfl ?_
  refine v_iconst 2 (nI (0)) (by decide) dX8_setBound_1 rfl ?_
  refine v_putI 5 (k := 0) 8 .int (by decide) rfl (by decide) (by decide) rfl (by decide +kernel) rfl rfl (fun _ _ => rfl) dX8_setBound_2 rfl fl_X8_50 (fun I2 e2 => ?_)
  have ht0 : I2 = up2 I 40 0 (nI 0) := e2
  have r2 : RR (I2 41) f := by rw [up2_row e2 (by omega)]; exact r
  have hr2 : HR H hn I2 := ⟨hr.1, (up2_off e2 (by omega)).trans hr.2.1, fun i hi => by rw [up2_row e2 (by omega)]; exact hr.2.2 i hi⟩
  have ri2 : RI f H hn sn g T tl I2 := ri.kp (fun a q hl => up2_off e2 (by unfold live at hl; omega))
  have lo2 : ∀ a, a < 40 → I2 a = I a := fun a ha => up2_row e2 (by omega)
  refine v_iload_n 6 rfl dX8_setBound_5 rfl ?_
  refine v_sipush 9 (nI (500)) (by decide) dX8_setBound_6 rfl ?_
  refine v_sipush 12 (nI (1000)) (by decide) dX8_setBound_9 rfl ?_
  refine v_invT 15 M_X8_in [.int (z), .int (nI (500)), .int (nI (1000))] dX8_setBound_12 rfl ml_X8_58 sm_X8_in mc_X8_in (by decide) (Nat.le_of_ble_eq_true rfl) (sp_X8_in ?_)
  refine v_ifN_ne 21 18 dX8_setBound_15 (by decide) rfl (by have := inr_lt z (nI 500) (nI 1000); omega) (fun h15 => ?_) (fun h15 => ?_)
  · skip
    have q0 : ¬ (z < nI 500 ∨ nI 1000 < z) := fun q => h15 (if_pos q)
    refine v_aload_n 22 rfl dX8_setBound_21 rfl ?_
    refine v_get 25 (k := 1) 8 (rfv x 41) (by decide) rfl (by decide) (by decide) dX8_setBound_22 rfl fl_X8_7 rfl ?_
    refine v_iconst 26 (nI (2)) (by decide) dX8_setBound_25 rfl ?_
    refine v_iald 27 (k := 2) (nI (f 2)) (by decide) rfl (by decide) dX8_setBound_26 rfl rfl (by omega) r2.bd ?_
    refine v_istore_n 28 [some (rfv x 40), some (.int (z)), some (.int (nI (f 2)))] dX8_setBound_27 rfl (by decide) rfl ?_
    refine v_iload_n 29 rfl dX8_setBound_28 rfl ?_
    refine v_iload_n 30 rfl dX8_setBound_29 rfl ?_
    refine v_icmp_ne 36 33 dX8_setBound_30 (by decide) rfl (fun h30 => ?_) (fun h30 => ?_)
    · skip
      obtain ⟨v, hv, ez⟩ := setB_ok q0
      subst ez
      have hix : ix (nI v) = v := ix_n (by omega)
      refine v_aload_n 37 rfl dX8_setBound_36 rfl ?_
      refine v_invV 40 M_X8_records [] (by decide) rfl (by decide) rfl dX8_setBound_37 rfl ml_X8_105 im_X8_records se_X8_records mc_X8_records (by decide) (Nat.le_of_ble_eq_true rfl) (sp_X8_records hr2 hw r2 w (fun Ir fr hrr => ?_))
      have rr : RR (Ir 41) f := (r2.on w (fun j _ => fr 41 j (by decide) (Or.inl (by decide))))
      refine v_aload_n 41 rfl dX8_setBound_40 rfl ?_
      refine v_get 44 (k := 1) 8 (rfv x 41) (by decide) rfl (by decide) (by decide) dX8_setBound_41 rfl fl_X8_7 rfl ?_
      refine v_iconst 45 (nI (2)) (by decide) dX8_setBound_44 rfl ?_
      refine v_iload_n 46 rfl dX8_setBound_45 rfl ?_
      refine v_iast 47 (k := 2) (nI (v)) (by decide) rfl (by decide) dX8_setBound_46 rfl rfl (by omega) rfl (fun I46 e46 => ?_)
      refine v_iload_n 48 rfl dX8_setBound_47 rfl ?_
      refine v_iret rfl dX8_setBound_48 ?_
      refine qZ (hQ I46 L (fun a ha => ?_) ?_) (by rw [setA, if_neg q0, if_neg h30])
      · rw [up2_row e46 (by omega), show Ir a = I2 a from funext (fun q => fr a q (by omega) (Or.inl (by omega)))]
        exact lo2 a ha
      · rw [show setB f (nI v) = true by simp only [setB, q0, h30]; decide, hix]
        have k1 : ∀ a q, a ≠ 41 → I46 a q = Ir a q := fun a q h => up2_off e46 (by omega)
        refine ⟨rr.setB w (up2_at e46) (fun j hj => up2_off e46 (by omega)), ⟨hrr.1, (k1 40 4 (by decide)).trans hrr.2.1, fun i hi => by rw [up2_row e46 (by decide)]; exact hrr.2.2 i hi⟩, ?_, fun e => ?_, ?_, fun i hi => ?_⟩
        · rw [k1 40 6 (by decide), fr 40 6 (by decide) (Or.inr (by decide))]
          exact ri2.2.2.1
        · rw [up2_row e46 (by decide)]
          exact (ri2.2.2.2.1 e).on (hwg e) (fun j _ => fr 44 j (by decide) (Or.inl (by decide)))
        · rw [k1 40 8 (by decide), fr 40 8 (by decide) (Or.inr (by decide))]
          exact ri2.2.2.2.2.1
        · rw [k1 45 i (by decide), fr 45 i (by decide) (Or.inl (by decide))]
          exact ri2.2.2.2.2.2 i hi
    · skip
      refine v_bipush 35 ((-5)) (by decide) dX8_setBound_33 rfl ?_
      refine v_iret rfl dX8_setBound_35 ?_
      refine qZ (hQ I2 L lo2 ?_) (by rw [setA, if_neg q0, if_pos h30])
      rw [show setB f z = false by simp [setB, h30]]
      exact ri2
  · skip
    refine v_bipush 20 ((-2)) (by decide) dX8_setBound_18 rfl ?_
    refine v_iret rfl dX8_setBound_20 ?_
    have q0 : z < nI 500 ∨ nI 1000 < z := Classical.byContradiction (fun q => by rw [inr, if_neg q] at h15; exact absurd h15 (by decide))
    refine qZ (hQ I2 L lo2 ?_) (by rw [setA, if_pos q0])
    rw [show setB f z = false by simp [setB, q0]]
    exact ri2
