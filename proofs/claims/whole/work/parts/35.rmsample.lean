/-! a sample away -/
def rsF (f : Vw) (s : Nat) : Vw := fun q => if q = 1 then f 1 - 1 else if q < 35 + 8 * s then f q else f (q + 8)
theorem rsF_1 {f : Vw} {s : Nat} : rsF f s 1 = f 1 - 1 := rfl
theorem rsF_lo {f : Vw} {s q : Nat} (h : q ≠ 1) (h2 : q < 35 + 8 * s) : rsF f s q = f q := by
  rw [rsF, if_neg h, if_pos h2]
theorem rsF_hi {f : Vw} {s q : Nat} (h2 : ¬ q < 35 + 8 * s) : rsF f s q = f (q + 8) := by
  rw [rsF, if_neg (by omega), if_neg h2]
theorem rsF_n {f : Vw} {s k : Nat} : nP (rsF f s) k = nP f (sk s k) := by
  unfold nP
  by_cases y : k < s
  · rw [sk_lo y, rsF_lo (by omega) (by omega)]
  · rw [sk_hi y, rsF_hi (by omega), show 35 + 8 * k + 8 = 35 + 8 * (k + 1) by omega]
theorem rsF_s {f : Vw} {s k p : Nat} (hp : p < 7) : sG (rsF f s) k p = sG f (sk s k) p := by
  unfold sG
  by_cases y : k < s
  · rw [sk_lo y, rsF_lo (by omega) (by omega)]
  · rw [sk_hi y, rsF_hi (by omega), show 35 + 8 * k + 1 + p + 8 = 35 + 8 * (k + 1) + 1 + p by omega]
theorem PC.rs {f : Vw} {s p c : Nat} (h : PC (rsF f s) p c) : PC f p c := by
  unfold PC at h ⊢
  rw [rsF_lo (by omega) (by omega)] at h
  exact h
theorem Wf.rs {f : Vw} {s : Nat} (w : Wf f) (hs : s < f 1) : Wf (rsF f s) := by
  have := w.m6
  refine Wf.mk ?_ ?_ ?_ (fun p c h => ?_) (fun k hk => ?_) (fun k p hk hp => ?_)
  · rw [rsF_lo (by omega) (by omega)]
    exact w.1
  · rw [rsF_1]
    omega
  · rw [rsF_lo (by omega) (by omega)]
    exact w.2.2.1
  · have h1 := h.rs
    have h2 := h1.lt w
    rw [rsF_lo (by omega) (by omega)]
    exact w.at h1
  · rw [rsF_1] at hk
    rw [rsF_n]
    exact w.p (sk_lt hk)
  · rw [rsF_1] at hk
    rw [rsF_n] at hp
    have h7 := w.p (sk_lt (s := s) hk)
    rw [rsF_s (by omega)]
    exact w.s (sk_lt hk) hp
theorem RC.rs {f : Vw} {s : Nat} {I I1 : Iv} (r : RC 1 f I) (w : Wf f) (hs : s < f 1) (e0 : ∀ q, q ≠ 5 → I1 1 q = I 1 q) (e5 : I1 1 5 = nI (f 1 - 1)) (e2 : I1 2 = I 2) (hn : ∀ k, k < f 1 - 1 → I1 3 k = I 3 (sk s k)) (hg : ∀ k p, k < f 1 - 1 → p < 7 → I1 4 (k * 7 + p) = I 4 (sk s k * 7 + p)) : RC 1 (rsF f s) I1 := by
  refine RC.mk ?_ e5 ?_ (fun p c h => ?_) (fun k hk => ?_) (fun k p hk hp => ?_)
  · rw [rsF_lo (by omega) (by omega)]
    exact (e0 1 (by decide)).trans r.st
  · rw [rsF_lo (by omega) (by omega)]
    exact (e0 2 (by decide)).trans r.bd
  · have h1 := h.rs
    have h2 := h1.lt w
    rw [rsF_lo (by omega) (by omega), e2]
    exact r.at h1
  · rw [rsF_1] at hk
    rw [rsF_n]
    exact (hn k hk).trans (r.n (sk_lt hk))
  · rw [rsF_1] at hk
    rw [rsF_n] at hp
    have h7 := w.p (sk_lt (s := s) hk)
    rw [rsF_s (by omega)]
    exact (hg k p hk (by omega)).trans (r.s (sk_lt hk) hp)
theorem RR.rs {f : Vw} {s : Nat} {h h1 : Nat → Int32} (r : RR h f) (w : Wf f) (hs : s < f 1) (e1 : h1 1 = nI (f 1 - 1)) (e0 : ∀ q, q ≠ 1 → q < 35 + 8 * s → h1 q = h q) (e2 : ∀ q, 35 + 8 * s ≤ q → q < 35 + 8 * (f 1 - 1) → h1 q = h (q + 8)) : RR h1 (rsF f s) := by
  refine RR.mk ?_ e1 ?_ (fun p c g => ?_) (fun k hk => ?_) (fun k p hk hp => ?_)
  · rw [rsF_lo (by omega) (by omega)]
    exact (e0 0 (by decide) (by omega)).trans r.st
  · rw [rsF_lo (by omega) (by omega)]
    exact (e0 2 (by decide) (by omega)).trans r.bd
  · have h1 := g.rs
    have h2 := h1.lt w
    rw [rsF_lo (by omega) (by omega)]
    exact (e0 p (by omega) (by omega)).trans (r.at h1)
  · rw [rsF_1] at hk
    rw [rsF_n]
    by_cases y : k < s
    · rw [sk_lo y]
      exact (e0 _ (by omega) (by omega)).trans (r.n (by omega))
    · rw [sk_hi y]
      exact (e2 _ (by omega) (by omega)).trans (r.n (k := k + 1) (by omega))
  · rw [rsF_1] at hk
    rw [rsF_n] at hp
    have h7 := w.p (sk_lt (s := s) hk)
    rw [rsF_s (by omega)]
    by_cases y : k < s
    · rw [sk_lo y] at hp h7 ⊢
      exact (e0 _ (by omega) (by omega)).trans (r.s (by omega) hp)
    · rw [sk_hi y] at hp h7 ⊢
      have h9 := r.s (k := k + 1) (by omega) hp
      rw [show 35 + 8 * (k + 1) + 1 + p = 35 + 8 * k + 1 + p + 8 by omega] at h9
      exact (e2 _ (by omega) (by omega)).trans h9
def rsA (f : Vw) (z : Int32) : Int32 := if inb z (f 1) = 0 then (-1) else nI (f 1 - 1)
def rsB (f : Vw) (z : Int32) : Bool := if inb z (f 1) = 0 then false else true
set_option maxHeartbeats 4000000 in
theorem sp_X3_dropSample {x : Cx} {Q : Qt} {I : Iv} {L : Lv} {P : Pv} {f : Vw} (c : RC 1 f I) (w : Wf f) {s : Nat} (hs : s < f 1) (hQ : ∀ I1 : Iv, (∀ a, a ≠ 1 → a ≠ 3 → a ≠ 4 → I1 a = I a) → RC 1 (rsF f s) I1 → Q none I1 L P) : SP x M_X3_dropSample [rfv x 1, .int (nI (s))] I L P Q := by
  have := w.n4
  have := w.m6
  refine SP.intro [some (rfv x 1), some (.int (nI (s))), none, none] pn_X3_dropSample (Nat.le_of_ble_eq_true rfl) rfl ?_
  refine v_aload_n 1 rfl dX3_dropSample_0 rfl ?_
  refine v_get 4 (k := 5) 3 (.int (nI (f 1))) (by decide) rfl (by decide) (by decide) dX3_dropSample_1 rfl fl_X3_34 (congrArg Value.int c.sm) ?_
  refine v_iconst 5 (nI (1)) (by decide) dX3_dropSample_4 rfl ?_
  refine v_isub 6 (nI ((f 1) - 1)) dX3_dropSample_5 rfl (pk_sub (by omega)) ?_
  refine v_iload_n 7 rfl dX3_dropSample_6 rfl ?_
  refine v_isub 8 (nI (((f 1) - 1) - s)) dX3_dropSample_7 rfl (pk_sub (by omega)) ?_
  refine v_istore_n 9 [some (rfv x 1), some (.int (nI (s))), some (.int (nI (((f 1) - 1) - s))), none] dX3_dropSample_8 rfl (by decide) rfl ?_
  refine v_aload_n 10 rfl dX3_dropSample_9 rfl ?_
  refine v_get 13 (k := 3) 3 (rfv x 3) (by decide) rfl (by decide) (by decide) dX3_dropSample_10 rfl fl_X3_22 rfl ?_
  refine v_iload_n 14 rfl dX3_dropSample_13 rfl ?_
  refine v_iconst 15 (nI (1)) (by decide) dX3_dropSample_14 rfl ?_
  refine v_iadd 16 (nI (s + 1)) dX3_dropSample_15 rfl (nI_add _ _) ?_
  refine v_aload_n 17 rfl dX3_dropSample_16 rfl ?_
  refine v_get 20 (k := 3) 3 (rfv x 3) (by decide) rfl (by decide) (by decide) dX3_dropSample_17 rfl fl_X3_22 rfl ?_
  refine v_iload_n 21 rfl dX3_dropSample_20 rfl ?_
  refine v_iload_n 22 rfl dX3_dropSample_21 rfl ?_
  refine v_acopy 25 (sp := s + 1) (dp := s) (n := ((f 1) - 1) - s) (by decide) (by decide) rfl rfl dX3_dropSample_22 rfl ml_X3_28 ⟨by decide, Nat.le_of_ble_eq_true rfl⟩ rfl rfl rfl ⟨by decide, by decide⟩ (by omega) (by omega) (fun I22 e22 => ?_)
  refine v_iload_n 26 rfl dX3_dropSample_25 rfl ?_
  refine v_iconst 27 (nI (1)) (by decide) dX3_dropSample_26 rfl ?_
  refine v_iadd 28 (nI (s + 1)) dX3_dropSample_27 rfl (nI_add _ _) ?_
  refine v_bipush 30 (nI (7)) (by decide) dX3_dropSample_28 rfl ?_
  refine v_imul 31 (nI ((s + 1) * 7)) dX3_dropSample_30 rfl (pk_mul _ _) ?_
  refine v_istore_n 32 [some (rfv x 1), some (.int (nI (s))), some (.int (nI (((f 1) - 1) - s))), some (.int (nI ((s + 1) * 7)))] dX3_dropSample_31 rfl (by decide) rfl ?_
  refine v_aload_n 33 rfl dX3_dropSample_32 rfl ?_
  refine v_get 36 (k := 4) 3 (rfv x 4) (by decide) rfl (by decide) (by decide) dX3_dropSample_33 rfl fl_X3_25 rfl ?_
  refine v_iload_n 37 rfl dX3_dropSample_36 rfl ?_
  refine v_aload_n 38 rfl dX3_dropSample_37 rfl ?_
  refine v_get 41 (k := 4) 3 (rfv x 4) (by decide) rfl (by decide) (by decide) dX3_dropSample_38 rfl fl_X3_25 rfl ?_
  refine v_iload_n 42 rfl dX3_dropSample_41 rfl ?_
  refine v_bipush 44 (nI (7)) (by decide) dX3_dropSample_42 rfl ?_
  refine v_imul 45 (nI (s * 7)) dX3_dropSample_44 rfl (pk_mul _ _) ?_
  refine v_iload_n 46 rfl dX3_dropSample_45 rfl ?_
  refine v_bipush 48 (nI (7)) (by decide) dX3_dropSample_46 rfl ?_
  refine v_imul 49 (nI ((((f 1) - 1) - s) * 7)) dX3_dropSample_48 rfl (pk_mul _ _) ?_
  refine v_acopy 52 (sp := (s + 1) * 7) (dp := s * 7) (n := (((f 1) - 1) - s) * 7) (by decide) (by decide) rfl rfl dX3_dropSample_49 rfl ml_X3_28 ⟨by decide, Nat.le_of_ble_eq_true rfl⟩ rfl rfl rfl ⟨by decide, by decide⟩ (by omega) (by omega) (fun I49 e49 => ?_)
  have k5 : I49 1 5 = nI (f 1) := by
    rw [cpy_row e49 (by decide), cpy_row e22 (by decide)]
    exact c.sm
  refine v_aload_n 53 rfl dX3_dropSample_52 rfl ?_
  refine v_dup 54 dX3_dropSample_53 rfl rfl ?_
  refine v_get 57 (k := 5) 3 (.int (nI (f 1))) (by decide) rfl (by decide) (by decide) dX3_dropSample_54 rfl fl_X3_34 (congrArg Value.int k5) ?_
  refine v_iconst 58 (nI (1)) (by decide) dX3_dropSample_57 rfl ?_
  refine v_isub 59 (nI ((f 1) - 1)) dX3_dropSample_58 rfl (pk_sub (by omega)) ?_
  refine v_putI 62 (k := 5) 3 .int (by decide) rfl (by decide) (by decide) rfl (by decide +kernel) rfl rfl (fun _ _ => rfl) dX3_dropSample_59 rfl fl_X3_34 (fun I59 e59 => ?_)
  refine v_vret rfl dX3_dropSample_62 ?_
  have z : ∀ a, a ≠ 1 → a ≠ 3 → a ≠ 4 → I59 a = I a := fun a z1 z3 z4 => (up2_row e59 z1).trans ((cpy_row e49 z4).trans (cpy_row e22 z3))
  refine hQ I59 z (c.rs w hs (fun q hq => ?_) (up2_at e59) (z 2 (by decide) (by decide) (by decide)) (fun k hk => ?_) (fun k j hk hj => ?_))
  · rw [up2_off e59 (by omega), cpy_row e49 (by decide), cpy_row e22 (by decide)]
  · rw [up2_row e59 (by decide), cpy_row e49 (by decide), e22]
    unfold cpy2
    rw [if_pos rfl]
    by_cases y : k < s
    · rw [sk_lo y, if_neg (by omega)]
    · rw [sk_hi y, if_pos (by omega), show s + 1 + (k - s) = k + 1 by omega]
  · rw [up2_row e59 (by decide), e49]
    unfold cpy2
    rw [if_pos rfl]
    have z4 : I22 4 = I 4 := cpy_row e22 (by decide)
    by_cases y : k < s
    · rw [sk_lo y, if_neg (by omega), z4]
    · rw [sk_hi y, if_pos (by omega), z4, show (s + 1) * 7 + (k * 7 + j - s * 7) = (k + 1) * 7 + j by omega]
set_option maxHeartbeats 4000000 in
theorem sp_X7_removeSample {x : Cx} {Q : Qt} {I : Iv} {L : Lv} {P : Pv} {f : Vw} {H : Hs} {hn sn : Nat} {g : Vw} {T : Tx} {tl : Nat} (ci : CI f H hn sn g T tl I P) (wi : WI f H hn sn g T tl) {z : Int32} (hQ : ∀ (I1 : Iv) (L1 : Lv) (P1 : Pv), (∀ a, 40 ≤ a → I1 a = I a) → CI (stF (rsB f z) f (rsF f (ix z))) (stH (rsB f z) H hn f) (stN (rsB f z) hn) sn g T tl I1 P1 → Q (some (.int (rsA f z))) I1 L1 P1) : SP x M_X7_removeSample [rfv x 0, .int (z)] I L P Q := by
  obtain ⟨c, hc, hsn, hsg, htx⟩ := id ci
  obtain ⟨w, hw, hs2, hwg, htl, hT⟩ := id wi
  have := w.n4
  have := w.m6
  have := w.n1
  refine SP.intro [some (rfv x 0), some (.int (z))] pn_X7_removeSample (Nat.le_of_ble_eq_true rfl) rfl ?_
  refine v_aload_n 1 rfl dX7_removeSample_0 rfl ?_
  refine v_get 4 (k := 0) 7 (rfv x 1) (by decide) rfl (by decide) (by decide) dX7_removeSample_1 rfl fl_X7_15 rfl ?_
  refine v_iload_n 5 rfl dX7_removeSample_4 rfl ?_
  refine v_invV 8 M_X3_hasSample [.int (z)] (by decide) rfl (by decide) rfl dX7_removeSample_5 rfl ml_X7_129 im_X3_hasSample se_X3_hasSample mc_X3_hasSample (by decide) (Nat.le_of_ble_eq_true rfl) (sp_X3_hasSample c w ?_)
  refine v_ifN_ne 13 11 dX7_removeSample_8 (by decide) rfl (by have := inb_lt z (f 1); omega) (fun h8 => ?_) (fun h8 => ?_)
  · skip
    have hz := h8
    obtain ⟨s, hs, ez⟩ := inb_1 (by omega) hz
    subst ez
    have es : ix (nI s) = s := ix_n (by omega)
    refine v_aload_n 14 rfl dX7_removeSample_13 rfl ?_
    refine v_get 17 (k := 3) 7 (rfv x 9) (by decide) rfl (by decide) (by decide) dX7_removeSample_14 rfl fl_X7_27 rfl ?_
    refine v_aload_n 18 rfl dX7_removeSample_17 rfl ?_
    refine v_get 21 (k := 0) 7 (rfv x 1) (by decide) rfl (by decide) (by decide) dX7_removeSample_18 rfl fl_X7_15 rfl ?_
    refine v_invV 24 M_X1_record [rfv x 1] (by decide) rfl (by decide) rfl dX7_removeSample_21 rfl ml_X7_81 im_X1_record se_X1_record mc_X1_record (by decide) (Nat.le_of_ble_eq_true rfl) (sp_X1_record hc c w (fun Ir Pr fr hcr => ?_))
    refine v_aload_n 25 rfl dX7_removeSample_24 rfl ?_
    refine v_get 28 (k := 0) 7 (rfv x 1) (by decide) rfl (by decide) (by decide) dX7_removeSample_25 rfl fl_X7_15 rfl ?_
    refine v_iload_n 29 rfl dX7_removeSample_28 rfl ?_
    have c1 : RC 1 f Ir := c.same (fun a _ _ => fr a (by omega))
    refine v_invV 32 M_X3_dropSample [.int (nI (s))] (by decide) rfl (by decide) rfl dX7_removeSample_29 rfl ml_X7_132 im_X3_dropSample se_X3_dropSample mc_X3_dropSample (by decide) (Nat.le_of_ble_eq_true rfl) (sp_X3_dropSample c1 w hs (fun Ia fa ca => ?_))
    refine v_aload_n 33 rfl dX7_removeSample_32 rfl ?_
    refine v_get 36 (k := 0) 7 (rfv x 1) (by decide) rfl (by decide) (by decide) dX7_removeSample_33 rfl fl_X7_15 rfl ?_
    refine v_getN 39 (k := 5) 3 (.int (nI (f 1 - 1))) (by decide) rfl (by decide) (by decide) dX7_removeSample_36 rfl fl_X7_124 (congrArg Value.int ca.sm) ?_
    refine v_iret rfl dX7_removeSample_39 ?_
    refine qZ (hQ Ia L Pr (fun a ha => (fa a (by omega) (by omega) (by omega)).trans (fr a (by omega))) ?_) (by rw [rsA, if_neg hz])
    rw [show rsB f (nI s) = true by rw [rsB, if_neg hz], es]
    refine ⟨ca, hcr.same (fun a _ _ => fa a (by omega) (by omega) (by omega)), ?_, fun e => ?_, ?_, fun i hi => ?_⟩
    · rw [fa 0 (by decide) (by decide) (by decide), fr 0 (by omega)]
      exact hsn
    · exact (hsg e).same (fun a _ _ => (fa a (by omega) (by omega) (by omega)).trans (fr a (by omega)))
    · rw [fa 27 (by decide) (by decide) (by decide), fr 27 (by omega)]
      exact htx.1
    · rw [fa 28 (by decide) (by decide) (by decide), fr 28 (by omega)]
      exact htx.2 i hi
  · skip
    refine v_iconst 12 ((-1)) (by decide) dX7_removeSample_11 rfl ?_
    refine v_iret rfl dX7_removeSample_12 ?_
    refine qZ (hQ I L P (fun _ _ => rfl) ?_) (by rw [rsA, if_pos h8])
    simp only [rsB, if_pos h8]
    exact ci
set_option maxHeartbeats 4000000 in
theorem sp_X8_removeSample {x : Cx} {Q : Qt} {I : Iv} {L : Lv} {P : Pv} {f : Vw} {H : Hs} {hn sn : Nat} {g : Vw} {T : Tx} {tl : Nat} (ri : RI f H hn sn g T tl I) (wi : WI f H hn sn g T tl) {z : Int32} (hQ : ∀ (I1 : Iv) (L1 : Lv), (∀ a, a < 40 → I1 a = I a) → RI (stF (rsB f z) f (rsF f (ix z))) (stH (rsB f z) H hn f) (stN (rsB f z) hn) sn g T tl I1 → Q (some (.int (rsA f z))) I1 L1 P) : SP x M_X8_removeSample [rfv x 40, .int (z)] I L P Q := by
  obtain ⟨r, hr, hsn, hsg, htx⟩ := id ri
  obtain ⟨w, hw, hs2, hwg, htl, hT⟩ := id wi
  have := w.n4
  have := w.m6
  have := w.n1
  refine SP.intro [some (rfv x 40), some (.int (z)), none] pn_X8_removeSample (Nat.le_of_ble_eq_true rfl) rfl ?_
  refine v_aload_n 1 rfl dX8_removeSample_0 rfl ?_
  refine v_iconst 2 (nI (0)) (by decide) dX8_removeSample_1 rfl ?_
  refine v_putI 5 (k := 0) 8 .int (by decide) rfl (by decide) (by decide) rfl (by decide +kernel) rfl rfl (fun _ _ => rfl) dX8_removeSample_2 rfl fl_X8_50 (fun I2 e2 => ?_)
  have ht0 : I2 = up2 I 40 0 (nI 0) := e2
  have r2 : RR (I2 41) f := by rw [up2_row e2 (by omega)]; exact r
  have hr2 : HR H hn I2 := ⟨hr.1, (up2_off e2 (by omega)).trans hr.2.1, fun i hi => by rw [up2_row e2 (by omega)]; exact hr.2.2 i hi⟩
  have ri2 : RI f H hn sn g T tl I2 := ri.kp (fun a q hl => up2_off e2 (by unfold live at hl; omega))
  have lo2 : ∀ a, a < 40 → I2 a = I a := fun a ha => up2_row e2 (by omega)
  refine v_aload_n 6 rfl dX8_removeSample_5 rfl ?_
  refine v_iload_n 7 rfl dX8_removeSample_6 rfl ?_
  refine v_invV 10 M_X8_isSample [.int (z)] (by decide) rfl (by decide) rfl dX8_removeSample_7 rfl ml_X8_140 im_X8_isSample se_X8_isSample mc_X8_isSample (by decide) (Nat.le_of_ble_eq_true rfl) (sp_X8_isSample r2 w ?_)
  refine v_ifN_ne 15 13 dX8_removeSample_10 (by decide) rfl (by have := inb_lt z (f 1); omega) (fun h10 => ?_) (fun h10 => ?_)
  · skip
    have hz := h10
    obtain ⟨s, hs, ez⟩ := inb_1 (by omega) hz
    subst ez
    have es : ix (nI s) = s := ix_n (by omega)
    refine v_aload_n 16 rfl dX8_removeSample_15 rfl ?_
    refine v_invV 19 M_X8_records [] (by decide) rfl (by decide) rfl dX8_removeSample_16 rfl ml_X8_105 im_X8_records se_X8_records mc_X8_records (by decide) (Nat.le_of_ble_eq_true rfl) (sp_X8_records hr2 hw r2 w (fun Ir fr hrr => ?_))
    have rr : RR (Ir 41) f := (r2.on w (fun j _ => fr 41 j (by decide) (Or.inl (by decide))))
    refine v_aload_n 20 rfl dX8_removeSample_19 rfl ?_
    refine v_get 23 (k := 1) 8 (rfv x 41) (by decide) rfl (by decide) (by decide) dX8_removeSample_20 rfl fl_X8_7 rfl ?_
    refine v_iconst 24 (nI (1)) (by decide) dX8_removeSample_23 rfl ?_
    refine v_dup2 25 dX8_removeSample_24 rfl rfl rfl ?_
    refine v_iald 26 (k := 1) (nI (f 1)) (by decide) rfl (by decide) dX8_removeSample_25 rfl rfl (by omega) rr.sm ?_
    refine v_iconst 27 (nI (1)) (by decide) dX8_removeSample_26 rfl ?_
    refine v_isub 28 (nI ((f 1) - 1)) dX8_removeSample_27 rfl (pk_sub (by omega)) ?_
    refine v_iast 29 (k := 1) (nI ((f 1) - 1)) (by decide) rfl (by decide) dX8_removeSample_28 rfl rfl (by omega) rfl (fun I28 e28 => ?_)
    refine v_bipush 31 (nI (8)) (by decide) dX8_removeSample_29 rfl ?_
    refine v_iload_n 32 rfl dX8_removeSample_31 rfl ?_
    refine v_imul 33 (nI (8 * s)) dX8_removeSample_32 rfl (pk_mul _ _) ?_
    refine v_istore_n 34 [some (rfv x 40), some (.int (nI (s))), some (.int (nI (8 * s)))] dX8_removeSample_33 rfl (by decide) rfl ?_
    have k1 : ∀ a q, (a ≠ 41 ∨ q ≠ 1) → I28 a q = Ir a q := fun a q z => up2_off e28 (by omega)
    have k2 : I28 41 1 = nI (f 1 - 1) := up2_at e28
    have lp : ∀ k, k ≤ 8 * (f 1 - 1) → 8 * s ≤ k → ∀ Ij : Iv, (∀ q, 8 * s ≤ q → q < k → Ij 41 (35 + q) = Ir 41 (35 + q + 8)) → (∀ a q, (a ≠ 41 ∨ q < 35 + 8 * s ∨ 35 + k ≤ q) → Ij a q = I28 a q) → V x M_X8_removeSample Q 34 [some (rfv x 40), some (.int (nI (s))), some (.int (nI (k)))] [] Ij L P := by
      refine lpU ?_ ?_
      · intro hk8 Ij hA hF
        refine v_iload_n 35 rfl dX8_removeSample_34 rfl ?_
        refine v_bipush 37 (nI (8)) (by decide) dX8_removeSample_35 rfl ?_
        refine v_aload_n 38 rfl dX8_removeSample_37 rfl ?_
        refine v_get 41 (k := 1) 8 (rfv x 41) (by decide) rfl (by decide) (by decide) dX8_removeSample_38 rfl fl_X8_7 rfl ?_
        refine v_iconst 42 (nI (1)) (by decide) dX8_removeSample_41 rfl ?_
        refine v_iald 43 (k := 1) (nI (f 1 - 1)) (by decide) rfl (by decide) dX8_removeSample_42 rfl rfl (by omega) ((hF 41 1 (by omega)).trans k2) ?_
        refine v_imul 44 (nI (8 * (f 1 - 1))) dX8_removeSample_43 rfl (pk_mul _ _) ?_
        refine v_icmpN_ge 74 47 dX8_removeSample_44 (by decide) rfl (by omega) (by omega) (fun h44 => ?_) (fun h44 => ?_)
        · skip
          refine v_iconst 75 (nI (0)) (by decide) dX8_removeSample_74 rfl ?_
          refine v_istore_n 76 [some (rfv x 40), some (.int (nI (s))), some (.int (nI (0)))] dX8_removeSample_75 rfl (by decide) rfl ?_
          have lq : ∀ t, t ≤ 8 → ∀ Ik : Iv, (∀ a q, (a ≠ 41 ∨ q < 35 + 8 * (f 1 - 1) ∨ 35 + 8 * (f 1 - 1) + 8 ≤ q) → Ik a q = Ij a q) → V x M_X8_removeSample Q 76 [some (rfv x 40), some (.int (nI (s))), some (.int (nI (t)))] [] Ik L P := by
            refine lpU ?_ ?_
            · intro Ik gF
              refine v_iload_n 77 rfl dX8_removeSample_76 rfl ?_
              refine v_bipush 79 (nI (8)) (by decide) dX8_removeSample_77 rfl ?_
              refine v_icmpN_ge 108 82 dX8_removeSample_79 (by decide) rfl (by omega) (by omega) (fun h79 => ?_) (fun h79 => ?_)
              · skip
                refine v_aload_n 109 rfl dX8_removeSample_108 rfl ?_
                refine v_get 112 (k := 1) 8 (rfv x 41) (by decide) rfl (by decide) (by decide) dX8_removeSample_109 rfl fl_X8_7 rfl ?_
                refine v_iconst 113 (nI (1)) (by decide) dX8_removeSample_112 rfl ?_
                refine v_iald 114 (k := 1) (nI (f 1 - 1)) (by decide) rfl (by decide) dX8_removeSample_113 rfl rfl (by omega) ((gF 41 1 (by omega)).trans ((hF 41 1 (by omega)).trans k2)) ?_
                refine v_iret rfl dX8_removeSample_114 ?_
                have u1 : ∀ a q, a ≠ 41 → Ik a q = Ir a q := fun a q h => (gF a q (Or.inl h)).trans ((hF a q (Or.inl h)).trans (k1 a q (Or.inl h)))
                refine qZ (hQ Ik L (fun a ha => ?_) ?_) (by rw [rsA, if_neg hz])
                · rw [show Ik a = Ir a from funext (fun q => u1 a q (by omega)), show Ir a = I2 a from funext (fun q => fr a q (by omega) (Or.inl (by omega)))]
                  exact lo2 a ha
                · rw [show rsB f (nI s) = true by rw [rsB, if_neg hz], es]
                  have hv : RR (Ik 41) (rsF f s) := rr.rs w hs ((gF 41 1 (by omega)).trans ((hF 41 1 (by omega)).trans k2)) (fun q z1 z2 => (gF 41 q (by omega)).trans ((hF 41 q (by omega)).trans (k1 41 q (by omega)))) (fun q z1 z2 => by
                    have h8 := hA (q - 35) (by omega) (by omega)
                    rw [show 35 + (q - 35) = q by omega] at h8
                    exact (gF 41 q (by omega)).trans h8)
                  refine ⟨hv, ⟨hrr.1, (u1 40 4 (by decide)).trans hrr.2.1, fun i hi => by rw [show Ik 43 = Ir 43 from funext (fun q => u1 43 q (by decide))]; exact hrr.2.2 i hi⟩, ?_, fun e => ?_, ?_, fun i hi => ?_⟩
                  · rw [u1 40 6 (by decide), fr 40 6 (by decide) (Or.inr (by decide))]
                    exact ri2.2.2.1
                  · exact (ri2.2.2.2.1 e).on (hwg e) (fun j _ => (u1 44 j (by decide)).trans (fr 44 j (by decide) (Or.inl (by decide))))
                  · rw [u1 40 8 (by decide), fr 40 8 (by decide) (Or.inr (by decide))]
                    exact ri2.2.2.2.2.1
                  · rw [u1 45 i (by decide), fr 45 i (by decide) (Or.inl (by decide))]
                    exact ri2.2.2.2.2.2 i hi
              · skip
                exact absurd h79 (by omega)
            · intro t ht ih Ik gF
              refine v_iload_n 77 rfl dX8_removeSample_76 rfl ?_
              refine v_bipush 79 (nI (8)) (by decide) dX8_removeSample_77 rfl ?_
              refine v_icmpN_ge 108 82 dX8_removeSample_79 (by decide) rfl (by omega) (by omega) (fun h79 => ?_) (fun h79 => ?_)
              · skip
                exact absurd h79 (by omega)
              · skip
                refine v_aload_n 83 rfl dX8_removeSample_82 rfl ?_
                refine v_get 86 (k := 1) 8 (rfv x 41) (by decide) rfl (by decide) (by decide) dX8_removeSample_83 rfl fl_X8_7 rfl ?_
                refine v_bipush 88 (nI (35)) (by decide) dX8_removeSample_86 rfl ?_
                refine v_bipush 90 (nI (8)) (by decide) dX8_removeSample_88 rfl ?_
                refine v_aload_n 91 rfl dX8_removeSample_90 rfl ?_
                refine v_get 94 (k := 1) 8 (rfv x 41) (by decide) rfl (by decide) (by decide) dX8_removeSample_91 rfl fl_X8_7 rfl ?_
                refine v_iconst 95 (nI (1)) (by decide) dX8_removeSample_94 rfl ?_
                refine v_iald 96 (k := 1) (nI (f 1 - 1)) (by decide) rfl (by decide) dX8_removeSample_95 rfl rfl (by omega) ((gF 41 1 (by omega)).trans ((hF 41 1 (by omega)).trans k2)) ?_
                refine v_imul 97 (nI (8 * (f 1 - 1))) dX8_removeSample_96 rfl (pk_mul _ _) ?_
                refine v_iadd 98 (nI (35 + (8 * (f 1 - 1)))) dX8_removeSample_97 rfl (nI_add _ _) ?_
                refine v_iload_n 99 rfl dX8_removeSample_98 rfl ?_
                refine v_iadd 100 (nI ((35 + (8 * (f 1 - 1))) + t)) dX8_removeSample_99 rfl (nI_add _ _) ?_
                refine v_iconst 101 (nI (0)) (by decide) dX8_removeSample_100 rfl ?_
                refine v_iast 102 (k := (35 + (8 * (f 1 - 1))) + t) (nI (0)) (by decide) rfl (by decide) dX8_removeSample_101 rfl rfl (by omega) rfl (fun I101 e101 => ?_)
                refine v_iinc 105 [some (rfv x 40), some (.int (nI (s))), some (.int (nI (t + 1)))] (nI (t + 1)) dX8_removeSample_102 rfl (by decide) rfl (nI_inc _) rfl ?_
                refine v_goto 76 dX8_removeSample_105 (by decide) ?_
                refine v_drop [some (rfv x 40), some (.int (nI (s))), some (.int (nI (t + 1)))] (by simp [lsub, smN_s]) ?_
                exact ih I101 (fun a q h => (up2_off e101 (by omega)).trans (gF a q h))
          refine v_drop [some (rfv x 40), some (.int (nI (s))), some (.int (nI (0)))] (by simp [lsub, smN, amN, dbW, mxN]) ?_
          exact lq 0 (Nat.zero_le _) Ij (fun a q _ => rfl)
        · skip
          exact absurd h44 (by omega)
      · intro k hk ih hk8 Ij hA hF
        refine v_iload_n 35 rfl dX8_removeSample_34 rfl ?_
        refine v_bipush 37 (nI (8)) (by decide) dX8_removeSample_35 rfl ?_
        refine v_aload_n 38 rfl dX8_removeSample_37 rfl ?_
        refine v_get 41 (k := 1) 8 (rfv x 41) (by decide) rfl (by decide) (by decide) dX8_removeSample_38 rfl fl_X8_7 rfl ?_
        refine v_iconst 42 (nI (1)) (by decide) dX8_removeSample_41 rfl ?_
        refine v_iald 43 (k := 1) (nI (f 1 - 1)) (by decide) rfl (by decide) dX8_removeSample_42 rfl rfl (by omega) ((hF 41 1 (by omega)).trans k2) ?_
        refine v_imul 44 (nI (8 * (f 1 - 1))) dX8_removeSample_43 rfl (pk_mul _ _) ?_
        refine v_icmpN_ge 74 47 dX8_removeSample_44 (by decide) rfl (by omega) (by omega) (fun h44 => ?_) (fun h44 => ?_)
        · skip
          exact absurd h44 (by omega)
        · skip
          refine v_aload_n 48 rfl dX8_removeSample_47 rfl ?_
          refine v_get 51 (k := 1) 8 (rfv x 41) (by decide) rfl (by decide) (by decide) dX8_removeSample_48 rfl fl_X8_7 rfl ?_
          refine v_bipush 53 (nI (35)) (by decide) dX8_removeSample_51 rfl ?_
          refine v_iload_n 54 rfl dX8_removeSample_53 rfl ?_
          refine v_iadd 55 (nI (35 + k)) dX8_removeSample_54 rfl (nI_add _ _) ?_
          refine v_aload_n 56 rfl dX8_removeSample_55 rfl ?_
          refine v_get 59 (k := 1) 8 (rfv x 41) (by decide) rfl (by decide) (by decide) dX8_removeSample_56 rfl fl_X8_7 rfl ?_
          refine v_bipush 61 (nI (35)) (by decide) dX8_removeSample_59 rfl ?_
          refine v_iload_n 62 rfl dX8_removeSample_61 rfl ?_
          refine v_iadd 63 (nI (35 + k)) dX8_removeSample_62 rfl (nI_add _ _) ?_
          refine v_bipush 65 (nI (8)) (by decide) dX8_removeSample_63 rfl ?_
          refine v_iadd 66 (nI ((35 + k) + 8)) dX8_removeSample_65 rfl (nI_add _ _) ?_
          refine v_iald 67 (k := (35 + k) + 8) (Ir 41 (35 + k + 8)) (by decide) rfl (by decide) dX8_removeSample_66 rfl rfl (by omega) ((hF 41 _ (by omega)).trans (k1 41 _ (by omega))) ?_
          refine v_iast 68 (k := 35 + k) (Ir 41 (35 + k + 8)) (by decide) rfl (by decide) dX8_removeSample_67 rfl rfl (by omega) rfl (fun I67 e67 => ?_)
          refine v_iinc 71 [some (rfv x 40), some (.int (nI (s))), some (.int (nI (k + 1)))] (nI (k + 1)) dX8_removeSample_68 rfl (by decide) rfl (nI_inc _) rfl ?_
          refine v_goto 34 dX8_removeSample_71 (by decide) ?_
          refine v_drop [some (rfv x 40), some (.int (nI (s))), some (.int (nI (k + 1)))] (by simp [lsub, smN_s]) ?_
          refine ih (by omega) I67 (fun q h1 h2 => ?_) (fun a q h => (up2_off e67 (by omega)).trans (hF a q (by omega)))
          by_cases y : q = k
          · rw [y]
            exact up2_at e67
          · exact (up2_off e67 (by omega)).trans (hA q h1 (by omega))
    refine v_drop [some (rfv x 40), some (.int (nI (s))), some (.int (nI (8 * s)))] (by simp [lsub]) ?_
    exact lp (8 * s) (by omega) (Nat.le_refl _) I28 (fun q h1 h2 => absurd h2 (by omega)) (fun a q _ => rfl)
  · skip
    refine v_iconst 14 ((-1)) (by decide) dX8_removeSample_13 rfl ?_
    refine v_iret rfl dX8_removeSample_14 ?_
    refine qZ (hQ I2 L lo2 ?_) (by rw [rsA, if_pos h10])
    simp only [rsB, if_pos h10]
    exact ri2
