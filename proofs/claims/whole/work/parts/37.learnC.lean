/-! learning round by round -/
def fN (f : Vw) : Nat → Vw
  | 0 => f
  | i + 1 => lnF (fN f i)
noncomputable def lnR (f : Vw) : Nat → Nat → Nat
  | 0, i => i
  | r + 1, i => @ite Nat (df (fN f i)) (Classical.propDecidable _) (lnR f r (i + 1)) i
theorem lnR_z {f : Vw} {i : Nat} : lnR f 0 i = i := by rw [lnR]
theorem lnR_1 {f : Vw} {r i : Nat} (h : df (fN f i)) : lnR f (r + 1) i = lnR f r (i + 1) := by
  rw [lnR]
  exact if_pos h
theorem lnR_0 {f : Vw} {r i : Nat} (h : ¬ df (fN f i)) : lnR f (r + 1) i = i := by
  rw [lnR]
  exact if_neg h
theorem fN_wf {f : Vw} (w : Wf f) : ∀ i, Wf (fN f i)
  | 0 => w
  | i + 1 => (fN_wf w i).ln
theorem lnR_le {f : Vw} : ∀ r i, lnR f r i ≤ i + r
  | 0, i => by
    rw [lnR_z]
    exact Nat.le_refl _
  | r + 1, i => by
    by_cases h : df (fN f i)
    · rw [lnR_1 h]
      have := lnR_le (f := f) r (i + 1)
      omega
    · rw [lnR_0 h]
      omega
noncomputable def lnA (f : Vw) (z : Int32) : Int32 := if inr z (nI 1) (nI 20) = 0 then (-2) else if lnR f (ix z) 0 = 0 then (-5) else nI (lnR f (ix z) 0)
noncomputable def lnB (f : Vw) (z : Int32) : Bool := if inr z (nI 1) (nI 20) = 0 then false else if lnR f (ix z) 0 = 0 then false else true
noncomputable def lnV (f : Vw) (z : Int32) : Vw := fN f (lnR f (ix z) 0)
def hB (i : Nat) : Bool := if i = 0 then false else true
theorem hB_s {i : Nat} : hB (i + 1) = true := if_neg (Nat.succ_ne_zero i)
theorem hB_n {i : Nat} (h : i ≠ 0) : hB i = true := if_neg h
theorem lnB_n {f : Vw} {z : Int32} {n : Nat} (hv : inr z (nI 1) (nI 20) ≠ 0) (e : lnR f (ix z) 0 = n) : lnB f z = hB n := by
  rw [lnB, if_neg hv, e]
  rfl
theorem stF_fN {f : Vw} {i : Nat} : stF (hB i) f (fN f i) = fN f i := by
  by_cases h : i = 0
  · subst h
    rfl
  · rw [hB_n h]
    rfl
theorem rng_ok {z : Int32} (h1 : ¬ z < nI 1) (h2 : ¬ nI 20 < z) : ∃ r, 1 ≤ r ∧ r ≤ 20 ∧ z = nI r := by
  rw [Int32.lt_iff_toInt_lt, nI_toInt (by decide)] at h1 h2
  have h0 : ¬ z < 0 := fun h => by
    have := Int32.lt_iff_toInt_lt.mp h
    rw [show (0 : Int32) = nI 0 from rfl, nI_toInt (by decide)] at this
    omega
  obtain ⟨v, hv, e⟩ := nI_of h0
  subst e
  rw [nI_toInt hv] at h1 h2
  exact ⟨v, by omega, by omega, rfl⟩
theorem RC.fin {f : Vw} {Ia If : Iv} (r : RC 1 f Ia) (w : Wf f) (h39 : ∀ p c, PC f p c → Ia 39 c = nI (lnF f p)) (e : If = cpy2 Ia 39 2 0 0 32) : RC 1 (lnF f) If := by
  have c1 : ∀ a, a ≠ 2 → If a = Ia a := fun a h => cpy_row e h
  refine r.upd (f1 := lnF f) ?_ ?_ ?_ (c1 3 (by decide)) (c1 4 (by decide)) lnF_ff (fun p c hp => ?_)
  · rw [c1 1 (by decide), lnF_0]
    exact r.st
  · rw [c1 1 (by decide)]
  · rw [c1 1 (by decide)]
  · have hp1 : PC f p c := hp
    exact (cpy_at e (hp1.lt w).2.2).trans (h39 p c hp1)
theorem CI.fin {f : Vw} {H : Hs} {hn sn : Nat} {g : Vw} {T : Tx} {tl : Nat} {Ia If : Iv} {P : Pv} (h : CI f H hn sn g T tl Ia P) (w : Wf f) (h39 : ∀ p c, PC f p c → Ia 39 c = nI (lnF f p)) (e : If = cpy2 Ia 39 2 0 0 32) : CI (lnF f) H hn sn g T tl If P := by
  have c1 : ∀ a, a ≠ 2 → If a = Ia a := fun a h => cpy_row e h
  obtain ⟨h1, h2, h3, h4, h5, h6⟩ := h
  refine ⟨h1.fin w h39 e, h2.same (fun a _ _ => c1 a (by omega)), by rw [c1 0 (by decide)]; exact h3, fun q => (h4 q).same (fun a _ _ => c1 a (by omega)), by rw [c1 27 (by decide)]; exact h5, fun i hi => by rw [c1 28 (by decide)]; exact h6 i hi⟩
set_option maxHeartbeats 4000000 in
theorem sp_X7_learn {x : Cx} {Q : Qt} {I : Iv} {L : Lv} {P : Pv} {f : Vw} {H : Hs} {hn sn : Nat} {g : Vw} {T : Tx} {tl : Nat} (ci : CI f H hn sn g T tl I P) (wi : WI f H hn sn g T tl) {z : Int32} (hQ : ∀ (I1 : Iv) (L1 : Lv) (P1 : Pv), (∀ a, 40 ≤ a → I1 a = I a) → CI (stF (lnB f z) f (lnV f z)) (stH (lnB f z) H hn f) (stN (lnB f z) hn) sn g T tl I1 P1 → Q (some (.int (lnA f z))) I1 L1 P1) : SP x M_X7_learn [rfv x 0, .int (z)] I L P Q := by
  obtain ⟨c, hc, hsn, hsg, htx⟩ := id ci
  obtain ⟨w, hw, hs2, hwg, htl, hT⟩ := id wi
  have := w.n4
  have := w.m6
  have := w.n1
  refine SP.intro [some (rfv x 0), some (.int (z)), none, none] pn_X7_learn (Nat.le_of_ble_eq_true rfl) rfl ?_
  refine v_iload_n 1 rfl dX7_learn_0 rfl ?_
  refine v_iconst 2 (nI (1)) (by decide) dX7_learn_1 rfl ?_
  refine v_icmp_lt 11 5 dX7_learn_2 (by decide) rfl (fun h2 => ?_) (fun h2 => ?_)
  · skip
    refine v_bipush 13 ((-2)) (by decide) dX7_learn_11 rfl ?_
    refine v_iret rfl dX7_learn_13 ?_
    have hv : inr z (nI 1) (nI 20) = 0 := by first | exact if_pos (Or.inl h2) | exact if_pos (Or.inr (Int32.not_le.mp h8))
    refine qZ (hQ I L P (fun _ _ => rfl) ?_) (by rw [lnA, if_pos hv])
    simp only [lnB, if_pos hv]
    exact ci
  · skip
    refine v_iload_n 6 rfl dX7_learn_5 rfl ?_
    refine v_bipush 8 (nI (20)) (by decide) dX7_learn_6 rfl ?_
    refine v_icmp_le 14 11 dX7_learn_8 (by decide) rfl (fun h8 => ?_) (fun h8 => ?_)
    · skip
      have hv : inr z (nI 1) (nI 20) ≠ 0 := by
        rw [inr, if_neg (by rintro (q | q); exact h2 q; exact absurd h8 (Int32.not_le.mpr q))]
        decide
      obtain ⟨r, hr1, hr2, ez⟩ := rng_ok (z := z) h2 (fun q => absurd h8 (Int32.not_le.mpr q))
      subst ez
      have es : ix (nI r) = r := ix_n (by omega)
      refine v_iconst 15 (nI (0)) (by decide) dX7_learn_14 rfl ?_
      refine v_istore_n 16 [some (rfv x 0), some (.int (nI (r))), some (.int (nI (0))), none] dX7_learn_15 rfl (by decide) rfl ?_
      refine v_iconst 17 (nI (0)) (by decide) dX7_learn_16 rfl ?_
      refine v_istore_n 18 [some (rfv x 0), some (.int (nI (r))), some (.int (nI (0))), some (.int (nI (0)))] dX7_learn_17 rfl (by decide) rfl ?_
      have key : ∀ d i, i + d = r → lnR f d i = lnR f r 0 → ∀ (Ij : Iv) (Lj : Lv) (Pj : Pv), (∀ a, 40 ≤ a → Ij a = I a) → CI (fN f i) (stH (hB i) H hn f) (stN (hB i) hn) sn g T tl Ij Pj → V x M_X7_learn Q 18 [some (rfv x 0), some (.int (nI (r))), some (.int (nI (i))), some (.int (nI (i)))] [] Ij Lj Pj := by
        intro d
        induction d with
        | zero =>
          intro i hd hl Ij Lj Pj lo cij
          have en : lnR f r 0 = i := hl.symm.trans lnR_z
          refine v_iload_n 19 rfl dX7_learn_18 rfl ?_
          refine v_iload_n 20 rfl dX7_learn_19 rfl ?_
          refine v_icmpN_ge 64 23 dX7_learn_20 (by decide) rfl (by omega) (by omega) (fun h20 => ?_) (fun h20 => ?_)
          · skip
            refine v_iload_n 65 rfl dX7_learn_64 rfl ?_
            refine v_ifN_le 72 68 dX7_learn_65 (by decide) rfl (by omega) (fun h65 => ?_) (fun h65 => ?_)
            · skip
              refine v_bipush 74 ((-5)) (by decide) dX7_learn_72 rfl ?_
              refine v_iret rfl dX7_learn_74 ?_
              refine qZ (hQ Ij Lj Pj lo ?_) (by first | (rw [lnA, if_neg hv, es, en, if_pos h65]; done) | (rw [lnA, if_neg hv, es, en, if_neg (by omega)]; done))
              rw [lnB_n hv (n := i) (by rw [es]; exact en), lnV, es, en, stF_fN]
              exact cij
            · skip
              refine v_iload_n 69 rfl dX7_learn_68 rfl ?_
              refine v_goto 74 dX7_learn_69 (by decide) ?_
              refine v_iret rfl dX7_learn_74 ?_
              refine qZ (hQ Ij Lj Pj lo ?_) (by first | (rw [lnA, if_neg hv, es, en, if_pos h65]; done) | (rw [lnA, if_neg hv, es, en, if_neg (by omega)]; done))
              rw [lnB_n hv (n := i) (by rw [es]; exact en), lnV, es, en, stF_fN]
              exact cij
          · skip
            exact absurd h20 (by omega)
        | succ d ih =>
          intro i hd hl Ij Lj Pj lo cij
          have wj := fN_wf w i
          refine v_iload_n 19 rfl dX7_learn_18 rfl ?_
          refine v_iload_n 20 rfl dX7_learn_19 rfl ?_
          refine v_icmpN_ge 64 23 dX7_learn_20 (by decide) rfl (by omega) (by omega) (fun h20 => ?_) (fun h20 => ?_)
          · skip
            exact absurd h20 (by omega)
          · skip
            refine v_aload_n 24 rfl dX7_learn_23 rfl ?_
            refine v_get 27 (k := 8) 7 (rfv x 37) (by decide) rfl (by decide) (by decide) dX7_learn_24 rfl fl_X7_61 rfl ?_
            refine v_invV 30 M_X2_prepareRound [] (by decide) rfl (by decide) rfl dX7_learn_27 rfl ml_X7_135 im_X2_prepareRound se_X2_prepareRound mc_X2_prepareRound (by decide) (Nat.le_of_ble_eq_true rfl) (sp_X2_prepareRound cij.1 wj (fun b Ib Lb hb hdf fb f39 => ?_))
            have cib : CI (fN f i) (stH (hB i) H hn f) (stN (hB i) hn) sn g T tl Ib Pj := cij.kp (fun a q hl => congrFun (fb a (by unfold live at hl; omega) (by unfold live at hl; omega) (by unfold live at hl; omega)) q)
            refine v_ifN_eq 64 33 dX7_learn_30 (by decide) rfl (by omega) (fun h30 => ?_) (fun h30 => ?_)
            · skip
              have hnd : ¬ df (fN f i) := fun q => hdf.mpr q h30
              have en : lnR f r 0 = i := hl.symm.trans (lnR_0 hnd)
              refine v_iload_n 65 rfl dX7_learn_64 rfl ?_
              refine v_ifN_le 72 68 dX7_learn_65 (by decide) rfl (by omega) (fun h65 => ?_) (fun h65 => ?_)
              · skip
                refine v_bipush 74 ((-5)) (by decide) dX7_learn_72 rfl ?_
                refine v_iret rfl dX7_learn_74 ?_
                refine qZ (hQ Ib Lb Pj (fun a ha => (fb a (by omega) (by omega) (by omega)).trans (lo a ha)) ?_) (by first | (rw [lnA, if_neg hv, es, en, if_pos h65]; done) | (rw [lnA, if_neg hv, es, en, if_neg (by omega)]; done))
                rw [lnB_n hv (n := i) (by rw [es]; exact en), lnV, es, en, stF_fN]
                exact cib
              · skip
                refine v_iload_n 69 rfl dX7_learn_68 rfl ?_
                refine v_goto 74 dX7_learn_69 (by decide) ?_
                refine v_iret rfl dX7_learn_74 ?_
                refine qZ (hQ Ib Lb Pj (fun a ha => (fb a (by omega) (by omega) (by omega)).trans (lo a ha)) ?_) (by first | (rw [lnA, if_neg hv, es, en, if_pos h65]; done) | (rw [lnA, if_neg hv, es, en, if_neg (by omega)]; done))
                rw [lnB_n hv (n := i) (by rw [es]; exact en), lnV, es, en, stF_fN]
                exact cib
            · skip
              have hdd : df (fN f i) := hdf.mp h30
              refine v_iload_n 34 rfl dX7_learn_33 rfl ?_
              refine v_ifN_ne 48 37 dX7_learn_34 (by decide) rfl (by omega) (fun h34 => ?_) (fun h34 => ?_)
              · skip
                refine v_aload_n 49 rfl dX7_learn_48 rfl ?_
                refine v_get 52 (k := 8) 7 (rfv x 37) (by decide) rfl (by decide) (by decide) dX7_learn_49 rfl fl_X7_61 rfl ?_
                refine v_invV 55 M_X2_finishRound [] (by decide) rfl (by decide) rfl dX7_learn_52 rfl ml_X7_139 im_X2_finishRound se_X2_finishRound mc_X2_finishRound (by decide) (Nat.le_of_ble_eq_true rfl) (sp_X2_finishRound (fun If ef => ?_))
                refine v_iinc 58 [some (rfv x 0), some (.int (nI (r))), some (.int (nI (i + 1))), some (.int (nI (i)))] (nI (i + 1)) dX7_learn_55 rfl (by decide) rfl (nI_inc _) rfl ?_
                refine v_iinc 61 [some (rfv x 0), some (.int (nI (r))), some (.int (nI (i + 1))), some (.int (nI (i + 1)))] (nI (i + 1)) dX7_learn_58 rfl (by decide) rfl (nI_inc _) rfl ?_
                refine v_goto 18 dX7_learn_61 (by decide) ?_
                refine v_drop [some (rfv x 0), some (.int (nI (r))), some (.int (nI (i + 1))), some (.int (nI (i + 1)))] (by simp [lsub, smN_s]) ?_
                refine ih (i + 1) (by omega) ((lnR_1 hdd).symm.trans hl) If Lb Pj (fun a ha => ?_) ?_
                · rw [cpy_row ef (by omega), fb a (by omega) (by omega) (by omega)]
                  exact lo a ha
                · rw [hB_s]
                  rw [hB_n h34] at cib
                  exact cib.fin wj f39 ef
              · skip
                have hcb : HC H hn Ib Pj := by
                  have h9 := cib.2.1
                  rw [h34] at h9
                  exact h9
                have c0b : RC 1 f Ib := by
                  have h9 := cib.1
                  rw [h34] at h9
                  exact h9
                refine v_aload_n 38 rfl dX7_learn_37 rfl ?_
                refine v_get 41 (k := 3) 7 (rfv x 9) (by decide) rfl (by decide) (by decide) dX7_learn_38 rfl fl_X7_27 rfl ?_
                refine v_aload_n 42 rfl dX7_learn_41 rfl ?_
                refine v_get 45 (k := 0) 7 (rfv x 1) (by decide) rfl (by decide) (by decide) dX7_learn_42 rfl fl_X7_15 rfl ?_
                refine v_invV 48 M_X1_record [rfv x 1] (by decide) rfl (by decide) rfl dX7_learn_45 rfl ml_X7_81 im_X1_record se_X1_record mc_X1_record (by decide) (Nat.le_of_ble_eq_true rfl) (sp_X1_record hcb c0b w (fun Ir Pr fr hcr => ?_))
                refine v_aload_n 49 rfl dX7_learn_48 rfl ?_
                refine v_get 52 (k := 8) 7 (rfv x 37) (by decide) rfl (by decide) (by decide) dX7_learn_49 rfl fl_X7_61 rfl ?_
                refine v_invV 55 M_X2_finishRound [] (by decide) rfl (by decide) rfl dX7_learn_52 rfl ml_X7_139 im_X2_finishRound se_X2_finishRound mc_X2_finishRound (by decide) (Nat.le_of_ble_eq_true rfl) (sp_X2_finishRound (fun If ef => ?_))
                refine v_iinc 58 [some (rfv x 0), some (.int (nI (r))), some (.int (nI (i + 1))), some (.int (nI (i)))] (nI (i + 1)) dX7_learn_55 rfl (by decide) rfl (nI_inc _) rfl ?_
                refine v_iinc 61 [some (rfv x 0), some (.int (nI (r))), some (.int (nI (i + 1))), some (.int (nI (i + 1)))] (nI (i + 1)) dX7_learn_58 rfl (by decide) rfl (nI_inc _) rfl ?_
                refine v_goto 18 dX7_learn_61 (by decide) ?_
                refine v_drop [some (rfv x 0), some (.int (nI (r))), some (.int (nI (i + 1))), some (.int (nI (i + 1)))] (by simp [lsub, smN_s]) ?_
                have cir : CI (fN f i) (recH H hn f) (recN hn) sn g T tl Ir Pr := by
                  refine ⟨cib.1.same (fun a _ _ => fr a (by omega)), hcr, ?_, fun e => (cib.2.2.2.1 e).same (fun a _ _ => fr a (by omega)), ?_, fun j hj => ?_⟩
                  · rw [fr 0 (by omega)]
                    exact cib.2.2.1
                  · rw [fr 27 (by omega)]
                    exact cib.2.2.2.2.1
                  · rw [fr 28 (by omega)]
                    exact cib.2.2.2.2.2 j hj
                refine ih (i + 1) (by omega) ((lnR_1 hdd).symm.trans hl) If Lb Pr (fun a ha => ?_) ?_
                · rw [cpy_row ef (by omega), fr a (by omega), fb a (by omega) (by omega) (by omega)]
                  exact lo a ha
                · rw [hB_s]
                  exact cir.fin wj (fun q c h => by rw [fr 39 (by omega)]; exact f39 q c h) ef
      refine v_drop [some (rfv x 0), some (.int (nI (r))), some (.int (nI (0))), some (.int (nI (0)))] (by simp [lsub]) ?_
      exact key r 0 (by omega) rfl I L P (fun _ _ => rfl) ci
    · skip
      refine v_bipush 13 ((-2)) (by decide) dX7_learn_11 rfl ?_
      refine v_iret rfl dX7_learn_13 ?_
      have hv : inr z (nI 1) (nI 20) = 0 := by first | exact if_pos (Or.inl h2) | exact if_pos (Or.inr (Int32.not_le.mp h8))
      refine qZ (hQ I L P (fun _ _ => rfl) ?_) (by rw [lnA, if_pos hv])
      simp only [lnB, if_pos hv]
      exact ci
