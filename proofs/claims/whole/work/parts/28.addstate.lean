/-! a state more -/
theorem RC.upd {b : Nat} {f f1 : Vw} {I I1 : Iv} (r : RC b f I) (e0 : I1 b 1 = nI (f1 0)) (e5 : I1 b 5 = I b 5) (e2 : I1 b 2 = I b 2) (g2 : I1 (b + 2) = I (b + 2)) (g3 : I1 (b + 3) = I (b + 3)) (ff : ∀ i, i = 1 ∨ i = 2 ∨ 35 ≤ i → f1 i = f i) (h4 : ∀ p c, PC f1 p c → I1 (b + 1) c = nI (f1 p)) : RC b f1 I1 := by
  refine RC.mk e0 ?_ ?_ h4 (fun k hk => ?_) (fun k j hk hj => ?_)
  · rw [e5, ff 1 (by omega)]
    exact r.sm
  · rw [e2, ff 2 (by omega)]
    exact r.bd
  · rw [ff 1 (by omega)] at hk
    rw [g2, nP, ff _ (by omega)]
    exact r.n hk
  · rw [ff 1 (by omega)] at hk
    rw [nP, ff _ (by omega)] at hj
    rw [g3, sG, ff _ (by omega)]
    exact r.s hk hj
theorem RR.upd {f f1 : Vw} {h h1 : Nat → Int32} (r : RR h f) (e0 : h1 0 = nI (f1 0)) (e : ∀ i, i = 1 ∨ i = 2 ∨ 35 ≤ i → h1 i = h i) (ff : ∀ i, i = 1 ∨ i = 2 ∨ 35 ≤ i → f1 i = f i) (h4 : ∀ p c, PC f1 p c → h1 p = nI (f1 p)) : RR h1 f1 := by
  refine RR.mk e0 ?_ ?_ h4 (fun k hk => ?_) (fun k j hk hj => ?_)
  · rw [e 1 (by omega), ff 1 (by omega)]
    exact r.sm
  · rw [e 2 (by omega), ff 2 (by omega)]
    exact r.bd
  · rw [ff 1 (by omega)] at hk
    rw [e _ (by omega), nP, ff _ (by omega)]
    exact r.n hk
  · rw [ff 1 (by omega)] at hk
    rw [nP, ff _ (by omega)] at hj
    rw [e _ (by omega), sG, ff _ (by omega)]
    exact r.s hk hj
theorem Wf.upd {f f1 : Vw} (w : Wf f) (h0 : 1 ≤ f1 0 ∧ f1 0 ≤ 4) (ff : ∀ i, i = 1 ∨ i = 2 ∨ 35 ≤ i → f1 i = f i) (h4 : ∀ p c, PC f1 p c → f1 p ≤ 6) : Wf f1 := by
  refine Wf.mk h0 ?_ ?_ h4 (fun k hk => ?_) (fun k j hk hj => ?_)
  · rw [ff 1 (by omega)]
    exact w.m6
  · rw [ff 2 (by omega)]
    exact w.2.2.1
  · rw [ff 1 (by omega)] at hk
    rw [nP, ff _ (by omega)]
    exact w.p hk
  · rw [ff 1 (by omega)] at hk
    rw [nP, ff _ (by omega)] at hj
    rw [sG, ff _ (by omega)]
    exact w.s hk hj
abbrev nwP (n i : Nat) : Prop := i = 3 + n ∨ (7 ≤ i ∧ i < 23 ∧ ((i - 7) / 4 = n ∨ (i - 7) % 4 = n)) ∨ (23 ≤ i ∧ i < 35 ∧ (i - 23) / 3 = n)
def addF (f : Vw) : Vw := fun i => if i = 0 then f 0 + 1 else if nwP (f 0) i then 1 else f i
def adA (f : Vw) : Int32 := if f 0 = 4 then (-3) else nI (f 0)
def adB (f : Vw) : Bool := !decide (f 0 = 4)
theorem addF_0 {f : Vw} : addF f 0 = f 0 + 1 := rfl
theorem addF_1 {f : Vw} {i : Nat} (h0 : i ≠ 0) (h : nwP (f 0) i) : addF f i = 1 := by
  rw [addF, if_neg h0, if_pos h]
theorem addF_n {f : Vw} {i : Nat} (h0 : i ≠ 0) (h : ¬ nwP (f 0) i) : addF f i = f i := by
  rw [addF, if_neg h0, if_neg h]
theorem addF_ff {f : Vw} (w : Wf f) : ∀ i, i = 1 ∨ i = 2 ∨ 35 ≤ i → addF f i = f i := fun i hi => by
  have := w.n4
  exact addF_n (by omega) (by unfold nwP; omega)
theorem PC.add {f : Vw} (w : Wf f) {p c : Nat} (h4 : f 0 ≠ 4) (h : PC (addF f) p c) : (nwP (f 0) p ∧ p ≠ 0 ∧ ((f 0 * 8 ≤ c ∧ c < f 0 * 8 + 8) ∨ ∃ s, s < f 0 ∧ c = s * 8 + 1 + f 0)) ∨ (¬ nwP (f 0) p ∧ p ≠ 0 ∧ PC f p c ∧ c < f 0 * 8 ∧ ∀ s, s < f 0 → c ≠ s * 8 + 1 + f 0) := by
  have := w.n4
  unfold PC at h
  rw [addF_0] at h
  rcases h with ⟨s, hs, e, e2⟩ | ⟨s, t, hs, ht, e, e2⟩ | ⟨s, t, hs, ht, e, e2⟩
  · by_cases q : s = f 0
    · exact Or.inl ⟨by unfold nwP; omega, by omega, by omega⟩
    · exact Or.inr ⟨by unfold nwP; omega, by omega, Or.inl ⟨s, by omega, e, e2⟩, by omega, fun s1 h1 => by omega⟩
  · by_cases q : s = f 0
    · exact Or.inl ⟨by unfold nwP; omega, by omega, by omega⟩
    · by_cases q2 : t = f 0
      · exact Or.inl ⟨by unfold nwP; omega, by omega, Or.inr ⟨s, by omega, by omega⟩⟩
      · exact Or.inr ⟨by unfold nwP; omega, by omega, Or.inr (Or.inl ⟨s, t, by omega, by omega, e, e2⟩), by omega, fun s1 h1 => by omega⟩
  · by_cases q : s = f 0
    · exact Or.inl ⟨by unfold nwP; omega, by omega, by omega⟩
    · exact Or.inr ⟨by unfold nwP; omega, by omega, Or.inr (Or.inr ⟨s, t, by omega, ht, e, e2⟩), by omega, fun s1 h1 => by omega⟩
theorem Wf.add {f : Vw} (w : Wf f) (h4 : f 0 ≠ 4) : Wf (addF f) := by
  have := w.n4
  refine w.upd ⟨by rw [addF_0]; omega, by rw [addF_0]; omega⟩ (addF_ff w) (fun p c h => ?_)
  rcases h.add w h4 with ⟨g1, g2, _⟩ | ⟨g1, g2, g3, _⟩
  · rw [addF_1 g2 g1]
    decide
  · rw [addF_n g2 g1]
    exact w.at g3
theorem RC.add {f : Vw} {I I1 : Iv} (r : RC 1 f I) (w : Wf f) (h4 : f 0 ≠ 4) (e0 : I1 1 1 = nI (f 0 + 1)) (hA : ∀ q, f 0 * 8 ≤ q → q < f 0 * 8 + 8 → I1 2 q = nI 1) (hB : ∀ s, s < f 0 → I1 2 (s * 8 + 1 + f 0) = nI 1) (hF : ∀ a q, (a ≠ 1 ∨ q ≠ 1) → (a ≠ 2 ∨ (q < f 0 * 8 ∧ ∀ s, s < f 0 → q ≠ s * 8 + 1 + f 0)) → I1 a q = I a q) : RC 1 (addF f) I1 := by
  refine r.upd (by rw [addF_0]; exact e0) (hF _ _ (by omega) (by omega)) (hF _ _ (by omega) (by omega)) (funext fun q => hF _ _ (by omega) (by omega)) (funext fun q => hF _ _ (by omega) (by omega)) (addF_ff w) (fun p c h => ?_)
  rcases h.add w h4 with ⟨g1, g2, g3 | ⟨s, hs, g3⟩⟩ | ⟨g1, g2, g3, g4, g5⟩
  · rw [addF_1 g2 g1]
    exact hA c g3.1 g3.2
  · rw [addF_1 g2 g1, g3]
    exact hB s hs
  · rw [addF_n g2 g1]
    exact (hF 2 c (by omega) (Or.inr ⟨g4, g5⟩)).trans (r.at g3)
theorem RR.add {f : Vw} {h h1 : Nat → Int32} (r : RR h f) (w : Wf f) (h4 : f 0 ≠ 4) (e0 : h1 0 = nI (f 0 + 1)) (hB : h1 (3 + f 0) = nI 1) (hC : ∀ t, t < f 0 + 1 → h1 (7 + 4 * f 0 + t) = nI 1) (hD : ∀ t, t < f 0 + 1 → h1 (7 + 4 * t + f 0) = nI 1) (hE : ∀ t, t < 3 → h1 (23 + 3 * f 0 + t) = nI 1) (hF : ∀ q, q ≠ 0 → ¬ nwP (f 0) q → h1 q = h q) : RR h1 (addF f) := by
  have := w.n4
  refine r.upd (by rw [addF_0]; exact e0) (fun i hi => hF i (by omega) (by unfold nwP; omega)) (addF_ff w) (fun p c g => ?_)
  rcases g.add w h4 with ⟨g1, g2, _⟩ | ⟨g1, g2, g3, _⟩
  · rw [addF_1 g2 g1]
    unfold PC at g
    rw [addF_0] at g
    unfold nwP at g1
    rcases g with ⟨s, hs, e, e2⟩ | ⟨s, t, hs, ht, e, e2⟩ | ⟨s, t, hs, ht, e, e2⟩
    · rw [e, show s = f 0 by omega]
      exact hB
    · by_cases q : s = f 0
      · rw [e, q]
        exact hC t ht
      · rw [e, show t = f 0 by omega]
        exact hD s hs
    · rw [e, show s = f 0 by omega]
      exact hE t ht
  · rw [addF_n g2 g1]
    exact (hF p g2 g1).trans (r.at g3)
set_option maxHeartbeats 4000000 in
theorem sp_X3_appendState {x : Cx} {Q : Qt} {I : Iv} {L : Lv} {P : Pv} {f : Vw} (c : RC 1 f I) (w : Wf f) (h4 : f 0 ≠ 4) (hQ : ∀ I1 : Iv, (∀ a, a ≠ 1 → a ≠ 2 → I1 a = I a) → RC 1 (addF f) I1 → Q none I1 L P) : SP x M_X3_appendState [rfv x 1] I L P Q := by
  have := w.n4
  have := w.m6
  obtain ⟨n, en⟩ : ∃ n, n = f 0 := ⟨_, rfl⟩
  refine SP.intro [some (rfv x 1), none, none] pn_X3_appendState (Nat.le_of_ble_eq_true rfl) rfl ?_
  refine v_aload_n 1 rfl dX3_appendState_0 rfl ?_
  refine v_get 4 (k := 1) 3 (.int (nI (n))) (by decide) rfl (by decide) (by decide) dX3_appendState_1 rfl fl_X3_15 (congrArg Value.int (c.st.trans (congrArg nI en.symm))) ?_
  refine v_istore_n 5 [some (rfv x 1), some (.int (nI (n))), none] dX3_appendState_4 rfl (by decide) rfl ?_
  refine v_aload_n 6 rfl dX3_appendState_5 rfl ?_
  refine v_dup 7 dX3_appendState_6 rfl rfl ?_
  refine v_get 10 (k := 1) 3 (.int (nI (n))) (by decide) rfl (by decide) (by decide) dX3_appendState_7 rfl fl_X3_15 (congrArg Value.int (c.st.trans (congrArg nI en.symm))) ?_
  refine v_iconst 11 (nI (1)) (by decide) dX3_appendState_10 rfl ?_
  refine v_iadd 12 (nI (n + 1)) dX3_appendState_11 rfl (nI_add _ _) ?_
  refine v_putI 15 (k := 1) 3 .int (by decide) rfl (by decide) (by decide) rfl (by decide +kernel) rfl rfl (fun _ _ => rfl) dX3_appendState_12 rfl fl_X3_15 (fun I12 e12 => ?_)
  refine v_iload_n 16 rfl dX3_appendState_15 rfl ?_
  refine v_bipush 18 (nI (8)) (by decide) dX3_appendState_16 rfl ?_
  refine v_imul 19 (nI (n * 8)) dX3_appendState_18 rfl (pk_mul _ _) ?_
  refine v_istore_n 20 [some (rfv x 1), some (.int (nI (n))), some (.int (nI (n * 8)))] dX3_appendState_19 rfl (by decide) rfl ?_
  have lp : ∀ j, j ≤ (n + 1) * 8 → n * 8 ≤ j → ∀ Ij : Iv, (∀ q, n * 8 ≤ q → q < j → Ij 2 q = nI 1) → (∀ a q, (a ≠ 2 ∨ q < n * 8 ∨ j ≤ q) → Ij a q = I12 a q) → V x M_X3_appendState Q 20 [some (rfv x 1), some (.int (nI (n))), some (.int (nI (j)))] [] Ij L P := by
    refine lpU ?_ ?_
    · intro hj8 Ij hA hF
      refine v_iload_n 21 rfl dX3_appendState_20 rfl ?_
      refine v_iload_n 22 rfl dX3_appendState_21 rfl ?_
      refine v_iconst 23 (nI (1)) (by decide) dX3_appendState_22 rfl ?_
      refine v_iadd 24 (nI (n + 1)) dX3_appendState_23 rfl (nI_add _ _) ?_
      refine v_bipush 26 (nI (8)) (by decide) dX3_appendState_24 rfl ?_
      refine v_imul 27 (nI ((n + 1) * 8)) dX3_appendState_26 rfl (pk_mul _ _) ?_
      refine v_icmpN_ge 43 30 dX3_appendState_27 (by decide) rfl (by omega) (by omega) (fun h27 => ?_) (fun h27 => ?_)
      · skip
        refine v_iconst 44 (nI (0)) (by decide) dX3_appendState_43 rfl ?_
        refine v_istore_n 45 [some (rfv x 1), some (.int (nI (n))), some (.int (nI (0)))] dX3_appendState_44 rfl (by decide) rfl ?_
        have lq : ∀ i, i ≤ n → ∀ Ik : Iv, (∀ q, n * 8 ≤ q → q < n * 8 + 8 → Ik 2 q = nI 1) → (∀ s, s < i → Ik 2 (s * 8 + 1 + n) = nI 1) → (∀ a q, (a ≠ 1 ∨ q ≠ 1) → (a ≠ 2 ∨ (q < n * 8 ∧ ∀ s, s < n → q ≠ s * 8 + 1 + n)) → Ik a q = I a q) → Ik 1 1 = nI (n + 1) → V x M_X3_appendState Q 45 [some (rfv x 1), some (.int (nI (n))), some (.int (nI (i)))] [] Ik L P := by
          refine lpU ?_ ?_
          · intro Ik gA gB gF g1
            refine v_iload_n 46 rfl dX3_appendState_45 rfl ?_
            refine v_iload_n 47 rfl dX3_appendState_46 rfl ?_
            refine v_icmpN_ge 68 50 dX3_appendState_47 (by decide) rfl (by omega) (by omega) (fun h47 => ?_) (fun h47 => ?_)
            · skip
              refine v_vret rfl dX3_appendState_68 ?_
              subst en
              exact hQ Ik (fun a z1 z2 => funext fun q => gF a q (Or.inl z1) (Or.inl z2)) (c.add w h4 g1 gA gB gF)
            · skip
              exact absurd h47 (by omega)
          · intro i hi ih Ik gA gB gF g1
            refine v_iload_n 46 rfl dX3_appendState_45 rfl ?_
            refine v_iload_n 47 rfl dX3_appendState_46 rfl ?_
            refine v_icmpN_ge 68 50 dX3_appendState_47 (by decide) rfl (by omega) (by omega) (fun h47 => ?_) (fun h47 => ?_)
            · skip
              exact absurd h47 (by omega)
            · skip
              refine v_aload_n 51 rfl dX3_appendState_50 rfl ?_
              refine v_get 54 (k := 0) 3 (rfv x 2) (by decide) rfl (by decide) (by decide) dX3_appendState_51 rfl fl_X3_11 rfl ?_
              refine v_iconst 55 (nI (1)) (by decide) dX3_appendState_54 rfl ?_
              refine v_iload_n 56 rfl dX3_appendState_55 rfl ?_
              refine v_iload_n 57 rfl dX3_appendState_56 rfl ?_
              refine v_invT 60 M_X3_cellOf [.int (nI (1)), .int (nI (i)), .int (nI (n))] dX3_appendState_57 rfl ml_X3_48 sm_X3_cellOf mc_X3_cellOf (by decide) (Nat.le_of_ble_eq_true rfl) (sp_X3_cellOf (by omega) (by omega) (by omega) ?_)
              refine v_iconst 61 (nI (1)) (by decide) dX3_appendState_60 rfl ?_
              have ec : cl 1 i n = i * 8 + 1 + n := rfl
              refine v_iast 62 (k := cl 1 i n) (nI (1)) (by decide) rfl (by decide) dX3_appendState_61 rfl rfl (by omega) rfl (fun I61 e61 => ?_)
              refine v_iinc 65 [some (rfv x 1), some (.int (nI (n))), some (.int (nI (i + 1)))] (nI (i + 1)) dX3_appendState_62 rfl (by decide) rfl (nI_inc _) rfl ?_
              refine v_goto 45 dX3_appendState_65 (by decide) ?_
              refine v_drop [some (rfv x 1), some (.int (nI (n))), some (.int (nI (i + 1)))] (by simp [lsub, smN_s]) ?_
              refine ih I61 (fun q q1 q2 => ?_) (fun s hs => ?_) (fun a q z1 z2 => ?_) ((up2_off e61 (by omega)).trans g1)
              · exact (up2_off e61 (by omega)).trans (gA q q1 q2)
              · by_cases z : s = i
                · subst z
                  rw [← ec]
                  exact up2_at e61
                · exact (up2_off e61 (by omega)).trans (gB s (by omega))
              · rcases z2 with z2 | ⟨z2, z3⟩
                · exact (up2_off e61 (by omega)).trans (gF a q z1 (Or.inl z2))
                · have z4 := z3 i hi
                  exact (up2_off e61 (by omega)).trans (gF a q z1 (Or.inr ⟨z2, z3⟩))
        refine v_drop [some (rfv x 1), some (.int (nI (n))), some (.int (nI (0)))] (by simp [lsub, smN, amN, dbW, mxN]) ?_
        exact lq 0 (Nat.zero_le _) Ij (fun q q1 q2 => hA q q1 (by omega)) (fun s hs => absurd hs (Nat.not_lt_zero s)) (fun a q z1 z2 => (hF a q (by omega)).trans (up2_off e12 (by omega)))  ((hF 1 1 (by omega)).trans (up2_at e12))
      · skip
        exact absurd h27 (by omega)
    · intro j hj ih hj8 Ij hA hF
      refine v_iload_n 21 rfl dX3_appendState_20 rfl ?_
      refine v_iload_n 22 rfl dX3_appendState_21 rfl ?_
      refine v_iconst 23 (nI (1)) (by decide) dX3_appendState_22 rfl ?_
      refine v_iadd 24 (nI (n + 1)) dX3_appendState_23 rfl (nI_add _ _) ?_
      refine v_bipush 26 (nI (8)) (by decide) dX3_appendState_24 rfl ?_
      refine v_imul 27 (nI ((n + 1) * 8)) dX3_appendState_26 rfl (pk_mul _ _) ?_
      refine v_icmpN_ge 43 30 dX3_appendState_27 (by decide) rfl (by omega) (by omega) (fun h27 => ?_) (fun h27 => ?_)
      · skip
        exact absurd h27 (by omega)
      · skip
        refine v_aload_n 31 rfl dX3_appendState_30 rfl ?_
        refine v_get 34 (k := 0) 3 (rfv x 2) (by decide) rfl (by decide) (by decide) dX3_appendState_31 rfl fl_X3_11 rfl ?_
        refine v_iload_n 35 rfl dX3_appendState_34 rfl ?_
        refine v_iconst 36 (nI (1)) (by decide) dX3_appendState_35 rfl ?_
        refine v_iast 37 (k := j) (nI (1)) (by decide) rfl (by decide) dX3_appendState_36 rfl rfl (by omega) rfl (fun I36 e36 => ?_)
        refine v_iinc 40 [some (rfv x 1), some (.int (nI (n))), some (.int (nI (j + 1)))] (nI (j + 1)) dX3_appendState_37 rfl (by decide) rfl (nI_inc _) rfl ?_
        refine v_goto 20 dX3_appendState_40 (by decide) ?_
        refine v_drop [some (rfv x 1), some (.int (nI (n))), some (.int (nI (j + 1)))] (by simp [lsub, smN_s]) ?_
        refine ih (by omega) I36 (fun q q1 q2 => ?_) (fun a q h => (up2_off e36 (by omega)).trans (hF a q (by omega)))
        by_cases z : q = j
        · subst z
          exact up2_at e36
        · exact (up2_off e36 (by omega)).trans (hA q q1 (by omega))
  refine v_drop [some (rfv x 1), some (.int (nI (n))), some (.int (nI (n * 8)))] (by simp [lsub]) ?_
  exact lp (n * 8) (by omega) (Nat.le_refl _) I12 (fun q q1 q2 => absurd q1 (by omega)) (fun a q _ => rfl)
set_option maxHeartbeats 4000000 in
theorem sp_X7_addState {x : Cx} {Q : Qt} {I : Iv} {L : Lv} {P : Pv} {f : Vw} {H : Hs} {hn sn : Nat} {g : Vw} {T : Tx} {tl : Nat} (ci : CI f H hn sn g T tl I P) (wi : WI f H hn sn g T tl) (hQ : ∀ (I1 : Iv) (L1 : Lv) (P1 : Pv), (∀ a, 40 ≤ a → I1 a = I a) → CI (stF (adB f) f (addF f)) (stH (adB f) H hn f) (stN (adB f) hn) sn g T tl I1 P1 → Q (some (.int (adA f))) I1 L1 P1) : SP x M_X7_addState [rfv x 0] I L P Q := by
  obtain ⟨c, hc, hsn, hsg, htx⟩ := id ci
  obtain ⟨w, hw, hs2, hwg, htl, hT⟩ := id wi
  have := w.n4
  have := w.m6
  have := w.n1
  refine SP.intro [some (rfv x 0)] pn_X7_addState (Nat.le_of_ble_eq_true rfl) rfl ?_
  refine v_aload_n 1 rfl dX7_addState_0 rfl ?_
  refine v_get 4 (k := 0) 7 (rfv x 1) (by decide) rfl (by decide) (by decide) dX7_addState_1 rfl fl_X7_15 rfl ?_
  refine v_getN 7 (k := 1) 3 (.int (nI (f 0))) (by decide) rfl (by decide) (by decide) dX7_addState_4 rfl fl_X7_84 (congrArg Value.int c.st) ?_
  refine v_iconst 8 (nI (4)) (by decide) dX7_addState_7 rfl ?_
  refine v_icmpN_ne 14 11 dX7_addState_8 (by decide) rfl (by omega) (by omega) (fun h8 => ?_) (fun h8 => ?_)
  · skip
    have h4 : f 0 ≠ 4 := h8
    refine v_aload_n 15 rfl dX7_addState_14 rfl ?_
    refine v_get 18 (k := 3) 7 (rfv x 9) (by decide) rfl (by decide) (by decide) dX7_addState_15 rfl fl_X7_27 rfl ?_
    refine v_aload_n 19 rfl dX7_addState_18 rfl ?_
    refine v_get 22 (k := 0) 7 (rfv x 1) (by decide) rfl (by decide) (by decide) dX7_addState_19 rfl fl_X7_15 rfl ?_
    refine v_invV 25 M_X1_record [rfv x 1] (by decide) rfl (by decide) rfl dX7_addState_22 rfl ml_X7_81 im_X1_record se_X1_record mc_X1_record (by decide) (Nat.le_of_ble_eq_true rfl) (sp_X1_record hc c w (fun Ir Pr fr hcr => ?_))
    have c1 : RC 1 f Ir := c.same (fun a _ _ => fr a (by omega))
    refine v_aload_n 26 rfl dX7_addState_25 rfl ?_
    refine v_get 29 (k := 0) 7 (rfv x 1) (by decide) rfl (by decide) (by decide) dX7_addState_26 rfl fl_X7_15 rfl ?_
    refine v_invV 32 M_X3_appendState [] (by decide) rfl (by decide) rfl dX7_addState_29 rfl ml_X7_88 im_X3_appendState se_X3_appendState mc_X3_appendState (by decide) (Nat.le_of_ble_eq_true rfl) (sp_X3_appendState c1 w h4 (fun Ia fa ca => ?_))
    refine v_aload_n 33 rfl dX7_addState_32 rfl ?_
    refine v_get 36 (k := 0) 7 (rfv x 1) (by decide) rfl (by decide) (by decide) dX7_addState_33 rfl fl_X7_15 rfl ?_
    refine v_getN 39 (k := 1) 3 (.int (nI (f 0 + 1))) (by decide) rfl (by decide) (by decide) dX7_addState_36 rfl fl_X7_84 (congrArg Value.int ca.st) ?_
    refine v_iconst 40 (nI (1)) (by decide) dX7_addState_39 rfl ?_
    refine v_isub 41 (nI (f 0)) dX7_addState_40 rfl (nI_pred (f 0)) ?_
    refine v_iret rfl dX7_addState_41 ?_
    refine qZ (hQ Ia L Pr (fun a ha => (fa a (by omega) (by omega)).trans (fr a (by omega))) ?_) (by rw [adA, if_neg h4])
    rw [show adB f = true by simp [adB, h4]]
    refine ⟨ca, hcr.same (fun a _ _ => fa a (by omega) (by omega)), ?_, fun e => ?_, ?_, fun i hi => ?_⟩
    · rw [fa 0 (by decide) (by decide), fr 0 (by omega)]
      exact hsn
    · exact (hsg e).same (fun a _ _ => (fa a (by omega) (by omega)).trans (fr a (by omega)))
    · rw [fa 27 (by decide) (by decide), fr 27 (by omega)]
      exact htx.1
    · rw [fa 28 (by decide) (by decide), fr 28 (by omega)]
      exact htx.2 i hi
  · skip
    refine v_bipush 13 ((-3)) (by decide) dX7_addState_11 rfl ?_
    refine v_iret rfl dX7_addState_13 ?_
    refine qZ (hQ I L P (fun _ _ => rfl) ?_) (by rw [adA, if_pos h8])
    rw [show adB f = false by simp [adB, h8]]
    exact ci
set_option maxHeartbeats 4000000 in
theorem sp_X8_fills {x : Cx} {Q : Qt} {I : Iv} {L : Lv} {P : Pv} {n : Nat} (hn : n < 4) (h0 : I 41 0 = nI (n + 1)) (hQ : ∀ I1 : Iv, (∀ a q, (a ≠ 41 ∨ ¬ nwP n q) → I1 a q = I a q) → I1 41 (3 + n) = nI 1 → (∀ t, t < n + 1 → I1 41 (7 + 4 * n + t) = nI 1) → (∀ t, t < n + 1 → I1 41 (7 + 4 * t + n) = nI 1) → (∀ t, t < 3 → I1 41 (23 + 3 * n + t) = nI 1) → Q none I1 L P) : SP x M_X8_fills [rfv x 40, .int (nI (n))] I L P Q := by
  refine SP.intro [some (rfv x 40), some (.int (nI (n))), none] pn_X8_fills (Nat.le_of_ble_eq_true rfl) rfl ?_
  refine v_aload_n 1 rfl dX8_fills_0 rfl ?_
  refine v_get 4 (k := 1) 8 (rfv x 41) (by decide) rfl (by decide) (by decide) dX8_fills_1 rfl fl_X8_7 rfl ?_
  refine v_iconst 5 (nI (3)) (by decide) dX8_fills_4 rfl ?_
  refine v_iload_n 6 rfl dX8_fills_5 rfl ?_
  refine v_iadd 7 (nI (3 + n)) dX8_fills_6 rfl (nI_add _ _) ?_
  refine v_iconst 8 (nI (1)) (by decide) dX8_fills_7 rfl ?_
  refine v_iast 9 (k := 3 + n) (nI (1)) (by decide) rfl (by decide) dX8_fills_8 rfl rfl (by omega) rfl (fun I8 e8 => ?_)
  refine v_iconst 10 (nI (0)) (by decide) dX8_fills_9 rfl ?_
  refine v_istore_n 11 [some (rfv x 40), some (.int (nI (n))), some (.int (nI (0)))] dX8_fills_10 rfl (by decide) rfl ?_
  have lp : ∀ t, t ≤ n + 1 → ∀ Ij : Iv, (∀ a q, (a ≠ 41 ∨ ¬ nwP n q) → Ij a q = I a q) → Ij 41 (3 + n) = nI 1 → (∀ q, q < t → Ij 41 (7 + 4 * n + q) = nI 1) → (∀ q, q < t → Ij 41 (7 + 4 * q + n) = nI 1) → V x M_X8_fills Q 11 [some (rfv x 40), some (.int (nI (n))), some (.int (nI (t)))] [] Ij L P := by
    refine lpU ?_ ?_
    · intro Ij hF hB hC hD
      refine v_iload_n 12 rfl dX8_fills_11 rfl ?_
      refine v_aload_n 13 rfl dX8_fills_12 rfl ?_
      refine v_get 16 (k := 1) 8 (rfv x 41) (by decide) rfl (by decide) (by decide) dX8_fills_13 rfl fl_X8_7 rfl ?_
      refine v_iconst 17 (nI (0)) (by decide) dX8_fills_16 rfl ?_
      refine v_iald 18 (k := 0) (nI (n + 1)) (by decide) rfl (by decide) dX8_fills_17 rfl rfl (by omega) ((hF 41 0 (Or.inr (by unfold nwP; omega))).trans h0) ?_
      refine v_icmpN_ge 55 21 dX8_fills_18 (by decide) rfl (by omega) (by omega) (fun h18 => ?_) (fun h18 => ?_)
      · skip
        refine v_iconst 56 (nI (0)) (by decide) dX8_fills_55 rfl ?_
        refine v_istore_n 57 [some (rfv x 40), some (.int (nI (n))), some (.int (nI (0)))] dX8_fills_56 rfl (by decide) rfl ?_
        have lq : ∀ g, g ≤ 3 → ∀ Ik : Iv, (∀ a q, (a ≠ 41 ∨ ¬ nwP n q) → Ik a q = I a q) → Ik 41 (3 + n) = nI 1 → (∀ q, q < n + 1 → Ik 41 (7 + 4 * n + q) = nI 1) → (∀ q, q < n + 1 → Ik 41 (7 + 4 * q + n) = nI 1) → (∀ q, q < g → Ik 41 (23 + 3 * n + q) = nI 1) → V x M_X8_fills Q 57 [some (rfv x 40), some (.int (nI (n))), some (.int (nI (g)))] [] Ik L P := by
          refine lpU ?_ ?_
          · intro Ik gF gB gC gD gE
            refine v_iload_n 58 rfl dX8_fills_57 rfl ?_
            refine v_iconst 59 (nI (3)) (by decide) dX8_fills_58 rfl ?_
            refine v_icmpN_ge 82 62 dX8_fills_59 (by decide) rfl (by omega) (by omega) (fun h59 => ?_) (fun h59 => ?_)
            · skip
              refine v_vret rfl dX8_fills_82 ?_
              exact hQ Ik gF gB gC gD gE
            · skip
              exact absurd h59 (by omega)
          · intro g hg ih Ik gF gB gC gD gE
            refine v_iload_n 58 rfl dX8_fills_57 rfl ?_
            refine v_iconst 59 (nI (3)) (by decide) dX8_fills_58 rfl ?_
            refine v_icmpN_ge 82 62 dX8_fills_59 (by decide) rfl (by omega) (by omega) (fun h59 => ?_) (fun h59 => ?_)
            · skip
              exact absurd h59 (by omega)
            · skip
              refine v_aload_n 63 rfl dX8_fills_62 rfl ?_
              refine v_get 66 (k := 1) 8 (rfv x 41) (by decide) rfl (by decide) (by decide) dX8_fills_63 rfl fl_X8_7 rfl ?_
              refine v_bipush 68 (nI (23)) (by decide) dX8_fills_66 rfl ?_
              refine v_iconst 69 (nI (3)) (by decide) dX8_fills_68 rfl ?_
              refine v_iload_n 70 rfl dX8_fills_69 rfl ?_
              refine v_imul 71 (nI (3 * n)) dX8_fills_70 rfl (pk_mul _ _) ?_
              refine v_iadd 72 (nI (23 + (3 * n))) dX8_fills_71 rfl (nI_add _ _) ?_
              refine v_iload_n 73 rfl dX8_fills_72 rfl ?_
              refine v_iadd 74 (nI ((23 + (3 * n)) + g)) dX8_fills_73 rfl (nI_add _ _) ?_
              refine v_iconst 75 (nI (1)) (by decide) dX8_fills_74 rfl ?_
              refine v_iast 76 (k := (23 + (3 * n)) + g) (nI (1)) (by decide) rfl (by decide) dX8_fills_75 rfl rfl (by omega) rfl (fun I75 e75 => ?_)
              refine v_iinc 79 [some (rfv x 40), some (.int (nI (n))), some (.int (nI (g + 1)))] (nI (g + 1)) dX8_fills_76 rfl (by decide) rfl (nI_inc _) rfl ?_
              refine v_goto 57 dX8_fills_79 (by decide) ?_
              refine v_drop [some (rfv x 40), some (.int (nI (n))), some (.int (nI (g + 1)))] (by simp [lsub, smN_s]) ?_
              refine ih I75 (fun a q z => ?_) ((up2_off e75 (by omega)).trans gB) (fun q hq => (up2_off e75 (by omega)).trans (gC q hq)) (fun q hq => (up2_off e75 (by omega)).trans (gD q hq)) (fun q hq => ?_)
              · have z9 := z
                unfold nwP at z9
                exact (up2_off e75 (by omega)).trans (gF a q z)
              · by_cases y : q = g
                · rw [y]
                  exact up2_at e75
                · exact (up2_off e75 (by omega)).trans (gE q (by omega))
        refine v_drop [some (rfv x 40), some (.int (nI (n))), some (.int (nI (0)))] (by simp [lsub, smN, amN, dbW, mxN]) ?_
        exact lq 0 (Nat.zero_le _) Ij hF hB hC hD (fun q h => absurd h (Nat.not_lt_zero q))
      · skip
        exact absurd h18 (by omega)
    · intro t ht ih Ij hF hB hC hD
      refine v_iload_n 12 rfl dX8_fills_11 rfl ?_
      refine v_aload_n 13 rfl dX8_fills_12 rfl ?_
      refine v_get 16 (k := 1) 8 (rfv x 41) (by decide) rfl (by decide) (by decide) dX8_fills_13 rfl fl_X8_7 rfl ?_
      refine v_iconst 17 (nI (0)) (by decide) dX8_fills_16 rfl ?_
      refine v_iald 18 (k := 0) (nI (n + 1)) (by decide) rfl (by decide) dX8_fills_17 rfl rfl (by omega) ((hF 41 0 (Or.inr (by unfold nwP; omega))).trans h0) ?_
      refine v_icmpN_ge 55 21 dX8_fills_18 (by decide) rfl (by omega) (by omega) (fun h18 => ?_) (fun h18 => ?_)
      · skip
        exact absurd h18 (by omega)
      · skip
        refine v_aload_n 22 rfl dX8_fills_21 rfl ?_
        refine v_get 25 (k := 1) 8 (rfv x 41) (by decide) rfl (by decide) (by decide) dX8_fills_22 rfl fl_X8_7 rfl ?_
        refine v_bipush 27 (nI (7)) (by decide) dX8_fills_25 rfl ?_
        refine v_iconst 28 (nI (4)) (by decide) dX8_fills_27 rfl ?_
        refine v_iload_n 29 rfl dX8_fills_28 rfl ?_
        refine v_imul 30 (nI (4 * n)) dX8_fills_29 rfl (pk_mul _ _) ?_
        refine v_iadd 31 (nI (7 + (4 * n))) dX8_fills_30 rfl (nI_add _ _) ?_
        refine v_iload_n 32 rfl dX8_fills_31 rfl ?_
        refine v_iadd 33 (nI ((7 + (4 * n)) + t)) dX8_fills_32 rfl (nI_add _ _) ?_
        refine v_iconst 34 (nI (1)) (by decide) dX8_fills_33 rfl ?_
        refine v_iast 35 (k := (7 + (4 * n)) + t) (nI (1)) (by decide) rfl (by decide) dX8_fills_34 rfl rfl (by omega) rfl (fun I34 e34 => ?_)
        refine v_aload_n 36 rfl dX8_fills_35 rfl ?_
        refine v_get 39 (k := 1) 8 (rfv x 41) (by decide) rfl (by decide) (by decide) dX8_fills_36 rfl fl_X8_7 rfl ?_
        refine v_bipush 41 (nI (7)) (by decide) dX8_fills_39 rfl ?_
        refine v_iconst 42 (nI (4)) (by decide) dX8_fills_41 rfl ?_
        refine v_iload_n 43 rfl dX8_fills_42 rfl ?_
        refine v_imul 44 (nI (4 * t)) dX8_fills_43 rfl (pk_mul _ _) ?_
        refine v_iadd 45 (nI (7 + (4 * t))) dX8_fills_44 rfl (nI_add _ _) ?_
        refine v_iload_n 46 rfl dX8_fills_45 rfl ?_
        refine v_iadd 47 (nI ((7 + (4 * t)) + n)) dX8_fills_46 rfl (nI_add _ _) ?_
        refine v_iconst 48 (nI (1)) (by decide) dX8_fills_47 rfl ?_
        refine v_iast 49 (k := (7 + (4 * t)) + n) (nI (1)) (by decide) rfl (by decide) dX8_fills_48 rfl rfl (by omega) rfl (fun I48 e48 => ?_)
        refine v_iinc 52 [some (rfv x 40), some (.int (nI (n))), some (.int (nI (t + 1)))] (nI (t + 1)) dX8_fills_49 rfl (by decide) rfl (nI_inc _) rfl ?_
        refine v_goto 11 dX8_fills_52 (by decide) ?_
        refine v_drop [some (rfv x 40), some (.int (nI (n))), some (.int (nI (t + 1)))] (by simp [lsub, smN_s]) ?_
        refine ih I48 (fun a q z => ?_) ((up2_off e48 (by omega)).trans ((up2_off e34 (by omega)).trans hB)) (fun q hq => ?_) (fun q hq => ?_)
        · have z9 := z
          unfold nwP at z9
          exact (up2_off e48 (by omega)).trans ((up2_off e34 (by omega)).trans (hF a q z))
        · by_cases y : 7 + 4 * n + q = 7 + 4 * t + n
          · rw [y]
            exact up2_at e48
          · rw [up2_off e48 (by omega)]
            by_cases y2 : q = t
            · rw [y2]
              exact up2_at e34
            · exact (up2_off e34 (by omega)).trans (hC q (by omega))
        · by_cases y2 : q = t
          · rw [y2]
            exact up2_at e48
          · rw [up2_off e48 (by omega)]
            by_cases y : 7 + 4 * q + n = 7 + 4 * n + t
            · rw [y]
              exact up2_at e34
            · exact (up2_off e34 (by omega)).trans (hD q (by omega))
  refine v_drop [some (rfv x 40), some (.int (nI (n))), some (.int (nI (0)))] (by simp [lsub, smN, amN, dbW, mxN]) ?_
  refine lp 0 (Nat.zero_le _) I8 (fun a q z => ?_) (up2_at e8) (fun q h => absurd h (Nat.not_lt_zero q)) (fun q h => absurd h (Nat.not_lt_zero q))
  unfold nwP at z
  exact up2_off e8 (by omega)
set_option maxHeartbeats 4000000 in
theorem sp_X8_addState {x : Cx} {Q : Qt} {I : Iv} {L : Lv} {P : Pv} {f : Vw} {H : Hs} {hn sn : Nat} {g : Vw} {T : Tx} {tl : Nat} (ri : RI f H hn sn g T tl I) (wi : WI f H hn sn g T tl) (hQ : ∀ (I1 : Iv) (L1 : Lv), (∀ a, a < 40 → I1 a = I a) → RI (stF (adB f) f (addF f)) (stH (adB f) H hn f) (stN (adB f) hn) sn g T tl I1 → Q (some (.int (adA f))) I1 L1 P) : SP x M_X8_addState [rfv x 40] I L P Q := by
  obtain ⟨r, hr, hsn, hsg, htx⟩ := id ri
  obtain ⟨w, hw, hs2, hwg, htl, hT⟩ := id wi
  have := w.n4
  have := w.m6
  have := w.n1
  refine SP.intro [some (rfv x 40)] pn_X8_addState (Nat.le_of_ble_eq_true rfl) rfl ?_
  refine v_aload_n 1 rfl dX8_addState_0 rfl ?_
  refine v_iconst 2 (nI (0)) (by decide) dX8_addState_1 rfl ?_
  refine v_putI 5 (k := 0) 8 .int (by decide) rfl (by decide) (by decide) rfl (by decide +kernel) rfl rfl (fun _ _ => rfl) dX8_addState_2 rfl fl_X8_50 (fun I2 e2 => ?_)
  have ht0 : I2 = up2 I 40 0 (nI 0) := e2
  have r2 : RR (I2 41) f := by rw [up2_row e2 (by omega)]; exact r
  have hr2 : HR H hn I2 := ⟨hr.1, (up2_off e2 (by omega)).trans hr.2.1, fun i hi => by rw [up2_row e2 (by omega)]; exact hr.2.2 i hi⟩
  have ri2 : RI f H hn sn g T tl I2 := ri.kp (fun a q hl => up2_off e2 (by unfold live at hl; omega))
  have lo2 : ∀ a, a < 40 → I2 a = I a := fun a ha => up2_row e2 (by omega)
  refine v_aload_n 6 rfl dX8_addState_5 rfl ?_
  refine v_get 9 (k := 1) 8 (rfv x 41) (by decide) rfl (by decide) (by decide) dX8_addState_6 rfl fl_X8_7 rfl ?_
  refine v_iconst 10 (nI (0)) (by decide) dX8_addState_9 rfl ?_
  refine v_iald 11 (k := 0) (nI (f 0)) (by decide) rfl (by decide) dX8_addState_10 rfl rfl (by omega) r2.st ?_
  refine v_iconst 12 (nI (4)) (by decide) dX8_addState_11 rfl ?_
  refine v_icmpN_ne 18 15 dX8_addState_12 (by decide) rfl (by omega) (by omega) (fun h12 => ?_) (fun h12 => ?_)
  · skip
    have h4 : f 0 ≠ 4 := h12
    refine v_aload_n 19 rfl dX8_addState_18 rfl ?_
    refine v_invV 22 M_X8_records [] (by decide) rfl (by decide) rfl dX8_addState_19 rfl ml_X8_105 im_X8_records se_X8_records mc_X8_records (by decide) (Nat.le_of_ble_eq_true rfl) (sp_X8_records hr2 hw r2 w (fun Ir fr hrr => ?_))
    have rr : RR (Ir 41) f := (r2.on w (fun j _ => fr 41 j (by decide) (Or.inl (by decide))))
    refine v_aload_n 23 rfl dX8_addState_22 rfl ?_
    refine v_get 26 (k := 1) 8 (rfv x 41) (by decide) rfl (by decide) (by decide) dX8_addState_23 rfl fl_X8_7 rfl ?_
    refine v_iconst 27 (nI (0)) (by decide) dX8_addState_26 rfl ?_
    refine v_dup2 28 dX8_addState_27 rfl rfl rfl ?_
    refine v_iald 29 (k := 0) (nI (f 0)) (by decide) rfl (by decide) dX8_addState_28 rfl rfl (by omega) rr.st ?_
    refine v_iconst 30 (nI (1)) (by decide) dX8_addState_29 rfl ?_
    refine v_iadd 31 (nI ((f 0) + 1)) dX8_addState_30 rfl (nI_add _ _) ?_
    refine v_iast 32 (k := 0) (nI ((f 0) + 1)) (by decide) rfl (by decide) dX8_addState_31 rfl rfl (by omega) rfl (fun I31 e31 => ?_)
    refine v_aload_n 33 rfl dX8_addState_32 rfl ?_
    refine v_aload_n 34 rfl dX8_addState_33 rfl ?_
    refine v_get 37 (k := 1) 8 (rfv x 41) (by decide) rfl (by decide) (by decide) dX8_addState_34 rfl fl_X8_7 rfl ?_
    refine v_iconst 38 (nI (0)) (by decide) dX8_addState_37 rfl ?_
    refine v_iald 39 (k := 0) (nI (f 0 + 1)) (by decide) rfl (by decide) dX8_addState_38 rfl rfl (by omega) (up2_at e31) ?_
    refine v_iconst 40 (nI (1)) (by decide) dX8_addState_39 rfl ?_
    refine v_isub 41 (nI (f 0)) dX8_addState_40 rfl (nI_pred (f 0)) ?_
    refine v_invV 44 M_X8_fills [.int (nI (f 0))] (by decide) rfl (by decide) rfl dX8_addState_41 rfl ml_X8_54 im_X8_fills se_X8_fills mc_X8_fills (by decide) (Nat.le_of_ble_eq_true rfl) (sp_X8_fills (by omega) (up2_at e31) (fun Ia fa gB gC gD gE => ?_))
    have a0 : Ia 41 0 = nI (f 0 + 1) := (fa 41 0 (Or.inr (by unfold nwP; omega))).trans (up2_at e31)
    refine v_aload_n 45 rfl dX8_addState_44 rfl ?_
    refine v_get 48 (k := 1) 8 (rfv x 41) (by decide) rfl (by decide) (by decide) dX8_addState_45 rfl fl_X8_7 rfl ?_
    refine v_iconst 49 (nI (0)) (by decide) dX8_addState_48 rfl ?_
    refine v_iald 50 (k := 0) (nI (f 0 + 1)) (by decide) rfl (by decide) dX8_addState_49 rfl rfl (by omega) a0 ?_
    refine v_iconst 51 (nI (1)) (by decide) dX8_addState_50 rfl ?_
    refine v_isub 52 (nI (f 0)) dX8_addState_51 rfl (nI_pred (f 0)) ?_
    refine v_iret rfl dX8_addState_52 ?_
    have k1 : ∀ a q, a ≠ 41 → Ia a q = Ir a q := fun a q h => (fa a q (Or.inl h)).trans (up2_off e31 (by omega))
    refine qZ (hQ Ia L (fun a ha => ?_) ?_) (by rw [adA, if_neg h4])
    · rw [show Ia a = Ir a from funext (fun q => k1 a q (by omega)), show Ir a = I2 a from funext (fun q => fr a q (by omega) (Or.inl (by omega)))]
      exact lo2 a ha
    · rw [show adB f = true by simp [adB, h4]]
      refine ⟨rr.add w h4 a0 gB gC gD gE (fun q z1 z2 => (fa 41 q (Or.inr z2)).trans (up2_off e31 (by omega))), ⟨hrr.1, (k1 40 4 (by decide)).trans hrr.2.1, fun i hi => by rw [show Ia 43 = Ir 43 from funext (fun q => k1 43 q (by decide))]; exact hrr.2.2 i hi⟩, ?_, fun e => ?_, ?_, fun i hi => ?_⟩
      · rw [k1 40 6 (by decide), fr 40 6 (by decide) (Or.inr (by decide))]
        exact ri2.2.2.1
      · exact (ri2.2.2.2.1 e).on (hwg e) (fun j _ => (k1 44 j (by decide)).trans (fr 44 j (by decide) (Or.inl (by decide))))
      · rw [k1 40 8 (by decide), fr 40 8 (by decide) (Or.inr (by decide))]
        exact ri2.2.2.2.2.1
      · rw [k1 45 i (by decide), fr 45 i (by decide) (Or.inl (by decide))]
        exact ri2.2.2.2.2.2 i hi
  · skip
    refine v_bipush 17 ((-3)) (by decide) dX8_addState_15 rfl ?_
    refine v_iret rfl dX8_addState_17 ?_
    refine qZ (hQ I2 L lo2 ?_) (by rw [adA, if_pos h12])
    rw [show adB f = false by simp [adB, h12]]
    exact ri2
