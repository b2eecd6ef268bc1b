/-! copies, history -/
theorem cpy_at {I I1 : Iv} {i0 i1 n : Nat} (e : I1 = cpy2 I i0 i1 0 0 n) {j : Nat} (h : j < n) : I1 i1 j = I i0 j := by
  rw [e]
  simp [cpy2, h]
theorem cpy_row {I I1 : Iv} {i0 i1 sp dp n : Nat} (e : I1 = cpy2 I i0 i1 sp dp n) {a : Nat} (h : a ≠ i1) : I1 a = I a := by
  rw [e]
  funext q
  simp [cpy2, h]
def CPY (b b' : Nat) (I I1 : Iv) : Prop := I1 b 1 = I b' 1 ∧ I1 b 2 = I b' 2 ∧ I1 b 5 = I b' 5 ∧ (∀ j, j < 32 → I1 (b + 1) j = I (b' + 1) j) ∧ (∀ j, j < 6 → I1 (b + 2) j = I (b' + 2) j) ∧ (∀ j, j < 42 → I1 (b + 3) j = I (b' + 3) j)
theorem CPY.rc {b b' : Nat} {I I1 : Iv} {f : Vw} (h : CPY b b' I I1) (c : RC b' f I) (w : Wf f) : RC b f I1 := by
  obtain ⟨h1, h2, h3, h4, h5, h6⟩ := h
  have := w.n4
  have := w.m6
  refine ⟨h1.trans c.st, h3.trans c.sm, h2.trans c.bd, fun s hs => ?_, fun s t hs ht => ?_, fun s g hs hg => ?_, fun k hk => ?_, fun k p hk hp => ?_⟩
  · exact (h4 _ (by omega)).trans (c.b hs)
  · exact (h4 _ (by omega)).trans (c.g hs ht)
  · exact (h4 _ (by omega)).trans (c.w hs hg)
  · exact (h5 _ (by omega)).trans (c.n hk)
  · exact (h6 _ (by have := w.p hk; omega)).trans (c.s hk hp)
theorem RR.on {h h' : Nat → Int32} {f : Vw} (c : RR h f) (w : Wf f) (e : ∀ j, j < 83 → h' j = h j) : RR h' f := by
  have := w.n4
  have := w.m6
  refine ⟨(e 0 (by decide)).trans c.st, (e 1 (by decide)).trans c.sm, (e 2 (by decide)).trans c.bd, fun s hs => ?_, fun s t hs ht => ?_, fun s g hs hg => ?_, fun k hk => ?_, fun k p hk hp => ?_⟩
  · exact (e _ (by omega)).trans (c.b hs)
  · exact (e _ (by omega)).trans (c.g hs ht)
  · exact (e _ (by omega)).trans (c.w hs hg)
  · exact (e _ (by omega)).trans (c.n hk)
  · exact (e _ (by have := w.p hk; omega)).trans (c.s hk hp)
abbrev Hs : Type := Nat → Vw
def recH (H : Hs) (hn : Nat) (f : Vw) : Hs := if hn = 4 then (fun i => if i = 3 then f else H (i + 1)) else (fun i => if i = hn then f else H i)
def recN (hn : Nat) : Nat := if hn = 4 then 4 else hn + 1
def isM (b : Nat) : Prop := b = 11 ∨ b = 15 ∨ b = 19 ∨ b = 23
/-- the history of the class -/
def HC (H : Hs) (hn : Nat) (I : Iv) (P : Pv) : Prop := hn ≤ 4 ∧ I 9 1 = nI hn ∧ (∀ i, i < 4 → isM (P i)) ∧ (∀ i j, i < 4 → j < 4 → P i = P j → i = j) ∧ ∀ i, i < hn → RC (P i) (H i) I
/-- the history of the reference -/
def HR (H : Hs) (hn : Nat) (I : Iv) : Prop := hn ≤ 4 ∧ I 40 4 = nI hn ∧ ∀ i, i < hn → RR (fun j => I 43 (83 * i + j)) (H i)
def HW (H : Hs) (hn : Nat) : Prop := ∀ i, i < hn → Wf (H i)
theorem HW.rec {H : Hs} {hn : Nat} {f : Vw} (h : HW H hn) (w : Wf f) : HW (recH H hn f) (recN hn) := by
  intro i hi
  unfold recN at hi
  unfold recH
  by_cases e : hn = 4
  · rw [if_pos e] at hi ⊢
    by_cases q : i = 3
    · simpa [q] using w
    · simp only [q, if_false]
      exact h (i + 1) (by omega)
  · rw [if_neg e] at hi ⊢
    by_cases q : i = hn
    · simpa [q] using w
    · simp only [q, if_false]
      exact h i (by omega)
theorem isM_hs {b : Nat} (h : isM b) : b < 54 ∧ hs b = (0, 3) := by
  rcases h with e | e | e | e <;> subst e <;> exact ⟨by decide, rfl⟩
theorem HC.same {H : Hs} {hn : Nat} {I I1 : Iv} {P : Pv} (h : HC H hn I P) (e : ∀ a, 9 ≤ a → a ≤ 26 → I1 a = I a) : HC H hn I1 P := by
  obtain ⟨h1, h2, h3, h4, h5⟩ := h
  refine ⟨h1, by rw [e 9 (by decide) (by decide)]; exact h2, h3, h4, fun i hi => (h5 i hi).same (fun a ha hb => e a ?_ ?_)⟩
  · rcases h3 i (by omega) with q | q | q | q <;> omega
  · rcases h3 i (by omega) with q | q | q | q <;> omega
theorem isM_ap {a b : Nat} (ha : isM a) (hb : isM b) (h : a ≠ b) : a + 3 < b ∨ b + 3 < a := by
  rcases ha with e | e | e | e <;> rcases hb with q | q | q | q <;> omega
theorem HC_recA {H : Hs} {hn : Nat} {I Ic I1 : Iv} {P : Pv} {f : Vw} (hc : HC H hn I P) (w : Wf f) (c : RC 1 f I) (hn4 : hn ≠ 4) (fc : ∀ a, (a < P hn ∨ P hn + 3 < a) → Ic a = I a) (cc : CPY (P hn) 1 I Ic) (e : I1 = up2 Ic 9 1 (nI (hn + 1))) : HC (recH H hn f) (recN hn) I1 P := by
  obtain ⟨h1, h2, h3, h4, h5⟩ := hc
  have hm := h3 hn (by omega)
  refine ⟨by unfold recN; rw [if_neg hn4]; omega, ?_, h3, h4, fun i hi => ?_⟩
  · rw [e, recN, if_neg hn4]
    simp [up2]
  · rw [recN, if_neg hn4] at hi
    have mi := h3 i (by omega)
    have g1 : ∀ a, P i ≤ a → a ≤ P i + 3 → I1 a = Ic a := fun a q1 q2 => up2_row e (by rcases mi with q | q | q | q <;> omega)
    unfold recH
    rw [if_neg hn4]
    by_cases q : i = hn
    · subst q
      simp only [if_true]
      exact (cc.rc c w).same g1
    · simp only [q, if_false]
      refine (h5 i (by omega)).same (fun a q1 q2 => (g1 a q1 q2).trans (fc a ?_))
      have := isM_ap mi hm (fun z => q (h4 i hn (by omega) (by omega) z))
      omega
theorem HC_recB {H : Hs} {I Id Ic I1 : Iv} {P Pd : Pv} {f : Vw} (hc : HC H 4 I P) (w : Wf f) (c : RC 1 f I) (ed : Id = up2 I 9 1 (nI 3)) (p1 : ∀ i, i < 3 → Pd i = P (i + 1)) (p2 : Pd 3 = P 0) (fc : ∀ a, (a < P 0 ∨ P 0 + 3 < a) → Ic a = Id a) (cc : CPY (P 0) 1 Id Ic) (e : I1 = up2 Ic 9 1 (nI (3 + 1))) : HC (recH H 4 f) (recN 4) I1 Pd := by
  obtain ⟨h1, h2, h3, h4, h5⟩ := hc
  have hm := h3 0 (by decide)
  have c1 : RC 1 f Id := c.same (fun a q1 q2 => up2_row ed (by omega))
  have pd : ∀ i, i < 4 → (i = 3 ∧ Pd i = P 0) ∨ (i < 3 ∧ Pd i = P (i + 1)) := fun i hi => by
    by_cases q : i = 3
    · subst q
      exact Or.inl ⟨rfl, p2⟩
    · exact Or.inr ⟨by omega, p1 i (by omega)⟩
  refine ⟨Nat.le_refl 4, ?_, fun i hi => ?_, fun i j hi hj q => ?_, fun i hi => ?_⟩
  · rw [e]
    simp [up2, recN]
  · rcases pd i hi with ⟨-, q⟩ | ⟨q1, q⟩ <;> rw [q]
    · exact hm
    · exact h3 _ (by omega)
  · rcases pd i hi with ⟨a1, a2⟩ | ⟨a1, a2⟩ <;> rcases pd j hj with ⟨b1, b2⟩ | ⟨b1, b2⟩ <;> rw [a2, b2] at q
    · omega
    · have := h4 0 (j + 1) (by decide) (by omega) q
      omega
    · have := h4 (i + 1) 0 (by omega) (by decide) q
      omega
    · have := h4 (i + 1) (j + 1) (by omega) (by omega) q
      omega
  · have hi4 : i < 4 := hi
    unfold recH
    rw [if_pos rfl]
    rcases pd i hi4 with ⟨a1, a2⟩ | ⟨a1, a2⟩
    · simp only [a1, if_true]
      rw [← a1, a2]
      refine (cc.rc c1 w).same (fun a q1 q2 => up2_row e ?_)
      rcases hm with q | q | q | q <;> omega
    · simp only [show i ≠ 3 by omega, if_false]
      rw [a2]
      have mi := h3 (i + 1) (by omega)
      refine (h5 (i + 1) (by omega)).same (fun a q1 q2 => ?_)
      have ap := isM_ap mi hm (fun z => absurd (h4 (i + 1) 0 (by omega) (by decide) z) (by omega))
      have n9 : a ≠ 9 := by rcases mi with q | q | q | q <;> omega
      rw [up2_row e n9, fc a (by omega), up2_row ed n9]
theorem HC_take {H : Hs} {hn : Nat} {I Id I1 : Iv} {P : Pv} (hc : HC H (hn + 1) I P) (ed : Id = up2 I 9 1 (nI hn)) (fc : ∀ a, (a < 1 ∨ 1 + 3 < a) → I1 a = Id a) : HC H hn I1 P := by
  obtain ⟨h1, h2, h3, h4, h5⟩ := hc
  refine ⟨by omega, by rw [fc 9 (by omega)]; exact up2_at ed, h3, h4, fun i hi => ?_⟩
  have mi := h3 i (by omega)
  refine (h5 i (by omega)).same (fun a q1 q2 => ?_)
  have n9 : a ≠ 9 := by rcases mi with q | q | q | q <;> omega
  rw [fc a (by rcases mi with q | q | q | q <;> omega), up2_row ed n9]
