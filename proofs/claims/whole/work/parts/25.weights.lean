/-! a weight's place: in the view, in the class's rows -/
def pl (k s t : Nat) : Nat := if k = 0 then 3 + s else if k = 1 then 7 + 4 * s + t else 23 + 3 * s + t
def cl (k s t : Nat) : Nat := s * 8 + (if k = 0 then 0 else if k = 1 then 1 else 5) + t
def tg (n k : Nat) : Nat := if k = 0 then 1 else if k = 1 then n else 3
def fz (n k : Nat) : Nat := if k = 2 then 3 else n
def PC (f : Vw) (p c : Nat) : Prop := (∃ s, s < f 0 ∧ p = 3 + s ∧ c = s * 8) ∨ (∃ s t, s < f 0 ∧ t < f 0 ∧ p = 7 + 4 * s + t ∧ c = s * 8 + 1 + t) ∨ ∃ s t, s < f 0 ∧ t < 3 ∧ p = 23 + 3 * s + t ∧ c = s * 8 + 5 + t
theorem PC.of {f : Vw} {k s t : Nat} (hk : k < 3) (hs : s < f 0) (ht : t < tg (f 0) k) : PC f (pl k s t) (cl k s t) := by
  unfold tg at ht
  unfold pl cl
  rcases (show k = 0 ∨ k = 1 ∨ k = 2 by omega) with q | q | q <;> subst q
  · have h0 : t < 1 := ht
    exact Or.inl ⟨s, hs, rfl, by simp only [if_true]; omega⟩
  · have h0 : t < f 0 := ht
    exact Or.inr (Or.inl ⟨s, t, hs, h0, rfl, rfl⟩)
  · have h0 : t < 3 := ht
    exact Or.inr (Or.inr ⟨s, t, hs, h0, rfl, rfl⟩)
theorem PC.lt {f : Vw} {p c : Nat} (h : PC f p c) (w : Wf f) : 3 ≤ p ∧ p < 35 ∧ c < 32 := by
  have := w.n4
  rcases h with ⟨s, hs, e, e2⟩ | ⟨s, t, hs, ht, e, e2⟩ | ⟨s, t, hs, ht, e, e2⟩ <;> omega
theorem RC.at {b : Nat} {f : Vw} {I : Iv} {p c : Nat} (h : RC b f I) (hp : PC f p c) : I (b + 1) c = nI (f p) := by
  rcases hp with ⟨s, hs, e, e2⟩ | ⟨s, t, hs, ht, e, e2⟩ | ⟨s, t, hs, ht, e, e2⟩ <;> subst e <;> subst e2
  · exact h.b hs
  · exact h.g hs ht
  · exact h.w hs ht
theorem RR.at {f : Vw} {h : Nat → Int32} {p c : Nat} (r : RR h f) (hp : PC f p c) : h p = nI (f p) := by
  rcases hp with ⟨s, hs, e, e2⟩ | ⟨s, t, hs, ht, e, e2⟩ | ⟨s, t, hs, ht, e, e2⟩ <;> subst e <;> subst e2
  · exact r.b hs
  · exact r.g hs ht
  · exact r.w hs ht
theorem Wf.at {f : Vw} {p c : Nat} (w : Wf f) (hp : PC f p c) : f p ≤ 6 := by
  rcases hp with ⟨s, hs, e, e2⟩ | ⟨s, t, hs, ht, e, e2⟩ | ⟨s, t, hs, ht, e, e2⟩ <;> subst e <;> subst e2
  · exact w.b hs
  · exact w.g hs ht
  · exact w.w hs ht
theorem PC.inj {f : Vw} {p c p1 c1 : Nat} (w : Wf f) (h : PC f p c) (h1 : PC f p1 c1) : p = p1 ↔ c = c1 := by
  have := w.n4
  rcases h with ⟨s, hs, e, e2⟩ | ⟨s, t, hs, ht, e, e2⟩ | ⟨s, t, hs, ht, e, e2⟩ <;> rcases h1 with ⟨s1, hs1, e3, e4⟩ | ⟨s1, t1, hs1, ht1, e3, e4⟩ | ⟨s1, t1, hs1, ht1, e3, e4⟩ <;> omega
/-- a model is its numbers and its weights; so said for one place at a time -/
theorem RC.mk {b : Nat} {f : Vw} {I : Iv} (h1 : I b 1 = nI (f 0)) (h2 : I b 5 = nI (f 1)) (h3 : I b 2 = nI (f 2)) (h4 : ∀ p c, PC f p c → I (b + 1) c = nI (f p)) (h5 : ∀ k, k < f 1 → I (b + 2) k = nI (nP f k)) (h6 : ∀ k p, k < f 1 → p < nP f k → I (b + 3) (k * 7 + p) = nI (sG f k p)) : RC b f I :=
  ⟨h1, h2, h3, fun s hs => h4 (3 + s) (s * 8) (Or.inl ⟨s, hs, rfl, rfl⟩), fun s t hs ht => h4 _ _ (Or.inr (Or.inl ⟨s, t, hs, ht, rfl, rfl⟩)), fun s g hs hg => h4 _ _ (Or.inr (Or.inr ⟨s, g, hs, hg, rfl, rfl⟩)), h5, h6⟩
theorem RR.mk {f : Vw} {h : Nat → Int32} (h1 : h 0 = nI (f 0)) (h2 : h 1 = nI (f 1)) (h3 : h 2 = nI (f 2)) (h4 : ∀ p c, PC f p c → h p = nI (f p)) (h5 : ∀ k, k < f 1 → h (35 + 8 * k) = nI (nP f k)) (h6 : ∀ k p, k < f 1 → p < nP f k → h (35 + 8 * k + 1 + p) = nI (sG f k p)) : RR h f :=
  ⟨h1, h2, h3, fun s hs => h4 (3 + s) (s * 8) (Or.inl ⟨s, hs, rfl, rfl⟩), fun s t hs ht => h4 _ _ (Or.inr (Or.inl ⟨s, t, hs, ht, rfl, rfl⟩)), fun s g hs hg => h4 _ _ (Or.inr (Or.inr ⟨s, g, hs, hg, rfl, rfl⟩)), h5, h6⟩
theorem Wf.mk {f : Vw} (h1 : 1 ≤ f 0 ∧ f 0 ≤ 4) (h2 : f 1 ≤ 6) (h3 : 500 ≤ f 2 ∧ f 2 ≤ 1000) (h4 : ∀ p c, PC f p c → f p ≤ 6) (h5 : ∀ k, k < f 1 → 1 ≤ nP f k ∧ nP f k ≤ 7) (h6 : ∀ k p, k < f 1 → p < nP f k → sG f k p ≤ 2) : Wf f :=
  ⟨h1, h2, h3, fun s hs => h4 (3 + s) (s * 8) (Or.inl ⟨s, hs, rfl, rfl⟩), fun s t hs ht => h4 _ _ (Or.inr (Or.inl ⟨s, t, hs, ht, rfl, rfl⟩)), fun s g hs hg => h4 _ _ (Or.inr (Or.inr ⟨s, g, hs, hg, rfl, rfl⟩)), h5, h6⟩
theorem upf_at {f : Vw} {p v : Nat} : upf f p v p = v := by simp [upf]
theorem upf_ne {f : Vw} {p v q : Nat} (h : q ≠ p) : upf f p v q = f q := by simp [upf, h]
theorem PC.up {f : Vw} {p v q c : Nat} (hp : p ≠ 0) (h : PC (upf f p v) q c) : PC f q c := by
  unfold PC at h ⊢
  rw [upf_ne (Ne.symm hp)] at h
  exact h
theorem RC.setW {b : Nat} {f : Vw} {I I1 : Iv} {p c v : Nat} (r : RC b f I) (w : Wf f) (hp : PC f p c) (e : I1 = up2 I (b + 1) c (nI v)) : RC b (upf f p v) I1 := by
  have hl := hp.lt w
  refine RC.mk ?_ ?_ ?_ (fun q d hq => ?_) (fun k hk => ?_) (fun k j hk hj => ?_)
  · rw [upf_ne (by omega), up2_off e (by omega)]
    exact r.st
  · rw [upf_ne (by omega), up2_off e (by omega)]
    exact r.sm
  · rw [upf_ne (by omega), up2_off e (by omega)]
    exact r.bd
  · have hq1 := hq.up (by omega)
    have hi := PC.inj w hq1 hp
    by_cases z : q = p
    · rw [z, upf_at, hi.mp z]
      exact up2_at e
    · rw [upf_ne z, up2_off e (by have := fun y => z (hi.mpr y); omega)]
      exact r.at hq1
  · rw [upf_ne (by omega)] at hk
    rw [nP, upf_ne (by omega), up2_off e (by omega)]
    exact r.n hk
  · rw [upf_ne (by omega)] at hk
    rw [nP, upf_ne (by omega)] at hj
    rw [sG, upf_ne (by omega), up2_off e (by omega)]
    exact r.s hk hj
theorem RR.setW {f : Vw} {h h1 : Nat → Int32} {p c v : Nat} (r : RR h f) (w : Wf f) (hp : PC f p c) (e2 : h1 p = nI v) (e : ∀ j, j ≠ p → h1 j = h j) : RR h1 (upf f p v) := by
  have hl := hp.lt w
  refine RR.mk ?_ ?_ ?_ (fun q d hq => ?_) (fun k hk => ?_) (fun k j hk hj => ?_)
  · rw [upf_ne (by omega), e _ (by omega)]
    exact r.st
  · rw [upf_ne (by omega), e _ (by omega)]
    exact r.sm
  · rw [upf_ne (by omega), e _ (by omega)]
    exact r.bd
  · have hq1 := hq.up (by omega)
    by_cases z : q = p
    · rw [z, upf_at]
      exact e2
    · rw [upf_ne z, e _ z]
      exact r.at hq1
  · rw [upf_ne (by omega)] at hk
    rw [nP, upf_ne (by omega), e _ (by omega)]
    exact r.n hk
  · rw [upf_ne (by omega)] at hk
    rw [nP, upf_ne (by omega)] at hj
    rw [sG, upf_ne (by omega), e _ (by omega)]
    exact r.s hk hj
theorem Wf.setW {f : Vw} {p c v : Nat} (w : Wf f) (hp : PC f p c) (hv : v ≤ 6) : Wf (upf f p v) := by
  have hl := hp.lt w
  refine Wf.mk ?_ ?_ ?_ (fun q d hq => ?_) (fun k hk => ?_) (fun k j hk hj => ?_)
  · rw [upf_ne (by omega)]
    exact w.1
  · rw [upf_ne (by omega)]
    exact w.m6
  · rw [upf_ne (by omega)]
    exact w.2.2.1
  · have hq1 := hq.up (by omega)
    by_cases z : q = p
    · rw [z, upf_at]
      exact hv
    · rw [upf_ne z]
      exact w.at hq1
  · rw [upf_ne (by omega)] at hk
    rw [nP, upf_ne (by omega)]
    exact w.p hk
  · rw [upf_ne (by omega)] at hk
    rw [nP, upf_ne (by omega)] at hj
    rw [sG, upf_ne (by omega)]
    exact w.s hk hj
def pv (z s t : Int32) : Nat := pl (ix z) (ix s) (ix t)
abbrev noP (f : Vw) (z s t : Int32) : Prop := inb s (f 0) = 0 ∨ inb t (tg (f 0) (ix z)) = 0
def plA (f : Vw) (z s t : Int32) : Int32 := if inb z 3 = 0 then (-2) else if noP f z s t then (-1) else nI (pv z s t)
def wtA (f : Vw) (z s t v : Int32) : Int32 := if inb z 3 = 0 then (-2) else if noP f z s t then (-1) else if inb v 7 = 0 then (-2) else if f (pv z s t) = ix v then (-5) else nI (f (pv z s t))
def wtB (f : Vw) (z s t v : Int32) : Bool := if inb z 3 = 0 then false else if noP f z s t then false else if inb v 7 = 0 then false else if f (pv z s t) = ix v then false else true
theorem tg_lt {n k : Nat} (hn : n ≤ 4) : tg n k < 5 := by
  unfold tg
  split
  · omega
  · split <;> omega
theorem inb_3 {z : Int32} : inb z 3 = 0 ↔ z < 0 ∨ nI 2 < z := by
  unfold inb
  have h : nI 3 ≤ z ↔ nI 2 < z := by
    rw [Int32.le_iff_toInt_le, Int32.lt_iff_toInt_lt, nI_toInt (by decide), nI_toInt (by decide)]
    omega
  simp only [h]
  split
  · rename_i q
    exact ⟨fun _ => q, fun _ => rfl⟩
  · rename_i q
    exact ⟨fun e => absurd e (by decide), fun e => absurd e q⟩
theorem inb_7 {z : Int32} : inb z 7 = 0 ↔ z < 0 ∨ nI 6 < z := by
  unfold inb
  have h : nI 7 ≤ z ↔ nI 6 < z := by
    rw [Int32.le_iff_toInt_le, Int32.lt_iff_toInt_lt, nI_toInt (by decide), nI_toInt (by decide)]
    omega
  simp only [h]
  split
  · rename_i q
    exact ⟨fun _ => q, fun _ => rfl⟩
  · rename_i q
    exact ⟨fun e => absurd e (by decide), fun e => absurd e q⟩
theorem inr_02 {z : Int32} : inr z (nI 0) (nI 2) = inb z 3 := by
  have h : inr z (nI 0) (nI 2) = 0 ↔ inb z 3 = 0 := by
    rw [inb_3]
    unfold inr
    split
    · rename_i q
      exact ⟨fun _ => q, fun _ => rfl⟩
    · rename_i q
      exact ⟨fun e => absurd e (by decide), fun e => absurd e q⟩
  have := inb_lt z 3
  have := inr_lt z (nI 0) (nI 2)
  omega
theorem inr_06 {z : Int32} : inr z (nI 0) (nI 6) = inb z 7 := by
  have h : inr z (nI 0) (nI 6) = 0 ↔ inb z 7 = 0 := by
    rw [inb_7]
    unfold inr
    split
    · rename_i q
      exact ⟨fun _ => q, fun _ => rfl⟩
    · rename_i q
      exact ⟨fun e => absurd e (by decide), fun e => absurd e q⟩
  have := inb_lt z 7
  have := inr_lt z (nI 0) (nI 6)
  omega
theorem noP_ok {f : Vw} {k : Nat} {s t : Int32} (w : Wf f) (hk : k < 3) (h : ¬ noP f (nI k) s t) : ∃ i j, i < f 0 ∧ j < tg (f 0) k ∧ s = nI i ∧ t = nI j := by
  have h4 := w.n4
  have hg := tg_lt (k := k) h4
  unfold noP at h
  rw [ix_n (by omega)] at h
  obtain ⟨i, hi, e⟩ := inb_1 (z := s) (n := f 0) (by omega) (fun q => h (Or.inl q))
  obtain ⟨j, hj, e2⟩ := inb_1 (z := t) (n := tg (f 0) k) (by omega) (fun q => h (Or.inr q))
  exact ⟨i, j, hi, hj, e, e2⟩
theorem pv_n {k i j : Nat} (hk : k < 3) (hi : i < 4) (hj : j < 5) : pv (nI k) (nI i) (nI j) = pl k i j := by
  rw [pv, ix_n (by omega), ix_n (by omega), ix_n (by omega)]
set_option maxHeartbeats 4000000 in
theorem sp_X7_isKind {x : Cx} {Q : Qt} {I : Iv} {L : Lv} {P : Pv} {z : Int32} (hQ : Q (some (.int (nI (inb z 3)))) I L P) : SP x M_X7_isKind [.int (z)] I L P Q := by
  refine SP.intro [some (.int (z))] pn_X7_isKind (Nat.le_of_ble_eq_true rfl) rfl ?_
  refine v_iload_n 1 rfl dX7_isKind_0 rfl ?_
  refine v_if_lt 13 4 dX7_isKind_1 (by decide) rfl (fun h1 => ?_) (fun h1 => ?_)
  · skip
    refine v_iconst 14 (nI (0)) (by decide) dX7_isKind_13 rfl ?_
    refine v_zret rfl dX7_isKind_14 (by decide) ?_
    have hb := inb_lt z 3
    have ho := inb_3 (z := z)
    first
    | exact qI hQ (ho.mpr (Or.inl h1)).symm
    | exact qI hQ (ho.mpr (Or.inr h6)).symm
    | exact qI hQ (show 1 = inb z 3 by have := mt ho.mp (by rintro (q | q) <;> contradiction); omega)
  · skip
    refine v_iload_n 5 rfl dX7_isKind_4 rfl ?_
    refine v_iconst 6 (nI (2)) (by decide) dX7_isKind_5 rfl ?_
    refine v_icmp_gt 13 9 dX7_isKind_6 (by decide) rfl (fun h6 => ?_) (fun h6 => ?_)
    · skip
      refine v_iconst 14 (nI (0)) (by decide) dX7_isKind_13 rfl ?_
      refine v_zret rfl dX7_isKind_14 (by decide) ?_
      have hb := inb_lt z 3
      have ho := inb_3 (z := z)
      first
      | exact qI hQ (ho.mpr (Or.inl h1)).symm
      | exact qI hQ (ho.mpr (Or.inr h6)).symm
      | exact qI hQ (show 1 = inb z 3 by have := mt ho.mp (by rintro (q | q) <;> contradiction); omega)
    · skip
      refine v_iconst 10 (nI (1)) (by decide) dX7_isKind_9 rfl ?_
      refine v_goto 14 dX7_isKind_10 (by decide) ?_
      refine v_zret rfl dX7_isKind_14 (by decide) ?_
      have hb := inb_lt z 3
      have ho := inb_3 (z := z)
      first
      | exact qI hQ (ho.mpr (Or.inl h1)).symm
      | exact qI hQ (ho.mpr (Or.inr h6)).symm
      | exact qI hQ (show 1 = inb z 3 by have := mt ho.mp (by rintro (q | q) <;> contradiction); omega)
set_option maxHeartbeats 4000000 in
theorem sp_X3_familySize {x : Cx} {Q : Qt} {I : Iv} {L : Lv} {P : Pv} {f : Vw} (c : RC 1 f I) (w : Wf f) {k : Nat} (hk : k < 3) (hQ : Q (some (.int (nI (fz (f 0) k)))) I L P) : SP x M_X3_familySize [rfv x 1, .int (nI (k))] I L P Q := by
  have := w.n4
  have := w.m6
  refine SP.intro [some (rfv x 1), some (.int (nI (k)))] pn_X3_familySize (Nat.le_of_ble_eq_true rfl) rfl ?_
  refine v_iload_n 1 rfl dX3_familySize_0 rfl ?_
  refine v_iconst 2 (nI (2)) (by decide) dX3_familySize_1 rfl ?_
  refine v_icmpN_ne 9 5 dX3_familySize_2 (by decide) rfl (by omega) (by omega) (fun h2 => ?_) (fun h2 => ?_)
  · skip
    refine v_aload_n 10 rfl dX3_familySize_9 rfl ?_
    refine v_get 13 (k := 1) 3 (.int (nI (f 0))) (by decide) rfl (by decide) (by decide) dX3_familySize_10 rfl fl_X3_15 (congrArg Value.int c.st) ?_
    refine v_iret rfl dX3_familySize_13 ?_
    exact qI hQ (by simp only [fz]; split <;> first | rfl | omega)
  · skip
    refine v_iconst 6 (nI (3)) (by decide) dX3_familySize_5 rfl ?_
    refine v_goto 13 dX3_familySize_6 (by decide) ?_
    refine v_iret rfl dX3_familySize_13 ?_
    exact qI hQ (by simp only [fz]; split <;> first | rfl | omega)
set_option maxHeartbeats 4000000 in
theorem sp_X3_cellOf {x : Cx} {Q : Qt} {I : Iv} {L : Lv} {P : Pv} {k s t : Nat} (hk : k < 3) (hs : s < 4) (ht : t < 5) (hQ : Q (some (.int (nI (cl k s t)))) I L P) : SP x M_X3_cellOf [.int (nI (k)), .int (nI (s)), .int (nI (t))] I L P Q := by
  refine SP.intro [some (.int (nI (k))), some (.int (nI (s))), some (.int (nI (t))), none] pn_X3_cellOf (Nat.le_of_ble_eq_true rfl) rfl ?_
  refine v_iload_n 1 rfl dX3_cellOf_0 rfl ?_
  refine v_ifN_ne 8 4 dX3_cellOf_1 (by decide) rfl (by omega) (fun h1 => ?_) (fun h1 => ?_)
  · skip
    refine v_iload_n 9 rfl dX3_cellOf_8 rfl ?_
    refine v_iconst 10 (nI (1)) (by decide) dX3_cellOf_9 rfl ?_
    refine v_icmpN_ne 17 13 dX3_cellOf_10 (by decide) rfl (by omega) (by omega) (fun h10 => ?_) (fun h10 => ?_)
    · skip
      refine v_iconst 18 (nI (5)) (by decide) dX3_cellOf_17 rfl ?_
      refine v_istore_n 19 [some (.int (nI (k))), some (.int (nI (s))), some (.int (nI (t))), some (.int (nI (5)))] dX3_cellOf_18 rfl (by decide) rfl ?_
      refine v_iload_n 20 rfl dX3_cellOf_19 rfl ?_
      refine v_bipush 22 (nI (8)) (by decide) dX3_cellOf_20 rfl ?_
      refine v_imul 23 (nI (s * 8)) dX3_cellOf_22 rfl (pk_mul _ _) ?_
      refine v_iload_n 24 rfl dX3_cellOf_23 rfl ?_
      refine v_iadd 25 (nI ((s * 8) + 5)) dX3_cellOf_24 rfl (nI_add _ _) ?_
      refine v_iload_n 26 rfl dX3_cellOf_25 rfl ?_
      refine v_iadd 27 (nI (((s * 8) + 5) + t)) dX3_cellOf_26 rfl (nI_add _ _) ?_
      refine v_iret rfl dX3_cellOf_27 ?_
      exact qI hQ (by simp only [cl]; repeat (first | omega | split))
    · skip
      refine v_iconst 14 (nI (1)) (by decide) dX3_cellOf_13 rfl ?_
      refine v_goto 18 dX3_cellOf_14 (by decide) ?_
      refine v_istore_n 19 [some (.int (nI (k))), some (.int (nI (s))), some (.int (nI (t))), some (.int (nI (1)))] dX3_cellOf_18 rfl (by decide) rfl ?_
      refine v_iload_n 20 rfl dX3_cellOf_19 rfl ?_
      refine v_bipush 22 (nI (8)) (by decide) dX3_cellOf_20 rfl ?_
      refine v_imul 23 (nI (s * 8)) dX3_cellOf_22 rfl (pk_mul _ _) ?_
      refine v_iload_n 24 rfl dX3_cellOf_23 rfl ?_
      refine v_iadd 25 (nI ((s * 8) + 1)) dX3_cellOf_24 rfl (nI_add _ _) ?_
      refine v_iload_n 26 rfl dX3_cellOf_25 rfl ?_
      refine v_iadd 27 (nI (((s * 8) + 1) + t)) dX3_cellOf_26 rfl (nI_add _ _) ?_
      refine v_iret rfl dX3_cellOf_27 ?_
      exact qI hQ (by simp only [cl]; repeat (first | omega | split))
  · skip
    refine v_iconst 5 (nI (0)) (by decide) dX3_cellOf_4 rfl ?_
    refine v_goto 18 dX3_cellOf_5 (by decide) ?_
    refine v_istore_n 19 [some (.int (nI (k))), some (.int (nI (s))), some (.int (nI (t))), some (.int (nI (0)))] dX3_cellOf_18 rfl (by decide) rfl ?_
    refine v_iload_n 20 rfl dX3_cellOf_19 rfl ?_
    refine v_bipush 22 (nI (8)) (by decide) dX3_cellOf_20 rfl ?_
    refine v_imul 23 (nI (s * 8)) dX3_cellOf_22 rfl (pk_mul _ _) ?_
    refine v_iload_n 24 rfl dX3_cellOf_23 rfl ?_
    refine v_iadd 25 (nI ((s * 8) + 0)) dX3_cellOf_24 rfl (nI_add _ _) ?_
    refine v_iload_n 26 rfl dX3_cellOf_25 rfl ?_
    refine v_iadd 27 (nI (((s * 8) + 0) + t)) dX3_cellOf_26 rfl (nI_add _ _) ?_
    refine v_iret rfl dX3_cellOf_27 ?_
    exact qI hQ (by simp only [cl]; repeat (first | omega | split))
set_option maxHeartbeats 4000000 in
theorem sp_X3_hasWeight {x : Cx} {Q : Qt} {I : Iv} {L : Lv} {P : Pv} {f : Vw} (c : RC 1 f I) (w : Wf f) {k : Nat} {s t : Int32} (hk : k < 3) (hQ : Q (some (.int (nI (if noP f (nI k) s t then 0 else 1)))) I L P) : SP x M_X3_hasWeight [rfv x 1, .int (nI (k)), .int (s), .int (t)] I L P Q := by
  have := w.n4
  have := w.m6
  have hg := tg_lt (k := k) w.n4
  have ek : ix (nI k) = k := ix_n (by omega)
  refine SP.intro [some (rfv x 1), some (.int (nI (k))), some (.int (s)), some (.int (t)), none] pn_X3_hasWeight (Nat.le_of_ble_eq_true rfl) rfl ?_
  refine v_iload_n 1 rfl dX3_hasWeight_0 rfl ?_
  refine v_ifN_ne 8 4 dX3_hasWeight_1 (by decide) rfl (by omega) (fun h1 => ?_) (fun h1 => ?_)
  · skip
    refine v_aload_n 9 rfl dX3_hasWeight_8 rfl ?_
    refine v_iload_n 10 rfl dX3_hasWeight_9 rfl ?_
    refine v_invV 13 M_X3_familySize [.int (nI (k))] (by decide) rfl (by decide) rfl dX3_hasWeight_10 rfl ml_X3_41 im_X3_familySize se_X3_familySize mc_X3_familySize (by decide) (Nat.le_of_ble_eq_true rfl) (sp_X3_familySize c w hk ?_)
    have et : fz (f 0) k = tg (f 0) k := by
      unfold tg
      first
      | (rw [if_pos h1])
      | (unfold fz; rw [if_neg h1]; repeat (first | omega | split))
    refine v_istore 15 [some (rfv x 1), some (.int (nI (k))), some (.int (s)), some (.int (t)), some (.int (nI (fz (f 0) k)))] dX3_hasWeight_13 rfl (by decide) rfl ?_
    refine v_aload_n 16 rfl dX3_hasWeight_15 rfl ?_
    refine v_iload_n 17 rfl dX3_hasWeight_16 rfl ?_
    refine v_invV 20 M_X3_hasState [.int (s)] (by decide) rfl (by decide) rfl dX3_hasWeight_17 rfl ml_X3_45 im_X3_hasState se_X3_hasState mc_X3_hasState (by decide) (Nat.le_of_ble_eq_true rfl) (sp_X3_hasState c w ?_)
    refine v_ifN_eq 37 23 dX3_hasWeight_20 (by decide) rfl (by have := inb_lt s (f 0); omega) (fun h20 => ?_) (fun h20 => ?_)
    · skip
      refine v_iconst 38 (nI (0)) (by decide) dX3_hasWeight_37 rfl ?_
      refine v_zret rfl dX3_hasWeight_38 (by decide) ?_
      first
      | exact qI hQ (if_pos (Or.inl h20)).symm
      | exact qI hQ (if_pos (Or.inr (by rw [ek, ← et]; exact inb_out (Or.inl h24)))).symm
      | exact qI hQ (if_pos (Or.inr (by rw [ek, ← et]; exact inb_out (Or.inr (Int32.not_lt.mp h30))))).symm
      | exact qI hQ (if_pos (Or.inr (by rw [ek, ← et]; exact inb_out (Or.inr h30)))).symm
      | exact qI hQ (if_neg (by
          rintro (q | q)
          · exact h20 q
          · rw [ek, ← et, inb, if_neg (by rintro (y | y) <;> contradiction)] at q
            exact absurd q (by decide))).symm
      | exact qI hQ (if_neg (by
          rintro (q | q)
          · exact h20 q
          · rw [ek, ← et, inb, if_neg (by rintro (y | y); exact h24 y; exact absurd h30 (Int32.not_lt.mpr y))] at q
            exact absurd q (by decide))).symm
    · skip
      refine v_iload_n 24 rfl dX3_hasWeight_23 rfl ?_
      refine v_if_lt 37 27 dX3_hasWeight_24 (by decide) rfl (fun h24 => ?_) (fun h24 => ?_)
      · skip
        refine v_iconst 38 (nI (0)) (by decide) dX3_hasWeight_37 rfl ?_
        refine v_zret rfl dX3_hasWeight_38 (by decide) ?_
        first
        | exact qI hQ (if_pos (Or.inl h20)).symm
        | exact qI hQ (if_pos (Or.inr (by rw [ek, ← et]; exact inb_out (Or.inl h24)))).symm
        | exact qI hQ (if_pos (Or.inr (by rw [ek, ← et]; exact inb_out (Or.inr (Int32.not_lt.mp h30))))).symm
        | exact qI hQ (if_pos (Or.inr (by rw [ek, ← et]; exact inb_out (Or.inr h30)))).symm
        | exact qI hQ (if_neg (by
            rintro (q | q)
            · exact h20 q
            · rw [ek, ← et, inb, if_neg (by rintro (y | y) <;> contradiction)] at q
              exact absurd q (by decide))).symm
        | exact qI hQ (if_neg (by
            rintro (q | q)
            · exact h20 q
            · rw [ek, ← et, inb, if_neg (by rintro (y | y); exact h24 y; exact absurd h30 (Int32.not_lt.mpr y))] at q
              exact absurd q (by decide))).symm
      · skip
        refine v_iload_n 28 rfl dX3_hasWeight_27 rfl ?_
        refine v_iload 30 rfl dX3_hasWeight_28 rfl ?_
        refine v_icmp_ge 37 33 dX3_hasWeight_30 (by decide) rfl (fun h30 => ?_) (fun h30 => ?_)
        · skip
          refine v_iconst 38 (nI (0)) (by decide) dX3_hasWeight_37 rfl ?_
          refine v_zret rfl dX3_hasWeight_38 (by decide) ?_
          first
          | exact qI hQ (if_pos (Or.inl h20)).symm
          | exact qI hQ (if_pos (Or.inr (by rw [ek, ← et]; exact inb_out (Or.inl h24)))).symm
          | exact qI hQ (if_pos (Or.inr (by rw [ek, ← et]; exact inb_out (Or.inr (Int32.not_lt.mp h30))))).symm
          | exact qI hQ (if_pos (Or.inr (by rw [ek, ← et]; exact inb_out (Or.inr h30)))).symm
          | exact qI hQ (if_neg (by
              rintro (q | q)
              · exact h20 q
              · rw [ek, ← et, inb, if_neg (by rintro (y | y) <;> contradiction)] at q
                exact absurd q (by decide))).symm
          | exact qI hQ (if_neg (by
              rintro (q | q)
              · exact h20 q
              · rw [ek, ← et, inb, if_neg (by rintro (y | y); exact h24 y; exact absurd h30 (Int32.not_lt.mpr y))] at q
                exact absurd q (by decide))).symm
        · skip
          refine v_iconst 34 (nI (1)) (by decide) dX3_hasWeight_33 rfl ?_
          refine v_goto 38 dX3_hasWeight_34 (by decide) ?_
          refine v_zret rfl dX3_hasWeight_38 (by decide) ?_
          first
          | exact qI hQ (if_pos (Or.inl h20)).symm
          | exact qI hQ (if_pos (Or.inr (by rw [ek, ← et]; exact inb_out (Or.inl h24)))).symm
          | exact qI hQ (if_pos (Or.inr (by rw [ek, ← et]; exact inb_out (Or.inr (Int32.not_lt.mp h30))))).symm
          | exact qI hQ (if_pos (Or.inr (by rw [ek, ← et]; exact inb_out (Or.inr h30)))).symm
          | exact qI hQ (if_neg (by
              rintro (q | q)
              · exact h20 q
              · rw [ek, ← et, inb, if_neg (by rintro (y | y) <;> contradiction)] at q
                exact absurd q (by decide))).symm
          | exact qI hQ (if_neg (by
              rintro (q | q)
              · exact h20 q
              · rw [ek, ← et, inb, if_neg (by rintro (y | y); exact h24 y; exact absurd h30 (Int32.not_lt.mpr y))] at q
                exact absurd q (by decide))).symm
  · skip
    refine v_iconst 5 (nI (1)) (by decide) dX3_hasWeight_4 rfl ?_
    refine v_goto 13 dX3_hasWeight_5 (by decide) ?_
    have et : 1 = tg (f 0) k := by
      unfold tg
      first
      | (rw [if_pos h1])
      | (unfold fz; rw [if_neg h1]; repeat (first | omega | split))
    refine v_istore 15 [some (rfv x 1), some (.int (nI (k))), some (.int (s)), some (.int (t)), some (.int (nI (1)))] dX3_hasWeight_13 rfl (by decide) rfl ?_
    refine v_aload_n 16 rfl dX3_hasWeight_15 rfl ?_
    refine v_iload_n 17 rfl dX3_hasWeight_16 rfl ?_
    refine v_invV 20 M_X3_hasState [.int (s)] (by decide) rfl (by decide) rfl dX3_hasWeight_17 rfl ml_X3_45 im_X3_hasState se_X3_hasState mc_X3_hasState (by decide) (Nat.le_of_ble_eq_true rfl) (sp_X3_hasState c w ?_)
    refine v_ifN_eq 37 23 dX3_hasWeight_20 (by decide) rfl (by have := inb_lt s (f 0); omega) (fun h20 => ?_) (fun h20 => ?_)
    · skip
      refine v_iconst 38 (nI (0)) (by decide) dX3_hasWeight_37 rfl ?_
      refine v_zret rfl dX3_hasWeight_38 (by decide) ?_
      first
      | exact qI hQ (if_pos (Or.inl h20)).symm
      | exact qI hQ (if_pos (Or.inr (by rw [ek, ← et]; exact inb_out (Or.inl h24)))).symm
      | exact qI hQ (if_pos (Or.inr (by rw [ek, ← et]; exact inb_out (Or.inr (Int32.not_lt.mp h30))))).symm
      | exact qI hQ (if_pos (Or.inr (by rw [ek, ← et]; exact inb_out (Or.inr h30)))).symm
      | exact qI hQ (if_neg (by
          rintro (q | q)
          · exact h20 q
          · rw [ek, ← et, inb, if_neg (by rintro (y | y) <;> contradiction)] at q
            exact absurd q (by decide))).symm
      | exact qI hQ (if_neg (by
          rintro (q | q)
          · exact h20 q
          · rw [ek, ← et, inb, if_neg (by rintro (y | y); exact h24 y; exact absurd h30 (Int32.not_lt.mpr y))] at q
            exact absurd q (by decide))).symm
    · skip
      refine v_iload_n 24 rfl dX3_hasWeight_23 rfl ?_
      refine v_if_lt 37 27 dX3_hasWeight_24 (by decide) rfl (fun h24 => ?_) (fun h24 => ?_)
      · skip
        refine v_iconst 38 (nI (0)) (by decide) dX3_hasWeight_37 rfl ?_
        refine v_zret rfl dX3_hasWeight_38 (by decide) ?_
        first
        | exact qI hQ (if_pos (Or.inl h20)).symm
        | exact qI hQ (if_pos (Or.inr (by rw [ek, ← et]; exact inb_out (Or.inl h24)))).symm
        | exact qI hQ (if_pos (Or.inr (by rw [ek, ← et]; exact inb_out (Or.inr (Int32.not_lt.mp h30))))).symm
        | exact qI hQ (if_pos (Or.inr (by rw [ek, ← et]; exact inb_out (Or.inr h30)))).symm
        | exact qI hQ (if_neg (by
            rintro (q | q)
            · exact h20 q
            · rw [ek, ← et, inb, if_neg (by rintro (y | y) <;> contradiction)] at q
              exact absurd q (by decide))).symm
        | exact qI hQ (if_neg (by
            rintro (q | q)
            · exact h20 q
            · rw [ek, ← et, inb, if_neg (by rintro (y | y); exact h24 y; exact absurd h30 (Int32.not_lt.mpr y))] at q
              exact absurd q (by decide))).symm
      · skip
        refine v_iload_n 28 rfl dX3_hasWeight_27 rfl ?_
        refine v_iload 30 rfl dX3_hasWeight_28 rfl ?_
        refine v_icmp_ge 37 33 dX3_hasWeight_30 (by decide) rfl (fun h30 => ?_) (fun h30 => ?_)
        · skip
          refine v_iconst 38 (nI (0)) (by decide) dX3_hasWeight_37 rfl ?_
          refine v_zret rfl dX3_hasWeight_38 (by decide) ?_
          first
          | exact qI hQ (if_pos (Or.inl h20)).symm
          | exact qI hQ (if_pos (Or.inr (by rw [ek, ← et]; exact inb_out (Or.inl h24)))).symm
          | exact qI hQ (if_pos (Or.inr (by rw [ek, ← et]; exact inb_out (Or.inr (Int32.not_lt.mp h30))))).symm
          | exact qI hQ (if_pos (Or.inr (by rw [ek, ← et]; exact inb_out (Or.inr h30)))).symm
          | exact qI hQ (if_neg (by
              rintro (q | q)
              · exact h20 q
              · rw [ek, ← et, inb, if_neg (by rintro (y | y) <;> contradiction)] at q
                exact absurd q (by decide))).symm
          | exact qI hQ (if_neg (by
              rintro (q | q)
              · exact h20 q
              · rw [ek, ← et, inb, if_neg (by rintro (y | y); exact h24 y; exact absurd h30 (Int32.not_lt.mpr y))] at q
                exact absurd q (by decide))).symm
        · skip
          refine v_iconst 34 (nI (1)) (by decide) dX3_hasWeight_33 rfl ?_
          refine v_goto 38 dX3_hasWeight_34 (by decide) ?_
          refine v_zret rfl dX3_hasWeight_38 (by decide) ?_
          first
          | exact qI hQ (if_pos (Or.inl h20)).symm
          | exact qI hQ (if_pos (Or.inr (by rw [ek, ← et]; exact inb_out (Or.inl h24)))).symm
          | exact qI hQ (if_pos (Or.inr (by rw [ek, ← et]; exact inb_out (Or.inr (Int32.not_lt.mp h30))))).symm
          | exact qI hQ (if_pos (Or.inr (by rw [ek, ← et]; exact inb_out (Or.inr h30)))).symm
          | exact qI hQ (if_neg (by
              rintro (q | q)
              · exact h20 q
              · rw [ek, ← et, inb, if_neg (by rintro (y | y) <;> contradiction)] at q
                exact absurd q (by decide))).symm
          | exact qI hQ (if_neg (by
              rintro (q | q)
              · exact h20 q
              · rw [ek, ← et, inb, if_neg (by rintro (y | y); exact h24 y; exact absurd h30 (Int32.not_lt.mpr y))] at q
                exact absurd q (by decide))).symm
theorem inb1_eq {t : Int32} (q : ¬ (t < 0 ∨ nI 1 ≤ t)) : t = 0 := by
  have h : inb t 1 ≠ 0 := by
    rw [inb, if_neg q]
    decide
  obtain ⟨j, hj, e⟩ := inb_1 (by decide) h
  rw [e, show j = 0 by omega]
  rfl
set_option maxHeartbeats 4000000 in
theorem sp_X8_placeOf {x : Cx} {Q : Qt} {I : Iv} {L : Lv} {P : Pv} {f : Vw} (r : RR (I 41) f) (w : Wf f) {z s t y : Int32} (hy : plA f z s t = y) (hQ : Q (some (.int y)) I L P) : SP x M_X8_placeOf [rfv x 40, .int (z), .int (s), .int (t)] I L P Q := by
  subst hy
  have := w.n4
  have := w.n1
  refine SP.intro [some (rfv x 40), some (.int (z)), some (.int (s)), some (.int (t)), none] pn_X8_placeOf (Nat.le_of_ble_eq_true rfl) rfl ?_
  refine v_iload_n 1 rfl dX8_placeOf_0 rfl ?_
  refine v_iconst 2 (nI (0)) (by decide) dX8_placeOf_1 rfl ?_
  refine v_iconst 3 (nI (2)) (by decide) dX8_placeOf_2 rfl ?_
  refine v_invT 6 M_X8_in [.int (z), .int (nI (0)), .int (nI (2))] dX8_placeOf_3 rfl ml_X8_58 sm_X8_in mc_X8_in (by decide) (Nat.le_of_ble_eq_true rfl) (sp_X8_in ?_)
  refine v_ifN_ne 12 9 dX8_placeOf_6 (by decide) rfl (by have := inr_lt z (nI 0) (nI 2); omega) (fun h6 => ?_) (fun h6 => ?_)
  · skip
    have hb : inb z 3 ≠ 0 := fun q => h6 (inr_02.trans q)
    obtain ⟨k, hk, ez⟩ := inb_1 (by decide) hb
    subst ez
    have ek : ix (nI k) = k := ix_n (by omega)
    have hg := tg_lt (k := k) w.n4
    refine v_iload_n 13 rfl dX8_placeOf_12 rfl ?_
    refine v_ifN_ne 28 16 dX8_placeOf_13 (by decide) rfl (by omega) (fun h13 => ?_) (fun h13 => ?_)
    · skip
      refine v_iload_n 29 rfl dX8_placeOf_28 rfl ?_
      refine v_iconst 30 (nI (1)) (by decide) dX8_placeOf_29 rfl ?_
      refine v_icmpN_ne 41 33 dX8_placeOf_30 (by decide) rfl (by omega) (by omega) (fun h30 => ?_) (fun h30 => ?_)
      · skip
        refine v_iload_n 42 rfl dX8_placeOf_41 rfl ?_
        refine v_iconst 43 (nI (0)) (by decide) dX8_placeOf_42 rfl ?_
        refine v_iconst 44 (nI (2)) (by decide) dX8_placeOf_43 rfl ?_
        refine v_invT 47 M_X8_in [.int (t), .int (nI (0)), .int (nI (2))] dX8_placeOf_44 rfl ml_X8_58 sm_X8_in mc_X8_in (by decide) (Nat.le_of_ble_eq_true rfl) (sp_X8_in ?_)
        have et : inr (t) (nI (0)) (nI (2)) = inb t (tg (f 0) k) := by
          unfold tg
          first
          | (rw [if_pos h13, h17]; decide +kernel)
          | (rw [if_pos h13, inb_out (n := 1) (Classical.byContradiction fun q => h17 (inb1_eq q))])
          | (rw [if_neg h13, if_pos h30])
          | (rw [if_neg h13, if_neg h30]; exact inr_02)
        have hl : inr (t) (nI (0)) (nI (2)) < 2 := et ▸ inb_lt t (tg (f 0) k)
        refine v_istore 49 [some (rfv x 40), some (.int (nI (k))), some (.int (s)), some (.int (t)), some (.int (nI (inr (t) (nI (0)) (nI (2)))))] dX8_placeOf_47 rfl (by decide) rfl ?_
        refine v_aload_n 50 rfl dX8_placeOf_49 rfl ?_
        refine v_iload_n 51 rfl dX8_placeOf_50 rfl ?_
        refine v_invV 54 M_X8_isState [.int (s)] (by decide) rfl (by decide) rfl dX8_placeOf_51 rfl ml_X8_97 im_X8_isState se_X8_isState mc_X8_isState (by decide) (Nat.le_of_ble_eq_true rfl) (sp_X8_isState r w ?_)
        refine v_ifN_eq 62 57 dX8_placeOf_54 (by decide) rfl (by have := inb_lt s (f 0); omega) (fun h54 => ?_) (fun h54 => ?_)
        · skip
          refine v_iconst 63 ((-1)) (by decide) dX8_placeOf_62 rfl ?_
          refine v_iret rfl dX8_placeOf_63 ?_
          have hn : noP f (nI k) s t := by
            first
            | exact Or.inl h54
            | (refine Or.inr ?_; rw [ek, ← et]; done)
            | (refine Or.inr ?_; rw [ek, ← et]; exact h59)
          refine qZ hQ ?_
          rw [plA, if_neg hb, if_pos hn]
        · skip
          refine v_iload 59 rfl dX8_placeOf_57 rfl ?_
          refine v_ifN_ne 64 62 dX8_placeOf_59 (by decide) rfl (by omega) (fun h59 => ?_) (fun h59 => ?_)
          · skip
            have hn : ¬ noP f (nI k) s t := by
              rintro (q | q)
              · exact h54 q
              · rw [ek, ← et] at q
                first | exact h59 q | exact absurd q (by decide)
            obtain ⟨i, j, hi, hj, es, ej⟩ := noP_ok w hk hn
            subst es
            subst ej
            have ep : plA f (nI k) (nI i) (nI j) = nI (pl k i j) := by
              rw [plA, if_neg hb, if_neg hn, pv_n hk (by omega) (by omega)]
            refine v_iload_n 65 rfl dX8_placeOf_64 rfl ?_
            refine v_ifN_ne 74 68 dX8_placeOf_65 (by decide) rfl (by omega) (fun h65 => ?_) (fun h65 => ?_)
            · skip
              refine v_iload_n 75 rfl dX8_placeOf_74 rfl ?_
              refine v_iconst 76 (nI (1)) (by decide) dX8_placeOf_75 rfl ?_
              refine v_icmpN_ne 90 79 dX8_placeOf_76 (by decide) rfl (by omega) (by omega) (fun h76 => ?_) (fun h76 => ?_)
              · skip
                refine v_bipush 92 (nI (23)) (by decide) dX8_placeOf_90 rfl ?_
                refine v_iconst 93 (nI (3)) (by decide) dX8_placeOf_92 rfl ?_
                refine v_iload_n 94 rfl dX8_placeOf_93 rfl ?_
                refine v_imul 95 (nI (3 * i)) dX8_placeOf_94 rfl (pk_mul _ _) ?_
                refine v_iadd 96 (nI (23 + (3 * i))) dX8_placeOf_95 rfl (nI_add _ _) ?_
                refine v_iload_n 97 rfl dX8_placeOf_96 rfl ?_
                refine v_iadd 98 (nI ((23 + (3 * i)) + j)) dX8_placeOf_97 rfl (nI_add _ _) ?_
                refine v_iret rfl dX8_placeOf_98 ?_
                rw [ep] at hQ
                exact qI hQ (by simp only [pl]; repeat (first | omega | split))
              · skip
                refine v_bipush 81 (nI (7)) (by decide) dX8_placeOf_79 rfl ?_
                refine v_iconst 82 (nI (4)) (by decide) dX8_placeOf_81 rfl ?_
                refine v_iload_n 83 rfl dX8_placeOf_82 rfl ?_
                refine v_imul 84 (nI (4 * i)) dX8_placeOf_83 rfl (pk_mul _ _) ?_
                refine v_iadd 85 (nI (7 + (4 * i))) dX8_placeOf_84 rfl (nI_add _ _) ?_
                refine v_iload_n 86 rfl dX8_placeOf_85 rfl ?_
                refine v_iadd 87 (nI ((7 + (4 * i)) + j)) dX8_placeOf_86 rfl (nI_add _ _) ?_
                refine v_goto 98 dX8_placeOf_87 (by decide) ?_
                refine v_iret rfl dX8_placeOf_98 ?_
                rw [ep] at hQ
                exact qI hQ (by simp only [pl]; repeat (first | omega | split))
            · skip
              refine v_iconst 69 (nI (3)) (by decide) dX8_placeOf_68 rfl ?_
              refine v_iload_n 70 rfl dX8_placeOf_69 rfl ?_
              refine v_iadd 71 (nI (3 + i)) dX8_placeOf_70 rfl (nI_add _ _) ?_
              refine v_goto 98 dX8_placeOf_71 (by decide) ?_
              refine v_iret rfl dX8_placeOf_98 ?_
              rw [ep] at hQ
              exact qI hQ (by simp only [pl]; repeat (first | omega | split))
          · skip
            refine v_iconst 63 ((-1)) (by decide) dX8_placeOf_62 rfl ?_
            refine v_iret rfl dX8_placeOf_63 ?_
            have hn : noP f (nI k) s t := by
              first
              | exact Or.inl h54
              | (refine Or.inr ?_; rw [ek, ← et]; done)
              | (refine Or.inr ?_; rw [ek, ← et]; exact h59)
            refine qZ hQ ?_
            rw [plA, if_neg hb, if_pos hn]
      · skip
        refine v_aload_n 34 rfl dX8_placeOf_33 rfl ?_
        refine v_iload_n 35 rfl dX8_placeOf_34 rfl ?_
        refine v_invV 38 M_X8_isState [.int (t)] (by decide) rfl (by decide) rfl dX8_placeOf_35 rfl ml_X8_97 im_X8_isState se_X8_isState mc_X8_isState (by decide) (Nat.le_of_ble_eq_true rfl) (sp_X8_isState r w ?_)
        refine v_goto 47 dX8_placeOf_38 (by decide) ?_
        have et : inb (t) (f 0) = inb t (tg (f 0) k) := by
          unfold tg
          first
          | (rw [if_pos h13, h17]; decide +kernel)
          | (rw [if_pos h13, inb_out (n := 1) (Classical.byContradiction fun q => h17 (inb1_eq q))])
          | (rw [if_neg h13, if_pos h30])
          | (rw [if_neg h13, if_neg h30]; exact inr_02)
        have hl : inb (t) (f 0) < 2 := et ▸ inb_lt t (tg (f 0) k)
        refine v_istore 49 [some (rfv x 40), some (.int (nI (k))), some (.int (s)), some (.int (t)), some (.int (nI (inb (t) (f 0))))] dX8_placeOf_47 rfl (by decide) rfl ?_
        refine v_aload_n 50 rfl dX8_placeOf_49 rfl ?_
        refine v_iload_n 51 rfl dX8_placeOf_50 rfl ?_
        refine v_invV 54 M_X8_isState [.int (s)] (by decide) rfl (by decide) rfl dX8_placeOf_51 rfl ml_X8_97 im_X8_isState se_X8_isState mc_X8_isState (by decide) (Nat.le_of_ble_eq_true rfl) (sp_X8_isState r w ?_)
        refine v_ifN_eq 62 57 dX8_placeOf_54 (by decide) rfl (by have := inb_lt s (f 0); omega) (fun h54 => ?_) (fun h54 => ?_)
        · skip
          refine v_iconst 63 ((-1)) (by decide) dX8_placeOf_62 rfl ?_
          refine v_iret rfl dX8_placeOf_63 ?_
          have hn : noP f (nI k) s t := by
            first
            | exact Or.inl h54
            | (refine Or.inr ?_; rw [ek, ← et]; done)
            | (refine Or.inr ?_; rw [ek, ← et]; exact h59)
          refine qZ hQ ?_
          rw [plA, if_neg hb, if_pos hn]
        · skip
          refine v_iload 59 rfl dX8_placeOf_57 rfl ?_
          refine v_ifN_ne 64 62 dX8_placeOf_59 (by decide) rfl (by omega) (fun h59 => ?_) (fun h59 => ?_)
          · skip
            have hn : ¬ noP f (nI k) s t := by
              rintro (q | q)
              · exact h54 q
              · rw [ek, ← et] at q
                first | exact h59 q | exact absurd q (by decide)
            obtain ⟨i, j, hi, hj, es, ej⟩ := noP_ok w hk hn
            subst es
            subst ej
            have ep : plA f (nI k) (nI i) (nI j) = nI (pl k i j) := by
              rw [plA, if_neg hb, if_neg hn, pv_n hk (by omega) (by omega)]
            refine v_iload_n 65 rfl dX8_placeOf_64 rfl ?_
            refine v_ifN_ne 74 68 dX8_placeOf_65 (by decide) rfl (by omega) (fun h65 => ?_) (fun h65 => ?_)
            · skip
              refine v_iload_n 75 rfl dX8_placeOf_74 rfl ?_
              refine v_iconst 76 (nI (1)) (by decide) dX8_placeOf_75 rfl ?_
              refine v_icmpN_ne 90 79 dX8_placeOf_76 (by decide) rfl (by omega) (by omega) (fun h76 => ?_) (fun h76 => ?_)
              · skip
                refine v_bipush 92 (nI (23)) (by decide) dX8_placeOf_90 rfl ?_
                refine v_iconst 93 (nI (3)) (by decide) dX8_placeOf_92 rfl ?_
                refine v_iload_n 94 rfl dX8_placeOf_93 rfl ?_
                refine v_imul 95 (nI (3 * i)) dX8_placeOf_94 rfl (pk_mul _ _) ?_
                refine v_iadd 96 (nI (23 + (3 * i))) dX8_placeOf_95 rfl (nI_add _ _) ?_
                refine v_iload_n 97 rfl dX8_placeOf_96 rfl ?_
                refine v_iadd 98 (nI ((23 + (3 * i)) + j)) dX8_placeOf_97 rfl (nI_add _ _) ?_
                refine v_iret rfl dX8_placeOf_98 ?_
                rw [ep] at hQ
                exact qI hQ (by simp only [pl]; repeat (first | omega | split))
              · skip
                refine v_bipush 81 (nI (7)) (by decide) dX8_placeOf_79 rfl ?_
                refine v_iconst 82 (nI (4)) (by decide) dX8_placeOf_81 rfl ?_
                refine v_iload_n 83 rfl dX8_placeOf_82 rfl ?_
                refine v_imul 84 (nI (4 * i)) dX8_placeOf_83 rfl (pk_mul _ _) ?_
                refine v_iadd 85 (nI (7 + (4 * i))) dX8_placeOf_84 rfl (nI_add _ _) ?_
                refine v_iload_n 86 rfl dX8_placeOf_85 rfl ?_
                refine v_iadd 87 (nI ((7 + (4 * i)) + j)) dX8_placeOf_86 rfl (nI_add _ _) ?_
                refine v_goto 98 dX8_placeOf_87 (by decide) ?_
                refine v_iret rfl dX8_placeOf_98 ?_
                rw [ep] at hQ
                exact qI hQ (by simp only [pl]; repeat (first | omega | split))
            · skip
              refine v_iconst 69 (nI (3)) (by decide) dX8_placeOf_68 rfl ?_
              refine v_iload_n 70 rfl dX8_placeOf_69 rfl ?_
              refine v_iadd 71 (nI (3 + i)) dX8_placeOf_70 rfl (nI_add _ _) ?_
              refine v_goto 98 dX8_placeOf_71 (by decide) ?_
              refine v_iret rfl dX8_placeOf_98 ?_
              rw [ep] at hQ
              exact qI hQ (by simp only [pl]; repeat (first | omega | split))
          · skip
            refine v_iconst 63 ((-1)) (by decide) dX8_placeOf_62 rfl ?_
            refine v_iret rfl dX8_placeOf_63 ?_
            have hn : noP f (nI k) s t := by
              first
              | exact Or.inl h54
              | (refine Or.inr ?_; rw [ek, ← et]; done)
              | (refine Or.inr ?_; rw [ek, ← et]; exact h59)
            refine qZ hQ ?_
            rw [plA, if_neg hb, if_pos hn]
    · skip
      refine v_iload_n 17 rfl dX8_placeOf_16 rfl ?_
      refine v_if_ne 24 20 dX8_placeOf_17 (by decide) rfl (fun h17 => ?_) (fun h17 => ?_)
      · skip
        refine v_iconst 25 (nI (0)) (by decide) dX8_placeOf_24 rfl ?_
        refine v_goto 47 dX8_placeOf_25 (by decide) ?_
        have et : 0 = inb t (tg (f 0) k) := by
          unfold tg
          first
          | (rw [if_pos h13, h17]; decide +kernel)
          | (rw [if_pos h13, inb_out (n := 1) (Classical.byContradiction fun q => h17 (inb1_eq q))])
          | (rw [if_neg h13, if_pos h30])
          | (rw [if_neg h13, if_neg h30]; exact inr_02)
        have hl : 0 < 2 := et ▸ inb_lt t (tg (f 0) k)
        refine v_istore 49 [some (rfv x 40), some (.int (nI (k))), some (.int (s)), some (.int (t)), some (.int (nI (0)))] dX8_placeOf_47 rfl (by decide) rfl ?_
        refine v_aload_n 50 rfl dX8_placeOf_49 rfl ?_
        refine v_iload_n 51 rfl dX8_placeOf_50 rfl ?_
        refine v_invV 54 M_X8_isState [.int (s)] (by decide) rfl (by decide) rfl dX8_placeOf_51 rfl ml_X8_97 im_X8_isState se_X8_isState mc_X8_isState (by decide) (Nat.le_of_ble_eq_true rfl) (sp_X8_isState r w ?_)
        refine v_ifN_eq 62 57 dX8_placeOf_54 (by decide) rfl (by have := inb_lt s (f 0); omega) (fun h54 => ?_) (fun h54 => ?_)
        · skip
          refine v_iconst 63 ((-1)) (by decide) dX8_placeOf_62 rfl ?_
          refine v_iret rfl dX8_placeOf_63 ?_
          have hn : noP f (nI k) s t := by
            first
            | exact Or.inl h54
            | (refine Or.inr ?_; rw [ek, ← et]; done)
            | (refine Or.inr ?_; rw [ek, ← et]; exact h59)
          refine qZ hQ ?_
          rw [plA, if_neg hb, if_pos hn]
        · skip
          refine v_iload 59 rfl dX8_placeOf_57 rfl ?_
          refine v_ifN_ne 64 62 dX8_placeOf_59 (by decide) rfl (by decide) (fun h => absurd h (by decide)) (fun _ => ?_)
          refine v_iconst 63 ((-1)) (by decide) dX8_placeOf_62 rfl ?_
          refine v_iret rfl dX8_placeOf_63 ?_
          have hn : noP f (nI k) s t := by
            first
            | exact Or.inl h54
            | (refine Or.inr ?_; rw [ek, ← et]; done)
            | (refine Or.inr ?_; rw [ek, ← et]; exact h59)
          refine qZ hQ ?_
          rw [plA, if_neg hb, if_pos hn]
      · skip
        refine v_iconst 21 (nI (1)) (by decide) dX8_placeOf_20 rfl ?_
        refine v_goto 47 dX8_placeOf_21 (by decide) ?_
        have et : 1 = inb t (tg (f 0) k) := by
          unfold tg
          first
          | (rw [if_pos h13, h17]; decide +kernel)
          | (rw [if_pos h13, inb_out (n := 1) (Classical.byContradiction fun q => h17 (inb1_eq q))])
          | (rw [if_neg h13, if_pos h30])
          | (rw [if_neg h13, if_neg h30]; exact inr_02)
        have hl : 1 < 2 := et ▸ inb_lt t (tg (f 0) k)
        refine v_istore 49 [some (rfv x 40), some (.int (nI (k))), some (.int (s)), some (.int (t)), some (.int (nI (1)))] dX8_placeOf_47 rfl (by decide) rfl ?_
        refine v_aload_n 50 rfl dX8_placeOf_49 rfl ?_
        refine v_iload_n 51 rfl dX8_placeOf_50 rfl ?_
        refine v_invV 54 M_X8_isState [.int (s)] (by decide) rfl (by decide) rfl dX8_placeOf_51 rfl ml_X8_97 im_X8_isState se_X8_isState mc_X8_isState (by decide) (Nat.le_of_ble_eq_true rfl) (sp_X8_isState r w ?_)
        refine v_ifN_eq 62 57 dX8_placeOf_54 (by decide) rfl (by have := inb_lt s (f 0); omega) (fun h54 => ?_) (fun h54 => ?_)
        · skip
          refine v_iconst 63 ((-1)) (by decide) dX8_placeOf_62 rfl ?_
          refine v_iret rfl dX8_placeOf_63 ?_
          have hn : noP f (nI k) s t := by
            first
            | exact Or.inl h54
            | (refine Or.inr ?_; rw [ek, ← et]; done)
            | (refine Or.inr ?_; rw [ek, ← et]; exact h59)
          refine qZ hQ ?_
          rw [plA, if_neg hb, if_pos hn]
        · skip
          refine v_iload 59 rfl dX8_placeOf_57 rfl ?_
          refine v_ifN_ne 64 62 dX8_placeOf_59 (by decide) rfl (by decide) (fun _ => ?_) (fun h => absurd h (by decide))
          have hn : ¬ noP f (nI k) s t := by
            rintro (q | q)
            · exact h54 q
            · rw [ek, ← et] at q
              first | exact h59 q | exact absurd q (by decide)
          obtain ⟨i, j, hi, hj, es, ej⟩ := noP_ok w hk hn
          subst es
          subst ej
          have ep : plA f (nI k) (nI i) (nI j) = nI (pl k i j) := by
            rw [plA, if_neg hb, if_neg hn, pv_n hk (by omega) (by omega)]
          refine v_iload_n 65 rfl dX8_placeOf_64 rfl ?_
          refine v_ifN_ne 74 68 dX8_placeOf_65 (by decide) rfl (by omega) (fun h65 => ?_) (fun h65 => ?_)
          · skip
            refine v_iload_n 75 rfl dX8_placeOf_74 rfl ?_
            refine v_iconst 76 (nI (1)) (by decide) dX8_placeOf_75 rfl ?_
            refine v_icmpN_ne 90 79 dX8_placeOf_76 (by decide) rfl (by omega) (by omega) (fun h76 => ?_) (fun h76 => ?_)
            · skip
              refine v_bipush 92 (nI (23)) (by decide) dX8_placeOf_90 rfl ?_
              refine v_iconst 93 (nI (3)) (by decide) dX8_placeOf_92 rfl ?_
              refine v_iload_n 94 rfl dX8_placeOf_93 rfl ?_
              refine v_imul 95 (nI (3 * i)) dX8_placeOf_94 rfl (pk_mul _ _) ?_
              refine v_iadd 96 (nI (23 + (3 * i))) dX8_placeOf_95 rfl (nI_add _ _) ?_
              refine v_iload_n 97 rfl dX8_placeOf_96 rfl ?_
              refine v_iadd 98 (nI ((23 + (3 * i)) + j)) dX8_placeOf_97 rfl (nI_add _ _) ?_
              refine v_iret rfl dX8_placeOf_98 ?_
              rw [ep] at hQ
              exact qI hQ (by simp only [pl]; repeat (first | omega | split))
            · skip
              refine v_bipush 81 (nI (7)) (by decide) dX8_placeOf_79 rfl ?_
              refine v_iconst 82 (nI (4)) (by decide) dX8_placeOf_81 rfl ?_
              refine v_iload_n 83 rfl dX8_placeOf_82 rfl ?_
              refine v_imul 84 (nI (4 * i)) dX8_placeOf_83 rfl (pk_mul _ _) ?_
              refine v_iadd 85 (nI (7 + (4 * i))) dX8_placeOf_84 rfl (nI_add _ _) ?_
              refine v_iload_n 86 rfl dX8_placeOf_85 rfl ?_
              refine v_iadd 87 (nI ((7 + (4 * i)) + j)) dX8_placeOf_86 rfl (nI_add _ _) ?_
              refine v_goto 98 dX8_placeOf_87 (by decide) ?_
              refine v_iret rfl dX8_placeOf_98 ?_
              rw [ep] at hQ
              exact qI hQ (by simp only [pl]; repeat (first | omega | split))
          · skip
            refine v_iconst 69 (nI (3)) (by decide) dX8_placeOf_68 rfl ?_
            refine v_iload_n 70 rfl dX8_placeOf_69 rfl ?_
            refine v_iadd 71 (nI (3 + i)) dX8_placeOf_70 rfl (nI_add _ _) ?_
            refine v_goto 98 dX8_placeOf_71 (by decide) ?_
            refine v_iret rfl dX8_placeOf_98 ?_
            rw [ep] at hQ
            exact qI hQ (by simp only [pl]; repeat (first | omega | split))
  · skip
    refine v_bipush 11 ((-2)) (by decide) dX8_placeOf_9 rfl ?_
    refine v_iret rfl dX8_placeOf_11 ?_
    refine qZ hQ ?_
    rw [plA, if_pos (inr_02.symm.trans h6)]
set_option maxHeartbeats 4000000 in
theorem sp_X7_setWeight {x : Cx} {Q : Qt} {I : Iv} {L : Lv} {P : Pv} {f : Vw} {H : Hs} {hn sn : Nat} {g : Vw} {T : Tx} {tl : Nat} (ci : CI f H hn sn g T tl I P) (wi : WI f H hn sn g T tl) {z s t v : Int32} (hQ : ∀ (I1 : Iv) (L1 : Lv) (P1 : Pv), (∀ a, 40 ≤ a → I1 a = I a) → CI (stF (wtB f z s t v) f (upf f (pv z s t) (ix v))) (stH (wtB f z s t v) H hn f) (stN (wtB f z s t v) hn) sn g T tl I1 P1 → Q (some (.int (wtA f z s t v))) I1 L1 P1) : SP x M_X7_setWeight [rfv x 0, .int (z), .int (s), .int (t), .int (v)] I L P Q := by
  obtain ⟨c, hc, hsn, hsg, htx⟩ := id ci
  obtain ⟨w, hw, hs2, hwg, htl, hT⟩ := id wi
  have := w.n4
  have := w.m6
  have := w.n1
  refine SP.intro [some (rfv x 0), some (.int (z)), some (.int (s)), some (.int (t)), some (.int (v)), none, none] pn_X7_setWeight (Nat.le_of_ble_eq_true rfl) rfl ?_
  refine v_iload_n 1 rfl dX7_setWeight_0 rfl ?_
  refine v_invT 4 M_X7_isKind [.int (z)] dX7_setWeight_1 rfl ml_X7_65 sm_X7_isKind mc_X7_isKind (by decide) (Nat.le_of_ble_eq_true rfl) (sp_X7_isKind ?_)
  refine v_ifN_ne 10 7 dX7_setWeight_4 (by decide) rfl (by have := inb_lt z 3; omega) (fun h4 => ?_) (fun h4 => ?_)
  · skip
    have hb := h4
    obtain ⟨k, hk, ez⟩ := inb_1 (by decide) hb
    subst ez
    refine v_aload_n 11 rfl dX7_setWeight_10 rfl ?_
    refine v_get 14 (k := 0) 7 (rfv x 1) (by decide) rfl (by decide) (by decide) dX7_setWeight_11 rfl fl_X7_15 rfl ?_
    refine v_iload_n 15 rfl dX7_setWeight_14 rfl ?_
    refine v_iload_n 16 rfl dX7_setWeight_15 rfl ?_
    refine v_iload_n 17 rfl dX7_setWeight_16 rfl ?_
    refine v_invV 20 M_X3_hasWeight [.int (nI (k)), .int (s), .int (t)] (by decide) rfl (by decide) rfl dX7_setWeight_17 rfl ml_X7_69 im_X3_hasWeight se_X3_hasWeight mc_X3_hasWeight (by decide) (Nat.le_of_ble_eq_true rfl) (sp_X3_hasWeight c w hk ?_)
    refine v_ifN_ne 25 23 dX7_setWeight_20 (by decide) rfl (by split <;> omega) (fun h20 => ?_) (fun h20 => ?_)
    · skip
      have hn : ¬ noP f (nI k) s t := fun q => h20 (if_pos q)
      obtain ⟨i, j, hi, hj, es, ej⟩ := noP_ok w hk hn
      subst es
      subst ej
      have hg := tg_lt (k := k) w.n4
      have hp := PC.of hk hi hj
      have hp9 := hp.lt w
      have h6w := w.at hp
      have ep : pv (nI k) (nI i) (nI j) = pl k i j := pv_n hk (by omega) (by omega)
      refine v_iload 27 rfl dX7_setWeight_25 rfl ?_
      refine v_if_lt 37 30 dX7_setWeight_27 (by decide) rfl (fun h27 => ?_) (fun h27 => ?_)
      · skip
        refine v_bipush 39 ((-2)) (by decide) dX7_setWeight_37 rfl ?_
        refine v_iret rfl dX7_setWeight_39 ?_
        have b7 : inb v 7 = 0 := by
          first
          | exact inb_7.mpr (Or.inl h27)
          | exact inb_7.mpr (Or.inr (Int32.not_le.mp h34))
        refine qZ (hQ I L P (fun _ _ => rfl) ?_) (by rw [wtA, if_neg hb, if_neg hn, if_pos b7])
        simp only [wtB, if_neg hb, if_neg hn, if_pos b7]
        exact ci
      · skip
        refine v_iload 32 rfl dX7_setWeight_30 rfl ?_
        refine v_bipush 34 (nI (6)) (by decide) dX7_setWeight_32 rfl ?_
        refine v_icmp_le 40 37 dX7_setWeight_34 (by decide) rfl (fun h34 => ?_) (fun h34 => ?_)
        · skip
          have b7 : inb v 7 ≠ 0 := by
            intro q
            rcases inb_7.mp q with q | q
            · exact h27 q
            · exact absurd q (Int32.not_lt.mpr h34)
          obtain ⟨u, hu, ev⟩ := inb_1 (by decide) b7
          subst ev
          have eu : ix (nI u) = u := ix_n (by omega)
          refine v_iload_n 41 rfl dX7_setWeight_40 rfl ?_
          refine v_iload_n 42 rfl dX7_setWeight_41 rfl ?_
          refine v_iload_n 43 rfl dX7_setWeight_42 rfl ?_
          refine v_invT 46 M_X3_cellOf [.int (nI (k)), .int (nI (i)), .int (nI (j))] dX7_setWeight_43 rfl ml_X7_73 sm_X3_cellOf mc_X3_cellOf (by decide) (Nat.le_of_ble_eq_true rfl) (sp_X3_cellOf (by omega) (by omega) (by omega) ?_)
          refine v_istore 48 [some (rfv x 0), some (.int (nI (k))), some (.int (nI (i))), some (.int (nI (j))), some (.int (nI (u))), some (.int (nI (cl k i j))), none] dX7_setWeight_46 rfl (by decide) rfl ?_
          refine v_aload_n 49 rfl dX7_setWeight_48 rfl ?_
          refine v_get 52 (k := 0) 7 (rfv x 1) (by decide) rfl (by decide) (by decide) dX7_setWeight_49 rfl fl_X7_15 rfl ?_
          refine v_getN 55 (k := 0) 3 (rfv x 2) (by decide) rfl (by decide) (by decide) dX7_setWeight_52 rfl fl_X7_77 rfl ?_
          refine v_iload 57 rfl dX7_setWeight_55 rfl ?_
          refine v_iald 58 (k := cl k i j) (nI (f (pl k i j))) (by decide) rfl (by decide) dX7_setWeight_57 rfl rfl (by omega) (c.at hp) ?_
          refine v_istore 60 [some (rfv x 0), some (.int (nI (k))), some (.int (nI (i))), some (.int (nI (j))), some (.int (nI (u))), some (.int (nI (cl k i j))), some (.int (nI (f (pl k i j))))] dX7_setWeight_58 rfl (by decide) rfl ?_
          refine v_iload 62 rfl dX7_setWeight_60 rfl ?_
          refine v_iload 64 rfl dX7_setWeight_62 rfl ?_
          refine v_icmpN_ne 70 67 dX7_setWeight_64 (by decide) rfl (by omega) (by omega) (fun h64 => ?_) (fun h64 => ?_)
          · skip
            refine v_aload_n 71 rfl dX7_setWeight_70 rfl ?_
            refine v_get 74 (k := 3) 7 (rfv x 9) (by decide) rfl (by decide) (by decide) dX7_setWeight_71 rfl fl_X7_27 rfl ?_
            refine v_aload_n 75 rfl dX7_setWeight_74 rfl ?_
            refine v_get 78 (k := 0) 7 (rfv x 1) (by decide) rfl (by decide) (by decide) dX7_setWeight_75 rfl fl_X7_15 rfl ?_
            refine v_invV 81 M_X1_record [rfv x 1] (by decide) rfl (by decide) rfl dX7_setWeight_78 rfl ml_X7_81 im_X1_record se_X1_record mc_X1_record (by decide) (Nat.le_of_ble_eq_true rfl) (sp_X1_record hc c w (fun Ir Pr fr hcr => ?_))
            refine v_aload_n 82 rfl dX7_setWeight_81 rfl ?_
            refine v_get 85 (k := 0) 7 (rfv x 1) (by decide) rfl (by decide) (by decide) dX7_setWeight_82 rfl fl_X7_15 rfl ?_
            refine v_getN 88 (k := 0) 3 (rfv x 2) (by decide) rfl (by decide) (by decide) dX7_setWeight_85 rfl fl_X7_77 rfl ?_
            refine v_iload 90 rfl dX7_setWeight_88 rfl ?_
            refine v_iload 92 rfl dX7_setWeight_90 rfl ?_
            refine v_iast 93 (k := cl k i j) (nI (u)) (by decide) rfl (by decide) dX7_setWeight_92 rfl rfl (by omega) rfl (fun I92 e92 => ?_)
            refine v_iload 95 rfl dX7_setWeight_93 rfl ?_
            refine v_iret rfl dX7_setWeight_95 ?_
            have hne : ¬ f (pv (nI k) (nI i) (nI j)) = ix (nI u) := by
              rw [ep, eu]
              exact h64
            have eB : wtB f (nI k) (nI i) (nI j) (nI u) = true := by rw [wtB, if_neg hb, if_neg hn, if_neg b7, if_neg hne]
            refine qZ (hQ I92 L Pr (fun a ha => (up2_row e92 (by omega)).trans (fr a (by omega))) ?_) (by rw [wtA, if_neg hb, if_neg hn, if_neg b7, if_neg hne, ep])
            rw [eB, ep, eu]
            have c1 : RC 1 f Ir := c.same (fun a _ _ => fr a (by omega))
            refine ⟨c1.setW w hp e92, hcr.same (fun a _ _ => up2_row e92 (by omega)), ?_, fun e => ?_, ?_, fun i hi => ?_⟩
            · rw [up2_row e92 (by decide), fr 0 (by omega)]
              exact hsn
            · exact (hsg e).same (fun a _ _ => (up2_row e92 (by omega)).trans (fr a (by omega)))
            · rw [up2_row e92 (by decide), fr 27 (by omega)]
              exact htx.1
            · rw [up2_row e92 (by decide), fr 28 (by omega)]
              exact htx.2 i hi
          · skip
            refine v_bipush 69 ((-5)) (by decide) dX7_setWeight_67 rfl ?_
            refine v_iret rfl dX7_setWeight_69 ?_
            refine qZ (hQ I L P (fun _ _ => rfl) ?_) (by rw [wtA, if_neg hb, if_neg hn, if_neg b7, if_pos (show f (pv (nI k) (nI i) (nI j)) = ix (nI u) by rw [ep, eu]; exact h64)])
            simp only [wtB, if_neg hb, if_neg hn, if_neg b7, if_pos (show f (pv (nI k) (nI i) (nI j)) = ix (nI u) by rw [ep, eu]; exact h64)]
            exact ci
        · skip
          refine v_bipush 39 ((-2)) (by decide) dX7_setWeight_37 rfl ?_
          refine v_iret rfl dX7_setWeight_39 ?_
          have b7 : inb v 7 = 0 := by
            first
            | exact inb_7.mpr (Or.inl h27)
            | exact inb_7.mpr (Or.inr (Int32.not_le.mp h34))
          refine qZ (hQ I L P (fun _ _ => rfl) ?_) (by rw [wtA, if_neg hb, if_neg hn, if_pos b7])
          simp only [wtB, if_neg hb, if_neg hn, if_pos b7]
          exact ci
    · skip
      refine v_iconst 24 ((-1)) (by decide) dX7_setWeight_23 rfl ?_
      refine v_iret rfl dX7_setWeight_24 ?_
      have hn : noP f (nI k) s t := Classical.byContradiction (fun q => by rw [if_neg q] at h20; exact absurd h20 (by decide))
      refine qZ (hQ I L P (fun _ _ => rfl) ?_) (by rw [wtA, if_neg hb, if_pos hn])
      simp only [wtB, if_neg hb, if_pos hn]
      exact ci
  · skip
    refine v_bipush 9 ((-2)) (by decide) dX7_setWeight_7 rfl ?_
    refine v_iret rfl dX7_setWeight_9 ?_
    refine qZ (hQ I L P (fun _ _ => rfl) ?_) (by rw [wtA, if_pos h4])
    simp only [wtB, if_pos h4]
    exact ci
set_option maxHeartbeats 4000000 in
theorem sp_X8_setWeight {x : Cx} {Q : Qt} {I : Iv} {L : Lv} {P : Pv} {f : Vw} {H : Hs} {hn sn : Nat} {g : Vw} {T : Tx} {tl : Nat} (ri : RI f H hn sn g T tl I) (wi : WI f H hn sn g T tl) {z s t v : Int32} (hQ : ∀ (I1 : Iv) (L1 : Lv), (∀ a, a < 40 → I1 a = I a) → RI (stF (wtB f z s t v) f (upf f (pv z s t) (ix v))) (stH (wtB f z s t v) H hn f) (stN (wtB f z s t v) hn) sn g T tl I1 → Q (some (.int (wtA f z s t v))) I1 L1 P) : SP x M_X8_setWeight [rfv x 40, .int (z), .int (s), .int (t), .int (v)] I L P Q := by
  obtain ⟨r, hr, hsn, hsg, htx⟩ := id ri
  obtain ⟨w, hw, hs2, hwg, htl, hT⟩ := id wi
  have := w.n4
  have := w.m6
  have := w.n1
  refine SP.intro [some (rfv x 40), some (.int (z)), some (.int (s)), some (.int (t)), some (.int (v)), none, none] pn_X8_setWeight (Nat.le_of_ble_eq_true rfl) rfl ?_
  refine v_aload_n 1 rfl dX8_setWeight_0 rfl ?_
  refine v_iconst 2 (nI (0)) (by decide) dX8_setWeight_1 rfl ?_
  refine v_putI 5 (k := 0) 8 .int (by decide) rfl (by decide) (by decide) rfl (by decide +kernel) rfl rfl (fun _ _ => rfl) dX8_setWeight_2 rfl fl_X8_50 (fun I2 e2 => ?_)
  have ht0 : I2 = up2 I 40 0 (nI 0) := e2
  have r2 : RR (I2 41) f := by rw [up2_row e2 (by omega)]; exact r
  have hr2 : HR H hn I2 := ⟨hr.1, (up2_off e2 (by omega)).trans hr.2.1, fun i hi => by rw [up2_row e2 (by omega)]; exact hr.2.2 i hi⟩
  have ri2 : RI f H hn sn g T tl I2 := ri.kp (fun a q hl => up2_off e2 (by unfold live at hl; omega))
  have lo2 : ∀ a, a < 40 → I2 a = I a := fun a ha => up2_row e2 (by omega)
  by_cases hb : inb z 3 = 0
  · skip
    refine v_aload_n 6 rfl dX8_setWeight_5 rfl ?_
    refine v_iload_n 7 rfl dX8_setWeight_6 rfl ?_
    refine v_iload_n 8 rfl dX8_setWeight_7 rfl ?_
    refine v_iload_n 9 rfl dX8_setWeight_8 rfl ?_
    refine v_invV 12 M_X8_placeOf [.int (z), .int (s), .int (t)] (by decide) rfl (by decide) rfl dX8_setWeight_9 rfl ml_X8_101 im_X8_placeOf se_X8_placeOf mc_X8_placeOf (by decide) (Nat.le_of_ble_eq_true rfl) (sp_X8_placeOf r2 w (y := (-2)) (if_pos hb) ?_)
    refine v_istore 14 [some (rfv x 40), some (.int (z)), some (.int (s)), some (.int (t)), some (.int (v)), some (.int ((-2))), none] dX8_setWeight_12 rfl (by decide) rfl ?_
    refine v_iload 16 rfl dX8_setWeight_14 rfl ?_
    refine v_if_ge 22 19 dX8_setWeight_16 (by decide) rfl (fun h16 => ?_) (fun h16 => ?_)
    · skip
      exact absurd h16 (by decide)
    · skip
      refine v_iload 21 rfl dX8_setWeight_19 rfl ?_
      refine v_iret rfl dX8_setWeight_21 ?_
      refine qZ (hQ I2 L lo2 ?_) (by rw [wtA, if_pos hb])
      simp only [wtB, if_pos hb]
      exact ri2
  obtain ⟨k, hk, ez⟩ := inb_1 (by decide) hb
  subst ez
  by_cases hn : noP f (nI k) s t
  · skip
    refine v_aload_n 6 rfl dX8_setWeight_5 rfl ?_
    refine v_iload_n 7 rfl dX8_setWeight_6 rfl ?_
    refine v_iload_n 8 rfl dX8_setWeight_7 rfl ?_
    refine v_iload_n 9 rfl dX8_setWeight_8 rfl ?_
    refine v_invV 12 M_X8_placeOf [.int (nI (k)), .int (s), .int (t)] (by decide) rfl (by decide) rfl dX8_setWeight_9 rfl ml_X8_101 im_X8_placeOf se_X8_placeOf mc_X8_placeOf (by decide) (Nat.le_of_ble_eq_true rfl) (sp_X8_placeOf r2 w (y := (-1)) (by rw [plA, if_neg hb, if_pos hn]) ?_)
    refine v_istore 14 [some (rfv x 40), some (.int (nI (k))), some (.int (s)), some (.int (t)), some (.int (v)), some (.int ((-1))), none] dX8_setWeight_12 rfl (by decide) rfl ?_
    refine v_iload 16 rfl dX8_setWeight_14 rfl ?_
    refine v_if_ge 22 19 dX8_setWeight_16 (by decide) rfl (fun h16 => ?_) (fun h16 => ?_)
    · skip
      exact absurd h16 (by decide)
    · skip
      refine v_iload 21 rfl dX8_setWeight_19 rfl ?_
      refine v_iret rfl dX8_setWeight_21 ?_
      refine qZ (hQ I2 L lo2 ?_) (by rw [wtA, if_neg hb, if_pos hn])
      simp only [wtB, if_neg hb, if_pos hn]
      exact ri2
  obtain ⟨i, j, hi, hj, es, ej⟩ := noP_ok w hk hn
  subst es
  subst ej
  have hg := tg_lt (k := k) w.n4
  have hp := PC.of hk hi hj
  have hp9 := hp.lt w
  have h6w := w.at hp
  have ep : pv (nI k) (nI i) (nI j) = pl k i j := pv_n hk (by omega) (by omega)
  refine v_aload_n 6 rfl dX8_setWeight_5 rfl ?_
  refine v_iload_n 7 rfl dX8_setWeight_6 rfl ?_
  refine v_iload_n 8 rfl dX8_setWeight_7 rfl ?_
  refine v_iload_n 9 rfl dX8_setWeight_8 rfl ?_
  refine v_invV 12 M_X8_placeOf [.int (nI (k)), .int (nI (i)), .int (nI (j))] (by decide) rfl (by decide) rfl dX8_setWeight_9 rfl ml_X8_101 im_X8_placeOf se_X8_placeOf mc_X8_placeOf (by decide) (Nat.le_of_ble_eq_true rfl) (sp_X8_placeOf r2 w (y := nI (pl k i j)) (by rw [plA, if_neg hb, if_neg hn, ep]) ?_)
  refine v_istore 14 [some (rfv x 40), some (.int (nI (k))), some (.int (nI (i))), some (.int (nI (j))), some (.int (v)), some (.int (nI (pl k i j))), none] dX8_setWeight_12 rfl (by decide) rfl ?_
  refine v_iload 16 rfl dX8_setWeight_14 rfl ?_
  refine v_ifN_ge 22 19 dX8_setWeight_16 (by decide) rfl (by omega) ?_
  refine v_iload 24 rfl dX8_setWeight_22 rfl ?_
  refine v_iconst 25 (nI (0)) (by decide) dX8_setWeight_24 rfl ?_
  refine v_bipush 27 (nI (6)) (by decide) dX8_setWeight_25 rfl ?_
  refine v_invT 30 M_X8_in [.int (v), .int (nI (0)), .int (nI (6))] dX8_setWeight_27 rfl ml_X8_58 sm_X8_in mc_X8_in (by decide) (Nat.le_of_ble_eq_true rfl) (sp_X8_in ?_)
  refine v_ifN_ne 36 33 dX8_setWeight_30 (by decide) rfl (by have := inr_lt v (nI 0) (nI 6); omega) (fun h30 => ?_) (fun h30 => ?_)
  · skip
    have b7 : inb v 7 ≠ 0 := fun q => h30 (inr_06.trans q)
    obtain ⟨u, hu, ev⟩ := inb_1 (by decide) b7
    subst ev
    have eu : ix (nI u) = u := ix_n (by omega)
    refine v_aload_n 37 rfl dX8_setWeight_36 rfl ?_
    refine v_get 40 (k := 1) 8 (rfv x 41) (by decide) rfl (by decide) (by decide) dX8_setWeight_37 rfl fl_X8_7 rfl ?_
    refine v_iload 42 rfl dX8_setWeight_40 rfl ?_
    refine v_iald 43 (k := pl k i j) (nI (f (pl k i j))) (by decide) rfl (by decide) dX8_setWeight_42 rfl rfl (by omega) (r2.at hp) ?_
    refine v_istore 45 [some (rfv x 40), some (.int (nI (k))), some (.int (nI (i))), some (.int (nI (j))), some (.int (nI (u))), some (.int (nI (pl k i j))), some (.int (nI (f (pl k i j))))] dX8_setWeight_43 rfl (by decide) rfl ?_
    refine v_iload 47 rfl dX8_setWeight_45 rfl ?_
    refine v_iload 49 rfl dX8_setWeight_47 rfl ?_
    refine v_icmpN_ne 55 52 dX8_setWeight_49 (by decide) rfl (by omega) (by omega) (fun h49 => ?_) (fun h49 => ?_)
    · skip
      refine v_aload_n 56 rfl dX8_setWeight_55 rfl ?_
      refine v_invV 59 M_X8_records [] (by decide) rfl (by decide) rfl dX8_setWeight_56 rfl ml_X8_105 im_X8_records se_X8_records mc_X8_records (by decide) (Nat.le_of_ble_eq_true rfl) (sp_X8_records hr2 hw r2 w (fun Ir fr hrr => ?_))
      have rr : RR (Ir 41) f := (r2.on w (fun j _ => fr 41 j (by decide) (Or.inl (by decide))))
      refine v_aload_n 60 rfl dX8_setWeight_59 rfl ?_
      refine v_get 63 (k := 1) 8 (rfv x 41) (by decide) rfl (by decide) (by decide) dX8_setWeight_60 rfl fl_X8_7 rfl ?_
      refine v_iload 65 rfl dX8_setWeight_63 rfl ?_
      refine v_iload 67 rfl dX8_setWeight_65 rfl ?_
      refine v_iast 68 (k := pl k i j) (nI (u)) (by decide) rfl (by decide) dX8_setWeight_67 rfl rfl (by omega) rfl (fun I67 e67 => ?_)
      refine v_iload 70 rfl dX8_setWeight_68 rfl ?_
      refine v_iret rfl dX8_setWeight_70 ?_
      have hne : ¬ f (pv (nI k) (nI i) (nI j)) = ix (nI u) := by
        rw [ep, eu]
        exact h49
      have eB : wtB f (nI k) (nI i) (nI j) (nI u) = true := by rw [wtB, if_neg hb, if_neg hn, if_neg b7, if_neg hne]
      refine qZ (hQ I67 L (fun a ha => ?_) ?_) (by rw [wtA, if_neg hb, if_neg hn, if_neg b7, if_neg hne, ep])
      · rw [up2_row e67 (by omega), show Ir a = I2 a from funext (fun q => fr a q (by omega) (Or.inl (by omega)))]
        exact lo2 a ha
      · rw [eB, ep, eu]
        have k1 : ∀ a q, a ≠ 41 → I67 a q = Ir a q := fun a q h => up2_off e67 (by omega)
        refine ⟨rr.setW w hp (up2_at e67) (fun j hj => up2_off e67 (by omega)), ⟨hrr.1, (k1 40 4 (by decide)).trans hrr.2.1, fun i hi => by rw [up2_row e67 (by decide)]; exact hrr.2.2 i hi⟩, ?_, fun e => ?_, ?_, fun i hi => ?_⟩
        · rw [k1 40 6 (by decide), fr 40 6 (by decide) (Or.inr (by decide))]
          exact ri2.2.2.1
        · rw [up2_row e67 (by decide)]
          exact (ri2.2.2.2.1 e).on (hwg e) (fun j _ => fr 44 j (by decide) (Or.inl (by decide)))
        · rw [k1 40 8 (by decide), fr 40 8 (by decide) (Or.inr (by decide))]
          exact ri2.2.2.2.2.1
        · rw [k1 45 i (by decide), fr 45 i (by decide) (Or.inl (by decide))]
          exact ri2.2.2.2.2.2 i hi
    · skip
      refine v_bipush 54 ((-5)) (by decide) dX8_setWeight_52 rfl ?_
      refine v_iret rfl dX8_setWeight_54 ?_
      refine qZ (hQ I2 L lo2 ?_) (by rw [wtA, if_neg hb, if_neg hn, if_neg b7, if_pos (show f (pv (nI k) (nI i) (nI j)) = ix (nI u) by rw [ep, eu]; exact h49)])
      simp only [wtB, if_neg hb, if_neg hn, if_neg b7, if_pos (show f (pv (nI k) (nI i) (nI j)) = ix (nI u) by rw [ep, eu]; exact h49)]
      exact ri2
  · skip
    refine v_bipush 35 ((-2)) (by decide) dX8_setWeight_33 rfl ?_
    refine v_iret rfl dX8_setWeight_35 ?_
    refine qZ (hQ I2 L lo2 ?_) (by rw [wtA, if_neg hb, if_neg hn, if_pos (inr_06.symm.trans h30)])
    simp only [wtB, if_neg hb, if_neg hn, if_pos (inr_06.symm.trans h30)]
    exact ri2
