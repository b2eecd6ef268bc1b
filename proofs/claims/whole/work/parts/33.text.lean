/-! a text of samples: letters since the last semicolon, semicolons, the place of the fault, what is read -/
def tLt (T : Tx) : Nat → Nat
  | 0 => 0
  | i + 1 => if T i = 59 then 0 else tLt T i + 1
def tCn (T : Tx) : Nat → Nat
  | 0 => 0
  | i + 1 => if T i = 59 then tCn T i + 1 else tCn T i
abbrev okc (T : Tx) (i : Nat) : Prop := ((97 ≤ T i ∧ T i ≤ 99) ∧ tLt T i < 7) ∨ (T i = 59 ∧ 0 < tLt T i)
def tTo (T : Tx) (i : Nat) : Prop := ∀ j, j < i → okc T j
def tFS (T : Tx) : Nat → Nat → Nat
  | 0, i => i
  | m + 1, i => if okc T i then tFS T m (i + 1) else i
abbrev noF (T : Tx) (tl : Nat) : Prop := tFS T tl 0 = tl ∧ 0 < tLt T tl
def tRT (T : Tx) : Nat → Nat → Nat
  | 0, _ => 0
  | i + 1, q => if T i = 59 then tRT T i q else if q = 8 * tCn T i + 1 + tLt T i then T i - 97 else if q = 8 * tCn T i then tLt T i + 1 else tRT T i q
theorem tTo_s {T : Tx} {i : Nat} (h : tTo T i) (h1 : okc T i) : tTo T (i + 1) := fun j hj => by
  by_cases y : j = i
  · rw [y]
    exact h1
  · exact h j (by omega)
theorem tTo_le {T : Tx} {i j : Nat} (h : tTo T i) (hj : j ≤ i) : tTo T j := fun k hk => h k (by omega)
theorem tLt_s {T : Tx} {i : Nat} (h : T i ≠ 59) : tLt T (i + 1) = tLt T i + 1 := if_neg h
theorem tLt_z {T : Tx} {i : Nat} (h : T i = 59) : tLt T (i + 1) = 0 := if_pos h
theorem tCn_s {T : Tx} {i : Nat} (h : T i ≠ 59) : tCn T (i + 1) = tCn T i := if_neg h
theorem tCn_z {T : Tx} {i : Nat} (h : T i = 59) : tCn T (i + 1) = tCn T i + 1 := if_pos h
theorem tRT_sz {T : Tx} {i : Nat} (h : T i = 59) (q : Nat) : tRT T (i + 1) q = tRT T i q := if_pos h
theorem tRT_ss {T : Tx} {i : Nat} (h : T i ≠ 59) (q : Nat) : tRT T (i + 1) q = if q = 8 * tCn T i + 1 + tLt T i then T i - 97 else if q = 8 * tCn T i then tLt T i + 1 else tRT T i q := if_neg h
theorem tLt_le {T : Tx} : ∀ {i : Nat}, tTo T i → tLt T i ≤ 7
  | 0, _ => Nat.zero_le _
  | i + 1, h => by
    have h1 := h i (by omega)
    by_cases y : T i = 59
    · rw [tLt_z y]
      exact Nat.zero_le _
    · rw [tLt_s y]
      rcases h1 with ⟨_, q⟩ | ⟨q, _⟩
      · omega
      · exact absurd q y
theorem tCn_mono {T : Tx} {i : Nat} : ∀ d, tCn T i ≤ tCn T (i + d)
  | 0 => Nat.le_refl _
  | d + 1 => by
    have h := tCn_mono (T := T) (i := i) d
    have e : tCn T (i + (d + 1)) = if T (i + d) = 59 then tCn T (i + d) + 1 else tCn T (i + d) := rfl
    rw [e]
    split <;> omega
theorem tCn_le {T : Tx} {i j : Nat} (h : i ≤ j) : tCn T i ≤ tCn T j := by
  have h1 := tCn_mono (T := T) (i := i) (j - i)
  rwa [show i + (j - i) = j by omega] at h1
theorem tCn_lt {T : Tx} : ∀ i, tCn T i ≤ i
  | 0 => Nat.le_refl _
  | i + 1 => by
    have h := tCn_lt (T := T) i
    have e : tCn T (i + 1) = if T i = 59 then tCn T i + 1 else tCn T i := rfl
    rw [e]
    split <;> omega
theorem tFS_at {T : Tx} : ∀ m i d, (∀ j, j < d → okc T (i + j)) → d ≤ m → (d = m ∨ ¬ okc T (i + d)) → tFS T m i = i + d
  | 0, i, d, _, h2, _ => by
    rw [show d = 0 by omega]
    rfl
  | m + 1, i, 0, _, _, h3 => by
    rcases h3 with h3 | h3
    · omega
    · exact if_neg h3
  | m + 1, i, d + 1, h1, h2, h3 => by
    have e : tFS T (m + 1) i = if okc T i then tFS T m (i + 1) else i := rfl
    rw [e, if_pos (show okc T i from h1 0 (by omega)), tFS_at m (i + 1) d (fun j hj => by rw [show i + 1 + j = i + (j + 1) by omega]; exact h1 (j + 1) (by omega)) (by omega) (by rw [show i + 1 + d = i + (d + 1) by omega]; exact h3.imp (fun q => by omega) id)]
    omega
theorem tFS_e {T : Tx} {tl i : Nat} (h : tTo T i) (hi : i ≤ tl) (he : i = tl ∨ ¬ okc T i) : tFS T tl 0 = i := by
  have h1 := tFS_at (T := T) tl 0 i (fun j hj => by rw [Nat.zero_add]; exact h j hj) hi (by rw [Nat.zero_add]; exact he)
  rwa [Nat.zero_add] at h1
theorem tFS_le {T : Tx} : ∀ m i, tFS T m i ≤ i + m
  | 0, i => Nat.le_refl _
  | m + 1, i => by
    have h := tFS_le (T := T) m (i + 1)
    have e : tFS T (m + 1) i = if okc T i then tFS T m (i + 1) else i := rfl
    rw [e]
    split <;> omega
theorem tFS_to {T : Tx} : ∀ m i, ∀ j, i ≤ j → j < tFS T m i → okc T j
  | 0, i, j, h1, h2 => by
    have e : tFS T 0 i = i := rfl
    omega
  | m + 1, i, j, h1, h2 => by
    have e : tFS T (m + 1) i = if okc T i then tFS T m (i + 1) else i := rfl
    rw [e] at h2
    by_cases y : okc T i
    · rw [if_pos y] at h2
      by_cases z : j = i
      · rw [z]
        exact y
      · exact tFS_to m (i + 1) j (by omega) h2
    · rw [if_neg y] at h2
      omega
theorem noF_to {T : Tx} {tl : Nat} (h : noF T tl) : tTo T tl := fun j hj => tFS_to tl 0 j (Nat.zero_le _) (by rw [h.1]; exact hj)
theorem noF_1 {T : Tx} {tl : Nat} (h : tTo T tl) (h1 : 0 < tLt T tl) : noF T tl := ⟨tFS_e h (Nat.le_refl _) (Or.inl rfl), h1⟩
theorem noF_0 {T : Tx} {tl i : Nat} (h : tTo T i) (hi : i < tl) (hn : ¬ okc T i) : ¬ noF T tl := fun q => by
  have h1 := q.1
  rw [tFS_e h (by omega) (Or.inr hn)] at h1
  omega
theorem tRT_0 {T : Tx} : ∀ i, tTo T i → ∀ q, 8 * tCn T i + tLt T i < q → tRT T i q = 0
  | 0, _, q, _ => rfl
  | i + 1, h, q, hq => by
    have h0 := tTo_le h (j := i) (by omega)
    have h7 := tLt_le h0
    by_cases y : T i = 59
    · rw [tRT_sz y]
      rw [tCn_z y, tLt_z y] at hq
      exact tRT_0 i h0 q (by omega)
    · rw [tCn_s y, tLt_s y] at hq
      rw [tRT_ss y, if_neg (by omega), if_neg (by omega)]
      exact tRT_0 i h0 q (by omega)
theorem tRT_c {T : Tx} : ∀ i, tTo T i → tRT T i (8 * tCn T i) = tLt T i
  | 0, _ => rfl
  | i + 1, h => by
    have h0 := tTo_le h (j := i) (by omega)
    have h7 := tLt_le h0
    by_cases y : T i = 59
    · rw [tRT_sz y, tCn_z y, tLt_z y]
      exact tRT_0 i h0 _ (by omega)
    · rw [tCn_s y, tLt_s y, tRT_ss y, if_neg (by omega), if_pos rfl]
theorem tRT_n {T : Tx} : ∀ i, tTo T i → ∀ k, k < tCn T i → 1 ≤ tRT T i (8 * k) ∧ tRT T i (8 * k) ≤ 7
  | 0, _, k, hk => absurd hk (Nat.not_lt_zero k)
  | i + 1, h, k, hk => by
    have h0 := tTo_le h (j := i) (by omega)
    have h7 := tLt_le h0
    by_cases y : T i = 59
    · rw [tRT_sz y]
      rw [tCn_z y] at hk
      by_cases z : k = tCn T i
      · rw [z, tRT_c i h0]
        rcases h i (by omega) with ⟨q, _⟩ | ⟨_, q⟩ <;> omega
      · exact tRT_n i h0 k (by omega)
    · rw [tCn_s y] at hk
      rw [tRT_ss y, if_neg (by omega), if_neg (by omega)]
      exact tRT_n i h0 k hk
theorem tRT_s {T : Tx} : ∀ i, tTo T i → ∀ k p, p < 7 → tRT T i (8 * k + 1 + p) ≤ 2
  | 0, _, k, p, _ => Nat.zero_le _
  | i + 1, h, k, p, hp => by
    have h0 := tTo_le h (j := i) (by omega)
    have h1 := tRT_s i h0 k p hp
    by_cases y : T i = 59
    · rw [tRT_sz y]
      exact h1
    · rw [tRT_ss y]
      split
      · rcases h i (by omega) with ⟨q, _⟩ | ⟨q, _⟩ <;> omega
      · rw [if_neg (by omega)]
        exact h1
/-- samples laid behind those of f: R holds 8 numbers for each, its length first -/
def smF (f : Vw) (m : Nat) (R : Nat → Nat) : Vw := fun q => if q = 1 then f 1 + m else if q < 35 + 8 * f 1 then f q else R (q - (35 + 8 * f 1))
theorem smF_1 {f : Vw} {m : Nat} {R : Nat → Nat} : smF f m R 1 = f 1 + m := rfl
theorem smF_lo {f : Vw} {m : Nat} {R : Nat → Nat} {q : Nat} (h : q ≠ 1) (h2 : q < 35 + 8 * f 1) : smF f m R q = f q := by
  rw [smF, if_neg h, if_pos h2]
theorem smF_n0 {f : Vw} {m : Nat} {R : Nat → Nat} {k : Nat} (hk : k < f 1) : nP (smF f m R) k = nP f k := smF_lo (by omega) (by omega)
theorem smF_s0 {f : Vw} {m : Nat} {R : Nat → Nat} {k p : Nat} (hk : k < f 1) (hp : p < 7) : sG (smF f m R) k p = sG f k p := smF_lo (by omega) (by omega)
theorem smF_n1 {f : Vw} {m : Nat} {R : Nat → Nat} {k : Nat} : nP (smF f m R) (f 1 + k) = R (8 * k) := by
  rw [nP, smF, if_neg (by omega), if_neg (by omega), show 35 + 8 * (f 1 + k) - (35 + 8 * f 1) = 8 * k by omega]
theorem smF_s1 {f : Vw} {m : Nat} {R : Nat → Nat} {k p : Nat} : sG (smF f m R) (f 1 + k) p = R (8 * k + 1 + p) := by
  rw [sG, smF, if_neg (by omega), if_neg (by omega), show 35 + 8 * (f 1 + k) + 1 + p - (35 + 8 * f 1) = 8 * k + 1 + p by omega]
theorem PC.smp {f : Vw} {m : Nat} {R : Nat → Nat} {p c : Nat} (h : PC (smF f m R) p c) : PC f p c := by
  unfold PC at h ⊢
  rw [smF_lo (by omega) (by omega)] at h
  exact h
theorem RC.smp {f : Vw} {m : Nat} {R : Nat → Nat} {I I1 : Iv} (r : RC 1 f I) (w : Wf f) (eF : ∀ a q, (a ≠ 1 ∨ q ≠ 5) → (a ≠ 3 ∨ q < f 1) → (a ≠ 4 ∨ q < f 1 * 7) → I1 a q = I a q) (e5 : I1 1 5 = nI (f 1 + m)) (hn : ∀ k, k < m → I1 3 (f 1 + k) = nI (R (8 * k))) (hs : ∀ k p, k < m → p < R (8 * k) → I1 4 ((f 1 + k) * 7 + p) = nI (R (8 * k + 1 + p))) : RC 1 (smF f m R) I1 := by
  refine RC.mk ?_ e5 ?_ (fun p c h => ?_) (fun k hk => ?_) (fun k p hk hp => ?_)
  · rw [smF_lo (by omega) (by omega)]
    exact (eF 1 1 (by omega) (by omega) (by omega)).trans r.st
  · rw [smF_lo (by omega) (by omega)]
    exact (eF 1 2 (by omega) (by omega) (by omega)).trans r.bd
  · have h1 := h.smp
    have h2 := h1.lt w
    rw [smF_lo (by omega) (by omega)]
    exact (eF 2 c (by omega) (by omega) (by omega)).trans (r.at h1)
  · rw [smF_1] at hk
    by_cases y : k < f 1
    · rw [smF_n0 y]
      exact (eF 3 k (by omega) (by omega) (by omega)).trans (r.n y)
    · obtain ⟨j, ej⟩ : ∃ j, k = f 1 + j := ⟨k - f 1, by omega⟩
      subst ej
      rw [smF_n1]
      exact hn j (by omega)
  · rw [smF_1] at hk
    by_cases y : k < f 1
    · rw [smF_n0 y] at hp
      have h7 := (w.p y).2
      rw [smF_s0 y (by omega)]
      exact (eF 4 (k * 7 + p) (by omega) (by omega) (by omega)).trans (r.s y hp)
    · obtain ⟨j, ej⟩ : ∃ j, k = f 1 + j := ⟨k - f 1, by omega⟩
      subst ej
      rw [smF_n1] at hp
      rw [smF_s1]
      exact hs j p (by omega) hp
theorem RR.smp {f : Vw} {m : Nat} {R : Nat → Nat} {h h1 : Nat → Int32} (r : RR h f) (w : Wf f) (eF : ∀ q, q ≠ 1 → q < 35 + 8 * f 1 → h1 q = h q) (e1 : h1 1 = nI (f 1 + m)) (hn : ∀ k, k < m → h1 (35 + 8 * (f 1 + k)) = nI (R (8 * k))) (hs : ∀ k p, k < m → p < R (8 * k) → h1 (35 + 8 * (f 1 + k) + 1 + p) = nI (R (8 * k + 1 + p))) : RR h1 (smF f m R) := by
  refine RR.mk ?_ e1 ?_ (fun p c h => ?_) (fun k hk => ?_) (fun k p hk hp => ?_)
  · rw [smF_lo (by omega) (by omega)]
    exact (eF 0 (by omega) (by omega)).trans r.st
  · rw [smF_lo (by omega) (by omega)]
    exact (eF 2 (by omega) (by omega)).trans r.bd
  · have h1 := h.smp
    have h2 := h1.lt w
    rw [smF_lo (by omega) (by omega)]
    exact (eF p (by omega) (by omega)).trans (r.at h1)
  · rw [smF_1] at hk
    by_cases y : k < f 1
    · rw [smF_n0 y]
      exact (eF _ (by omega) (by omega)).trans (r.n y)
    · obtain ⟨j, ej⟩ : ∃ j, k = f 1 + j := ⟨k - f 1, by omega⟩
      subst ej
      rw [smF_n1]
      exact hn j (by omega)
  · rw [smF_1] at hk
    by_cases y : k < f 1
    · rw [smF_n0 y] at hp
      have h7 := (w.p y).2
      rw [smF_s0 y (by omega)]
      exact (eF _ (by omega) (by omega)).trans (r.s y hp)
    · obtain ⟨j, ej⟩ : ∃ j, k = f 1 + j := ⟨k - f 1, by omega⟩
      subst ej
      rw [smF_n1] at hp
      rw [smF_s1]
      exact hs j p (by omega) hp
theorem Wf.smp {f : Vw} {m : Nat} {R : Nat → Nat} (w : Wf f) (hm : f 1 + m ≤ 6) (h1 : ∀ k, k < m → 1 ≤ R (8 * k) ∧ R (8 * k) ≤ 7) (h2 : ∀ k p, k < m → p < 7 → R (8 * k + 1 + p) ≤ 2) : Wf (smF f m R) := by
  refine Wf.mk ?_ ?_ ?_ (fun p c h => ?_) (fun k hk => ?_) (fun k p hk hp => ?_)
  · rw [smF_lo (by omega) (by omega)]
    exact w.1
  · rw [smF_1]
    exact hm
  · rw [smF_lo (by omega) (by omega)]
    exact w.2.2.1
  · have h1 := h.smp
    have h2 := h1.lt w
    rw [smF_lo (by omega) (by omega)]
    exact w.at h1
  · rw [smF_1] at hk
    by_cases y : k < f 1
    · rw [smF_n0 y]
      exact w.p y
    · obtain ⟨j, ej⟩ : ∃ j, k = f 1 + j := ⟨k - f 1, by omega⟩
      subst ej
      rw [smF_n1]
      exact h1 j (by omega)
  · rw [smF_1] at hk
    by_cases y : k < f 1
    · rw [smF_n0 y] at hp
      have h7 := (w.p y).2
      rw [smF_s0 y (by omega)]
      exact w.s y hp
    · obtain ⟨j, ej⟩ : ∃ j, k = f 1 + j := ⟨k - f 1, by omega⟩
      subst ej
      rw [smF_n1] at hp
      have h7 := (h1 j (by omega)).2
      rw [smF_s1]
      exact h2 j p (by omega) (by omega)
def ftA (T : Tx) (tl : Nat) : Int32 := if noF T tl then (-1) else nI (tFS T tl 0)
theorem nI_neg {k : Nat} {c : Int32} (hk : k < 2147483648) (hc : c < 0) : nI k ≠ c := fun e => nI_pos hk (by rw [e]; exact hc)
def tM (T : Tx) (tl : Nat) : Nat := tCn T tl + 1
def smA (f : Vw) (T : Tx) (tl : Nat) : Int32 := if noF T tl then (if 6 < f 1 + tM T tl then (-3) else nI (tM T tl)) else (-100) - nI (tFS T tl 0)
def smB (f : Vw) (T : Tx) (tl : Nat) : Bool := if noF T tl then (if 6 < f 1 + tM T tl then false else true) else false
def smV (f : Vw) (T : Tx) (tl : Nat) : Vw := smF f (tM T tl) (tRT T tl)
theorem Wf.smV {f : Vw} (w : Wf f) {T : Tx} {tl : Nat} (h : noF T tl) (h6 : ¬ 6 < f 1 + tM T tl) : Wf (smV f T tl) := by
  have ho := noF_to h
  have h7 := tLt_le ho
  have h8 := h.2
  refine w.smp (by omega) (fun k hk => ?_) (fun k p hk hp => tRT_s tl ho k p hp)
  unfold tM at hk
  by_cases y : k = tCn T tl
  · rw [y, tRT_c tl ho]
    omega
  · exact tRT_n tl ho k (by omega)
def lB (c : Nat) : Nat := if 97 ≤ c ∧ c ≤ 99 then 1 else 0
theorem lB_lt (c : Nat) : lB c < 2 := by
  unfold lB
  split <;> omega
theorem lB_0 {c : Nat} (h : lB c = 0) : ¬ (97 ≤ c ∧ c ≤ 99) := fun q => by
  rw [lB, if_pos q] at h
  cases h
theorem lB_1 {c : Nat} (h : lB c ≠ 0) : 97 ≤ c ∧ c ≤ 99 := Classical.byContradiction fun q => h (if_neg q)
set_option maxHeartbeats 4000000 in
theorem sp_X5_isLetter {x : Cx} {Q : Qt} {I : Iv} {L : Lv} {P : Pv} {c : Nat} (hc : c < 65536) (hQ : Q (some (.int (nI (lB c)))) I L P) : SP x M_X5_isLetter [.int (nI (c))] I L P Q := by
  refine SP.intro [some (.int (nI (c)))] pn_X5_isLetter (Nat.le_of_ble_eq_true rfl) rfl ?_
  refine v_iload_n 1 rfl dX5_isLetter_0 rfl ?_
  refine v_bipush 3 (nI (97)) (by decide) dX5_isLetter_1 rfl ?_
  refine v_icmpN_lt 16 6 dX5_isLetter_3 (by decide) rfl (by omega) (by omega) (fun h3 => ?_) (fun h3 => ?_)
  · skip
    refine v_iconst 17 (nI (0)) (by decide) dX5_isLetter_16 rfl ?_
    refine v_zret rfl dX5_isLetter_17 (by decide) ?_
    first
    | exact qI hQ (show 0 = lB c by unfold lB; rw [if_neg (by omega)])
    | exact qI hQ (show 1 = lB c by unfold lB; rw [if_pos (by omega)])
  · skip
    refine v_iload_n 7 rfl dX5_isLetter_6 rfl ?_
    refine v_bipush 9 (nI (99)) (by decide) dX5_isLetter_7 rfl ?_
    refine v_icmpN_gt 16 12 dX5_isLetter_9 (by decide) rfl (by omega) (by omega) (fun h9 => ?_) (fun h9 => ?_)
    · skip
      refine v_iconst 17 (nI (0)) (by decide) dX5_isLetter_16 rfl ?_
      refine v_zret rfl dX5_isLetter_17 (by decide) ?_
      first
      | exact qI hQ (show 0 = lB c by unfold lB; rw [if_neg (by omega)])
      | exact qI hQ (show 1 = lB c by unfold lB; rw [if_pos (by omega)])
    · skip
      refine v_iconst 13 (nI (1)) (by decide) dX5_isLetter_12 rfl ?_
      refine v_goto 17 dX5_isLetter_13 (by decide) ?_
      refine v_zret rfl dX5_isLetter_17 (by decide) ?_
      first
      | exact qI hQ (show 0 = lB c by unfold lB; rw [if_neg (by omega)])
      | exact qI hQ (show 1 = lB c by unfold lB; rw [if_pos (by omega)])
set_option maxHeartbeats 4000000 in
theorem sp_X5_fault {x : Cx} {Q : Qt} {I : Iv} {L : Lv} {P : Pv} {T : Tx} {tl : Nat} (ht : TC T tl I) (hl : tl ≤ 60) (hT : ∀ i, i < tl → T i < 65536) (hQ : Q (some (.int (ftA T tl))) I L P) : SP x M_X5_fault [rfv x 27] I L P Q := by
  refine SP.intro [some (rfv x 27), none, none, none] pn_X5_fault (Nat.le_of_ble_eq_true rfl) rfl ?_
  refine v_iconst 1 (nI (0)) (by decide) dX5_fault_0 rfl ?_
  refine v_istore_n 2 [some (rfv x 27), some (.int (nI (0))), none, none] dX5_fault_1 rfl (by decide) rfl ?_
  refine v_iconst 3 (nI (0)) (by decide) dX5_fault_2 rfl ?_
  refine v_istore_n 4 [some (rfv x 27), some (.int (nI (0))), some (.int (nI (0))), none] dX5_fault_3 rfl (by decide) rfl ?_
  have lp : ∀ i, i ≤ tl → tTo T i → V x M_X5_fault Q 4 [some (rfv x 27), some (.int (nI (tLt T i))), some (.int (nI (i))), none] [] I L P := by
    refine lpU ?_ ?_
    · intro ho
      refine v_iload_n 5 rfl dX5_fault_4 rfl ?_
      refine v_aload_n 6 rfl dX5_fault_5 rfl ?_
      refine v_get 9 (k := 1) 5 (.int (nI (tl))) (by decide) rfl (by decide) (by decide) dX5_fault_6 rfl fl_X5_15 (congrArg Value.int ht.1) ?_
      refine v_icmpN_ge 61 12 dX5_fault_9 (by decide) rfl (by omega) (by omega) (fun h9 => ?_) (fun h9 => ?_)
      · skip
        refine v_iload_n 62 rfl dX5_fault_61 rfl ?_
        refine v_ifN_le 69 65 dX5_fault_62 (by decide) rfl (by have := tLt_le ho; omega) (fun h62 => ?_) (fun h62 => ?_)
        · skip
          refine v_aload_n 70 rfl dX5_fault_69 rfl ?_
          refine v_get 73 (k := 1) 5 (.int (nI (tl))) (by decide) rfl (by decide) (by decide) dX5_fault_70 rfl fl_X5_15 (congrArg Value.int ht.1) ?_
          refine v_iret rfl dX5_fault_73 ?_
          first
          | exact qZ hQ (show (-1) = ftA T tl by rw [ftA, if_pos (noF_1 ho h62)])
          | exact qZ hQ (show nI tl = ftA T tl by rw [ftA, if_neg (fun q => by have := q.2; omega), tFS_e ho (Nat.le_refl _) (Or.inl rfl)])
        · skip
          refine v_iconst 66 ((-1)) (by decide) dX5_fault_65 rfl ?_
          refine v_goto 73 dX5_fault_66 (by decide) ?_
          refine v_iret rfl dX5_fault_73 ?_
          first
          | exact qZ hQ (show (-1) = ftA T tl by rw [ftA, if_pos (noF_1 ho h62)])
          | exact qZ hQ (show nI tl = ftA T tl by rw [ftA, if_neg (fun q => by have := q.2; omega), tFS_e ho (Nat.le_refl _) (Or.inl rfl)])
      · skip
        exact absurd h9 (by omega)
    · intro i hi ih ho
      have h7 := tLt_le ho
      have hTi := hT i hi
      refine v_iload_n 5 rfl dX5_fault_4 rfl ?_
      refine v_aload_n 6 rfl dX5_fault_5 rfl ?_
      refine v_get 9 (k := 1) 5 (.int (nI (tl))) (by decide) rfl (by decide) (by decide) dX5_fault_6 rfl fl_X5_15 (congrArg Value.int ht.1) ?_
      refine v_icmpN_ge 61 12 dX5_fault_9 (by decide) rfl (by omega) (by omega) (fun h9 => ?_) (fun h9 => ?_)
      · skip
        exact absurd h9 (by omega)
      · skip
        refine v_aload_n 13 rfl dX5_fault_12 rfl ?_
        refine v_get 16 (k := 0) 5 (rfv x 28) (by decide) rfl (by decide) (by decide) dX5_fault_13 rfl fl_X5_9 rfl ?_
        refine v_iload_n 17 rfl dX5_fault_16 rfl ?_
        refine v_cald 18 (k := i) (nI (T i)) (by decide) rfl (by decide) dX5_fault_17 rfl rfl (by omega) (ht.2 i hi) ?_
        refine v_istore_n 19 [some (rfv x 27), some (.int (nI (tLt T i))), some (.int (nI (i))), some (.int (nI (T i)))] dX5_fault_18 rfl (by decide) rfl ?_
        refine v_iload_n 20 rfl dX5_fault_19 rfl ?_
        refine v_invT 23 M_X5_isLetter [.int (nI (T i))] dX5_fault_20 rfl ml_X5_19 sm_X5_isLetter mc_X5_isLetter (by decide) (Nat.le_of_ble_eq_true rfl) (sp_X5_isLetter (by omega) ?_)
        refine v_ifN_eq 38 26 dX5_fault_23 (by decide) rfl (by have := lB_lt (T i); omega) (fun h23 => ?_) (fun h23 => ?_)
        · skip
          refine v_iload_n 39 rfl dX5_fault_38 rfl ?_
          refine v_bipush 41 (nI (59)) (by decide) dX5_fault_39 rfl ?_
          refine v_icmpN_ne 53 44 dX5_fault_41 (by decide) rfl (by omega) (by omega) (fun h41 => ?_) (fun h41 => ?_)
          · skip
            refine v_iload_n 54 rfl dX5_fault_53 rfl ?_
            refine v_iret rfl dX5_fault_54 ?_
            have hno : ¬ okc T i := by
              rintro (⟨q1, q2⟩ | ⟨q1, q2⟩)
              · first | omega | exact lB_0 h23 q1
              · omega
            exact qZ hQ (show nI i = ftA T tl by rw [ftA, if_neg (noF_0 ho hi hno), tFS_e ho (Nat.le_of_lt hi) (Or.inr hno)])
          · skip
            refine v_iload_n 45 rfl dX5_fault_44 rfl ?_
            refine v_ifN_le 53 48 dX5_fault_45 (by decide) rfl (by omega) (fun h45 => ?_) (fun h45 => ?_)
            · skip
              refine v_iload_n 54 rfl dX5_fault_53 rfl ?_
              refine v_iret rfl dX5_fault_54 ?_
              have hno : ¬ okc T i := by
                rintro (⟨q1, q2⟩ | ⟨q1, q2⟩)
                · first | omega | exact lB_0 h23 q1
                · omega
              exact qZ hQ (show nI i = ftA T tl by rw [ftA, if_neg (noF_0 ho hi hno), tFS_e ho (Nat.le_of_lt hi) (Or.inr hno)])
            · skip
              refine v_iconst 49 (nI (0)) (by decide) dX5_fault_48 rfl ?_
              refine v_istore_n 50 [some (rfv x 27), some (.int (nI (0))), some (.int (nI (i))), some (.int (nI (T i)))] dX5_fault_49 rfl (by decide) rfl ?_
              refine v_goto 55 dX5_fault_50 (by decide) ?_
              refine v_iinc 58 [some (rfv x 27), some (.int (nI (0))), some (.int (nI (i + 1))), some (.int (nI (T i)))] (nI (i + 1)) dX5_fault_55 rfl (by decide) rfl (nI_inc _) rfl ?_
              refine v_goto 4 dX5_fault_58 (by decide) ?_
              have hk : okc T i := Or.inr ⟨h41, by omega⟩
              have e : tLt T (i + 1) = 0 := tLt_z h41
              refine v_drop [some (rfv x 27), some (.int (nI (tLt T (i + 1)))), some (.int (nI (i + 1))), none] (by simp [lsub, e]) ?_
              exact ih (tTo_s ho hk)
        · skip
          refine v_iload_n 27 rfl dX5_fault_26 rfl ?_
          refine v_bipush 29 (nI (7)) (by decide) dX5_fault_27 rfl ?_
          refine v_icmpN_ge 38 32 dX5_fault_29 (by decide) rfl (by omega) (by omega) (fun h29 => ?_) (fun h29 => ?_)
          · skip
            refine v_iload_n 39 rfl dX5_fault_38 rfl ?_
            refine v_bipush 41 (nI (59)) (by decide) dX5_fault_39 rfl ?_
            refine v_icmpN_ne 53 44 dX5_fault_41 (by decide) rfl (by omega) (by omega) (fun h41 => ?_) (fun h41 => ?_)
            · skip
              refine v_iload_n 54 rfl dX5_fault_53 rfl ?_
              refine v_iret rfl dX5_fault_54 ?_
              have hno : ¬ okc T i := by
                rintro (⟨q1, q2⟩ | ⟨q1, q2⟩)
                · first | omega | exact lB_0 h23 q1
                · omega
              exact qZ hQ (show nI i = ftA T tl by rw [ftA, if_neg (noF_0 ho hi hno), tFS_e ho (Nat.le_of_lt hi) (Or.inr hno)])
            · skip
              refine v_iload_n 45 rfl dX5_fault_44 rfl ?_
              refine v_ifN_le 53 48 dX5_fault_45 (by decide) rfl (by omega) (fun h45 => ?_) (fun h45 => ?_)
              · skip
                refine v_iload_n 54 rfl dX5_fault_53 rfl ?_
                refine v_iret rfl dX5_fault_54 ?_
                have hno : ¬ okc T i := by
                  rintro (⟨q1, q2⟩ | ⟨q1, q2⟩)
                  · first | omega | exact lB_0 h23 q1
                  · omega
                exact qZ hQ (show nI i = ftA T tl by rw [ftA, if_neg (noF_0 ho hi hno), tFS_e ho (Nat.le_of_lt hi) (Or.inr hno)])
              · skip
                refine v_iconst 49 (nI (0)) (by decide) dX5_fault_48 rfl ?_
                refine v_istore_n 50 [some (rfv x 27), some (.int (nI (0))), some (.int (nI (i))), some (.int (nI (T i)))] dX5_fault_49 rfl (by decide) rfl ?_
                refine v_goto 55 dX5_fault_50 (by decide) ?_
                refine v_iinc 58 [some (rfv x 27), some (.int (nI (0))), some (.int (nI (i + 1))), some (.int (nI (T i)))] (nI (i + 1)) dX5_fault_55 rfl (by decide) rfl (nI_inc _) rfl ?_
                refine v_goto 4 dX5_fault_58 (by decide) ?_
                have hk : okc T i := Or.inr ⟨h41, by omega⟩
                have e : tLt T (i + 1) = 0 := tLt_z h41
                refine v_drop [some (rfv x 27), some (.int (nI (tLt T (i + 1)))), some (.int (nI (i + 1))), none] (by simp [lsub, e]) ?_
                exact ih (tTo_s ho hk)
          · skip
            refine v_iinc 35 [some (rfv x 27), some (.int (nI ((tLt T i) + 1))), some (.int (nI (i))), some (.int (nI (T i)))] (nI ((tLt T i) + 1)) dX5_fault_32 rfl (by decide) rfl (nI_inc _) rfl ?_
            refine v_goto 55 dX5_fault_35 (by decide) ?_
            refine v_iinc 58 [some (rfv x 27), some (.int (nI ((tLt T i) + 1))), some (.int (nI (i + 1))), some (.int (nI (T i)))] (nI (i + 1)) dX5_fault_55 rfl (by decide) rfl (nI_inc _) rfl ?_
            refine v_goto 4 dX5_fault_58 (by decide) ?_
            have hk : okc T i := Or.inl ⟨lB_1 h23, by omega⟩
            have e : tLt T (i + 1) = tLt T i + 1 := tLt_s (by have := lB_1 h23; omega)
            refine v_drop [some (rfv x 27), some (.int (nI (tLt T (i + 1)))), some (.int (nI (i + 1))), none] (by simp [lsub, e]) ?_
            exact ih (tTo_s ho hk)
  refine v_drop [some (rfv x 27), some (.int (nI (tLt T 0))), some (.int (nI (0))), none] (by simp [lsub, tLt]) ?_
  exact lp 0 (Nat.zero_le _) (fun j hj => absurd hj (Nat.not_lt_zero j))
set_option maxHeartbeats 4000000 in
theorem sp_X5_samples {x : Cx} {Q : Qt} {I : Iv} {L : Lv} {P : Pv} {T : Tx} {tl : Nat} (ht : TC T tl I) (hl : tl ≤ 60) (hT : ∀ i, i < tl → T i < 65536) (hQ : Q (some (.int (nI (tM T tl)))) I L P) : SP x M_X5_samples [rfv x 27] I L P Q := by
  refine SP.intro [some (rfv x 27), none, none] pn_X5_samples (Nat.le_of_ble_eq_true rfl) rfl ?_
  refine v_iconst 1 (nI (1)) (by decide) dX5_samples_0 rfl ?_
  refine v_istore_n 2 [some (rfv x 27), some (.int (nI (1))), none] dX5_samples_1 rfl (by decide) rfl ?_
  refine v_iconst 3 (nI (0)) (by decide) dX5_samples_2 rfl ?_
  refine v_istore_n 4 [some (rfv x 27), some (.int (nI (1))), some (.int (nI (0)))] dX5_samples_3 rfl (by decide) rfl ?_
  have lp : ∀ i, i ≤ tl → V x M_X5_samples Q 4 [some (rfv x 27), some (.int (nI (tCn T i + 1))), some (.int (nI (i)))] [] I L P := by
    refine lpU ?_ ?_
    · skip
      refine v_iload_n 5 rfl dX5_samples_4 rfl ?_
      refine v_aload_n 6 rfl dX5_samples_5 rfl ?_
      refine v_get 9 (k := 1) 5 (.int (nI (tl))) (by decide) rfl (by decide) (by decide) dX5_samples_6 rfl fl_X5_15 (congrArg Value.int ht.1) ?_
      refine v_icmpN_ge 32 12 dX5_samples_9 (by decide) rfl (by omega) (by omega) (fun h9 => ?_) (fun h9 => ?_)
      · skip
        refine v_iload_n 33 rfl dX5_samples_32 rfl ?_
        refine v_iret rfl dX5_samples_33 ?_
        exact hQ
      · skip
        exact absurd h9 (by omega)
    · intro i hi ih 
      have hTi := hT i hi
      refine v_iload_n 5 rfl dX5_samples_4 rfl ?_
      refine v_aload_n 6 rfl dX5_samples_5 rfl ?_
      refine v_get 9 (k := 1) 5 (.int (nI (tl))) (by decide) rfl (by decide) (by decide) dX5_samples_6 rfl fl_X5_15 (congrArg Value.int ht.1) ?_
      refine v_icmpN_ge 32 12 dX5_samples_9 (by decide) rfl (by omega) (by omega) (fun h9 => ?_) (fun h9 => ?_)
      · skip
        exact absurd h9 (by omega)
      · skip
        refine v_aload_n 13 rfl dX5_samples_12 rfl ?_
        refine v_get 16 (k := 0) 5 (rfv x 28) (by decide) rfl (by decide) (by decide) dX5_samples_13 rfl fl_X5_9 rfl ?_
        refine v_iload_n 17 rfl dX5_samples_16 rfl ?_
        refine v_cald 18 (k := i) (nI (T i)) (by decide) rfl (by decide) dX5_samples_17 rfl rfl (by omega) (ht.2 i hi) ?_
        refine v_bipush 20 (nI (59)) (by decide) dX5_samples_18 rfl ?_
        refine v_icmpN_ne 26 23 dX5_samples_20 (by decide) rfl (by omega) (by omega) (fun h20 => ?_) (fun h20 => ?_)
        · skip
          refine v_iinc 29 [some (rfv x 27), some (.int (nI (tCn T i + 1))), some (.int (nI (i + 1)))] (nI (i + 1)) dX5_samples_26 rfl (by decide) rfl (nI_inc _) rfl ?_
          refine v_goto 4 dX5_samples_29 (by decide) ?_
          have e := tCn_s h20
          refine v_drop [some (rfv x 27), some (.int (nI (tCn T (i + 1) + 1))), some (.int (nI (i + 1)))] (by simp [lsub, e]) ?_
          exact ih
        · skip
          refine v_iinc 26 [some (rfv x 27), some (.int (nI ((tCn T i + 1) + 1))), some (.int (nI (i)))] (nI ((tCn T i + 1) + 1)) dX5_samples_23 rfl (by decide) rfl (nI_inc _) rfl ?_
          refine v_iinc 29 [some (rfv x 27), some (.int (nI ((tCn T i + 1) + 1))), some (.int (nI (i + 1)))] (nI (i + 1)) dX5_samples_26 rfl (by decide) rfl (nI_inc _) rfl ?_
          refine v_goto 4 dX5_samples_29 (by decide) ?_
          have e := tCn_z h20
          refine v_drop [some (rfv x 27), some (.int (nI (tCn T (i + 1) + 1))), some (.int (nI (i + 1)))] (by simp [lsub, e]) ?_
          exact ih
  refine v_drop [some (rfv x 27), some (.int (nI (tCn T 0 + 1))), some (.int (nI (0)))] (by simp [lsub, tCn]) ?_
  exact lp 0 (Nat.zero_le _)
set_option maxHeartbeats 4000000 in
theorem sp_X3_beginSample {x : Cx} {Q : Qt} {I : Iv} {L : Lv} {P : Pv} {n : Nat} (h : I 1 5 = nI n) (hn : n < 6) (hQ : ∀ I1 : Iv, (∀ a q, (a ≠ 1 ∨ q ≠ 5) → (a ≠ 3 ∨ q ≠ n) → I1 a q = I a q) → I1 1 5 = nI (n + 1) → I1 3 n = nI 0 → Q none I1 L P) : SP x M_X3_beginSample [rfv x 1] I L P Q := by
  refine SP.intro [some (rfv x 1)] pn_X3_beginSample (Nat.le_of_ble_eq_true rfl) rfl ?_
  refine v_aload_n 1 rfl dX3_beginSample_0 rfl ?_
  refine v_get 4 (k := 3) 3 (rfv x 3) (by decide) rfl (by decide) (by decide) dX3_beginSample_1 rfl fl_X3_22 rfl ?_
  refine v_aload_n 5 rfl dX3_beginSample_4 rfl ?_
  refine v_get 8 (k := 5) 3 (.int (nI (n))) (by decide) rfl (by decide) (by decide) dX3_beginSample_5 rfl fl_X3_34 (congrArg Value.int h) ?_
  refine v_iconst 9 (nI (0)) (by decide) dX3_beginSample_8 rfl ?_
  refine v_iast 10 (k := n) (nI (0)) (by decide) rfl (by decide) dX3_beginSample_9 rfl rfl (by omega) rfl (fun I9 e9 => ?_)
  refine v_aload_n 11 rfl dX3_beginSample_10 rfl ?_
  refine v_dup 12 dX3_beginSample_11 rfl rfl ?_
  refine v_get 15 (k := 5) 3 (.int (nI (n))) (by decide) rfl (by decide) (by decide) dX3_beginSample_12 rfl fl_X3_34 (congrArg Value.int ((up2_off e9 (by omega)).trans h)) ?_
  refine v_iconst 16 (nI (1)) (by decide) dX3_beginSample_15 rfl ?_
  refine v_iadd 17 (nI (n + 1)) dX3_beginSample_16 rfl (nI_add _ _) ?_
  refine v_putI 20 (k := 5) 3 .int (by decide) rfl (by decide) (by decide) rfl (by decide +kernel) rfl rfl (fun _ _ => rfl) dX3_beginSample_17 rfl fl_X3_34 (fun I17 e17 => ?_)
  refine v_vret rfl dX3_beginSample_20 ?_
  exact hQ I17 (fun a q z1 z2 => (up2_off e17 (by omega)).trans (up2_off e9 (by omega))) (up2_at e17) ((up2_off e17 (by omega)).trans (up2_at e9))
set_option maxHeartbeats 4000000 in
theorem sp_X3_appendSign {x : Cx} {Q : Qt} {I : Iv} {L : Lv} {P : Pv} {n l v : Nat} (h : I 1 5 = nI (n + 1)) (hn : n < 6) (hl : I 3 n = nI l) (hl7 : l < 7) (hQ : ∀ I1 : Iv, (∀ a q, (a ≠ 3 ∨ q ≠ n) → (a ≠ 4 ∨ q ≠ n * 7 + l) → I1 a q = I a q) → I1 3 n = nI (l + 1) → I1 4 (n * 7 + l) = nI v → Q none I1 L P) : SP x M_X3_appendSign [rfv x 1, .int (nI (v))] I L P Q := by
  refine SP.intro [some (rfv x 1), some (.int (nI (v))), none] pn_X3_appendSign (Nat.le_of_ble_eq_true rfl) rfl ?_
  refine v_aload_n 1 rfl dX3_appendSign_0 rfl ?_
  refine v_get 4 (k := 5) 3 (.int (nI (n + 1))) (by decide) rfl (by decide) (by decide) dX3_appendSign_1 rfl fl_X3_34 (congrArg Value.int h) ?_
  refine v_iconst 5 (nI (1)) (by decide) dX3_appendSign_4 rfl ?_
  refine v_isub 6 (nI (n)) dX3_appendSign_5 rfl (nI_pred n) ?_
  refine v_istore_n 7 [some (rfv x 1), some (.int (nI (v))), some (.int (nI (n)))] dX3_appendSign_6 rfl (by decide) rfl ?_
  refine v_aload_n 8 rfl dX3_appendSign_7 rfl ?_
  refine v_get 11 (k := 4) 3 (rfv x 4) (by decide) rfl (by decide) (by decide) dX3_appendSign_8 rfl fl_X3_25 rfl ?_
  refine v_iload_n 12 rfl dX3_appendSign_11 rfl ?_
  refine v_bipush 14 (nI (7)) (by decide) dX3_appendSign_12 rfl ?_
  refine v_imul 15 (nI (n * 7)) dX3_appendSign_14 rfl (pk_mul _ _) ?_
  refine v_aload_n 16 rfl dX3_appendSign_15 rfl ?_
  refine v_get 19 (k := 3) 3 (rfv x 3) (by decide) rfl (by decide) (by decide) dX3_appendSign_16 rfl fl_X3_22 rfl ?_
  refine v_iload_n 20 rfl dX3_appendSign_19 rfl ?_
  refine v_iald 21 (k := n) (nI (l)) (by decide) rfl (by decide) dX3_appendSign_20 rfl rfl (by omega) hl ?_
  refine v_iadd 22 (nI ((n * 7) + l)) dX3_appendSign_21 rfl (nI_add _ _) ?_
  refine v_iload_n 23 rfl dX3_appendSign_22 rfl ?_
  refine v_iast 24 (k := (n * 7) + l) (nI (v)) (by decide) rfl (by decide) dX3_appendSign_23 rfl rfl (by omega) rfl (fun I23 e23 => ?_)
  refine v_aload_n 25 rfl dX3_appendSign_24 rfl ?_
  refine v_get 28 (k := 3) 3 (rfv x 3) (by decide) rfl (by decide) (by decide) dX3_appendSign_25 rfl fl_X3_22 rfl ?_
  refine v_iload_n 29 rfl dX3_appendSign_28 rfl ?_
  refine v_dup2 30 dX3_appendSign_29 rfl rfl rfl ?_
  refine v_iald 31 (k := n) (nI (l)) (by decide) rfl (by decide) dX3_appendSign_30 rfl rfl (by omega) ((up2_off e23 (by omega)).trans hl) ?_
  refine v_iconst 32 (nI (1)) (by decide) dX3_appendSign_31 rfl ?_
  refine v_iadd 33 (nI (l + 1)) dX3_appendSign_32 rfl (nI_add _ _) ?_
  refine v_iast 34 (k := n) (nI (l + 1)) (by decide) rfl (by decide) dX3_appendSign_33 rfl rfl (by omega) rfl (fun I33 e33 => ?_)
  refine v_vret rfl dX3_appendSign_34 ?_
  exact hQ I33 (fun a q z1 z2 => (up2_off e33 (by omega)).trans (up2_off e23 (by omega))) (up2_at e33) ((up2_off e33 (by omega)).trans (up2_at e23))
set_option maxHeartbeats 4000000 in
theorem sp_X5_appendTo {x : Cx} {Q : Qt} {I : Iv} {L : Lv} {P : Pv} {f : Vw} (c : RC 1 f I) {T : Tx} {tl : Nat} (ht : TC T tl I) (hl : tl ≤ 60) (hT : ∀ i, i < tl → T i < 65536) (ho : tTo T tl) (h6 : f 1 + tM T tl ≤ 6) (hQ : ∀ I1 : Iv, (∀ a q, (a ≠ 1 ∨ q ≠ 5) → (a ≠ 3 ∨ q < f 1) → (a ≠ 4 ∨ q < f 1 * 7) → I1 a q = I a q) → I1 1 5 = nI (f 1 + tM T tl) → (∀ k, k < tM T tl → I1 3 (f 1 + k) = nI (tRT T tl (8 * k))) → (∀ k p, k < tM T tl → p < tRT T tl (8 * k) → I1 4 ((f 1 + k) * 7 + p) = nI (tRT T tl (8 * k + 1 + p))) → Q none I1 L P) : SP x M_X5_appendTo [rfv x 27, rfv x 1] I L P Q := by
  unfold tM at h6 hQ
  refine SP.intro [some (rfv x 27), some (rfv x 1), none] pn_X5_appendTo (Nat.le_of_ble_eq_true rfl) rfl ?_
  refine v_aload_n 1 rfl dX5_appendTo_0 rfl ?_
  refine v_invV 4 M_X3_beginSample [] (by decide) rfl (by decide) rfl dX5_appendTo_1 rfl ml_X5_23 im_X3_beginSample se_X3_beginSample mc_X3_beginSample (by decide) (Nat.le_of_ble_eq_true rfl) (sp_X3_beginSample (n := f 1) c.sm (by omega) (fun I0 f0 g1 g2 => ?_))
  refine v_iconst 5 (nI (0)) (by decide) dX5_appendTo_4 rfl ?_
  refine v_istore_n 6 [some (rfv x 27), some (rfv x 1), some (.int (nI (0)))] dX5_appendTo_5 rfl (by decide) rfl ?_
  have lp : ∀ i, i ≤ tl → ∀ Ij : Iv, (∀ a q, (a ≠ 1 ∨ q ≠ 5) → (a ≠ 3 ∨ q < f 1) → (a ≠ 4 ∨ q < f 1 * 7) → Ij a q = I a q) → Ij 1 5 = nI (f 1 + (tCn T i + 1)) → (∀ k, k ≤ tCn T i → Ij 3 (f 1 + k) = nI (tRT T i (8 * k))) → (∀ k p, k ≤ tCn T i → p < tRT T i (8 * k) → Ij 4 ((f 1 + k) * 7 + p) = nI (tRT T i (8 * k + 1 + p))) → V x M_X5_appendTo Q 6 [some (rfv x 27), some (rfv x 1), some (.int (nI (i)))] [] Ij L P := by
    refine lpU ?_ ?_
    · intro Ij hF hB hN hS
      refine v_iload_n 7 rfl dX5_appendTo_6 rfl ?_
      refine v_aload_n 8 rfl dX5_appendTo_7 rfl ?_
      refine v_get 11 (k := 1) 5 (.int (nI (tl))) (by decide) rfl (by decide) (by decide) dX5_appendTo_8 rfl fl_X5_15 (congrArg Value.int ((hF 27 1 (by omega) (by omega) (by omega)).trans ht.1)) ?_
      refine v_icmpN_ge 51 14 dX5_appendTo_11 (by decide) rfl (by omega) (by omega) (fun h11 => ?_) (fun h11 => ?_)
      · skip
        refine v_vret rfl dX5_appendTo_51 ?_
        exact hQ Ij hF hB (fun k hk => hN k (by omega)) (fun k p hk hp => hS k p (by omega) hp)
      · skip
        exact absurd h11 (by omega)
    · intro i hi ih Ij hF hB hN hS
      have hTi := hT i hi
      have hoi : tTo T i := tTo_le ho (by omega)
      have hoc := ho i hi
      have h7 := tLt_le hoi
      refine v_iload_n 7 rfl dX5_appendTo_6 rfl ?_
      refine v_aload_n 8 rfl dX5_appendTo_7 rfl ?_
      refine v_get 11 (k := 1) 5 (.int (nI (tl))) (by decide) rfl (by decide) (by decide) dX5_appendTo_8 rfl fl_X5_15 (congrArg Value.int ((hF 27 1 (by omega) (by omega) (by omega)).trans ht.1)) ?_
      refine v_icmpN_ge 51 14 dX5_appendTo_11 (by decide) rfl (by omega) (by omega) (fun h11 => ?_) (fun h11 => ?_)
      · skip
        exact absurd h11 (by omega)
      · skip
        refine v_aload_n 15 rfl dX5_appendTo_14 rfl ?_
        refine v_get 18 (k := 0) 5 (rfv x 28) (by decide) rfl (by decide) (by decide) dX5_appendTo_15 rfl fl_X5_9 rfl ?_
        refine v_iload_n 19 rfl dX5_appendTo_18 rfl ?_
        refine v_cald 20 (k := i) (nI (T i)) (by decide) rfl (by decide) dX5_appendTo_19 rfl rfl (by omega) ((hF 28 i (by omega) (by omega) (by omega)).trans (ht.2 i hi)) ?_
        refine v_bipush 22 (nI (59)) (by decide) dX5_appendTo_20 rfl ?_
        refine v_icmpN_ne 32 25 dX5_appendTo_22 (by decide) rfl (by omega) (by omega) (fun h22 => ?_) (fun h22 => ?_)
        · skip
          have hm : tCn T i ≤ tCn T tl := tCn_le (by omega)
          have h97 : (97 ≤ T i ∧ T i ≤ 99) ∧ tLt T i < 7 := hoc.resolve_right (fun q => h22 q.1)
          refine v_aload_n 33 rfl dX5_appendTo_32 rfl ?_
          refine v_aload_n 34 rfl dX5_appendTo_33 rfl ?_
          refine v_get 37 (k := 0) 5 (rfv x 28) (by decide) rfl (by decide) (by decide) dX5_appendTo_34 rfl fl_X5_9 rfl ?_
          refine v_iload_n 38 rfl dX5_appendTo_37 rfl ?_
          refine v_cald 39 (k := i) (nI (T i)) (by decide) rfl (by decide) dX5_appendTo_38 rfl rfl (by omega) ((hF 28 i (by omega) (by omega) (by omega)).trans (ht.2 i hi)) ?_
          refine v_bipush 41 (nI (97)) (by decide) dX5_appendTo_39 rfl ?_
          refine v_isub 42 (nI ((T i) - 97)) dX5_appendTo_41 rfl (pk_sub (by omega)) ?_
          refine v_invV 45 M_X3_appendSign [.int (nI ((T i) - 97))] (by decide) rfl (by decide) rfl dX5_appendTo_42 rfl ml_X5_28 im_X3_appendSign se_X3_appendSign mc_X3_appendSign (by decide) (Nat.le_of_ble_eq_true rfl) (sp_X3_appendSign (n := f 1 + tCn T i) (l := tLt T i) hB (by omega) (by rw [hN _ (Nat.le_refl _), tRT_c i hoi]) (by omega) (fun Ib fb b1 b2 => ?_))
          refine v_iinc 48 [some (rfv x 27), some (rfv x 1), some (.int (nI (i + 1)))] (nI (i + 1)) dX5_appendTo_45 rfl (by decide) rfl (nI_inc _) rfl ?_
          refine v_goto 6 dX5_appendTo_48 (by decide) ?_
          refine v_drop [some (rfv x 27), some (rfv x 1), some (.int (nI (i + 1)))] (by simp [lsub, smN_s]) ?_
          have er := tRT_ss h22
          have ec := tCn_s h22
          refine ih Ib (fun a q z1 z2 z3 => (fb a q (by omega) (by omega)).trans (hF a q z1 z2 z3)) (by rw [ec]; exact (fb 1 5 (by omega) (by omega)).trans hB) (fun k hk => ?_) (fun k j hk hj => ?_)
          · by_cases y : k = tCn T i
            · rw [y, er, if_neg (by omega), if_pos rfl]
              exact b1
            · rw [er, if_neg (by omega), if_neg (by omega)]
              exact (fb 3 (f 1 + k) (by omega) (by omega)).trans (hN k (by omega))
          · by_cases y : k = tCn T i
            · subst y
              rw [er, if_neg (by omega), if_pos rfl] at hj
              by_cases y2 : j = tLt T i
              · rw [y2, er, if_pos rfl]
                exact b2
              · rw [er, if_neg (by omega), if_neg (by omega)]
                exact (fb 4 _ (by omega) (by omega)).trans (hS _ j (Nat.le_refl _) (by rw [tRT_c i hoi]; omega))
            · rw [er, if_neg (by omega), if_neg (by omega)] at hj
              have h9 := tRT_n i hoi k (by omega)
              rw [er, if_neg (by omega), if_neg (by omega)]
              exact (fb 4 _ (by omega) (by omega)).trans (hS k j (by omega) hj)
        · skip
          have hm : tCn T i + 1 ≤ tCn T tl := by
            have := tCn_le (T := T) (i := i + 1) (j := tl) (by omega)
            rwa [tCn_z h22] at this
          refine v_aload_n 26 rfl dX5_appendTo_25 rfl ?_
          refine v_invV 29 M_X3_beginSample [] (by decide) rfl (by decide) rfl dX5_appendTo_26 rfl ml_X5_23 im_X3_beginSample se_X3_beginSample mc_X3_beginSample (by decide) (Nat.le_of_ble_eq_true rfl) (sp_X3_beginSample (n := f 1 + (tCn T i + 1)) hB (by omega) (fun Ia fa a1 a2 => ?_))
          refine v_goto 45 dX5_appendTo_29 (by decide) ?_
          refine v_iinc 48 [some (rfv x 27), some (rfv x 1), some (.int (nI (i + 1)))] (nI (i + 1)) dX5_appendTo_45 rfl (by decide) rfl (nI_inc _) rfl ?_
          refine v_goto 6 dX5_appendTo_48 (by decide) ?_
          refine v_drop [some (rfv x 27), some (rfv x 1), some (.int (nI (i + 1)))] (by simp [lsub, smN_s]) ?_
          have er := tRT_sz h22
          have ec := tCn_z h22
          refine ih Ia (fun a q z1 z2 z3 => (fa a q z1 (by omega)).trans (hF a q z1 z2 z3)) (by rw [ec]; exact a1) (fun k hk => ?_) (fun k j hk hj => ?_)
          · rw [er]
            by_cases y : k = tCn T i + 1
            · rw [y, tRT_0 i hoi _ (by omega)]
              exact a2
            · exact (fa 3 (f 1 + k) (by omega) (by omega)).trans (hN k (by omega))
          · rw [er] at hj ⊢
            by_cases y : k = tCn T i + 1
            · rw [y, tRT_0 i hoi _ (by omega)] at hj
              exact absurd hj (Nat.not_lt_zero _)
            · exact (fa 4 _ (by omega) (by omega)).trans (hS k j (by omega) hj)
  refine v_drop [some (rfv x 27), some (rfv x 1), some (.int (nI (0)))] (by simp [lsub, smN, amN, dbW, mxN]) ?_
  exact lp 0 (Nat.zero_le _) I0 (fun a q z1 z2 z3 => f0 a q z1 (by omega)) g1 (fun k hk => by rw [show k = 0 from Nat.le_zero.mp hk]; exact g2) (fun k j hk hj => absurd hj (Nat.not_lt_zero _))
set_option maxHeartbeats 4000000 in
theorem sp_X7_addSamples {x : Cx} {Q : Qt} {I : Iv} {L : Lv} {P : Pv} {f : Vw} {H : Hs} {hn sn : Nat} {g : Vw} {T : Tx} {tl : Nat} (ci : CI f H hn sn g T tl I P) (wi : WI f H hn sn g T tl) (hQ : ∀ (I1 : Iv) (L1 : Lv) (P1 : Pv), (∀ a, 40 ≤ a → I1 a = I a) → CI (stF (smB f T tl) f (smV f T tl)) (stH (smB f T tl) H hn f) (stN (smB f T tl) hn) sn g T tl I1 P1 → Q (some (.int (smA f T tl))) I1 L1 P1) : SP x M_X7_addSamples [rfv x 0] I L P Q := by
  obtain ⟨c, hc, hsn, hsg, htx⟩ := id ci
  obtain ⟨w, hw, hs2, hwg, htl, hT⟩ := id wi
  have := w.n4
  have := w.m6
  have := w.n1
  refine SP.intro [some (rfv x 0), none, none] pn_X7_addSamples (Nat.le_of_ble_eq_true rfl) rfl ?_
  refine v_aload_n 1 rfl dX7_addSamples_0 rfl ?_
  refine v_get 4 (k := 4) 7 (rfv x 27) (by decide) rfl (by decide) (by decide) dX7_addSamples_1 rfl fl_X7_34 rfl ?_
  refine v_invV 7 M_X5_fault [] (by decide) rfl (by decide) rfl dX7_addSamples_4 rfl ml_X7_117 im_X5_fault se_X5_fault mc_X5_fault (by decide) (Nat.le_of_ble_eq_true rfl) (sp_X5_fault htx htl hT ?_)
  refine v_istore_n 8 [some (rfv x 0), some (.int (ftA T tl)), none] dX7_addSamples_7 rfl (by decide) rfl ?_
  refine v_iload_n 9 rfl dX7_addSamples_8 rfl ?_
  refine v_iconst 10 ((-1)) (by decide) dX7_addSamples_9 rfl ?_
  refine v_icmp_eq 18 13 dX7_addSamples_10 (by decide) rfl (fun h10 => ?_) (fun h10 => ?_)
  · skip
    have hz : noF T tl := Classical.byContradiction fun q => nI_neg (by have := tFS_le (T := T) tl 0; omega) (by decide) ((if_neg q).symm.trans h10)
    have hM : tM T tl ≤ 61 := by have := tCn_lt (T := T) tl; unfold tM; omega
    refine v_aload_n 19 rfl dX7_addSamples_18 rfl ?_
    refine v_get 22 (k := 4) 7 (rfv x 27) (by decide) rfl (by decide) (by decide) dX7_addSamples_19 rfl fl_X7_34 rfl ?_
    refine v_invV 25 M_X5_samples [] (by decide) rfl (by decide) rfl dX7_addSamples_22 rfl ml_X7_121 im_X5_samples se_X5_samples mc_X5_samples (by decide) (Nat.le_of_ble_eq_true rfl) (sp_X5_samples htx htl hT ?_)
    refine v_istore_n 26 [some (rfv x 0), some (.int (ftA T tl)), some (.int (nI (tM T tl)))] dX7_addSamples_25 rfl (by decide) rfl ?_
    refine v_aload_n 27 rfl dX7_addSamples_26 rfl ?_
    refine v_get 30 (k := 0) 7 (rfv x 1) (by decide) rfl (by decide) (by decide) dX7_addSamples_27 rfl fl_X7_15 rfl ?_
    refine v_getN 33 (k := 5) 3 (.int (nI (f 1))) (by decide) rfl (by decide) (by decide) dX7_addSamples_30 rfl fl_X7_124 (congrArg Value.int c.sm) ?_
    refine v_iload_n 34 rfl dX7_addSamples_33 rfl ?_
    refine v_iadd 35 (nI ((f 1) + (tM T tl))) dX7_addSamples_34 rfl (nI_add _ _) ?_
    refine v_bipush 37 (nI (6)) (by decide) dX7_addSamples_35 rfl ?_
    refine v_icmpN_le 43 40 dX7_addSamples_37 (by decide) rfl (by omega) (by omega) (fun h37 => ?_) (fun h37 => ?_)
    · skip
      have h6 : ¬ 6 < f 1 + tM T tl := by omega
      refine v_aload_n 44 rfl dX7_addSamples_43 rfl ?_
      refine v_get 47 (k := 3) 7 (rfv x 9) (by decide) rfl (by decide) (by decide) dX7_addSamples_44 rfl fl_X7_27 rfl ?_
      refine v_aload_n 48 rfl dX7_addSamples_47 rfl ?_
      refine v_get 51 (k := 0) 7 (rfv x 1) (by decide) rfl (by decide) (by decide) dX7_addSamples_48 rfl fl_X7_15 rfl ?_
      refine v_invV 54 M_X1_record [rfv x 1] (by decide) rfl (by decide) rfl dX7_addSamples_51 rfl ml_X7_81 im_X1_record se_X1_record mc_X1_record (by decide) (Nat.le_of_ble_eq_true rfl) (sp_X1_record hc c w (fun Ir Pr fr hcr => ?_))
      refine v_aload_n 55 rfl dX7_addSamples_54 rfl ?_
      refine v_get 58 (k := 4) 7 (rfv x 27) (by decide) rfl (by decide) (by decide) dX7_addSamples_55 rfl fl_X7_34 rfl ?_
      refine v_aload_n 59 rfl dX7_addSamples_58 rfl ?_
      refine v_get 62 (k := 0) 7 (rfv x 1) (by decide) rfl (by decide) (by decide) dX7_addSamples_59 rfl fl_X7_15 rfl ?_
      have c1 : RC 1 f Ir := c.same (fun a _ _ => fr a (by omega))
      have t1 : TC T tl Ir := ⟨by rw [fr 27 (by omega)]; exact htx.1, fun i hi => by rw [fr 28 (by omega)]; exact htx.2 i hi⟩
      refine v_invV 65 M_X5_appendTo [rfv x 1] (by decide) rfl (by decide) rfl dX7_addSamples_62 rfl ml_X7_126 im_X5_appendTo se_X5_appendTo mc_X5_appendTo (by decide) (Nat.le_of_ble_eq_true rfl) (sp_X5_appendTo c1 t1 htl hT (noF_to hz) (by omega) (fun Ia fa a1 a2 a3 => ?_))
      refine v_iload_n 66 rfl dX7_addSamples_65 rfl ?_
      refine v_iret rfl dX7_addSamples_66 ?_
      have k1 : ∀ a, a ≠ 1 → a ≠ 3 → a ≠ 4 → Ia a = Ir a := fun a z1 z2 z3 => funext fun q => fa a q (Or.inl z1) (Or.inl z2) (Or.inl z3)
      refine qZ (hQ Ia L Pr (fun a ha => (k1 a (by omega) (by omega) (by omega)).trans (fr a (by omega))) ?_) (by rw [smA, if_pos hz, if_neg h6])
      rw [show smB f T tl = true by rw [smB, if_pos hz, if_neg h6]]
      refine ⟨c1.smp w fa a1 a2 a3, hcr.same (fun a _ _ => k1 a (by omega) (by omega) (by omega)), ?_, fun e => ?_, ?_, fun i hi => ?_⟩
      · rw [k1 0 (by decide) (by decide) (by decide), fr 0 (by omega)]
        exact hsn
      · exact (hsg e).same (fun a _ _ => (k1 a (by omega) (by omega) (by omega)).trans (fr a (by omega)))
      · rw [k1 27 (by decide) (by decide) (by decide), fr 27 (by omega)]
        exact htx.1
      · rw [k1 28 (by decide) (by decide) (by decide), fr 28 (by omega)]
        exact htx.2 i hi
    · skip
      refine v_bipush 42 ((-3)) (by decide) dX7_addSamples_40 rfl ?_
      refine v_iret rfl dX7_addSamples_42 ?_
      refine qZ (hQ I L P (fun _ _ => rfl) ?_) (by rw [smA, if_pos hz, if_pos h37])
      simp only [smB, if_pos hz, if_pos h37]
      exact ci
  · skip
    refine v_bipush 15 ((-100)) (by decide) dX7_addSamples_13 rfl ?_
    refine v_iload_n 16 rfl dX7_addSamples_15 rfl ?_
    refine v_isub 17 (((-100)) - (ftA T tl)) dX7_addSamples_16 rfl rfl ?_
    refine v_iret rfl dX7_addSamples_17 ?_
    have hz : ¬ noF T tl := fun q => h10 (if_pos q)
    refine qZ (hQ I L P (fun _ _ => rfl) ?_) (by rw [smA, if_neg hz, ftA, if_neg hz])
    rw [show smB f T tl = false from if_neg hz]
    exact ci
