/-! what the reading calls answer -/
def ix (z : Int32) : Nat := z.toNatClampNeg
def ipl (f : Vw) (z p : Int32) : Nat := if inb z (f 1) = 0 then 0 else inb p (nP f (ix z))
def dW (f : Vw) (k : Nat) : Nat := if 0 < totW f k then dbW f k (nP f k) else 0
def aSign (f : Vw) (z p : Int32) : Int32 := if ipl f z p = 0 then (-1) else nI (sG f (ix z) (ix p))
def aOf (f : Vw) (z h : Int32) : Int64 := if inb z (f 1) = 0 then (-1) else if h = nI 0 then lN (totW f (ix z)) else if h = nI 1 then lN (cntW f (ix z)) else if h = nI 2 then lN (bestW f (ix z)) else (-2)
def aBest (f : Vw) (z p : Int32) : Int32 := if ipl f z p = 0 then (-1) else if 0 < bestW f (ix z) then nI (pathW f (ix z) (ix p)) else (-5)
def aShare (f : Vw) (z p s : Int32) : Int32 := if ipl f z p = 0 ∨ inb s (f 0) = 0 then (-1) else if 0 < totW f (ix z) then nI (shN (wtW f (ix z) (ix p) (ix s)) (totW f (ix z))) else (-5)
def aLike (f : Vw) (z p : Int32) : Int32 := if ipl f z p = 0 then (-1) else if 0 < totW f (ix z) then nI (lkW f (ix z) (ix p)) else (-5)
def aDoubt (f : Vw) (z : Int32) : Int32 := if inb z (f 1) = 0 then (-1) else nI (dW f (ix z))
def aRun (f : Vw) (z r p : Int32) : Int32 := if ipl f z p = 0 then (-1) else if r < 0 then (-2) else if ix r < cntW f (ix z) then nI (rkW f (ix z) (ix r) (ix p + 1)).2 else (-5)
def nxT (f : Vw) (k : Nat) : Nat := smN 3 (nxW f k)
def aNext (f : Vw) (z g : Int32) : Int32 := if inb z (f 1) = 0 ∨ inb g 3 = 0 then (-1) else if 0 < nxT f (ix z) then nI (shN (nxW f (ix z) (ix g)) (nxT f (ix z))) else (-5)
/-- what lives on behind a reading call -/
def live (a q : Nat) : Prop := a ≤ 28 ∨ (a = 40 ∧ (q = 4 ∨ q = 6 ∨ q = 8)) ∨ a = 41 ∨ a = 43 ∨ a = 44 ∨ a = 45
def Kp (I I1 : Iv) : Prop := ∀ a q, live a q → I1 a q = I a q
theorem Kp.rf (I : Iv) : Kp I I := fun _ _ _ => rfl
theorem Kp.tr {I I1 I2 : Iv} (h : Kp I I1) (g : Kp I1 I2) : Kp I I2 := fun a q hl => (g a q hl).trans (h a q hl)
theorem Kp.row {I I1 : Iv} (h : Kp I I1) {a : Nat} (ha : a ≤ 28 ∨ a = 41 ∨ a = 43 ∨ a = 44 ∨ a = 45) : I1 a = I a := funext (fun q => h a q (by unfold live; omega))
theorem ix_n {k : Nat} (h : k < 2147483648) : ix (nI k) = k := nI_clamp h
theorem ipl_0 {f : Vw} {z p : Int32} (h : inb z (f 1) = 0) : ipl f z p = 0 := if_pos h
theorem ipl_b {f : Vw} {z p : Int32} (h : inb z (f 1) ≠ 0) : ipl f z p = inb p (nP f (ix z)) := if_neg h
theorem ipl_lt (f : Vw) (z p : Int32) : ipl f z p < 2 := by
  unfold ipl
  split
  · decide
  · exact inb_lt _ _
theorem ipl_1 {f : Vw} {z p : Int32} (w : Wf f) (h : ipl f z p ≠ 0) : ∃ k q, k < f 1 ∧ q < nP f k ∧ z = nI k ∧ p = nI q := by
  have h6 := w.m6
  by_cases c : inb z (f 1) = 0
  · exact absurd (ipl_0 c) h
  · obtain ⟨k, hk, ez⟩ := inb_1 (by omega) c
    rw [ipl_b c, ez, ix_n (by omega)] at h
    obtain ⟨q, hq, ep⟩ := inb_1 (by have := (w.p hk).2; omega) h
    exact ⟨k, q, hk, hq, ez, ep⟩
theorem ipl_in {f : Vw} (w : Wf f) {k q : Nat} (hk : k < f 1) (hq : q < nP f k) : ipl f (nI k) (nI q) = 1 := by
  have h6 := w.m6
  have h7 := (w.p hk).2
  rw [ipl_b (by rw [inb_in hk (by omega)]; decide), ix_n (by omega), inb_in hq (by omega)]
theorem qZ {Q : Qt} {I : Iv} {L : Lv} {P : Pv} {a b : Int32} (h : Q (some (.int a)) I L P) (e : b = a) : Q (some (.int b)) I L P := e ▸ h
theorem qW {Q : Qt} {I : Iv} {L : Lv} {P : Pv} {a b : Int64} (h : Q (some (.long a)) I L P) (e : b = a) : Q (some (.long b)) I L P := e ▸ h
theorem nxT_le {f : Vw} {k : Nat} (w : Wf f) (hk : k < f 1) : nxT f k < 576460752303423488 := by
  have h := smN_le (g := nxW f k) (n := 3) (c := 184884258895036416) (fun g hg => nxW_le w hk hg)
  unfold nxT
  omega
theorem mul_pos_both {a b c : Nat} (h : 0 < b ↔ 0 < c) : 0 < a * b ↔ 0 < a * c := by
  by_cases ha : a = 0
  · subst ha
    simp
  · by_cases hb : b = 0
    · have hc : c = 0 := by omega
      rw [hb, hc]
    · have hc : 0 < c := h.mp (by omega)
      exact ⟨fun _ => Nat.mul_pos (by omega) hc, fun _ => Nat.mul_pos (by omega) (by omega)⟩
theorem gr_pos {f : Vw} {k : Nat} (w : Wf f) : ∀ j, j < nP f k → ∀ s, s < f 0 → (0 < grR f k j s ↔ 0 < bhR f k j s)
  | 0, _, s, _ => by simp [grR, bhR]
  | j + 1, hj, s, hs => by
    have mp : ∀ (g : Nat → Nat) n, 0 < mxN n g ↔ 0 < smN n g := fun g n => by
      induction n with
      | zero => simp [mxN, smN]
      | succ n ih =>
        rw [mxN_s, smN_s]
        split <;> omega
    rw [grR, bhR, mp]
    have key : ∀ n, n ≤ f 0 → (0 < smN n (fun t => stW f k (nP f k - 2 - j) s t * grR f k j t) ↔ 0 < smN n (fun t => stW f k (nP f k - 2 - j) s t * bhR f k j t)) := by
      intro n
      induction n with
      | zero => intro _; simp [smN]
      | succ n ih =>
        intro hn
        have h1 := ih (by omega)
        have h2 := gr_pos (k := k) w j (by omega) n (by omega)
        have h3 := mul_pos_both (a := stW f k (nP f k - 2 - j) s n) h2
        rw [smN_s, smN_s]
        constructor
        · intro q
          rcases (show 0 < smN n (fun t => stW f k (nP f k - 2 - j) s t * grR f k j t) ∨ 0 < stW f k (nP f k - 2 - j) s n * grR f k j n by omega) with q1 | q1
          · have := h1.mp q1
            omega
          · have := h3.mp q1
            omega
        · intro q
          rcases (show 0 < smN n (fun t => stW f k (nP f k - 2 - j) s t * bhR f k j t) ∨ 0 < stW f k (nP f k - 2 - j) s n * bhR f k j n by omega) with q1 | q1
          · have := h1.mpr q1
            omega
          · have := h3.mpr q1
            omega
    exact key (f 0) (Nat.le_refl _)
theorem best_tot {f : Vw} {k : Nat} (w : Wf f) (hk : k < f 1) : 0 < bestW f k ↔ 0 < totW f k := by
  have mp : ∀ (g : Nat → Nat) n, 0 < mxN n g ↔ 0 < smN n g := fun g n => by
    induction n with
    | zero => simp [mxN, smN]
    | succ n ih =>
      rw [mxN_s, smN_s]
      split <;> omega
  unfold bestW totW
  rw [mp]
  have hp := w.p hk
  have key : ∀ n, n ≤ f 0 → (0 < smN n (bgW f k) ↔ 0 < smN n (fun s => wtW f k 0 s)) := by
    intro n
    induction n with
    | zero => intro _; simp [smN]
    | succ n ih =>
      intro hn
      have h1 := ih (by omega)
      have h2 := gr_pos (k := k) w (nP f k - 1 - 0) (by omega) n (by omega)
      have h3 := mul_pos_both (a := upW f k 0 n) h2
      have e1 : bgW f k n = upW f k 0 n * grR f k (nP f k - 1 - 0) n := bgW_up
      have e2 : wtW f k 0 n = upW f k 0 n * bhR f k (nP f k - 1 - 0) n := rfl
      rw [smN_s, smN_s, e1, e2]
      constructor
      · intro q
        rcases (show 0 < smN n (bgW f k) ∨ 0 < upW f k 0 n * grR f k (nP f k - 1 - 0) n by omega) with q1 | q1
        · have := h1.mp q1
          omega
        · have := h3.mp q1
          omega
      · intro q
        rcases (show 0 < smN n (fun s => wtW f k 0 s) ∨ 0 < upW f k 0 n * bhR f k (nP f k - 1 - 0) n by omega) with q1 | q1
        · have := h1.mpr q1
          omega
        · have := h3.mpr q1
          omega
  exact key (f 0) (Nat.le_refl _)
