/-! learning: what a round counts, the new weights -/
def wA (f : Vw) (k p : Nat) : Nat := if p < 7 then wtW f k 0 (p - 3) else if p < 23 then goW f k ((p - 7) / 4) ((p - 7) % 4) else shW f k ((p - 23) / 3) ((p - 23) % 3)
theorem wA_b {f : Vw} {k s : Nat} (hs : s < 4) : wA f k (3 + s) = wtW f k 0 s := by
  rw [wA, if_pos (by omega), show 3 + s - 3 = s by omega]
theorem wA_g {f : Vw} {k s t : Nat} (hs : s < 4) (ht : t < 4) : wA f k (7 + 4 * s + t) = goW f k s t := by
  rw [wA, if_neg (by omega), if_pos (by omega), show (7 + 4 * s + t - 7) / 4 = s by omega, show (7 + 4 * s + t - 7) % 4 = t by omega]
theorem wA_s {f : Vw} {k s t : Nat} (hs : s < 4) (ht : t < 3) : wA f k (23 + 3 * s + t) = shW f k s t := by
  rw [wA, if_neg (by omega), if_neg (by omega), show (23 + 3 * s + t - 23) / 3 = s by omega, show (23 + 3 * s + t - 23) % 3 = t by omega]
theorem goW_le {f : Vw} {k s t : Nat} (w : Wf f) (hk : k < f 1) (hs : s < f 0) (ht : t < f 0) : goW f k s t ≤ 7 * totW f k := by
  have h : ∀ p, p < nP f k - 1 → upW f k p s * stW f k p s t * bhW f k (p + 1) t ≤ totW f k := fun p hp => by
    have h1 : stW f k p s t * bhW f k (p + 1) t ≤ bhW f k p s := by
      rw [show bhW f k p s = smN (f 0) (fun t => stW f k p s t * bhW f k (p + 1) t) from bhW_s (by omega)]
      exact smN_le1 (g := fun t => stW f k p s t * bhW f k (p + 1) t) ht
    have h2 := Nat.mul_le_mul_left (upW f k p s) h1
    rw [← Nat.mul_assoc] at h2
    exact Nat.le_trans h2 (wt_tot w (by omega) hs)
  exact Nat.le_trans (smN_le h) (Nat.mul_le_mul_right _ (by have := (w.p hk).2; omega))
theorem shW_le {f : Vw} {k s g : Nat} (w : Wf f) (hk : k < f 1) (hs : s < f 0) : shW f k s g ≤ 7 * totW f k := by
  have h : ∀ p, p < nP f k → (if sG f k p = g then wtW f k p s else 0) ≤ totW f k := fun p hp => by
    split
    · exact wt_tot w hp hs
    · exact Nat.zero_le _
  exact Nat.le_trans (smN_le h) (Nat.mul_le_mul_right _ (w.p hk).2)
theorem wA_le {f : Vw} {k p c : Nat} (w : Wf f) (hk : k < f 1) (hp : PC f p c) : wA f k p ≤ 7 * totW f k := by
  have h4 := w.n4
  rcases hp with ⟨s, hs, e, _⟩ | ⟨s, t, hs, ht, e, _⟩ | ⟨s, t, hs, ht, e, _⟩ <;> subst e
  · rw [wA_b (by omega)]
    have h1 := wt_tot (k := k) (p := 0) w (by have := (w.p hk).1; omega) hs
    omega
  · rw [wA_g (by omega) (by omega)]
    exact goW_le w hk hs ht
  · rw [wA_s (by omega) ht]
    exact shW_le w hk hs
def shA (f : Vw) (k p : Nat) : Nat := shN (wA f k p) (totW f k)
theorem shA_le {f : Vw} {k p c : Nat} (w : Wf f) (hk : k < f 1) (hp : PC f p c) : shA f k p ≤ 7000 := shN_le (c := 7) (wA_le w hk hp)
theorem shA_0 {f : Vw} {k p : Nat} (h : totW f k = 0) : shA f k p = 0 := by
  rw [shA, h, shN, Nat.div_zero]
def cA (f : Vw) (n p : Nat) : Nat := smN n (fun k => shA f k p)
theorem cA_s {f : Vw} {n p : Nat} : cA f (n + 1) p = cA f n p + shA f n p := rfl
theorem cA_le {f : Vw} {n p c : Nat} (w : Wf f) (hn : n ≤ f 1) (hp : PC f p c) : cA f n p ≤ 42000 := by
  have h6 := w.m6
  have h := smN_le (g := fun k => shA f k p) (c := 7000) (n := n) (fun k hk => shA_le w (by omega) hp)
  unfold cA
  omega
theorem mxN_ge {g : Nat → Nat} : ∀ {n j : Nat}, j < n → g j ≤ mxN n g
  | 0, j, h => absurd h (Nat.not_lt_zero j)
  | n + 1, j, h => by
    rw [mxN_s]
    by_cases e : j = n
    · subst e
      split <;> omega
    · have := mxN_ge (g := g) (n := n) (j := j) (by omega)
      split <;> omega
theorem mxs_I {x y : Nat} (hx : x < 2147483648) (hy : y < 2147483648) : (if nI x < nI y then nI y else nI x) = nI (if x < y then y else x) := by
  by_cases h : x < y
  · rw [if_pos h, if_pos ((nI_ltI hx hy).mpr h)]
  · rw [if_neg h, if_neg (fun q => h ((nI_ltI hx hy).mp q))]
def gm (cv : Nat → Nat) (f : Vw) (k s : Nat) : Nat := mxN (fz (f 0) k) (fun j => cv (mp k s j))
def nwV (v c m : Nat) : Nat := if m = 0 then v else (6 * c + m / 2) / m
theorem nwV_le {v c m : Nat} (hv : v ≤ 6) (hc : c ≤ m) : nwV v c m ≤ 6 := by
  unfold nwV
  by_cases h : m = 0
  · rw [if_pos h]
    exact hv
  · rw [if_neg h]
    have h1 : (6 * c + m / 2) / m < 7 := Nat.div_lt_of_lt_mul (by omega)
    omega
def lnF (f : Vw) : Vw := mkF f (f 0) (fun s => nwV (f (3 + s)) (cA f (f 1) (3 + s)) (gm (cA f (f 1)) f 0 0)) (fun s t => nwV (f (7 + 4 * s + t)) (cA f (f 1) (7 + 4 * s + t)) (gm (cA f (f 1)) f 1 s)) (fun s g => nwV (f (23 + 3 * s + g)) (cA f (f 1) (23 + 3 * s + g)) (gm (cA f (f 1)) f 2 s))
theorem lnF_0 {f : Vw} : lnF f 0 = f 0 := rfl
theorem lnF_ff {f : Vw} : ∀ i, i = 1 ∨ i = 2 ∨ 35 ≤ i → lnF f i = f i := mkF_ff
theorem ln_fam {f : Vw} (w : Wf f) {k s j : Nat} (hk : k < 3) (hs : s < f 0) (hj : j < fz (f 0) k) : lnF f (mp k s j) = nwV (f (mp k s j)) (cA f (f 1) (mp k s j)) (gm (cA f (f 1)) f k s) := by
  have h4 := w.n4
  have hz := fz_le (k := k) w.n1 w.n4
  rcases (show k = 0 ∨ k = 1 ∨ k = 2 by omega) with y | y | y <;> subst y
  · show bW (lnF f) j = _
    unfold lnF
    rw [mkF_b (by omega)]
    rfl
  · show gW (lnF f) s j = _
    unfold lnF
    rw [mkF_g (by omega) (by omega)]
    rfl
  · have hj3 : j < 3 := hj
    show sW (lnF f) s j = _
    unfold lnF
    rw [mkF_w (by omega) hj3]
    rfl
theorem PC.ex {f : Vw} {p c : Nat} (h : PC f p c) : ∃ k s j, k < 3 ∧ s < f 0 ∧ j < fz (f 0) k ∧ p = mp k s j := by
  rcases h with ⟨s, hs, e, _⟩ | ⟨s, t, hs, ht, e, _⟩ | ⟨s, t, hs, ht, e, _⟩
  · exact ⟨0, s, s, by decide, hs, hs, e⟩
  · exact ⟨1, s, t, by decide, hs, ht, e⟩
  · exact ⟨2, s, t, by decide, hs, ht, e⟩
theorem Wf.ln {f : Vw} (w : Wf f) : Wf (lnF f) := by
  refine w.upd w.1 lnF_ff (fun p c h => ?_)
  have hp : PC f p c := h
  obtain ⟨k, s, j, hk, hs, hj, e⟩ := hp.ex
  have h6 := w.at hp
  rw [e] at h6 ⊢
  rw [ln_fam w hk hs hj]
  exact nwV_le h6 (mxN_ge (g := fun j => cA f (f 1) (mp k s j)) hj)
def df (f : Vw) : Prop := ∃ p c, PC f p c ∧ lnF f p ≠ f p
def Fm (k s p : Nat) : Prop := (k = 0 ∧ 3 ≤ p ∧ p < 7) ∨ (k = 1 ∧ 7 + 4 * s ≤ p ∧ p < 11 + 4 * s) ∨ (k = 2 ∧ 23 + 3 * s ≤ p ∧ p < 26 + 3 * s)
theorem Fm_iff {f : Vw} (w : Wf f) {k s p c : Nat} (hk : k < 3) (hs : s < f 0) (hp : PC f p c) : (∃ j, j < fz (f 0) k ∧ p = mp k s j) ↔ Fm k s p := by
  have h4 := w.n4
  constructor
  · rintro ⟨j, hj, e⟩
    have hz := fz_le (k := k) w.n1 w.n4
    rcases (show k = 0 ∨ k = 1 ∨ k = 2 by omega) with y | y | y <;> subst y
    · have e1 : p = 3 + j := e
      unfold Fm
      omega
    · have e1 : p = 7 + 4 * s + j := e
      unfold Fm
      omega
    · have e1 : p = 23 + 3 * s + j := e
      have hj3 : j < 3 := hj
      unfold Fm
      omega
  · intro h
    rcases hp with ⟨a, ha, e, _⟩ | ⟨a, t, ha, ht, e, _⟩ | ⟨a, t, ha, ht, e, _⟩
    · have h1 : k = 0 := by unfold Fm at h; omega
      subst h1
      exact ⟨a, ha, e⟩
    · have h1 : k = 1 ∧ a = s := by unfold Fm at h; omega
      obtain ⟨h1, h2⟩ := h1
      subst h1
      subst h2
      exact ⟨t, ht, e⟩
    · have h1 : k = 2 ∧ a = s := by unfold Fm at h; omega
      obtain ⟨h1, h2⟩ := h1
      subst h1
      subst h2
      exact ⟨t, ht, e⟩
theorem mb_inj {k s i j : Nat} (h : mb k s i = mb k s j) : i = j := by
  unfold mb at h
  by_cases y : k = 0
  · rw [if_pos y, if_pos y] at h
    have h1 : i * 8 + 0 + 0 = j * 8 + 0 + 0 := h
    omega
  · rw [if_neg y, if_neg y] at h
    unfold cl at h
    omega
theorem Fm_0 {s p : Nat} : Fm 0 s p ↔ 3 ≤ p ∧ p < 7 := by simp [Fm]
theorem Fm_1 {s p : Nat} : Fm 1 s p ↔ 7 + 4 * s ≤ p ∧ p < 11 + 4 * s := by simp [Fm]
theorem Fm_2 {s p : Nat} : Fm 2 s p ↔ 23 + 3 * s ≤ p ∧ p < 26 + 3 * s := by simp [Fm]
/-- the counts of the class while a sample is counted: cells below b are through -/
def IV (f : Vw) (a : Nat → Nat) (k b : Nat) (I : Iv) : Prop := ∀ p c, PC f p c → I 38 c = nI (a p + if c < b then shA f k p else 0)
theorem IV.at0 {f : Vw} {a : Nat → Nat} {k b : Nat} {I : Iv} (h : IV f a k b I) {p c : Nat} (hp : PC f p c) (hb : b ≤ c) : I 38 c = nI (a p) := by
  have h1 := h p c hp
  rw [if_neg (by omega), Nat.add_zero] at h1
  exact h1
theorem IV.step {f : Vw} {a : Nat → Nat} {k c0 : Nat} {I I1 : Iv} (h : IV f a k c0 I) (w : Wf f) {p0 v : Nat} (hp : PC f p0 c0) (e : I1 = up2 I 38 c0 (nI v)) (hv : v = a p0 + shA f k p0) : IV f a k (c0 + 1) I1 := fun p c hpc => by
  have hi := PC.inj w hpc hp
  by_cases y : c = c0
  · have y2 := hi.mpr y
    rw [y, y2, if_pos (by omega), ← hv]
    exact up2_at e
  · rw [up2_off e (by omega), h p c hpc]
    by_cases z : c < c0
    · rw [if_pos z, if_pos (by omega)]
    · rw [if_neg z, if_neg (by omega)]
theorem IV.up {f : Vw} {a : Nat → Nat} {k b b1 : Nat} {I : Iv} (h : IV f a k b I) (hb : b ≤ b1) (hn : ∀ p c, PC f p c → c < b1 → c < b) : IV f a k b1 I := fun p c hpc => by
  rw [h p c hpc]
  by_cases z : c < b
  · rw [if_pos z, if_pos (by omega)]
  · rw [if_neg z, if_neg (fun q => z (hn p c hpc q))]
/-- the weights made by the class: places with D are through -/
def MD (f : Vw) (D : Nat → Prop) (I I1 : Iv) : Prop := (∀ p c, PC f p c → (D p → I1 39 c = nI (lnF f p)) ∧ (¬ D p → I1 39 c = nI (f p))) ∧ ∀ q, q < 32 → (∀ p, ¬ PC f p q) → I1 39 q = I 2 q
theorem MD.mono {f : Vw} {D D1 : Nat → Prop} {I I1 : Iv} (h : MD f D I I1) (e : ∀ p c, PC f p c → (D1 p ↔ D p)) : MD f D1 I I1 :=
  ⟨fun p c hp => ⟨fun q => (h.1 p c hp).1 ((e p c hp).mp q), fun q => (h.1 p c hp).2 (fun y => q ((e p c hp).mpr y))⟩, h.2⟩
theorem MD.step {f : Vw} {D : Nat → Prop} {I Ij I1 : Iv} (h : MD f D I Ij) (w : Wf f) {k s : Nat} (hk : k < 3) (hs : s < f 0) (hD : ∀ p, Fm k s p → ¬ D p) (g1 : ∀ q, (∀ j, j < fz (f 0) k → q ≠ mb k s j) → I1 39 q = Ij 39 q) (g2 : ∀ j, j < fz (f 0) k → gm (cA f (f 1)) f k s ≠ 0 → I1 39 (mb k s j) = nI ((6 * cA f (f 1) (mp k s j) + gm (cA f (f 1)) f k s / 2) / gm (cA f (f 1)) f k s)) (g3 : gm (cA f (f 1)) f k s = 0 → I1 39 = Ij 39) : MD f (fun p => D p ∨ Fm k s p) I I1 := by
  refine ⟨fun p c hp => ?_, fun q h32 hq => ?_⟩
  · have hi := Fm_iff w hk hs hp
    by_cases y : ∃ j, j < fz (f 0) k ∧ p = mp k s j
    · refine ⟨fun _ => ?_, fun z => absurd (Or.inr (hi.mp y)) z⟩
      have hn := hD p (hi.mp y)
      obtain ⟨j, hj, e⟩ := y
      have hpj := PC.fam hk hs hj
      have ec : c = mb k s j := (PC.inj w hp hpj).mp e
      have el := ln_fam w hk hs hj
      by_cases z : gm (cA f (f 1)) f k s = 0
      · rw [g3 z, (h.1 p c hp).2 hn, e, el, z, nwV, if_pos rfl]
      · rw [ec, g2 j hj z, e, el, nwV, if_neg z]
    · have hF : ¬ Fm k s p := fun z => y (hi.mpr z)
      have hc : I1 39 c = Ij 39 c := g1 c (fun j hj e => y ⟨j, hj, (PC.inj w hp (PC.fam hk hs hj)).mpr e⟩)
      exact ⟨fun z => hc.trans ((h.1 p c hp).1 (z.resolve_right hF)), fun z => hc.trans ((h.1 p c hp).2 (fun q => z (Or.inl q)))⟩
  · rw [g1 q (fun j hj e => hq (mp k s j) (by rw [e]; exact PC.fam hk hs hj)), h.2 q h32 hq]
def Dn (v p : Nat) : Prop := p < 7 ∨ (7 ≤ p ∧ p < 7 + 4 * v) ∨ (23 ≤ p ∧ p < 23 + 3 * v)
set_option maxHeartbeats 4000000 in
theorem sp_J7_fill_53178 {x : Cx} {Q : Qt} {I : Iv} {L : Lv} {P : Pv} {v : Nat} (hQ : ∀ I1 : Iv, (∀ q, q < 32 → I1 38 q = nI v) → (∀ a, a ≠ 38 → I1 a = I a) → Q none I1 L P) : SP x M_J7_fill_53178 [rfv x 38, .int (nI (v))] I L P Q := by
  refine SP.intro [some (rfv x 38), some (.int (nI (v))), none, none] pn_J7_fill_53178 (Nat.le_of_ble_eq_true rfl) rfl ?_
  refine v_iconst 1 (nI (0)) (by decide) dJ7_fill_53178_0 rfl ?_
  refine v_istore_n 2 [some (rfv x 38), some (.int (nI (v))), some (.int (nI (0))), none] dJ7_fill_53178_1 rfl (by decide) rfl ?_
  refine v_aload_n 3 rfl dJ7_fill_53178_2 rfl ?_
  refine v_alen 4 (nI 32) (by decide) rfl dJ7_fill_53178_3 rfl rfl ?_
  refine v_istore_n 5 [some (rfv x 38), some (.int (nI (v))), some (.int (nI (0))), some (.int (nI (32)))] dJ7_fill_53178_4 rfl (by decide) rfl ?_
  have lp : ∀ i, i ≤ 32 → ∀ Ij : Iv, (∀ q, q < i → Ij 38 q = nI v) → (∀ a, a ≠ 38 → Ij a = I a) → V x M_J7_fill_53178 Q 5 [some (rfv x 38), some (.int (nI (v))), some (.int (nI (i))), some (.int (nI (32)))] [] Ij L P := by
    refine lpU ?_ ?_
    · intro Ij hA hF
      refine v_iload_n 6 rfl dJ7_fill_53178_5 rfl ?_
      refine v_iload_n 7 rfl dJ7_fill_53178_6 rfl ?_
      refine v_icmpN_ge 20 10 dJ7_fill_53178_7 (by decide) rfl (by omega) (by omega) (fun h7 => ?_) (fun h7 => ?_)
      · skip
        refine v_vret rfl dJ7_fill_53178_20 ?_
        exact hQ Ij hA hF
      · skip
        exact absurd h7 (by omega)
    · intro i hi ih Ij hA hF
      refine v_iload_n 6 rfl dJ7_fill_53178_5 rfl ?_
      refine v_iload_n 7 rfl dJ7_fill_53178_6 rfl ?_
      refine v_icmpN_ge 20 10 dJ7_fill_53178_7 (by decide) rfl (by omega) (by omega) (fun h7 => ?_) (fun h7 => ?_)
      · skip
        exact absurd h7 (by omega)
      · skip
        refine v_aload_n 11 rfl dJ7_fill_53178_10 rfl ?_
        refine v_iload_n 12 rfl dJ7_fill_53178_11 rfl ?_
        refine v_iload_n 13 rfl dJ7_fill_53178_12 rfl ?_
        refine v_iast 14 (k := i) (nI (v)) (by decide) rfl (by decide) dJ7_fill_53178_13 rfl rfl (by omega) rfl (fun I13 e13 => ?_)
        refine v_iinc 17 [some (rfv x 38), some (.int (nI (v))), some (.int (nI (i + 1))), some (.int (nI (32)))] (nI (i + 1)) dJ7_fill_53178_14 rfl (by decide) rfl (nI_inc _) rfl ?_
        refine v_goto 5 dJ7_fill_53178_17 (by decide) ?_
        refine v_drop [some (rfv x 38), some (.int (nI (v))), some (.int (nI (i + 1))), some (.int (nI (32)))] (by simp [lsub, smN_s]) ?_
        refine ih I13 (fun q hq => ?_) (fun a h => (up2_row e13 h).trans (hF a h))
        by_cases y : q = i
        · rw [y]
          exact up2_at e13
        · exact (up2_off e13 (by omega)).trans (hA q (by omega))
  refine v_drop [some (rfv x 38), some (.int (nI (v))), some (.int (nI (0))), some (.int (nI (32)))] (by simp [lsub, smN, amN, dbW, mxN]) ?_
  exact lp 0 (Nat.zero_le _) I (fun q h => absurd h (Nat.not_lt_zero q)) (fun a _ => rfl)
set_option maxHeartbeats 4000000 in
theorem sp_X2_addCount {x : Cx} {Q : Qt} {I : Iv} {L : Lv} {P : Pv} {c a v t : Nat} (hc : c < 32) (h38 : I 38 c = nI v) (ht5 : L 29 5 = lN t) (ht : 0 < t) (hb : t < 576460752303423488) (ha : a < 9223372036854775808) (hQ : ∀ I1 : Iv, I1 = up2 I 38 c (nI (v + shN a t)) → Q none I1 L P) : SP x M_X2_addCount [rfv x 37, .int (nI (c)), .long (lN (a))] I L P Q := by
  refine SP.intro [some (rfv x 37), some (.int (nI (c))), some (.long (lN (a))), none] pn_X2_addCount (Nat.le_of_ble_eq_true rfl) rfl ?_
  refine v_aload_n 1 rfl dX2_addCount_0 rfl ?_
  refine v_get 4 (k := 2) 2 (rfv x 38) (by decide) rfl (by decide) (by decide) dX2_addCount_1 rfl fl_X2_21 rfl ?_
  refine v_iload_n 5 rfl dX2_addCount_4 rfl ?_
  refine v_dup2 6 dX2_addCount_5 rfl rfl rfl ?_
  refine v_iald 7 (k := c) (nI (v)) (by decide) rfl (by decide) dX2_addCount_6 rfl rfl (by omega) h38 ?_
  refine v_lload_n 8 rfl dX2_addCount_7 rfl ?_
  refine v_aload_n 9 rfl dX2_addCount_8 rfl ?_
  refine v_get 12 (k := 1) 2 (rfv x 29) (by decide) rfl (by decide) (by decide) dX2_addCount_9 rfl fl_X2_15 rfl ?_
  refine v_getN 15 (k := 5) 6 (.long (lN (t))) (by decide) rfl (by decide) (by decide) dX2_addCount_12 rfl fl_X2_44 (congrArg Value.long ht5) ?_
  refine v_invN 18 M_X7_shareOf [.long (lN (a)), .long (lN (t))] dX2_addCount_15 rfl ml_X2_89 sm_X7_shareOf mc_X7_shareOf (by decide) (Nat.le_of_ble_eq_true rfl) (sp_X7_shareOf ht hb ha ?_)
  refine v_iadd 19 (nI (v + (shN a t))) dX2_addCount_18 rfl (nI_add _ _) ?_
  refine v_iast 20 (k := c) (nI (v + (shN a t))) (by decide) rfl (by decide) dX2_addCount_19 rfl rfl (by omega) rfl (fun I19 e19 => ?_)
  refine v_vret rfl dX2_addCount_20 ?_
  exact hQ I19 e19
set_option maxHeartbeats 4000000 in
theorem sp_X2_countSample {x : Cx} {Q : Qt} {I : Iv} {L : Lv} {P : Pv} {f : Vw} (c : RC 1 f I) (w : Wf f) {k : Nat} (hk : k < f 1) (sm : SM f k I L) (h0 : 0 < totW f k) {a : Nat → Nat} (hI : ∀ p c, PC f p c → I 38 c = nI (a p)) (hQ : ∀ I1 : Iv, (∀ b, b ≠ 38 → I1 b = I b) → (∀ p c, PC f p c → I1 38 c = nI (a p + shA f k p)) → Q none I1 L P) : SP x M_X2_countSample [rfv x 37] I L P Q := by
  have := w.n4
  have := w.m6
  have hT := totW_le w hk
  have hP := w.p hk
  refine SP.intro [some (rfv x 37), none, none] pn_X2_countSample (Nat.le_of_ble_eq_true rfl) rfl ?_
  refine v_iconst 1 (nI (0)) (by decide) dX2_countSample_0 rfl ?_
  refine v_istore_n 2 [some (rfv x 37), some (.int (nI (0))), none] dX2_countSample_1 rfl (by decide) rfl ?_
  have lp : ∀ i, i ≤ f 0 → ∀ Ij : Iv, (∀ b, b ≠ 38 → Ij b = I b) → IV f a k (i * 8) Ij → V x M_X2_countSample Q 2 [some (rfv x 37), some (.int (nI (i))), none] [] Ij L P := by
    refine lpU ?_ ?_
    · intro Ij hF iv
      have cj : RC 1 f Ij := c.same (fun b _ _ => hF b (by omega))
      have smj : SM f k Ij L := by
        unfold SM at sm ⊢
        rw [hF 29 (by decide)]
        exact sm
      refine v_iload_n 3 rfl dX2_countSample_2 rfl ?_
      refine v_aload_n 4 rfl dX2_countSample_3 rfl ?_
      refine v_get 7 (k := 0) 2 (rfv x 1) (by decide) rfl (by decide) (by decide) dX2_countSample_4 rfl fl_X2_9 rfl ?_
      refine v_getN 10 (k := 1) 3 (.int (nI (f 0))) (by decide) rfl (by decide) (by decide) dX2_countSample_7 rfl fl_X2_64 (congrArg Value.int cj.st) ?_
      refine v_icmpN_ge 108 13 dX2_countSample_10 (by decide) rfl (by omega) (by omega) (fun h10 => ?_) (fun h10 => ?_)
      · skip
        refine v_vret rfl dX2_countSample_108 ?_
        refine hQ Ij hF (fun q c h => ?_)
        have h9 := iv q c h
        have h8 : c < f 0 * 8 := by rcases h with ⟨s, hs, _, e⟩ | ⟨s, t, hs, ht, _, e⟩ | ⟨s, t, hs, ht, _, e⟩ <;> omega
        rw [if_pos h8] at h9
        exact h9
      · skip
        exact absurd h10 (by omega)
    · intro i hi ih Ij hF iv
      have cj : RC 1 f Ij := c.same (fun b _ _ => hF b (by omega))
      have smj : SM f k Ij L := by
        unfold SM at sm ⊢
        rw [hF 29 (by decide)]
        exact sm
      refine v_iload_n 3 rfl dX2_countSample_2 rfl ?_
      refine v_aload_n 4 rfl dX2_countSample_3 rfl ?_
      refine v_get 7 (k := 0) 2 (rfv x 1) (by decide) rfl (by decide) (by decide) dX2_countSample_4 rfl fl_X2_9 rfl ?_
      refine v_getN 10 (k := 1) 3 (.int (nI (f 0))) (by decide) rfl (by decide) (by decide) dX2_countSample_7 rfl fl_X2_64 (congrArg Value.int cj.st) ?_
      refine v_icmpN_ge 108 13 dX2_countSample_10 (by decide) rfl (by omega) (by omega) (fun h10 => ?_) (fun h10 => ?_)
      · skip
        exact absurd h10 (by omega)
      · skip
        refine v_aload_n 14 rfl dX2_countSample_13 rfl ?_
        refine v_iconst 15 (nI (0)) (by decide) dX2_countSample_14 rfl ?_
        refine v_iload_n 16 rfl dX2_countSample_15 rfl ?_
        refine v_iconst 17 (nI (0)) (by decide) dX2_countSample_16 rfl ?_
        refine v_invT 20 M_X3_cellOf [.int (nI (0)), .int (nI (i)), .int (nI (0))] dX2_countSample_17 rfl ml_X2_71 sm_X3_cellOf mc_X3_cellOf (by decide) (Nat.le_of_ble_eq_true rfl) (sp_X3_cellOf (by omega) (by omega) (by omega) ?_)
        refine v_aload_n 21 rfl dX2_countSample_20 rfl ?_
        refine v_get 24 (k := 1) 2 (rfv x 29) (by decide) rfl (by decide) (by decide) dX2_countSample_21 rfl fl_X2_15 rfl ?_
        refine v_iconst 25 (nI (0)) (by decide) dX2_countSample_24 rfl ?_
        refine v_iload_n 26 rfl dX2_countSample_25 rfl ?_
        refine v_invV 29 M_X6_at [.int (nI (0)), .int (nI (i))] (by decide) rfl (by decide) rfl dX2_countSample_26 rfl ml_X2_75 im_X6_at se_X6_at mc_X6_at (by decide) (Nat.le_of_ble_eq_true rfl) (sp_X6_wt w hk smj (by omega) hi ?_)
        refine v_invV 32 M_X2_addCount [.int (nI (cl 0 i 0)), .long (lN (wtW f k 0 i))] (by decide) rfl (by decide) rfl dX2_countSample_29 rfl ml_X2_79 im_X2_addCount se_X2_addCount mc_X2_addCount (by decide) (Nat.le_of_ble_eq_true rfl) (sp_X2_addCount (t := totW f k) (by show i * 8 + 0 + 0 < 32; omega) (iv.at0 (p := 3 + i) (c := cl 0 i 0) (Or.inl ⟨i, hi, rfl, rfl⟩) (Nat.le_refl _)) smj.2.2.2.2 h0 (by omega) (by have := wtW_le (p := 0) w hk (by omega) hi; omega) (fun Ia ea => ?_))
        have ia : IV f a k (i * 8 + 1) Ia := IV.step (c0 := i * 8) iv w (p0 := 3 + i) (Or.inl ⟨i, hi, rfl, rfl⟩) ea (by rw [shA, wA_b (by omega)])
        have fa : ∀ b, b ≠ 38 → Ia b = I b := fun b h => (up2_row ea h).trans (hF b h)
        refine v_iconst 33 (nI (0)) (by decide) dX2_countSample_32 rfl ?_
        refine v_istore_n 34 [some (rfv x 37), some (.int (nI (i))), some (.int (nI (0)))] dX2_countSample_33 rfl (by decide) rfl ?_
        have lq : ∀ j, j ≤ f 0 → ∀ Ik : Iv, (∀ b, b ≠ 38 → Ik b = I b) → IV f a k (i * 8 + 1 + j) Ik → V x M_X2_countSample Q 34 [some (rfv x 37), some (.int (nI (i))), some (.int (nI (j)))] [] Ik L P := by
          refine lpU ?_ ?_
          · intro Ik gF ivk
            have ck : RC 1 f Ik := c.same (fun b _ _ => gF b (by omega))
            have smk : SM f k Ik L := by
              unfold SM at sm ⊢
              rw [gF 29 (by decide)]
              exact sm
            refine v_iload_n 35 rfl dX2_countSample_34 rfl ?_
            refine v_aload_n 36 rfl dX2_countSample_35 rfl ?_
            refine v_get 39 (k := 0) 2 (rfv x 1) (by decide) rfl (by decide) (by decide) dX2_countSample_36 rfl fl_X2_9 rfl ?_
            refine v_getN 42 (k := 1) 3 (.int (nI (f 0))) (by decide) rfl (by decide) (by decide) dX2_countSample_39 rfl fl_X2_64 (congrArg Value.int ck.st) ?_
            refine v_icmpN_ge 70 45 dX2_countSample_42 (by decide) rfl (by omega) (by omega) (fun h42 => ?_) (fun h42 => ?_)
            · skip
              refine v_iconst 71 (nI (0)) (by decide) dX2_countSample_70 rfl ?_
              refine v_istore_n 72 [some (rfv x 37), some (.int (nI (i))), some (.int (nI (0)))] dX2_countSample_71 rfl (by decide) rfl ?_
              have lr : ∀ g, g ≤ 3 → ∀ Il : Iv, (∀ b, b ≠ 38 → Il b = I b) → IV f a k (i * 8 + 5 + g) Il → V x M_X2_countSample Q 72 [some (rfv x 37), some (.int (nI (i))), some (.int (nI (g)))] [] Il L P := by
                refine lpU ?_ ?_
                · intro Il lF ivl
                  refine v_iload_n 73 rfl dX2_countSample_72 rfl ?_
                  refine v_iconst 74 (nI (3)) (by decide) dX2_countSample_73 rfl ?_
                  refine v_icmpN_ge 102 77 dX2_countSample_74 (by decide) rfl (by omega) (by omega) (fun h74 => ?_) (fun h74 => ?_)
                  · skip
                    refine v_iinc 105 [some (rfv x 37), some (.int (nI (i + 1))), some (.int (nI (3)))] (nI (i + 1)) dX2_countSample_102 rfl (by decide) rfl (nI_inc _) rfl ?_
                    refine v_goto 2 dX2_countSample_105 (by decide) ?_
                    refine v_drop [some (rfv x 37), some (.int (nI (i + 1))), none] (by simp [lsub, smN_s]) ?_
                    refine ih Il lF ?_
                    rw [show (i + 1) * 8 = i * 8 + 5 + 3 by omega]
                    exact ivl
                  · skip
                    exact absurd h74 (by omega)
                · intro g hg ih Il lF ivl
                  have cl9 : RC 1 f Il := c.same (fun b _ _ => lF b (by omega))
                  have sml : SM f k Il L := by
                    unfold SM at sm ⊢
                    rw [lF 29 (by decide)]
                    exact sm
                  refine v_iload_n 73 rfl dX2_countSample_72 rfl ?_
                  refine v_iconst 74 (nI (3)) (by decide) dX2_countSample_73 rfl ?_
                  refine v_icmpN_ge 102 77 dX2_countSample_74 (by decide) rfl (by omega) (by omega) (fun h74 => ?_) (fun h74 => ?_)
                  · skip
                    exact absurd h74 (by omega)
                  · skip
                    refine v_aload_n 78 rfl dX2_countSample_77 rfl ?_
                    refine v_iconst 79 (nI (2)) (by decide) dX2_countSample_78 rfl ?_
                    refine v_iload_n 80 rfl dX2_countSample_79 rfl ?_
                    refine v_iload_n 81 rfl dX2_countSample_80 rfl ?_
                    refine v_invT 84 M_X3_cellOf [.int (nI (2)), .int (nI (i)), .int (nI (g))] dX2_countSample_81 rfl ml_X2_71 sm_X3_cellOf mc_X3_cellOf (by decide) (Nat.le_of_ble_eq_true rfl) (sp_X3_cellOf (by omega) (by omega) (by omega) ?_)
                    refine v_aload_n 85 rfl dX2_countSample_84 rfl ?_
                    refine v_get 88 (k := 1) 2 (rfv x 29) (by decide) rfl (by decide) (by decide) dX2_countSample_85 rfl fl_X2_15 rfl ?_
                    refine v_iload_n 89 rfl dX2_countSample_88 rfl ?_
                    refine v_iload_n 90 rfl dX2_countSample_89 rfl ?_
                    refine v_invV 93 M_X6_showing [.int (nI (i)), .int (nI (g))] (by decide) rfl (by decide) rfl dX2_countSample_90 rfl ml_X2_86 im_X6_showing se_X6_showing mc_X6_showing (by decide) (Nat.le_of_ble_eq_true rfl) (sp_X6_showing cl9 w hk sml hi hg ?_)
                    refine v_invV 96 M_X2_addCount [.int (nI (cl 2 i g)), .long (lN (shW f k i g))] (by decide) rfl (by decide) rfl dX2_countSample_93 rfl ml_X2_79 im_X2_addCount se_X2_addCount mc_X2_addCount (by decide) (Nat.le_of_ble_eq_true rfl) (sp_X2_addCount (t := totW f k) (by show i * 8 + 5 + g < 32; omega) (ivl.at0 (p := 23 + 3 * i + g) (c := cl 2 i g) (Or.inr (Or.inr ⟨i, g, hi, hg, rfl, rfl⟩)) (Nat.le_refl _)) sml.2.2.2.2 h0 (by omega) (by have := shW_le (g := g) w hk hi; omega) (fun Ia ea => ?_))
                    refine v_iinc 99 [some (rfv x 37), some (.int (nI (i))), some (.int (nI (g + 1)))] (nI (g + 1)) dX2_countSample_96 rfl (by decide) rfl (nI_inc _) rfl ?_
                    refine v_goto 72 dX2_countSample_99 (by decide) ?_
                    refine v_drop [some (rfv x 37), some (.int (nI (i))), some (.int (nI (g + 1)))] (by simp [lsub, smN_s]) ?_
                    exact ih Ia (fun b h => (up2_row ea h).trans (lF b h)) (IV.step (c0 := i * 8 + 5 + g) ivl w (p0 := 23 + 3 * i + g) (Or.inr (Or.inr ⟨i, g, hi, hg, rfl, rfl⟩)) ea (by rw [shA, wA_s (by omega) hg]))
              refine v_drop [some (rfv x 37), some (.int (nI (i))), some (.int (nI (0)))] (by simp [lsub, smN, amN, dbW, mxN]) ?_
              exact lr 0 (Nat.zero_le _) Ik gF (ivk.up (by omega) (fun q c h h5 => by rcases h with ⟨s, hs, _, e⟩ | ⟨s, t, hs, ht, _, e⟩ | ⟨s, t, hs, ht, _, e⟩ <;> omega))
            · skip
              exact absurd h42 (by omega)
          · intro j hj ih Ik gF ivk
            have ck : RC 1 f Ik := c.same (fun b _ _ => gF b (by omega))
            have smk : SM f k Ik L := by
              unfold SM at sm ⊢
              rw [gF 29 (by decide)]
              exact sm
            refine v_iload_n 35 rfl dX2_countSample_34 rfl ?_
            refine v_aload_n 36 rfl dX2_countSample_35 rfl ?_
            refine v_get 39 (k := 0) 2 (rfv x 1) (by decide) rfl (by decide) (by decide) dX2_countSample_36 rfl fl_X2_9 rfl ?_
            refine v_getN 42 (k := 1) 3 (.int (nI (f 0))) (by decide) rfl (by decide) (by decide) dX2_countSample_39 rfl fl_X2_64 (congrArg Value.int ck.st) ?_
            refine v_icmpN_ge 70 45 dX2_countSample_42 (by decide) rfl (by omega) (by omega) (fun h42 => ?_) (fun h42 => ?_)
            · skip
              exact absurd h42 (by omega)
            · skip
              refine v_aload_n 46 rfl dX2_countSample_45 rfl ?_
              refine v_iconst 47 (nI (1)) (by decide) dX2_countSample_46 rfl ?_
              refine v_iload_n 48 rfl dX2_countSample_47 rfl ?_
              refine v_iload_n 49 rfl dX2_countSample_48 rfl ?_
              refine v_invT 52 M_X3_cellOf [.int (nI (1)), .int (nI (i)), .int (nI (j))] dX2_countSample_49 rfl ml_X2_71 sm_X3_cellOf mc_X3_cellOf (by decide) (Nat.le_of_ble_eq_true rfl) (sp_X3_cellOf (by omega) (by omega) (by omega) ?_)
              refine v_aload_n 53 rfl dX2_countSample_52 rfl ?_
              refine v_get 56 (k := 1) 2 (rfv x 29) (by decide) rfl (by decide) (by decide) dX2_countSample_53 rfl fl_X2_15 rfl ?_
              refine v_iload_n 57 rfl dX2_countSample_56 rfl ?_
              refine v_iload_n 58 rfl dX2_countSample_57 rfl ?_
              refine v_invV 61 M_X6_goingOn [.int (nI (i)), .int (nI (j))] (by decide) rfl (by decide) rfl dX2_countSample_58 rfl ml_X2_83 im_X6_goingOn se_X6_goingOn mc_X6_goingOn (by decide) (Nat.le_of_ble_eq_true rfl) (sp_X6_goingOn ck w hk smk hi hj ?_)
              refine v_invV 64 M_X2_addCount [.int (nI (cl 1 i j)), .long (lN (goW f k i j))] (by decide) rfl (by decide) rfl dX2_countSample_61 rfl ml_X2_79 im_X2_addCount se_X2_addCount mc_X2_addCount (by decide) (Nat.le_of_ble_eq_true rfl) (sp_X2_addCount (t := totW f k) (by show i * 8 + 1 + j < 32; omega) (ivk.at0 (p := 7 + 4 * i + j) (c := cl 1 i j) (Or.inr (Or.inl ⟨i, j, hi, hj, rfl, rfl⟩)) (Nat.le_refl _)) smk.2.2.2.2 h0 (by omega) (by have := goW_le w hk hi hj; omega) (fun Ia ea => ?_))
              refine v_iinc 67 [some (rfv x 37), some (.int (nI (i))), some (.int (nI (j + 1)))] (nI (j + 1)) dX2_countSample_64 rfl (by decide) rfl (nI_inc _) rfl ?_
              refine v_goto 34 dX2_countSample_67 (by decide) ?_
              refine v_drop [some (rfv x 37), some (.int (nI (i))), some (.int (nI (j + 1)))] (by simp [lsub, smN_s]) ?_
              exact ih Ia (fun b h => (up2_row ea h).trans (gF b h)) (IV.step (c0 := i * 8 + 1 + j) ivk w (p0 := 7 + 4 * i + j) (Or.inr (Or.inl ⟨i, j, hi, hj, rfl, rfl⟩)) ea (by rw [shA, wA_g (by omega) (by omega)]))
        refine v_drop [some (rfv x 37), some (.int (nI (i))), some (.int (nI (0)))] (by simp [lsub, smN, amN, dbW, mxN]) ?_
        exact lq 0 (Nat.zero_le _) Ia fa ia
  refine v_drop [some (rfv x 37), some (.int (nI (0))), none] (by simp [lsub, smN, amN, dbW, mxN]) ?_
  exact lp 0 (Nat.zero_le _) I (fun b _ => rfl) (fun q c h => by rw [if_neg (by omega), Nat.add_zero]; exact hI q c h)
set_option maxHeartbeats 4000000 in
theorem sp_X2_makeFamily {x : Cx} {Q : Qt} {I : Iv} {L : Lv} {P : Pv} {f : Vw} (c : RC 1 f I) (w : Wf f) {k s : Nat} (hk : k < 3) (hs : s < f 0) {cv : Nat → Nat} (hc : ∀ p c, PC f p c → I 38 c = nI (cv p)) (hb : ∀ p c, PC f p c → cv p ≤ 100000) (hQ : ∀ I1 : Iv, (∀ b, b ≠ 39 → I1 b = I b) → (∀ q, (∀ j, j < fz (f 0) k → q ≠ mb k s j) → I1 39 q = I 39 q) → (∀ j, j < fz (f 0) k → gm cv f k s ≠ 0 → I1 39 (mb k s j) = nI ((6 * cv (mp k s j) + gm cv f k s / 2) / gm cv f k s)) → (gm cv f k s = 0 → I1 39 = I 39) → Q none I1 L P) : SP x M_X2_makeFamily [rfv x 37, .int (nI (k)), .int (nI (s))] I L P Q := by
  have := w.n4
  have := w.m6
  have h1n := w.n1
  obtain ⟨n, en⟩ : ∃ n, n = fz (f 0) k := ⟨_, rfl⟩
  have hn := fz_le (k := k) h1n w.n4
  have eG : gm cv f k s = mxN n (fun j => cv (mp k s j)) := by rw [gm, ← en]
  rw [← en] at hn hQ
  rw [eG] at hQ
  have hcj : ∀ j, j < n → I 38 (mb k s j) = nI (cv (mp k s j)) := fun j hj => hc _ _ (PC.fam hk hs (by omega))
  have hbj : ∀ j, j < n → cv (mp k s j) ≤ 100000 := fun j hj => hb _ _ (PC.fam hk hs (by omega))
  have h32 : ∀ j, j < n → mb k s j < 32 := fun j hj => ((PC.fam hk hs (by omega)).lt w).2.2
  have hM : mxN n (fun j => cv (mp k s j)) ≤ 100000 := mxN_le hbj
  refine SP.intro [some (rfv x 37), some (.int (nI (k))), some (.int (nI (s))), none, none, none, none] pn_X2_makeFamily (Nat.le_of_ble_eq_true rfl) rfl ?_
  refine v_aload_n 1 rfl dX2_makeFamily_0 rfl ?_
  refine v_get 4 (k := 0) 2 (rfv x 1) (by decide) rfl (by decide) (by decide) dX2_makeFamily_1 rfl fl_X2_9 rfl ?_
  refine v_iload_n 5 rfl dX2_makeFamily_4 rfl ?_
  refine v_invV 8 M_X3_familySize [.int (nI (k))] (by decide) rfl (by decide) rfl dX2_makeFamily_5 rfl ml_X2_93 im_X3_familySize se_X3_familySize mc_X3_familySize (by decide) (Nat.le_of_ble_eq_true rfl) (sp_X3_familySize c w hk ?_)
  rw [← en]
  refine v_istore_n 9 [some (rfv x 37), some (.int (nI (k))), some (.int (nI (s))), some (.int (nI (n))), none, none, none] dX2_makeFamily_8 rfl (by decide) rfl ?_
  refine v_iconst 10 (nI (0)) (by decide) dX2_makeFamily_9 rfl ?_
  refine v_istore 12 [some (rfv x 37), some (.int (nI (k))), some (.int (nI (s))), some (.int (nI (n))), some (.int (nI (0))), none, none] dX2_makeFamily_10 rfl (by decide) rfl ?_
  refine v_iconst 13 (nI (0)) (by decide) dX2_makeFamily_12 rfl ?_
  refine v_istore 15 [some (rfv x 37), some (.int (nI (k))), some (.int (nI (s))), some (.int (nI (n))), some (.int (nI (0))), some (.int (nI (0))), none] dX2_makeFamily_13 rfl (by decide) rfl ?_
  have lp : ∀ i, i ≤ n → V x M_X2_makeFamily Q 15 [some (rfv x 37), some (.int (nI (k))), some (.int (nI (s))), some (.int (nI (n))), some (.int (nI (mxN i (fun j => cv (mp k s j))))), some (.int (nI (i))), none] [] I L P := by
    refine lpU ?_ ?_
    · skip
      refine v_iload 17 rfl dX2_makeFamily_15 rfl ?_
      refine v_iload_n 18 rfl dX2_makeFamily_17 rfl ?_
      refine v_icmpN_ge 46 21 dX2_makeFamily_18 (by decide) rfl (by omega) (by omega) (fun h18 => ?_) (fun h18 => ?_)
      · skip
        refine v_iload 48 rfl dX2_makeFamily_46 rfl ?_
        refine v_ifN_gt 52 51 dX2_makeFamily_48 (by decide) rfl (by omega) (fun h48 => ?_) (fun h48 => ?_)
        · skip
          refine v_iconst 53 (nI (0)) (by decide) dX2_makeFamily_52 rfl ?_
          refine v_istore 55 [some (rfv x 37), some (.int (nI (k))), some (.int (nI (s))), some (.int (nI (n))), some (.int (nI (mxN n (fun j => cv (mp k s j))))), some (.int (nI (0))), none] dX2_makeFamily_53 rfl (by decide) rfl ?_
          have lq : ∀ i, i ≤ n → ∀ Ij : Iv, (∀ b, b ≠ 39 → Ij b = I b) → (∀ q, (∀ j, j < i → q ≠ mb k s j) → Ij 39 q = I 39 q) → (∀ j, j < i → Ij 39 (mb k s j) = nI ((6 * cv (mp k s j) + mxN n (fun j => cv (mp k s j)) / 2) / mxN n (fun j => cv (mp k s j)))) → V x M_X2_makeFamily Q 55 [some (rfv x 37), some (.int (nI (k))), some (.int (nI (s))), some (.int (nI (n))), some (.int (nI (mxN n (fun j => cv (mp k s j))))), some (.int (nI (i))), none] [] Ij L P := by
            refine lpU ?_ ?_
            · intro Ij hF hO hA
              refine v_iload 57 rfl dX2_makeFamily_55 rfl ?_
              refine v_iload_n 58 rfl dX2_makeFamily_57 rfl ?_
              refine v_icmpN_ge 101 61 dX2_makeFamily_58 (by decide) rfl (by omega) (by omega) (fun h58 => ?_) (fun h58 => ?_)
              · skip
                refine v_vret rfl dX2_makeFamily_101 ?_
                exact hQ Ij hF hO (fun j hj _ => hA j hj) (fun h => absurd h (by omega))
              · skip
                exact absurd h58 (by omega)
            · intro i hi ih Ij hF hO hA
              have hbi := hbj i hi
              have h32i := h32 i hi
              refine v_iload 57 rfl dX2_makeFamily_55 rfl ?_
              refine v_iload_n 58 rfl dX2_makeFamily_57 rfl ?_
              refine v_icmpN_ge 101 61 dX2_makeFamily_58 (by decide) rfl (by omega) (by omega) (fun h58 => ?_) (fun h58 => ?_)
              · skip
                exact absurd h58 (by omega)
              · skip
                refine v_iload_n 62 rfl dX2_makeFamily_61 rfl ?_
                refine v_iload_n 63 rfl dX2_makeFamily_62 rfl ?_
                refine v_iload 65 rfl dX2_makeFamily_63 rfl ?_
                refine v_invT 68 M_X3_memberCell [.int (nI (k)), .int (nI (s)), .int (nI (i))] dX2_makeFamily_65 rfl ml_X2_97 sm_X3_memberCell mc_X3_memberCell (by decide) (Nat.le_of_ble_eq_true rfl) (sp_X3_memberCell (by omega) (by omega) (by omega) ?_)
                refine v_istore 70 [some (rfv x 37), some (.int (nI (k))), some (.int (nI (s))), some (.int (nI (n))), some (.int (nI (mxN n (fun j => cv (mp k s j))))), some (.int (nI (i))), some (.int (nI (mb k s i)))] dX2_makeFamily_68 rfl (by decide) rfl ?_
                refine v_aload_n 71 rfl dX2_makeFamily_70 rfl ?_
                refine v_get 74 (k := 3) 2 (rfv x 39) (by decide) rfl (by decide) (by decide) dX2_makeFamily_71 rfl fl_X2_25 rfl ?_
                refine v_iload 76 rfl dX2_makeFamily_74 rfl ?_
                refine v_bipush 78 (nI (6)) (by decide) dX2_makeFamily_76 rfl ?_
                refine v_aload_n 79 rfl dX2_makeFamily_78 rfl ?_
                refine v_get 82 (k := 2) 2 (rfv x 38) (by decide) rfl (by decide) (by decide) dX2_makeFamily_79 rfl fl_X2_21 rfl ?_
                refine v_iload 84 rfl dX2_makeFamily_82 rfl ?_
                refine v_iald 85 (k := mb k s i) (nI (cv (mp k s i))) (by decide) rfl (by decide) dX2_makeFamily_84 rfl rfl (h32 i hi) ((congrFun (hF 38 (by decide)) _).trans (hcj i hi)) ?_
                refine v_imul 86 (nI (6 * (cv (mp k s i)))) dX2_makeFamily_85 rfl (pk_mul _ _) ?_
                refine v_iload 88 rfl dX2_makeFamily_86 rfl ?_
                refine v_iconst 89 (nI (2)) (by decide) dX2_makeFamily_88 rfl ?_
                refine v_idiv 90 (nI ((mxN n (fun j => cv (mp k s j))) / 2)) dX2_makeFamily_89 rfl (nI_ne0 (by omega) (by omega)) (pk_div (by omega) (by omega) (by omega)) ?_
                refine v_iadd 91 (nI ((6 * (cv (mp k s i))) + ((mxN n (fun j => cv (mp k s j))) / 2))) dX2_makeFamily_90 rfl (nI_add _ _) ?_
                refine v_iload 93 rfl dX2_makeFamily_91 rfl ?_
                refine v_idiv 94 (nI (((6 * (cv (mp k s i))) + ((mxN n (fun j => cv (mp k s j))) / 2)) / (mxN n (fun j => cv (mp k s j))))) dX2_makeFamily_93 rfl (nI_ne0 (by omega) (by omega)) (pk_div (by omega) (by omega) (by omega)) ?_
                refine v_iast 95 (k := mb k s i) (nI (((6 * (cv (mp k s i))) + ((mxN n (fun j => cv (mp k s j))) / 2)) / (mxN n (fun j => cv (mp k s j))))) (by decide) rfl (by decide) dX2_makeFamily_94 rfl rfl (h32 i hi) rfl (fun I94 e94 => ?_)
                refine v_iinc 98 [some (rfv x 37), some (.int (nI (k))), some (.int (nI (s))), some (.int (nI (n))), some (.int (nI (mxN n (fun j => cv (mp k s j))))), some (.int (nI (i + 1))), some (.int (nI (mb k s i)))] (nI (i + 1)) dX2_makeFamily_95 rfl (by decide) rfl (nI_inc _) rfl ?_
                refine v_goto 55 dX2_makeFamily_98 (by decide) ?_
                refine v_drop [some (rfv x 37), some (.int (nI (k))), some (.int (nI (s))), some (.int (nI (n))), some (.int (nI (mxN n (fun j => cv (mp k s j))))), some (.int (nI (i + 1))), none] (by simp [lsub, smN_s]) ?_
                refine ih I94 (fun b h => (up2_row e94 h).trans (hF b h)) (fun q hq => ?_) (fun j hj => ?_)
                · have z := hq i (by omega)
                  exact (up2_off e94 (by omega)).trans (hO q (fun j hj => hq j (by omega)))
                · by_cases y : j = i
                  · rw [y]
                    exact up2_at e94
                  · have z : mb k s j ≠ mb k s i := fun q => y (mb_inj q)
                    exact (up2_off e94 (by omega)).trans (hA j (by omega))
          refine v_drop [some (rfv x 37), some (.int (nI (k))), some (.int (nI (s))), some (.int (nI (n))), some (.int (nI (mxN n (fun j => cv (mp k s j))))), some (.int (nI (0))), none] (by simp [lsub, smN, amN, dbW, mxN]) ?_
          exact lq 0 (Nat.zero_le _) I (fun b _ => rfl) (fun q _ => rfl) (fun j h => absurd h (Nat.not_lt_zero j))
        · skip
          refine v_vret rfl dX2_makeFamily_51 ?_
          exact hQ I (fun _ _ => rfl) (fun _ _ => rfl) (fun j _ h => absurd h48 h) (fun _ => rfl)
      · skip
        exact absurd h18 (by omega)
    · intro i hi ih 
      have hbi := hbj i hi
      have hMi : mxN i (fun j => cv (mp k s j)) ≤ 100000 := mxN_le (fun j hj => hbj j (by omega))
      refine v_iload 17 rfl dX2_makeFamily_15 rfl ?_
      refine v_iload_n 18 rfl dX2_makeFamily_17 rfl ?_
      refine v_icmpN_ge 46 21 dX2_makeFamily_18 (by decide) rfl (by omega) (by omega) (fun h18 => ?_) (fun h18 => ?_)
      · skip
        exact absurd h18 (by omega)
      · skip
        refine v_iload 23 rfl dX2_makeFamily_21 rfl ?_
        refine v_aload_n 24 rfl dX2_makeFamily_23 rfl ?_
        refine v_get 27 (k := 2) 2 (rfv x 38) (by decide) rfl (by decide) (by decide) dX2_makeFamily_24 rfl fl_X2_21 rfl ?_
        refine v_iload_n 28 rfl dX2_makeFamily_27 rfl ?_
        refine v_iload_n 29 rfl dX2_makeFamily_28 rfl ?_
        refine v_iload 31 rfl dX2_makeFamily_29 rfl ?_
        refine v_invT 34 M_X3_memberCell [.int (nI (k)), .int (nI (s)), .int (nI (i))] dX2_makeFamily_31 rfl ml_X2_97 sm_X3_memberCell mc_X3_memberCell (by decide) (Nat.le_of_ble_eq_true rfl) (sp_X3_memberCell (by omega) (by omega) (by omega) ?_)
        refine v_iald 35 (k := mb k s i) (nI (cv (mp k s i))) (by decide) rfl (by decide) dX2_makeFamily_34 rfl rfl (h32 i hi) (hcj i hi) ?_
        refine v_mmax 38 (nI (mxN (i + 1) (fun j => cv (mp k s j)))) dX2_makeFamily_35 rfl ml_X2_100 ⟨by decide, Nat.le_of_ble_eq_true rfl⟩ ((mxs_I (by omega) (by omega)).trans (congrArg nI (mxN_s _ _).symm)) ?_
        refine v_istore 40 [some (rfv x 37), some (.int (nI (k))), some (.int (nI (s))), some (.int (nI (n))), some (.int (nI (mxN (i + 1) (fun j => cv (mp k s j))))), some (.int (nI (i))), none] dX2_makeFamily_38 rfl (by decide) rfl ?_
        refine v_iinc 43 [some (rfv x 37), some (.int (nI (k))), some (.int (nI (s))), some (.int (nI (n))), some (.int (nI (mxN (i + 1) (fun j => cv (mp k s j))))), some (.int (nI (i + 1))), none] (nI (i + 1)) dX2_makeFamily_40 rfl (by decide) rfl (nI_inc _) rfl ?_
        refine v_goto 15 dX2_makeFamily_43 (by decide) ?_
        refine v_drop [some (rfv x 37), some (.int (nI (k))), some (.int (nI (s))), some (.int (nI (n))), some (.int (nI (mxN (i + 1) (fun j => cv (mp k s j))))), some (.int (nI (i + 1))), none] (by simp [lsub, smN_s]) ?_
        exact ih
  refine v_drop [some (rfv x 37), some (.int (nI (k))), some (.int (nI (s))), some (.int (nI (n))), some (.int (nI (mxN 0 (fun j => cv (mp k s j))))), some (.int (nI (0))), none] (by simp [lsub, mxN]) ?_
  exact lp 0 (Nat.zero_le _)
set_option maxHeartbeats 4000000 in
theorem sp_X2_differs {x : Cx} {Q : Qt} {I : Iv} {L : Lv} {P : Pv} (hQ : ∀ b : Nat, b < 2 → (b ≠ 0 ↔ ∃ q, q < 32 ∧ I 39 q ≠ I 2 q) → Q (some (.int (nI b))) I L P) : SP x M_X2_differs [rfv x 37] I L P Q := by
  refine SP.intro [some (rfv x 37), none] pn_X2_differs (Nat.le_of_ble_eq_true rfl) rfl ?_
  refine v_iconst 1 (nI (0)) (by decide) dX2_differs_0 rfl ?_
  refine v_istore_n 2 [some (rfv x 37), some (.int (nI (0)))] dX2_differs_1 rfl (by decide) rfl ?_
  have lp : ∀ i, i ≤ 32 → (∀ q, q < i → I 39 q = I 2 q) → V x M_X2_differs Q 2 [some (rfv x 37), some (.int (nI (i)))] [] I L P := by
    refine lpU ?_ ?_
    · intro hs
      refine v_iload_n 3 rfl dX2_differs_2 rfl ?_
      refine v_bipush 5 (nI (32)) (by decide) dX2_differs_3 rfl ?_
      refine v_icmpN_ge 34 8 dX2_differs_5 (by decide) rfl (by omega) (by omega) (fun h5 => ?_) (fun h5 => ?_)
      · skip
        refine v_iconst 35 (nI (0)) (by decide) dX2_differs_34 rfl ?_
        refine v_zret rfl dX2_differs_35 (by decide) ?_
        exact hQ 0 (by decide) ⟨fun h => absurd rfl h, fun ⟨q, hq, e⟩ => absurd (hs q hq) e⟩
      · skip
        exact absurd h5 (by omega)
    · intro i hi ih hs
      refine v_iload_n 3 rfl dX2_differs_2 rfl ?_
      refine v_bipush 5 (nI (32)) (by decide) dX2_differs_3 rfl ?_
      refine v_icmpN_ge 34 8 dX2_differs_5 (by decide) rfl (by omega) (by omega) (fun h5 => ?_) (fun h5 => ?_)
      · skip
        exact absurd h5 (by omega)
      · skip
        refine v_aload_n 9 rfl dX2_differs_8 rfl ?_
        refine v_get 12 (k := 3) 2 (rfv x 39) (by decide) rfl (by decide) (by decide) dX2_differs_9 rfl fl_X2_25 rfl ?_
        refine v_iload_n 13 rfl dX2_differs_12 rfl ?_
        refine v_iald 14 (k := i) (I 39 (i)) (by decide) rfl (by decide) dX2_differs_13 rfl rfl (by omega) rfl ?_
        refine v_aload_n 15 rfl dX2_differs_14 rfl ?_
        refine v_get 18 (k := 0) 2 (rfv x 1) (by decide) rfl (by decide) (by decide) dX2_differs_15 rfl fl_X2_9 rfl ?_
        refine v_getN 21 (k := 0) 3 (rfv x 2) (by decide) rfl (by decide) (by decide) dX2_differs_18 rfl fl_X2_51 rfl ?_
        refine v_iload_n 22 rfl dX2_differs_21 rfl ?_
        refine v_iald 23 (k := i) (I 2 (i)) (by decide) rfl (by decide) dX2_differs_22 rfl rfl (by omega) rfl ?_
        refine v_icmp_eq 28 26 dX2_differs_23 (by decide) rfl (fun h23 => ?_) (fun h23 => ?_)
        · skip
          refine v_iinc 31 [some (rfv x 37), some (.int (nI (i + 1)))] (nI (i + 1)) dX2_differs_28 rfl (by decide) rfl (nI_inc _) rfl ?_
          refine v_goto 2 dX2_differs_31 (by decide) ?_
          refine v_drop [some (rfv x 37), some (.int (nI (i + 1)))] (by simp [lsub, smN_s]) ?_
          refine ih (fun q hq => ?_)
          by_cases y : q = i
          · rw [y]
            exact h23
          · exact hs q (by omega)
        · skip
          refine v_iconst 27 (nI (1)) (by decide) dX2_differs_26 rfl ?_
          refine v_zret rfl dX2_differs_27 (by decide) ?_
          exact hQ 1 (by decide) ⟨fun _ => ⟨i, hi, h23⟩, fun _ => by decide⟩
  refine v_drop [some (rfv x 37), some (.int (nI (0)))] (by simp [lsub, smN, amN, dbW, mxN]) ?_
  exact lp 0 (Nat.zero_le _) (fun q h => absurd h (Nat.not_lt_zero q))
set_option maxHeartbeats 4000000 in
theorem sp_X2_finishRound {x : Cx} {Q : Qt} {I : Iv} {L : Lv} {P : Pv} (hQ : ∀ I1 : Iv, I1 = cpy2 I 39 2 0 0 32 → Q none I1 L P) : SP x M_X2_finishRound [rfv x 37] I L P Q := by
  refine SP.intro [some (rfv x 37)] pn_X2_finishRound (Nat.le_of_ble_eq_true rfl) rfl ?_
  refine v_aload_n 1 rfl dX2_finishRound_0 rfl ?_
  refine v_get 4 (k := 3) 2 (rfv x 39) (by decide) rfl (by decide) (by decide) dX2_finishRound_1 rfl fl_X2_25 rfl ?_
  refine v_iconst 5 (nI (0)) (by decide) dX2_finishRound_4 rfl ?_
  refine v_aload_n 6 rfl dX2_finishRound_5 rfl ?_
  refine v_get 9 (k := 0) 2 (rfv x 1) (by decide) rfl (by decide) (by decide) dX2_finishRound_6 rfl fl_X2_9 rfl ?_
  refine v_getN 12 (k := 0) 3 (rfv x 2) (by decide) rfl (by decide) (by decide) dX2_finishRound_9 rfl fl_X2_51 rfl ?_
  refine v_iconst 13 (nI (0)) (by decide) dX2_finishRound_12 rfl ?_
  refine v_bipush 15 (nI (32)) (by decide) dX2_finishRound_13 rfl ?_
  refine v_acopy 18 (sp := 0) (dp := 0) (n := 32) (by decide) (by decide) rfl rfl dX2_finishRound_15 rfl ml_X2_54 ⟨by decide, Nat.le_of_ble_eq_true rfl⟩ rfl rfl rfl ⟨by decide, by decide⟩ (by omega) (by omega) (fun I15 e15 => ?_)
  refine v_vret rfl dX2_finishRound_18 ?_
  exact hQ I15 e15
set_option maxHeartbeats 4000000 in
theorem sp_X2_prepareRound {x : Cx} {Q : Qt} {I : Iv} {L : Lv} {P : Pv} {f : Vw} (c : RC 1 f I) (w : Wf f) (hQ : ∀ (b : Nat) (I1 : Iv) (L1 : Lv), b < 2 → (b ≠ 0 ↔ df f) → (∀ a, a ≠ 29 → a ≠ 38 → a ≠ 39 → I1 a = I a) → (∀ p c, PC f p c → I1 39 c = nI (lnF f p)) → Q (some (.int (nI b))) I1 L1 P) : SP x M_X2_prepareRound [rfv x 37] I L P Q := by
  have := w.n4
  have := w.m6
  have h1n := w.n1
  refine SP.intro [some (rfv x 37), none] pn_X2_prepareRound (Nat.le_of_ble_eq_true rfl) rfl ?_
  refine v_aload_n 1 rfl dX2_prepareRound_0 rfl ?_
  refine v_get 4 (k := 2) 2 (rfv x 38) (by decide) rfl (by decide) (by decide) dX2_prepareRound_1 rfl fl_X2_21 rfl ?_
  refine v_iconst 5 (nI (0)) (by decide) dX2_prepareRound_4 rfl ?_
  refine v_invT 8 M_J7_fill_53178 [rfv x 38, .int (nI (0))] dX2_prepareRound_5 rfl ml_X2_28 sm_J7_fill_53178 mc_J7_fill_53178 (by decide) (Nat.le_of_ble_eq_true rfl) (sp_J7_fill_53178 (v := 0) (fun If fz0 ff => ?_))
  refine v_iconst 9 (nI (0)) (by decide) dX2_prepareRound_8 rfl ?_
  refine v_istore_n 10 [some (rfv x 37), some (.int (nI (0)))] dX2_prepareRound_9 rfl (by decide) rfl ?_
  have lp : ∀ i, i ≤ f 1 → ∀ (Ij : Iv) (Lj : Lv), (∀ a, a ≠ 29 → a ≠ 38 → Ij a = I a) → (∀ p c, PC f p c → Ij 38 c = nI (cA f i p)) → V x M_X2_prepareRound Q 10 [some (rfv x 37), some (.int (nI (i)))] [] Ij Lj P := by
    refine lpU ?_ ?_
    · intro Ij Lj hF hC
      have cj : RC 1 f Ij := c.same (fun b _ _ => hF b (by omega) (by omega))
      refine v_iload_n 11 rfl dX2_prepareRound_10 rfl ?_
      refine v_aload_n 12 rfl dX2_prepareRound_11 rfl ?_
      refine v_get 15 (k := 0) 2 (rfv x 1) (by decide) rfl (by decide) (by decide) dX2_prepareRound_12 rfl fl_X2_9 rfl ?_
      refine v_getN 18 (k := 5) 3 (.int (nI (f 1))) (by decide) rfl (by decide) (by decide) dX2_prepareRound_15 rfl fl_X2_34 (congrArg Value.int cj.sm) ?_
      refine v_icmpN_ge 51 21 dX2_prepareRound_18 (by decide) rfl (by omega) (by omega) (fun h18 => ?_) (fun h18 => ?_)
      · skip
        refine v_aload_n 52 rfl dX2_prepareRound_51 rfl ?_
        refine v_get 55 (k := 0) 2 (rfv x 1) (by decide) rfl (by decide) (by decide) dX2_prepareRound_52 rfl fl_X2_9 rfl ?_
        refine v_getN 58 (k := 0) 3 (rfv x 2) (by decide) rfl (by decide) (by decide) dX2_prepareRound_55 rfl fl_X2_51 rfl ?_
        refine v_iconst 59 (nI (0)) (by decide) dX2_prepareRound_58 rfl ?_
        refine v_aload_n 60 rfl dX2_prepareRound_59 rfl ?_
        refine v_get 63 (k := 3) 2 (rfv x 39) (by decide) rfl (by decide) (by decide) dX2_prepareRound_60 rfl fl_X2_25 rfl ?_
        refine v_iconst 64 (nI (0)) (by decide) dX2_prepareRound_63 rfl ?_
        refine v_bipush 66 (nI (32)) (by decide) dX2_prepareRound_64 rfl ?_
        refine v_acopy 69 (sp := 0) (dp := 0) (n := 32) (by decide) (by decide) rfl rfl dX2_prepareRound_66 rfl ml_X2_54 ⟨by decide, Nat.le_of_ble_eq_true rfl⟩ rfl rfl rfl ⟨by decide, by decide⟩ (by omega) (by omega) (fun I66 e66 => ?_)
        have r66 : ∀ a, a ≠ 39 → I66 a = Ij a := fun a h => cpy_row e66 h
        have c66 : RC 1 f I66 := cj.same (fun a _ _ => r66 a (by omega))
        have hc66 : ∀ p c, PC f p c → I66 38 c = nI (cA f (f 1) p) := fun q c h => by
          rw [r66 38 (by decide)]
          exact hC q c h
        have m66 : MD f (fun _ => False) I I66 := ⟨fun q c h => ⟨fun z => z.elim, fun _ => by rw [cpy_at e66 (h.lt w).2.2]; exact cj.at h⟩, fun q hq _ => by rw [cpy_at e66 hq, hF 2 (by decide) (by decide)]⟩
        refine v_aload_n 70 rfl dX2_prepareRound_69 rfl ?_
        refine v_iconst 71 (nI (0)) (by decide) dX2_prepareRound_70 rfl ?_
        refine v_iconst 72 (nI (0)) (by decide) dX2_prepareRound_71 rfl ?_
        refine v_invV 75 M_X2_makeFamily [.int (nI (0)), .int (nI (0))] (by decide) rfl (by decide) rfl dX2_prepareRound_72 rfl ml_X2_60 im_X2_makeFamily se_X2_makeFamily mc_X2_makeFamily (by decide) (Nat.le_of_ble_eq_true rfl) (sp_X2_makeFamily c66 w (k := 0) (s := 0) (by decide) (by omega) (cv := cA f (f 1)) hc66 (fun q c h => by have := cA_le w (Nat.le_refl _) h; omega) (fun Ia fa ga1 ga2 ga3 => ?_))
        refine v_iconst 76 (nI (0)) (by decide) dX2_prepareRound_75 rfl ?_
        refine v_istore_n 77 [some (rfv x 37), some (.int (nI (0)))] dX2_prepareRound_76 rfl (by decide) rfl ?_
        have lq : ∀ i, i ≤ f 0 → ∀ Ik : Iv, (∀ a, a ≠ 29 → a ≠ 38 → a ≠ 39 → Ik a = I a) → (∀ p c, PC f p c → Ik 38 c = nI (cA f (f 1) p)) → MD f (Dn i) I Ik → V x M_X2_prepareRound Q 77 [some (rfv x 37), some (.int (nI (i)))] [] Ik Lj P := by
          refine lpU ?_ ?_
          · intro Ik kF kC mk
            have ck : RC 1 f Ik := c.same (fun b _ _ => kF b (by omega) (by omega) (by omega))
            refine v_iload_n 78 rfl dX2_prepareRound_77 rfl ?_
            refine v_aload_n 79 rfl dX2_prepareRound_78 rfl ?_
            refine v_get 82 (k := 0) 2 (rfv x 1) (by decide) rfl (by decide) (by decide) dX2_prepareRound_79 rfl fl_X2_9 rfl ?_
            refine v_getN 85 (k := 1) 3 (.int (nI (f 0))) (by decide) rfl (by decide) (by decide) dX2_prepareRound_82 rfl fl_X2_64 (congrArg Value.int ck.st) ?_
            refine v_icmpN_ge 106 88 dX2_prepareRound_85 (by decide) rfl (by omega) (by omega) (fun h85 => ?_) (fun h85 => ?_)
            · skip
              refine v_aload_n 107 rfl dX2_prepareRound_106 rfl ?_
              refine v_invV 110 M_X2_differs [] (by decide) rfl (by decide) rfl dX2_prepareRound_107 rfl ml_X2_67 im_X2_differs se_X2_differs mc_X2_differs (by decide) (Nat.le_of_ble_eq_true rfl) (sp_X2_differs (fun b hb hbe => ?_))
              refine v_zret rfl dX2_prepareRound_110 (bit_n hb) ?_
              have hl : ∀ p c, PC f p c → Ik 39 c = nI (lnF f p) := fun q c h => (mk.1 q c h).1 (by
                have h4 := w.n4
                rcases h with ⟨s, hs, e, _⟩ | ⟨s, t, hs, ht, e, _⟩ | ⟨s, t, hs, ht, e, _⟩ <;> (unfold Dn; omega))
              refine hQ b Ik Lj hb (hbe.trans ⟨?_, ?_⟩) kF hl
              · rintro ⟨q, hq, hne⟩
                by_cases y : ∃ p, PC f p q
                · obtain ⟨p, hp⟩ := y
                  refine ⟨p, q, hp, fun e => hne ?_⟩
                  rw [hl p q hp, e]
                  exact (ck.at hp).symm
                · refine absurd ?_ hne
                  rw [mk.2 q hq (fun p hp => y ⟨p, hp⟩), kF 2 (by decide) (by decide) (by decide)]
              · rintro ⟨p, q, hp, hne⟩
                refine ⟨q, (hp.lt w).2.2, fun e => hne ?_⟩
                have h6 := w.at hp
                have h7 := w.ln.at (f := lnF f) (p := p) (c := q) hp
                have h8 : nI (lnF f p) = nI (f p) := (hl p q hp).symm.trans (e.trans (ck.at hp))
                exact (nI_eq (by omega) (by omega)).mp h8
            · skip
              exact absurd h85 (by omega)
          · intro i hi ih Ik kF kC mk
            have ck : RC 1 f Ik := c.same (fun b _ _ => kF b (by omega) (by omega) (by omega))
            refine v_iload_n 78 rfl dX2_prepareRound_77 rfl ?_
            refine v_aload_n 79 rfl dX2_prepareRound_78 rfl ?_
            refine v_get 82 (k := 0) 2 (rfv x 1) (by decide) rfl (by decide) (by decide) dX2_prepareRound_79 rfl fl_X2_9 rfl ?_
            refine v_getN 85 (k := 1) 3 (.int (nI (f 0))) (by decide) rfl (by decide) (by decide) dX2_prepareRound_82 rfl fl_X2_64 (congrArg Value.int ck.st) ?_
            refine v_icmpN_ge 106 88 dX2_prepareRound_85 (by decide) rfl (by omega) (by omega) (fun h85 => ?_) (fun h85 => ?_)
            · skip
              exact absurd h85 (by omega)
            · skip
              refine v_aload_n 89 rfl dX2_prepareRound_88 rfl ?_
              refine v_iconst 90 (nI (1)) (by decide) dX2_prepareRound_89 rfl ?_
              refine v_iload_n 91 rfl dX2_prepareRound_90 rfl ?_
              refine v_invV 94 M_X2_makeFamily [.int (nI (1)), .int (nI (i))] (by decide) rfl (by decide) rfl dX2_prepareRound_91 rfl ml_X2_60 im_X2_makeFamily se_X2_makeFamily mc_X2_makeFamily (by decide) (Nat.le_of_ble_eq_true rfl) (sp_X2_makeFamily ck w (k := 1) (s := i) (by decide) hi (cv := cA f (f 1)) kC (fun q c h => by have := cA_le w (Nat.le_refl _) h; omega) (fun Ib fb gb1 gb2 gb3 => ?_))
              have cb : RC 1 f Ib := ck.same (fun a _ _ => fb a (by omega))
              refine v_aload_n 95 rfl dX2_prepareRound_94 rfl ?_
              refine v_iconst 96 (nI (2)) (by decide) dX2_prepareRound_95 rfl ?_
              refine v_iload_n 97 rfl dX2_prepareRound_96 rfl ?_
              refine v_invV 100 M_X2_makeFamily [.int (nI (2)), .int (nI (i))] (by decide) rfl (by decide) rfl dX2_prepareRound_97 rfl ml_X2_60 im_X2_makeFamily se_X2_makeFamily mc_X2_makeFamily (by decide) (Nat.le_of_ble_eq_true rfl) (sp_X2_makeFamily cb w (k := 2) (s := i) (by decide) hi (cv := cA f (f 1)) (fun q c h => by rw [fb 38 (by decide)]; exact kC q c h) (fun q c h => by have := cA_le w (Nat.le_refl _) h; omega) (fun Ic fc gc1 gc2 gc3 => ?_))
              refine v_iinc 103 [some (rfv x 37), some (.int (nI (i + 1)))] (nI (i + 1)) dX2_prepareRound_100 rfl (by decide) rfl (nI_inc _) rfl ?_
              refine v_goto 77 dX2_prepareRound_103 (by decide) ?_
              refine v_drop [some (rfv x 37), some (.int (nI (i + 1)))] (by simp [lsub, smN_s]) ?_
              exact ih Ic (fun a z1 z2 z3 => (fc a z3).trans ((fb a z3).trans (kF a z1 z2 z3))) (fun q c h => by rw [fc 38 (by decide), fb 38 (by decide)]; exact kC q c h) (((mk.step w (by decide) hi (fun q z => by simp only [Dn, Fm_0, Fm_1, Fm_2] at z ⊢; omega) gb1 gb2 gb3).step w (by decide) hi (fun q z => by simp only [Dn, Fm_0, Fm_1, Fm_2] at z ⊢; omega) gc1 gc2 gc3).mono (fun q c h => by have := h.lt w; simp only [Dn, Fm_0, Fm_1, Fm_2, false_or]; omega))
        refine v_drop [some (rfv x 37), some (.int (nI (0)))] (by simp [lsub, smN, amN, dbW, mxN]) ?_
        exact lq 0 (Nat.zero_le _) Ia (fun a z1 z2 z3 => (fa a z3).trans ((r66 a z3).trans (hF a z1 z2))) (fun q c h => by rw [fa 38 (by decide)]; exact hc66 q c h) ((m66.step w (by decide) (by omega) (fun _ _ z => z) ga1 ga2 ga3).mono (fun q c h => by have := h.lt w; simp only [Dn, Fm_0, Fm_1, Fm_2, false_or]; omega))
      · skip
        exact absurd h18 (by omega)
    · intro i hi ih Ij Lj hF hC
      have cj : RC 1 f Ij := c.same (fun b _ _ => hF b (by omega) (by omega))
      have hT := totW_le w hi
      refine v_iload_n 11 rfl dX2_prepareRound_10 rfl ?_
      refine v_aload_n 12 rfl dX2_prepareRound_11 rfl ?_
      refine v_get 15 (k := 0) 2 (rfv x 1) (by decide) rfl (by decide) (by decide) dX2_prepareRound_12 rfl fl_X2_9 rfl ?_
      refine v_getN 18 (k := 5) 3 (.int (nI (f 1))) (by decide) rfl (by decide) (by decide) dX2_prepareRound_15 rfl fl_X2_34 (congrArg Value.int cj.sm) ?_
      refine v_icmpN_ge 51 21 dX2_prepareRound_18 (by decide) rfl (by omega) (by omega) (fun h18 => ?_) (fun h18 => ?_)
      · skip
        exact absurd h18 (by omega)
      · skip
        refine v_aload_n 22 rfl dX2_prepareRound_21 rfl ?_
        refine v_get 25 (k := 1) 2 (rfv x 29) (by decide) rfl (by decide) (by decide) dX2_prepareRound_22 rfl fl_X2_15 rfl ?_
        refine v_iload_n 26 rfl dX2_prepareRound_25 rfl ?_
        refine v_invV 29 M_X6_read [.int (nI (i))] (by decide) rfl (by decide) rfl dX2_prepareRound_26 rfl ml_X2_38 im_X6_read se_X6_read mc_X6_read (by decide) (Nat.le_of_ble_eq_true rfl) (sp_X6_read cj w hi (fun Ir Lr g1 g2 sm => ?_))
        have cr : RC 1 f Ir := cj.same (fun a _ _ => g1 a (by omega))
        refine v_aload_n 30 rfl dX2_prepareRound_29 rfl ?_
        refine v_get 33 (k := 1) 2 (rfv x 29) (by decide) rfl (by decide) (by decide) dX2_prepareRound_30 rfl fl_X2_15 rfl ?_
        refine v_getN 36 (k := 5) 6 (.long (lN (totW f i))) (by decide) rfl (by decide) (by decide) dX2_prepareRound_33 rfl fl_X2_44 (congrArg Value.long sm.2.2.2.2) ?_
        refine v_lconst 37 (lN (0)) rfl dX2_prepareRound_36 rfl ?_
        refine v_lcmp_le 38 45 41 dX2_prepareRound_37 rfl dX2_prepareRound_38 (by decide) rfl (fun h37 => ?_) (fun h37 => ?_)
        · skip
          refine v_iinc 48 [some (rfv x 37), some (.int (nI (i + 1)))] (nI (i + 1)) dX2_prepareRound_45 rfl (by decide) rfl (nI_inc _) rfl ?_
          refine v_goto 10 dX2_prepareRound_48 (by decide) ?_
          refine v_drop [some (rfv x 37), some (.int (nI (i + 1)))] (by simp [lsub, smN_s]) ?_
          refine ih Ir Lr (fun a z1 z2 => (g1 a z1).trans (hF a z1 z2)) (fun q c h => ?_)
          rw [cA_s, shA_0 (by have := mt (pk_lLT (a := 0) (b := totW f i) (by decide) (by omega)).mpr h37; omega), Nat.add_zero, g1 38 (by decide)]
          exact hC q c h
        · skip
          refine v_aload_n 42 rfl dX2_prepareRound_41 rfl ?_
          refine v_invV 45 M_X2_countSample [] (by decide) rfl (by decide) rfl dX2_prepareRound_42 rfl ml_X2_48 im_X2_countSample se_X2_countSample mc_X2_countSample (by decide) (Nat.le_of_ble_eq_true rfl) (sp_X2_countSample cr w hi sm ((pk_lLT (a := 0) (b := totW f i) (by decide) (by omega)).mp h37) (a := cA f i) (fun q c h => by rw [g1 38 (by decide)]; exact hC q c h) (fun Ic fc cc => ?_))
          refine v_iinc 48 [some (rfv x 37), some (.int (nI (i + 1)))] (nI (i + 1)) dX2_prepareRound_45 rfl (by decide) rfl (nI_inc _) rfl ?_
          refine v_goto 10 dX2_prepareRound_48 (by decide) ?_
          refine v_drop [some (rfv x 37), some (.int (nI (i + 1)))] (by simp [lsub, smN_s]) ?_
          exact ih Ic Lr (fun a z1 z2 => (fc a z2).trans ((g1 a z1).trans (hF a z1 z2))) cc
  refine v_drop [some (rfv x 37), some (.int (nI (0)))] (by simp [lsub, smN, amN, dbW, mxN]) ?_
  exact lp 0 (Nat.zero_le _) If L (fun a _ z2 => ff a z2) (fun q c h => fz0 c ((h.lt w).2.2))
