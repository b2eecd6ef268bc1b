/-! a weight's odds, in numbers -/
def pq (w : Nat → Nat) (s j : Nat) : Nat := 1000 * w j / s
def pr (w : Nat → Nat) (s j : Nat) : Nat := 1000 * w j % s
def ahN (w : Nat → Nat) (s i j : Nat) : Nat := if pr w s i < pr w s j ∨ (pr w s j = pr w s i ∧ j < i) then 1 else 0
def lfN (w : Nat → Nat) (s m : Nat) : Nat := 1000 - smN m (pq w s)
def odN (w : Nat → Nat) (n i : Nat) : Nat := if smN n w = 0 then 0 else pq w (smN n w) i + (if smN n (ahN w (smN n w) i) < lfN w (smN n w) n then 1 else 0)
def bsN (R : Nat → Nat) : Nat → Nat
  | 0 => 0
  | m + 1 => cond (Nat.blt (R (bsN R m)) (R m)) m (bsN R m)
def upb (O : Nat → Nat) (b v : Nat) : Nat → Nat := fun i => cond (Nat.beq i b) v (O i)
def finN (n : Nat) : Nat → (Nat → Nat) → (Nat → Nat) → Nat → Nat
  | 0, O, _ => O
  | l + 1, O, R => finN n l (upb O (bsN R n) (O (bsN R n) + 1)) (upb R (bsN R n) 0)
def w4 (a b c d : Nat) : Nat → Nat := fun j => cond (Nat.beq j 0) a (cond (Nat.beq j 1) b (cond (Nat.beq j 2) c d))
def allB : Nat → (Nat → Bool) → Bool
  | 0, _ => true
  | m + 1, p => cond (p m) (allB m p) false
def okW (n : Nat) (w : Nat → Nat) : Bool := cond (Nat.beq (smN n w) 0) true (allB n (fun j => Nat.beq (finN n (lfN w (smN n w) n) (pq w (smN n w)) (fun i => pr w (smN n w) i + 1) j) (odN w n j)))
theorem allB_at {p : Nat → Bool} : ∀ {m : Nat}, allB m p = true → ∀ i, i < m → p i = true
  | 0, _, i, hi => absurd hi (Nat.not_lt_zero i)
  | m + 1, h, i, hi => by
    unfold allB at h
    cases e : p m with
    | false =>
      rw [e] at h
      cases h
    | true =>
      rw [e] at h
      by_cases q : i = m
      · rw [q]
        exact e
      · exact allB_at h i (by omega)
theorem okW1 : allB 7 (fun a => okW 1 (w4 a 0 0 0)) = true := by decide +kernel
theorem okW2 : allB 7 (fun a => allB 7 (fun b => okW 2 (w4 a b 0 0))) = true := by decide +kernel
theorem okW3 : allB 7 (fun a => allB 7 (fun b => allB 7 (fun c => okW 3 (w4 a b c 0)))) = true := by decide +kernel
theorem okW4 : allB 7 (fun a => allB 7 (fun b => allB 7 (fun c => allB 7 (fun d => okW 4 (w4 a b c d))))) = true := by decide +kernel
theorem okW_fin {n : Nat} {w : Nat → Nat} (h : okW n w = true) (hs : smN n w ≠ 0) {j : Nat} (hj : j < n) : finN n (lfN w (smN n w) n) (pq w (smN n w)) (fun i => pr w (smN n w) i + 1) j = odN w n j := by
  unfold okW at h
  cases e : Nat.beq (smN n w) 0 with
  | true => exact absurd (Nat.eq_of_beq_eq_true e) hs
  | false =>
    rw [e] at h
    exact Nat.eq_of_beq_eq_true (allB_at (m := n) h j hj)
/-- the weights of a family, no more than its size -/
def cut (n : Nat) (w : Nat → Nat) : Nat → Nat := w4 (if 0 < n then w 0 else 0) (if 1 < n then w 1 else 0) (if 2 < n then w 2 else 0) (if 3 < n then w 3 else 0)
theorem cut_at {n : Nat} {w : Nat → Nat} (hn : n ≤ 4) {j : Nat} (hj : j < n) : cut n w j = w j := by
  rcases (show j = 0 ∨ j = 1 ∨ j = 2 ∨ j = 3 by omega) with q | q | q | q <;> subst q <;> exact if_pos hj
theorem fin_odN {n : Nat} {w : Nat → Nat} (h1 : 1 ≤ n) (hn : n ≤ 4) (hw : ∀ j, j < n → w j ≤ 6) (hs : smN n (cut n w) ≠ 0) {j : Nat} (hj : j < n) : finN n (lfN (cut n w) (smN n (cut n w)) n) (pq (cut n w) (smN n (cut n w))) (fun i => pr (cut n w) (smN n (cut n w)) i + 1) j = odN (cut n w) n j := by
  refine okW_fin ?_ hs hj
  rcases (show n = 1 ∨ n = 2 ∨ n = 3 ∨ n = 4 by omega) with q | q | q | q <;> subst q
  · have h0 := hw 0 (by decide)
    exact allB_at okW1 (w 0) (by omega)
  · have h0 := hw 0 (by decide)
    have h1 := hw 1 (by decide)
    exact allB_at (allB_at okW2 (w 0) (by omega)) (w 1) (by omega)
  · have h0 := hw 0 (by decide)
    have h1 := hw 1 (by decide)
    have h2 := hw 2 (by decide)
    exact allB_at (allB_at (allB_at okW3 (w 0) (by omega)) (w 1) (by omega)) (w 2) (by omega)
  · have h0 := hw 0 (by decide)
    have h1 := hw 1 (by decide)
    have h2 := hw 2 (by decide)
    have h3 := hw 3 (by decide)
    exact allB_at (allB_at (allB_at (allB_at okW4 (w 0) (by omega)) (w 1) (by omega)) (w 2) (by omega)) (w 3) (by omega)
theorem odN_congr {n : Nat} {w v : Nat → Nat} (e : ∀ j, j < n → w j = v j) {i : Nat} (hi : i < n) : odN w n i = odN v n i := by
  have e1 : smN n w = smN n v := smN_congr e
  have e2 : smN n (ahN w (smN n v) i) = smN n (ahN v (smN n v) i) := smN_congr (fun j hj => by unfold ahN pr; rw [e j hj, e i hi])
  have e3 : lfN w (smN n v) n = lfN v (smN n v) n := by
    unfold lfN
    rw [smN_congr (g := pq w (smN n v)) (h := pq v (smN n v)) (fun j hj => by unfold pq; rw [e j hj])]
  unfold odN
  rw [e1, e2, e3]
  unfold pq
  rw [e i hi]
theorem pq_mul {w : Nat → Nat} {s : Nat} : ∀ m, smN m (pq w s) * s ≤ 1000 * smN m w
  | 0 => by simp [smN]
  | m + 1 => by
    have h1 := pq_mul (w := w) (s := s) m
    have h2 : pq w s m * s ≤ 1000 * w m := Nat.div_mul_le_self _ _
    rw [smN_s, smN_s, Nat.add_mul]
    omega
theorem smN_mono {g : Nat → Nat} {m : Nat} : ∀ {n : Nat}, m ≤ n → smN m g ≤ smN n g
  | 0, h => by
    rw [show m = 0 by omega]
    exact Nat.le_refl _
  | n + 1, h => by
    by_cases q : m = n + 1
    · rw [q]
      exact Nat.le_refl _
    · have h1 := smN_mono (g := g) (m := m) (n := n) (by omega)
      rw [smN_s]
      omega
theorem pq_le {w : Nat → Nat} {n m : Nat} (hm : m ≤ n) : smN m (pq w (smN n w)) ≤ 1000 := by
  by_cases z : smN n w = 0
  · rw [z]
    have h1 := smN_le (g := pq w 0) (c := 0) (n := m) (fun k _ => by unfold pq; rw [Nat.div_zero]; exact Nat.le_refl 0)
    omega
  · have h1 := pq_mul (w := w) (s := smN n w) m
    have h2 := smN_mono (g := w) hm
    refine Nat.le_of_mul_le_mul_right (Nat.le_trans h1 ?_) (Nat.pos_of_ne_zero z)
    exact Nat.mul_le_mul_left 1000 h2
theorem smN_zero {w : Nat → Nat} : ∀ {n : Nat}, smN n w = 0 → ∀ j, j < n → w j = 0
  | 0, _, j, hj => absurd hj (Nat.not_lt_zero j)
  | n + 1, h, j, hj => by
    rw [smN_s] at h
    by_cases q : j = n
    · rw [q]
      omega
    · exact smN_zero (n := n) (by omega) j (by omega)
def rv (r : Nat) : Int32 := if r = 0 then (-1) else nI (r - 1)
theorem rv_toInt {r : Nat} (h : r < 2 ^ 30) : (rv r).toInt = r - 1 := by
  unfold rv
  split
  · rename_i q
    subst q
    decide
  · rw [nI_toInt (by omega)]
    omega
theorem rv_le {a b : Nat} (ha : a < 2 ^ 30) (hb : b < 2 ^ 30) : rv a ≤ rv b ↔ a ≤ b := by
  rw [Int32.le_iff_toInt_le, rv_toInt ha, rv_toInt hb]
  omega
theorem bsN_lt (R : Nat → Nat) {n : Nat} : ∀ {m : Nat}, m ≤ n → 0 < n → bsN R m < n
  | 0, _, h => h
  | m + 1, h, h0 => by
    have h1 := bsN_lt R (n := n) (m := m) (by omega) h0
    unfold bsN
    cases Nat.blt (R (bsN R m)) (R m)
    · exact h1
    · exact h
theorem bsN_s (R : Nat → Nat) (m : Nat) : bsN R (m + 1) = if R (bsN R m) < R m then m else bsN R m := by
  conv => lhs; unfold bsN
  by_cases q : R (bsN R m) < R m
  · rw [if_pos q, show Nat.blt (R (bsN R m)) (R m) = true from Nat.ble_eq.mpr q]
    rfl
  · rw [if_neg q, show Nat.blt (R (bsN R m)) (R m) = false from Bool.eq_false_iff.mpr (fun y => q (Nat.ble_eq.mp y))]
    rfl
theorem bsN_1 (R : Nat → Nat) : bsN R 1 = 0 := by
  rw [bsN_s]
  split <;> rfl
theorem upb_at {O : Nat → Nat} {b v : Nat} : upb O b v b = v := by
  unfold upb
  rw [Nat.beq_refl]
  rfl
theorem upb_ne {O : Nat → Nat} {b v i : Nat} (h : i ≠ b) : upb O b v i = O i := by
  unfold upb
  rw [show Nat.beq i b = false from Bool.eq_false_iff.mpr (fun y => h (Nat.eq_of_beq_eq_true y))]
  rfl
theorem lf_sub {w : Nat → Nat} {n i : Nat} (hi : i < n) : nI (lfN w (smN n w) i) - nI (1000 * w i / smN n w) = nI (lfN w (smN n w) (i + 1)) := by
  have h1 := pq_le (w := w) (n := n) (m := i + 1) (by omega)
  rw [smN_s] at h1
  have h2 : pq w (smN n w) i = 1000 * w i / smN n w := rfl
  refine (pk_sub ?_).trans (congrArg nI ?_)
  · unfold lfN
    omega
  · unfold lfN
    rw [smN_s]
    omega
/-! the families of a model -/
def mp (k s j : Nat) : Nat := if k = 0 then pl 0 j 0 else pl k s j
def mb (k s j : Nat) : Nat := if k = 0 then cl 0 j 0 else cl k s j
def fm (f : Vw) (k s : Nat) : Nat → Nat := fun j => f (mp k s j)
def me (k s t : Nat) : Nat := if k = 0 then s else t
theorem PC.fam {f : Vw} {k s j : Nat} (hk : k < 3) (hs : s < f 0) (hj : j < fz (f 0) k) : PC f (mp k s j) (mb k s j) := by
  unfold mp mb
  by_cases q : k = 0
  · subst q
    have h : j < f 0 := hj
    exact PC.of (k := 0) (by decide) h (by decide : 0 < 1)
  · rw [if_neg q, if_neg q]
    refine PC.of hk hs ?_
    unfold fz at hj
    unfold tg
    rw [if_neg q]
    rcases (show k = 1 ∨ k = 2 by omega) with y | y <;> subst y
    · exact hj
    · exact hj
theorem fz_le {n k : Nat} (h1 : 1 ≤ n) (hn : n ≤ 4) : 1 ≤ fz n k ∧ fz n k ≤ 4 := by
  unfold fz
  split <;> omega
theorem me_lt {f : Vw} {k s t : Nat} (hk : k < 3) (hs : s < f 0) (ht : t < tg (f 0) k) : me k s t < fz (f 0) k := by
  rcases (show k = 0 ∨ k = 1 ∨ k = 2 by omega) with y | y | y <;> subst y
  · exact hs
  · exact ht
  · exact ht
set_option maxHeartbeats 4000000 in
theorem sp_X3_memberCell {x : Cx} {Q : Qt} {I : Iv} {L : Lv} {P : Pv} {k s j : Nat} (hk : k < 3) (hs : s < 4) (hj : j < 4) (hQ : Q (some (.int (nI (mb k s j)))) I L P) : SP x M_X3_memberCell [.int (nI (k)), .int (nI (s)), .int (nI (j))] I L P Q := by
  refine SP.intro [some (.int (nI (k))), some (.int (nI (s))), some (.int (nI (j)))] pn_X3_memberCell (Nat.le_of_ble_eq_true rfl) rfl ?_
  refine v_iload_n 1 rfl dX3_memberCell_0 rfl ?_
  refine v_ifN_ne 13 4 dX3_memberCell_1 (by decide) rfl (by omega) (fun h1 => ?_) (fun h1 => ?_)
  · skip
    refine v_iload_n 14 rfl dX3_memberCell_13 rfl ?_
    refine v_iload_n 15 rfl dX3_memberCell_14 rfl ?_
    refine v_iload_n 16 rfl dX3_memberCell_15 rfl ?_
    refine v_invT 19 M_X3_cellOf [.int (nI (k)), .int (nI (s)), .int (nI (j))] dX3_memberCell_16 rfl ml_X3_48 sm_X3_cellOf mc_X3_cellOf (by decide) (Nat.le_of_ble_eq_true rfl) (sp_X3_cellOf (by omega) (by omega) (by omega) ?_)
    refine v_iret rfl dX3_memberCell_19 ?_
    exact qI hQ (by unfold mb; first | (rw [if_neg h1]; done) | (rw [if_pos h1, h1]; done))
  · skip
    refine v_iload_n 5 rfl dX3_memberCell_4 rfl ?_
    refine v_iload_n 6 rfl dX3_memberCell_5 rfl ?_
    refine v_iconst 7 (nI (0)) (by decide) dX3_memberCell_6 rfl ?_
    refine v_invT 10 M_X3_cellOf [.int (nI (k)), .int (nI (j)), .int (nI (0))] dX3_memberCell_7 rfl ml_X3_48 sm_X3_cellOf mc_X3_cellOf (by decide) (Nat.le_of_ble_eq_true rfl) (sp_X3_cellOf (by omega) (by omega) (by omega) ?_)
    refine v_goto 19 dX3_memberCell_10 (by decide) ?_
    refine v_iret rfl dX3_memberCell_19 ?_
    exact qI hQ (by unfold mb; first | (rw [if_neg h1]; done) | (rw [if_pos h1, h1]; done))
set_option maxHeartbeats 4000000 in
theorem sp_X3_oddsOf {x : Cx} {Q : Qt} {I : Iv} {L : Lv} {P : Pv} {f : Vw} (c : RC 1 f I) (w : Wf f) {k s t : Nat} (hk : k < 3) (hs : s < f 0) (ht : t < tg (f 0) k) (hQ : Q (some (.int (nI (odN (fm f k s) (fz (f 0) k) (me k s t))))) I L P) : SP x M_X3_oddsOf [rfv x 1, .int (nI (k)), .int (nI (s)), .int (nI (t))] I L P Q := by
  have := w.n4
  have := w.m6
  have h1n := w.n1
  have hme := me_lt hk hs ht
  obtain ⟨n, en⟩ : ∃ n, n = fz (f 0) k := ⟨_, rfl⟩
  obtain ⟨b, eb⟩ : ∃ b, b = me k s t := ⟨_, rfl⟩
  have hn := fz_le (k := k) h1n w.n4
  rw [← en] at hn hme hQ
  rw [← eb] at hme hQ
  have hc : ∀ j, j < n → I 2 (mb k s j) = nI (fm f k s j) := fun j hj => c.at (PC.fam hk hs (by omega))
  have h6 : ∀ j, j < n → fm f k s j ≤ 6 := fun j hj => w.at (PC.fam hk hs (by omega))
  have h32 : ∀ j, j < n → mb k s j < 32 := fun j hj => ((PC.fam hk hs (by omega)).lt w).2.2
  have hsum : smN n (fm f k s) ≤ n * 6 := smN_le h6
  have hb6 := h6 b hme
  have hsubl := fun i (hi : i < n) => lf_sub (w := fm f k s) hi
  refine SP.intro [some (rfv x 1), some (.int (nI (k))), some (.int (nI (s))), some (.int (nI (t))), none, none, none, none, none, none, none, none] pn_X3_oddsOf (Nat.le_of_ble_eq_true rfl) rfl ?_
  refine v_aload_n 1 rfl dX3_oddsOf_0 rfl ?_
  refine v_iload_n 2 rfl dX3_oddsOf_1 rfl ?_
  refine v_invV 5 M_X3_familySize [.int (nI (k))] (by decide) rfl (by decide) rfl dX3_oddsOf_2 rfl ml_X3_41 im_X3_familySize se_X3_familySize mc_X3_familySize (by decide) (Nat.le_of_ble_eq_true rfl) (sp_X3_familySize c w hk ?_)
  rw [← en]
  refine v_istore 7 [some (rfv x 1), some (.int (nI (k))), some (.int (nI (s))), some (.int (nI (t))), some (.int (nI (n))), none, none, none, none, none, none, none] dX3_oddsOf_5 rfl (by decide) rfl ?_
  refine v_iconst 8 (nI (0)) (by decide) dX3_oddsOf_7 rfl ?_
  refine v_istore 10 [some (rfv x 1), some (.int (nI (k))), some (.int (nI (s))), some (.int (nI (t))), some (.int (nI (n))), some (.int (nI (0))), none, none, none, none, none, none] dX3_oddsOf_8 rfl (by decide) rfl ?_
  refine v_iconst 11 (nI (0)) (by decide) dX3_oddsOf_10 rfl ?_
  refine v_istore 13 [some (rfv x 1), some (.int (nI (k))), some (.int (nI (s))), some (.int (nI (t))), some (.int (nI (n))), some (.int (nI (0))), some (.int (nI (0))), none, none, none, none, none] dX3_oddsOf_11 rfl (by decide) rfl ?_
  have lp : ∀ i, i ≤ n → V x M_X3_oddsOf Q 13 [some (rfv x 1), some (.int (nI (k))), some (.int (nI (s))), some (.int (nI (t))), some (.int (nI (n))), some (.int (nI (smN i (fm f k s)))), some (.int (nI (i))), none, none, none, none, none] [] I L P := by
    refine lpU ?_ ?_
    · skip
      refine v_iload 15 rfl dX3_oddsOf_13 rfl ?_
      refine v_iload 17 rfl dX3_oddsOf_15 rfl ?_
      refine v_icmpN_ge 43 20 dX3_oddsOf_17 (by decide) rfl (by omega) (by omega) (fun h17 => ?_) (fun h17 => ?_)
      · skip
        refine v_iload 45 rfl dX3_oddsOf_43 rfl ?_
        refine v_ifN_gt 50 48 dX3_oddsOf_45 (by decide) rfl (by omega) (fun h45 => ?_) (fun h45 => ?_)
        · skip
          have hs0 : 0 < smN n (fm f k s) := by omega
          have key : V x M_X3_oddsOf Q 59 [some (rfv x 1), some (.int (nI (k))), some (.int (nI (s))), some (.int (nI (t))), some (.int (nI (n))), some (.int (nI (smN n (fm f k s)))), none, none, none, none, none, none] [.int (nI (b))] I L P := by
            refine v_istore 61 [some (rfv x 1), some (.int (nI (k))), some (.int (nI (s))), some (.int (nI (t))), some (.int (nI (n))), some (.int (nI (smN n (fm f k s)))), some (.int (nI (b))), none, none, none, none, none] dX3_oddsOf_59 rfl (by decide) rfl ?_
            refine v_sipush 64 (nI (1000)) (by decide) dX3_oddsOf_61 rfl ?_
            refine v_aload_n 65 rfl dX3_oddsOf_64 rfl ?_
            refine v_get 68 (k := 0) 3 (rfv x 2) (by decide) rfl (by decide) (by decide) dX3_oddsOf_65 rfl fl_X3_11 rfl ?_
            refine v_iload_n 69 rfl dX3_oddsOf_68 rfl ?_
            refine v_iload_n 70 rfl dX3_oddsOf_69 rfl ?_
            refine v_iload 72 rfl dX3_oddsOf_70 rfl ?_
            refine v_invT 75 M_X3_memberCell [.int (nI (k)), .int (nI (s)), .int (nI (b))] dX3_oddsOf_72 rfl ml_X3_59 sm_X3_memberCell mc_X3_memberCell (by decide) (Nat.le_of_ble_eq_true rfl) (sp_X3_memberCell (by omega) (by omega) (by omega) ?_)
            refine v_iald 76 (k := mb k s b) (nI (fm f k s b)) (by decide) rfl (by decide) dX3_oddsOf_75 rfl rfl (h32 b hme) (hc b hme) ?_
            refine v_imul 77 (nI (1000 * (fm f k s b))) dX3_oddsOf_76 rfl (pk_mul _ _) ?_
            refine v_istore 79 [some (rfv x 1), some (.int (nI (k))), some (.int (nI (s))), some (.int (nI (t))), some (.int (nI (n))), some (.int (nI (smN n (fm f k s)))), some (.int (nI (b))), some (.int (nI (1000 * (fm f k s b)))), none, none, none, none] dX3_oddsOf_77 rfl (by decide) rfl ?_
            refine v_sipush 82 (nI (1000)) (by decide) dX3_oddsOf_79 rfl ?_
            refine v_istore 84 [some (rfv x 1), some (.int (nI (k))), some (.int (nI (s))), some (.int (nI (t))), some (.int (nI (n))), some (.int (nI (smN n (fm f k s)))), some (.int (nI (b))), some (.int (nI (1000 * (fm f k s b)))), some (.int (nI (1000))), none, none, none] dX3_oddsOf_82 rfl (by decide) rfl ?_
            refine v_iconst 85 (nI (0)) (by decide) dX3_oddsOf_84 rfl ?_
            refine v_istore 87 [some (rfv x 1), some (.int (nI (k))), some (.int (nI (s))), some (.int (nI (t))), some (.int (nI (n))), some (.int (nI (smN n (fm f k s)))), some (.int (nI (b))), some (.int (nI (1000 * (fm f k s b)))), some (.int (nI (1000))), some (.int (nI (0))), none, none] dX3_oddsOf_85 rfl (by decide) rfl ?_
            refine v_iconst 88 (nI (0)) (by decide) dX3_oddsOf_87 rfl ?_
            refine v_istore 90 [some (rfv x 1), some (.int (nI (k))), some (.int (nI (s))), some (.int (nI (t))), some (.int (nI (n))), some (.int (nI (smN n (fm f k s)))), some (.int (nI (b))), some (.int (nI (1000 * (fm f k s b)))), some (.int (nI (1000))), some (.int (nI (0))), some (.int (nI (0))), none] dX3_oddsOf_88 rfl (by decide) rfl ?_
            have lq : ∀ i, i ≤ n → V x M_X3_oddsOf Q 90 [some (rfv x 1), some (.int (nI (k))), some (.int (nI (s))), some (.int (nI (t))), some (.int (nI (n))), some (.int (nI (smN n (fm f k s)))), some (.int (nI (b))), some (.int (nI (1000 * fm f k s b))), some (.int (nI (lfN (fm f k s) (smN n (fm f k s)) i))), some (.int (nI (smN i (ahN (fm f k s) (smN n (fm f k s)) b)))), some (.int (nI (i))), none] [] I L P := by
              refine lpU ?_ ?_
              · skip
                refine v_iload 92 rfl dX3_oddsOf_90 rfl ?_
                refine v_iload 94 rfl dX3_oddsOf_92 rfl ?_
                refine v_icmpN_ge 167 97 dX3_oddsOf_94 (by decide) rfl (by omega) (by omega) (fun h94 => ?_) (fun h94 => ?_)
                · skip
                  refine v_iload 169 rfl dX3_oddsOf_167 rfl ?_
                  refine v_iload 171 rfl dX3_oddsOf_169 rfl ?_
                  refine v_idiv 172 (nI ((1000 * fm f k s b) / (smN n (fm f k s)))) dX3_oddsOf_171 rfl (nI_ne0 (by omega) (by omega)) (pk_div (by omega) (by omega) (by omega)) ?_
                  refine v_iload 174 rfl dX3_oddsOf_172 rfl ?_
                  refine v_iload 176 rfl dX3_oddsOf_174 rfl ?_
                  refine v_icmpN_ge 183 179 dX3_oddsOf_176 (by decide) rfl (by have := smN_le (g := ahN (fm f k s) (smN n (fm f k s)) b) (c := 1) (n := n) (fun j _ => by unfold ahN; split <;> omega); omega) (by unfold lfN; omega) (fun h176 => ?_) (fun h176 => ?_)
                  · skip
                    refine v_iconst 184 (nI (0)) (by decide) dX3_oddsOf_183 rfl ?_
                    refine v_iadd 185 (nI (((1000 * fm f k s b) / (smN n (fm f k s))) + 0)) dX3_oddsOf_184 rfl (nI_add _ _) ?_
                    refine v_iret rfl dX3_oddsOf_185 ?_
                    exact qI hQ (by rw [odN, if_neg (by omega)]; first | (rw [if_pos h176]; rfl) | (rw [if_neg (by omega)]; rfl))
                  · skip
                    refine v_iconst 180 (nI (1)) (by decide) dX3_oddsOf_179 rfl ?_
                    refine v_goto 184 dX3_oddsOf_180 (by decide) ?_
                    refine v_iadd 185 (nI (((1000 * fm f k s b) / (smN n (fm f k s))) + 1)) dX3_oddsOf_184 rfl (nI_add _ _) ?_
                    refine v_iret rfl dX3_oddsOf_185 ?_
                    exact qI hQ (by rw [odN, if_neg (by omega)]; first | (rw [if_pos h176]; rfl) | (rw [if_neg (by omega)]; rfl))
                · skip
                  exact absurd h94 (by omega)
              · intro i hi ih 
                have h6i := h6 i hi
                refine v_iload 92 rfl dX3_oddsOf_90 rfl ?_
                refine v_iload 94 rfl dX3_oddsOf_92 rfl ?_
                refine v_icmpN_ge 167 97 dX3_oddsOf_94 (by decide) rfl (by omega) (by omega) (fun h94 => ?_) (fun h94 => ?_)
                · skip
                  exact absurd h94 (by omega)
                · skip
                  refine v_sipush 100 (nI (1000)) (by decide) dX3_oddsOf_97 rfl ?_
                  refine v_aload_n 101 rfl dX3_oddsOf_100 rfl ?_
                  refine v_get 104 (k := 0) 3 (rfv x 2) (by decide) rfl (by decide) (by decide) dX3_oddsOf_101 rfl fl_X3_11 rfl ?_
                  refine v_iload_n 105 rfl dX3_oddsOf_104 rfl ?_
                  refine v_iload_n 106 rfl dX3_oddsOf_105 rfl ?_
                  refine v_iload 108 rfl dX3_oddsOf_106 rfl ?_
                  refine v_invT 111 M_X3_memberCell [.int (nI (k)), .int (nI (s)), .int (nI (i))] dX3_oddsOf_108 rfl ml_X3_59 sm_X3_memberCell mc_X3_memberCell (by decide) (Nat.le_of_ble_eq_true rfl) (sp_X3_memberCell (by omega) (by omega) (by omega) ?_)
                  refine v_iald 112 (k := mb k s i) (nI (fm f k s i)) (by decide) rfl (by decide) dX3_oddsOf_111 rfl rfl (h32 i hi) (hc i hi) ?_
                  refine v_imul 113 (nI (1000 * (fm f k s i))) dX3_oddsOf_112 rfl (pk_mul _ _) ?_
                  refine v_istore 115 [some (rfv x 1), some (.int (nI (k))), some (.int (nI (s))), some (.int (nI (t))), some (.int (nI (n))), some (.int (nI (smN n (fm f k s)))), some (.int (nI (b))), some (.int (nI (1000 * fm f k s b))), some (.int (nI (lfN (fm f k s) (smN n (fm f k s)) i))), some (.int (nI (smN i (ahN (fm f k s) (smN n (fm f k s)) b)))), some (.int (nI (i))), some (.int (nI (1000 * (fm f k s i))))] dX3_oddsOf_113 rfl (by decide) rfl ?_
                  refine v_iload 117 rfl dX3_oddsOf_115 rfl ?_
                  refine v_iload 119 rfl dX3_oddsOf_117 rfl ?_
                  refine v_iload 121 rfl dX3_oddsOf_119 rfl ?_
                  refine v_idiv 122 (nI ((1000 * (fm f k s i)) / (smN n (fm f k s)))) dX3_oddsOf_121 rfl (nI_ne0 (by omega) (by omega)) (pk_div (by omega) (by omega) (by omega)) ?_
                  refine v_isub 123 (nI (lfN (fm f k s) (smN n (fm f k s)) (i + 1))) dX3_oddsOf_122 rfl (hsubl i hi) ?_
                  refine v_istore 125 [some (rfv x 1), some (.int (nI (k))), some (.int (nI (s))), some (.int (nI (t))), some (.int (nI (n))), some (.int (nI (smN n (fm f k s)))), some (.int (nI (b))), some (.int (nI (1000 * fm f k s b))), some (.int (nI (lfN (fm f k s) (smN n (fm f k s)) (i + 1)))), some (.int (nI (smN i (ahN (fm f k s) (smN n (fm f k s)) b)))), some (.int (nI (i))), some (.int (nI (1000 * (fm f k s i))))] dX3_oddsOf_123 rfl (by decide) rfl ?_
                  refine v_iload 127 rfl dX3_oddsOf_125 rfl ?_
                  refine v_iload 129 rfl dX3_oddsOf_127 rfl ?_
                  refine v_irem 130 (nI ((1000 * (fm f k s i)) % (smN n (fm f k s)))) dX3_oddsOf_129 rfl (nI_ne0 (by omega) (by omega)) (pk_rem (by omega) (by omega) (by omega)) ?_
                  refine v_iload 132 rfl dX3_oddsOf_130 rfl ?_
                  refine v_iload 134 rfl dX3_oddsOf_132 rfl ?_
                  refine v_irem 135 (nI ((1000 * fm f k s b) % (smN n (fm f k s)))) dX3_oddsOf_134 rfl (nI_ne0 (by omega) (by omega)) (pk_rem (by omega) (by omega) (by omega)) ?_
                  refine v_icmpN_gt 158 138 dX3_oddsOf_135 (by decide) rfl (Nat.lt_of_le_of_lt (Nat.mod_le _ _) (by omega)) (Nat.lt_of_le_of_lt (Nat.mod_le _ _) (by omega)) (fun h135 => ?_) (fun h135 => ?_)
                  · skip
                    refine v_iinc 161 [some (rfv x 1), some (.int (nI (k))), some (.int (nI (s))), some (.int (nI (t))), some (.int (nI (n))), some (.int (nI (smN n (fm f k s)))), some (.int (nI (b))), some (.int (nI (1000 * fm f k s b))), some (.int (nI (lfN (fm f k s) (smN n (fm f k s)) (i + 1)))), some (.int (nI ((smN i (ahN (fm f k s) (smN n (fm f k s)) b)) + 1))), some (.int (nI (i))), some (.int (nI (1000 * (fm f k s i))))] (nI ((smN i (ahN (fm f k s) (smN n (fm f k s)) b)) + 1)) dX3_oddsOf_158 rfl (by decide) rfl (nI_inc _) rfl ?_
                    refine v_iinc 164 [some (rfv x 1), some (.int (nI (k))), some (.int (nI (s))), some (.int (nI (t))), some (.int (nI (n))), some (.int (nI (smN n (fm f k s)))), some (.int (nI (b))), some (.int (nI (1000 * fm f k s b))), some (.int (nI (lfN (fm f k s) (smN n (fm f k s)) (i + 1)))), some (.int (nI ((smN i (ahN (fm f k s) (smN n (fm f k s)) b)) + 1))), some (.int (nI (i + 1))), some (.int (nI (1000 * (fm f k s i))))] (nI (i + 1)) dX3_oddsOf_161 rfl (by decide) rfl (nI_inc _) rfl ?_
                    refine v_goto 90 dX3_oddsOf_164 (by decide) ?_
                    refine v_drop [some (rfv x 1), some (.int (nI (k))), some (.int (nI (s))), some (.int (nI (t))), some (.int (nI (n))), some (.int (nI (smN n (fm f k s)))), some (.int (nI (b))), some (.int (nI (1000 * fm f k s b))), some (.int (nI (lfN (fm f k s) (smN n (fm f k s)) (i + 1)))), some (.int (nI (smN (i + 1) (ahN (fm f k s) (smN n (fm f k s)) b)))), some (.int (nI (i + 1))), none] (by
                      have ea : smN (i + 1) (ahN (fm f k s) (smN n (fm f k s)) b) = smN i (ahN (fm f k s) (smN n (fm f k s)) b) + ahN (fm f k s) (smN n (fm f k s)) b i := rfl
                      have eb9 : ahN (fm f k s) (smN n (fm f k s)) b i = 1 := by
                        unfold ahN pr
                        first
                        | exact if_pos (by omega)
                        | exact if_neg (by omega)
                      rw [ea, eb9]
                      simp [lsub]) ?_
                    exact ih
                  · skip
                    refine v_iload 140 rfl dX3_oddsOf_138 rfl ?_
                    refine v_iload 142 rfl dX3_oddsOf_140 rfl ?_
                    refine v_irem 143 (nI ((1000 * (fm f k s i)) % (smN n (fm f k s)))) dX3_oddsOf_142 rfl (nI_ne0 (by omega) (by omega)) (pk_rem (by omega) (by omega) (by omega)) ?_
                    refine v_iload 145 rfl dX3_oddsOf_143 rfl ?_
                    refine v_iload 147 rfl dX3_oddsOf_145 rfl ?_
                    refine v_irem 148 (nI ((1000 * fm f k s b) % (smN n (fm f k s)))) dX3_oddsOf_147 rfl (nI_ne0 (by omega) (by omega)) (pk_rem (by omega) (by omega) (by omega)) ?_
                    refine v_icmpN_ne 161 151 dX3_oddsOf_148 (by decide) rfl (Nat.lt_of_le_of_lt (Nat.mod_le _ _) (by omega)) (Nat.lt_of_le_of_lt (Nat.mod_le _ _) (by omega)) (fun h148 => ?_) (fun h148 => ?_)
                    · skip
                      refine v_iinc 164 [some (rfv x 1), some (.int (nI (k))), some (.int (nI (s))), some (.int (nI (t))), some (.int (nI (n))), some (.int (nI (smN n (fm f k s)))), some (.int (nI (b))), some (.int (nI (1000 * fm f k s b))), some (.int (nI (lfN (fm f k s) (smN n (fm f k s)) (i + 1)))), some (.int (nI (smN i (ahN (fm f k s) (smN n (fm f k s)) b)))), some (.int (nI (i + 1))), some (.int (nI (1000 * (fm f k s i))))] (nI (i + 1)) dX3_oddsOf_161 rfl (by decide) rfl (nI_inc _) rfl ?_
                      refine v_goto 90 dX3_oddsOf_164 (by decide) ?_
                      refine v_drop [some (rfv x 1), some (.int (nI (k))), some (.int (nI (s))), some (.int (nI (t))), some (.int (nI (n))), some (.int (nI (smN n (fm f k s)))), some (.int (nI (b))), some (.int (nI (1000 * fm f k s b))), some (.int (nI (lfN (fm f k s) (smN n (fm f k s)) (i + 1)))), some (.int (nI (smN (i + 1) (ahN (fm f k s) (smN n (fm f k s)) b)))), some (.int (nI (i + 1))), none] (by
                        have ea : smN (i + 1) (ahN (fm f k s) (smN n (fm f k s)) b) = smN i (ahN (fm f k s) (smN n (fm f k s)) b) + ahN (fm f k s) (smN n (fm f k s)) b i := rfl
                        have eb9 : ahN (fm f k s) (smN n (fm f k s)) b i = 0 := by
                          unfold ahN pr
                          first
                          | exact if_pos (by omega)
                          | exact if_neg (by omega)
                        rw [ea, eb9]
                        simp [lsub]) ?_
                      exact ih
                    · skip
                      refine v_iload 153 rfl dX3_oddsOf_151 rfl ?_
                      refine v_iload 155 rfl dX3_oddsOf_153 rfl ?_
                      refine v_icmpN_ge 161 158 dX3_oddsOf_155 (by decide) rfl (by omega) (by omega) (fun h155 => ?_) (fun h155 => ?_)
                      · skip
                        refine v_iinc 164 [some (rfv x 1), some (.int (nI (k))), some (.int (nI (s))), some (.int (nI (t))), some (.int (nI (n))), some (.int (nI (smN n (fm f k s)))), some (.int (nI (b))), some (.int (nI (1000 * fm f k s b))), some (.int (nI (lfN (fm f k s) (smN n (fm f k s)) (i + 1)))), some (.int (nI (smN i (ahN (fm f k s) (smN n (fm f k s)) b)))), some (.int (nI (i + 1))), some (.int (nI (1000 * (fm f k s i))))] (nI (i + 1)) dX3_oddsOf_161 rfl (by decide) rfl (nI_inc _) rfl ?_
                        refine v_goto 90 dX3_oddsOf_164 (by decide) ?_
                        refine v_drop [some (rfv x 1), some (.int (nI (k))), some (.int (nI (s))), some (.int (nI (t))), some (.int (nI (n))), some (.int (nI (smN n (fm f k s)))), some (.int (nI (b))), some (.int (nI (1000 * fm f k s b))), some (.int (nI (lfN (fm f k s) (smN n (fm f k s)) (i + 1)))), some (.int (nI (smN (i + 1) (ahN (fm f k s) (smN n (fm f k s)) b)))), some (.int (nI (i + 1))), none] (by
                          have ea : smN (i + 1) (ahN (fm f k s) (smN n (fm f k s)) b) = smN i (ahN (fm f k s) (smN n (fm f k s)) b) + ahN (fm f k s) (smN n (fm f k s)) b i := rfl
                          have eb9 : ahN (fm f k s) (smN n (fm f k s)) b i = 0 := by
                            unfold ahN pr
                            first
                            | exact if_pos (by omega)
                            | exact if_neg (by omega)
                          rw [ea, eb9]
                          simp [lsub]) ?_
                        exact ih
                      · skip
                        refine v_iinc 161 [some (rfv x 1), some (.int (nI (k))), some (.int (nI (s))), some (.int (nI (t))), some (.int (nI (n))), some (.int (nI (smN n (fm f k s)))), some (.int (nI (b))), some (.int (nI (1000 * fm f k s b))), some (.int (nI (lfN (fm f k s) (smN n (fm f k s)) (i + 1)))), some (.int (nI ((smN i (ahN (fm f k s) (smN n (fm f k s)) b)) + 1))), some (.int (nI (i))), some (.int (nI (1000 * (fm f k s i))))] (nI ((smN i (ahN (fm f k s) (smN n (fm f k s)) b)) + 1)) dX3_oddsOf_158 rfl (by decide) rfl (nI_inc _) rfl ?_
                        refine v_iinc 164 [some (rfv x 1), some (.int (nI (k))), some (.int (nI (s))), some (.int (nI (t))), some (.int (nI (n))), some (.int (nI (smN n (fm f k s)))), some (.int (nI (b))), some (.int (nI (1000 * fm f k s b))), some (.int (nI (lfN (fm f k s) (smN n (fm f k s)) (i + 1)))), some (.int (nI ((smN i (ahN (fm f k s) (smN n (fm f k s)) b)) + 1))), some (.int (nI (i + 1))), some (.int (nI (1000 * (fm f k s i))))] (nI (i + 1)) dX3_oddsOf_161 rfl (by decide) rfl (nI_inc _) rfl ?_
                        refine v_goto 90 dX3_oddsOf_164 (by decide) ?_
                        refine v_drop [some (rfv x 1), some (.int (nI (k))), some (.int (nI (s))), some (.int (nI (t))), some (.int (nI (n))), some (.int (nI (smN n (fm f k s)))), some (.int (nI (b))), some (.int (nI (1000 * fm f k s b))), some (.int (nI (lfN (fm f k s) (smN n (fm f k s)) (i + 1)))), some (.int (nI (smN (i + 1) (ahN (fm f k s) (smN n (fm f k s)) b)))), some (.int (nI (i + 1))), none] (by
                          have ea : smN (i + 1) (ahN (fm f k s) (smN n (fm f k s)) b) = smN i (ahN (fm f k s) (smN n (fm f k s)) b) + ahN (fm f k s) (smN n (fm f k s)) b i := rfl
                          have eb9 : ahN (fm f k s) (smN n (fm f k s)) b i = 1 := by
                            unfold ahN pr
                            first
                            | exact if_pos (by omega)
                            | exact if_neg (by omega)
                          rw [ea, eb9]
                          simp [lsub]) ?_
                        exact ih
            refine v_drop [some (rfv x 1), some (.int (nI (k))), some (.int (nI (s))), some (.int (nI (t))), some (.int (nI (n))), some (.int (nI (smN n (fm f k s)))), some (.int (nI (b))), some (.int (nI (1000 * fm f k s b))), some (.int (nI (lfN (fm f k s) (smN n (fm f k s)) 0))), some (.int (nI (smN 0 (ahN (fm f k s) (smN n (fm f k s)) b)))), some (.int (nI (0))), none] (by simp [lsub, smN, lfN]) ?_
            exact lq 0 (Nat.zero_le _)
          refine v_iload_n 51 rfl dX3_oddsOf_50 rfl ?_
          refine v_ifN_ne 58 54 dX3_oddsOf_51 (by decide) rfl (by omega) (fun h51 => ?_) (fun h51 => ?_)
          · skip
            refine v_iload_n 59 rfl dX3_oddsOf_58 rfl ?_
            refine v_drop [some (rfv x 1), some (.int (nI (k))), some (.int (nI (s))), some (.int (nI (t))), some (.int (nI (n))), some (.int (nI (smN n (fm f k s)))), none, none, none, none, none, none] (by simp [lsub, smN_s]) ?_
            rw [eb, me, if_neg h51] at key
            exact key
          · skip
            refine v_iload_n 55 rfl dX3_oddsOf_54 rfl ?_
            refine v_goto 59 dX3_oddsOf_55 (by decide) ?_
            refine v_drop [some (rfv x 1), some (.int (nI (k))), some (.int (nI (s))), some (.int (nI (t))), some (.int (nI (n))), some (.int (nI (smN n (fm f k s)))), none, none, none, none, none, none] (by simp [lsub, smN_s]) ?_
            rw [eb, me, if_pos h51] at key
            exact key
        · skip
          refine v_iconst 49 (nI (0)) (by decide) dX3_oddsOf_48 rfl ?_
          refine v_iret rfl dX3_oddsOf_49 ?_
          exact qI hQ (by rw [odN, if_pos (by omega)])
      · skip
        exact absurd h17 (by omega)
    · intro i hi ih 
      refine v_iload 15 rfl dX3_oddsOf_13 rfl ?_
      refine v_iload 17 rfl dX3_oddsOf_15 rfl ?_
      refine v_icmpN_ge 43 20 dX3_oddsOf_17 (by decide) rfl (by omega) (by omega) (fun h17 => ?_) (fun h17 => ?_)
      · skip
        exact absurd h17 (by omega)
      · skip
        refine v_iload 22 rfl dX3_oddsOf_20 rfl ?_
        refine v_aload_n 23 rfl dX3_oddsOf_22 rfl ?_
        refine v_get 26 (k := 0) 3 (rfv x 2) (by decide) rfl (by decide) (by decide) dX3_oddsOf_23 rfl fl_X3_11 rfl ?_
        refine v_iload_n 27 rfl dX3_oddsOf_26 rfl ?_
        refine v_iload_n 28 rfl dX3_oddsOf_27 rfl ?_
        refine v_iload 30 rfl dX3_oddsOf_28 rfl ?_
        refine v_invT 33 M_X3_memberCell [.int (nI (k)), .int (nI (s)), .int (nI (i))] dX3_oddsOf_30 rfl ml_X3_59 sm_X3_memberCell mc_X3_memberCell (by decide) (Nat.le_of_ble_eq_true rfl) (sp_X3_memberCell (by omega) (by omega) (by omega) ?_)
        refine v_iald 34 (k := mb k s i) (nI (fm f k s i)) (by decide) rfl (by decide) dX3_oddsOf_33 rfl rfl (h32 i hi) (hc i hi) ?_
        refine v_iadd 35 (nI ((smN i (fm f k s)) + (fm f k s i))) dX3_oddsOf_34 rfl (nI_add _ _) ?_
        refine v_istore 37 [some (rfv x 1), some (.int (nI (k))), some (.int (nI (s))), some (.int (nI (t))), some (.int (nI (n))), some (.int (nI ((smN i (fm f k s)) + (fm f k s i)))), some (.int (nI (i))), none, none, none, none, none] dX3_oddsOf_35 rfl (by decide) rfl ?_
        refine v_iinc 40 [some (rfv x 1), some (.int (nI (k))), some (.int (nI (s))), some (.int (nI (t))), some (.int (nI (n))), some (.int (nI ((smN i (fm f k s)) + (fm f k s i)))), some (.int (nI (i + 1))), none, none, none, none, none] (nI (i + 1)) dX3_oddsOf_37 rfl (by decide) rfl (nI_inc _) rfl ?_
        refine v_goto 13 dX3_oddsOf_40 (by decide) ?_
        refine v_drop [some (rfv x 1), some (.int (nI (k))), some (.int (nI (s))), some (.int (nI (t))), some (.int (nI (n))), some (.int (nI (smN (i + 1) (fm f k s)))), some (.int (nI (i + 1))), none, none, none, none, none] (by simp [lsub, smN_s]) ?_
        exact ih
  refine v_drop [some (rfv x 1), some (.int (nI (k))), some (.int (nI (s))), some (.int (nI (t))), some (.int (nI (n))), some (.int (nI (smN 0 (fm f k s)))), some (.int (nI (0))), none, none, none, none, none] (by simp [lsub, smN, amN, dbW, mxN]) ?_
  exact lp 0 (Nat.zero_le _)
