/-! a state away: raw, of any cells -/
def sk (s a : Nat) : Nat := if a < s then a else a + 1
theorem sk_lo {s a : Nat} (h : a < s) : sk s a = a := if_pos h
theorem sk_hi {s a : Nat} (h : ¬ a < s) : sk s a = a + 1 := if_neg h
theorem sk_lt {n s a : Nat} (h : a < n - 1) : sk s a < n := by
  unfold sk
  split <;> omega
theorem sk_ne {s a : Nat} : sk s a ≠ s := by
  unfold sk
  split <;> omega
def rmF (f : Vw) (s : Nat) : Vw := mkF f (f 0 - 1) (fun a => bW f (sk s a)) (fun a b => gW f (sk s a) (sk s b)) (fun a g => sW f (sk s a) g)
theorem Wf.rmv {f : Vw} (w : Wf f) {s : Nat} (h1 : f 0 ≠ 1) : Wf (rmF f s) := by
  have := w.n4
  have := w.n1
  exact w.laid ⟨by omega, by omega⟩ (fun a ha => w.b (sk_lt ha)) (fun a b ha hb => w.g (sk_lt ha) (sk_lt hb)) (fun a g ha hg => w.w (sk_lt ha) hg)
def rmA (f : Vw) (z : Int32) : Int32 := if inb z (f 0) = 0 then (-1) else if f 0 = 1 then (-4) else nI (f 0 - 1)
def rmB (f : Vw) (z : Int32) : Bool := if inb z (f 0) = 0 then false else if f 0 = 1 then false else true
set_option maxHeartbeats 4000000 in
theorem sp_X8_clears {x : Cx} {Q : Qt} {I : Iv} {L : Lv} {P : Pv} {n : Nat} (hn : n < 4) (hQ : ∀ I1 : Iv, (∀ a q, (a ≠ 41 ∨ ¬ nwP n q) → I1 a q = I a q) → Q none I1 L P) : SP x M_X8_clears [rfv x 40, .int (nI (n))] I L P Q := by
  refine SP.intro [some (rfv x 40), some (.int (nI (n))), none] pn_X8_clears (Nat.le_of_ble_eq_true rfl) rfl ?_
  refine v_aload_n 1 rfl dX8_clears_0 rfl ?_
  refine v_get 4 (k := 1) 8 (rfv x 41) (by decide) rfl (by decide) (by decide) dX8_clears_1 rfl fl_X8_7 rfl ?_
  refine v_iconst 5 (nI (3)) (by decide) dX8_clears_4 rfl ?_
  refine v_iload_n 6 rfl dX8_clears_5 rfl ?_
  refine v_iadd 7 (nI (3 + n)) dX8_clears_6 rfl (nI_add _ _) ?_
  refine v_iconst 8 (nI (0)) (by decide) dX8_clears_7 rfl ?_
  refine v_iast 9 (k := 3 + n) (nI (0)) (by decide) rfl (by decide) dX8_clears_8 rfl rfl (by omega) rfl (fun I8 e8 => ?_)
  refine v_iconst 10 (nI (0)) (by decide) dX8_clears_9 rfl ?_
  refine v_istore_n 11 [some (rfv x 40), some (.int (nI (n))), some (.int (nI (0)))] dX8_clears_10 rfl (by decide) rfl ?_
  have lp : ∀ t, t ≤ 4 → ∀ Ij : Iv, (∀ a q, (a ≠ 41 ∨ ¬ nwP n q) → Ij a q = I a q) → V x M_X8_clears Q 11 [some (rfv x 40), some (.int (nI (n))), some (.int (nI (t)))] [] Ij L P := by
    refine lpU ?_ ?_
    · intro Ij hF
      refine v_iload_n 12 rfl dX8_clears_11 rfl ?_
      refine v_iconst 13 (nI (4)) (by decide) dX8_clears_12 rfl ?_
      refine v_icmpN_ge 50 16 dX8_clears_13 (by decide) rfl (by omega) (by omega) (fun h13 => ?_) (fun h13 => ?_)
      · skip
        refine v_iconst 51 (nI (0)) (by decide) dX8_clears_50 rfl ?_
        refine v_istore_n 52 [some (rfv x 40), some (.int (nI (n))), some (.int (nI (0)))] dX8_clears_51 rfl (by decide) rfl ?_
        have lq : ∀ g, g ≤ 3 → ∀ Ik : Iv, (∀ a q, (a ≠ 41 ∨ ¬ nwP n q) → Ik a q = I a q) → V x M_X8_clears Q 52 [some (rfv x 40), some (.int (nI (n))), some (.int (nI (g)))] [] Ik L P := by
          refine lpU ?_ ?_
          · intro Ik gF
            refine v_iload_n 53 rfl dX8_clears_52 rfl ?_
            refine v_iconst 54 (nI (3)) (by decide) dX8_clears_53 rfl ?_
            refine v_icmpN_ge 77 57 dX8_clears_54 (by decide) rfl (by omega) (by omega) (fun h54 => ?_) (fun h54 => ?_)
            · skip
              refine v_vret rfl dX8_clears_77 ?_
              exact hQ Ik gF
            · skip
              exact absurd h54 (by omega)
          · intro g hg ih Ik gF
            refine v_iload_n 53 rfl dX8_clears_52 rfl ?_
            refine v_iconst 54 (nI (3)) (by decide) dX8_clears_53 rfl ?_
            refine v_icmpN_ge 77 57 dX8_clears_54 (by decide) rfl (by omega) (by omega) (fun h54 => ?_) (fun h54 => ?_)
            · skip
              exact absurd h54 (by omega)
            · skip
              refine v_aload_n 58 rfl dX8_clears_57 rfl ?_
              refine v_get 61 (k := 1) 8 (rfv x 41) (by decide) rfl (by decide) (by decide) dX8_clears_58 rfl fl_X8_7 rfl ?_
              refine v_bipush 63 (nI (23)) (by decide) dX8_clears_61 rfl ?_
              refine v_iconst 64 (nI (3)) (by decide) dX8_clears_63 rfl ?_
              refine v_iload_n 65 rfl dX8_clears_64 rfl ?_
              refine v_imul 66 (nI (3 * n)) dX8_clears_65 rfl (pk_mul _ _) ?_
              refine v_iadd 67 (nI (23 + (3 * n))) dX8_clears_66 rfl (nI_add _ _) ?_
              refine v_iload_n 68 rfl dX8_clears_67 rfl ?_
              refine v_iadd 69 (nI ((23 + (3 * n)) + g)) dX8_clears_68 rfl (nI_add _ _) ?_
              refine v_iconst 70 (nI (0)) (by decide) dX8_clears_69 rfl ?_
              refine v_iast 71 (k := (23 + (3 * n)) + g) (nI (0)) (by decide) rfl (by decide) dX8_clears_70 rfl rfl (by omega) rfl (fun I70 e70 => ?_)
              refine v_iinc 74 [some (rfv x 40), some (.int (nI (n))), some (.int (nI (g + 1)))] (nI (g + 1)) dX8_clears_71 rfl (by decide) rfl (nI_inc _) rfl ?_
              refine v_goto 52 dX8_clears_74 (by decide) ?_
              refine v_drop [some (rfv x 40), some (.int (nI (n))), some (.int (nI (g + 1)))] (by simp [lsub, smN_s]) ?_
              exact ih I70 (fun a q z => (up2_off e70 (by unfold nwP at z; omega)).trans (gF a q z))
        refine v_drop [some (rfv x 40), some (.int (nI (n))), some (.int (nI (0)))] (by simp [lsub, smN, amN, dbW, mxN]) ?_
        exact lq 0 (Nat.zero_le _) Ij hF
      · skip
        exact absurd h13 (by omega)
    · intro t ht ih Ij hF
      refine v_iload_n 12 rfl dX8_clears_11 rfl ?_
      refine v_iconst 13 (nI (4)) (by decide) dX8_clears_12 rfl ?_
      refine v_icmpN_ge 50 16 dX8_clears_13 (by decide) rfl (by omega) (by omega) (fun h13 => ?_) (fun h13 => ?_)
      · skip
        exact absurd h13 (by omega)
      · skip
        refine v_aload_n 17 rfl dX8_clears_16 rfl ?_
        refine v_get 20 (k := 1) 8 (rfv x 41) (by decide) rfl (by decide) (by decide) dX8_clears_17 rfl fl_X8_7 rfl ?_
        refine v_bipush 22 (nI (7)) (by decide) dX8_clears_20 rfl ?_
        refine v_iconst 23 (nI (4)) (by decide) dX8_clears_22 rfl ?_
        refine v_iload_n 24 rfl dX8_clears_23 rfl ?_
        refine v_imul 25 (nI (4 * n)) dX8_clears_24 rfl (pk_mul _ _) ?_
        refine v_iadd 26 (nI (7 + (4 * n))) dX8_clears_25 rfl (nI_add _ _) ?_
        refine v_iload_n 27 rfl dX8_clears_26 rfl ?_
        refine v_iadd 28 (nI ((7 + (4 * n)) + t)) dX8_clears_27 rfl (nI_add _ _) ?_
        refine v_iconst 29 (nI (0)) (by decide) dX8_clears_28 rfl ?_
        refine v_iast 30 (k := (7 + (4 * n)) + t) (nI (0)) (by decide) rfl (by decide) dX8_clears_29 rfl rfl (by omega) rfl (fun I29 e29 => ?_)
        refine v_aload_n 31 rfl dX8_clears_30 rfl ?_
        refine v_get 34 (k := 1) 8 (rfv x 41) (by decide) rfl (by decide) (by decide) dX8_clears_31 rfl fl_X8_7 rfl ?_
        refine v_bipush 36 (nI (7)) (by decide) dX8_clears_34 rfl ?_
        refine v_iconst 37 (nI (4)) (by decide) dX8_clears_36 rfl ?_
        refine v_iload_n 38 rfl dX8_clears_37 rfl ?_
        refine v_imul 39 (nI (4 * t)) dX8_clears_38 rfl (pk_mul _ _) ?_
        refine v_iadd 40 (nI (7 + (4 * t))) dX8_clears_39 rfl (nI_add _ _) ?_
        refine v_iload_n 41 rfl dX8_clears_40 rfl ?_
        refine v_iadd 42 (nI ((7 + (4 * t)) + n)) dX8_clears_41 rfl (nI_add _ _) ?_
        refine v_iconst 43 (nI (0)) (by decide) dX8_clears_42 rfl ?_
        refine v_iast 44 (k := (7 + (4 * t)) + n) (nI (0)) (by decide) rfl (by decide) dX8_clears_43 rfl rfl (by omega) rfl (fun I43 e43 => ?_)
        refine v_iinc 47 [some (rfv x 40), some (.int (nI (n))), some (.int (nI (t + 1)))] (nI (t + 1)) dX8_clears_44 rfl (by decide) rfl (nI_inc _) rfl ?_
        refine v_goto 11 dX8_clears_47 (by decide) ?_
        refine v_drop [some (rfv x 40), some (.int (nI (n))), some (.int (nI (t + 1)))] (by simp [lsub, smN_s]) ?_
        exact ih I43 (fun a q z => (up2_off e43 (by unfold nwP at z; omega)).trans ((up2_off e29 (by unfold nwP at z; omega)).trans (hF a q z)))
  refine v_drop [some (rfv x 40), some (.int (nI (n))), some (.int (nI (0)))] (by simp [lsub, smN, amN, dbW, mxN]) ?_
  exact lp 0 (Nat.zero_le _) I8 (fun a q z => up2_off e8 (by unfold nwP at z; omega))
set_option maxHeartbeats 4000000 in
theorem sp_X8_drops {x : Cx} {Q : Qt} {I : Iv} {L : Lv} {P : Pv} {n s : Nat} (hn : n ≤ 4) (hn1 : 1 < n) (hs : s < n) (h0 : I 41 0 = nI n) (hQ : ∀ I1 : Iv, (∀ a q, (a ≠ 41 ∨ (q ≠ 0 ∧ q < 3) ∨ 35 ≤ q) → I1 a q = I a q) → I1 41 0 = nI (n - 1) → (∀ a, a < n - 1 → I1 41 (3 + a) = I 41 (3 + sk s a)) → (∀ a b, a < n - 1 → b < n - 1 → I1 41 (7 + 4 * a + b) = I 41 (7 + 4 * sk s a + sk s b)) → (∀ a g, a < n - 1 → g < 3 → I1 41 (23 + 3 * a + g) = I 41 (23 + 3 * sk s a + g)) → Q none I1 L P) : SP x M_X8_drops [rfv x 40, .int (nI (s))] I L P Q := by
  refine SP.intro [some (rfv x 40), some (.int (nI (s))), none, none] pn_X8_drops (Nat.le_of_ble_eq_true rfl) rfl ?_
  refine v_iconst 1 (nI (0)) (by decide) dX8_drops_0 rfl ?_
  refine v_istore_n 2 [some (rfv x 40), some (.int (nI (s))), some (.int (nI (0))), none] dX8_drops_1 rfl (by decide) rfl ?_
  have lp : ∀ i, i ≤ n → ∀ Ij : Iv, (∀ a b, a < i → s ≤ b → b < n - 1 → Ij 41 (7 + 4 * a + b) = I 41 (7 + 4 * a + (b + 1))) → (∀ a q, (a ≠ 41 ∨ q < 7 ∨ 23 ≤ q ∨ 7 + 4 * i ≤ q ∨ (q - 7) % 4 < s ∨ n - 1 ≤ (q - 7) % 4) → Ij a q = I a q) → V x M_X8_drops Q 2 [some (rfv x 40), some (.int (nI (s))), some (.int (nI (i))), none] [] Ij L P := by
    refine lpU ?_ ?_
    · intro Ij hA hF
      refine v_iload_n 3 rfl dX8_drops_2 rfl ?_
      refine v_aload_n 4 rfl dX8_drops_3 rfl ?_
      refine v_get 7 (k := 1) 8 (rfv x 41) (by decide) rfl (by decide) (by decide) dX8_drops_4 rfl fl_X8_7 rfl ?_
      refine v_iconst 8 (nI (0)) (by decide) dX8_drops_7 rfl ?_
      refine v_iald 9 (k := 0) (nI (n)) (by decide) rfl (by decide) dX8_drops_8 rfl rfl (by omega) ((hF 41 0 (by omega)).trans h0) ?_
      refine v_icmpN_ge 59 12 dX8_drops_9 (by decide) rfl (by omega) (by omega) (fun h9 => ?_) (fun h9 => ?_)
      · skip
        refine v_iload_n 60 rfl dX8_drops_59 rfl ?_
        refine v_istore_n 61 [some (rfv x 40), some (.int (nI (s))), some (.int (nI (s))), none] dX8_drops_60 rfl (by decide) rfl ?_
        have lr : ∀ u, u ≤ n - 1 → s ≤ u → ∀ Ib : Iv, (∀ a, s ≤ a → a < u → Ib 41 (3 + a) = Ij 41 (3 + a + 1)) → (∀ a b, s ≤ a → a < u → b < n - 1 → Ib 41 (7 + 4 * a + b) = Ij 41 (7 + 4 * (a + 1) + b)) → (∀ a g, s ≤ a → a < u → g < 3 → Ib 41 (23 + 3 * a + g) = Ij 41 (23 + 3 * (a + 1) + g)) → (∀ a q, (a ≠ 41 ∨ q < 3 + s ∨ (3 + u ≤ q ∧ q < 7 + 4 * s) ∨ (7 + 4 * u ≤ q ∧ q < 23 + 3 * s) ∨ 23 + 3 * u ≤ q) → Ib a q = Ij a q) → V x M_X8_drops Q 61 [some (rfv x 40), some (.int (nI (s))), some (.int (nI (u))), none] [] Ib L P := by
          refine lpU ?_ ?_
          · intro hu8 Ib b1 b2 b3 bF
            refine v_iload_n 62 rfl dX8_drops_61 rfl ?_
            refine v_aload_n 63 rfl dX8_drops_62 rfl ?_
            refine v_get 66 (k := 1) 8 (rfv x 41) (by decide) rfl (by decide) (by decide) dX8_drops_63 rfl fl_X8_7 rfl ?_
            refine v_iconst 67 (nI (0)) (by decide) dX8_drops_66 rfl ?_
            refine v_iald 68 (k := 0) (nI (n)) (by decide) rfl (by decide) dX8_drops_67 rfl rfl (by omega) ((bF 41 0 (by omega)).trans ((hF 41 0 (by omega)).trans h0)) ?_
            refine v_iconst 69 (nI (1)) (by decide) dX8_drops_68 rfl ?_
            refine v_isub 70 (nI (n - 1)) dX8_drops_69 rfl (pk_sub (by omega)) ?_
            refine v_icmpN_ge 172 73 dX8_drops_70 (by decide) rfl (by omega) (by omega) (fun h70 => ?_) (fun h70 => ?_)
            · skip
              refine v_aload_n 173 rfl dX8_drops_172 rfl ?_
              refine v_get 176 (k := 1) 8 (rfv x 41) (by decide) rfl (by decide) (by decide) dX8_drops_173 rfl fl_X8_7 rfl ?_
              refine v_iconst 177 (nI (0)) (by decide) dX8_drops_176 rfl ?_
              refine v_dup2 178 dX8_drops_177 rfl rfl rfl ?_
              refine v_iald 179 (k := 0) (nI (n)) (by decide) rfl (by decide) dX8_drops_178 rfl rfl (by omega) ((bF 41 0 (by omega)).trans ((hF 41 0 (by omega)).trans h0)) ?_
              refine v_iconst 180 (nI (1)) (by decide) dX8_drops_179 rfl ?_
              refine v_isub 181 (nI (n - 1)) dX8_drops_180 rfl (pk_sub (by omega)) ?_
              refine v_iast 182 (k := 0) (nI (n - 1)) (by decide) rfl (by decide) dX8_drops_181 rfl rfl (by omega) rfl (fun I181 e181 => ?_)
              refine v_aload_n 183 rfl dX8_drops_182 rfl ?_
              refine v_aload_n 184 rfl dX8_drops_183 rfl ?_
              refine v_get 187 (k := 1) 8 (rfv x 41) (by decide) rfl (by decide) (by decide) dX8_drops_184 rfl fl_X8_7 rfl ?_
              refine v_iconst 188 (nI (0)) (by decide) dX8_drops_187 rfl ?_
              refine v_iald 189 (k := 0) (nI (n - 1)) (by decide) rfl (by decide) dX8_drops_188 rfl rfl (by omega) (up2_at e181) ?_
              refine v_invV 192 M_X8_clears [.int (nI (n - 1))] (by decide) rfl (by decide) rfl dX8_drops_189 rfl ml_X8_108 im_X8_clears se_X8_clears mc_X8_clears (by decide) (Nat.le_of_ble_eq_true rfl) (sp_X8_clears (by omega) (fun Ic cF => ?_))
              refine v_vret rfl dX8_drops_192 ?_
              have z : ∀ a q, (a ≠ 41 ∨ ¬ nwP (n - 1) q) → (a ≠ 41 ∨ q ≠ 0) → Ic a q = Ib a q := fun a q h1 h2 => (cF a q h1).trans (up2_off e181 (by omega))
              have g1 : ∀ a b, a < n → b < n - 1 → Ij 41 (7 + 4 * a + b) = I 41 (7 + 4 * a + sk s b) := fun a b ha hb => by
                by_cases y : b < s
                · rw [sk_lo y]
                  exact hF 41 _ (by omega)
                · rw [sk_hi y]
                  exact hA a b ha (by omega) hb
              refine hQ Ic (fun a q h => ?_) ?_ (fun a ha => ?_) (fun a b ha hb => ?_) (fun a g ha hg => ?_)
              · exact (z a q (by unfold nwP; omega) (by omega)).trans ((bF a q (by omega)).trans (hF a q (by omega)))
              · exact (cF 41 0 (Or.inr (by unfold nwP; omega))).trans (up2_at e181)
              · refine (z 41 _ (Or.inr (by unfold nwP; omega)) (by omega)).trans ?_
                by_cases y : a < s
                · rw [sk_lo y]
                  exact (bF 41 _ (by omega)).trans (hF 41 _ (by omega))
                · rw [sk_hi y]
                  exact (b1 a (by omega) ha).trans (hF 41 _ (by omega))
              · refine (z 41 _ (Or.inr (by unfold nwP; omega)) (by omega)).trans ?_
                by_cases y : a < s
                · rw [sk_lo y]
                  exact (bF 41 _ (by omega)).trans (g1 a b (by omega) hb)
                · rw [sk_hi y]
                  exact (b2 a b (by omega) ha hb).trans (g1 (a + 1) b (by omega) hb)
              · refine (z 41 _ (Or.inr (by unfold nwP; omega)) (by omega)).trans ?_
                by_cases y : a < s
                · rw [sk_lo y]
                  exact (bF 41 _ (by omega)).trans (hF 41 _ (by omega))
                · rw [sk_hi y]
                  exact (b3 a g (by omega) ha hg).trans (hF 41 _ (by omega))
            · skip
              exact absurd h70 (by omega)
          · intro u hu ih hu8 Ib b1 b2 b3 bF
            refine v_iload_n 62 rfl dX8_drops_61 rfl ?_
            refine v_aload_n 63 rfl dX8_drops_62 rfl ?_
            refine v_get 66 (k := 1) 8 (rfv x 41) (by decide) rfl (by decide) (by decide) dX8_drops_63 rfl fl_X8_7 rfl ?_
            refine v_iconst 67 (nI (0)) (by decide) dX8_drops_66 rfl ?_
            refine v_iald 68 (k := 0) (nI (n)) (by decide) rfl (by decide) dX8_drops_67 rfl rfl (by omega) ((bF 41 0 (by omega)).trans ((hF 41 0 (by omega)).trans h0)) ?_
            refine v_iconst 69 (nI (1)) (by decide) dX8_drops_68 rfl ?_
            refine v_isub 70 (nI (n - 1)) dX8_drops_69 rfl (pk_sub (by omega)) ?_
            refine v_icmpN_ge 172 73 dX8_drops_70 (by decide) rfl (by omega) (by omega) (fun h70 => ?_) (fun h70 => ?_)
            · skip
              exact absurd h70 (by omega)
            · skip
              refine v_aload_n 74 rfl dX8_drops_73 rfl ?_
              refine v_get 77 (k := 1) 8 (rfv x 41) (by decide) rfl (by decide) (by decide) dX8_drops_74 rfl fl_X8_7 rfl ?_
              refine v_iconst 78 (nI (3)) (by decide) dX8_drops_77 rfl ?_
              refine v_iload_n 79 rfl dX8_drops_78 rfl ?_
              refine v_iadd 80 (nI (3 + u)) dX8_drops_79 rfl (nI_add _ _) ?_
              refine v_aload_n 81 rfl dX8_drops_80 rfl ?_
              refine v_get 84 (k := 1) 8 (rfv x 41) (by decide) rfl (by decide) (by decide) dX8_drops_81 rfl fl_X8_7 rfl ?_
              refine v_iconst 85 (nI (3)) (by decide) dX8_drops_84 rfl ?_
              refine v_iload_n 86 rfl dX8_drops_85 rfl ?_
              refine v_iadd 87 (nI (3 + u)) dX8_drops_86 rfl (nI_add _ _) ?_
              refine v_iconst 88 (nI (1)) (by decide) dX8_drops_87 rfl ?_
              refine v_iadd 89 (nI ((3 + u) + 1)) dX8_drops_88 rfl (nI_add _ _) ?_
              refine v_iald 90 (k := (3 + u) + 1) (Ij 41 (3 + u + 1)) (by decide) rfl (by decide) dX8_drops_89 rfl rfl (by omega) (bF 41 _ (by omega)) ?_
              refine v_iast 91 (k := 3 + u) (Ij 41 (3 + u + 1)) (by decide) rfl (by decide) dX8_drops_90 rfl rfl (by omega) rfl (fun I90 e90 => ?_)
              have n90 : I90 41 0 = nI n := (up2_off e90 (by omega)).trans ((bF 41 0 (by omega)).trans ((hF 41 0 (by omega)).trans h0))
              refine v_iconst 92 (nI (0)) (by decide) dX8_drops_91 rfl ?_
              refine v_istore_n 93 [some (rfv x 40), some (.int (nI (s))), some (.int (nI (u))), some (.int (nI (0)))] dX8_drops_92 rfl (by decide) rfl ?_
              have ld : ∀ t, t ≤ n - 1 → ∀ Id : Iv, (∀ b, b < t → Id 41 (7 + 4 * u + b) = Ij 41 (7 + 4 * (u + 1) + b)) → (∀ a q, (a ≠ 41 ∨ q < 7 + 4 * u ∨ 7 + 4 * u + t ≤ q) → Id a q = I90 a q) → V x M_X8_drops Q 93 [some (rfv x 40), some (.int (nI (s))), some (.int (nI (u))), some (.int (nI (t)))] [] Id L P := by
                refine lpU ?_ ?_
                · intro Id d1 dF
                  refine v_iload_n 94 rfl dX8_drops_93 rfl ?_
                  refine v_aload_n 95 rfl dX8_drops_94 rfl ?_
                  refine v_get 98 (k := 1) 8 (rfv x 41) (by decide) rfl (by decide) (by decide) dX8_drops_95 rfl fl_X8_7 rfl ?_
                  refine v_iconst 99 (nI (0)) (by decide) dX8_drops_98 rfl ?_
                  refine v_iald 100 (k := 0) (nI (n)) (by decide) rfl (by decide) dX8_drops_99 rfl rfl (by omega) ((dF 41 0 (by omega)).trans n90) ?_
                  refine v_iconst 101 (nI (1)) (by decide) dX8_drops_100 rfl ?_
                  refine v_isub 102 (nI (n - 1)) dX8_drops_101 rfl (pk_sub (by omega)) ?_
                  refine v_icmpN_ge 132 105 dX8_drops_102 (by decide) rfl (by omega) (by omega) (fun h102 => ?_) (fun h102 => ?_)
                  · skip
                    refine v_iconst 133 (nI (0)) (by decide) dX8_drops_132 rfl ?_
                    refine v_istore_n 134 [some (rfv x 40), some (.int (nI (s))), some (.int (nI (u))), some (.int (nI (0)))] dX8_drops_133 rfl (by decide) rfl ?_
                    have le : ∀ g, g ≤ 3 → ∀ Ie : Iv, (∀ b, b < g → Ie 41 (23 + 3 * u + b) = Ij 41 (23 + 3 * (u + 1) + b)) → (∀ a q, (a ≠ 41 ∨ q < 23 + 3 * u ∨ 23 + 3 * u + g ≤ q) → Ie a q = Id a q) → V x M_X8_drops Q 134 [some (rfv x 40), some (.int (nI (s))), some (.int (nI (u))), some (.int (nI (g)))] [] Ie L P := by
                      refine lpU ?_ ?_
                      · intro Ie e1 eF
                        refine v_iload_n 135 rfl dX8_drops_134 rfl ?_
                        refine v_iconst 136 (nI (3)) (by decide) dX8_drops_135 rfl ?_
                        refine v_icmpN_ge 166 139 dX8_drops_136 (by decide) rfl (by omega) (by omega) (fun h136 => ?_) (fun h136 => ?_)
                        · skip
                          refine v_iinc 169 [some (rfv x 40), some (.int (nI (s))), some (.int (nI (u + 1))), some (.int (nI (3)))] (nI (u + 1)) dX8_drops_166 rfl (by decide) rfl (nI_inc _) rfl ?_
                          refine v_goto 61 dX8_drops_169 (by decide) ?_
                          refine v_drop [some (rfv x 40), some (.int (nI (s))), some (.int (nI (u + 1))), none] (by simp [lsub, smN_s]) ?_
                          refine ih (by omega) Ie (fun a h1 h2 => ?_) (fun a b h1 h2 h3 => ?_) (fun a g h1 h2 h3 => ?_) (fun a q h => (eF a q (by omega)).trans ((dF a q (by omega)).trans ((up2_off e90 (by omega)).trans (bF a q (by omega)))))
                          · refine (eF 41 _ (by omega)).trans ((dF 41 _ (by omega)).trans ?_)
                            by_cases y : a = u
                            · rw [y]
                              exact up2_at e90
                            · exact (up2_off e90 (by omega)).trans (b1 a h1 (by omega))
                          · refine (eF 41 _ (by omega)).trans ?_
                            by_cases y : a = u
                            · rw [y]
                              exact d1 b h3
                            · exact (dF 41 _ (by omega)).trans ((up2_off e90 (by omega)).trans (b2 a b h1 (by omega) h3))
                          · by_cases y : a = u
                            · rw [y]
                              exact e1 g h3
                            · exact (eF 41 _ (by omega)).trans ((dF 41 _ (by omega)).trans ((up2_off e90 (by omega)).trans (b3 a g h1 (by omega) h3)))
                        · skip
                          exact absurd h136 (by omega)
                      · intro g hg ih Ie e1 eF
                        refine v_iload_n 135 rfl dX8_drops_134 rfl ?_
                        refine v_iconst 136 (nI (3)) (by decide) dX8_drops_135 rfl ?_
                        refine v_icmpN_ge 166 139 dX8_drops_136 (by decide) rfl (by omega) (by omega) (fun h136 => ?_) (fun h136 => ?_)
                        · skip
                          exact absurd h136 (by omega)
                        · skip
                          refine v_aload_n 140 rfl dX8_drops_139 rfl ?_
                          refine v_get 143 (k := 1) 8 (rfv x 41) (by decide) rfl (by decide) (by decide) dX8_drops_140 rfl fl_X8_7 rfl ?_
                          refine v_bipush 145 (nI (23)) (by decide) dX8_drops_143 rfl ?_
                          refine v_iconst 146 (nI (3)) (by decide) dX8_drops_145 rfl ?_
                          refine v_iload_n 147 rfl dX8_drops_146 rfl ?_
                          refine v_imul 148 (nI (3 * u)) dX8_drops_147 rfl (pk_mul _ _) ?_
                          refine v_iadd 149 (nI (23 + (3 * u))) dX8_drops_148 rfl (nI_add _ _) ?_
                          refine v_iload_n 150 rfl dX8_drops_149 rfl ?_
                          refine v_iadd 151 (nI ((23 + (3 * u)) + g)) dX8_drops_150 rfl (nI_add _ _) ?_
                          refine v_aload_n 152 rfl dX8_drops_151 rfl ?_
                          refine v_iload_n 153 rfl dX8_drops_152 rfl ?_
                          refine v_iconst 154 (nI (1)) (by decide) dX8_drops_153 rfl ?_
                          refine v_iadd 155 (nI (u + 1)) dX8_drops_154 rfl (nI_add _ _) ?_
                          refine v_iload_n 156 rfl dX8_drops_155 rfl ?_
                          refine v_invV 159 M_X8_show [.int (nI (u + 1)), .int (nI (g))] (by decide) rfl (by decide) rfl dX8_drops_156 rfl ml_X8_73 im_X8_show se_X8_show mc_X8_show (by decide) (Nat.le_of_ble_eq_true rfl) (sq_X8_show (v := Ij 41 (23 + 3 * (u + 1) + g)) (by omega) (by omega) ((eF 41 _ (by omega)).trans ((dF 41 _ (by omega)).trans ((up2_off e90 (by omega)).trans (bF 41 _ (by omega))))) ?_)
                          refine v_iast 160 (k := (23 + (3 * u)) + g) (Ij 41 (23 + 3 * (u + 1) + g)) (by decide) rfl (by decide) dX8_drops_159 rfl rfl (by omega) rfl (fun I159 e159 => ?_)
                          refine v_iinc 163 [some (rfv x 40), some (.int (nI (s))), some (.int (nI (u))), some (.int (nI (g + 1)))] (nI (g + 1)) dX8_drops_160 rfl (by decide) rfl (nI_inc _) rfl ?_
                          refine v_goto 134 dX8_drops_163 (by decide) ?_
                          refine v_drop [some (rfv x 40), some (.int (nI (s))), some (.int (nI (u))), some (.int (nI (g + 1)))] (by simp [lsub, smN_s]) ?_
                          refine ih I159 (fun b h1 => ?_) (fun a q h => (up2_off e159 (by omega)).trans (eF a q (by omega)))
                          by_cases y : b = g
                          · rw [y]
                            exact up2_at e159
                          · exact (up2_off e159 (by omega)).trans (e1 b (by omega))
                    refine v_drop [some (rfv x 40), some (.int (nI (s))), some (.int (nI (u))), some (.int (nI (0)))] (by simp [lsub, smN, amN, dbW, mxN]) ?_
                    exact le 0 (Nat.zero_le _) Id (fun b h => absurd h (Nat.not_lt_zero b)) (fun a q _ => rfl)
                  · skip
                    exact absurd h102 (by omega)
                · intro t ht ih Id d1 dF
                  refine v_iload_n 94 rfl dX8_drops_93 rfl ?_
                  refine v_aload_n 95 rfl dX8_drops_94 rfl ?_
                  refine v_get 98 (k := 1) 8 (rfv x 41) (by decide) rfl (by decide) (by decide) dX8_drops_95 rfl fl_X8_7 rfl ?_
                  refine v_iconst 99 (nI (0)) (by decide) dX8_drops_98 rfl ?_
                  refine v_iald 100 (k := 0) (nI (n)) (by decide) rfl (by decide) dX8_drops_99 rfl rfl (by omega) ((dF 41 0 (by omega)).trans n90) ?_
                  refine v_iconst 101 (nI (1)) (by decide) dX8_drops_100 rfl ?_
                  refine v_isub 102 (nI (n - 1)) dX8_drops_101 rfl (pk_sub (by omega)) ?_
                  refine v_icmpN_ge 132 105 dX8_drops_102 (by decide) rfl (by omega) (by omega) (fun h102 => ?_) (fun h102 => ?_)
                  · skip
                    exact absurd h102 (by omega)
                  · skip
                    refine v_aload_n 106 rfl dX8_drops_105 rfl ?_
                    refine v_get 109 (k := 1) 8 (rfv x 41) (by decide) rfl (by decide) (by decide) dX8_drops_106 rfl fl_X8_7 rfl ?_
                    refine v_bipush 111 (nI (7)) (by decide) dX8_drops_109 rfl ?_
                    refine v_iconst 112 (nI (4)) (by decide) dX8_drops_111 rfl ?_
                    refine v_iload_n 113 rfl dX8_drops_112 rfl ?_
                    refine v_imul 114 (nI (4 * u)) dX8_drops_113 rfl (pk_mul _ _) ?_
                    refine v_iadd 115 (nI (7 + (4 * u))) dX8_drops_114 rfl (nI_add _ _) ?_
                    refine v_iload_n 116 rfl dX8_drops_115 rfl ?_
                    refine v_iadd 117 (nI ((7 + (4 * u)) + t)) dX8_drops_116 rfl (nI_add _ _) ?_
                    refine v_aload_n 118 rfl dX8_drops_117 rfl ?_
                    refine v_iload_n 119 rfl dX8_drops_118 rfl ?_
                    refine v_iconst 120 (nI (1)) (by decide) dX8_drops_119 rfl ?_
                    refine v_iadd 121 (nI (u + 1)) dX8_drops_120 rfl (nI_add _ _) ?_
                    refine v_iload_n 122 rfl dX8_drops_121 rfl ?_
                    refine v_invV 125 M_X8_go [.int (nI (u + 1)), .int (nI (t))] (by decide) rfl (by decide) rfl dX8_drops_122 rfl ml_X8_76 im_X8_go se_X8_go mc_X8_go (by decide) (Nat.le_of_ble_eq_true rfl) (sq_X8_go (v := Ij 41 (7 + 4 * (u + 1) + t)) (by omega) (by omega) ((dF 41 _ (by omega)).trans ((up2_off e90 (by omega)).trans (bF 41 _ (by omega)))) ?_)
                    refine v_iast 126 (k := (7 + (4 * u)) + t) (Ij 41 (7 + 4 * (u + 1) + t)) (by decide) rfl (by decide) dX8_drops_125 rfl rfl (by omega) rfl (fun I125 e125 => ?_)
                    refine v_iinc 129 [some (rfv x 40), some (.int (nI (s))), some (.int (nI (u))), some (.int (nI (t + 1)))] (nI (t + 1)) dX8_drops_126 rfl (by decide) rfl (nI_inc _) rfl ?_
                    refine v_goto 93 dX8_drops_129 (by decide) ?_
                    refine v_drop [some (rfv x 40), some (.int (nI (s))), some (.int (nI (u))), some (.int (nI (t + 1)))] (by simp [lsub, smN_s]) ?_
                    refine ih I125 (fun b h1 => ?_) (fun a q h => (up2_off e125 (by omega)).trans (dF a q (by omega)))
                    by_cases y : b = t
                    · rw [y]
                      exact up2_at e125
                    · exact (up2_off e125 (by omega)).trans (d1 b (by omega))
              refine v_drop [some (rfv x 40), some (.int (nI (s))), some (.int (nI (u))), some (.int (nI (0)))] (by simp [lsub, smN, amN, dbW, mxN]) ?_
              exact ld 0 (Nat.zero_le _) I90 (fun b h => absurd h (Nat.not_lt_zero b)) (fun a q _ => rfl)
        refine v_drop [some (rfv x 40), some (.int (nI (s))), some (.int (nI (s))), none] (by simp [lsub]) ?_
        exact lr s (by omega) (Nat.le_refl _) Ij (fun a h1 h2 => absurd h2 (by omega)) (fun a b h1 h2 => absurd h2 (by omega)) (fun a g h1 h2 => absurd h2 (by omega)) (fun a q _ => rfl)
      · skip
        exact absurd h9 (by omega)
    · intro i hi ih Ij hA hF
      refine v_iload_n 3 rfl dX8_drops_2 rfl ?_
      refine v_aload_n 4 rfl dX8_drops_3 rfl ?_
      refine v_get 7 (k := 1) 8 (rfv x 41) (by decide) rfl (by decide) (by decide) dX8_drops_4 rfl fl_X8_7 rfl ?_
      refine v_iconst 8 (nI (0)) (by decide) dX8_drops_7 rfl ?_
      refine v_iald 9 (k := 0) (nI (n)) (by decide) rfl (by decide) dX8_drops_8 rfl rfl (by omega) ((hF 41 0 (by omega)).trans h0) ?_
      refine v_icmpN_ge 59 12 dX8_drops_9 (by decide) rfl (by omega) (by omega) (fun h9 => ?_) (fun h9 => ?_)
      · skip
        exact absurd h9 (by omega)
      · skip
        refine v_iload_n 13 rfl dX8_drops_12 rfl ?_
        refine v_istore_n 14 [some (rfv x 40), some (.int (nI (s))), some (.int (nI (i))), some (.int (nI (s)))] dX8_drops_13 rfl (by decide) rfl ?_
        have lq : ∀ j, j ≤ n - 1 → s ≤ j → ∀ Ik : Iv, (∀ b, s ≤ b → b < j → Ik 41 (7 + 4 * i + b) = I 41 (7 + 4 * i + (b + 1))) → (∀ a q, (a ≠ 41 ∨ q < 7 + 4 * i + s ∨ 7 + 4 * i + j ≤ q) → Ik a q = Ij a q) → V x M_X8_drops Q 14 [some (rfv x 40), some (.int (nI (s))), some (.int (nI (i))), some (.int (nI (j)))] [] Ik L P := by
          refine lpU ?_ ?_
          · intro hj8 Ik hC hG
            refine v_iload_n 15 rfl dX8_drops_14 rfl ?_
            refine v_aload_n 16 rfl dX8_drops_15 rfl ?_
            refine v_get 19 (k := 1) 8 (rfv x 41) (by decide) rfl (by decide) (by decide) dX8_drops_16 rfl fl_X8_7 rfl ?_
            refine v_iconst 20 (nI (0)) (by decide) dX8_drops_19 rfl ?_
            refine v_iald 21 (k := 0) (nI (n)) (by decide) rfl (by decide) dX8_drops_20 rfl rfl (by omega) ((hG 41 0 (by omega)).trans ((hF 41 0 (by omega)).trans h0)) ?_
            refine v_iconst 22 (nI (1)) (by decide) dX8_drops_21 rfl ?_
            refine v_isub 23 (nI (n - 1)) dX8_drops_22 rfl (pk_sub (by omega)) ?_
            refine v_icmpN_ge 53 26 dX8_drops_23 (by decide) rfl (by omega) (by omega) (fun h23 => ?_) (fun h23 => ?_)
            · skip
              refine v_iinc 56 [some (rfv x 40), some (.int (nI (s))), some (.int (nI (i + 1))), some (.int (nI (n - 1)))] (nI (i + 1)) dX8_drops_53 rfl (by decide) rfl (nI_inc _) rfl ?_
              refine v_goto 2 dX8_drops_56 (by decide) ?_
              refine v_drop [some (rfv x 40), some (.int (nI (s))), some (.int (nI (i + 1))), none] (by simp [lsub, smN_s]) ?_
              refine ih Ik (fun a b h1 h2 h3 => ?_) (fun a q h => (hG a q (by omega)).trans (hF a q (by omega)))
              by_cases y : a = i
              · rw [y]
                exact hC b h2 h3
              · exact (hG 41 _ (by omega)).trans (hA a b (by omega) h2 h3)
            · skip
              exact absurd h23 (by omega)
          · intro j hj ih hj8 Ik hC hG
            refine v_iload_n 15 rfl dX8_drops_14 rfl ?_
            refine v_aload_n 16 rfl dX8_drops_15 rfl ?_
            refine v_get 19 (k := 1) 8 (rfv x 41) (by decide) rfl (by decide) (by decide) dX8_drops_16 rfl fl_X8_7 rfl ?_
            refine v_iconst 20 (nI (0)) (by decide) dX8_drops_19 rfl ?_
            refine v_iald 21 (k := 0) (nI (n)) (by decide) rfl (by decide) dX8_drops_20 rfl rfl (by omega) ((hG 41 0 (by omega)).trans ((hF 41 0 (by omega)).trans h0)) ?_
            refine v_iconst 22 (nI (1)) (by decide) dX8_drops_21 rfl ?_
            refine v_isub 23 (nI (n - 1)) dX8_drops_22 rfl (pk_sub (by omega)) ?_
            refine v_icmpN_ge 53 26 dX8_drops_23 (by decide) rfl (by omega) (by omega) (fun h23 => ?_) (fun h23 => ?_)
            · skip
              exact absurd h23 (by omega)
            · skip
              refine v_aload_n 27 rfl dX8_drops_26 rfl ?_
              refine v_get 30 (k := 1) 8 (rfv x 41) (by decide) rfl (by decide) (by decide) dX8_drops_27 rfl fl_X8_7 rfl ?_
              refine v_bipush 32 (nI (7)) (by decide) dX8_drops_30 rfl ?_
              refine v_iconst 33 (nI (4)) (by decide) dX8_drops_32 rfl ?_
              refine v_iload_n 34 rfl dX8_drops_33 rfl ?_
              refine v_imul 35 (nI (4 * i)) dX8_drops_34 rfl (pk_mul _ _) ?_
              refine v_iadd 36 (nI (7 + (4 * i))) dX8_drops_35 rfl (nI_add _ _) ?_
              refine v_iload_n 37 rfl dX8_drops_36 rfl ?_
              refine v_iadd 38 (nI ((7 + (4 * i)) + j)) dX8_drops_37 rfl (nI_add _ _) ?_
              refine v_aload_n 39 rfl dX8_drops_38 rfl ?_
              refine v_iload_n 40 rfl dX8_drops_39 rfl ?_
              refine v_iload_n 41 rfl dX8_drops_40 rfl ?_
              refine v_iconst 42 (nI (1)) (by decide) dX8_drops_41 rfl ?_
              refine v_iadd 43 (nI (j + 1)) dX8_drops_42 rfl (nI_add _ _) ?_
              refine v_invV 46 M_X8_go [.int (nI (i)), .int (nI (j + 1))] (by decide) rfl (by decide) rfl dX8_drops_43 rfl ml_X8_76 im_X8_go se_X8_go mc_X8_go (by decide) (Nat.le_of_ble_eq_true rfl) (sq_X8_go (v := I 41 (7 + 4 * i + (j + 1))) (by omega) (by omega) ((hG 41 _ (by omega)).trans (hF 41 _ (by omega))) ?_)
              refine v_iast 47 (k := (7 + (4 * i)) + j) (I 41 (7 + 4 * i + (j + 1))) (by decide) rfl (by decide) dX8_drops_46 rfl rfl (by omega) rfl (fun I46 e46 => ?_)
              refine v_iinc 50 [some (rfv x 40), some (.int (nI (s))), some (.int (nI (i))), some (.int (nI (j + 1)))] (nI (j + 1)) dX8_drops_47 rfl (by decide) rfl (nI_inc _) rfl ?_
              refine v_goto 14 dX8_drops_50 (by decide) ?_
              refine v_drop [some (rfv x 40), some (.int (nI (s))), some (.int (nI (i))), some (.int (nI (j + 1)))] (by simp [lsub, smN_s]) ?_
              refine ih (by omega) I46 (fun b h1 h2 => ?_) (fun a q h => (up2_off e46 (by omega)).trans (hG a q (by omega)))
              by_cases y : b = j
              · rw [y]
                exact up2_at e46
              · exact (up2_off e46 (by omega)).trans (hC b h1 (by omega))
        refine v_drop [some (rfv x 40), some (.int (nI (s))), some (.int (nI (i))), some (.int (nI (s)))] (by simp [lsub]) ?_
        exact lq s (by omega) (Nat.le_refl _) Ij (fun b h1 h2 => absurd h2 (by omega)) (fun a q _ => rfl)
  refine v_drop [some (rfv x 40), some (.int (nI (s))), some (.int (nI (0))), none] (by simp [lsub, smN, amN, dbW, mxN]) ?_
  exact lp 0 (Nat.zero_le _) I (fun a b h => absurd h (Nat.not_lt_zero a)) (fun a q _ => rfl)
set_option maxHeartbeats 4000000 in
theorem sp_X3_dropState {x : Cx} {Q : Qt} {I : Iv} {L : Lv} {P : Pv} {n s : Nat} (hn : n ≤ 4) (hn1 : 1 < n) (hs : s < n) (h0 : I 1 1 = nI n) (hQ : ∀ I1 : Iv, (∀ a q, (a ≠ 1 ∨ q ≠ 1) → a ≠ 2 → I1 a q = I a q) → I1 1 1 = nI (n - 1) → (∀ a j, a < n - 1 → (j = 0 ∨ 5 ≤ j) → j < 8 → I1 2 (a * 8 + j) = I 2 (sk s a * 8 + j)) → (∀ a b, a < n - 1 → b < n - 1 → I1 2 (a * 8 + 1 + b) = I 2 (sk s a * 8 + 1 + sk s b)) → Q none I1 L P) : SP x M_X3_dropState [rfv x 1, .int (nI (s))] I L P Q := by
  refine SP.intro [some (rfv x 1), some (.int (nI (s))), none, none, none] pn_X3_dropState (Nat.le_of_ble_eq_true rfl) rfl ?_
  refine v_aload_n 1 rfl dX3_dropState_0 rfl ?_
  refine v_get 4 (k := 1) 3 (.int (nI (n))) (by decide) rfl (by decide) (by decide) dX3_dropState_1 rfl fl_X3_15 (congrArg Value.int h0) ?_
  refine v_iconst 5 (nI (1)) (by decide) dX3_dropState_4 rfl ?_
  refine v_isub 6 (nI (n - 1)) dX3_dropState_5 rfl (pk_sub (by omega)) ?_
  refine v_iload_n 7 rfl dX3_dropState_6 rfl ?_
  refine v_isub 8 (nI ((n - 1) - s)) dX3_dropState_7 rfl (pk_sub (by omega)) ?_
  refine v_istore_n 9 [some (rfv x 1), some (.int (nI (s))), some (.int (nI ((n - 1) - s))), none, none] dX3_dropState_8 rfl (by decide) rfl ?_
  refine v_aload_n 10 rfl dX3_dropState_9 rfl ?_
  refine v_get 13 (k := 0) 3 (rfv x 2) (by decide) rfl (by decide) (by decide) dX3_dropState_10 rfl fl_X3_11 rfl ?_
  refine v_iload_n 14 rfl dX3_dropState_13 rfl ?_
  refine v_iconst 15 (nI (1)) (by decide) dX3_dropState_14 rfl ?_
  refine v_iadd 16 (nI (s + 1)) dX3_dropState_15 rfl (nI_add _ _) ?_
  refine v_bipush 18 (nI (8)) (by decide) dX3_dropState_16 rfl ?_
  refine v_imul 19 (nI ((s + 1) * 8)) dX3_dropState_18 rfl (pk_mul _ _) ?_
  refine v_aload_n 20 rfl dX3_dropState_19 rfl ?_
  refine v_get 23 (k := 0) 3 (rfv x 2) (by decide) rfl (by decide) (by decide) dX3_dropState_20 rfl fl_X3_11 rfl ?_
  refine v_iload_n 24 rfl dX3_dropState_23 rfl ?_
  refine v_bipush 26 (nI (8)) (by decide) dX3_dropState_24 rfl ?_
  refine v_imul 27 (nI (s * 8)) dX3_dropState_26 rfl (pk_mul _ _) ?_
  refine v_iload_n 28 rfl dX3_dropState_27 rfl ?_
  refine v_bipush 30 (nI (8)) (by decide) dX3_dropState_28 rfl ?_
  refine v_imul 31 (nI (((n - 1) - s) * 8)) dX3_dropState_30 rfl (pk_mul _ _) ?_
  refine v_acopy 34 (sp := (s + 1) * 8) (dp := s * 8) (n := ((n - 1) - s) * 8) (by decide) (by decide) rfl rfl dX3_dropState_31 rfl ml_X3_28 ⟨by decide, Nat.le_of_ble_eq_true rfl⟩ rfl rfl rfl ⟨by decide, by decide⟩ (by omega) (by omega) (fun I31 e31 => ?_)
  have k31 : I31 1 1 = nI n := by
    rw [e31]
    unfold cpy2
    rw [if_neg (by decide)]
    exact h0
  refine v_aload_n 35 rfl dX3_dropState_34 rfl ?_
  refine v_dup 36 dX3_dropState_35 rfl rfl ?_
  refine v_get 39 (k := 1) 3 (.int (nI (n))) (by decide) rfl (by decide) (by decide) dX3_dropState_36 rfl fl_X3_15 (congrArg Value.int k31) ?_
  refine v_iconst 40 (nI (1)) (by decide) dX3_dropState_39 rfl ?_
  refine v_isub 41 (nI (n - 1)) dX3_dropState_40 rfl (pk_sub (by omega)) ?_
  refine v_putI 44 (k := 1) 3 .int (by decide) rfl (by decide) (by decide) rfl (by decide +kernel) rfl rfl (fun _ _ => rfl) dX3_dropState_41 rfl fl_X3_15 (fun I41 e41 => ?_)
  refine v_iconst 45 (nI (0)) (by decide) dX3_dropState_44 rfl ?_
  refine v_istore_n 46 [some (rfv x 1), some (.int (nI (s))), some (.int (nI ((n - 1) - s))), some (.int (nI (0))), none] dX3_dropState_45 rfl (by decide) rfl ?_
  have k0 : ∀ a q, (a ≠ 1 ∨ q ≠ 1) → a ≠ 2 → I41 a q = I a q := fun a q z1 z2 => by
    rw [up2_off e41 (by omega), e31]
    unfold cpy2
    rw [if_neg z2]
  have k2 : ∀ a j, a < n - 1 → j < 8 → I41 2 (a * 8 + j) = I 2 (sk s a * 8 + j) := fun a j ha hj => by
    rw [up2_off e41 (by omega), e31]
    unfold cpy2
    rw [if_pos rfl]
    by_cases y : a < s
    · rw [if_neg (by omega), sk_lo y]
    · rw [if_pos (by omega), sk_hi y, show (s + 1) * 8 + (a * 8 + j - s * 8) = (a + 1) * 8 + j by omega]
  have lp : ∀ i, i ≤ n - 1 → ∀ Ij : Iv, (∀ a b, a < i → s ≤ b → b < n - 1 → Ij 2 (a * 8 + 1 + b) = I41 2 (a * 8 + 1 + (b + 1))) → (∀ a q, (a ≠ 2 ∨ i * 8 ≤ q ∨ q % 8 < 1 + s ∨ n ≤ q % 8) → Ij a q = I41 a q) → V x M_X3_dropState Q 46 [some (rfv x 1), some (.int (nI (s))), some (.int (nI (n - 1 - s))), some (.int (nI (i))), none] [] Ij L P := by
    refine lpU ?_ ?_
    · intro Ij hA hF
      refine v_iload_n 47 rfl dX3_dropState_46 rfl ?_
      refine v_aload_n 48 rfl dX3_dropState_47 rfl ?_
      refine v_get 51 (k := 1) 3 (.int (nI (n - 1))) (by decide) rfl (by decide) (by decide) dX3_dropState_48 rfl fl_X3_15 (congrArg Value.int ((hF 1 1 (by omega)).trans (up2_at e41))) ?_
      refine v_icmpN_ge 99 54 dX3_dropState_51 (by decide) rfl (by omega) (by omega) (fun h51 => ?_) (fun h51 => ?_)
      · skip
        refine v_vret rfl dX3_dropState_99 ?_
        refine hQ Ij (fun a q z1 z2 => (hF a q (Or.inl z2)).trans (k0 a q z1 z2)) ((hF 1 1 (by omega)).trans (up2_at e41)) (fun a j ha h1 h2 => (hF 2 _ (by omega)).trans (k2 a j ha h2)) (fun a b ha hb => ?_)
        have k3 : ∀ b, b < 7 → I41 2 (a * 8 + 1 + b) = I 2 (sk s a * 8 + 1 + b) := fun b hb => by
          have h9 := k2 a (1 + b) ha (by omega)
          rw [← Nat.add_assoc, ← Nat.add_assoc] at h9
          exact h9
        by_cases y : b < s
        · rw [sk_lo y]
          exact (hF 2 _ (by omega)).trans (k3 b (by omega))
        · rw [sk_hi y]
          exact (hA a b ha (by omega) hb).trans (k3 (b + 1) (by omega))
      · skip
        exact absurd h51 (by omega)
    · intro i hi ih Ij hA hF
      refine v_iload_n 47 rfl dX3_dropState_46 rfl ?_
      refine v_aload_n 48 rfl dX3_dropState_47 rfl ?_
      refine v_get 51 (k := 1) 3 (.int (nI (n - 1))) (by decide) rfl (by decide) (by decide) dX3_dropState_48 rfl fl_X3_15 (congrArg Value.int ((hF 1 1 (by omega)).trans (up2_at e41))) ?_
      refine v_icmpN_ge 99 54 dX3_dropState_51 (by decide) rfl (by omega) (by omega) (fun h51 => ?_) (fun h51 => ?_)
      · skip
        exact absurd h51 (by omega)
      · skip
        refine v_iload_n 55 rfl dX3_dropState_54 rfl ?_
        refine v_istore 57 [some (rfv x 1), some (.int (nI (s))), some (.int (nI (n - 1 - s))), some (.int (nI (i))), some (.int (nI (s)))] dX3_dropState_55 rfl (by decide) rfl ?_
        have lq : ∀ j, j ≤ n - 1 → s ≤ j → ∀ Ik : Iv, (∀ b, s ≤ b → b < j → Ik 2 (i * 8 + 1 + b) = I41 2 (i * 8 + 1 + (b + 1))) → (∀ a q, (a ≠ 2 ∨ q < i * 8 + 1 + s ∨ i * 8 + 1 + j ≤ q) → Ik a q = Ij a q) → V x M_X3_dropState Q 57 [some (rfv x 1), some (.int (nI (s))), some (.int (nI (n - 1 - s))), some (.int (nI (i))), some (.int (nI (j)))] [] Ik L P := by
          refine lpU ?_ ?_
          · intro hj8 Ik hC hG
            refine v_iload 59 rfl dX3_dropState_57 rfl ?_
            refine v_aload_n 60 rfl dX3_dropState_59 rfl ?_
            refine v_get 63 (k := 1) 3 (.int (nI (n - 1))) (by decide) rfl (by decide) (by decide) dX3_dropState_60 rfl fl_X3_15 (congrArg Value.int ((hG 1 1 (by omega)).trans ((hF 1 1 (by omega)).trans (up2_at e41)))) ?_
            refine v_icmpN_ge 93 66 dX3_dropState_63 (by decide) rfl (by omega) (by omega) (fun h63 => ?_) (fun h63 => ?_)
            · skip
              refine v_iinc 96 [some (rfv x 1), some (.int (nI (s))), some (.int (nI (n - 1 - s))), some (.int (nI (i + 1))), some (.int (nI (n - 1)))] (nI (i + 1)) dX3_dropState_93 rfl (by decide) rfl (nI_inc _) rfl ?_
              refine v_goto 46 dX3_dropState_96 (by decide) ?_
              refine v_drop [some (rfv x 1), some (.int (nI (s))), some (.int (nI (n - 1 - s))), some (.int (nI (i + 1))), none] (by simp [lsub, smN_s]) ?_
              refine ih Ik (fun a b h1 h2 h3 => ?_) (fun a q h => (hG a q (by omega)).trans (hF a q (by omega)))
              by_cases y : a = i
              · rw [y]
                exact hC b h2 h3
              · exact (hG 2 _ (by omega)).trans (hA a b (by omega) h2 h3)
            · skip
              exact absurd h63 (by omega)
          · intro j hj ih hj8 Ik hC hG
            refine v_iload 59 rfl dX3_dropState_57 rfl ?_
            refine v_aload_n 60 rfl dX3_dropState_59 rfl ?_
            refine v_get 63 (k := 1) 3 (.int (nI (n - 1))) (by decide) rfl (by decide) (by decide) dX3_dropState_60 rfl fl_X3_15 (congrArg Value.int ((hG 1 1 (by omega)).trans ((hF 1 1 (by omega)).trans (up2_at e41)))) ?_
            refine v_icmpN_ge 93 66 dX3_dropState_63 (by decide) rfl (by omega) (by omega) (fun h63 => ?_) (fun h63 => ?_)
            · skip
              exact absurd h63 (by omega)
            · skip
              refine v_aload_n 67 rfl dX3_dropState_66 rfl ?_
              refine v_get 70 (k := 0) 3 (rfv x 2) (by decide) rfl (by decide) (by decide) dX3_dropState_67 rfl fl_X3_11 rfl ?_
              refine v_iconst 71 (nI (1)) (by decide) dX3_dropState_70 rfl ?_
              refine v_iload_n 72 rfl dX3_dropState_71 rfl ?_
              refine v_iload 74 rfl dX3_dropState_72 rfl ?_
              refine v_invT 77 M_X3_cellOf [.int (nI (1)), .int (nI (i)), .int (nI (j))] dX3_dropState_74 rfl ml_X3_48 sm_X3_cellOf mc_X3_cellOf (by decide) (Nat.le_of_ble_eq_true rfl) (sp_X3_cellOf (by omega) (by omega) (by omega) ?_)
              refine v_aload_n 78 rfl dX3_dropState_77 rfl ?_
              refine v_iload_n 79 rfl dX3_dropState_78 rfl ?_
              refine v_iload 81 rfl dX3_dropState_79 rfl ?_
              refine v_iconst 82 (nI (1)) (by decide) dX3_dropState_81 rfl ?_
              refine v_iadd 83 (nI (j + 1)) dX3_dropState_82 rfl (nI_add _ _) ?_
              have ec : cl 1 i j = i * 8 + 1 + j := rfl
              refine v_invV 86 M_X3_go [.int (nI (i)), .int (nI (j + 1))] (by decide) rfl (by decide) rfl dX3_dropState_83 rfl ml_X3_62 im_X3_go se_X3_go mc_X3_go (by decide) (Nat.le_of_ble_eq_true rfl) (sq_X3_go (v := I41 2 (i * 8 + 1 + (j + 1))) (by omega) (by omega) ((hG 2 _ (by omega)).trans (hF 2 _ (by omega))) ?_)
              refine v_iast 87 (k := cl 1 i j) (I41 2 (i * 8 + 1 + (j + 1))) (by decide) rfl (by decide) dX3_dropState_86 rfl rfl (by omega) rfl (fun I86 e86 => ?_)
              refine v_iinc 90 [some (rfv x 1), some (.int (nI (s))), some (.int (nI (n - 1 - s))), some (.int (nI (i))), some (.int (nI (j + 1)))] (nI (j + 1)) dX3_dropState_87 rfl (by decide) rfl (nI_inc _) rfl ?_
              refine v_goto 57 dX3_dropState_90 (by decide) ?_
              refine v_drop [some (rfv x 1), some (.int (nI (s))), some (.int (nI (n - 1 - s))), some (.int (nI (i))), some (.int (nI (j + 1)))] (by simp [lsub, smN_s]) ?_
              refine ih (by omega) I86 (fun b h1 h2 => ?_) (fun a q h => (up2_off e86 (by omega)).trans (hG a q (by omega)))
              by_cases y : b = j
              · rw [y, ← ec]
                exact up2_at e86
              · exact (up2_off e86 (by omega)).trans (hC b h1 (by omega))
        refine v_drop [some (rfv x 1), some (.int (nI (s))), some (.int (nI (n - 1 - s))), some (.int (nI (i))), some (.int (nI (s)))] (by simp [lsub]) ?_
        exact lq s (by omega) (Nat.le_refl _) Ij (fun b h1 h2 => absurd h2 (by omega)) (fun a q _ => rfl)
  refine v_drop [some (rfv x 1), some (.int (nI (s))), some (.int (nI (n - 1 - s))), some (.int (nI (0))), none] (by simp [lsub, smN, amN, dbW, mxN]) ?_
  exact lp 0 (Nat.zero_le _) I41 (fun a b h => absurd h (Nat.not_lt_zero a)) (fun a q _ => rfl)
set_option maxHeartbeats 4000000 in
theorem sp_X7_removeState {x : Cx} {Q : Qt} {I : Iv} {L : Lv} {P : Pv} {f : Vw} {H : Hs} {hn sn : Nat} {g : Vw} {T : Tx} {tl : Nat} (ci : CI f H hn sn g T tl I P) (wi : WI f H hn sn g T tl) {z : Int32} (hQ : ∀ (I1 : Iv) (L1 : Lv) (P1 : Pv), (∀ a, 40 ≤ a → I1 a = I a) → CI (stF (rmB f z) f (rmF f (ix z))) (stH (rmB f z) H hn f) (stN (rmB f z) hn) sn g T tl I1 P1 → Q (some (.int (rmA f z))) I1 L1 P1) : SP x M_X7_removeState [rfv x 0, .int (z)] I L P Q := by
  obtain ⟨c, hc, hsn, hsg, htx⟩ := id ci
  obtain ⟨w, hw, hs2, hwg, htl, hT⟩ := id wi
  have := w.n4
  have := w.m6
  have := w.n1
  refine SP.intro [some (rfv x 0), some (.int (z))] pn_X7_removeState (Nat.le_of_ble_eq_true rfl) rfl ?_
  refine v_aload_n 1 rfl dX7_removeState_0 rfl ?_
  refine v_get 4 (k := 0) 7 (rfv x 1) (by decide) rfl (by decide) (by decide) dX7_removeState_1 rfl fl_X7_15 rfl ?_
  refine v_iload_n 5 rfl dX7_removeState_4 rfl ?_
  refine v_invV 8 M_X3_hasState [.int (z)] (by decide) rfl (by decide) rfl dX7_removeState_5 rfl ml_X7_91 im_X3_hasState se_X3_hasState mc_X3_hasState (by decide) (Nat.le_of_ble_eq_true rfl) (sp_X3_hasState c w ?_)
  refine v_ifN_ne 13 11 dX7_removeState_8 (by decide) rfl (by have := inb_lt z (f 0); omega) (fun h8 => ?_) (fun h8 => ?_)
  · skip
    refine v_aload_n 14 rfl dX7_removeState_13 rfl ?_
    refine v_get 17 (k := 0) 7 (rfv x 1) (by decide) rfl (by decide) (by decide) dX7_removeState_14 rfl fl_X7_15 rfl ?_
    refine v_getN 20 (k := 1) 3 (.int (nI (f 0))) (by decide) rfl (by decide) (by decide) dX7_removeState_17 rfl fl_X7_84 (congrArg Value.int c.st) ?_
    refine v_iconst 21 (nI (1)) (by decide) dX7_removeState_20 rfl ?_
    refine v_icmpN_ne 27 24 dX7_removeState_21 (by decide) rfl (by omega) (by omega) (fun h21 => ?_) (fun h21 => ?_)
    · skip
      have h1 : f 0 ≠ 1 := h21
      have hz := h8
      obtain ⟨s, hs, ez⟩ := inb_1 (by omega) hz
      subst ez
      have es : ix (nI s) = s := ix_n (by omega)
      refine v_aload_n 28 rfl dX7_removeState_27 rfl ?_
      refine v_get 31 (k := 3) 7 (rfv x 9) (by decide) rfl (by decide) (by decide) dX7_removeState_28 rfl fl_X7_27 rfl ?_
      refine v_aload_n 32 rfl dX7_removeState_31 rfl ?_
      refine v_get 35 (k := 0) 7 (rfv x 1) (by decide) rfl (by decide) (by decide) dX7_removeState_32 rfl fl_X7_15 rfl ?_
      refine v_invV 38 M_X1_record [rfv x 1] (by decide) rfl (by decide) rfl dX7_removeState_35 rfl ml_X7_81 im_X1_record se_X1_record mc_X1_record (by decide) (Nat.le_of_ble_eq_true rfl) (sp_X1_record hc c w (fun Ir Pr fr hcr => ?_))
      refine v_aload_n 39 rfl dX7_removeState_38 rfl ?_
      refine v_get 42 (k := 0) 7 (rfv x 1) (by decide) rfl (by decide) (by decide) dX7_removeState_39 rfl fl_X7_15 rfl ?_
      refine v_iload_n 43 rfl dX7_removeState_42 rfl ?_
      have c1 : RC 1 f Ir := c.same (fun a _ _ => fr a (by omega))
      refine v_invV 46 M_X3_dropState [.int (nI (s))] (by decide) rfl (by decide) rfl dX7_removeState_43 rfl ml_X7_111 im_X3_dropState se_X3_dropState mc_X3_dropState (by decide) (Nat.le_of_ble_eq_true rfl) (sp_X3_dropState (n := f 0) w.n4 (by omega) hs c1.st (fun Id dF d0 d1 d2 => ?_))
      have ca : RC 1 (rmF f s) Id := c1.laid (by omega) d0 dF (fun a ha => (d1 a 0 ha (by omega) (by omega)).trans (c1.b (sk_lt ha))) (fun a b ha hb => (d2 a b ha hb).trans (c1.g (sk_lt ha) (sk_lt hb))) (fun a g ha hg => by
        have h9 := d1 a (5 + g) ha (by omega) (by omega)
        rw [← Nat.add_assoc, ← Nat.add_assoc] at h9
        exact h9.trans (c1.w (sk_lt ha) hg))
      have fa : ∀ a, a ≠ 1 → a ≠ 2 → Id a = Ir a := fun a z1 z2 => funext fun q => dF a q (Or.inl z1) z2
      refine v_aload_n 47 rfl dX7_removeState_46 rfl ?_
      refine v_get 50 (k := 0) 7 (rfv x 1) (by decide) rfl (by decide) (by decide) dX7_removeState_47 rfl fl_X7_15 rfl ?_
      refine v_getN 53 (k := 1) 3 (.int (nI (f 0 - 1))) (by decide) rfl (by decide) (by decide) dX7_removeState_50 rfl fl_X7_84 (congrArg Value.int d0) ?_
      refine v_iret rfl dX7_removeState_53 ?_
      refine qZ (hQ Id L Pr (fun a ha => (fa a (by omega) (by omega)).trans (fr a (by omega))) ?_) (by rw [rmA, if_neg hz, if_neg h1])
      rw [show rmB f (nI s) = true by rw [rmB, if_neg hz, if_neg h1], es]
      refine ⟨ca, hcr.same (fun a _ _ => fa a (by omega) (by omega)), ?_, fun e => ?_, ?_, fun i hi => ?_⟩
      · rw [fa 0 (by decide) (by decide), fr 0 (by omega)]
        exact hsn
      · exact (hsg e).same (fun a _ _ => (fa a (by omega) (by omega)).trans (fr a (by omega)))
      · rw [fa 27 (by decide) (by decide), fr 27 (by omega)]
        exact htx.1
      · rw [fa 28 (by decide) (by decide), fr 28 (by omega)]
        exact htx.2 i hi
    · skip
      refine v_bipush 26 ((-4)) (by decide) dX7_removeState_24 rfl ?_
      refine v_iret rfl dX7_removeState_26 ?_
      refine qZ (hQ I L P (fun _ _ => rfl) ?_) (by rw [rmA, if_neg h8, if_pos h21])
      simp only [rmB, if_neg h8, if_pos h21]
      exact ci
  · skip
    refine v_iconst 12 ((-1)) (by decide) dX7_removeState_11 rfl ?_
    refine v_iret rfl dX7_removeState_12 ?_
    refine qZ (hQ I L P (fun _ _ => rfl) ?_) (by rw [rmA, if_pos h8])
    simp only [rmB, if_pos h8]
    exact ci
set_option maxHeartbeats 4000000 in
theorem sp_X8_removeState {x : Cx} {Q : Qt} {I : Iv} {L : Lv} {P : Pv} {f : Vw} {H : Hs} {hn sn : Nat} {g : Vw} {T : Tx} {tl : Nat} (ri : RI f H hn sn g T tl I) (wi : WI f H hn sn g T tl) {z : Int32} (hQ : ∀ (I1 : Iv) (L1 : Lv), (∀ a, a < 40 → I1 a = I a) → RI (stF (rmB f z) f (rmF f (ix z))) (stH (rmB f z) H hn f) (stN (rmB f z) hn) sn g T tl I1 → Q (some (.int (rmA f z))) I1 L1 P) : SP x M_X8_removeState [rfv x 40, .int (z)] I L P Q := by
  obtain ⟨r, hr, hsn, hsg, htx⟩ := id ri
  obtain ⟨w, hw, hs2, hwg, htl, hT⟩ := id wi
  have := w.n4
  have := w.m6
  have := w.n1
  refine SP.intro [some (rfv x 40), some (.int (z))] pn_X8_removeState (Nat.le_of_ble_eq_true rfl) rfl ?_
  refine v_aload_n 1 rfl dX8_removeState_0 rfl ?_
  refine v_iconst 2 (nI (0)) (by decide) dX8_removeState_1 rfl ?_
  refine v_putI 5 (k := 0) 8 .int (by decide) rfl (by decide) (by decide) rfl (by decide +kernel) rfl rfl (fun _ _ => rfl) dX8_removeState_2 rfl fl_X8_50 (fun I2 e2 => ?_)
  have ht0 : I2 = up2 I 40 0 (nI 0) := e2
  have r2 : RR (I2 41) f := by rw [up2_row e2 (by omega)]; exact r
  have hr2 : HR H hn I2 := ⟨hr.1, (up2_off e2 (by omega)).trans hr.2.1, fun i hi => by rw [up2_row e2 (by omega)]; exact hr.2.2 i hi⟩
  have ri2 : RI f H hn sn g T tl I2 := ri.kp (fun a q hl => up2_off e2 (by unfold live at hl; omega))
  have lo2 : ∀ a, a < 40 → I2 a = I a := fun a ha => up2_row e2 (by omega)
  refine v_aload_n 6 rfl dX8_removeState_5 rfl ?_
  refine v_iload_n 7 rfl dX8_removeState_6 rfl ?_
  refine v_invV 10 M_X8_isState [.int (z)] (by decide) rfl (by decide) rfl dX8_removeState_7 rfl ml_X8_97 im_X8_isState se_X8_isState mc_X8_isState (by decide) (Nat.le_of_ble_eq_true rfl) (sp_X8_isState r2 w ?_)
  refine v_ifN_ne 15 13 dX8_removeState_10 (by decide) rfl (by have := inb_lt z (f 0); omega) (fun h10 => ?_) (fun h10 => ?_)
  · skip
    refine v_aload_n 16 rfl dX8_removeState_15 rfl ?_
    refine v_get 19 (k := 1) 8 (rfv x 41) (by decide) rfl (by decide) (by decide) dX8_removeState_16 rfl fl_X8_7 rfl ?_
    refine v_iconst 20 (nI (0)) (by decide) dX8_removeState_19 rfl ?_
    refine v_iald 21 (k := 0) (nI (f 0)) (by decide) rfl (by decide) dX8_removeState_20 rfl rfl (by omega) r2.st ?_
    refine v_iconst 22 (nI (1)) (by decide) dX8_removeState_21 rfl ?_
    refine v_icmpN_ne 28 25 dX8_removeState_22 (by decide) rfl (by omega) (by omega) (fun h22 => ?_) (fun h22 => ?_)
    · skip
      have h1 : f 0 ≠ 1 := h22
      have hz := h10
      obtain ⟨s, hs, ez⟩ := inb_1 (by omega) hz
      subst ez
      have es : ix (nI s) = s := ix_n (by omega)
      refine v_aload_n 29 rfl dX8_removeState_28 rfl ?_
      refine v_invV 32 M_X8_records [] (by decide) rfl (by decide) rfl dX8_removeState_29 rfl ml_X8_105 im_X8_records se_X8_records mc_X8_records (by decide) (Nat.le_of_ble_eq_true rfl) (sp_X8_records hr2 hw r2 w (fun Ir fr hrr => ?_))
      have rr : RR (Ir 41) f := (r2.on w (fun j _ => fr 41 j (by decide) (Or.inl (by decide))))
      refine v_aload_n 33 rfl dX8_removeState_32 rfl ?_
      refine v_iload_n 34 rfl dX8_removeState_33 rfl ?_
      refine v_invV 37 M_X8_drops [.int (nI (s))] (by decide) rfl (by decide) rfl dX8_removeState_34 rfl ml_X8_114 im_X8_drops se_X8_drops mc_X8_drops (by decide) (Nat.le_of_ble_eq_true rfl) (sp_X8_drops (n := f 0) w.n4 (by omega) hs rr.st (fun Id dF d0 d1 d2 d3 => ?_))
      refine v_aload_n 38 rfl dX8_removeState_37 rfl ?_
      refine v_get 41 (k := 1) 8 (rfv x 41) (by decide) rfl (by decide) (by decide) dX8_removeState_38 rfl fl_X8_7 rfl ?_
      refine v_iconst 42 (nI (0)) (by decide) dX8_removeState_41 rfl ?_
      refine v_iald 43 (k := 0) (nI (f 0 - 1)) (by decide) rfl (by decide) dX8_removeState_42 rfl rfl (by omega) d0 ?_
      refine v_iret rfl dX8_removeState_43 ?_
      have u1 : ∀ a q, a ≠ 41 → Id a q = Ir a q := fun a q h => dF a q (Or.inl h)
      refine qZ (hQ Id L (fun a ha => ?_) ?_) (by rw [rmA, if_neg hz, if_neg h1])
      · rw [show Id a = Ir a from funext (fun q => u1 a q (by omega)), show Ir a = I2 a from funext (fun q => fr a q (by omega) (Or.inl (by omega)))]
        exact lo2 a ha
      · rw [show rmB f (nI s) = true by rw [rmB, if_neg hz, if_neg h1], es]
        have hv : RR (Id 41) (rmF f s) := rr.laid (by omega) d0 (fun i hi => dF 41 i (by omega)) (fun a ha => (d1 a ha).trans (rr.b (sk_lt ha))) (fun a b ha hb => (d2 a b ha hb).trans (rr.g (sk_lt ha) (sk_lt hb))) (fun a g ha hg => (d3 a g ha hg).trans (rr.w (sk_lt ha) hg))
        refine ⟨hv, ⟨hrr.1, (u1 40 4 (by decide)).trans hrr.2.1, fun i hi => by rw [show Id 43 = Ir 43 from funext (fun q => u1 43 q (by decide))]; exact hrr.2.2 i hi⟩, ?_, fun e => ?_, ?_, fun i hi => ?_⟩
        · rw [u1 40 6 (by decide), fr 40 6 (by decide) (Or.inr (by decide))]
          exact ri2.2.2.1
        · exact (ri2.2.2.2.1 e).on (hwg e) (fun j _ => (u1 44 j (by decide)).trans (fr 44 j (by decide) (Or.inl (by decide))))
        · rw [u1 40 8 (by decide), fr 40 8 (by decide) (Or.inr (by decide))]
          exact ri2.2.2.2.2.1
        · rw [u1 45 i (by decide), fr 45 i (by decide) (Or.inl (by decide))]
          exact ri2.2.2.2.2.2 i hi
    · skip
      refine v_bipush 27 ((-4)) (by decide) dX8_removeState_25 rfl ?_
      refine v_iret rfl dX8_removeState_27 ?_
      refine qZ (hQ I2 L lo2 ?_) (by rw [rmA, if_neg h10, if_pos h22])
      simp only [rmB, if_neg h10, if_pos h22]
      exact ri2
  · skip
    refine v_iconst 14 ((-1)) (by decide) dX8_removeState_13 rfl ?_
    refine v_iret rfl dX8_removeState_14 ?_
    refine qZ (hQ I2 L lo2 ?_) (by rw [rmA, if_pos h10])
    simp only [rmB, if_pos h10]
    exact ri2
