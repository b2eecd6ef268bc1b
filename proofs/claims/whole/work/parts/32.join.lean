/-! two states joined -/
def cap (x : Nat) : Nat := if 6 < x then 6 else x
theorem cap_le (x : Nat) : cap x ≤ 6 := by
  unfold cap
  split <;> omega
theorem cap_I {x : Nat} (hx : x < 2147483648) : (if nI 6 < nI x then nI 6 else nI x) = nI (cap x) := by
  unfold cap
  by_cases h : 6 < x
  · rw [if_pos h, if_pos ((nI_ltI (by omega) hx).mpr h)]
  · rw [if_neg h, if_neg (fun q => h ((nI_ltI (by omega) hx).mp q))]
theorem mn_I {i j : Nat} (hi : i < 2147483648) (hj : j < 2147483648) : (if nI j < nI i then nI j else nI i) = nI (min i j) := by
  by_cases h : j < i
  · rw [if_pos ((nI_ltI hj hi).mpr h), show min i j = j by omega]
  · rw [if_neg (fun q => h ((nI_ltI hj hi).mp q)), show min i j = i by omega]
theorem mx_I {i j : Nat} (hi : i < 2147483648) (hj : j < 2147483648) : (if nI i < nI j then nI j else nI i) = nI (max i j) := by
  by_cases h : i < j
  · rw [if_pos ((nI_ltI hi hj).mpr h), show max i j = j by omega]
  · rw [if_neg (fun q => h ((nI_ltI hi hj).mp q)), show max i j = i by omega]
def cpI (a b : Int32) : Int32 := if nI 6 < a + b then nI 6 else a + b
theorem cpI_n {a b : Nat} (ha : a ≤ 6) (hb : b ≤ 6) : cpI (nI a) (nI b) = nI (cap (a + b)) := by
  unfold cpI
  rw [nI_add]
  exact cap_I (by omega)
def jB (f : Vw) (l m a : Nat) : Nat := if a = l then cap (bW f l + bW f m) else bW f a
def jW (f : Vw) (l m a g : Nat) : Nat := if a = l then cap (sW f l g + sW f m g) else sW f a g
def jG (f : Vw) (l m a b : Nat) : Nat := if a = l then (if b = l then cap (gW f l l + gW f l m + gW f m l + gW f m m) else cap (gW f l b + gW f m b)) else if b = l then cap (gW f a l + gW f a m) else gW f a b
def joF (f : Vw) (l m : Nat) : Vw := mkF f (f 0 - 1) (fun a => jB f l m (sk m a)) (fun a b => jG f l m (sk m a) (sk m b)) (fun a g => jW f l m (sk m a) g)
theorem Wf.joi {f : Vw} (w : Wf f) {l m : Nat} (h1 : 1 < f 0) : Wf (joF f l m) := by
  have := w.n4
  refine w.laid ⟨by omega, by omega⟩ (fun a ha => ?_) (fun a b ha hb => ?_) (fun a g ha hg => ?_)
  · unfold jB
    split
    · exact cap_le _
    · exact w.b (sk_lt ha)
  · unfold jG
    split
    · split
      · exact cap_le _
      · exact cap_le _
    · split
      · exact cap_le _
      · exact w.g (sk_lt ha) (sk_lt hb)
  · unfold jW
    split
    · exact cap_le _
    · exact w.w (sk_lt ha) hg
abbrev joN (f : Vw) (z y : Int32) : Prop := inb z (f 0) = 0 ∨ inb y (f 0) = 0
def joA (f : Vw) (z y : Int32) : Int32 := if joN f z y then (-1) else if z = y then (-2) else nI (f 0 - 1)
def joB (f : Vw) (z y : Int32) : Bool := if joN f z y then false else if z = y then false else true
def joV (f : Vw) (z y : Int32) : Vw := joF f (min (ix z) (ix y)) (max (ix z) (ix y))
set_option maxHeartbeats 4000000 in
theorem sp_X3_addInto {x : Cx} {Q : Qt} {I : Iv} {L : Lv} {P : Pv} {i j : Nat} (hi : i < 32) (hj : j < 32) (hQ : ∀ I1 : Iv, I1 = up2 I 2 i (cpI (I 2 i) (I 2 j)) → Q none I1 L P) : SP x M_X3_addInto [rfv x 1, .int (nI (i)), .int (nI (j))] I L P Q := by
  refine SP.intro [some (rfv x 1), some (.int (nI (i))), some (.int (nI (j)))] pn_X3_addInto (Nat.le_of_ble_eq_true rfl) rfl ?_
  refine v_aload_n 1 rfl dX3_addInto_0 rfl ?_
  refine v_get 4 (k := 0) 3 (rfv x 2) (by decide) rfl (by decide) (by decide) dX3_addInto_1 rfl fl_X3_11 rfl ?_
  refine v_iload_n 5 rfl dX3_addInto_4 rfl ?_
  refine v_aload_n 6 rfl dX3_addInto_5 rfl ?_
  refine v_get 9 (k := 0) 3 (rfv x 2) (by decide) rfl (by decide) (by decide) dX3_addInto_6 rfl fl_X3_11 rfl ?_
  refine v_iload_n 10 rfl dX3_addInto_9 rfl ?_
  refine v_iald 11 (k := i) (I 2 (i)) (by decide) rfl (by decide) dX3_addInto_10 rfl rfl (by omega) rfl ?_
  refine v_aload_n 12 rfl dX3_addInto_11 rfl ?_
  refine v_get 15 (k := 0) 3 (rfv x 2) (by decide) rfl (by decide) (by decide) dX3_addInto_12 rfl fl_X3_11 rfl ?_
  refine v_iload_n 16 rfl dX3_addInto_15 rfl ?_
  refine v_iald 17 (k := j) (I 2 (j)) (by decide) rfl (by decide) dX3_addInto_16 rfl rfl (by omega) rfl ?_
  refine v_iadd 18 ((I 2 (i)) + (I 2 (j))) dX3_addInto_17 rfl rfl ?_
  refine v_bipush 20 (nI (6)) (by decide) dX3_addInto_18 rfl ?_
  refine v_mmin 23 (cpI (I 2 i) (I 2 j)) dX3_addInto_20 rfl ml_X3_69 ⟨by decide, Nat.le_of_ble_eq_true rfl⟩ rfl ?_
  refine v_iast 24 (k := i) (cpI (I 2 i) (I 2 j)) (by decide) rfl (by decide) dX3_addInto_23 rfl rfl (by omega) rfl (fun I23 e23 => ?_)
  refine v_vret rfl dX3_addInto_24 ?_
  exact hQ I23 e23
set_option maxHeartbeats 4000000 in
theorem sp_X3_merge {x : Cx} {Q : Qt} {I : Iv} {L : Lv} {P : Pv} {f : Vw} (c : RC 1 f I) (w : Wf f) {lo up : Nat} (hl : lo < f 0) (hu : up < f 0) (hlu : lo ≠ up) (hQ : ∀ I1 : Iv, (∀ a, a ≠ 1 → a ≠ 2 → I1 a = I a) → RC 1 (joF f lo up) I1 → Q none I1 L P) : SP x M_X3_merge [rfv x 1, .int (nI (lo)), .int (nI (up))] I L P Q := by
  have := w.n4
  have := w.m6
  have := w.g hl hl
  have := w.g hl hu
  have := w.g hu hl
  have := w.g hu hu
  refine SP.intro [some (rfv x 1), some (.int (nI (lo))), some (.int (nI (up))), none, none] pn_X3_merge (Nat.le_of_ble_eq_true rfl) rfl ?_
  refine v_aload_n 1 rfl dX3_merge_0 rfl ?_
  refine v_iload_n 2 rfl dX3_merge_1 rfl ?_
  refine v_iload_n 3 rfl dX3_merge_2 rfl ?_
  refine v_invV 6 M_X3_go [.int (nI (lo)), .int (nI (lo))] (by decide) rfl (by decide) rfl dX3_merge_3 rfl ml_X3_62 im_X3_go se_X3_go mc_X3_go (by decide) (Nat.le_of_ble_eq_true rfl) (sp_X3_go c w (by omega) (by omega) ?_)
  refine v_aload_n 7 rfl dX3_merge_6 rfl ?_
  refine v_iload_n 8 rfl dX3_merge_7 rfl ?_
  refine v_iload_n 9 rfl dX3_merge_8 rfl ?_
  refine v_invV 12 M_X3_go [.int (nI (lo)), .int (nI (up))] (by decide) rfl (by decide) rfl dX3_merge_9 rfl ml_X3_62 im_X3_go se_X3_go mc_X3_go (by decide) (Nat.le_of_ble_eq_true rfl) (sp_X3_go c w (by omega) (by omega) ?_)
  refine v_iadd 13 (nI ((gW f lo lo) + (gW f lo up))) dX3_merge_12 rfl (nI_add _ _) ?_
  refine v_aload_n 14 rfl dX3_merge_13 rfl ?_
  refine v_iload_n 15 rfl dX3_merge_14 rfl ?_
  refine v_iload_n 16 rfl dX3_merge_15 rfl ?_
  refine v_invV 19 M_X3_go [.int (nI (up)), .int (nI (lo))] (by decide) rfl (by decide) rfl dX3_merge_16 rfl ml_X3_62 im_X3_go se_X3_go mc_X3_go (by decide) (Nat.le_of_ble_eq_true rfl) (sp_X3_go c w (by omega) (by omega) ?_)
  refine v_iadd 20 (nI (((gW f lo lo) + (gW f lo up)) + (gW f up lo))) dX3_merge_19 rfl (nI_add _ _) ?_
  refine v_aload_n 21 rfl dX3_merge_20 rfl ?_
  refine v_iload_n 22 rfl dX3_merge_21 rfl ?_
  refine v_iload_n 23 rfl dX3_merge_22 rfl ?_
  refine v_invV 26 M_X3_go [.int (nI (up)), .int (nI (up))] (by decide) rfl (by decide) rfl dX3_merge_23 rfl ml_X3_62 im_X3_go se_X3_go mc_X3_go (by decide) (Nat.le_of_ble_eq_true rfl) (sp_X3_go c w (by omega) (by omega) ?_)
  refine v_iadd 27 (nI ((((gW f lo lo) + (gW f lo up)) + (gW f up lo)) + (gW f up up))) dX3_merge_26 rfl (nI_add _ _) ?_
  refine v_istore_n 28 [some (rfv x 1), some (.int (nI (lo))), some (.int (nI (up))), some (.int (nI ((((gW f lo lo) + (gW f lo up)) + (gW f up lo)) + (gW f up up)))), none] dX3_merge_27 rfl (by decide) rfl ?_
  refine v_iconst 29 (nI (0)) (by decide) dX3_merge_28 rfl ?_
  refine v_istore 31 [some (rfv x 1), some (.int (nI (lo))), some (.int (nI (up))), some (.int (nI ((((gW f lo lo) + (gW f lo up)) + (gW f up lo)) + (gW f up up)))), some (.int (nI (0)))] dX3_merge_29 rfl (by decide) rfl ?_
  have lp : ∀ i, i ≤ 8 → ∀ Ij : Iv, (∀ j, j < i → Ij 2 (lo * 8 + j) = cpI (I 2 (lo * 8 + j)) (I 2 (up * 8 + j))) → (∀ a q, (a ≠ 2 ∨ q < lo * 8 ∨ lo * 8 + i ≤ q) → Ij a q = I a q) → V x M_X3_merge Q 31 [some (rfv x 1), some (.int (nI (lo))), some (.int (nI (up))), some (.int (nI (gW f lo lo + gW f lo up + gW f up lo + gW f up up))), some (.int (nI (i)))] [] Ij L P := by
    refine lpU ?_ ?_
    · intro Ij hA hF
      refine v_iload 33 rfl dX3_merge_31 rfl ?_
      refine v_bipush 35 (nI (8)) (by decide) dX3_merge_33 rfl ?_
      refine v_icmpN_ge 62 38 dX3_merge_35 (by decide) rfl (by omega) (by omega) (fun h35 => ?_) (fun h35 => ?_)
      · skip
        refine v_iconst 63 (nI (0)) (by decide) dX3_merge_62 rfl ?_
        refine v_istore 65 [some (rfv x 1), some (.int (nI (lo))), some (.int (nI (up))), some (.int (nI (gW f lo lo + gW f lo up + gW f up lo + gW f up up))), some (.int (nI (0)))] dX3_merge_63 rfl (by decide) rfl ?_
        have lq : ∀ k, k ≤ f 0 → ∀ Ik : Iv, (∀ a, a < k → Ik 2 (a * 8 + 1 + lo) = cpI (Ij 2 (a * 8 + 1 + lo)) (Ij 2 (a * 8 + 1 + up))) → (∀ a q, (a ≠ 2 ∨ k * 8 ≤ q ∨ q % 8 ≠ 1 + lo) → Ik a q = Ij a q) → V x M_X3_merge Q 65 [some (rfv x 1), some (.int (nI (lo))), some (.int (nI (up))), some (.int (nI (gW f lo lo + gW f lo up + gW f up lo + gW f up up))), some (.int (nI (k)))] [] Ik L P := by
          refine lpU ?_ ?_
          · intro Ik gA gF
            refine v_iload 67 rfl dX3_merge_65 rfl ?_
            refine v_aload_n 68 rfl dX3_merge_67 rfl ?_
            refine v_get 71 (k := 1) 3 (.int (nI (f 0))) (by decide) rfl (by decide) (by decide) dX3_merge_68 rfl fl_X3_15 (congrArg Value.int ((gF 1 1 (by omega)).trans ((hF 1 1 (by omega)).trans c.st))) ?_
            refine v_icmpN_ge 98 74 dX3_merge_71 (by decide) rfl (by omega) (by omega) (fun h71 => ?_) (fun h71 => ?_)
            · skip
              refine v_aload_n 99 rfl dX3_merge_98 rfl ?_
              refine v_get 102 (k := 0) 3 (rfv x 2) (by decide) rfl (by decide) (by decide) dX3_merge_99 rfl fl_X3_11 rfl ?_
              refine v_iconst 103 (nI (1)) (by decide) dX3_merge_102 rfl ?_
              refine v_iload_n 104 rfl dX3_merge_103 rfl ?_
              refine v_iload_n 105 rfl dX3_merge_104 rfl ?_
              refine v_invT 108 M_X3_cellOf [.int (nI (1)), .int (nI (lo)), .int (nI (lo))] dX3_merge_105 rfl ml_X3_48 sm_X3_cellOf mc_X3_cellOf (by decide) (Nat.le_of_ble_eq_true rfl) (sp_X3_cellOf (by omega) (by omega) (by omega) ?_)
              refine v_iload_n 109 rfl dX3_merge_108 rfl ?_
              refine v_bipush 111 (nI (6)) (by decide) dX3_merge_109 rfl ?_
              refine v_mmin 114 (nI (cap (gW f lo lo + gW f lo up + gW f up lo + gW f up up))) dX3_merge_111 rfl ml_X3_69 ⟨by decide, Nat.le_of_ble_eq_true rfl⟩ (cap_I (by omega)) ?_
              have ec : cl 1 lo lo = lo * 8 + 1 + lo := rfl
              have l4 : lo = 0 ∨ lo = 1 ∨ lo = 2 ∨ lo = 3 := by omega
              refine v_iast 115 (k := cl 1 lo lo) (nI (cap (gW f lo lo + gW f lo up + gW f up lo + gW f up up))) (by decide) rfl (by decide) dX3_merge_114 rfl rfl (by omega) rfl (fun I114 e114 => ?_)
              refine v_aload_n 116 rfl dX3_merge_115 rfl ?_
              refine v_iload_n 117 rfl dX3_merge_116 rfl ?_
              rw [ec] at e114
              have z0 : I114 1 1 = nI (f 0) := (up2_off e114 (by omega)).trans ((gF 1 1 (by omega)).trans ((hF 1 1 (by omega)).trans c.st))
              refine v_invV 120 M_X3_dropState [.int (nI (up))] (by decide) rfl (by decide) rfl dX3_merge_117 rfl ml_X3_74 im_X3_dropState se_X3_dropState mc_X3_dropState (by decide) (Nat.le_of_ble_eq_true rfl) (sp_X3_dropState (n := f 0) w.n4 (by omega) hu z0 (fun Id dF d0 d1 d2 => ?_))
              refine v_vret rfl dX3_merge_120 ?_
              have u1 : ∀ a q, a ≠ 2 → I114 a q = I a q := fun a q h => (up2_off e114 (by omega)).trans ((gF a q (Or.inl h)).trans (hF a q (Or.inl h)))
              have cb : ∀ a j, a < f 0 → a ≠ up → (j = 0 ∨ 5 ≤ j) → j < 8 → I114 2 (a * 8 + j) = if a = lo then cpI (I 2 (lo * 8 + j)) (I 2 (up * 8 + j)) else I 2 (a * 8 + j) := fun a j ha hau hj h8 => by
                refine (up2_off e114 (by rcases l4 with q | q | q | q <;> omega)).trans ((gF 2 _ (by rcases l4 with q | q | q | q <;> omega)).trans ?_)
                by_cases y : a = lo
                · rw [if_pos y, y]
                  exact hA j h8
                · rw [if_neg y]
                  exact hF 2 _ (by omega)
              have cg : ∀ a b, a < f 0 → b < f 0 → a ≠ up → b ≠ up → I114 2 (a * 8 + 1 + b) = nI (jG f lo up a b) := fun a b ha hb hau hbu => by
                unfold jG
                by_cases y : a = lo
                · rw [if_pos y, y]
                  by_cases y2 : b = lo
                  · rw [if_pos y2, y2]
                    exact up2_at e114
                  · rw [if_neg y2]
                    have h9 := hA (1 + b) (by omega)
                    rw [← Nat.add_assoc, ← Nat.add_assoc, c.g hl hb, c.g hu hb, cpI_n (w.g hl hb) (w.g hu hb)] at h9
                    exact (up2_off e114 (by omega)).trans ((gF 2 _ (by omega)).trans h9)
                · rw [if_neg y]
                  by_cases y2 : b = lo
                  · rw [if_pos y2, y2]
                    have h9 := gA a ha
                    rw [hF 2 (a * 8 + 1 + lo) (by omega), hF 2 (a * 8 + 1 + up) (by omega), c.g ha hl, c.g ha hu, cpI_n (w.g ha hl) (w.g ha hu)] at h9
                    exact (up2_off e114 (by omega)).trans h9
                  · rw [if_neg y2]
                    exact (up2_off e114 (by omega)).trans ((gF 2 _ (by omega)).trans ((hF 2 _ (by omega)).trans (c.g ha hb)))
              refine hQ Id (fun a z1 z2 => funext fun q => (dF a q (Or.inl z1) z2).trans (u1 a q z2)) (c.laid (by omega) d0 (fun a q z1 z2 => (dF a q z1 z2).trans (u1 a q z2)) (fun a ha => ?_) (fun a b ha hb => (d2 a b ha hb).trans (cg _ _ (sk_lt ha) (sk_lt hb) sk_ne sk_ne)) (fun a g ha hg => ?_))
              · refine (d1 a 0 ha (by omega) (by omega)).trans ((cb _ 0 (sk_lt ha) sk_ne (by omega) (by omega)).trans ?_)
                unfold jB
                by_cases y : sk up a = lo
                · rw [if_pos y, if_pos y, ← cpI_n (w.b hl) (w.b hu)]
                  exact congr (congrArg cpI (c.b hl)) (c.b hu)
                · rw [if_neg y, if_neg y]
                  exact c.b (sk_lt ha)
              · have h9 := (d1 a (5 + g) ha (by omega) (by omega)).trans (cb _ (5 + g) (sk_lt ha) sk_ne (by omega) (by omega))
                simp only [← Nat.add_assoc] at h9
                refine h9.trans ?_
                unfold jW
                by_cases y : sk up a = lo
                · rw [if_pos y, if_pos y, ← cpI_n (w.w hl hg) (w.w hu hg)]
                  exact congr (congrArg cpI (c.w hl hg)) (c.w hu hg)
                · rw [if_neg y, if_neg y]
                  exact c.w (sk_lt ha) hg
            · skip
              exact absurd h71 (by omega)
          · intro k hk ih Ik gA gF
            refine v_iload 67 rfl dX3_merge_65 rfl ?_
            refine v_aload_n 68 rfl dX3_merge_67 rfl ?_
            refine v_get 71 (k := 1) 3 (.int (nI (f 0))) (by decide) rfl (by decide) (by decide) dX3_merge_68 rfl fl_X3_15 (congrArg Value.int ((gF 1 1 (by omega)).trans ((hF 1 1 (by omega)).trans c.st))) ?_
            refine v_icmpN_ge 98 74 dX3_merge_71 (by decide) rfl (by omega) (by omega) (fun h71 => ?_) (fun h71 => ?_)
            · skip
              exact absurd h71 (by omega)
            · skip
              refine v_aload_n 75 rfl dX3_merge_74 rfl ?_
              refine v_iconst 76 (nI (1)) (by decide) dX3_merge_75 rfl ?_
              refine v_iload 78 rfl dX3_merge_76 rfl ?_
              refine v_iload_n 79 rfl dX3_merge_78 rfl ?_
              refine v_invT 82 M_X3_cellOf [.int (nI (1)), .int (nI (k)), .int (nI (lo))] dX3_merge_79 rfl ml_X3_48 sm_X3_cellOf mc_X3_cellOf (by decide) (Nat.le_of_ble_eq_true rfl) (sp_X3_cellOf (by omega) (by omega) (by omega) ?_)
              refine v_iconst 83 (nI (1)) (by decide) dX3_merge_82 rfl ?_
              refine v_iload 85 rfl dX3_merge_83 rfl ?_
              refine v_iload_n 86 rfl dX3_merge_85 rfl ?_
              refine v_invT 89 M_X3_cellOf [.int (nI (1)), .int (nI (k)), .int (nI (up))] dX3_merge_86 rfl ml_X3_48 sm_X3_cellOf mc_X3_cellOf (by decide) (Nat.le_of_ble_eq_true rfl) (sp_X3_cellOf (by omega) (by omega) (by omega) ?_)
              have ec : cl 1 k lo = k * 8 + 1 + lo := rfl
              have ec2 : cl 1 k up = k * 8 + 1 + up := rfl
              refine v_invV 92 M_X3_addInto [.int (nI (cl 1 k lo)), .int (nI (cl 1 k up))] (by decide) rfl (by decide) rfl dX3_merge_89 rfl ml_X3_65 im_X3_addInto se_X3_addInto mc_X3_addInto (by decide) (Nat.le_of_ble_eq_true rfl) (sp_X3_addInto (by omega) (by omega) (fun Ia ea => ?_))
              rw [ec, ec2] at ea
              refine v_iinc 95 [some (rfv x 1), some (.int (nI (lo))), some (.int (nI (up))), some (.int (nI (gW f lo lo + gW f lo up + gW f up lo + gW f up up))), some (.int (nI (k + 1)))] (nI (k + 1)) dX3_merge_92 rfl (by decide) rfl (nI_inc _) rfl ?_
              refine v_goto 65 dX3_merge_95 (by decide) ?_
              refine v_drop [some (rfv x 1), some (.int (nI (lo))), some (.int (nI (up))), some (.int (nI (gW f lo lo + gW f lo up + gW f up lo + gW f up up))), some (.int (nI (k + 1)))] (by simp [lsub, smN_s]) ?_
              refine ih Ia (fun a ha => ?_) (fun a q h => (up2_off ea (by omega)).trans (gF a q (by omega)))
              by_cases y : a = k
              · rw [y, up2_at ea, gF 2 (k * 8 + 1 + lo) (by omega), gF 2 (k * 8 + 1 + up) (by omega)]
              · exact (up2_off ea (by omega)).trans (gA a (by omega))
        refine v_drop [some (rfv x 1), some (.int (nI (lo))), some (.int (nI (up))), some (.int (nI (gW f lo lo + gW f lo up + gW f up lo + gW f up up))), some (.int (nI (0)))] (by simp [lsub, smN, amN, dbW, mxN]) ?_
        exact lq 0 (Nat.zero_le _) Ij (fun j h => absurd h (Nat.not_lt_zero j)) (fun a q _ => rfl)
      · skip
        exact absurd h35 (by omega)
    · intro i hi ih Ij hA hF
      refine v_iload 33 rfl dX3_merge_31 rfl ?_
      refine v_bipush 35 (nI (8)) (by decide) dX3_merge_33 rfl ?_
      refine v_icmpN_ge 62 38 dX3_merge_35 (by decide) rfl (by omega) (by omega) (fun h35 => ?_) (fun h35 => ?_)
      · skip
        exact absurd h35 (by omega)
      · skip
        refine v_aload_n 39 rfl dX3_merge_38 rfl ?_
        refine v_iload_n 40 rfl dX3_merge_39 rfl ?_
        refine v_bipush 42 (nI (8)) (by decide) dX3_merge_40 rfl ?_
        refine v_imul 43 (nI (lo * 8)) dX3_merge_42 rfl (pk_mul _ _) ?_
        refine v_iload 45 rfl dX3_merge_43 rfl ?_
        refine v_iadd 46 (nI ((lo * 8) + i)) dX3_merge_45 rfl (nI_add _ _) ?_
        refine v_iload_n 47 rfl dX3_merge_46 rfl ?_
        refine v_bipush 49 (nI (8)) (by decide) dX3_merge_47 rfl ?_
        refine v_imul 50 (nI (up * 8)) dX3_merge_49 rfl (pk_mul _ _) ?_
        refine v_iload 52 rfl dX3_merge_50 rfl ?_
        refine v_iadd 53 (nI ((up * 8) + i)) dX3_merge_52 rfl (nI_add _ _) ?_
        refine v_invV 56 M_X3_addInto [.int (nI ((lo * 8) + i)), .int (nI ((up * 8) + i))] (by decide) rfl (by decide) rfl dX3_merge_53 rfl ml_X3_65 im_X3_addInto se_X3_addInto mc_X3_addInto (by decide) (Nat.le_of_ble_eq_true rfl) (sp_X3_addInto (by omega) (by omega) (fun Ia ea => ?_))
        refine v_iinc 59 [some (rfv x 1), some (.int (nI (lo))), some (.int (nI (up))), some (.int (nI (gW f lo lo + gW f lo up + gW f up lo + gW f up up))), some (.int (nI (i + 1)))] (nI (i + 1)) dX3_merge_56 rfl (by decide) rfl (nI_inc _) rfl ?_
        refine v_goto 31 dX3_merge_59 (by decide) ?_
        refine v_drop [some (rfv x 1), some (.int (nI (lo))), some (.int (nI (up))), some (.int (nI (gW f lo lo + gW f lo up + gW f up lo + gW f up up))), some (.int (nI (i + 1)))] (by simp [lsub, smN_s]) ?_
        refine ih Ia (fun j hj => ?_) (fun a q h => (up2_off ea (by omega)).trans (hF a q (by omega)))
        by_cases y : j = i
        · rw [y, up2_at ea, hF 2 (lo * 8 + i) (by omega), hF 2 (up * 8 + i) (by omega)]
        · exact (up2_off ea (by omega)).trans (hA j (by omega))
  refine v_drop [some (rfv x 1), some (.int (nI (lo))), some (.int (nI (up))), some (.int (nI (gW f lo lo + gW f lo up + gW f up lo + gW f up up))), some (.int (nI (0)))] (by simp [lsub, smN, amN, dbW, mxN]) ?_
  exact lp 0 (Nat.zero_le _) I (fun j h => absurd h (Nat.not_lt_zero j)) (fun a q _ => rfl)
set_option maxHeartbeats 4000000 in
theorem sp_X7_join {x : Cx} {Q : Qt} {I : Iv} {L : Lv} {P : Pv} {f : Vw} {H : Hs} {hn sn : Nat} {g : Vw} {T : Tx} {tl : Nat} (ci : CI f H hn sn g T tl I P) (wi : WI f H hn sn g T tl) {z y : Int32} (hQ : ∀ (I1 : Iv) (L1 : Lv) (P1 : Pv), (∀ a, 40 ≤ a → I1 a = I a) → CI (stF (joB f z y) f (joV f z y)) (stH (joB f z y) H hn f) (stN (joB f z y) hn) sn g T tl I1 P1 → Q (some (.int (joA f z y))) I1 L1 P1) : SP x M_X7_join [rfv x 0, .int (z), .int (y)] I L P Q := by
  obtain ⟨c, hc, hsn, hsg, htx⟩ := id ci
  obtain ⟨w, hw, hs2, hwg, htl, hT⟩ := id wi
  have := w.n4
  have := w.m6
  have := w.n1
  refine SP.intro [some (rfv x 0), some (.int (z)), some (.int (y))] pn_X7_join (Nat.le_of_ble_eq_true rfl) rfl ?_
  refine v_aload_n 1 rfl dX7_join_0 rfl ?_
  refine v_get 4 (k := 0) 7 (rfv x 1) (by decide) rfl (by decide) (by decide) dX7_join_1 rfl fl_X7_15 rfl ?_
  refine v_iload_n 5 rfl dX7_join_4 rfl ?_
  refine v_invV 8 M_X3_hasState [.int (z)] (by decide) rfl (by decide) rfl dX7_join_5 rfl ml_X7_91 im_X3_hasState se_X3_hasState mc_X3_hasState (by decide) (Nat.le_of_ble_eq_true rfl) (sp_X3_hasState c w ?_)
  refine v_ifN_eq 22 11 dX7_join_8 (by decide) rfl (by have := inb_lt z (f 0); omega) (fun h8 => ?_) (fun h8 => ?_)
  · skip
    refine v_iconst 23 ((-1)) (by decide) dX7_join_22 rfl ?_
    refine v_iret rfl dX7_join_23 ?_
    have hz : joN f z y := by first | exact Or.inl h8 | exact Or.inr h19
    refine qZ (hQ I L P (fun _ _ => rfl) ?_) (by rw [joA, if_pos hz])
    simp only [joB, if_pos hz]
    exact ci
  · skip
    refine v_aload_n 12 rfl dX7_join_11 rfl ?_
    refine v_get 15 (k := 0) 7 (rfv x 1) (by decide) rfl (by decide) (by decide) dX7_join_12 rfl fl_X7_15 rfl ?_
    refine v_iload_n 16 rfl dX7_join_15 rfl ?_
    refine v_invV 19 M_X3_hasState [.int (y)] (by decide) rfl (by decide) rfl dX7_join_16 rfl ml_X7_91 im_X3_hasState se_X3_hasState mc_X3_hasState (by decide) (Nat.le_of_ble_eq_true rfl) (sp_X3_hasState c w ?_)
    refine v_ifN_ne 24 22 dX7_join_19 (by decide) rfl (by have := inb_lt y (f 0); omega) (fun h19 => ?_) (fun h19 => ?_)
    · skip
      refine v_iload_n 25 rfl dX7_join_24 rfl ?_
      refine v_iload_n 26 rfl dX7_join_25 rfl ?_
      refine v_icmp_ne 32 29 dX7_join_26 (by decide) rfl (fun h26 => ?_) (fun h26 => ?_)
      · skip
        have hz : ¬ joN f z y := by
          rintro (q | q) <;> contradiction
        have hzy := h26
        have hz1 : inb z (f 0) ≠ 0 := fun q => hz (Or.inl q)
        have hz2 : inb y (f 0) ≠ 0 := fun q => hz (Or.inr q)
        obtain ⟨i, hi, ez⟩ := inb_1 (by omega) hz1
        obtain ⟨j, hj, ey⟩ := inb_1 (by omega) hz2
        subst ez
        subst ey
        have es : ix (nI i) = i := ix_n (by omega)
        have es2 : ix (nI j) = j := ix_n (by omega)
        have hij : i ≠ j := fun q => hzy (congrArg nI q)
        refine v_aload_n 33 rfl dX7_join_32 rfl ?_
        refine v_get 36 (k := 3) 7 (rfv x 9) (by decide) rfl (by decide) (by decide) dX7_join_33 rfl fl_X7_27 rfl ?_
        refine v_aload_n 37 rfl dX7_join_36 rfl ?_
        refine v_get 40 (k := 0) 7 (rfv x 1) (by decide) rfl (by decide) (by decide) dX7_join_37 rfl fl_X7_15 rfl ?_
        refine v_invV 43 M_X1_record [rfv x 1] (by decide) rfl (by decide) rfl dX7_join_40 rfl ml_X7_81 im_X1_record se_X1_record mc_X1_record (by decide) (Nat.le_of_ble_eq_true rfl) (sp_X1_record hc c w (fun Ir Pr fr hcr => ?_))
        have c1 : RC 1 f Ir := c.same (fun a _ _ => fr a (by omega))
        refine v_aload_n 44 rfl dX7_join_43 rfl ?_
        refine v_get 47 (k := 0) 7 (rfv x 1) (by decide) rfl (by decide) (by decide) dX7_join_44 rfl fl_X7_15 rfl ?_
        refine v_iload_n 48 rfl dX7_join_47 rfl ?_
        refine v_iload_n 49 rfl dX7_join_48 rfl ?_
        refine v_mmin 52 (nI (min i j)) dX7_join_49 rfl ml_X7_98 ⟨by decide, Nat.le_of_ble_eq_true rfl⟩ (mn_I (by omega) (by omega)) ?_
        refine v_iload_n 53 rfl dX7_join_52 rfl ?_
        refine v_iload_n 54 rfl dX7_join_53 rfl ?_
        refine v_mmax 57 (nI (max i j)) dX7_join_54 rfl ml_X7_104 ⟨by decide, Nat.le_of_ble_eq_true rfl⟩ (mx_I (by omega) (by omega)) ?_
        refine v_invV 60 M_X3_merge [.int (nI (min i j)), .int (nI (max i j))] (by decide) rfl (by decide) rfl dX7_join_57 rfl ml_X7_107 im_X3_merge se_X3_merge mc_X3_merge (by decide) (Nat.le_of_ble_eq_true rfl) (sp_X3_merge c1 w (by omega) (by omega) (by omega) (fun Ia fa ca => ?_))
        refine v_aload_n 61 rfl dX7_join_60 rfl ?_
        refine v_get 64 (k := 0) 7 (rfv x 1) (by decide) rfl (by decide) (by decide) dX7_join_61 rfl fl_X7_15 rfl ?_
        refine v_getN 67 (k := 1) 3 (.int (nI (f 0 - 1))) (by decide) rfl (by decide) (by decide) dX7_join_64 rfl fl_X7_84 (congrArg Value.int ca.st) ?_
        refine v_iret rfl dX7_join_67 ?_
        refine qZ (hQ Ia L Pr (fun a ha => (fa a (by omega) (by omega)).trans (fr a (by omega))) ?_) (by rw [joA, if_neg hz, if_neg hzy])
        rw [show joB f (nI i) (nI j) = true by rw [joB, if_neg hz, if_neg hzy], joV, es, es2]
        refine ⟨ca, hcr.same (fun a _ _ => fa a (by omega) (by omega)), ?_, fun e => ?_, ?_, fun i hi => ?_⟩
        · rw [fa 0 (by decide) (by decide), fr 0 (by omega)]
          exact hsn
        · exact (hsg e).same (fun a _ _ => (fa a (by omega) (by omega)).trans (fr a (by omega)))
        · rw [fa 27 (by decide) (by decide), fr 27 (by omega)]
          exact htx.1
        · rw [fa 28 (by decide) (by decide), fr 28 (by omega)]
          exact htx.2 i hi
      · skip
        refine v_bipush 31 ((-2)) (by decide) dX7_join_29 rfl ?_
        refine v_iret rfl dX7_join_31 ?_
        have hz : ¬ joN f z y := by
          rintro (q | q) <;> contradiction
        refine qZ (hQ I L P (fun _ _ => rfl) ?_) (by rw [joA, if_neg hz, if_pos h26])
        simp only [joB, if_neg hz, if_pos h26]
        exact ci
    · skip
      refine v_iconst 23 ((-1)) (by decide) dX7_join_22 rfl ?_
      refine v_iret rfl dX7_join_23 ?_
      have hz : joN f z y := by first | exact Or.inl h8 | exact Or.inr h19
      refine qZ (hQ I L P (fun _ _ => rfl) ?_) (by rw [joA, if_pos hz])
      simp only [joB, if_pos hz]
      exact ci
set_option maxHeartbeats 4000000 in
theorem sp_X8_capped {x : Cx} {Q : Qt} {I : Iv} {L : Lv} {P : Pv} {n : Nat} (hn : n < 2147483648) (hQ : Q (some (.int (nI (cap n)))) I L P) : SP x M_X8_capped [.int (nI (n))] I L P Q := by
  refine SP.intro [some (.int (nI (n)))] pn_X8_capped (Nat.le_of_ble_eq_true rfl) rfl ?_
  refine v_iload_n 1 rfl dX8_capped_0 rfl ?_
  refine v_bipush 3 (nI (6)) (by decide) dX8_capped_1 rfl ?_
  refine v_icmpN_le 11 6 dX8_capped_3 (by decide) rfl (by omega) (by omega) (fun h3 => ?_) (fun h3 => ?_)
  · skip
    refine v_iload_n 12 rfl dX8_capped_11 rfl ?_
    refine v_iret rfl dX8_capped_12 ?_
    first
    | exact qI hQ (show 6 = cap n by unfold cap; rw [if_pos (by omega)])
    | exact qI hQ (show n = cap n by unfold cap; rw [if_neg (by omega)])
  · skip
    refine v_bipush 8 (nI (6)) (by decide) dX8_capped_6 rfl ?_
    refine v_goto 12 dX8_capped_8 (by decide) ?_
    refine v_iret rfl dX8_capped_12 ?_
    first
    | exact qI hQ (show 6 = cap n by unfold cap; rw [if_pos (by omega)])
    | exact qI hQ (show n = cap n by unfold cap; rw [if_neg (by omega)])
set_option maxHeartbeats 4000000 in
theorem sp_X8_join {x : Cx} {Q : Qt} {I : Iv} {L : Lv} {P : Pv} {f : Vw} {H : Hs} {hn sn : Nat} {g : Vw} {T : Tx} {tl : Nat} (ri : RI f H hn sn g T tl I) (wi : WI f H hn sn g T tl) {z y : Int32} (hQ : ∀ (I1 : Iv) (L1 : Lv), (∀ a, a < 40 → I1 a = I a) → RI (stF (joB f z y) f (joV f z y)) (stH (joB f z y) H hn f) (stN (joB f z y) hn) sn g T tl I1 → Q (some (.int (joA f z y))) I1 L1 P) : SP x M_X8_join [rfv x 40, .int (z), .int (y)] I L P Q := by
  obtain ⟨r, hr, hsn, hsg, htx⟩ := id ri
  obtain ⟨w, hw, hs2, hwg, htl, hT⟩ := id wi
  have := w.n4
  have := w.m6
  have := w.n1
  refine SP.intro [some (rfv x 40), some (.int (z)), some (.int (y)), none, none, none, none] pn_X8_join (Nat.le_of_ble_eq_true rfl) rfl ?_
  refine v_aload_n 1 rfl dX8_join_0 rfl ?_
  refine v_iconst 2 (nI (0)) (by decide) dX8_join_1 rfl ?_
  refine v_putI 5 (k := 0) 8 .int (by decide) rfl (by decide) (by decide) rfl (by decide +kernel) rfl rfl (fun _ _ => rfl) dX8_join_2 rfl fl_X8_50 (fun I2 e2 => ?_)
  have ht0 : I2 = up2 I 40 0 (nI 0) := e2
  have r2 : RR (I2 41) f := by rw [up2_row e2 (by omega)]; exact r
  have hr2 : HR H hn I2 := ⟨hr.1, (up2_off e2 (by omega)).trans hr.2.1, fun i hi => by rw [up2_row e2 (by omega)]; exact hr.2.2 i hi⟩
  have ri2 : RI f H hn sn g T tl I2 := ri.kp (fun a q hl => up2_off e2 (by unfold live at hl; omega))
  have lo2 : ∀ a, a < 40 → I2 a = I a := fun a ha => up2_row e2 (by omega)
  refine v_aload_n 6 rfl dX8_join_5 rfl ?_
  refine v_iload_n 7 rfl dX8_join_6 rfl ?_
  refine v_invV 10 M_X8_isState [.int (z)] (by decide) rfl (by decide) rfl dX8_join_7 rfl ml_X8_97 im_X8_isState se_X8_isState mc_X8_isState (by decide) (Nat.le_of_ble_eq_true rfl) (sp_X8_isState r2 w ?_)
  refine v_ifN_eq 21 13 dX8_join_10 (by decide) rfl (by have := inb_lt z (f 0); omega) (fun h10 => ?_) (fun h10 => ?_)
  · skip
    refine v_iconst 22 ((-1)) (by decide) dX8_join_21 rfl ?_
    refine v_iret rfl dX8_join_22 ?_
    have hz : joN f z y := by first | exact Or.inl h10 | exact Or.inr h18
    refine qZ (hQ I2 L lo2 ?_) (by rw [joA, if_pos hz])
    simp only [joB, if_pos hz]
    exact ri2
  · skip
    refine v_aload_n 14 rfl dX8_join_13 rfl ?_
    refine v_iload_n 15 rfl dX8_join_14 rfl ?_
    refine v_invV 18 M_X8_isState [.int (y)] (by decide) rfl (by decide) rfl dX8_join_15 rfl ml_X8_97 im_X8_isState se_X8_isState mc_X8_isState (by decide) (Nat.le_of_ble_eq_true rfl) (sp_X8_isState r2 w ?_)
    refine v_ifN_ne 23 21 dX8_join_18 (by decide) rfl (by have := inb_lt y (f 0); omega) (fun h18 => ?_) (fun h18 => ?_)
    · skip
      refine v_iload_n 24 rfl dX8_join_23 rfl ?_
      refine v_iload_n 25 rfl dX8_join_24 rfl ?_
      refine v_icmp_ne 31 28 dX8_join_25 (by decide) rfl (fun h25 => ?_) (fun h25 => ?_)
      · skip
        have hz : ¬ joN f z y := by
          rintro (q | q) <;> contradiction
        have hzy := h25
        have hz1 : inb z (f 0) ≠ 0 := fun q => hz (Or.inl q)
        have hz2 : inb y (f 0) ≠ 0 := fun q => hz (Or.inr q)
        obtain ⟨i, hi, ez⟩ := inb_1 (by omega) hz1
        obtain ⟨j, hj, ey⟩ := inb_1 (by omega) hz2
        subst ez
        subst ey
        have es : ix (nI i) = i := ix_n (by omega)
        have es2 : ix (nI j) = j := ix_n (by omega)
        have hij : i ≠ j := fun q => hzy (congrArg nI q)
        refine v_aload_n 32 rfl dX8_join_31 rfl ?_
        refine v_invV 35 M_X8_records [] (by decide) rfl (by decide) rfl dX8_join_32 rfl ml_X8_105 im_X8_records se_X8_records mc_X8_records (by decide) (Nat.le_of_ble_eq_true rfl) (sp_X8_records hr2 hw r2 w (fun Ir fr hrr => ?_))
        have rr : RR (Ir 41) f := (r2.on w (fun j _ => fr 41 j (by decide) (Or.inl (by decide))))
        have key : ∀ lo up : Nat, lo < f 0 → up < f 0 → lo ≠ up → lo = min i j → up = max i j → V x M_X8_join Q 53 [some (rfv x 40), none, none, some (.int (nI (lo))), some (.int (nI (up))), none, none] [] Ir L P := by
          intro lo up hlo hup hlu elo eup
          have := w.g hlo hlo
          have := w.g hlo hup
          have := w.g hup hlo
          have := w.g hup hup
          have := w.b hlo
          have := w.b hup
          refine v_aload_n 54 rfl dX8_join_53 rfl ?_
          refine v_iload_n 55 rfl dX8_join_54 rfl ?_
          refine v_iload_n 56 rfl dX8_join_55 rfl ?_
          refine v_invV 59 M_X8_go [.int (nI (lo)), .int (nI (lo))] (by decide) rfl (by decide) rfl dX8_join_56 rfl ml_X8_76 im_X8_go se_X8_go mc_X8_go (by decide) (Nat.le_of_ble_eq_true rfl) (sp_X8_go rr w (by omega) (by omega) ?_)
          refine v_aload_n 60 rfl dX8_join_59 rfl ?_
          refine v_iload_n 61 rfl dX8_join_60 rfl ?_
          refine v_iload 63 rfl dX8_join_61 rfl ?_
          refine v_invV 66 M_X8_go [.int (nI (lo)), .int (nI (up))] (by decide) rfl (by decide) rfl dX8_join_63 rfl ml_X8_76 im_X8_go se_X8_go mc_X8_go (by decide) (Nat.le_of_ble_eq_true rfl) (sp_X8_go rr w (by omega) (by omega) ?_)
          refine v_iadd 67 (nI ((gW f lo lo) + (gW f lo up))) dX8_join_66 rfl (nI_add _ _) ?_
          refine v_aload_n 68 rfl dX8_join_67 rfl ?_
          refine v_iload 70 rfl dX8_join_68 rfl ?_
          refine v_iload_n 71 rfl dX8_join_70 rfl ?_
          refine v_invV 74 M_X8_go [.int (nI (up)), .int (nI (lo))] (by decide) rfl (by decide) rfl dX8_join_71 rfl ml_X8_76 im_X8_go se_X8_go mc_X8_go (by decide) (Nat.le_of_ble_eq_true rfl) (sp_X8_go rr w (by omega) (by omega) ?_)
          refine v_iadd 75 (nI (((gW f lo lo) + (gW f lo up)) + (gW f up lo))) dX8_join_74 rfl (nI_add _ _) ?_
          refine v_aload_n 76 rfl dX8_join_75 rfl ?_
          refine v_iload 78 rfl dX8_join_76 rfl ?_
          refine v_iload 80 rfl dX8_join_78 rfl ?_
          refine v_invV 83 M_X8_go [.int (nI (up)), .int (nI (up))] (by decide) rfl (by decide) rfl dX8_join_80 rfl ml_X8_76 im_X8_go se_X8_go mc_X8_go (by decide) (Nat.le_of_ble_eq_true rfl) (sp_X8_go rr w (by omega) (by omega) ?_)
          refine v_iadd 84 (nI ((((gW f lo lo) + (gW f lo up)) + (gW f up lo)) + (gW f up up))) dX8_join_83 rfl (nI_add _ _) ?_
          refine v_invT 87 M_X8_capped [.int (nI ((((gW f lo lo) + (gW f lo up)) + (gW f up lo)) + (gW f up up)))] dX8_join_84 rfl ml_X8_111 sm_X8_capped mc_X8_capped (by decide) (Nat.le_of_ble_eq_true rfl) (sp_X8_capped (by omega) ?_)
          refine v_istore 89 [some (rfv x 40), none, none, some (.int (nI (lo))), some (.int (nI (up))), some (.int (nI (cap ((((gW f lo lo) + (gW f lo up)) + (gW f up lo)) + (gW f up up))))), none] dX8_join_87 rfl (by decide) rfl ?_
          refine v_aload_n 90 rfl dX8_join_89 rfl ?_
          refine v_get 93 (k := 1) 8 (rfv x 41) (by decide) rfl (by decide) (by decide) dX8_join_90 rfl fl_X8_7 rfl ?_
          refine v_iconst 94 (nI (3)) (by decide) dX8_join_93 rfl ?_
          refine v_iload_n 95 rfl dX8_join_94 rfl ?_
          refine v_iadd 96 (nI (3 + lo)) dX8_join_95 rfl (nI_add _ _) ?_
          refine v_aload_n 97 rfl dX8_join_96 rfl ?_
          refine v_get 100 (k := 1) 8 (rfv x 41) (by decide) rfl (by decide) (by decide) dX8_join_97 rfl fl_X8_7 rfl ?_
          refine v_iconst 101 (nI (3)) (by decide) dX8_join_100 rfl ?_
          refine v_iload_n 102 rfl dX8_join_101 rfl ?_
          refine v_iadd 103 (nI (3 + lo)) dX8_join_102 rfl (nI_add _ _) ?_
          refine v_iald 104 (k := 3 + lo) (nI (bW f lo)) (by decide) rfl (by decide) dX8_join_103 rfl rfl (by omega) (rr.b (by omega)) ?_
          refine v_aload_n 105 rfl dX8_join_104 rfl ?_
          refine v_get 108 (k := 1) 8 (rfv x 41) (by decide) rfl (by decide) (by decide) dX8_join_105 rfl fl_X8_7 rfl ?_
          refine v_iconst 109 (nI (3)) (by decide) dX8_join_108 rfl ?_
          refine v_iload 111 rfl dX8_join_109 rfl ?_
          refine v_iadd 112 (nI (3 + up)) dX8_join_111 rfl (nI_add _ _) ?_
          refine v_iald 113 (k := 3 + up) (nI (bW f up)) (by decide) rfl (by decide) dX8_join_112 rfl rfl (by omega) (rr.b (by omega)) ?_
          refine v_iadd 114 (nI ((bW f lo) + (bW f up))) dX8_join_113 rfl (nI_add _ _) ?_
          refine v_invT 117 M_X8_capped [.int (nI ((bW f lo) + (bW f up)))] dX8_join_114 rfl ml_X8_111 sm_X8_capped mc_X8_capped (by decide) (Nat.le_of_ble_eq_true rfl) (sp_X8_capped (by omega) ?_)
          refine v_iast 118 (k := 3 + lo) (nI (cap ((bW f lo) + (bW f up)))) (by decide) rfl (by decide) dX8_join_117 rfl rfl (by omega) rfl (fun I117 e117 => ?_)
          refine v_iconst 119 (nI (0)) (by decide) dX8_join_118 rfl ?_
          refine v_istore 121 [some (rfv x 40), none, none, some (.int (nI (lo))), some (.int (nI (up))), some (.int (nI (cap ((((gW f lo lo) + (gW f lo up)) + (gW f up lo)) + (gW f up up))))), some (.int (nI (0)))] dX8_join_119 rfl (by decide) rfl ?_
          have k1 : ∀ a q, (a ≠ 41 ∨ q ≠ 3 + lo) → I117 a q = Ir a q := fun a q h => up2_off e117 (by omega)
          have k2 : I117 41 (3 + lo) = nI (cap (bW f lo + bW f up)) := up2_at e117
          have lp : ∀ g, g ≤ 3 → ∀ Ij : Iv, (∀ q, q < g → Ij 41 (23 + 3 * lo + q) = nI (cap (sW f lo q + sW f up q))) → (∀ a q, (a ≠ 41 ∨ q < 23 + 3 * lo ∨ 23 + 3 * lo + g ≤ q) → Ij a q = I117 a q) → V x M_X8_join Q 121 [some (rfv x 40), none, none, some (.int (nI (lo))), some (.int (nI (up))), some (.int (nI (cap (gW f lo lo + gW f lo up + gW f up lo + gW f up up)))), some (.int (nI (g)))] [] Ij L P := by
            refine lpU ?_ ?_
            · intro Ij hA hF
              refine v_iload 123 rfl dX8_join_121 rfl ?_
              refine v_iconst 124 (nI (3)) (by decide) dX8_join_123 rfl ?_
              refine v_icmpN_ge 166 127 dX8_join_124 (by decide) rfl (by omega) (by omega) (fun h124 => ?_) (fun h124 => ?_)
              · skip
                refine v_iconst 167 (nI (0)) (by decide) dX8_join_166 rfl ?_
                refine v_istore 169 [some (rfv x 40), none, none, some (.int (nI (lo))), some (.int (nI (up))), some (.int (nI (cap (gW f lo lo + gW f lo up + gW f up lo + gW f up up)))), some (.int (nI (0)))] dX8_join_167 rfl (by decide) rfl ?_
                have lq : ∀ k, k ≤ f 0 → ∀ Ik : Iv, (∀ q, q < k → q ≠ lo → q ≠ up → Ik 41 (7 + 4 * lo + q) = nI (cap (gW f lo q + gW f up q))) → (∀ q, q < k → q ≠ lo → q ≠ up → Ik 41 (7 + 4 * q + lo) = nI (cap (gW f q lo + gW f q up))) → (∀ a q, (a ≠ 41 ∨ q < 7 ∨ 23 ≤ q ∨ ((q - 7) / 4 ≠ lo ∧ (q - 7) % 4 ≠ lo) ∨ (q - 7) / 4 = up ∨ (q - 7) % 4 = up ∨ q = 7 + 4 * lo + lo ∨ ((q - 7) / 4 = lo ∧ k ≤ (q - 7) % 4) ∨ ((q - 7) % 4 = lo ∧ k ≤ (q - 7) / 4)) → Ik a q = Ij a q) → V x M_X8_join Q 169 [some (rfv x 40), none, none, some (.int (nI (lo))), some (.int (nI (up))), some (.int (nI (cap (gW f lo lo + gW f lo up + gW f up lo + gW f up up)))), some (.int (nI (k)))] [] Ik L P := by
                  refine lpU ?_ ?_
                  · intro Ik gA gB gF
                    refine v_iload 171 rfl dX8_join_169 rfl ?_
                    refine v_aload_n 172 rfl dX8_join_171 rfl ?_
                    refine v_get 175 (k := 1) 8 (rfv x 41) (by decide) rfl (by decide) (by decide) dX8_join_172 rfl fl_X8_7 rfl ?_
                    refine v_iconst 176 (nI (0)) (by decide) dX8_join_175 rfl ?_
                    refine v_iald 177 (k := 0) (nI (f 0)) (by decide) rfl (by decide) dX8_join_176 rfl rfl (by omega) ((gF 41 0 (by omega)).trans ((hF 41 0 (by omega)).trans ((k1 41 0 (by omega)).trans rr.st))) ?_
                    refine v_icmpN_ge 265 180 dX8_join_177 (by decide) rfl (by omega) (by omega) (fun h177 => ?_) (fun h177 => ?_)
                    · skip
                      refine v_aload_n 266 rfl dX8_join_265 rfl ?_
                      refine v_get 269 (k := 1) 8 (rfv x 41) (by decide) rfl (by decide) (by decide) dX8_join_266 rfl fl_X8_7 rfl ?_
                      refine v_bipush 271 (nI (7)) (by decide) dX8_join_269 rfl ?_
                      refine v_iconst 272 (nI (4)) (by decide) dX8_join_271 rfl ?_
                      refine v_iload_n 273 rfl dX8_join_272 rfl ?_
                      refine v_imul 274 (nI (4 * lo)) dX8_join_273 rfl (pk_mul _ _) ?_
                      refine v_iadd 275 (nI (7 + (4 * lo))) dX8_join_274 rfl (nI_add _ _) ?_
                      refine v_iload_n 276 rfl dX8_join_275 rfl ?_
                      refine v_iadd 277 (nI ((7 + (4 * lo)) + lo)) dX8_join_276 rfl (nI_add _ _) ?_
                      refine v_iload 279 rfl dX8_join_277 rfl ?_
                      refine v_iast 280 (k := (7 + (4 * lo)) + lo) (nI (cap (gW f lo lo + gW f lo up + gW f up lo + gW f up up))) (by decide) rfl (by decide) dX8_join_279 rfl rfl (by omega) rfl (fun I279 e279 => ?_)
                      refine v_aload_n 281 rfl dX8_join_280 rfl ?_
                      refine v_iload 283 rfl dX8_join_281 rfl ?_
                      have u0 : I279 41 0 = nI (f 0) := (up2_off e279 (by omega)).trans ((gF 41 0 (by omega)).trans ((hF 41 0 (by omega)).trans ((k1 41 0 (by omega)).trans rr.st)))
                      have u1 : ∀ a q, a ≠ 41 → I279 a q = Ir a q := fun a q h => (up2_off e279 (by omega)).trans ((gF a q (Or.inl h)).trans ((hF a q (Or.inl h)).trans (k1 a q (Or.inl h))))
                      refine v_invV 286 M_X8_drops [.int (nI (up))] (by decide) rfl (by decide) rfl dX8_join_283 rfl ml_X8_114 im_X8_drops se_X8_drops mc_X8_drops (by decide) (Nat.le_of_ble_eq_true rfl) (sp_X8_drops (n := f 0) w.n4 (by omega) hup u0 (fun Id dF d0 d1 d2 d3 => ?_))
                      refine v_aload_n 287 rfl dX8_join_286 rfl ?_
                      refine v_get 290 (k := 1) 8 (rfv x 41) (by decide) rfl (by decide) (by decide) dX8_join_287 rfl fl_X8_7 rfl ?_
                      refine v_iconst 291 (nI (0)) (by decide) dX8_join_290 rfl ?_
                      refine v_iald 292 (k := 0) (nI (f 0 - 1)) (by decide) rfl (by decide) dX8_join_291 rfl rfl (by omega) d0 ?_
                      refine v_iret rfl dX8_join_292 ?_
                      have u1 : ∀ a q, a ≠ 41 → Id a q = Ir a q := fun a q h => (dF a q (Or.inl h)).trans (u1 a q h)
                      refine qZ (hQ Id L (fun a ha => ?_) ?_) (by rw [joA, if_neg hz, if_neg hzy])
                      · rw [show Id a = Ir a from funext (fun q => u1 a q (by omega)), show Ir a = I2 a from funext (fun q => fr a q (by omega) (Or.inl (by omega)))]
                        exact lo2 a ha
                      · rw [show joB f (nI i) (nI j) = true by rw [joB, if_neg hz, if_neg hzy], joV, es, es2, ← elo, ← eup]
                        have hv : RR (Id 41) (joF f lo up) := by
                          refine rr.laid (by omega) d0 (fun i hi => (dF 41 i (by omega)).trans ((up2_off e279 (by omega)).trans ((gF 41 i (by omega)).trans ((hF 41 i (by omega)).trans (k1 41 i (by omega)))))) (fun a ha => (d1 a ha).trans ?_) (fun a b ha hb => (d2 a b ha hb).trans ?_) (fun a g ha hg => (d3 a g ha hg).trans ?_)
                          · have x4 := sk_lt (s := up) ha
                            refine ((up2_off e279 (by omega)).trans ((gF 41 _ (by omega)).trans ((hF 41 _ (by omega)).trans ?_)))
                            unfold jB
                            by_cases x1 : sk up a = lo
                            · rw [if_pos x1, x1]
                              exact k2
                            · rw [if_neg x1]
                              exact (k1 41 _ (by omega)).trans (rr.b (sk_lt ha))
                          · have x4 := sk_lt (s := up) ha
                            have x5 := sk_lt (s := up) hb
                            have x6 := sk_ne (s := up) (a := a)
                            have x7 := sk_ne (s := up) (a := b)
                            generalize sk up a = a1 at x4 x6 ⊢
                            generalize sk up b = b1 at x5 x7 ⊢
                            unfold jG
                            by_cases x1 : a1 = lo
                            · rw [if_pos x1, x1]
                              by_cases x2 : b1 = lo
                              · rw [if_pos x2, x2]
                                exact up2_at e279
                              · rw [if_neg x2]
                                exact (up2_off e279 (by omega)).trans (gA b1 x5 x2 x7)
                            · rw [if_neg x1]
                              by_cases x2 : b1 = lo
                              · rw [if_pos x2, x2]
                                exact (up2_off e279 (by omega)).trans (gB a1 x4 x1 x6)
                              · rw [if_neg x2]
                                exact (up2_off e279 (by omega)).trans ((gF 41 _ (by omega)).trans ((hF 41 _ (by omega)).trans ((k1 41 _ (by omega)).trans (rr.g x4 x5))))
                          · have x4 := sk_lt (s := up) ha
                            generalize sk up a = a1 at x4 ⊢
                            refine ((up2_off e279 (by omega)).trans ((gF 41 _ (by omega)).trans ?_))
                            unfold jW
                            by_cases x1 : a1 = lo
                            · rw [if_pos x1, x1]
                              exact hA g hg
                            · rw [if_neg x1]
                              exact (hF 41 _ (by omega)).trans ((k1 41 _ (by omega)).trans (rr.w x4 hg))
                        refine ⟨hv, ⟨hrr.1, (u1 40 4 (by decide)).trans hrr.2.1, fun i hi => by rw [show Id 43 = Ir 43 from funext (fun q => u1 43 q (by decide))]; exact hrr.2.2 i hi⟩, ?_, fun e => ?_, ?_, fun i hi => ?_⟩
                        · rw [u1 40 6 (by decide), fr 40 6 (by decide) (Or.inr (by decide))]
                          exact ri2.2.2.1
                        · exact (ri2.2.2.2.1 e).on (hwg e) (fun j _ => (u1 44 j (by decide)).trans (fr 44 j (by decide) (Or.inl (by decide))))
                        · rw [u1 40 8 (by decide), fr 40 8 (by decide) (Or.inr (by decide))]
                          exact ri2.2.2.2.2.1
                        · rw [u1 45 i (by decide), fr 45 i (by decide) (Or.inl (by decide))]
                          exact ri2.2.2.2.2.2 i hi
                    · skip
                      exact absurd h177 (by omega)
                  · intro k hk ih Ik gA gB gF
                    refine v_iload 171 rfl dX8_join_169 rfl ?_
                    refine v_aload_n 172 rfl dX8_join_171 rfl ?_
                    refine v_get 175 (k := 1) 8 (rfv x 41) (by decide) rfl (by decide) (by decide) dX8_join_172 rfl fl_X8_7 rfl ?_
                    refine v_iconst 176 (nI (0)) (by decide) dX8_join_175 rfl ?_
                    refine v_iald 177 (k := 0) (nI (f 0)) (by decide) rfl (by decide) dX8_join_176 rfl rfl (by omega) ((gF 41 0 (by omega)).trans ((hF 41 0 (by omega)).trans ((k1 41 0 (by omega)).trans rr.st))) ?_
                    refine v_icmpN_ge 265 180 dX8_join_177 (by decide) rfl (by omega) (by omega) (fun h177 => ?_) (fun h177 => ?_)
                    · skip
                      exact absurd h177 (by omega)
                    · skip
                      refine v_iload 182 rfl dX8_join_180 rfl ?_
                      refine v_iload_n 183 rfl dX8_join_182 rfl ?_
                      refine v_icmpN_eq 259 186 dX8_join_183 (by decide) rfl (by omega) (by omega) (fun h183 => ?_) (fun h183 => ?_)
                      · skip
                        refine v_iinc 262 [some (rfv x 40), none, none, some (.int (nI (lo))), some (.int (nI (up))), some (.int (nI (cap (gW f lo lo + gW f lo up + gW f up lo + gW f up up)))), some (.int (nI (k + 1)))] (nI (k + 1)) dX8_join_259 rfl (by decide) rfl (nI_inc _) rfl ?_
                        refine v_goto 169 dX8_join_262 (by decide) ?_
                        refine v_drop [some (rfv x 40), none, none, some (.int (nI (lo))), some (.int (nI (up))), some (.int (nI (cap (gW f lo lo + gW f lo up + gW f up lo + gW f up up)))), some (.int (nI (k + 1)))] (by simp [lsub, smN_s]) ?_
                        refine ih Ik (fun q h1 h2 h3 => gA q (by omega) h2 h3) (fun q h1 h2 h3 => gB q (by omega) h2 h3) (fun a q h => gF a q (by omega))
                      · skip
                        refine v_iload 188 rfl dX8_join_186 rfl ?_
                        refine v_iload 190 rfl dX8_join_188 rfl ?_
                        refine v_icmpN_eq 259 193 dX8_join_190 (by decide) rfl (by omega) (by omega) (fun h190 => ?_) (fun h190 => ?_)
                        · skip
                          refine v_iinc 262 [some (rfv x 40), none, none, some (.int (nI (lo))), some (.int (nI (up))), some (.int (nI (cap (gW f lo lo + gW f lo up + gW f up lo + gW f up up)))), some (.int (nI (k + 1)))] (nI (k + 1)) dX8_join_259 rfl (by decide) rfl (nI_inc _) rfl ?_
                          refine v_goto 169 dX8_join_262 (by decide) ?_
                          refine v_drop [some (rfv x 40), none, none, some (.int (nI (lo))), some (.int (nI (up))), some (.int (nI (cap (gW f lo lo + gW f lo up + gW f up lo + gW f up up)))), some (.int (nI (k + 1)))] (by simp [lsub, smN_s]) ?_
                          refine ih Ik (fun q h1 h2 h3 => gA q (by omega) h2 h3) (fun q h1 h2 h3 => gB q (by omega) h2 h3) (fun a q h => gF a q (by omega))
                        · skip
                          have := w.g hlo hk
                          have := w.g hup hk
                          have := w.g hk hlo
                          have := w.g hk hup
                          have x2 : k ≠ lo := h183
                          have x3 : k ≠ up := h190
                          refine v_aload_n 194 rfl dX8_join_193 rfl ?_
                          refine v_get 197 (k := 1) 8 (rfv x 41) (by decide) rfl (by decide) (by decide) dX8_join_194 rfl fl_X8_7 rfl ?_
                          refine v_bipush 199 (nI (7)) (by decide) dX8_join_197 rfl ?_
                          refine v_iconst 200 (nI (4)) (by decide) dX8_join_199 rfl ?_
                          refine v_iload_n 201 rfl dX8_join_200 rfl ?_
                          refine v_imul 202 (nI (4 * lo)) dX8_join_201 rfl (pk_mul _ _) ?_
                          refine v_iadd 203 (nI (7 + (4 * lo))) dX8_join_202 rfl (nI_add _ _) ?_
                          refine v_iload 205 rfl dX8_join_203 rfl ?_
                          refine v_iadd 206 (nI ((7 + (4 * lo)) + k)) dX8_join_205 rfl (nI_add _ _) ?_
                          refine v_aload_n 207 rfl dX8_join_206 rfl ?_
                          refine v_iload_n 208 rfl dX8_join_207 rfl ?_
                          refine v_iload 210 rfl dX8_join_208 rfl ?_
                          refine v_invV 213 M_X8_go [.int (nI (lo)), .int (nI (k))] (by decide) rfl (by decide) rfl dX8_join_210 rfl ml_X8_76 im_X8_go se_X8_go mc_X8_go (by decide) (Nat.le_of_ble_eq_true rfl) (sq_X8_go (v := nI (gW f lo k)) (by omega) (by omega) ((gF 41 _ (by omega)).trans ((hF 41 _ (by omega)).trans ((k1 41 _ (by omega)).trans (rr.g (by omega) (by omega))))) ?_)
                          refine v_aload_n 214 rfl dX8_join_213 rfl ?_
                          refine v_iload 216 rfl dX8_join_214 rfl ?_
                          refine v_iload 218 rfl dX8_join_216 rfl ?_
                          refine v_invV 221 M_X8_go [.int (nI (up)), .int (nI (k))] (by decide) rfl (by decide) rfl dX8_join_218 rfl ml_X8_76 im_X8_go se_X8_go mc_X8_go (by decide) (Nat.le_of_ble_eq_true rfl) (sq_X8_go (v := nI (gW f up k)) (by omega) (by omega) ((gF 41 _ (by omega)).trans ((hF 41 _ (by omega)).trans ((k1 41 _ (by omega)).trans (rr.g (by omega) (by omega))))) ?_)
                          refine v_iadd 222 (nI ((gW f lo k) + (gW f up k))) dX8_join_221 rfl (nI_add _ _) ?_
                          refine v_invT 225 M_X8_capped [.int (nI ((gW f lo k) + (gW f up k)))] dX8_join_222 rfl ml_X8_111 sm_X8_capped mc_X8_capped (by decide) (Nat.le_of_ble_eq_true rfl) (sp_X8_capped (by omega) ?_)
                          refine v_iast 226 (k := (7 + (4 * lo)) + k) (nI (cap ((gW f lo k) + (gW f up k)))) (by decide) rfl (by decide) dX8_join_225 rfl rfl (by omega) rfl (fun I225 e225 => ?_)
                          refine v_aload_n 227 rfl dX8_join_226 rfl ?_
                          refine v_get 230 (k := 1) 8 (rfv x 41) (by decide) rfl (by decide) (by decide) dX8_join_227 rfl fl_X8_7 rfl ?_
                          refine v_bipush 232 (nI (7)) (by decide) dX8_join_230 rfl ?_
                          refine v_iconst 233 (nI (4)) (by decide) dX8_join_232 rfl ?_
                          refine v_iload 235 rfl dX8_join_233 rfl ?_
                          refine v_imul 236 (nI (4 * k)) dX8_join_235 rfl (pk_mul _ _) ?_
                          refine v_iadd 237 (nI (7 + (4 * k))) dX8_join_236 rfl (nI_add _ _) ?_
                          refine v_iload_n 238 rfl dX8_join_237 rfl ?_
                          refine v_iadd 239 (nI ((7 + (4 * k)) + lo)) dX8_join_238 rfl (nI_add _ _) ?_
                          refine v_aload_n 240 rfl dX8_join_239 rfl ?_
                          refine v_iload 242 rfl dX8_join_240 rfl ?_
                          refine v_iload_n 243 rfl dX8_join_242 rfl ?_
                          refine v_invV 246 M_X8_go [.int (nI (k)), .int (nI (lo))] (by decide) rfl (by decide) rfl dX8_join_243 rfl ml_X8_76 im_X8_go se_X8_go mc_X8_go (by decide) (Nat.le_of_ble_eq_true rfl) (sq_X8_go (v := nI (gW f k lo)) (by omega) (by omega) ((up2_off e225 (by omega)).trans ((gF 41 _ (by omega)).trans ((hF 41 _ (by omega)).trans ((k1 41 _ (by omega)).trans (rr.g (by omega) (by omega)))))) ?_)
                          refine v_aload_n 247 rfl dX8_join_246 rfl ?_
                          refine v_iload 249 rfl dX8_join_247 rfl ?_
                          refine v_iload 251 rfl dX8_join_249 rfl ?_
                          refine v_invV 254 M_X8_go [.int (nI (k)), .int (nI (up))] (by decide) rfl (by decide) rfl dX8_join_251 rfl ml_X8_76 im_X8_go se_X8_go mc_X8_go (by decide) (Nat.le_of_ble_eq_true rfl) (sq_X8_go (v := nI (gW f k up)) (by omega) (by omega) ((up2_off e225 (by omega)).trans ((gF 41 _ (by omega)).trans ((hF 41 _ (by omega)).trans ((k1 41 _ (by omega)).trans (rr.g (by omega) (by omega)))))) ?_)
                          refine v_iadd 255 (nI ((gW f k lo) + (gW f k up))) dX8_join_254 rfl (nI_add _ _) ?_
                          refine v_invT 258 M_X8_capped [.int (nI ((gW f k lo) + (gW f k up)))] dX8_join_255 rfl ml_X8_111 sm_X8_capped mc_X8_capped (by decide) (Nat.le_of_ble_eq_true rfl) (sp_X8_capped (by omega) ?_)
                          refine v_iast 259 (k := (7 + (4 * k)) + lo) (nI (cap ((gW f k lo) + (gW f k up)))) (by decide) rfl (by decide) dX8_join_258 rfl rfl (by omega) rfl (fun I258 e258 => ?_)
                          refine v_iinc 262 [some (rfv x 40), none, none, some (.int (nI (lo))), some (.int (nI (up))), some (.int (nI (cap (gW f lo lo + gW f lo up + gW f up lo + gW f up up)))), some (.int (nI (k + 1)))] (nI (k + 1)) dX8_join_259 rfl (by decide) rfl (nI_inc _) rfl ?_
                          refine v_goto 169 dX8_join_262 (by decide) ?_
                          refine v_drop [some (rfv x 40), none, none, some (.int (nI (lo))), some (.int (nI (up))), some (.int (nI (cap (gW f lo lo + gW f lo up + gW f up lo + gW f up up)))), some (.int (nI (k + 1)))] (by simp [lsub, smN_s]) ?_
                          refine ih I258 (fun q h1 h2 h3 => ?_) (fun q h1 h2 h3 => ?_) (fun a q h => (up2_off e258 (by omega)).trans ((up2_off e225 (by omega)).trans (gF a q (by omega))))
                          · by_cases x1 : q = k
                            · rw [x1]
                              exact (up2_off e258 (by omega)).trans (up2_at e225)
                            · exact (up2_off e258 (by omega)).trans ((up2_off e225 (by omega)).trans (gA q (by omega) h2 h3))
                          · by_cases x1 : q = k
                            · rw [x1]
                              exact up2_at e258
                            · exact (up2_off e258 (by omega)).trans ((up2_off e225 (by omega)).trans (gB q (by omega) h2 h3))
                refine v_drop [some (rfv x 40), none, none, some (.int (nI (lo))), some (.int (nI (up))), some (.int (nI (cap (gW f lo lo + gW f lo up + gW f up lo + gW f up up)))), some (.int (nI (0)))] (by simp [lsub, smN, amN, dbW, mxN]) ?_
                exact lq 0 (Nat.zero_le _) Ij (fun q h => absurd h (Nat.not_lt_zero q)) (fun q h => absurd h (Nat.not_lt_zero q)) (fun a q _ => rfl)
              · skip
                exact absurd h124 (by omega)
            · intro g hg ih Ij hA hF
              have := w.w hlo hg
              have := w.w hup hg
              refine v_iload 123 rfl dX8_join_121 rfl ?_
              refine v_iconst 124 (nI (3)) (by decide) dX8_join_123 rfl ?_
              refine v_icmpN_ge 166 127 dX8_join_124 (by decide) rfl (by omega) (by omega) (fun h124 => ?_) (fun h124 => ?_)
              · skip
                exact absurd h124 (by omega)
              · skip
                refine v_aload_n 128 rfl dX8_join_127 rfl ?_
                refine v_get 131 (k := 1) 8 (rfv x 41) (by decide) rfl (by decide) (by decide) dX8_join_128 rfl fl_X8_7 rfl ?_
                refine v_bipush 133 (nI (23)) (by decide) dX8_join_131 rfl ?_
                refine v_iconst 134 (nI (3)) (by decide) dX8_join_133 rfl ?_
                refine v_iload_n 135 rfl dX8_join_134 rfl ?_
                refine v_imul 136 (nI (3 * lo)) dX8_join_135 rfl (pk_mul _ _) ?_
                refine v_iadd 137 (nI (23 + (3 * lo))) dX8_join_136 rfl (nI_add _ _) ?_
                refine v_iload 139 rfl dX8_join_137 rfl ?_
                refine v_iadd 140 (nI ((23 + (3 * lo)) + g)) dX8_join_139 rfl (nI_add _ _) ?_
                refine v_aload_n 141 rfl dX8_join_140 rfl ?_
                refine v_iload_n 142 rfl dX8_join_141 rfl ?_
                refine v_iload 144 rfl dX8_join_142 rfl ?_
                refine v_invV 147 M_X8_show [.int (nI (lo)), .int (nI (g))] (by decide) rfl (by decide) rfl dX8_join_144 rfl ml_X8_73 im_X8_show se_X8_show mc_X8_show (by decide) (Nat.le_of_ble_eq_true rfl) (sq_X8_show (v := nI (sW f lo g)) (by omega) (by omega) ((hF 41 _ (by omega)).trans ((k1 41 _ (by omega)).trans (rr.w hlo hg))) ?_)
                refine v_aload_n 148 rfl dX8_join_147 rfl ?_
                refine v_iload 150 rfl dX8_join_148 rfl ?_
                refine v_iload 152 rfl dX8_join_150 rfl ?_
                refine v_invV 155 M_X8_show [.int (nI (up)), .int (nI (g))] (by decide) rfl (by decide) rfl dX8_join_152 rfl ml_X8_73 im_X8_show se_X8_show mc_X8_show (by decide) (Nat.le_of_ble_eq_true rfl) (sq_X8_show (v := nI (sW f up g)) (by omega) (by omega) ((hF 41 _ (by omega)).trans ((k1 41 _ (by omega)).trans (rr.w hup hg))) ?_)
                refine v_iadd 156 (nI ((sW f lo g) + (sW f up g))) dX8_join_155 rfl (nI_add _ _) ?_
                refine v_invT 159 M_X8_capped [.int (nI ((sW f lo g) + (sW f up g)))] dX8_join_156 rfl ml_X8_111 sm_X8_capped mc_X8_capped (by decide) (Nat.le_of_ble_eq_true rfl) (sp_X8_capped (by omega) ?_)
                refine v_iast 160 (k := (23 + (3 * lo)) + g) (nI (cap ((sW f lo g) + (sW f up g)))) (by decide) rfl (by decide) dX8_join_159 rfl rfl (by omega) rfl (fun I159 e159 => ?_)
                refine v_iinc 163 [some (rfv x 40), none, none, some (.int (nI (lo))), some (.int (nI (up))), some (.int (nI (cap (gW f lo lo + gW f lo up + gW f up lo + gW f up up)))), some (.int (nI (g + 1)))] (nI (g + 1)) dX8_join_160 rfl (by decide) rfl (nI_inc _) rfl ?_
                refine v_goto 121 dX8_join_163 (by decide) ?_
                refine v_drop [some (rfv x 40), none, none, some (.int (nI (lo))), some (.int (nI (up))), some (.int (nI (cap (gW f lo lo + gW f lo up + gW f up lo + gW f up up)))), some (.int (nI (g + 1)))] (by simp [lsub, smN_s]) ?_
                refine ih I159 (fun q hq => ?_) (fun a q h => (up2_off e159 (by omega)).trans (hF a q (by omega)))
                by_cases x1 : q = g
                · rw [x1]
                  exact up2_at e159
                · exact (up2_off e159 (by omega)).trans (hA q (by omega))
          refine v_drop [some (rfv x 40), none, none, some (.int (nI (lo))), some (.int (nI (up))), some (.int (nI (cap (gW f lo lo + gW f lo up + gW f up lo + gW f up up)))), some (.int (nI (0)))] (by simp [lsub, smN, amN, dbW, mxN]) ?_
          exact lp 0 (Nat.zero_le _) I117 (fun q h => absurd h (Nat.not_lt_zero q)) (fun a q _ => rfl)
        refine v_iload_n 36 rfl dX8_join_35 rfl ?_
        refine v_iload_n 37 rfl dX8_join_36 rfl ?_
        refine v_icmpN_ge 44 40 dX8_join_37 (by decide) rfl (by omega) (by omega) (fun h37 => ?_) (fun h37 => ?_)
        · skip
          refine v_iload_n 45 rfl dX8_join_44 rfl ?_
          refine v_istore_n 46 [some (rfv x 40), some (.int (nI (i))), some (.int (nI (j))), some (.int (nI (j))), none, none, none] dX8_join_45 rfl (by decide) rfl ?_
          refine v_iload_n 47 rfl dX8_join_46 rfl ?_
          refine v_iload_n 48 rfl dX8_join_47 rfl ?_
          refine v_iadd 49 (nI (i + j)) dX8_join_48 rfl (nI_add _ _) ?_
          refine v_iload_n 50 rfl dX8_join_49 rfl ?_
          refine v_isub 51 (nI (i)) dX8_join_50 rfl (by rw [pk_sub (by omega)]; exact congrArg nI (by omega)) ?_
          refine v_istore 53 [some (rfv x 40), some (.int (nI (i))), some (.int (nI (j))), some (.int (nI (j))), some (.int (nI (i))), none, none] dX8_join_51 rfl (by decide) rfl ?_
          refine v_drop [some (rfv x 40), none, none, some (.int (nI (j))), some (.int (nI (i))), none, none] (by simp [lsub, smN_s]) ?_
          exact key j i (by omega) (by omega) (by omega) (by omega) (by omega)
        · skip
          refine v_iload_n 41 rfl dX8_join_40 rfl ?_
          refine v_goto 45 dX8_join_41 (by decide) ?_
          refine v_istore_n 46 [some (rfv x 40), some (.int (nI (i))), some (.int (nI (j))), some (.int (nI (i))), none, none, none] dX8_join_45 rfl (by decide) rfl ?_
          refine v_iload_n 47 rfl dX8_join_46 rfl ?_
          refine v_iload_n 48 rfl dX8_join_47 rfl ?_
          refine v_iadd 49 (nI (i + j)) dX8_join_48 rfl (nI_add _ _) ?_
          refine v_iload_n 50 rfl dX8_join_49 rfl ?_
          refine v_isub 51 (nI (j)) dX8_join_50 rfl (by rw [pk_sub (by omega)]; exact congrArg nI (by omega)) ?_
          refine v_istore 53 [some (rfv x 40), some (.int (nI (i))), some (.int (nI (j))), some (.int (nI (i))), some (.int (nI (j))), none, none] dX8_join_51 rfl (by decide) rfl ?_
          refine v_drop [some (rfv x 40), none, none, some (.int (nI (i))), some (.int (nI (j))), none, none] (by simp [lsub, smN_s]) ?_
          exact key i j (by omega) (by omega) (by omega) (by omega) (by omega)
      · skip
        refine v_bipush 30 ((-2)) (by decide) dX8_join_28 rfl ?_
        refine v_iret rfl dX8_join_30 ?_
        have hz : ¬ joN f z y := by
          rintro (q | q) <;> contradiction
        refine qZ (hQ I2 L lo2 ?_) (by rw [joA, if_neg hz, if_pos h25])
        simp only [joB, if_neg hz, if_pos h25]
        exact ri2
    · skip
      refine v_iconst 22 ((-1)) (by decide) dX8_join_21 rfl ?_
      refine v_iret rfl dX8_join_22 ?_
      have hz : joN f z y := by first | exact Or.inl h10 | exact Or.inr h18
      refine qZ (hQ I2 L lo2 ?_) (by rw [joA, if_pos hz])
      simp only [joB, if_pos hz]
      exact ri2
