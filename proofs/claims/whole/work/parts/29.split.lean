/-! a state split -/
theorem RC.upd3 {b : Nat} {f f1 : Vw} {I I1 : Iv} (r : RC b f I) (e0 : I1 b 1 = nI (f1 0)) (e5 : I1 b 5 = I b 5) (e2 : I1 b 2 = I b 2) (g2 : I1 (b + 2) = I (b + 2)) (g3 : I1 (b + 3) = I (b + 3)) (ff : ∀ i, i = 1 ∨ i = 2 ∨ 35 ≤ i → f1 i = f i) (hb : ∀ s, s < f1 0 → I1 (b + 1) (s * 8) = nI (bW f1 s)) (hg : ∀ s t, s < f1 0 → t < f1 0 → I1 (b + 1) (s * 8 + 1 + t) = nI (gW f1 s t)) (hw : ∀ s g, s < f1 0 → g < 3 → I1 (b + 1) (s * 8 + 5 + g) = nI (sW f1 s g)) : RC b f1 I1 := by
  refine r.upd e0 e5 e2 g2 g3 ff (fun p c h => ?_)
  rcases h with ⟨s, hs, e, e2⟩ | ⟨s, t, hs, ht, e, e2⟩ | ⟨s, t, hs, ht, e, e2⟩ <;> subst e <;> subst e2
  · exact hb s hs
  · exact hg s t hs ht
  · exact hw s t hs ht
theorem RR.upd3 {f f1 : Vw} {h h1 : Nat → Int32} (r : RR h f) (e0 : h1 0 = nI (f1 0)) (e : ∀ i, i = 1 ∨ i = 2 ∨ 35 ≤ i → h1 i = h i) (ff : ∀ i, i = 1 ∨ i = 2 ∨ 35 ≤ i → f1 i = f i) (hb : ∀ s, s < f1 0 → h1 (3 + s) = nI (bW f1 s)) (hg : ∀ s t, s < f1 0 → t < f1 0 → h1 (7 + 4 * s + t) = nI (gW f1 s t)) (hw : ∀ s g, s < f1 0 → g < 3 → h1 (23 + 3 * s + g) = nI (sW f1 s g)) : RR h1 f1 := by
  refine r.upd e0 e ff (fun p c h => ?_)
  rcases h with ⟨s, hs, e, e2⟩ | ⟨s, t, hs, ht, e, e2⟩ | ⟨s, t, hs, ht, e, e2⟩ <;> subst e <;> subst e2
  · exact hb s hs
  · exact hg s t hs ht
  · exact hw s t hs ht
theorem Wf.upd3 {f f1 : Vw} (w : Wf f) (h0 : 1 ≤ f1 0 ∧ f1 0 ≤ 4) (ff : ∀ i, i = 1 ∨ i = 2 ∨ 35 ≤ i → f1 i = f i) (hb : ∀ s, s < f1 0 → bW f1 s ≤ 6) (hg : ∀ s t, s < f1 0 → t < f1 0 → gW f1 s t ≤ 6) (hw : ∀ s g, s < f1 0 → g < 3 → sW f1 s g ≤ 6) : Wf f1 := by
  refine w.upd h0 ff (fun p c h => ?_)
  rcases h with ⟨s, hs, e, e2⟩ | ⟨s, t, hs, ht, e, e2⟩ | ⟨s, t, hs, ht, e, e2⟩ <;> subst e <;> subst e2
  · exact hb s hs
  · exact hg s t hs ht
  · exact hw s t hs ht
/-- a view laid from three families of weights -/
def mkF (f : Vw) (n : Nat) (B : Nat → Nat) (G W : Nat → Nat → Nat) : Vw := fun i => if i = 0 then n else if 3 ≤ i ∧ i < 7 then B (i - 3) else if 7 ≤ i ∧ i < 23 then G ((i - 7) / 4) ((i - 7) % 4) else if 23 ≤ i ∧ i < 35 then W ((i - 23) / 3) ((i - 23) % 3) else f i
theorem mkF_ff {f : Vw} {n : Nat} {B : Nat → Nat} {G W : Nat → Nat → Nat} : ∀ i, i = 1 ∨ i = 2 ∨ 35 ≤ i → mkF f n B G W i = f i := fun i hi => by
  rw [mkF, if_neg (by omega), if_neg (by omega), if_neg (by omega), if_neg (by omega)]
theorem mkF_b {f : Vw} {n : Nat} {B : Nat → Nat} {G W : Nat → Nat → Nat} {s : Nat} (hs : s < 4) : bW (mkF f n B G W) s = B s := by
  rw [bW, mkF, if_neg (by omega), if_pos (by omega), show 3 + s - 3 = s by omega]
theorem mkF_g {f : Vw} {n : Nat} {B : Nat → Nat} {G W : Nat → Nat → Nat} {s t : Nat} (hs : s < 4) (ht : t < 4) : gW (mkF f n B G W) s t = G s t := by
  rw [gW, mkF, if_neg (by omega), if_neg (by omega), if_pos (by omega), show (7 + 4 * s + t - 7) / 4 = s by omega, show (7 + 4 * s + t - 7) % 4 = t by omega]
theorem mkF_w {f : Vw} {n : Nat} {B : Nat → Nat} {G W : Nat → Nat → Nat} {s t : Nat} (hs : s < 4) (ht : t < 3) : sW (mkF f n B G W) s t = W s t := by
  rw [sW, mkF, if_neg (by omega), if_neg (by omega), if_neg (by omega), if_pos (by omega), show (23 + 3 * s + t - 23) / 3 = s by omega, show (23 + 3 * s + t - 23) % 3 = t by omega]
theorem mkF_0 {f : Vw} {n : Nat} {B : Nat → Nat} {G W : Nat → Nat → Nat} : mkF f n B G W 0 = n := rfl
theorem Wf.laid {f : Vw} (w : Wf f) {n : Nat} {B : Nat → Nat} {G W : Nat → Nat → Nat} (h0 : 1 ≤ n ∧ n ≤ 4) (hb : ∀ s, s < n → B s ≤ 6) (hg : ∀ s t, s < n → t < n → G s t ≤ 6) (hw : ∀ s g, s < n → g < 3 → W s g ≤ 6) : Wf (mkF f n B G W) := by
  refine w.upd3 h0 mkF_ff (fun s hs => ?_) (fun s t hs ht => ?_) (fun s t hs ht => ?_)
  · have h : s < n := hs
    rw [mkF_b (by omega)]
    exact hb s h
  · have h : s < n := hs
    have h' : t < n := ht
    rw [mkF_g (by omega) (by omega)]
    exact hg s t h h'
  · have h : s < n := hs
    rw [mkF_w (by omega) ht]
    exact hw s t h ht
theorem RC.laid {f : Vw} {I I1 : Iv} (r : RC 1 f I) {n : Nat} {B : Nat → Nat} {G W : Nat → Nat → Nat} (hn : n ≤ 4) (e0 : I1 1 1 = nI n) (hF : ∀ a q, (a ≠ 1 ∨ q ≠ 1) → a ≠ 2 → I1 a q = I a q) (hb : ∀ s, s < n → I1 2 (s * 8) = nI (B s)) (hg : ∀ s t, s < n → t < n → I1 2 (s * 8 + 1 + t) = nI (G s t)) (hw : ∀ s g, s < n → g < 3 → I1 2 (s * 8 + 5 + g) = nI (W s g)) : RC 1 (mkF f n B G W) I1 := by
  refine r.upd3 e0 (hF _ _ (by omega) (by omega)) (hF _ _ (by omega) (by omega)) (funext fun q => hF _ _ (by omega) (by omega)) (funext fun q => hF _ _ (by omega) (by omega)) mkF_ff (fun s hs => ?_) (fun s t hs ht => ?_) (fun s t hs ht => ?_)
  · have h : s < n := hs
    rw [mkF_b (by omega)]
    exact hb s h
  · have h : s < n := hs
    have h' : t < n := ht
    rw [mkF_g (by omega) (by omega)]
    exact hg s t h h'
  · have h : s < n := hs
    rw [mkF_w (by omega) ht]
    exact hw s t h ht
theorem RR.laid {f : Vw} {h h1 : Nat → Int32} (r : RR h f) {n : Nat} {B : Nat → Nat} {G W : Nat → Nat → Nat} (hn : n ≤ 4) (e0 : h1 0 = nI n) (e : ∀ i, i = 1 ∨ i = 2 ∨ 35 ≤ i → h1 i = h i) (hb : ∀ s, s < n → h1 (3 + s) = nI (B s)) (hg : ∀ s t, s < n → t < n → h1 (7 + 4 * s + t) = nI (G s t)) (hw : ∀ s g, s < n → g < 3 → h1 (23 + 3 * s + g) = nI (W s g)) : RR h1 (mkF f n B G W) := by
  refine r.upd3 e0 e mkF_ff (fun s hs => ?_) (fun s t hs ht => ?_) (fun s t hs ht => ?_)
  · have h : s < n := hs
    rw [mkF_b (by omega)]
    exact hb s h
  · have h : s < n := hs
    have h' : t < n := ht
    rw [mkF_g (by omega) (by omega)]
    exact hg s t h h'
  · have h : s < n := hs
    rw [mkF_w (by omega) ht]
    exact hw s t h ht
def tw (n s j : Nat) : Nat := if j = n then s else j
theorem tw_n {n s : Nat} : tw n s n = s := if_pos rfl
theorem tw_o {n s j : Nat} (h : j ≠ n) : tw n s j = j := if_neg h
theorem tw_lt {n s j : Nat} (hs : s < n) (hj : j < n + 1) : tw n s j < n := by
  unfold tw
  split <;> omega
def splF (f : Vw) (s : Nat) : Vw := mkF f (f 0 + 1) (fun a => bW f (tw (f 0) s a)) (fun a b => gW f (tw (f 0) s a) (tw (f 0) s b)) (fun a g => sW f (tw (f 0) s a) g)
theorem Wf.spl {f : Vw} (w : Wf f) {s : Nat} (hs : s < f 0) (h4 : f 0 ≠ 4) : Wf (splF f s) := by
  have := w.n4
  exact w.laid ⟨by omega, by omega⟩ (fun a ha => w.b (tw_lt hs ha)) (fun a b ha hb => w.g (tw_lt hs ha) (tw_lt hs hb)) (fun a g ha hg => w.w (tw_lt hs ha) hg)
def spA (f : Vw) (z : Int32) : Int32 := if inb z (f 0) = 0 then (-1) else if f 0 = 4 then (-3) else nI (f 0)
def spB (f : Vw) (z : Int32) : Bool := if inb z (f 0) = 0 then false else if f 0 = 4 then false else true
set_option maxHeartbeats 4000000 in
theorem sq_X3_go {x : Cx} {Q : Qt} {I : Iv} {L : Lv} {P : Pv} {s t : Nat} {v : Int32} (hs : s < 4) (ht : t < 4) (h : I 2 (s * 8 + 1 + t) = v) (hQ : Q (some (.int v)) I L P) : SP x M_X3_go [rfv x 1, .int (nI (s)), .int (nI (t))] I L P Q := by
  refine SP.intro [some (rfv x 1), some (.int (nI (s))), some (.int (nI (t)))] pn_X3_go (Nat.le_of_ble_eq_true rfl) rfl ?_
  refine v_aload_n 1 rfl dX3_go_0 rfl ?_
  refine v_get 4 (k := 0) 3 (rfv x 2) (by decide) rfl (by decide) (by decide) dX3_go_1 rfl fl_X3_11 rfl ?_
  refine v_iload_n 5 rfl dX3_go_4 rfl ?_
  refine v_bipush 7 (nI (8)) (by decide) dX3_go_5 rfl ?_
  refine v_imul 8 (nI (s * 8)) dX3_go_7 rfl (pk_mul _ _) ?_
  refine v_iconst 9 (nI (1)) (by decide) dX3_go_8 rfl ?_
  refine v_iadd 10 (nI ((s * 8) + 1)) dX3_go_9 rfl (nI_add _ _) ?_
  refine v_iload_n 11 rfl dX3_go_10 rfl ?_
  refine v_iadd 12 (nI (((s * 8) + 1) + t)) dX3_go_11 rfl (nI_add _ _) ?_
  refine v_iald 13 (k := ((s * 8) + 1) + t) (v) (by decide) rfl (by decide) dX3_go_12 rfl rfl (by omega) h ?_
  refine v_iret rfl dX3_go_13 ?_
  exact hQ
set_option maxHeartbeats 4000000 in
theorem sq_X8_go {x : Cx} {Q : Qt} {I : Iv} {L : Lv} {P : Pv} {s t : Nat} {v : Int32} (hs : s < 4) (ht : t < 4) (h : I 41 (7 + 4 * s + t) = v) (hQ : Q (some (.int v)) I L P) : SP x M_X8_go [rfv x 40, .int (nI (s)), .int (nI (t))] I L P Q := by
  refine SP.intro [some (rfv x 40), some (.int (nI (s))), some (.int (nI (t)))] pn_X8_go (Nat.le_of_ble_eq_true rfl) rfl ?_
  refine v_aload_n 1 rfl dX8_go_0 rfl ?_
  refine v_get 4 (k := 1) 8 (rfv x 41) (by decide) rfl (by decide) (by decide) dX8_go_1 rfl fl_X8_7 rfl ?_
  refine v_bipush 6 (nI (7)) (by decide) dX8_go_4 rfl ?_
  refine v_iconst 7 (nI (4)) (by decide) dX8_go_6 rfl ?_
  refine v_iload_n 8 rfl dX8_go_7 rfl ?_
  refine v_imul 9 (nI (4 * s)) dX8_go_8 rfl (pk_mul _ _) ?_
  refine v_iadd 10 (nI (7 + (4 * s))) dX8_go_9 rfl (nI_add _ _) ?_
  refine v_iload_n 11 rfl dX8_go_10 rfl ?_
  refine v_iadd 12 (nI ((7 + (4 * s)) + t)) dX8_go_11 rfl (nI_add _ _) ?_
  refine v_iald 13 (k := (7 + (4 * s)) + t) (v) (by decide) rfl (by decide) dX8_go_12 rfl rfl (by omega) h ?_
  refine v_iret rfl dX8_go_13 ?_
  exact hQ
set_option maxHeartbeats 4000000 in
theorem sq_X8_show {x : Cx} {Q : Qt} {I : Iv} {L : Lv} {P : Pv} {s t : Nat} {v : Int32} (hs : s < 4) (ht : t < 3) (h : I 41 (23 + 3 * s + t) = v) (hQ : Q (some (.int v)) I L P) : SP x M_X8_show [rfv x 40, .int (nI (s)), .int (nI (t))] I L P Q := by
  refine SP.intro [some (rfv x 40), some (.int (nI (s))), some (.int (nI (t)))] pn_X8_show (Nat.le_of_ble_eq_true rfl) rfl ?_
  refine v_aload_n 1 rfl dX8_show_0 rfl ?_
  refine v_get 4 (k := 1) 8 (rfv x 41) (by decide) rfl (by decide) (by decide) dX8_show_1 rfl fl_X8_7 rfl ?_
  refine v_bipush 6 (nI (23)) (by decide) dX8_show_4 rfl ?_
  refine v_iconst 7 (nI (3)) (by decide) dX8_show_6 rfl ?_
  refine v_iload_n 8 rfl dX8_show_7 rfl ?_
  refine v_imul 9 (nI (3 * s)) dX8_show_8 rfl (pk_mul _ _) ?_
  refine v_iadd 10 (nI (23 + (3 * s))) dX8_show_9 rfl (nI_add _ _) ?_
  refine v_iload_n 11 rfl dX8_show_10 rfl ?_
  refine v_iadd 12 (nI ((23 + (3 * s)) + t)) dX8_show_11 rfl (nI_add _ _) ?_
  refine v_iald 13 (k := (23 + (3 * s)) + t) (v) (by decide) rfl (by decide) dX8_show_12 rfl rfl (by omega) h ?_
  refine v_iret rfl dX8_show_13 ?_
  exact hQ
set_option maxHeartbeats 4000000 in
theorem sp_X3_appendTwin {x : Cx} {Q : Qt} {I : Iv} {L : Lv} {P : Pv} {f : Vw} (c : RC 1 f I) (w : Wf f) {s : Nat} (hs : s < f 0) (h4 : f 0 ≠ 4) (hQ : ∀ I1 : Iv, (∀ a, a ≠ 1 → a ≠ 2 → I1 a = I a) → RC 1 (splF f s) I1 → Q none I1 L P) : SP x M_X3_appendTwin [rfv x 1, .int (nI (s))] I L P Q := by
  have := w.n4
  have := w.m6
  obtain ⟨n, en⟩ : ∃ n, n = f 0 := ⟨_, rfl⟩
  refine SP.intro [some (rfv x 1), some (.int (nI (s))), none, none] pn_X3_appendTwin (Nat.le_of_ble_eq_true rfl) rfl ?_
  refine v_aload_n 1 rfl dX3_appendTwin_0 rfl ?_
  refine v_get 4 (k := 1) 3 (.int (nI (n))) (by decide) rfl (by decide) (by decide) dX3_appendTwin_1 rfl fl_X3_15 (congrArg Value.int (c.st.trans (congrArg nI en.symm))) ?_
  refine v_istore_n 5 [some (rfv x 1), some (.int (nI (s))), some (.int (nI (n))), none] dX3_appendTwin_4 rfl (by decide) rfl ?_
  refine v_aload_n 6 rfl dX3_appendTwin_5 rfl ?_
  refine v_dup 7 dX3_appendTwin_6 rfl rfl ?_
  refine v_get 10 (k := 1) 3 (.int (nI (n))) (by decide) rfl (by decide) (by decide) dX3_appendTwin_7 rfl fl_X3_15 (congrArg Value.int (c.st.trans (congrArg nI en.symm))) ?_
  refine v_iconst 11 (nI (1)) (by decide) dX3_appendTwin_10 rfl ?_
  refine v_iadd 12 (nI (n + 1)) dX3_appendTwin_11 rfl (nI_add _ _) ?_
  refine v_putI 15 (k := 1) 3 .int (by decide) rfl (by decide) (by decide) rfl (by decide +kernel) rfl rfl (fun _ _ => rfl) dX3_appendTwin_12 rfl fl_X3_15 (fun I12 e12 => ?_)
  refine v_aload_n 16 rfl dX3_appendTwin_15 rfl ?_
  refine v_get 19 (k := 0) 3 (rfv x 2) (by decide) rfl (by decide) (by decide) dX3_appendTwin_16 rfl fl_X3_11 rfl ?_
  refine v_iload_n 20 rfl dX3_appendTwin_19 rfl ?_
  refine v_bipush 22 (nI (8)) (by decide) dX3_appendTwin_20 rfl ?_
  refine v_imul 23 (nI (s * 8)) dX3_appendTwin_22 rfl (pk_mul _ _) ?_
  refine v_aload_n 24 rfl dX3_appendTwin_23 rfl ?_
  refine v_get 27 (k := 0) 3 (rfv x 2) (by decide) rfl (by decide) (by decide) dX3_appendTwin_24 rfl fl_X3_11 rfl ?_
  refine v_iload_n 28 rfl dX3_appendTwin_27 rfl ?_
  refine v_bipush 30 (nI (8)) (by decide) dX3_appendTwin_28 rfl ?_
  refine v_imul 31 (nI (n * 8)) dX3_appendTwin_30 rfl (pk_mul _ _) ?_
  refine v_bipush 33 (nI (8)) (by decide) dX3_appendTwin_31 rfl ?_
  refine v_acopy 36 (sp := s * 8) (dp := n * 8) (n := 8) (by decide) (by decide) rfl rfl dX3_appendTwin_33 rfl ml_X3_28 ⟨by decide, Nat.le_of_ble_eq_true rfl⟩ rfl rfl rfl ⟨by decide, by decide⟩ (by omega) (by omega) (fun I33 e33 => ?_)
  refine v_iconst 37 (nI (0)) (by decide) dX3_appendTwin_36 rfl ?_
  refine v_istore_n 38 [some (rfv x 1), some (.int (nI (s))), some (.int (nI (n))), some (.int (nI (0)))] dX3_appendTwin_37 rfl (by decide) rfl ?_
  have f0 : ∀ a q, (a ≠ 1 ∨ q ≠ 1) → a ≠ 2 → I33 a q = I a q := fun a q z1 z2 => by
    rw [e33]
    unfold cpy2
    rw [if_neg z2]
    exact up2_off e12 (by omega)
  have f1 : I33 1 1 = nI (n + 1) := by
    rw [e33]
    unfold cpy2
    rw [if_neg (by decide)]
    exact up2_at e12
  have f2 : ∀ j, j < 8 → I33 2 (n * 8 + j) = I 2 (s * 8 + j) := fun j hj => by
    rw [e33]
    unfold cpy2
    rw [if_pos rfl, if_pos (by omega), show s * 8 + (n * 8 + j - n * 8) = s * 8 + j by omega]
    exact up2_off e12 (by omega)
  have f3 : ∀ q, q < n * 8 → I33 2 q = I 2 q := fun q hq => by
    rw [e33]
    unfold cpy2
    rw [if_pos rfl, if_neg (by omega)]
    exact up2_off e12 (by omega)
  have lp : ∀ i, i ≤ n + 1 → ∀ Ij : Iv, (∀ a q, (a ≠ 1 ∨ q ≠ 1) → a ≠ 2 → Ij a q = I a q) → Ij 1 1 = nI (n + 1) → (∀ a, a < i → Ij 2 (a * 8 + 1 + n) = I 2 (tw n s a * 8 + 1 + s)) → (∀ j, j < 8 → j ≠ 1 + n → Ij 2 (n * 8 + j) = I 2 (s * 8 + j)) → (∀ q, q < n * 8 → (∀ a, a < n → q ≠ a * 8 + 1 + n) → Ij 2 q = I 2 q) → V x M_X3_appendTwin Q 38 [some (rfv x 1), some (.int (nI (s))), some (.int (nI (n))), some (.int (nI (i)))] [] Ij L P := by
    refine lpU ?_ ?_
    · intro Ij hF k1 hB hR hO
      refine v_iload_n 39 rfl dX3_appendTwin_38 rfl ?_
      refine v_aload_n 40 rfl dX3_appendTwin_39 rfl ?_
      refine v_get 43 (k := 1) 3 (.int (nI (n + 1))) (by decide) rfl (by decide) (by decide) dX3_appendTwin_40 rfl fl_X3_15 (congrArg Value.int k1) ?_
      refine v_icmpN_ge 69 46 dX3_appendTwin_43 (by decide) rfl (by omega) (by omega) (fun h43 => ?_) (fun h43 => ?_)
      · skip
        refine v_vret rfl dX3_appendTwin_69 ?_
        subst en
        refine hQ Ij (fun a z1 z2 => funext fun q => hF a q (Or.inl z1) z2) (c.laid (by omega) k1 hF (fun a ha => ?_) (fun a b ha hb => ?_) (fun a g ha hg => ?_))
        · by_cases z : a = f 0
          · rw [z, tw_n]
            exact (hR 0 (by omega) (by omega)).trans (c.b hs)
          · rw [tw_o z]
            exact (hO _ (by omega) (fun y hy => by omega)).trans (c.b (by omega))
        · by_cases z : b = f 0
          · rw [z, tw_n]
            exact (hB a ha).trans (c.g (tw_lt hs ha) hs)
          · rw [tw_o z]
            by_cases y : a = f 0
            · rw [y, tw_n]
              have h9 := hR (1 + b) (by omega) (by omega)
              rw [show f 0 * 8 + 1 + b = f 0 * 8 + (1 + b) by omega, h9, show s * 8 + (1 + b) = s * 8 + 1 + b by omega]
              exact c.g hs (by omega)
            · rw [tw_o y]
              exact (hO _ (by omega) (fun y hy => by omega)).trans (c.g (by omega) (by omega))
        · by_cases y : a = f 0
          · rw [y, tw_n]
            have h9 := hR (5 + g) (by omega) (by omega)
            rw [show f 0 * 8 + 5 + g = f 0 * 8 + (5 + g) by omega, h9, show s * 8 + (5 + g) = s * 8 + 5 + g by omega]
            exact c.w hs hg
          · rw [tw_o y]
            exact (hO _ (by omega) (fun y hy => by omega)).trans (c.w (by omega) hg)
      · skip
        exact absurd h43 (by omega)
    · intro i hi ih Ij hF k1 hB hR hO
      refine v_iload_n 39 rfl dX3_appendTwin_38 rfl ?_
      refine v_aload_n 40 rfl dX3_appendTwin_39 rfl ?_
      refine v_get 43 (k := 1) 3 (.int (nI (n + 1))) (by decide) rfl (by decide) (by decide) dX3_appendTwin_40 rfl fl_X3_15 (congrArg Value.int k1) ?_
      refine v_icmpN_ge 69 46 dX3_appendTwin_43 (by decide) rfl (by omega) (by omega) (fun h43 => ?_) (fun h43 => ?_)
      · skip
        exact absurd h43 (by omega)
      · skip
        refine v_aload_n 47 rfl dX3_appendTwin_46 rfl ?_
        refine v_get 50 (k := 0) 3 (rfv x 2) (by decide) rfl (by decide) (by decide) dX3_appendTwin_47 rfl fl_X3_11 rfl ?_
        refine v_iconst 51 (nI (1)) (by decide) dX3_appendTwin_50 rfl ?_
        refine v_iload_n 52 rfl dX3_appendTwin_51 rfl ?_
        refine v_iload_n 53 rfl dX3_appendTwin_52 rfl ?_
        refine v_invT 56 M_X3_cellOf [.int (nI (1)), .int (nI (i)), .int (nI (n))] dX3_appendTwin_53 rfl ml_X3_48 sm_X3_cellOf mc_X3_cellOf (by decide) (Nat.le_of_ble_eq_true rfl) (sp_X3_cellOf (by omega) (by omega) (by omega) ?_)
        refine v_aload_n 57 rfl dX3_appendTwin_56 rfl ?_
        refine v_iload_n 58 rfl dX3_appendTwin_57 rfl ?_
        refine v_iload_n 59 rfl dX3_appendTwin_58 rfl ?_
        have ec : cl 1 i n = i * 8 + 1 + n := rfl
        have ev : Ij 2 (i * 8 + 1 + s) = I 2 (tw n s i * 8 + 1 + s) := by
          by_cases y : i = n
          · have h9 := hR (1 + s) (by omega) (by omega)
            rw [y, tw_n, show n * 8 + 1 + s = n * 8 + (1 + s) by omega, h9, show s * 8 + (1 + s) = s * 8 + 1 + s by omega]
          · rw [tw_o y]
            exact hO _ (by omega) (fun a ha => by omega)
        refine v_invV 62 M_X3_go [.int (nI (i)), .int (nI (s))] (by decide) rfl (by decide) rfl dX3_appendTwin_59 rfl ml_X3_62 im_X3_go se_X3_go mc_X3_go (by decide) (Nat.le_of_ble_eq_true rfl) (sq_X3_go (by omega) (by omega) ev ?_)
        refine v_iast 63 (k := cl 1 i n) (I 2 (tw n s i * 8 + 1 + s)) (by decide) rfl (by decide) dX3_appendTwin_62 rfl rfl (by omega) rfl (fun I62 e62 => ?_)
        refine v_iinc 66 [some (rfv x 1), some (.int (nI (s))), some (.int (nI (n))), some (.int (nI (i + 1)))] (nI (i + 1)) dX3_appendTwin_63 rfl (by decide) rfl (nI_inc _) rfl ?_
        refine v_goto 38 dX3_appendTwin_66 (by decide) ?_
        refine v_drop [some (rfv x 1), some (.int (nI (s))), some (.int (nI (n))), some (.int (nI (i + 1)))] (by simp [lsub, smN_s]) ?_
        refine ih I62 (fun a q z1 z2 => (up2_off e62 (by omega)).trans (hF a q z1 z2)) ((up2_off e62 (by omega)).trans k1) (fun a ha => ?_) (fun j hj z => (up2_off e62 (by omega)).trans (hR j hj z)) (fun q hq z => ?_)
        · by_cases y : a = i
          · rw [y, ← ec]
            exact up2_at e62
          · exact (up2_off e62 (by omega)).trans (hB a (by omega))
        · have z9 : i < n → q ≠ i * 8 + 1 + n := fun y => z i y
          exact (up2_off e62 (by omega)).trans (hO q hq z)
  refine v_drop [some (rfv x 1), some (.int (nI (s))), some (.int (nI (n))), some (.int (nI (0)))] (by simp [lsub, smN, amN, dbW, mxN]) ?_
  exact lp 0 (Nat.zero_le _) I33 f0 f1 (fun a ha => absurd ha (Nat.not_lt_zero a)) (fun j hj _ => f2 j hj) (fun q hq _ => f3 q hq)
set_option maxHeartbeats 4000000 in
theorem sp_X7_split {x : Cx} {Q : Qt} {I : Iv} {L : Lv} {P : Pv} {f : Vw} {H : Hs} {hn sn : Nat} {g : Vw} {T : Tx} {tl : Nat} (ci : CI f H hn sn g T tl I P) (wi : WI f H hn sn g T tl) {z : Int32} (hQ : ∀ (I1 : Iv) (L1 : Lv) (P1 : Pv), (∀ a, 40 ≤ a → I1 a = I a) → CI (stF (spB f z) f (splF f (ix z))) (stH (spB f z) H hn f) (stN (spB f z) hn) sn g T tl I1 P1 → Q (some (.int (spA f z))) I1 L1 P1) : SP x M_X7_split [rfv x 0, .int (z)] I L P Q := by
  obtain ⟨c, hc, hsn, hsg, htx⟩ := id ci
  obtain ⟨w, hw, hs2, hwg, htl, hT⟩ := id wi
  have := w.n4
  have := w.m6
  have := w.n1
  refine SP.intro [some (rfv x 0), some (.int (z))] pn_X7_split (Nat.le_of_ble_eq_true rfl) rfl ?_
  refine v_aload_n 1 rfl dX7_split_0 rfl ?_
  refine v_get 4 (k := 0) 7 (rfv x 1) (by decide) rfl (by decide) (by decide) dX7_split_1 rfl fl_X7_15 rfl ?_
  refine v_iload_n 5 rfl dX7_split_4 rfl ?_
  refine v_invV 8 M_X3_hasState [.int (z)] (by decide) rfl (by decide) rfl dX7_split_5 rfl ml_X7_91 im_X3_hasState se_X3_hasState mc_X3_hasState (by decide) (Nat.le_of_ble_eq_true rfl) (sp_X3_hasState c w ?_)
  refine v_ifN_ne 13 11 dX7_split_8 (by decide) rfl (by have := inb_lt z (f 0); omega) (fun h8 => ?_) (fun h8 => ?_)
  · skip
    refine v_aload_n 14 rfl dX7_split_13 rfl ?_
    refine v_get 17 (k := 0) 7 (rfv x 1) (by decide) rfl (by decide) (by decide) dX7_split_14 rfl fl_X7_15 rfl ?_
    refine v_getN 20 (k := 1) 3 (.int (nI (f 0))) (by decide) rfl (by decide) (by decide) dX7_split_17 rfl fl_X7_84 (congrArg Value.int c.st) ?_
    refine v_iconst 21 (nI (4)) (by decide) dX7_split_20 rfl ?_
    refine v_icmpN_ne 27 24 dX7_split_21 (by decide) rfl (by omega) (by omega) (fun h21 => ?_) (fun h21 => ?_)
    · skip
      have h4 : f 0 ≠ 4 := h21
      have hz := h8
      obtain ⟨s, hs, ez⟩ := inb_1 (by omega) hz
      subst ez
      have es : ix (nI s) = s := ix_n (by omega)
      refine v_aload_n 28 rfl dX7_split_27 rfl ?_
      refine v_get 31 (k := 3) 7 (rfv x 9) (by decide) rfl (by decide) (by decide) dX7_split_28 rfl fl_X7_27 rfl ?_
      refine v_aload_n 32 rfl dX7_split_31 rfl ?_
      refine v_get 35 (k := 0) 7 (rfv x 1) (by decide) rfl (by decide) (by decide) dX7_split_32 rfl fl_X7_15 rfl ?_
      refine v_invV 38 M_X1_record [rfv x 1] (by decide) rfl (by decide) rfl dX7_split_35 rfl ml_X7_81 im_X1_record se_X1_record mc_X1_record (by decide) (Nat.le_of_ble_eq_true rfl) (sp_X1_record hc c w (fun Ir Pr fr hcr => ?_))
      have c1 : RC 1 f Ir := c.same (fun a _ _ => fr a (by omega))
      refine v_aload_n 39 rfl dX7_split_38 rfl ?_
      refine v_get 42 (k := 0) 7 (rfv x 1) (by decide) rfl (by decide) (by decide) dX7_split_39 rfl fl_X7_15 rfl ?_
      refine v_iload_n 43 rfl dX7_split_42 rfl ?_
      refine v_invV 46 M_X3_appendTwin [.int (nI (s))] (by decide) rfl (by decide) rfl dX7_split_43 rfl ml_X7_94 im_X3_appendTwin se_X3_appendTwin mc_X3_appendTwin (by decide) (Nat.le_of_ble_eq_true rfl) (sp_X3_appendTwin c1 w hs h4 (fun Ia fa ca => ?_))
      refine v_aload_n 47 rfl dX7_split_46 rfl ?_
      refine v_get 50 (k := 0) 7 (rfv x 1) (by decide) rfl (by decide) (by decide) dX7_split_47 rfl fl_X7_15 rfl ?_
      refine v_getN 53 (k := 1) 3 (.int (nI (f 0 + 1))) (by decide) rfl (by decide) (by decide) dX7_split_50 rfl fl_X7_84 (congrArg Value.int ca.st) ?_
      refine v_iconst 54 (nI (1)) (by decide) dX7_split_53 rfl ?_
      refine v_isub 55 (nI (f 0)) dX7_split_54 rfl (nI_pred (f 0)) ?_
      refine v_iret rfl dX7_split_55 ?_
      refine qZ (hQ Ia L Pr (fun a ha => (fa a (by omega) (by omega)).trans (fr a (by omega))) ?_) (by rw [spA, if_neg hz, if_neg h4])
      rw [show spB f (nI s) = true by rw [spB, if_neg hz, if_neg h4], es]
      refine ⟨ca, hcr.same (fun a _ _ => fa a (by omega) (by omega)), ?_, fun e => ?_, ?_, fun i hi => ?_⟩
      · rw [fa 0 (by decide) (by decide), fr 0 (by omega)]
        exact hsn
      · exact (hsg e).same (fun a _ _ => (fa a (by omega) (by omega)).trans (fr a (by omega)))
      · rw [fa 27 (by decide) (by decide), fr 27 (by omega)]
        exact htx.1
      · rw [fa 28 (by decide) (by decide), fr 28 (by omega)]
        exact htx.2 i hi
    · skip
      refine v_bipush 26 ((-3)) (by decide) dX7_split_24 rfl ?_
      refine v_iret rfl dX7_split_26 ?_
      refine qZ (hQ I L P (fun _ _ => rfl) ?_) (by rw [spA, if_neg h8, if_pos h21])
      simp only [spB, if_neg h8, if_pos h21]
      exact ci
  · skip
    refine v_iconst 12 ((-1)) (by decide) dX7_split_11 rfl ?_
    refine v_iret rfl dX7_split_12 ?_
    refine qZ (hQ I L P (fun _ _ => rfl) ?_) (by rw [spA, if_pos h8])
    simp only [spB, if_pos h8]
    exact ci
