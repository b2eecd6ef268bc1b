/-! learning, the reference: its counts; places with D are through -/
def LV (f : Vw) (D : Nat → Prop) (a : Nat → Nat) (k : Nat) (L : Lv) : Prop := ∀ p c, PC f p c → (D p → L 50 (p - 3) = lN (a p + shA f k p)) ∧ (¬ D p → L 50 (p - 3) = lN (a p))
theorem LV.mono {f : Vw} {D D1 : Nat → Prop} {a : Nat → Nat} {k : Nat} {L : Lv} (h : LV f D a k L) (e : ∀ p c, PC f p c → (D1 p ↔ D p)) : LV f D1 a k L := fun p c hp => ⟨fun q => (h p c hp).1 ((e p c hp).mp q), fun q => (h p c hp).2 (fun y => q ((e p c hp).mpr y))⟩
theorem LV.at0 {f : Vw} {D : Nat → Prop} {a : Nat → Nat} {k : Nat} {L : Lv} (h : LV f D a k L) {p c q : Nat} (hp : PC f p c) (hq : q = p - 3) (hD : ¬ D p) : L 50 q = lN (a p) := by
  rw [hq]
  exact (h p c hp).2 hD
theorem LV.step {f : Vw} {D : Nat → Prop} {a : Nat → Nat} {k : Nat} {L L1 : Lv} (h : LV f D a k L) (w : Wf f) {p0 c0 q0 v : Nat} (hp : PC f p0 c0) (hq : q0 = p0 - 3) (e : L1 = up2 L 50 q0 (lN v)) (hv : v = a p0 + shA f k p0) : LV f (fun p => D p ∨ p = p0) a k L1 := fun p c hpc => by
  have h1 := hp.lt w
  have h2 := hpc.lt w
  by_cases y : p = p0
  · refine ⟨fun _ => ?_, fun z => absurd (Or.inr y) z⟩
    rw [y, ← hv, ← hq]
    exact up2_at e
  · have hc : L1 50 (p - 3) = L 50 (p - 3) := up2_off e (by omega)
    exact ⟨fun z => hc.trans ((h p c hpc).1 (z.resolve_right y)), fun z => hc.trans ((h p c hpc).2 (fun q => z (Or.inl q)))⟩
def Dv (v p : Nat) : Prop := (3 ≤ p ∧ p < 7 ∧ p < 3 + v) ∨ (7 ≤ p ∧ p < 23 ∧ p < 7 + 4 * v) ∨ (23 ≤ p ∧ p < 23 + 3 * v)
def Dg (i t p : Nat) : Prop := (3 ≤ p ∧ p < 7 ∧ p < 3 + (i + 1)) ∨ (7 ≤ p ∧ p < 23 ∧ p < 7 + 4 * i + t) ∨ (23 ≤ p ∧ p < 23 + 3 * i)
def Dh (i t p : Nat) : Prop := (3 ≤ p ∧ p < 7 ∧ p < 3 + (i + 1)) ∨ (7 ≤ p ∧ p < 23 ∧ p < 7 + 4 * (i + 1)) ∨ (23 ≤ p ∧ p < 23 + 3 * i + t)
theorem UM.same {f : Vw} {k : Nat} {L L1 : Lv} (um : UM f k L) (e : ∀ b, b ≠ 50 → L1 b = L b) : UM f k L1 := by
  unfold UM at um ⊢
  rw [e 46 (by decide), e 47 (by decide), e 48 (by decide), e 49 (by decide)]
  exact um
theorem sh_31 {a t : Nat} (h : a ≤ 7 * t) : shN a t < 2147483648 := by
  have := shN_le (c := 7) h
  omega
set_option maxHeartbeats 4000000 in
theorem sp_X8_counts {x : Cx} {Q : Qt} {I : Iv} {L : Lv} {P : Pv} {f : Vw} (r : RR (I 41) f) (w : Wf f) {k : Nat} (hk : k < f 1) (um : UM f k L) (h0 : 0 < totW f k) {a : Nat → Nat} (hI : ∀ p c, PC f p c → L 50 (p - 3) = lN (a p)) (hQ : ∀ L1 : Lv, (∀ b, b ≠ 50 → L1 b = L b) → (∀ p c, PC f p c → L1 50 (p - 3) = lN (a p + shA f k p)) → Q none I L1 P) : SP x M_X8_counts [rfv x 40, .int (nI (k)), .long (lN (totW f k))] I L P Q := by
  have := w.n4
  have := w.n1
  have := w.m6
  have hT := totW_le w hk
  have hP := w.p hk
  refine SP.intro [some (rfv x 40), some (.int (nI (k))), some (.long (lN (totW f k))), none, none, none, none, none, none] pn_X8_counts (Nat.le_of_ble_eq_true rfl) rfl ?_
  refine v_iconst 1 (nI (0)) (by decide) dX8_counts_0 rfl ?_
  refine v_istore 3 [some (rfv x 40), some (.int (nI (k))), some (.long (lN (totW f k))), none, some (.int (nI (0))), none, none, none, none] dX8_counts_1 rfl (by decide) rfl ?_
  have lp : ∀ i, i ≤ f 0 → ∀ Lj : Lv, (∀ b, b ≠ 50 → Lj b = L b) → LV f (Dv i) a k Lj → V x M_X8_counts Q 3 [some (rfv x 40), some (.int (nI (k))), some (.long (lN (totW f k))), none, some (.int (nI (i))), none, none, none, none] [] I Lj P := by
    refine lpU ?_ ?_
    · intro Lj hF lv
      refine v_iload 5 rfl dX8_counts_3 rfl ?_
      refine v_aload_n 6 rfl dX8_counts_5 rfl ?_
      refine v_get 9 (k := 1) 8 (rfv x 41) (by decide) rfl (by decide) (by decide) dX8_counts_6 rfl fl_X8_7 rfl ?_
      refine v_iconst 10 (nI (0)) (by decide) dX8_counts_9 rfl ?_
      refine v_iald 11 (k := 0) (nI (f 0)) (by decide) rfl (by decide) dX8_counts_10 rfl rfl (by omega) r.st ?_
      refine v_icmpN_ge 245 14 dX8_counts_11 (by decide) rfl (by omega) (by omega) (fun h11 => ?_) (fun h11 => ?_)
      · skip
        refine v_vret rfl dX8_counts_245 ?_
        refine hQ Lj hF (fun q c h => (lv q c h).1 ?_)
        rcases h with ⟨s, hs, e, _⟩ | ⟨s, t, hs, ht, e, _⟩ | ⟨s, t, hs, ht, e, _⟩ <;> (unfold Dv; omega)
      · skip
        exact absurd h11 (by omega)
    · intro i hi ih Lj hF lv
      have umj := um.same hF
      have hw1 : wtW f k 0 i ≤ 7 * totW f k := by
        have := wt_tot (k := k) (p := 0) w (by omega) hi
        omega
      have hs1 := sh_31 hw1
      have e1 : shN (wtW f k 0 i) (totW f k) = shA f k (3 + i) := by rw [shA, wA_b (by omega)]
      refine v_iload 5 rfl dX8_counts_3 rfl ?_
      refine v_aload_n 6 rfl dX8_counts_5 rfl ?_
      refine v_get 9 (k := 1) 8 (rfv x 41) (by decide) rfl (by decide) (by decide) dX8_counts_6 rfl fl_X8_7 rfl ?_
      refine v_iconst 10 (nI (0)) (by decide) dX8_counts_9 rfl ?_
      refine v_iald 11 (k := 0) (nI (f 0)) (by decide) rfl (by decide) dX8_counts_10 rfl rfl (by omega) r.st ?_
      refine v_icmpN_ge 245 14 dX8_counts_11 (by decide) rfl (by omega) (by omega) (fun h11 => ?_) (fun h11 => ?_)
      · skip
        exact absurd h11 (by omega)
      · skip
        refine v_aload_n 15 rfl dX8_counts_14 rfl ?_
        refine v_get 18 (k := 13) 8 (rfv x 50) (by decide) rfl (by decide) (by decide) dX8_counts_15 rfl fl_X8_38 rfl ?_
        refine v_iload 20 rfl dX8_counts_18 rfl ?_
        refine v_dup2 21 dX8_counts_20 rfl rfl rfl ?_
        refine v_lald 22 (k := i) (lN (a (3 + i))) (by decide) rfl (by decide) dX8_counts_21 rfl rfl (by omega) (lv.at0 (p := 3 + i) (Or.inl ⟨i, hi, rfl, rfl⟩) (by omega) (by unfold Dv; omega)) ?_
        refine v_aload_n 23 rfl dX8_counts_22 rfl ?_
        refine v_iconst 24 (nI (0)) (by decide) dX8_counts_23 rfl ?_
        refine v_iload 26 rfl dX8_counts_24 rfl ?_
        refine v_invV 29 M_X8_weightAt [.int (nI (0)), .int (nI (i))] (by decide) rfl (by decide) rfl dX8_counts_26 rfl ml_X8_87 im_X8_weightAt se_X8_weightAt mc_X8_weightAt (by decide) (Nat.le_of_ble_eq_true rfl) (sp_X8_weightAt r w hk umj (by omega) hi ?_)
        refine v_lload_n 30 rfl dX8_counts_29 rfl ?_
        refine v_invT 33 M_X8_shareOf [.long (lN (wtW f k 0 i)), .long (lN (totW f k))] dX8_counts_30 rfl ml_X8_143 sm_X8_shareOf mc_X8_shareOf (by decide) (Nat.le_of_ble_eq_true rfl) (sp_X8_shareOf h0 (by omega) (by omega) ?_)
        refine v_i2l 34 (lN (shN (wtW f k 0 i) (totW f k))) dX8_counts_33 rfl (nI_l hs1) ?_
        refine v_ladd 35 (lN ((a (3 + i)) + (shN (wtW f k 0 i) (totW f k)))) dX8_counts_34 rfl (lN_add _ _) ?_
        refine v_last 36 (k := i) (by decide) rfl (by decide) dX8_counts_35 rfl rfl (by omega) (fun L35 e35 => ?_)
        have l35 : LV f (Dg i 0) a k L35 := (lv.step w (p0 := 3 + i) (Or.inl ⟨i, hi, rfl, rfl⟩) (by omega) e35 (by rw [e1])).mono (fun q c h => by have := h.lt w; unfold Dg Dv; omega)
        have f35 : ∀ b, b ≠ 50 → L35 b = L b := fun b h => (up2_row e35 h).trans (hF b h)
        refine v_iconst 37 (nI (0)) (by decide) dX8_counts_36 rfl ?_
        refine v_istore 39 [some (rfv x 40), some (.int (nI (k))), some (.long (lN (totW f k))), none, some (.int (nI (i))), some (.int (nI (0))), none, none, none] dX8_counts_37 rfl (by decide) rfl ?_
        have lq : ∀ t, t ≤ f 0 → ∀ Lk : Lv, (∀ b, b ≠ 50 → Lk b = L b) → LV f (Dg i t) a k Lk → V x M_X8_counts Q 39 [some (rfv x 40), some (.int (nI (k))), some (.long (lN (totW f k))), none, some (.int (nI (i))), some (.int (nI (t))), none, none, none] [] I Lk P := by
          refine lpU ?_ ?_
          · intro Lk gF lk
            refine v_iload 41 rfl dX8_counts_39 rfl ?_
            refine v_aload_n 42 rfl dX8_counts_41 rfl ?_
            refine v_get 45 (k := 1) 8 (rfv x 41) (by decide) rfl (by decide) (by decide) dX8_counts_42 rfl fl_X8_7 rfl ?_
            refine v_iconst 46 (nI (0)) (by decide) dX8_counts_45 rfl ?_
            refine v_iald 47 (k := 0) (nI (f 0)) (by decide) rfl (by decide) dX8_counts_46 rfl rfl (by omega) r.st ?_
            refine v_icmpN_ge 148 50 dX8_counts_47 (by decide) rfl (by omega) (by omega) (fun h47 => ?_) (fun h47 => ?_)
            · skip
              refine v_iconst 149 (nI (0)) (by decide) dX8_counts_148 rfl ?_
              refine v_istore 151 [some (rfv x 40), some (.int (nI (k))), some (.long (lN (totW f k))), none, some (.int (nI (i))), some (.int (nI (0))), none, none, none] dX8_counts_149 rfl (by decide) rfl ?_
              have lr : ∀ g, g ≤ 3 → ∀ Lm : Lv, (∀ b, b ≠ 50 → Lm b = L b) → LV f (Dh i g) a k Lm → V x M_X8_counts Q 151 [some (rfv x 40), some (.int (nI (k))), some (.long (lN (totW f k))), none, some (.int (nI (i))), some (.int (nI (g))), none, none, none] [] I Lm P := by
                refine lpU ?_ ?_
                · intro Lm mF9 lm
                  refine v_iload 153 rfl dX8_counts_151 rfl ?_
                  refine v_iconst 154 (nI (3)) (by decide) dX8_counts_153 rfl ?_
                  refine v_icmpN_ge 239 157 dX8_counts_154 (by decide) rfl (by omega) (by omega) (fun h154 => ?_) (fun h154 => ?_)
                  · skip
                    refine v_iinc 242 [some (rfv x 40), some (.int (nI (k))), some (.long (lN (totW f k))), none, some (.int (nI (i + 1))), some (.int (nI (3))), none, none, none] (nI (i + 1)) dX8_counts_239 rfl (by decide) rfl (nI_inc _) rfl ?_
                    refine v_goto 3 dX8_counts_242 (by decide) ?_
                    refine v_drop [some (rfv x 40), some (.int (nI (k))), some (.long (lN (totW f k))), none, some (.int (nI (i + 1))), none, none, none, none] (by simp [lsub, smN_s]) ?_
                    exact ih Lm mF9 (lm.mono (fun q c h => by have := h.lt w; unfold Dh Dv; omega))
                  · skip
                    exact absurd h154 (by omega)
                · intro g hg ih Lm mF9 lm
                  have umm := um.same mF9
                  have hw3 := shW_le (g := g) w hk hi
                  have hs3 := sh_31 hw3
                  have e3 : shN (shW f k i g) (totW f k) = shA f k (23 + 3 * i + g) := by rw [shA, wA_s (by omega) hg]
                  refine v_iload 153 rfl dX8_counts_151 rfl ?_
                  refine v_iconst 154 (nI (3)) (by decide) dX8_counts_153 rfl ?_
                  refine v_icmpN_ge 239 157 dX8_counts_154 (by decide) rfl (by omega) (by omega) (fun h154 => ?_) (fun h154 => ?_)
                  · skip
                    exact absurd h154 (by omega)
                  · skip
                    refine v_lconst 158 (lN (0)) rfl dX8_counts_157 rfl ?_
                    refine v_lstore 160 [some (rfv x 40), some (.int (nI (k))), some (.long (lN (totW f k))), none, some (.int (nI (i))), some (.int (nI (g))), some (.long (lN (0))), none, none] dX8_counts_158 rfl (by decide) rfl ?_
                    refine v_iconst 161 (nI (0)) (by decide) dX8_counts_160 rfl ?_
                    refine v_istore 163 [some (rfv x 40), some (.int (nI (k))), some (.long (lN (totW f k))), none, some (.int (nI (i))), some (.int (nI (g))), some (.long (lN (0))), none, some (.int (nI (0)))] dX8_counts_161 rfl (by decide) rfl ?_
                    have li : ∀ u, u ≤ nP f k → V x M_X8_counts Q 163 [some (rfv x 40), some (.int (nI (k))), some (.long (lN (totW f k))), none, some (.int (nI (i))), some (.int (nI (g))), some (.long (lN (smN u (fun p => if sG f k p = g then wtW f k p i else 0)))), none, some (.int (nI (u)))] [] I Lm P := by
                      refine lpU ?_ ?_
                      · skip
                        refine v_iload 165 rfl dX8_counts_163 rfl ?_
                        refine v_aload_n 166 rfl dX8_counts_165 rfl ?_
                        refine v_iload_n 167 rfl dX8_counts_166 rfl ?_
                        refine v_invV 170 M_X8_placesOf [.int (nI (k))] (by decide) rfl (by decide) rfl dX8_counts_167 rfl ml_X8_65 im_X8_placesOf se_X8_placesOf mc_X8_placesOf (by decide) (Nat.le_of_ble_eq_true rfl) (sp_X8_placesOf r w (by omega) ?_)
                        refine v_icmpN_ge 208 173 dX8_counts_170 (by decide) rfl (by omega) (by omega) (fun h170 => ?_) (fun h170 => ?_)
                        · skip
                          refine v_aload_n 209 rfl dX8_counts_208 rfl ?_
                          refine v_get 212 (k := 13) 8 (rfv x 50) (by decide) rfl (by decide) (by decide) dX8_counts_209 rfl fl_X8_38 rfl ?_
                          refine v_bipush 214 (nI (20)) (by decide) dX8_counts_212 rfl ?_
                          refine v_iconst 215 (nI (3)) (by decide) dX8_counts_214 rfl ?_
                          refine v_iload 217 rfl dX8_counts_215 rfl ?_
                          refine v_imul 218 (nI (3 * i)) dX8_counts_217 rfl (pk_mul _ _) ?_
                          refine v_iadd 219 (nI (20 + (3 * i))) dX8_counts_218 rfl (nI_add _ _) ?_
                          refine v_iload 221 rfl dX8_counts_219 rfl ?_
                          refine v_iadd 222 (nI ((20 + (3 * i)) + g)) dX8_counts_221 rfl (nI_add _ _) ?_
                          refine v_dup2 223 dX8_counts_222 rfl rfl rfl ?_
                          refine v_lald 224 (k := (20 + (3 * i)) + g) (lN (a (23 + 3 * i + g))) (by decide) rfl (by decide) dX8_counts_223 rfl rfl (by omega) (lm.at0 (p := 23 + 3 * i + g) (Or.inr (Or.inr ⟨i, g, hi, hg, rfl, rfl⟩)) (by omega) (by unfold Dh; omega)) ?_
                          refine v_lload 226 rfl dX8_counts_224 rfl ?_
                          refine v_lload_n 227 rfl dX8_counts_226 rfl ?_
                          refine v_invT 230 M_X8_shareOf [.long (lN (smN (nP f k) (fun p => if sG f k p = g then wtW f k p i else 0))), .long (lN (totW f k))] dX8_counts_227 rfl ml_X8_143 sm_X8_shareOf mc_X8_shareOf (by decide) (Nat.le_of_ble_eq_true rfl) (sp_X8_shareOf (a := shW f k i g) h0 (by omega) (by omega) ?_)
                          refine v_i2l 231 (lN (shN (shW f k i g) (totW f k))) dX8_counts_230 rfl (nI_l hs3) ?_
                          refine v_ladd 232 (lN ((a (23 + 3 * i + g)) + (shN (shW f k i g) (totW f k)))) dX8_counts_231 rfl (lN_add _ _) ?_
                          refine v_last 233 (k := (20 + (3 * i)) + g) (by decide) rfl (by decide) dX8_counts_232 rfl rfl (by omega) (fun L232 e232 => ?_)
                          refine v_iinc 236 [some (rfv x 40), some (.int (nI (k))), some (.long (lN (totW f k))), none, some (.int (nI (i))), some (.int (nI (g + 1))), some (.long (lN (smN (nP f k) (fun p => if sG f k p = g then wtW f k p i else 0)))), none, some (.int (nI (nP f k)))] (nI (g + 1)) dX8_counts_233 rfl (by decide) rfl (nI_inc _) rfl ?_
                          refine v_goto 151 dX8_counts_236 (by decide) ?_
                          refine v_drop [some (rfv x 40), some (.int (nI (k))), some (.long (lN (totW f k))), none, some (.int (nI (i))), some (.int (nI (g + 1))), none, none, none] (by simp [lsub, smN_s]) ?_
                          exact ih L232 (fun b h => (up2_row e232 h).trans (mF9 b h)) ((lm.step w (p0 := 23 + 3 * i + g) (Or.inr (Or.inr ⟨i, g, hi, hg, rfl, rfl⟩)) (by omega) e232 (by rw [e3])).mono (fun q c h => by have := h.lt w; unfold Dh; omega))
                        · skip
                          exact absurd h170 (by omega)
                      · intro u hu ih 
                        have := w.s hk hu
                        refine v_iload 165 rfl dX8_counts_163 rfl ?_
                        refine v_aload_n 166 rfl dX8_counts_165 rfl ?_
                        refine v_iload_n 167 rfl dX8_counts_166 rfl ?_
                        refine v_invV 170 M_X8_placesOf [.int (nI (k))] (by decide) rfl (by decide) rfl dX8_counts_167 rfl ml_X8_65 im_X8_placesOf se_X8_placesOf mc_X8_placesOf (by decide) (Nat.le_of_ble_eq_true rfl) (sp_X8_placesOf r w (by omega) ?_)
                        refine v_icmpN_ge 208 173 dX8_counts_170 (by decide) rfl (by omega) (by omega) (fun h170 => ?_) (fun h170 => ?_)
                        · skip
                          exact absurd h170 (by omega)
                        · skip
                          refine v_lload 175 rfl dX8_counts_173 rfl ?_
                          refine v_aload_n 176 rfl dX8_counts_175 rfl ?_
                          refine v_iload_n 177 rfl dX8_counts_176 rfl ?_
                          refine v_iload 179 rfl dX8_counts_177 rfl ?_
                          refine v_invV 182 M_X8_signAt [.int (nI (k)), .int (nI (u))] (by decide) rfl (by decide) rfl dX8_counts_179 rfl ml_X8_69 im_X8_signAt se_X8_signAt mc_X8_signAt (by decide) (Nat.le_of_ble_eq_true rfl) (sp_X8_signAt r w (by omega) (by omega) ?_)
                          refine v_iload 184 rfl dX8_counts_182 rfl ?_
                          refine v_icmpN_ne 198 187 dX8_counts_184 (by decide) rfl (by omega) (by omega) (fun h184 => ?_) (fun h184 => ?_)
                          · skip
                            refine v_lconst 199 (lN (0)) rfl dX8_counts_198 rfl ?_
                            refine v_ladd 200 (lN ((smN u (fun p => if sG f k p = g then wtW f k p i else 0)) + 0)) dX8_counts_199 rfl (lN_add _ _) ?_
                            refine v_lstore 202 [some (rfv x 40), some (.int (nI (k))), some (.long (lN (totW f k))), none, some (.int (nI (i))), some (.int (nI (g))), some (.long (lN ((smN u (fun p => if sG f k p = g then wtW f k p i else 0)) + 0))), none, some (.int (nI (u)))] dX8_counts_200 rfl (by decide) rfl ?_
                            refine v_iinc 205 [some (rfv x 40), some (.int (nI (k))), some (.long (lN (totW f k))), none, some (.int (nI (i))), some (.int (nI (g))), some (.long (lN ((smN u (fun p => if sG f k p = g then wtW f k p i else 0)) + 0))), none, some (.int (nI (u + 1)))] (nI (u + 1)) dX8_counts_202 rfl (by decide) rfl (nI_inc _) rfl ?_
                            refine v_goto 163 dX8_counts_205 (by decide) ?_
                            refine v_drop [some (rfv x 40), some (.int (nI (k))), some (.long (lN (totW f k))), none, some (.int (nI (i))), some (.int (nI (g))), some (.long (lN (smN (u + 1) (fun p => if sG f k p = g then wtW f k p i else 0)))), none, some (.int (nI (u + 1)))] (by simp [lsub, smN_s, h184]) ?_
                            exact ih
                          · skip
                            refine v_aload_n 188 rfl dX8_counts_187 rfl ?_
                            refine v_iload 190 rfl dX8_counts_188 rfl ?_
                            refine v_iload 192 rfl dX8_counts_190 rfl ?_
                            refine v_invV 195 M_X8_weightAt [.int (nI (u)), .int (nI (i))] (by decide) rfl (by decide) rfl dX8_counts_192 rfl ml_X8_87 im_X8_weightAt se_X8_weightAt mc_X8_weightAt (by decide) (Nat.le_of_ble_eq_true rfl) (sp_X8_weightAt r w hk umm (by omega) hi ?_)
                            refine v_goto 199 dX8_counts_195 (by decide) ?_
                            refine v_ladd 200 (lN ((smN u (fun p => if sG f k p = g then wtW f k p i else 0)) + (wtW f k u i))) dX8_counts_199 rfl (lN_add _ _) ?_
                            refine v_lstore 202 [some (rfv x 40), some (.int (nI (k))), some (.long (lN (totW f k))), none, some (.int (nI (i))), some (.int (nI (g))), some (.long (lN ((smN u (fun p => if sG f k p = g then wtW f k p i else 0)) + (wtW f k u i)))), none, some (.int (nI (u)))] dX8_counts_200 rfl (by decide) rfl ?_
                            refine v_iinc 205 [some (rfv x 40), some (.int (nI (k))), some (.long (lN (totW f k))), none, some (.int (nI (i))), some (.int (nI (g))), some (.long (lN ((smN u (fun p => if sG f k p = g then wtW f k p i else 0)) + (wtW f k u i)))), none, some (.int (nI (u + 1)))] (nI (u + 1)) dX8_counts_202 rfl (by decide) rfl (nI_inc _) rfl ?_
                            refine v_goto 163 dX8_counts_205 (by decide) ?_
                            refine v_drop [some (rfv x 40), some (.int (nI (k))), some (.long (lN (totW f k))), none, some (.int (nI (i))), some (.int (nI (g))), some (.long (lN (smN (u + 1) (fun p => if sG f k p = g then wtW f k p i else 0)))), none, some (.int (nI (u + 1)))] (by simp [lsub, smN_s, h184]) ?_
                            exact ih
                    refine v_drop [some (rfv x 40), some (.int (nI (k))), some (.long (lN (totW f k))), none, some (.int (nI (i))), some (.int (nI (g))), some (.long (lN (smN 0 (fun p => if sG f k p = g then wtW f k p i else 0)))), none, some (.int (nI (0)))] (by simp [lsub, smN]) ?_
                    exact li 0 (Nat.zero_le _)
              refine v_drop [some (rfv x 40), some (.int (nI (k))), some (.long (lN (totW f k))), none, some (.int (nI (i))), some (.int (nI (0))), none, none, none] (by simp [lsub, smN, amN, dbW, mxN]) ?_
              exact lr 0 (Nat.zero_le _) Lk gF (lk.mono (fun q c h => by
                rcases h with ⟨s, hs, e, _⟩ | ⟨s, t, hs, ht, e, _⟩ | ⟨s, t, hs, ht, e, _⟩ <;> (unfold Dg Dh; omega)))
            · skip
              exact absurd h47 (by omega)
          · intro t ht ih Lk gF lk
            have umk := um.same gF
            have hw2 := goW_le w hk hi ht
            have hs2 := sh_31 hw2
            have e2 : shN (goW f k i t) (totW f k) = shA f k (7 + 4 * i + t) := by rw [shA, wA_g (by omega) (by omega)]
            refine v_iload 41 rfl dX8_counts_39 rfl ?_
            refine v_aload_n 42 rfl dX8_counts_41 rfl ?_
            refine v_get 45 (k := 1) 8 (rfv x 41) (by decide) rfl (by decide) (by decide) dX8_counts_42 rfl fl_X8_7 rfl ?_
            refine v_iconst 46 (nI (0)) (by decide) dX8_counts_45 rfl ?_
            refine v_iald 47 (k := 0) (nI (f 0)) (by decide) rfl (by decide) dX8_counts_46 rfl rfl (by omega) r.st ?_
            refine v_icmpN_ge 148 50 dX8_counts_47 (by decide) rfl (by omega) (by omega) (fun h47 => ?_) (fun h47 => ?_)
            · skip
              exact absurd h47 (by omega)
            · skip
              refine v_lconst 51 (lN (0)) rfl dX8_counts_50 rfl ?_
              refine v_lstore 53 [some (rfv x 40), some (.int (nI (k))), some (.long (lN (totW f k))), none, some (.int (nI (i))), some (.int (nI (t))), some (.long (lN (0))), none, none] dX8_counts_51 rfl (by decide) rfl ?_
              refine v_iconst 54 (nI (0)) (by decide) dX8_counts_53 rfl ?_
              refine v_istore 56 [some (rfv x 40), some (.int (nI (k))), some (.long (lN (totW f k))), none, some (.int (nI (i))), some (.int (nI (t))), some (.long (lN (0))), none, some (.int (nI (0)))] dX8_counts_54 rfl (by decide) rfl ?_
              have li : ∀ u, u ≤ (nP f k - 1) → V x M_X8_counts Q 56 [some (rfv x 40), some (.int (nI (k))), some (.long (lN (totW f k))), none, some (.int (nI (i))), some (.int (nI (t))), some (.long (lN (smN u (fun p => upW f k p i * stW f k p i t * bhW f k (p + 1) t)))), none, some (.int (nI (u)))] [] I Lk P := by
                refine lpU ?_ ?_
                · skip
                  refine v_iload 58 rfl dX8_counts_56 rfl ?_
                  refine v_aload_n 59 rfl dX8_counts_58 rfl ?_
                  refine v_iload_n 60 rfl dX8_counts_59 rfl ?_
                  refine v_invV 63 M_X8_placesOf [.int (nI (k))] (by decide) rfl (by decide) rfl dX8_counts_60 rfl ml_X8_65 im_X8_placesOf se_X8_placesOf mc_X8_placesOf (by decide) (Nat.le_of_ble_eq_true rfl) (sp_X8_placesOf r w (by omega) ?_)
                  refine v_iconst 64 (nI (1)) (by decide) dX8_counts_63 rfl ?_
                  refine v_isub 65 (nI ((nP f k) - 1)) dX8_counts_64 rfl (pk_sub (by omega)) ?_
                  refine v_icmpN_ge 118 68 dX8_counts_65 (by decide) rfl (by omega) (by omega) (fun h65 => ?_) (fun h65 => ?_)
                  · skip
                    refine v_aload_n 119 rfl dX8_counts_118 rfl ?_
                    refine v_get 122 (k := 13) 8 (rfv x 50) (by decide) rfl (by decide) (by decide) dX8_counts_119 rfl fl_X8_38 rfl ?_
                    refine v_iconst 123 (nI (4)) (by decide) dX8_counts_122 rfl ?_
                    refine v_iconst 124 (nI (4)) (by decide) dX8_counts_123 rfl ?_
                    refine v_iload 126 rfl dX8_counts_124 rfl ?_
                    refine v_imul 127 (nI (4 * i)) dX8_counts_126 rfl (pk_mul _ _) ?_
                    refine v_iadd 128 (nI (4 + (4 * i))) dX8_counts_127 rfl (nI_add _ _) ?_
                    refine v_iload 130 rfl dX8_counts_128 rfl ?_
                    refine v_iadd 131 (nI ((4 + (4 * i)) + t)) dX8_counts_130 rfl (nI_add _ _) ?_
                    refine v_dup2 132 dX8_counts_131 rfl rfl rfl ?_
                    refine v_lald 133 (k := (4 + (4 * i)) + t) (lN (a (7 + 4 * i + t))) (by decide) rfl (by decide) dX8_counts_132 rfl rfl (by omega) (lk.at0 (p := 7 + 4 * i + t) (Or.inr (Or.inl ⟨i, t, hi, ht, rfl, rfl⟩)) (by omega) (by unfold Dg; omega)) ?_
                    refine v_lload 135 rfl dX8_counts_133 rfl ?_
                    refine v_lload_n 136 rfl dX8_counts_135 rfl ?_
                    refine v_invT 139 M_X8_shareOf [.long (lN (smN ((nP f k - 1)) (fun p => upW f k p i * stW f k p i t * bhW f k (p + 1) t))), .long (lN (totW f k))] dX8_counts_136 rfl ml_X8_143 sm_X8_shareOf mc_X8_shareOf (by decide) (Nat.le_of_ble_eq_true rfl) (sp_X8_shareOf (a := goW f k i t) h0 (by omega) (by omega) ?_)
                    refine v_i2l 140 (lN (shN (goW f k i t) (totW f k))) dX8_counts_139 rfl (nI_l hs2) ?_
                    refine v_ladd 141 (lN ((a (7 + 4 * i + t)) + (shN (goW f k i t) (totW f k)))) dX8_counts_140 rfl (lN_add _ _) ?_
                    refine v_last 142 (k := (4 + (4 * i)) + t) (by decide) rfl (by decide) dX8_counts_141 rfl rfl (by omega) (fun L141 e141 => ?_)
                    refine v_iinc 145 [some (rfv x 40), some (.int (nI (k))), some (.long (lN (totW f k))), none, some (.int (nI (i))), some (.int (nI (t + 1))), some (.long (lN (smN ((nP f k - 1)) (fun p => upW f k p i * stW f k p i t * bhW f k (p + 1) t)))), none, some (.int (nI ((nP f k - 1))))] (nI (t + 1)) dX8_counts_142 rfl (by decide) rfl (nI_inc _) rfl ?_
                    refine v_goto 39 dX8_counts_145 (by decide) ?_
                    refine v_drop [some (rfv x 40), some (.int (nI (k))), some (.long (lN (totW f k))), none, some (.int (nI (i))), some (.int (nI (t + 1))), none, none, none] (by simp [lsub, smN_s]) ?_
                    exact ih L141 (fun b h => (up2_row e141 h).trans (gF b h)) ((lk.step w (p0 := 7 + 4 * i + t) (Or.inr (Or.inl ⟨i, t, hi, ht, rfl, rfl⟩)) (by omega) e141 (by rw [e2])).mono (fun q c h => by have := h.lt w; unfold Dg; omega))
                  · skip
                    exact absurd h65 (by omega)
                · intro u hu ih 
                  refine v_iload 58 rfl dX8_counts_56 rfl ?_
                  refine v_aload_n 59 rfl dX8_counts_58 rfl ?_
                  refine v_iload_n 60 rfl dX8_counts_59 rfl ?_
                  refine v_invV 63 M_X8_placesOf [.int (nI (k))] (by decide) rfl (by decide) rfl dX8_counts_60 rfl ml_X8_65 im_X8_placesOf se_X8_placesOf mc_X8_placesOf (by decide) (Nat.le_of_ble_eq_true rfl) (sp_X8_placesOf r w (by omega) ?_)
                  refine v_iconst 64 (nI (1)) (by decide) dX8_counts_63 rfl ?_
                  refine v_isub 65 (nI ((nP f k) - 1)) dX8_counts_64 rfl (pk_sub (by omega)) ?_
                  refine v_icmpN_ge 118 68 dX8_counts_65 (by decide) rfl (by omega) (by omega) (fun h65 => ?_) (fun h65 => ?_)
                  · skip
                    exact absurd h65 (by omega)
                  · skip
                    refine v_lload 70 rfl dX8_counts_68 rfl ?_
                    refine v_aload_n 71 rfl dX8_counts_70 rfl ?_
                    refine v_get 74 (k := 9) 8 (rfv x 46) (by decide) rfl (by decide) (by decide) dX8_counts_71 rfl fl_X8_25 rfl ?_
                    refine v_iconst 75 (nI (4)) (by decide) dX8_counts_74 rfl ?_
                    refine v_iload 77 rfl dX8_counts_75 rfl ?_
                    refine v_imul 78 (nI (4 * u)) dX8_counts_77 rfl (pk_mul _ _) ?_
                    refine v_iload 80 rfl dX8_counts_78 rfl ?_
                    refine v_iadd 81 (nI ((4 * u) + i)) dX8_counts_80 rfl (nI_add _ _) ?_
                    refine v_lald 82 (k := (4 * u) + i) (lN (upW f k u i)) (by decide) rfl (by decide) dX8_counts_81 rfl rfl (by omega) (umk.1 u i _ (by omega) hi (by omega)) ?_
                    refine v_aload_n 83 rfl dX8_counts_82 rfl ?_
                    refine v_iload_n 84 rfl dX8_counts_83 rfl ?_
                    refine v_iload 86 rfl dX8_counts_84 rfl ?_
                    refine v_iload 88 rfl dX8_counts_86 rfl ?_
                    refine v_iload 90 rfl dX8_counts_88 rfl ?_
                    refine v_invV 93 M_X8_step [.int (nI (k)), .int (nI (u)), .int (nI (i)), .int (nI (t))] (by decide) rfl (by decide) rfl dX8_counts_90 rfl ml_X8_83 im_X8_step se_X8_step mc_X8_step (by decide) (Nat.le_of_ble_eq_true rfl) (sp_X8_step r w hk hi ht (by omega) ?_)
                    refine v_lmul 94 (lN ((upW f k u i) * (stW f k u i t))) dX8_counts_93 rfl (lN_mul _ _) ?_
                    refine v_aload_n 95 rfl dX8_counts_94 rfl ?_
                    refine v_get 98 (k := 10) 8 (rfv x 47) (by decide) rfl (by decide) (by decide) dX8_counts_95 rfl fl_X8_29 rfl ?_
                    refine v_iconst 99 (nI (4)) (by decide) dX8_counts_98 rfl ?_
                    refine v_iload 101 rfl dX8_counts_99 rfl ?_
                    refine v_imul 102 (nI (4 * u)) dX8_counts_101 rfl (pk_mul _ _) ?_
                    refine v_iconst 103 (nI (4)) (by decide) dX8_counts_102 rfl ?_
                    refine v_iadd 104 (nI ((4 * u) + 4)) dX8_counts_103 rfl (nI_add _ _) ?_
                    refine v_iload 106 rfl dX8_counts_104 rfl ?_
                    refine v_iadd 107 (nI (((4 * u) + 4) + t)) dX8_counts_106 rfl (nI_add _ _) ?_
                    refine v_lald 108 (k := ((4 * u) + 4) + t) (lN (bhW f k (u + 1) t)) (by decide) rfl (by decide) dX8_counts_107 rfl rfl (by omega) (umk.2.1 (u + 1) t _ (by omega) ht (by omega)) ?_
                    refine v_lmul 109 (lN (((upW f k u i) * (stW f k u i t)) * (bhW f k (u + 1) t))) dX8_counts_108 rfl (lN_mul _ _) ?_
                    refine v_ladd 110 (lN ((smN u (fun p => upW f k p i * stW f k p i t * bhW f k (p + 1) t)) + (((upW f k u i) * (stW f k u i t)) * (bhW f k (u + 1) t)))) dX8_counts_109 rfl (lN_add _ _) ?_
                    refine v_lstore 112 [some (rfv x 40), some (.int (nI (k))), some (.long (lN (totW f k))), none, some (.int (nI (i))), some (.int (nI (t))), some (.long (lN ((smN u (fun p => upW f k p i * stW f k p i t * bhW f k (p + 1) t)) + (((upW f k u i) * (stW f k u i t)) * (bhW f k (u + 1) t))))), none, some (.int (nI (u)))] dX8_counts_110 rfl (by decide) rfl ?_
                    refine v_iinc 115 [some (rfv x 40), some (.int (nI (k))), some (.long (lN (totW f k))), none, some (.int (nI (i))), some (.int (nI (t))), some (.long (lN ((smN u (fun p => upW f k p i * stW f k p i t * bhW f k (p + 1) t)) + (((upW f k u i) * (stW f k u i t)) * (bhW f k (u + 1) t))))), none, some (.int (nI (u + 1)))] (nI (u + 1)) dX8_counts_112 rfl (by decide) rfl (nI_inc _) rfl ?_
                    refine v_goto 56 dX8_counts_115 (by decide) ?_
                    refine v_drop [some (rfv x 40), some (.int (nI (k))), some (.long (lN (totW f k))), none, some (.int (nI (i))), some (.int (nI (t))), some (.long (lN (smN (u + 1) (fun p => upW f k p i * stW f k p i t * bhW f k (p + 1) t)))), none, some (.int (nI (u + 1)))] (by simp [lsub, smN_s]) ?_
                    exact ih
              refine v_drop [some (rfv x 40), some (.int (nI (k))), some (.long (lN (totW f k))), none, some (.int (nI (i))), some (.int (nI (t))), some (.long (lN (smN 0 (fun p => upW f k p i * stW f k p i t * bhW f k (p + 1) t)))), none, some (.int (nI (0)))] (by simp [lsub, smN]) ?_
              exact li 0 (Nat.zero_le _)
        refine v_drop [some (rfv x 40), some (.int (nI (k))), some (.long (lN (totW f k))), none, some (.int (nI (i))), some (.int (nI (0))), none, none, none] (by simp [lsub, smN, amN, dbW, mxN]) ?_
        exact lq 0 (Nat.zero_le _) L35 f35 l35
  refine v_drop [some (rfv x 40), some (.int (nI (k))), some (.long (lN (totW f k))), none, some (.int (nI (0))), none, none, none, none] (by simp [lsub, smN, amN, dbW, mxN]) ?_
  exact lp 0 (Nat.zero_le _) L (fun b _ => rfl) (fun q c h => ⟨fun z => absurd z (by unfold Dv; omega), fun _ => hI q c h⟩)
set_option maxHeartbeats 4000000 in
theorem sp_X8_learnsFamily {x : Cx} {Q : Qt} {I : Iv} {L : Lv} {P : Pv} {o n M : Nat} {cv v0 : Nat → Nat} (eM : M = mxN n (fun j => cv (o + j))) (hn : n ≤ 4) (ho : 3 ≤ o) (ho2 : o + n ≤ 35) (hc : ∀ j, j < n → L 50 (o - 3 + j) = lN (cv (o + j))) (hb : ∀ j, j < n → cv (o + j) ≤ 100000) (hv : ∀ j, j < n → I 41 (o + j) = nI (v0 (o + j))) (hv6 : ∀ j, j < n → v0 (o + j) ≤ 6) (hQ : ∀ (b : Nat) (I1 : Iv), b < 2 → (b ≠ 0 ↔ ∃ j, j < n ∧ nwV (v0 (o + j)) (cv (o + j)) M ≠ v0 (o + j)) → (∀ a q, (a ≠ 41 ∨ q < o ∨ o + n ≤ q) → I1 a q = I a q) → (∀ j, j < n → I1 41 (o + j) = nI (nwV (v0 (o + j)) (cv (o + j)) M)) → Q (some (.int (nI b))) I1 L P) : SP x M_X8_learnsFamily [rfv x 40, .int (nI (o)), .int (nI (n))] I L P Q := by
  have hM : M ≤ 100000 := by
    rw [eM]
    exact mxN_le hb
  refine SP.intro [some (rfv x 40), some (.int (nI (o))), some (.int (nI (n))), none, none, none, none, none] pn_X8_learnsFamily (Nat.le_of_ble_eq_true rfl) rfl ?_
  refine v_lconst 1 (lN (0)) rfl dX8_learnsFamily_0 rfl ?_
  refine v_lstore_n 2 [some (rfv x 40), some (.int (nI (o))), some (.int (nI (n))), some (.long (lN (0))), none, none, none, none] dX8_learnsFamily_1 rfl (by decide) rfl ?_
  refine v_iconst 3 (nI (0)) (by decide) dX8_learnsFamily_2 rfl ?_
  refine v_istore 5 [some (rfv x 40), some (.int (nI (o))), some (.int (nI (n))), some (.long (lN (0))), none, some (.int (nI (0))), none, none] dX8_learnsFamily_3 rfl (by decide) rfl ?_
  have lp : ∀ i, i ≤ n → V x M_X8_learnsFamily Q 5 [some (rfv x 40), some (.int (nI (o))), some (.int (nI (n))), some (.long (lN (mxN i (fun j => cv (o + j))))), none, some (.int (nI (i))), none, none] [] I L P := by
    refine lpU ?_ ?_
    · skip
      refine v_iload 7 rfl dX8_learnsFamily_5 rfl ?_
      refine v_iload_n 8 rfl dX8_learnsFamily_7 rfl ?_
      refine v_icmpN_ge 49 11 dX8_learnsFamily_8 (by decide) rfl (by omega) (by omega) (fun h8 => ?_) (fun h8 => ?_)
      · skip
        refine v_iconst 50 (nI (0)) (by decide) dX8_learnsFamily_49 rfl ?_
        refine v_istore 52 [some (rfv x 40), some (.int (nI (o))), some (.int (nI (n))), some (.long (lN (mxN n (fun j => cv (o + j))))), none, some (.int (nI (0))), none, none] dX8_learnsFamily_50 rfl (by decide) rfl ?_
        refine v_iconst 53 (nI (0)) (by decide) dX8_learnsFamily_52 rfl ?_
        refine v_istore 55 [some (rfv x 40), some (.int (nI (o))), some (.int (nI (n))), some (.long (lN (mxN n (fun j => cv (o + j))))), none, some (.int (nI (0))), some (.int (nI (0))), none] dX8_learnsFamily_53 rfl (by decide) rfl ?_
        have lq : ∀ i, i ≤ n → ∀ (b : Nat) (Ij : Iv), b < 2 → (b ≠ 0 ↔ ∃ j, j < i ∧ nwV (v0 (o + j)) (cv (o + j)) M ≠ v0 (o + j)) → (∀ a q, (a ≠ 41 ∨ q < o ∨ o + i ≤ q) → Ij a q = I a q) → (∀ j, j < i → Ij 41 (o + j) = nI (nwV (v0 (o + j)) (cv (o + j)) M)) → V x M_X8_learnsFamily Q 55 [some (rfv x 40), some (.int (nI (o))), some (.int (nI (n))), some (.long (lN (M))), none, some (.int (nI (b))), some (.int (nI (i))), none] [] Ij L P := by
          refine lpU ?_ ?_
          · intro b Ij hb2 hbe hF hA
            refine v_iload 57 rfl dX8_learnsFamily_55 rfl ?_
            refine v_iload_n 58 rfl dX8_learnsFamily_57 rfl ?_
            refine v_icmpN_ge 136 61 dX8_learnsFamily_58 (by decide) rfl (by omega) (by omega) (fun h58 => ?_) (fun h58 => ?_)
            · skip
              refine v_iload 138 rfl dX8_learnsFamily_136 rfl ?_
              refine v_zret rfl dX8_learnsFamily_138 (bit_n hb2) ?_
              exact hQ b Ij hb2 hbe hF hA
            · skip
              exact absurd h58 (by omega)
          · intro i hi ih b Ij hb2 hbe hF hA
            have hbi := hb i hi
            have h6i := hv6 i hi
            refine v_iload 57 rfl dX8_learnsFamily_55 rfl ?_
            refine v_iload_n 58 rfl dX8_learnsFamily_57 rfl ?_
            refine v_icmpN_ge 136 61 dX8_learnsFamily_58 (by decide) rfl (by omega) (by omega) (fun h58 => ?_) (fun h58 => ?_)
            · skip
              exact absurd h58 (by omega)
            · skip
              refine v_lload_n 62 rfl dX8_learnsFamily_61 rfl ?_
              refine v_lconst 63 (lN (0)) rfl dX8_learnsFamily_62 rfl ?_
              refine v_lcmp_le 64 136 67 dX8_learnsFamily_63 rfl dX8_learnsFamily_64 (by decide) rfl (fun h63 => ?_) (fun h63 => ?_)
              · skip
                have hM0 : M = 0 := by
                  have := mt (pk_lLT (a := 0) (b := M) (by decide) (by omega)).mpr h63
                  omega
                have hnw : ∀ j, nwV (v0 (o + j)) (cv (o + j)) M = v0 (o + j) := fun j => if_pos hM0
                have hb0 : ¬ b ≠ 0 := fun q => by
                  obtain ⟨j, _, hne⟩ := hbe.mp q
                  exact hne (hnw j)
                refine v_iload 138 rfl dX8_learnsFamily_136 rfl ?_
                refine v_zret rfl dX8_learnsFamily_138 (bit_n hb2) ?_
                refine hQ b Ij hb2 ⟨fun q => absurd q hb0, fun ⟨j, _, hne⟩ => absurd (hnw j) hne⟩ (fun a q z => hF a q (by omega)) (fun j hj => ?_)
                by_cases y : j < i
                · exact hA j y
                · rw [hnw j]
                  exact (hF 41 (o + j) (by omega)).trans (hv j hj)
              · skip
                have hM0 : 0 < M := (pk_lLT (a := 0) (b := M) (by decide) (by omega)).mp h63
                have hnw : nwV (v0 (o + i)) (cv (o + i)) M = (6 * cv (o + i) + M / 2) / M := if_neg (by omega)
                have hq6 : (6 * cv (o + i) + M / 2) / M ≤ 6 := by
                  rw [← hnw]
                  refine nwV_le h6i ?_
                  rw [eM]
                  exact mxN_ge (g := fun j => cv (o + j)) hi
                refine v_ldc2 70 (lN (6)) dX8_learnsFamily_67 rfl ko_X8_147 ?_
                refine v_aload_n 71 rfl dX8_learnsFamily_70 rfl ?_
                refine v_get 74 (k := 13) 8 (rfv x 50) (by decide) rfl (by decide) (by decide) dX8_learnsFamily_71 rfl fl_X8_38 rfl ?_
                refine v_iload_n 75 rfl dX8_learnsFamily_74 rfl ?_
                refine v_iconst 76 (nI (3)) (by decide) dX8_learnsFamily_75 rfl ?_
                refine v_isub 77 (nI (o - 3)) dX8_learnsFamily_76 rfl (pk_sub (by omega)) ?_
                refine v_iload 79 rfl dX8_learnsFamily_77 rfl ?_
                refine v_iadd 80 (nI ((o - 3) + i)) dX8_learnsFamily_79 rfl (nI_add _ _) ?_
                refine v_lald 81 (k := (o - 3) + i) (lN (cv (o + i))) (by decide) rfl (by decide) dX8_learnsFamily_80 rfl rfl (by omega) (hc i hi) ?_
                refine v_lmul 82 (lN (6 * (cv (o + i)))) dX8_learnsFamily_81 rfl (lN_mul _ _) ?_
                refine v_lload_n 83 rfl dX8_learnsFamily_82 rfl ?_
                refine v_ldc2 86 (lN (2)) dX8_learnsFamily_83 rfl ko_X8_149 ?_
                refine v_ldiv 87 (lN (M / 2)) dX8_learnsFamily_86 rfl (lN_ne0 (by decide) (by decide)) (pk_lDiv (by omega) (by decide) (by decide)) ?_
                refine v_ladd 88 (lN ((6 * (cv (o + i))) + (M / 2))) dX8_learnsFamily_87 rfl (lN_add _ _) ?_
                refine v_lload_n 89 rfl dX8_learnsFamily_88 rfl ?_
                refine v_ldiv 90 (lN ((6 * cv (o + i) + M / 2) / M)) dX8_learnsFamily_89 rfl (lN_ne0 hM0 (by omega)) (pk_lDiv (by omega) hM0 (by omega)) ?_
                refine v_l2i 91 (nI ((6 * cv (o + i) + M / 2) / M)) dX8_learnsFamily_90 rfl (lN_i _) ?_
                refine v_istore 93 [some (rfv x 40), some (.int (nI (o))), some (.int (nI (n))), some (.long (lN (M))), none, some (.int (nI (b))), some (.int (nI (i))), some (.int (nI ((6 * cv (o + i) + M / 2) / M)))] dX8_learnsFamily_91 rfl (by decide) rfl ?_
                refine v_iload 95 rfl dX8_learnsFamily_93 rfl ?_
                refine v_ifN_ne 112 98 dX8_learnsFamily_95 (by decide) rfl (by omega) (fun h95 => ?_) (fun h95 => ?_)
                · skip
                  refine v_iconst 113 (nI (1)) (by decide) dX8_learnsFamily_112 rfl ?_
                  refine v_goto 117 dX8_learnsFamily_113 (by decide) ?_
                  refine v_istore 119 [some (rfv x 40), some (.int (nI (o))), some (.int (nI (n))), some (.long (lN (M))), none, some (.int (nI (1))), some (.int (nI (i))), some (.int (nI ((6 * cv (o + i) + M / 2) / M)))] dX8_learnsFamily_117 rfl (by decide) rfl ?_
                  refine v_aload_n 120 rfl dX8_learnsFamily_119 rfl ?_
                  refine v_get 123 (k := 1) 8 (rfv x 41) (by decide) rfl (by decide) (by decide) dX8_learnsFamily_120 rfl fl_X8_7 rfl ?_
                  refine v_iload_n 124 rfl dX8_learnsFamily_123 rfl ?_
                  refine v_iload 126 rfl dX8_learnsFamily_124 rfl ?_
                  refine v_iadd 127 (nI (o + i)) dX8_learnsFamily_126 rfl (nI_add _ _) ?_
                  refine v_iload 129 rfl dX8_learnsFamily_127 rfl ?_
                  refine v_iast 130 (k := o + i) (nI ((6 * cv (o + i) + M / 2) / M)) (by decide) rfl (by decide) dX8_learnsFamily_129 rfl rfl (by omega) rfl (fun I129 e129 => ?_)
                  refine v_iinc 133 [some (rfv x 40), some (.int (nI (o))), some (.int (nI (n))), some (.long (lN (M))), none, some (.int (nI (1))), some (.int (nI (i + 1))), some (.int (nI ((6 * cv (o + i) + M / 2) / M)))] (nI (i + 1)) dX8_learnsFamily_130 rfl (by decide) rfl (nI_inc _) rfl ?_
                  refine v_goto 55 dX8_learnsFamily_133 (by decide) ?_
                  refine v_drop [some (rfv x 40), some (.int (nI (o))), some (.int (nI (n))), some (.long (lN (M))), none, some (.int (nI (1))), some (.int (nI (i + 1))), none] (by simp [lsub, smN_s]) ?_
                  have hex : ∃ j, j < i + 1 ∧ nwV (v0 (o + j)) (cv (o + j)) M ≠ v0 (o + j) := by
                    first
                    | exact ⟨i, by omega, by rw [hnw]; exact h109⟩
                    | (obtain ⟨j, hj, hne⟩ := hbe.mp h95; exact ⟨j, by omega, hne⟩)
                  refine ih 1 I129 (by decide) ⟨fun _ => hex, fun _ => by decide⟩ (fun a q z => (up2_off e129 (by omega)).trans (hF a q (by omega))) (fun j hj => ?_)
                  · by_cases y : j = i
                    · rw [y, hnw]
                      exact up2_at e129
                    · exact (up2_off e129 (by omega)).trans (hA j (by omega))
                · skip
                  refine v_iload 100 rfl dX8_learnsFamily_98 rfl ?_
                  refine v_aload_n 101 rfl dX8_learnsFamily_100 rfl ?_
                  refine v_get 104 (k := 1) 8 (rfv x 41) (by decide) rfl (by decide) (by decide) dX8_learnsFamily_101 rfl fl_X8_7 rfl ?_
                  refine v_iload_n 105 rfl dX8_learnsFamily_104 rfl ?_
                  refine v_iload 107 rfl dX8_learnsFamily_105 rfl ?_
                  refine v_iadd 108 (nI (o + i)) dX8_learnsFamily_107 rfl (nI_add _ _) ?_
                  refine v_iald 109 (k := o + i) (nI (v0 (o + i))) (by decide) rfl (by decide) dX8_learnsFamily_108 rfl rfl (by omega) ((hF 41 _ (by omega)).trans (hv i hi)) ?_
                  refine v_icmpN_eq 116 112 dX8_learnsFamily_109 (by decide) rfl (by omega) (by omega) (fun h109 => ?_) (fun h109 => ?_)
                  · skip
                    refine v_iconst 117 (nI (0)) (by decide) dX8_learnsFamily_116 rfl ?_
                    refine v_istore 119 [some (rfv x 40), some (.int (nI (o))), some (.int (nI (n))), some (.long (lN (M))), none, some (.int (nI (0))), some (.int (nI (i))), some (.int (nI ((6 * cv (o + i) + M / 2) / M)))] dX8_learnsFamily_117 rfl (by decide) rfl ?_
                    refine v_aload_n 120 rfl dX8_learnsFamily_119 rfl ?_
                    refine v_get 123 (k := 1) 8 (rfv x 41) (by decide) rfl (by decide) (by decide) dX8_learnsFamily_120 rfl fl_X8_7 rfl ?_
                    refine v_iload_n 124 rfl dX8_learnsFamily_123 rfl ?_
                    refine v_iload 126 rfl dX8_learnsFamily_124 rfl ?_
                    refine v_iadd 127 (nI (o + i)) dX8_learnsFamily_126 rfl (nI_add _ _) ?_
                    refine v_iload 129 rfl dX8_learnsFamily_127 rfl ?_
                    refine v_iast 130 (k := o + i) (nI ((6 * cv (o + i) + M / 2) / M)) (by decide) rfl (by decide) dX8_learnsFamily_129 rfl rfl (by omega) rfl (fun I129 e129 => ?_)
                    refine v_iinc 133 [some (rfv x 40), some (.int (nI (o))), some (.int (nI (n))), some (.long (lN (M))), none, some (.int (nI (0))), some (.int (nI (i + 1))), some (.int (nI ((6 * cv (o + i) + M / 2) / M)))] (nI (i + 1)) dX8_learnsFamily_130 rfl (by decide) rfl (nI_inc _) rfl ?_
                    refine v_goto 55 dX8_learnsFamily_133 (by decide) ?_
                    refine v_drop [some (rfv x 40), some (.int (nI (o))), some (.int (nI (n))), some (.long (lN (M))), none, some (.int (nI (0))), some (.int (nI (i + 1))), none] (by simp [lsub, smN_s]) ?_
                    refine ih 0 I129 (by decide) ⟨fun h => absurd rfl h, fun ⟨j, hj, hne⟩ => ?_⟩ (fun a q z => (up2_off e129 (by omega)).trans (hF a q (by omega))) (fun j hj => ?_)
                    · exfalso
                      by_cases y : j = i
                      · rw [y, hnw] at hne
                        exact hne h109
                      · exact hbe.mpr ⟨j, by omega, hne⟩ h95
                    · by_cases y : j = i
                      · rw [y, hnw]
                        exact up2_at e129
                      · exact (up2_off e129 (by omega)).trans (hA j (by omega))
                  · skip
                    refine v_iconst 113 (nI (1)) (by decide) dX8_learnsFamily_112 rfl ?_
                    refine v_goto 117 dX8_learnsFamily_113 (by decide) ?_
                    refine v_istore 119 [some (rfv x 40), some (.int (nI (o))), some (.int (nI (n))), some (.long (lN (M))), none, some (.int (nI (1))), some (.int (nI (i))), some (.int (nI ((6 * cv (o + i) + M / 2) / M)))] dX8_learnsFamily_117 rfl (by decide) rfl ?_
                    refine v_aload_n 120 rfl dX8_learnsFamily_119 rfl ?_
                    refine v_get 123 (k := 1) 8 (rfv x 41) (by decide) rfl (by decide) (by decide) dX8_learnsFamily_120 rfl fl_X8_7 rfl ?_
                    refine v_iload_n 124 rfl dX8_learnsFamily_123 rfl ?_
                    refine v_iload 126 rfl dX8_learnsFamily_124 rfl ?_
                    refine v_iadd 127 (nI (o + i)) dX8_learnsFamily_126 rfl (nI_add _ _) ?_
                    refine v_iload 129 rfl dX8_learnsFamily_127 rfl ?_
                    refine v_iast 130 (k := o + i) (nI ((6 * cv (o + i) + M / 2) / M)) (by decide) rfl (by decide) dX8_learnsFamily_129 rfl rfl (by omega) rfl (fun I129 e129 => ?_)
                    refine v_iinc 133 [some (rfv x 40), some (.int (nI (o))), some (.int (nI (n))), some (.long (lN (M))), none, some (.int (nI (1))), some (.int (nI (i + 1))), some (.int (nI ((6 * cv (o + i) + M / 2) / M)))] (nI (i + 1)) dX8_learnsFamily_130 rfl (by decide) rfl (nI_inc _) rfl ?_
                    refine v_goto 55 dX8_learnsFamily_133 (by decide) ?_
                    refine v_drop [some (rfv x 40), some (.int (nI (o))), some (.int (nI (n))), some (.long (lN (M))), none, some (.int (nI (1))), some (.int (nI (i + 1))), none] (by simp [lsub, smN_s]) ?_
                    have hex : ∃ j, j < i + 1 ∧ nwV (v0 (o + j)) (cv (o + j)) M ≠ v0 (o + j) := by
                      first
                      | exact ⟨i, by omega, by rw [hnw]; exact h109⟩
                      | (obtain ⟨j, hj, hne⟩ := hbe.mp h95; exact ⟨j, by omega, hne⟩)
                    refine ih 1 I129 (by decide) ⟨fun _ => hex, fun _ => by decide⟩ (fun a q z => (up2_off e129 (by omega)).trans (hF a q (by omega))) (fun j hj => ?_)
                    · by_cases y : j = i
                      · rw [y, hnw]
                        exact up2_at e129
                      · exact (up2_off e129 (by omega)).trans (hA j (by omega))
        refine v_drop [some (rfv x 40), some (.int (nI (o))), some (.int (nI (n))), some (.long (lN (M))), none, some (.int (nI (0))), some (.int (nI (0))), none] (by simp [lsub, eM]) ?_
        exact lq 0 (Nat.zero_le _) 0 I (by decide) ⟨fun h => absurd rfl h, fun ⟨j, hj, _⟩ => absurd hj (Nat.not_lt_zero j)⟩ (fun a q _ => rfl) (fun j h => absurd h (Nat.not_lt_zero j))
      · skip
        exact absurd h8 (by omega)
    · intro i hi ih 
      have hbi := hb i hi
      have hMi : mxN i (fun j => cv (o + j)) ≤ 100000 := mxN_le (fun j hj => hb j (by omega))
      have e1 := (pk_lLT (a := mxN i (fun j => cv (o + j))) (b := cv (o + i)) (by omega) (by omega))
      refine v_iload 7 rfl dX8_learnsFamily_5 rfl ?_
      refine v_iload_n 8 rfl dX8_learnsFamily_7 rfl ?_
      refine v_icmpN_ge 49 11 dX8_learnsFamily_8 (by decide) rfl (by omega) (by omega) (fun h8 => ?_) (fun h8 => ?_)
      · skip
        exact absurd h8 (by omega)
      · skip
        refine v_aload_n 12 rfl dX8_learnsFamily_11 rfl ?_
        refine v_get 15 (k := 13) 8 (rfv x 50) (by decide) rfl (by decide) (by decide) dX8_learnsFamily_12 rfl fl_X8_38 rfl ?_
        refine v_iload_n 16 rfl dX8_learnsFamily_15 rfl ?_
        refine v_iconst 17 (nI (3)) (by decide) dX8_learnsFamily_16 rfl ?_
        refine v_isub 18 (nI (o - 3)) dX8_learnsFamily_17 rfl (pk_sub (by omega)) ?_
        refine v_iload 20 rfl dX8_learnsFamily_18 rfl ?_
        refine v_iadd 21 (nI ((o - 3) + i)) dX8_learnsFamily_20 rfl (nI_add _ _) ?_
        refine v_lald 22 (k := (o - 3) + i) (lN (cv (o + i))) (by decide) rfl (by decide) dX8_learnsFamily_21 rfl rfl (by omega) (hc i hi) ?_
        refine v_lload_n 23 rfl dX8_learnsFamily_22 rfl ?_
        refine v_lcmp_le 24 41 27 dX8_learnsFamily_23 rfl dX8_learnsFamily_24 (by decide) rfl (fun h23 => ?_) (fun h23 => ?_)
        · skip
          refine v_lload_n 42 rfl dX8_learnsFamily_41 rfl ?_
          refine v_lstore_n 43 [some (rfv x 40), some (.int (nI (o))), some (.int (nI (n))), some (.long (lN (mxN i (fun j => cv (o + j))))), none, some (.int (nI (i))), none, none] dX8_learnsFamily_42 rfl (by decide) rfl ?_
          refine v_iinc 46 [some (rfv x 40), some (.int (nI (o))), some (.int (nI (n))), some (.long (lN (mxN i (fun j => cv (o + j))))), none, some (.int (nI (i + 1))), none, none] (nI (i + 1)) dX8_learnsFamily_43 rfl (by decide) rfl (nI_inc _) rfl ?_
          refine v_goto 5 dX8_learnsFamily_46 (by decide) ?_
          refine v_drop [some (rfv x 40), some (.int (nI (o))), some (.int (nI (n))), some (.long (lN (mxN (i + 1) (fun j => cv (o + j))))), none, some (.int (nI (i + 1))), none, none] (by rw [e1] at h23; simp [lsub, mxN_s, h23]) ?_
          exact ih
        · skip
          refine v_aload_n 28 rfl dX8_learnsFamily_27 rfl ?_
          refine v_get 31 (k := 13) 8 (rfv x 50) (by decide) rfl (by decide) (by decide) dX8_learnsFamily_28 rfl fl_X8_38 rfl ?_
          refine v_iload_n 32 rfl dX8_learnsFamily_31 rfl ?_
          refine v_iconst 33 (nI (3)) (by decide) dX8_learnsFamily_32 rfl ?_
          refine v_isub 34 (nI (o - 3)) dX8_learnsFamily_33 rfl (pk_sub (by omega)) ?_
          refine v_iload 36 rfl dX8_learnsFamily_34 rfl ?_
          refine v_iadd 37 (nI ((o - 3) + i)) dX8_learnsFamily_36 rfl (nI_add _ _) ?_
          refine v_lald 38 (k := (o - 3) + i) (lN (cv (o + i))) (by decide) rfl (by decide) dX8_learnsFamily_37 rfl rfl (by omega) (hc i hi) ?_
          refine v_goto 42 dX8_learnsFamily_38 (by decide) ?_
          refine v_lstore_n 43 [some (rfv x 40), some (.int (nI (o))), some (.int (nI (n))), some (.long (lN (cv (o + i)))), none, some (.int (nI (i))), none, none] dX8_learnsFamily_42 rfl (by decide) rfl ?_
          refine v_iinc 46 [some (rfv x 40), some (.int (nI (o))), some (.int (nI (n))), some (.long (lN (cv (o + i)))), none, some (.int (nI (i + 1))), none, none] (nI (i + 1)) dX8_learnsFamily_43 rfl (by decide) rfl (nI_inc _) rfl ?_
          refine v_goto 5 dX8_learnsFamily_46 (by decide) ?_
          refine v_drop [some (rfv x 40), some (.int (nI (o))), some (.int (nI (n))), some (.long (lN (mxN (i + 1) (fun j => cv (o + j))))), none, some (.int (nI (i + 1))), none, none] (by rw [e1] at h23; simp [lsub, mxN_s, h23]) ?_
          exact ih
  refine v_drop [some (rfv x 40), some (.int (nI (o))), some (.int (nI (n))), some (.long (lN (mxN 0 (fun j => cv (o + j))))), none, some (.int (nI (0))), none, none] (by simp [lsub, mxN]) ?_
  exact lp 0 (Nat.zero_le _)
/-- the reference's weights while they are learned -/
def RV (f : Vw) (D : Nat → Prop) (b : Nat) (I Ij : Iv) : Prop := (∀ a q, (a ≠ 41 ∨ q < 3 ∨ 35 ≤ q) → Ij a q = I a q) ∧ (∀ p c, PC f p c → (D p → Ij 41 p = nI (lnF f p)) ∧ (¬ D p → Ij 41 p = nI (f p))) ∧ (b ≠ 0 ↔ ∃ p c, PC f p c ∧ D p ∧ lnF f p ≠ f p)
theorem RV.mono {f : Vw} {D D1 : Nat → Prop} {b : Nat} {I Ij : Iv} (h : RV f D b I Ij) (e : ∀ p c, PC f p c → (D1 p ↔ D p)) : RV f D1 b I Ij :=
  ⟨h.1, fun p c hp => ⟨fun q => (h.2.1 p c hp).1 ((e p c hp).mp q), fun q => (h.2.1 p c hp).2 (fun y => q ((e p c hp).mpr y))⟩, h.2.2.trans ⟨fun ⟨p, c, hp, hd, hn⟩ => ⟨p, c, hp, (e p c hp).mpr hd, hn⟩, fun ⟨p, c, hp, hd, hn⟩ => ⟨p, c, hp, (e p c hp).mp hd, hn⟩⟩⟩
theorem RV.bit {f : Vw} {D : Nat → Prop} {b b1 : Nat} {I Ij : Iv} (h : RV f D b I Ij) (e : b1 ≠ 0 ↔ b ≠ 0) : RV f D b1 I Ij := ⟨h.1, h.2.1, e.trans h.2.2⟩
theorem RV.step {f : Vw} {D : Nat → Prop} {b b1 b2 k s o : Nat} {I Ij I1 : Iv} (h : RV f D b I Ij) (w : Wf f) (hk : k < 3) (hs : s < f 0) (hD : ∀ p, Fm k s p → ¬ D p) (ho : ∀ j, mp k s j = o + j) (ho3 : 3 ≤ o) (ho5 : o + fz (f 0) k ≤ 35) (hb : b1 ≠ 0 ↔ ∃ j, j < fz (f 0) k ∧ nwV (f (o + j)) (cA f (f 1) (o + j)) (gm (cA f (f 1)) f k s) ≠ f (o + j)) (hF : ∀ a q, (a ≠ 41 ∨ q < o ∨ o + fz (f 0) k ≤ q) → I1 a q = Ij a q) (hA : ∀ j, j < fz (f 0) k → I1 41 (o + j) = nI (nwV (f (o + j)) (cA f (f 1) (o + j)) (gm (cA f (f 1)) f k s))) (hb2 : b2 ≠ 0 ↔ b1 ≠ 0 ∨ b ≠ 0) : RV f (fun p => D p ∨ Fm k s p) b2 I I1 := by
  refine ⟨fun a q z => (hF a q (by omega)).trans (h.1 a q z), fun p c hp => ?_, hb2.trans ⟨?_, ?_⟩⟩
  · have hi := Fm_iff w hk hs hp
    by_cases y : ∃ j, j < fz (f 0) k ∧ p = mp k s j
    · refine ⟨fun _ => ?_, fun z => absurd (Or.inr (hi.mp y)) z⟩
      obtain ⟨j, hj, e⟩ := y
      have el := ln_fam w hk hs hj
      rw [ho] at e el
      rw [e, hA j hj, el]
    · have hN : ¬ Fm k s p := fun z => y (hi.mpr z)
      have hc : I1 41 p = Ij 41 p := hF 41 p (by
        by_cases z : p < o
        · exact Or.inr (Or.inl z)
        · by_cases z2 : o + fz (f 0) k ≤ p
          · exact Or.inr (Or.inr z2)
          · exact absurd ⟨p - o, by omega, by rw [ho]; omega⟩ y)
      exact ⟨fun z => hc.trans ((h.2.1 p c hp).1 (z.resolve_right hN)), fun z => hc.trans ((h.2.1 p c hp).2 (fun q => z (Or.inl q)))⟩
  · rintro (q | q)
    · obtain ⟨j, hj, hne⟩ := hb.mp q
      have el := ln_fam w hk hs hj
      have hp := PC.fam hk hs hj
      rw [ho] at el hp
      refine ⟨o + j, mb k s j, hp, Or.inr ((Fm_iff w hk hs hp).mp ⟨j, hj, (ho j).symm⟩), ?_⟩
      rw [el]
      exact hne
    · obtain ⟨p, c, hp, hd, hne⟩ := h.2.2.mp q
      exact ⟨p, c, hp, Or.inl hd, hne⟩
  · rintro ⟨p, c, hp, hd | hd, hne⟩
    · exact Or.inr (h.2.2.mpr ⟨p, c, hp, hd, hne⟩)
    · obtain ⟨j, hj, e⟩ := (Fm_iff w hk hs hp).mpr hd
      have el := ln_fam w hk hs hj
      rw [ho] at e el
      refine Or.inl (hb.mpr ⟨j, hj, ?_⟩)
      rw [← el, ← e]
      exact hne
theorem RR.nd {f : Vw} {h : Nat → Int32} (r : RR h (lnF f)) (w : Wf f) (hn : ¬ df f) : RR h f := by
  refine RR.mk r.1 ?_ ?_ (fun p c hp => ?_) (fun k hk => ?_) (fun k p hk hp => ?_)
  · rw [← lnF_ff (f := f) 1 (by omega)]
    exact r.sm
  · rw [← lnF_ff (f := f) 2 (by omega)]
    exact r.bd
  · have h9 : lnF f p = f p := Classical.byContradiction fun q => hn ⟨p, c, hp, q⟩
    rw [← h9]
    exact r.at (f := lnF f) (c := c) hp
  · have e : nP (lnF f) k = nP f k := lnF_ff _ (by omega)
    rw [← e]
    exact r.n (by rw [lnF_ff 1 (by omega)]; exact hk)
  · have e : nP (lnF f) k = nP f k := lnF_ff _ (by omega)
    have e2 : sG (lnF f) k p = sG f k p := lnF_ff _ (by omega)
    rw [← e2]
    exact r.s (by rw [lnF_ff 1 (by omega)]; exact hk) (by rw [e]; exact hp)
set_option maxHeartbeats 4000000 in
theorem sp_X8_learnsOnce {x : Cx} {Q : Qt} {I : Iv} {L : Lv} {P : Pv} {f : Vw} (r : RR (I 41) f) (w : Wf f) (hQ : ∀ (b : Nat) (I1 : Iv) (L1 : Lv), b < 2 → (b ≠ 0 ↔ df f) → (∀ a, a ≠ 41 → I1 a = I a) → RR (I1 41) (lnF f) → Q (some (.int (nI b))) I1 L1 P) : SP x M_X8_learnsOnce [rfv x 40] I L P Q := by
  have := w.n4
  have := w.n1
  have := w.m6
  
  refine SP.intro [some (rfv x 40), none, none, none] pn_X8_learnsOnce (Nat.le_of_ble_eq_true rfl) rfl ?_
  refine v_iconst 1 (nI (0)) (by decide) dX8_learnsOnce_0 rfl ?_
  refine v_istore_n 2 [some (rfv x 40), some (.int (nI (0))), none, none] dX8_learnsOnce_1 rfl (by decide) rfl ?_
  have lz : ∀ i, i ≤ 32 → ∀ Lj : Lv, (∀ q, q < i → Lj 50 q = lN 0) → V x M_X8_learnsOnce Q 2 [some (rfv x 40), some (.int (nI (i))), none, none] [] I Lj P := by
    refine lpU ?_ ?_
    · intro Lj hz
      refine v_iload_n 3 rfl dX8_learnsOnce_2 rfl ?_
      refine v_bipush 5 (nI (32)) (by decide) dX8_learnsOnce_3 rfl ?_
      refine v_icmpN_ge 21 8 dX8_learnsOnce_5 (by decide) rfl (by omega) (by omega) (fun h5 => ?_) (fun h5 => ?_)
      · skip
        refine v_iconst 22 (nI (0)) (by decide) dX8_learnsOnce_21 rfl ?_
        refine v_istore_n 23 [some (rfv x 40), some (.int (nI (0))), none, none] dX8_learnsOnce_22 rfl (by decide) rfl ?_
        have lp : ∀ i, i ≤ f 1 → ∀ Lj : Lv, (∀ p c, PC f p c → Lj 50 (p - 3) = lN (cA f i p)) → V x M_X8_learnsOnce Q 23 [some (rfv x 40), some (.int (nI (i))), none, none] [] I Lj P := by
          refine lpU ?_ ?_
          · intro Lj hC
            refine v_iload_n 24 rfl dX8_learnsOnce_23 rfl ?_
            refine v_aload_n 25 rfl dX8_learnsOnce_24 rfl ?_
            refine v_get 28 (k := 1) 8 (rfv x 41) (by decide) rfl (by decide) (by decide) dX8_learnsOnce_25 rfl fl_X8_7 rfl ?_
            refine v_iconst 29 (nI (1)) (by decide) dX8_learnsOnce_28 rfl ?_
            refine v_iald 30 (k := 1) (nI (f 1)) (by decide) rfl (by decide) dX8_learnsOnce_29 rfl rfl (by omega) r.sm ?_
            refine v_icmpN_ge 61 33 dX8_learnsOnce_30 (by decide) rfl (by omega) (by omega) (fun h30 => ?_) (fun h30 => ?_)
            · skip
              refine v_aload_n 62 rfl dX8_learnsOnce_61 rfl ?_
              refine v_iconst 63 (nI (3)) (by decide) dX8_learnsOnce_62 rfl ?_
              refine v_aload_n 64 rfl dX8_learnsOnce_63 rfl ?_
              refine v_get 67 (k := 1) 8 (rfv x 41) (by decide) rfl (by decide) (by decide) dX8_learnsOnce_64 rfl fl_X8_7 rfl ?_
              refine v_iconst 68 (nI (0)) (by decide) dX8_learnsOnce_67 rfl ?_
              refine v_iald 69 (k := 0) (nI (f 0)) (by decide) rfl (by decide) dX8_learnsOnce_68 rfl rfl (by omega) r.st ?_
              refine v_invV 72 M_X8_learnsFamily [.int (nI (3)), .int (nI (f 0))] (by decide) rfl (by decide) rfl dX8_learnsOnce_69 rfl ml_X8_160 im_X8_learnsFamily se_X8_learnsFamily mc_X8_learnsFamily (by decide) (Nat.le_of_ble_eq_true rfl) (sp_X8_learnsFamily (o := 3) (n := f 0) (cv := cA f (f 1)) (v0 := f) (M := gm (cA f (f 1)) f 0 0) rfl w.n4 (by decide) (by omega) (fun j hj => by have h9 := hC (3 + j) (j * 8) (Or.inl ⟨j, hj, rfl, rfl⟩); rwa [show 3 + j - 3 = 3 - 3 + j by omega] at h9) (fun j hj => by have := cA_le w (Nat.le_refl _) (Or.inl ⟨j, hj, rfl, rfl⟩ : PC f (3 + j) (j * 8)); omega) (fun j hj => r.b hj) (fun j hj => w.b hj) (fun b1 Ia hb1 hbe1 fa va => ?_))
              have rv0 : RV f (Dn 0) b1 I Ia := (RV.step (f := f) (D := fun _ => False) (b := 0) (k := 0) (s := 0) (o := 3) (I := I) (Ij := I) ⟨fun _ _ _ => rfl, fun q c h => ⟨fun z => z.elim, fun _ => r.at h⟩, ⟨fun h => absurd rfl h, fun ⟨_, _, _, z, _⟩ => z.elim⟩⟩ w (by decide) (by omega) (fun _ _ z => z) (fun j => rfl) (by decide) (by show 3 + f 0 ≤ 35; omega) hbe1 fa va ⟨fun h => Or.inl h, fun h => h.resolve_right (fun y => y rfl)⟩).mono (fun q c h => by have := h.lt w; simp only [Dn, Fm_0, false_or]; omega)
              refine v_istore_n 73 [some (rfv x 40), some (.int (nI (b1))), none, none] dX8_learnsOnce_72 rfl (by decide) rfl ?_
              refine v_iconst 74 (nI (0)) (by decide) dX8_learnsOnce_73 rfl ?_
              refine v_istore_n 75 [some (rfv x 40), some (.int (nI (b1))), some (.int (nI (0))), none] dX8_learnsOnce_74 rfl (by decide) rfl ?_
              have lq : ∀ i, i ≤ f 0 → ∀ (b : Nat) (Ij : Iv), b < 2 → RV f (Dn i) b I Ij → V x M_X8_learnsOnce Q 75 [some (rfv x 40), some (.int (nI (b))), some (.int (nI (i))), none] [] Ij Lj P := by
                refine lpU ?_ ?_
                · intro b Ij hb2 rv
                  refine v_iload_n 76 rfl dX8_learnsOnce_75 rfl ?_
                  refine v_aload_n 77 rfl dX8_learnsOnce_76 rfl ?_
                  refine v_get 80 (k := 1) 8 (rfv x 41) (by decide) rfl (by decide) (by decide) dX8_learnsOnce_77 rfl fl_X8_7 rfl ?_
                  refine v_iconst 81 (nI (0)) (by decide) dX8_learnsOnce_80 rfl ?_
                  refine v_iald 82 (k := 0) (nI (f 0)) (by decide) rfl (by decide) dX8_learnsOnce_81 rfl rfl (by omega) ((rv.1 41 0 (by omega)).trans r.st) ?_
                  refine v_icmpN_ge 144 85 dX8_learnsOnce_82 (by decide) rfl (by omega) (by omega) (fun h82 => ?_) (fun h82 => ?_)
                  · skip
                    refine v_iload_n 145 rfl dX8_learnsOnce_144 rfl ?_
                    refine v_zret rfl dX8_learnsOnce_145 (bit_n hb2) ?_
                    have hl : ∀ p c, PC f p c → Dn (f 0) p := fun q c h => by
                      rcases h with ⟨s, hs, e, _⟩ | ⟨s, t, hs, ht, e, _⟩ | ⟨s, t, hs, ht, e, _⟩ <;> (unfold Dn; omega)
                    refine hQ b Ij Lj hb2 (rv.2.2.trans ⟨fun ⟨p, c, hp, _, hne⟩ => ⟨p, c, hp, hne⟩, fun ⟨p, c, hp, hne⟩ => ⟨p, c, hp, hl p c hp, hne⟩⟩) (fun a h => funext fun q => rv.1 a q (Or.inl h)) ?_
                    exact r.upd (f1 := lnF f) ((rv.1 41 0 (by omega)).trans r.st) (fun i hi => rv.1 41 i (by omega)) lnF_ff (fun p c hp => (rv.2.1 p c hp).1 (hl p c hp))
                  · skip
                    exact absurd h82 (by omega)
                · intro i hi ih b Ij hb2 rv
                  refine v_iload_n 76 rfl dX8_learnsOnce_75 rfl ?_
                  refine v_aload_n 77 rfl dX8_learnsOnce_76 rfl ?_
                  refine v_get 80 (k := 1) 8 (rfv x 41) (by decide) rfl (by decide) (by decide) dX8_learnsOnce_77 rfl fl_X8_7 rfl ?_
                  refine v_iconst 81 (nI (0)) (by decide) dX8_learnsOnce_80 rfl ?_
                  refine v_iald 82 (k := 0) (nI (f 0)) (by decide) rfl (by decide) dX8_learnsOnce_81 rfl rfl (by omega) ((rv.1 41 0 (by omega)).trans r.st) ?_
                  refine v_icmpN_ge 144 85 dX8_learnsOnce_82 (by decide) rfl (by omega) (by omega) (fun h82 => ?_) (fun h82 => ?_)
                  · skip
                    exact absurd h82 (by omega)
                  · skip
                    refine v_aload_n 86 rfl dX8_learnsOnce_85 rfl ?_
                    refine v_bipush 88 (nI (7)) (by decide) dX8_learnsOnce_86 rfl ?_
                    refine v_iconst 89 (nI (4)) (by decide) dX8_learnsOnce_88 rfl ?_
                    refine v_iload_n 90 rfl dX8_learnsOnce_89 rfl ?_
                    refine v_imul 91 (nI (4 * i)) dX8_learnsOnce_90 rfl (pk_mul _ _) ?_
                    refine v_iadd 92 (nI (7 + (4 * i))) dX8_learnsOnce_91 rfl (nI_add _ _) ?_
                    refine v_aload_n 93 rfl dX8_learnsOnce_92 rfl ?_
                    refine v_get 96 (k := 1) 8 (rfv x 41) (by decide) rfl (by decide) (by decide) dX8_learnsOnce_93 rfl fl_X8_7 rfl ?_
                    refine v_iconst 97 (nI (0)) (by decide) dX8_learnsOnce_96 rfl ?_
                    refine v_iald 98 (k := 0) (nI (f 0)) (by decide) rfl (by decide) dX8_learnsOnce_97 rfl rfl (by omega) ((rv.1 41 0 (by omega)).trans r.st) ?_
                    refine v_invV 101 M_X8_learnsFamily [.int (nI (7 + (4 * i))), .int (nI (f 0))] (by decide) rfl (by decide) rfl dX8_learnsOnce_98 rfl ml_X8_160 im_X8_learnsFamily se_X8_learnsFamily mc_X8_learnsFamily (by decide) (Nat.le_of_ble_eq_true rfl) (sp_X8_learnsFamily (o := 7 + 4 * i) (n := f 0) (cv := cA f (f 1)) (v0 := f) (M := gm (cA f (f 1)) f 1 i) rfl w.n4 (by omega) (by omega) (fun j hj => by have h9 := hC (7 + 4 * i + j) (i * 8 + 1 + j) (Or.inr (Or.inl ⟨i, j, hi, hj, rfl, rfl⟩)); rwa [show 7 + 4 * i + j - 3 = 7 + 4 * i - 3 + j by omega] at h9) (fun j hj => by have := cA_le w (Nat.le_refl _) (Or.inr (Or.inl ⟨i, j, hi, hj, rfl, rfl⟩) : PC f (7 + 4 * i + j) (i * 8 + 1 + j)); omega) (fun j hj => (rv.2.1 _ (i * 8 + 1 + j) (Or.inr (Or.inl ⟨i, j, hi, hj, rfl, rfl⟩))).2 (by unfold Dn; omega)) (fun j hj => w.g hi hj) (fun b1 Ia hb1 hbe1 fa va => ?_))
                    have rv1 : ∀ b2, (b2 ≠ 0 ↔ b1 ≠ 0 ∨ b ≠ 0) → RV f (fun p => Dn i p ∨ Fm 1 i p) b2 I Ia := fun b2 hb2 => rv.step w (k := 1) (s := i) (o := 7 + 4 * i) (by decide) hi (fun q z => by simp only [Dn, Fm_1] at z ⊢; omega) (fun j => rfl) (by omega) (by show 7 + 4 * i + f 0 ≤ 35; omega) hbe1 fa va hb2
                    have key : ∀ b : Nat, b < 2 → RV f (fun p => Dn i p ∨ Fm 1 i p) b I Ia → V x M_X8_learnsOnce Q 114 [some (rfv x 40), some (.int (nI (b))), some (.int (nI (i))), none] [] Ia Lj P := by
                      intro b hb2 rv1
                      refine v_aload_n 115 rfl dX8_learnsOnce_114 rfl ?_
                      refine v_bipush 117 (nI (23)) (by decide) dX8_learnsOnce_115 rfl ?_
                      refine v_iconst 118 (nI (3)) (by decide) dX8_learnsOnce_117 rfl ?_
                      refine v_iload_n 119 rfl dX8_learnsOnce_118 rfl ?_
                      refine v_imul 120 (nI (3 * i)) dX8_learnsOnce_119 rfl (pk_mul _ _) ?_
                      refine v_iadd 121 (nI (23 + (3 * i))) dX8_learnsOnce_120 rfl (nI_add _ _) ?_
                      refine v_iconst 122 (nI (3)) (by decide) dX8_learnsOnce_121 rfl ?_
                      refine v_invV 125 M_X8_learnsFamily [.int (nI (23 + (3 * i))), .int (nI (3))] (by decide) rfl (by decide) rfl dX8_learnsOnce_122 rfl ml_X8_160 im_X8_learnsFamily se_X8_learnsFamily mc_X8_learnsFamily (by decide) (Nat.le_of_ble_eq_true rfl) (sp_X8_learnsFamily (o := 23 + 3 * i) (n := 3) (cv := cA f (f 1)) (v0 := f) (M := gm (cA f (f 1)) f 2 i) rfl (by decide) (by omega) (by omega) (fun j hj => by have h9 := hC (23 + 3 * i + j) (i * 8 + 5 + j) (Or.inr (Or.inr ⟨i, j, hi, hj, rfl, rfl⟩)); rwa [show 23 + 3 * i + j - 3 = 23 + 3 * i - 3 + j by omega] at h9) (fun j hj => by have := cA_le w (Nat.le_refl _) (Or.inr (Or.inr ⟨i, j, hi, hj, rfl, rfl⟩) : PC f (23 + 3 * i + j) (i * 8 + 5 + j)); omega) (fun j hj => (rv1.2.1 _ (i * 8 + 5 + j) (Or.inr (Or.inr ⟨i, j, hi, hj, rfl, rfl⟩))).2 (by simp only [Dn, Fm_1]; omega)) (fun j hj => w.w hi hj) (fun b1 Ib hb1 hbe1 fb vb => ?_))
                      have rv2 : ∀ b2, (b2 ≠ 0 ↔ b1 ≠ 0 ∨ b ≠ 0) → RV f (Dn (i + 1)) b2 I Ib := fun b2 hb2 => (rv1.step w (k := 2) (s := i) (o := 23 + 3 * i) (by decide) hi (fun q z => by simp only [Dn, Fm_1, Fm_2] at z ⊢; omega) (fun j => rfl) (by omega) (by show 23 + 3 * i + 3 ≤ 35; omega) hbe1 fb vb hb2).mono (fun q c h => by have := h.lt w; simp only [Dn, Fm_1, Fm_2]; omega)
                      refine v_ifN_ne 132 128 dX8_learnsOnce_125 (by decide) rfl (by omega) (fun h125 => ?_) (fun h125 => ?_)
                      · skip
                        refine v_iconst 133 (nI (1)) (by decide) dX8_learnsOnce_132 rfl ?_
                        refine v_goto 137 dX8_learnsOnce_133 (by decide) ?_
                        refine v_istore_n 138 [some (rfv x 40), some (.int (nI (1))), some (.int (nI (i))), none] dX8_learnsOnce_137 rfl (by decide) rfl ?_
                        refine v_iinc 141 [some (rfv x 40), some (.int (nI (1))), some (.int (nI (i + 1))), none] (nI (i + 1)) dX8_learnsOnce_138 rfl (by decide) rfl (nI_inc _) rfl ?_
                        refine v_goto 75 dX8_learnsOnce_141 (by decide) ?_
                        refine v_drop [some (rfv x 40), some (.int (nI (1))), some (.int (nI (i + 1))), none] (by simp [lsub, smN_s]) ?_
                        exact ih 1 Ib (by decide) (rv2 1 ⟨fun _ => by first | exact Or.inl h125 | exact Or.inr h129, fun _ => by decide⟩)
                      · skip
                        refine v_iload_n 129 rfl dX8_learnsOnce_128 rfl ?_
                        refine v_ifN_eq 136 132 dX8_learnsOnce_129 (by decide) rfl (by omega) (fun h129 => ?_) (fun h129 => ?_)
                        · skip
                          refine v_iconst 137 (nI (0)) (by decide) dX8_learnsOnce_136 rfl ?_
                          refine v_istore_n 138 [some (rfv x 40), some (.int (nI (0))), some (.int (nI (i))), none] dX8_learnsOnce_137 rfl (by decide) rfl ?_
                          refine v_iinc 141 [some (rfv x 40), some (.int (nI (0))), some (.int (nI (i + 1))), none] (nI (i + 1)) dX8_learnsOnce_138 rfl (by decide) rfl (nI_inc _) rfl ?_
                          refine v_goto 75 dX8_learnsOnce_141 (by decide) ?_
                          refine v_drop [some (rfv x 40), some (.int (nI (0))), some (.int (nI (i + 1))), none] (by simp [lsub, smN_s]) ?_
                          exact ih 0 Ib (by decide) (rv2 0 ⟨fun h => absurd rfl h, fun h => by rcases h with q | q <;> contradiction⟩)
                        · skip
                          refine v_iconst 133 (nI (1)) (by decide) dX8_learnsOnce_132 rfl ?_
                          refine v_goto 137 dX8_learnsOnce_133 (by decide) ?_
                          refine v_istore_n 138 [some (rfv x 40), some (.int (nI (1))), some (.int (nI (i))), none] dX8_learnsOnce_137 rfl (by decide) rfl ?_
                          refine v_iinc 141 [some (rfv x 40), some (.int (nI (1))), some (.int (nI (i + 1))), none] (nI (i + 1)) dX8_learnsOnce_138 rfl (by decide) rfl (nI_inc _) rfl ?_
                          refine v_goto 75 dX8_learnsOnce_141 (by decide) ?_
                          refine v_drop [some (rfv x 40), some (.int (nI (1))), some (.int (nI (i + 1))), none] (by simp [lsub, smN_s]) ?_
                          exact ih 1 Ib (by decide) (rv2 1 ⟨fun _ => by first | exact Or.inl h125 | exact Or.inr h129, fun _ => by decide⟩)
                    refine v_ifN_ne 108 104 dX8_learnsOnce_101 (by decide) rfl (by omega) (fun h101 => ?_) (fun h101 => ?_)
                    · skip
                      refine v_iconst 109 (nI (1)) (by decide) dX8_learnsOnce_108 rfl ?_
                      refine v_goto 113 dX8_learnsOnce_109 (by decide) ?_
                      refine v_istore_n 114 [some (rfv x 40), some (.int (nI (1))), some (.int (nI (i))), none] dX8_learnsOnce_113 rfl (by decide) rfl ?_
                      refine v_drop [some (rfv x 40), some (.int (nI (1))), some (.int (nI (i))), none] (by simp [lsub, smN_s]) ?_
                      exact key 1 (by decide) (rv1 1 ⟨fun _ => by first | exact Or.inl h101 | exact Or.inr h105, fun _ => by decide⟩)
                    · skip
                      refine v_iload_n 105 rfl dX8_learnsOnce_104 rfl ?_
                      refine v_ifN_eq 112 108 dX8_learnsOnce_105 (by decide) rfl (by omega) (fun h105 => ?_) (fun h105 => ?_)
                      · skip
                        refine v_iconst 113 (nI (0)) (by decide) dX8_learnsOnce_112 rfl ?_
                        refine v_istore_n 114 [some (rfv x 40), some (.int (nI (0))), some (.int (nI (i))), none] dX8_learnsOnce_113 rfl (by decide) rfl ?_
                        refine v_drop [some (rfv x 40), some (.int (nI (0))), some (.int (nI (i))), none] (by simp [lsub, smN_s]) ?_
                        exact key 0 (by decide) (rv1 0 ⟨fun h => absurd rfl h, fun h => by rcases h with q | q <;> contradiction⟩)
                      · skip
                        refine v_iconst 109 (nI (1)) (by decide) dX8_learnsOnce_108 rfl ?_
                        refine v_goto 113 dX8_learnsOnce_109 (by decide) ?_
                        refine v_istore_n 114 [some (rfv x 40), some (.int (nI (1))), some (.int (nI (i))), none] dX8_learnsOnce_113 rfl (by decide) rfl ?_
                        refine v_drop [some (rfv x 40), some (.int (nI (1))), some (.int (nI (i))), none] (by simp [lsub, smN_s]) ?_
                        exact key 1 (by decide) (rv1 1 ⟨fun _ => by first | exact Or.inl h101 | exact Or.inr h105, fun _ => by decide⟩)
              refine v_drop [some (rfv x 40), some (.int (nI (b1))), some (.int (nI (0))), none] (by simp [lsub]) ?_
              exact lq 0 (Nat.zero_le _) b1 Ia hb1 rv0
            · skip
              exact absurd h30 (by omega)
          · intro i hi ih Lj hC
            have hT := totW_le w hi
            refine v_iload_n 24 rfl dX8_learnsOnce_23 rfl ?_
            refine v_aload_n 25 rfl dX8_learnsOnce_24 rfl ?_
            refine v_get 28 (k := 1) 8 (rfv x 41) (by decide) rfl (by decide) (by decide) dX8_learnsOnce_25 rfl fl_X8_7 rfl ?_
            refine v_iconst 29 (nI (1)) (by decide) dX8_learnsOnce_28 rfl ?_
            refine v_iald 30 (k := 1) (nI (f 1)) (by decide) rfl (by decide) dX8_learnsOnce_29 rfl rfl (by omega) r.sm ?_
            refine v_icmpN_ge 61 33 dX8_learnsOnce_30 (by decide) rfl (by omega) (by omega) (fun h30 => ?_) (fun h30 => ?_)
            · skip
              exact absurd h30 (by omega)
            · skip
              refine v_aload_n 34 rfl dX8_learnsOnce_33 rfl ?_
              refine v_iload_n 35 rfl dX8_learnsOnce_34 rfl ?_
              refine v_invV 38 M_X8_laysRuns [.int (nI (i))] (by decide) rfl (by decide) rfl dX8_learnsOnce_35 rfl ml_X8_151 im_X8_laysRuns se_X8_laysRuns mc_X8_laysRuns (by decide) (Nat.le_of_ble_eq_true rfl) (sp_X8_laysRuns r w hi (fun Lr g1 um => ?_))
              refine v_aload_n 39 rfl dX8_learnsOnce_38 rfl ?_
              refine v_invV 42 M_X8_total [] (by decide) rfl (by decide) rfl dX8_learnsOnce_39 rfl ml_X8_154 im_X8_total se_X8_total mc_X8_total (by decide) (Nat.le_of_ble_eq_true rfl) (sp_X8_total r w hi um ?_)
              refine v_lstore_n 43 [some (rfv x 40), some (.int (nI (i))), some (.long (lN (totW f i))), none] dX8_learnsOnce_42 rfl (by decide) rfl ?_
              refine v_lload_n 44 rfl dX8_learnsOnce_43 rfl ?_
              refine v_lconst 45 (lN (0)) rfl dX8_learnsOnce_44 rfl ?_
              refine v_lcmp_le 46 55 49 dX8_learnsOnce_45 rfl dX8_learnsOnce_46 (by decide) rfl (fun h45 => ?_) (fun h45 => ?_)
              · skip
                refine v_iinc 58 [some (rfv x 40), some (.int (nI (i + 1))), some (.long (lN (totW f i))), none] (nI (i + 1)) dX8_learnsOnce_55 rfl (by decide) rfl (nI_inc _) rfl ?_
                refine v_goto 23 dX8_learnsOnce_58 (by decide) ?_
                refine v_drop [some (rfv x 40), some (.int (nI (i + 1))), none, none] (by simp [lsub, smN_s]) ?_
                refine ih Lr (fun q c h => ?_)
                rw [cA_s, shA_0 (by have := mt (pk_lLT (a := 0) (b := totW f i) (by decide) (by omega)).mpr h45; omega), Nat.add_zero, g1 50 (by decide) (by decide) (by decide) (by decide)]
                exact hC q c h
              · skip
                refine v_aload_n 50 rfl dX8_learnsOnce_49 rfl ?_
                refine v_iload_n 51 rfl dX8_learnsOnce_50 rfl ?_
                refine v_lload_n 52 rfl dX8_learnsOnce_51 rfl ?_
                refine v_invV 55 M_X8_counts [.int (nI (i)), .long (lN (totW f i))] (by decide) rfl (by decide) rfl dX8_learnsOnce_52 rfl ml_X8_157 im_X8_counts se_X8_counts mc_X8_counts (by decide) (Nat.le_of_ble_eq_true rfl) (sp_X8_counts r w hi um ((pk_lLT (a := 0) (b := totW f i) (by decide) (by omega)).mp h45) (a := cA f i) (fun q c h => by rw [g1 50 (by decide) (by decide) (by decide) (by decide)]; exact hC q c h) (fun Lc fc cc => ?_))
                refine v_iinc 58 [some (rfv x 40), some (.int (nI (i + 1))), some (.long (lN (totW f i))), none] (nI (i + 1)) dX8_learnsOnce_55 rfl (by decide) rfl (nI_inc _) rfl ?_
                refine v_goto 23 dX8_learnsOnce_58 (by decide) ?_
                refine v_drop [some (rfv x 40), some (.int (nI (i + 1))), none, none] (by simp [lsub, smN_s]) ?_
                exact ih Lc cc
        refine v_drop [some (rfv x 40), some (.int (nI (0))), none, none] (by simp [lsub, smN, amN, dbW, mxN]) ?_
        exact lp 0 (Nat.zero_le _) Lj (fun q c h => hz _ (by have := h.lt w; omega))
      · skip
        exact absurd h5 (by omega)
    · intro i hi ih Lj hz
      refine v_iload_n 3 rfl dX8_learnsOnce_2 rfl ?_
      refine v_bipush 5 (nI (32)) (by decide) dX8_learnsOnce_3 rfl ?_
      refine v_icmpN_ge 21 8 dX8_learnsOnce_5 (by decide) rfl (by omega) (by omega) (fun h5 => ?_) (fun h5 => ?_)
      · skip
        exact absurd h5 (by omega)
      · skip
        refine v_aload_n 9 rfl dX8_learnsOnce_8 rfl ?_
        refine v_get 12 (k := 13) 8 (rfv x 50) (by decide) rfl (by decide) (by decide) dX8_learnsOnce_9 rfl fl_X8_38 rfl ?_
        refine v_iload_n 13 rfl dX8_learnsOnce_12 rfl ?_
        refine v_lconst 14 (lN (0)) rfl dX8_learnsOnce_13 rfl ?_
        refine v_last 15 (k := i) (by decide) rfl (by decide) dX8_learnsOnce_14 rfl rfl (by omega) (fun L14 e14 => ?_)
        refine v_iinc 18 [some (rfv x 40), some (.int (nI (i + 1))), none, none] (nI (i + 1)) dX8_learnsOnce_15 rfl (by decide) rfl (nI_inc _) rfl ?_
        refine v_goto 2 dX8_learnsOnce_18 (by decide) ?_
        refine v_drop [some (rfv x 40), some (.int (nI (i + 1))), none, none] (by simp [lsub, smN_s]) ?_
        refine ih L14 (fun q hq => ?_)
        by_cases y : q = i
        · rw [y]
          exact up2_at e14
        · exact (up2_off e14 (by omega)).trans (hz q (by omega))
  refine v_drop [some (rfv x 40), some (.int (nI (0))), none, none] (by simp [lsub, smN, amN, dbW, mxN]) ?_
  exact lz 0 (Nat.zero_le _) L (fun q h => absurd h (Nat.not_lt_zero q))
set_option maxHeartbeats 4000000 in
theorem sp_X8_swapsAside {x : Cx} {Q : Qt} {I : Iv} {L : Lv} {P : Pv} (hQ : ∀ I1 : Iv, (∀ a, a ≠ 41 → a ≠ 42 → I1 a = I a) → (∀ q, q < 83 → I1 41 q = I 42 q) → (∀ q, q < 83 → I1 42 q = I 41 q) → Q none I1 L P) : SP x M_X8_swapsAside [rfv x 40] I L P Q := by
  refine SP.intro [some (rfv x 40), none, none] pn_X8_swapsAside (Nat.le_of_ble_eq_true rfl) rfl ?_
  refine v_iconst 1 (nI (0)) (by decide) dX8_swapsAside_0 rfl ?_
  refine v_istore_n 2 [some (rfv x 40), some (.int (nI (0))), none] dX8_swapsAside_1 rfl (by decide) rfl ?_
  have lp : ∀ i, i ≤ 83 → ∀ Ij : Iv, (∀ a q, ((a ≠ 41 ∧ a ≠ 42) ∨ i ≤ q) → Ij a q = I a q) → (∀ q, q < i → Ij 41 q = I 42 q) → (∀ q, q < i → Ij 42 q = I 41 q) → V x M_X8_swapsAside Q 2 [some (rfv x 40), some (.int (nI (i))), none] [] Ij L P := by
    refine lpU ?_ ?_
    · intro Ij hF hA hB
      refine v_iload_n 3 rfl dX8_swapsAside_2 rfl ?_
      refine v_bipush 5 (nI (83)) (by decide) dX8_swapsAside_3 rfl ?_
      refine v_icmpN_ge 40 8 dX8_swapsAside_5 (by decide) rfl (by omega) (by omega) (fun h5 => ?_) (fun h5 => ?_)
      · skip
        refine v_vret rfl dX8_swapsAside_40 ?_
        exact hQ Ij (fun a z1 z2 => funext fun q => hF a q (Or.inl ⟨z1, z2⟩)) hA hB
      · skip
        exact absurd h5 (by omega)
    · intro i hi ih Ij hF hA hB
      refine v_iload_n 3 rfl dX8_swapsAside_2 rfl ?_
      refine v_bipush 5 (nI (83)) (by decide) dX8_swapsAside_3 rfl ?_
      refine v_icmpN_ge 40 8 dX8_swapsAside_5 (by decide) rfl (by omega) (by omega) (fun h5 => ?_) (fun h5 => ?_)
      · skip
        exact absurd h5 (by omega)
      · skip
        refine v_aload_n 9 rfl dX8_swapsAside_8 rfl ?_
        refine v_get 12 (k := 1) 8 (rfv x 41) (by decide) rfl (by decide) (by decide) dX8_swapsAside_9 rfl fl_X8_7 rfl ?_
        refine v_iload_n 13 rfl dX8_swapsAside_12 rfl ?_
        refine v_iald 14 (k := i) (I 41 i) (by decide) rfl (by decide) dX8_swapsAside_13 rfl rfl (by omega) (hF 41 i (by omega)) ?_
        refine v_istore_n 15 [some (rfv x 40), some (.int (nI (i))), some (.int (I 41 i))] dX8_swapsAside_14 rfl (by decide) rfl ?_
        refine v_aload_n 16 rfl dX8_swapsAside_15 rfl ?_
        refine v_get 19 (k := 1) 8 (rfv x 41) (by decide) rfl (by decide) (by decide) dX8_swapsAside_16 rfl fl_X8_7 rfl ?_
        refine v_iload_n 20 rfl dX8_swapsAside_19 rfl ?_
        refine v_aload_n 21 rfl dX8_swapsAside_20 rfl ?_
        refine v_get 24 (k := 2) 8 (rfv x 42) (by decide) rfl (by decide) (by decide) dX8_swapsAside_21 rfl fl_X8_13 rfl ?_
        refine v_iload_n 25 rfl dX8_swapsAside_24 rfl ?_
        refine v_iald 26 (k := i) (I 42 i) (by decide) rfl (by decide) dX8_swapsAside_25 rfl rfl (by omega) (hF 42 i (by omega)) ?_
        refine v_iast 27 (k := i) (I 42 i) (by decide) rfl (by decide) dX8_swapsAside_26 rfl rfl (by omega) rfl (fun I26 e26 => ?_)
        refine v_aload_n 28 rfl dX8_swapsAside_27 rfl ?_
        refine v_get 31 (k := 2) 8 (rfv x 42) (by decide) rfl (by decide) (by decide) dX8_swapsAside_28 rfl fl_X8_13 rfl ?_
        refine v_iload_n 32 rfl dX8_swapsAside_31 rfl ?_
        refine v_iload_n 33 rfl dX8_swapsAside_32 rfl ?_
        refine v_iast 34 (k := i) (I 41 i) (by decide) rfl (by decide) dX8_swapsAside_33 rfl rfl (by omega) rfl (fun I33 e33 => ?_)
        refine v_iinc 37 [some (rfv x 40), some (.int (nI (i + 1))), some (.int (I 41 i))] (nI (i + 1)) dX8_swapsAside_34 rfl (by decide) rfl (nI_inc _) rfl ?_
        refine v_goto 2 dX8_swapsAside_37 (by decide) ?_
        refine v_drop [some (rfv x 40), some (.int (nI (i + 1))), none] (by simp [lsub, smN_s]) ?_
        refine ih I33 (fun a q z => (up2_off e33 (by omega)).trans ((up2_off e26 (by omega)).trans (hF a q (by omega)))) (fun q hq => ?_) (fun q hq => ?_)
        · rw [up2_off e33 (by omega)]
          by_cases y : q = i
          · rw [y]
            exact up2_at e26
          · exact (up2_off e26 (by omega)).trans (hA q (by omega))
        · by_cases y : q = i
          · rw [y]
            exact up2_at e33
          · exact (up2_off e33 (by omega)).trans ((up2_off e26 (by omega)).trans (hB q (by omega)))
  refine v_drop [some (rfv x 40), some (.int (nI (0))), none] (by simp [lsub, smN, amN, dbW, mxN]) ?_
  exact lp 0 (Nat.zero_le _) I (fun a q _ => rfl) (fun q h => absurd h (Nat.not_lt_zero q)) (fun q h => absurd h (Nat.not_lt_zero q))
set_option maxHeartbeats 4000000 in
theorem sp_X8_learn {x : Cx} {Q : Qt} {I : Iv} {L : Lv} {P : Pv} {f : Vw} {H : Hs} {hn sn : Nat} {g : Vw} {T : Tx} {tl : Nat} (ri : RI f H hn sn g T tl I) (wi : WI f H hn sn g T tl) {z : Int32} (hQ : ∀ (I1 : Iv) (L1 : Lv), (∀ a, a < 40 → I1 a = I a) → RI (stF (lnB f z) f (lnV f z)) (stH (lnB f z) H hn f) (stN (lnB f z) hn) sn g T tl I1 → Q (some (.int (lnA f z))) I1 L1 P) : SP x M_X8_learn [rfv x 40, .int (z)] I L P Q := by
  obtain ⟨r, hr, hsn, hsg, htx⟩ := id ri
  obtain ⟨w, hw, hs2, hwg, htl, hT⟩ := id wi
  have := w.n4
  have := w.m6
  have := w.n1
  refine SP.intro [some (rfv x 40), some (.int (z)), none] pn_X8_learn (Nat.le_of_ble_eq_true rfl) rfl ?_
  refine v_aload_n 1 rfl dX8_learn_0 rfl ?_
  refine v_iconst 2 (nI (0)) (by decide) dX8_learn_1 rfl ?_
  refine v_putI 5 (k := 0) 8 .int (by decide) rfl (by decide) (by decide) rfl (by decide +kernel) rfl rfl (fun _ _ => rfl) dX8_learn_2 rfl fl_X8_50 (fun I2 e2 => ?_)
  have ht0 : I2 = up2 I 40 0 (nI 0) := e2
  have r2 : RR (I2 41) f := by rw [up2_row e2 (by omega)]; exact r
  have hr2 : HR H hn I2 := ⟨hr.1, (up2_off e2 (by omega)).trans hr.2.1, fun i hi => by rw [up2_row e2 (by omega)]; exact hr.2.2 i hi⟩
  have ri2 : RI f H hn sn g T tl I2 := ri.kp (fun a q hl => up2_off e2 (by unfold live at hl; omega))
  have lo2 : ∀ a, a < 40 → I2 a = I a := fun a ha => up2_row e2 (by omega)
  refine v_iload_n 6 rfl dX8_learn_5 rfl ?_
  refine v_iconst 7 (nI (1)) (by decide) dX8_learn_6 rfl ?_
  refine v_bipush 9 (nI (20)) (by decide) dX8_learn_7 rfl ?_
  refine v_invT 12 M_X8_in [.int (z), .int (nI (1)), .int (nI (20))] dX8_learn_9 rfl ml_X8_58 sm_X8_in mc_X8_in (by decide) (Nat.le_of_ble_eq_true rfl) (sp_X8_in ?_)
  refine v_ifN_ne 18 15 dX8_learn_12 (by decide) rfl (by have := inr_lt z (nI 1) (nI 20); omega) (fun h12 => ?_) (fun h12 => ?_)
  · skip
    have hv : inr z (nI 1) (nI 20) ≠ 0 := h12
    obtain ⟨r9, hq1, hq2, ez⟩ := rng_ok (z := z) (fun q => hv (if_pos (Or.inl q))) (fun q => hv (if_pos (Or.inr q)))
    subst ez
    have es : ix (nI r9) = r9 := ix_n (by omega)
    refine v_iconst 19 (nI (0)) (by decide) dX8_learn_18 rfl ?_
    refine v_istore_n 20 [some (rfv x 40), some (.int (nI (r9))), some (.int (nI (0)))] dX8_learn_19 rfl (by decide) rfl ?_
    have lp : ∀ i, i ≤ 83 → ∀ Ij : Iv, (∀ a q, a ≠ 42 → Ij a q = I2 a q) → (∀ q, q < i → Ij 42 q = I2 41 q) → V x M_X8_learn Q 20 [some (rfv x 40), some (.int (nI (r9))), some (.int (nI (i)))] [] Ij L P := by
      refine lpU ?_ ?_
      · intro Ij hF hA
        refine v_iload_n 21 rfl dX8_learn_20 rfl ?_
        refine v_bipush 23 (nI (83)) (by decide) dX8_learn_21 rfl ?_
        refine v_icmpN_ge 44 26 dX8_learn_23 (by decide) rfl (by omega) (by omega) (fun h23 => ?_) (fun h23 => ?_)
        · skip
          refine v_iconst 45 (nI (0)) (by decide) dX8_learn_44 rfl ?_
          refine v_istore_n 46 [some (rfv x 40), some (.int (nI (r9))), some (.int (nI (0)))] dX8_learn_45 rfl (by decide) rfl ?_
          have key : ∀ d i, i + d = r9 → lnR f d i = lnR f r9 0 → ∀ (Ik : Iv) (Lk : Lv), (∀ a, a ≠ 41 → Ik a = Ij a) → RR (Ik 41) (fN f i) → V x M_X8_learn Q 46 [some (rfv x 40), some (.int (nI (r9))), some (.int (nI (i)))] [] Ik Lk P := by
            have fin : ∀ i, i ≤ 20 → lnR f r9 0 = i → ∀ (Ik : Iv) (Lk : Lv), (∀ a, a ≠ 41 → Ik a = Ij a) → RR (Ik 41) (fN f i) → V x M_X8_learn Q 64 [some (rfv x 40), some (.int (nI (r9))), some (.int (nI (i)))] [] Ik Lk P := by
              intro i hi20 en Ik Lk gF rk
              refine v_iload_n 65 rfl dX8_learn_64 rfl ?_
              refine v_ifN_ne 71 68 dX8_learn_65 (by decide) rfl (by omega) (fun h65 => ?_) (fun h65 => ?_)
              · skip
                refine v_aload_n 72 rfl dX8_learn_71 rfl ?_
                refine v_invV 75 M_X8_swapsAside [] (by decide) rfl (by decide) rfl dX8_learn_72 rfl ml_X8_168 im_X8_swapsAside se_X8_swapsAside mc_X8_swapsAside (by decide) (Nat.le_of_ble_eq_true rfl) (sp_X8_swapsAside (fun Is sF sA sB => ?_))
                have u1 : ∀ a q, a ≠ 41 → a ≠ 42 → Is a q = I2 a q := fun a q h1 h2 => (congrFun (sF a h1 h2) q).trans ((congrFun (gF a h1) q).trans (hF a q h2))
                have rs : RR (Is 41) f := r2.on w (fun q hq => (sA q hq).trans ((congrFun (gF 42 (by decide)) q).trans (hA q hq)))
                have hrs : HR H hn Is := ⟨hr.1, (u1 40 4 (by decide) (by decide)).trans hr2.2.1, fun j hj => by rw [show Is 43 = I2 43 from funext (fun q => u1 43 q (by decide) (by decide))]; exact hr2.2.2 j hj⟩
                refine v_aload_n 76 rfl dX8_learn_75 rfl ?_
                refine v_invV 79 M_X8_records [] (by decide) rfl (by decide) rfl dX8_learn_76 rfl ml_X8_105 im_X8_records se_X8_records mc_X8_records (by decide) (Nat.le_of_ble_eq_true rfl) (sp_X8_records hrs hw rs w (fun Ir fr hrr => ?_))
                refine v_aload_n 80 rfl dX8_learn_79 rfl ?_
                refine v_invV 83 M_X8_swapsAside [] (by decide) rfl (by decide) rfl dX8_learn_80 rfl ml_X8_168 im_X8_swapsAside se_X8_swapsAside mc_X8_swapsAside (by decide) (Nat.le_of_ble_eq_true rfl) (sp_X8_swapsAside (fun Iw wF wA wB => ?_))
                refine v_iload_n 84 rfl dX8_learn_83 rfl ?_
                refine v_iret rfl dX8_learn_84 ?_
                have v1 : ∀ a q, a ≠ 41 → a ≠ 42 → a ≠ 43 → (a ≠ 40 ∨ q ≠ 4) → Iw a q = I2 a q := fun a q h1 h2 h3 h4 => (congrFun (wF a h1 h2) q).trans ((fr a q h3 h4).trans (u1 a q h1 h2))
                have rw9 : RR (Iw 41) (fN f i) := rk.on (fN_wf w i) (fun q hq => (wA q hq).trans ((fr 42 q (by decide) (Or.inl (by decide))).trans (sB q hq)))
                refine qZ (hQ Iw Lk (fun a ha => ?_) ?_) (by rw [lnA, if_neg hv, es, en, if_neg h65])
                · rw [show Iw a = I2 a from funext (fun q => v1 a q (by omega) (by omega) (by omega) (Or.inl (by omega)))]
                  exact lo2 a ha
                · rw [lnB_n hv (n := i) (by rw [es]; exact en), lnV, es, en, stF_fN, hB_n h65]
                  exact ⟨rw9, ⟨hrr.1, (congrFun (wF 40 (by decide) (by decide)) 4).trans hrr.2.1, fun j hj => by rw [wF 43 (by decide) (by decide)]; exact hrr.2.2 j hj⟩, (v1 40 6 (by decide) (by decide) (by decide) (by decide)).trans ri2.2.2.1, fun e => by rw [show Iw 44 = I2 44 from funext (fun q => v1 44 q (by decide) (by decide) (by decide) (by omega))]; exact ri2.2.2.2.1 e, (v1 40 8 (by decide) (by decide) (by decide) (by decide)).trans ri2.2.2.2.2.1, fun j hj => (v1 45 j (by decide) (by decide) (by decide) (by omega)).trans (ri2.2.2.2.2.2 j hj)⟩
              · skip
                refine v_bipush 70 ((-5)) (by decide) dX8_learn_68 rfl ?_
                refine v_iret rfl dX8_learn_70 ?_
                have rk0 : RR (Ik 41) f := by
                  rw [h65] at rk
                  exact rk
                refine qZ (hQ Ik Lk (fun a ha => ?_) ?_) (by rw [lnA, if_neg hv, es, en, if_pos h65])
                · rw [gF a (by omega), show Ij a = I2 a from funext (fun q => hF a q (by omega))]
                  exact lo2 a ha
                · rw [lnB_n hv (n := i) (by rw [es]; exact en), lnV, es, en, stF_fN, h65]
                  have u1 : ∀ a q, a ≠ 41 → a ≠ 42 → Ik a q = I2 a q := fun a q h1 h2 => (congrFun (gF a h1) q).trans (hF a q h2)
                  exact ⟨rk0, ⟨hr.1, (u1 40 4 (by decide) (by decide)).trans hr2.2.1, fun j hj => by rw [show Ik 43 = I2 43 from funext (fun q => u1 43 q (by decide) (by decide))]; exact hr2.2.2 j hj⟩, (u1 40 6 (by decide) (by decide)).trans ri2.2.2.1, fun e => by rw [show Ik 44 = I2 44 from funext (fun q => u1 44 q (by decide) (by decide))]; exact ri2.2.2.2.1 e, (u1 40 8 (by decide) (by decide)).trans ri2.2.2.2.2.1, fun j hj => (u1 45 j (by decide) (by decide)).trans (ri2.2.2.2.2.2 j hj)⟩
            intro d
            induction d with
            | zero =>
              intro i hd hl Ik Lk gF rk
              refine v_iload_n 47 rfl dX8_learn_46 rfl ?_
              refine v_iload_n 48 rfl dX8_learn_47 rfl ?_
              refine v_icmpN_ge 64 51 dX8_learn_48 (by decide) rfl (by omega) (by omega) (fun h48 => ?_) (fun h48 => ?_)
              · skip
                exact fin i (by omega) (hl.symm.trans lnR_z) Ik Lk gF rk
              · skip
                exact absurd h48 (by omega)
            | succ d ih =>
              intro i hd hl Ik Lk gF rk
              have wj := fN_wf w i
              refine v_iload_n 47 rfl dX8_learn_46 rfl ?_
              refine v_iload_n 48 rfl dX8_learn_47 rfl ?_
              refine v_icmpN_ge 64 51 dX8_learn_48 (by decide) rfl (by omega) (by omega) (fun h48 => ?_) (fun h48 => ?_)
              · skip
                exact absurd h48 (by omega)
              · skip
                refine v_aload_n 52 rfl dX8_learn_51 rfl ?_
                refine v_invV 55 M_X8_learnsOnce [] (by decide) rfl (by decide) rfl dX8_learn_52 rfl ml_X8_164 im_X8_learnsOnce se_X8_learnsOnce mc_X8_learnsOnce (by decide) (Nat.le_of_ble_eq_true rfl) (sp_X8_learnsOnce rk wj (fun b Ib Lb hb hdf fb rb => ?_))
                have gb : ∀ a, a ≠ 41 → Ib a = Ij a := fun a h => (fb a h).trans (gF a h)
                refine v_ifN_eq 64 58 dX8_learn_55 (by decide) rfl (by omega) (fun h55 => ?_) (fun h55 => ?_)
                · skip
                  have hnd : ¬ df (fN f i) := fun q => hdf.mpr q h55
                  exact fin i (by omega) (hl.symm.trans (lnR_0 hnd)) Ib Lb gb (rb.nd wj hnd)
                · skip
                  refine v_iinc 61 [some (rfv x 40), some (.int (nI (r9))), some (.int (nI (i + 1)))] (nI (i + 1)) dX8_learn_58 rfl (by decide) rfl (nI_inc _) rfl ?_
                  refine v_goto 46 dX8_learn_61 (by decide) ?_
                  refine v_drop [some (rfv x 40), some (.int (nI (r9))), some (.int (nI (i + 1)))] (by simp [lsub, smN_s]) ?_
                  have hdd : df (fN f i) := hdf.mp h55
                  exact ih (i + 1) (by omega) ((lnR_1 hdd).symm.trans hl) Ib Lb gb rb
          refine v_drop [some (rfv x 40), some (.int (nI (r9))), some (.int (nI (0)))] (by simp [lsub]) ?_
          exact key r9 0 (by omega) rfl Ij L (fun _ _ => rfl) (r2.on w (fun q hq => hF 41 q (by decide)))
        · skip
          exact absurd h23 (by omega)
      · intro i hi ih Ij hF hA
        refine v_iload_n 21 rfl dX8_learn_20 rfl ?_
        refine v_bipush 23 (nI (83)) (by decide) dX8_learn_21 rfl ?_
        refine v_icmpN_ge 44 26 dX8_learn_23 (by decide) rfl (by omega) (by omega) (fun h23 => ?_) (fun h23 => ?_)
        · skip
          exact absurd h23 (by omega)
        · skip
          refine v_aload_n 27 rfl dX8_learn_26 rfl ?_
          refine v_get 30 (k := 2) 8 (rfv x 42) (by decide) rfl (by decide) (by decide) dX8_learn_27 rfl fl_X8_13 rfl ?_
          refine v_iload_n 31 rfl dX8_learn_30 rfl ?_
          refine v_aload_n 32 rfl dX8_learn_31 rfl ?_
          refine v_get 35 (k := 1) 8 (rfv x 41) (by decide) rfl (by decide) (by decide) dX8_learn_32 rfl fl_X8_7 rfl ?_
          refine v_iload_n 36 rfl dX8_learn_35 rfl ?_
          refine v_iald 37 (k := i) (I2 41 i) (by decide) rfl (by decide) dX8_learn_36 rfl rfl (by omega) (hF 41 i (by omega)) ?_
          refine v_iast 38 (k := i) (I2 41 i) (by decide) rfl (by decide) dX8_learn_37 rfl rfl (by omega) rfl (fun I37 e37 => ?_)
          refine v_iinc 41 [some (rfv x 40), some (.int (nI (r9))), some (.int (nI (i + 1)))] (nI (i + 1)) dX8_learn_38 rfl (by decide) rfl (nI_inc _) rfl ?_
          refine v_goto 20 dX8_learn_41 (by decide) ?_
          refine v_drop [some (rfv x 40), some (.int (nI (r9))), some (.int (nI (i + 1)))] (by simp [lsub, smN_s]) ?_
          refine ih I37 (fun a q h => (up2_off e37 (by omega)).trans (hF a q h)) (fun q hq => ?_)
          by_cases y : q = i
          · rw [y]
            exact up2_at e37
          · exact (up2_off e37 (by omega)).trans (hA q (by omega))
    refine v_drop [some (rfv x 40), some (.int (nI (r9))), some (.int (nI (0)))] (by simp [lsub, smN, amN, dbW, mxN]) ?_
    exact lp 0 (Nat.zero_le _) I2 (fun a q _ => rfl) (fun q h => absurd h (Nat.not_lt_zero q))
  · skip
    refine v_bipush 17 ((-2)) (by decide) dX8_learn_15 rfl ?_
    refine v_iret rfl dX8_learn_17 ?_
    refine qZ (hQ I2 L lo2 ?_) (by rw [lnA, if_pos h12])
    simp only [lnB, if_pos h12]
    exact ri2
