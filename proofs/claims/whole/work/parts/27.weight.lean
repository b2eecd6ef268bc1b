def wgA (f : Vw) (z s t o : Int32) : Int32 := if inb z 3 = 0 then (-2) else if noP f z s t then (-1) else if o = 0 then nI (f (pv z s t)) else nI (odN (fm f (ix z) (ix s)) (fz (f 0) (ix z)) (me (ix z) (ix s) (ix t)))
set_option maxHeartbeats 4000000 in
theorem sp_X7_weight {x : Cx} {Q : Qt} {I : Iv} {L : Lv} {P : Pv} {f : Vw} (c : RC 1 f I) (w : Wf f) {z s t o : Int32} (hQ : ∀ I1 L1, Kp I I1 → Q (some (.int (wgA f z s t o))) I1 L1 P) : SP x M_X7_weight [rfv x 0, .int (z), .int (s), .int (t), .int (o)] I L P Q := by
  have := w.n4
  have := w.m6
  refine SP.intro [some (rfv x 0), some (.int (z)), some (.int (s)), some (.int (t)), some (.int (o))] pn_X7_weight (Nat.le_of_ble_eq_true rfl) rfl ?_
  refine v_iload_n 1 rfl dX7_weight_0 rfl ?_
  refine v_invT 4 M_X7_isKind [.int (z)] dX7_weight_1 rfl ml_X7_65 sm_X7_isKind mc_X7_isKind (by decide) (Nat.le_of_ble_eq_true rfl) (sp_X7_isKind ?_)
  refine v_ifN_ne 10 7 dX7_weight_4 (by decide) rfl (by have := inb_lt z 3; omega) (fun h4 => ?_) (fun h4 => ?_)
  · skip
    have hb := h4
    obtain ⟨k, hk, ez⟩ := inb_1 (by decide) hb
    subst ez
    refine v_aload_n 11 rfl dX7_weight_10 rfl ?_
    refine v_get 14 (k := 0) 7 (rfv x 1) (by decide) rfl (by decide) (by decide) dX7_weight_11 rfl fl_X7_15 rfl ?_
    refine v_iload_n 15 rfl dX7_weight_14 rfl ?_
    refine v_iload_n 16 rfl dX7_weight_15 rfl ?_
    refine v_iload_n 17 rfl dX7_weight_16 rfl ?_
    refine v_invV 20 M_X3_hasWeight [.int (nI (k)), .int (s), .int (t)] (by decide) rfl (by decide) rfl dX7_weight_17 rfl ml_X7_69 im_X3_hasWeight se_X3_hasWeight mc_X3_hasWeight (by decide) (Nat.le_of_ble_eq_true rfl) (sp_X3_hasWeight c w hk ?_)
    refine v_ifN_ne 25 23 dX7_weight_20 (by decide) rfl (by split <;> omega) (fun h20 => ?_) (fun h20 => ?_)
    · skip
      have hn : ¬ noP f (nI k) s t := fun q => h20 (if_pos q)
      obtain ⟨i, j, hi, hj, es, ej⟩ := noP_ok w hk hn
      subst es
      subst ej
      have hg := tg_lt (k := k) w.n4
      have hp := PC.of hk hi hj
      have hp9 := hp.lt w
      have h6w := w.at hp
      have ei : ix (nI i) = i := ix_n (by omega)
      have ej : ix (nI j) = j := ix_n (by omega)
      have ek : ix (nI k) = k := ix_n (by omega)
      have ep : pv (nI k) (nI i) (nI j) = pl k i j := pv_n hk (by omega) (by omega)
      refine v_iload 27 rfl dX7_weight_25 rfl ?_
      refine v_if_eq 43 30 dX7_weight_27 (by decide) rfl (fun h27 => ?_) (fun h27 => ?_)
      · skip
        refine v_aload_n 44 rfl dX7_weight_43 rfl ?_
        refine v_get 47 (k := 0) 7 (rfv x 1) (by decide) rfl (by decide) (by decide) dX7_weight_44 rfl fl_X7_15 rfl ?_
        refine v_getN 50 (k := 0) 3 (rfv x 2) (by decide) rfl (by decide) (by decide) dX7_weight_47 rfl fl_X7_77 rfl ?_
        refine v_iload_n 51 rfl dX7_weight_50 rfl ?_
        refine v_iload_n 52 rfl dX7_weight_51 rfl ?_
        refine v_iload_n 53 rfl dX7_weight_52 rfl ?_
        refine v_invT 56 M_X3_cellOf [.int (nI (k)), .int (nI (i)), .int (nI (j))] dX7_weight_53 rfl ml_X7_73 sm_X3_cellOf mc_X3_cellOf (by decide) (Nat.le_of_ble_eq_true rfl) (sp_X3_cellOf (by omega) (by omega) (by omega) ?_)
        refine v_iald 57 (k := cl k i j) (nI (f (pl k i j))) (by decide) rfl (by decide) dX7_weight_56 rfl rfl (by omega) (c.at hp) ?_
        refine v_iret rfl dX7_weight_57 ?_
        first
        | exact qZ (hQ I L (Kp.rf I)) (by rw [wgA, if_neg hb, if_neg hn, if_pos h27, ep])
        | exact qZ (hQ I L (Kp.rf I)) (by rw [wgA, if_neg hb, if_neg hn, if_neg h27, ei, ej, ek])
      · skip
        refine v_aload_n 31 rfl dX7_weight_30 rfl ?_
        refine v_get 34 (k := 0) 7 (rfv x 1) (by decide) rfl (by decide) (by decide) dX7_weight_31 rfl fl_X7_15 rfl ?_
        refine v_iload_n 35 rfl dX7_weight_34 rfl ?_
        refine v_iload_n 36 rfl dX7_weight_35 rfl ?_
        refine v_iload_n 37 rfl dX7_weight_36 rfl ?_
        refine v_invV 40 M_X3_oddsOf [.int (nI (k)), .int (nI (i)), .int (nI (j))] (by decide) rfl (by decide) rfl dX7_weight_37 rfl ml_X7_165 im_X3_oddsOf se_X3_oddsOf mc_X3_oddsOf (by decide) (Nat.le_of_ble_eq_true rfl) (sp_X3_oddsOf c w hk hi hj ?_)
        refine v_goto 57 dX7_weight_40 (by decide) ?_
        refine v_iret rfl dX7_weight_57 ?_
        first
        | exact qZ (hQ I L (Kp.rf I)) (by rw [wgA, if_neg hb, if_neg hn, if_pos h27, ep])
        | exact qZ (hQ I L (Kp.rf I)) (by rw [wgA, if_neg hb, if_neg hn, if_neg h27, ei, ej, ek])
    · skip
      refine v_iconst 24 ((-1)) (by decide) dX7_weight_23 rfl ?_
      refine v_iret rfl dX7_weight_24 ?_
      have hn : noP f (nI k) s t := Classical.byContradiction (fun q => by rw [if_neg q] at h20; exact absurd h20 (by decide))
      exact qZ (hQ I L (Kp.rf I)) (by rw [wgA, if_neg hb, if_pos hn])
  · skip
    refine v_bipush 9 ((-2)) (by decide) dX7_weight_7 rfl ?_
    refine v_iret rfl dX7_weight_9 ?_
    exact qZ (hQ I L (Kp.rf I)) (by rw [wgA, if_pos h4])
set_option maxHeartbeats 4000000 in
theorem sp_X8_laysOdds {x : Cx} {Q : Qt} {I : Iv} {L : Lv} {P : Pv} {o n : Nat} {v : Nat → Nat} (h1 : 1 ≤ n) (hn : n ≤ 4) (ho : o + n ≤ 83) (hv : ∀ j, j < n → I 41 (o + j) = nI (v j)) (h6v : ∀ j, j < n → v j ≤ 6) (hQ : ∀ I1 : Iv, (∀ a q, a ≠ 51 → a ≠ 52 → I1 a q = I a q) → (∀ j, j < n → I1 52 j = nI (odN v n j)) → Q none I1 L P) : SP x M_X8_laysOdds [rfv x 40, .int (nI (o)), .int (nI (n))] I L P Q := by
  have hfin0 := fun hs j hj => fin_odN (n := n) (w := v) h1 hn h6v hs (j := j) hj
  have hod0 := fun j (hj : j < n) => odN_congr (n := n) (w := v) (v := cut n v) (fun i hi => (cut_at hn hi).symm) hj
  have hI0 := fun j (hj : j < n) => (hv j hj).trans (congrArg nI (cut_at (w := v) hn hj).symm)
  have h60 := fun j (hj : j < n) => Nat.le_trans (Nat.le_of_eq (cut_at (w := v) hn hj)) (h6v j hj)
  generalize cut n v = u at hfin0 hod0 hI0 h60
  have hfin : smN n u ≠ 0 → ∀ j, j < n → finN n (lfN u (smN n u) n) (pq u (smN n u)) (fun i => pr u (smN n u) i + 1) j = odN u n j := hfin0
  have hod : ∀ j, j < n → odN v n j = odN u n j := hod0
  have hI : ∀ j, j < n → I 41 (o + j) = nI (u j) := hI0
  have h6 : ∀ j, j < n → u j ≤ 6 := h60
  have hsum : smN n u ≤ n * 6 := smN_le h6
  have hz : smN n u = 0 → ∀ j, j < n → pq u (smN n u) j = 0 ∧ pr u (smN n u) j = 0 := fun e j hj => by
    have h0 := smN_zero e j hj
    unfold pq pr
    rw [h0, e]
    exact ⟨rfl, rfl⟩
  refine SP.intro [some (rfv x 40), some (.int (nI (o))), some (.int (nI (n))), none, none, none, none] pn_X8_laysOdds (Nat.le_of_ble_eq_true rfl) rfl ?_
  refine v_iconst 1 (nI (0)) (by decide) dX8_laysOdds_0 rfl ?_
  refine v_istore_n 2 [some (rfv x 40), some (.int (nI (o))), some (.int (nI (n))), some (.int (nI (0))), none, none, none] dX8_laysOdds_1 rfl (by decide) rfl ?_
  refine v_sipush 5 (nI (1000)) (by decide) dX8_laysOdds_2 rfl ?_
  refine v_istore 7 [some (rfv x 40), some (.int (nI (o))), some (.int (nI (n))), some (.int (nI (0))), some (.int (nI (1000))), none, none] dX8_laysOdds_5 rfl (by decide) rfl ?_
  refine v_iconst 8 (nI (0)) (by decide) dX8_laysOdds_7 rfl ?_
  refine v_istore 10 [some (rfv x 40), some (.int (nI (o))), some (.int (nI (n))), some (.int (nI (0))), some (.int (nI (1000))), some (.int (nI (0))), none] dX8_laysOdds_8 rfl (by decide) rfl ?_
  have l1 : ∀ i, i ≤ n → V x M_X8_laysOdds Q 10 [some (rfv x 40), some (.int (nI (o))), some (.int (nI (n))), some (.int (nI (smN i u))), some (.int (nI (1000))), some (.int (nI (i))), none] [] I L P := by
    refine lpU ?_ ?_
    · skip
      refine v_iload 12 rfl dX8_laysOdds_10 rfl ?_
      refine v_iload_n 13 rfl dX8_laysOdds_12 rfl ?_
      refine v_icmpN_ge 34 16 dX8_laysOdds_13 (by decide) rfl (by omega) (by omega) (fun h13 => ?_) (fun h13 => ?_)
      · skip
        refine v_iconst 35 (nI (0)) (by decide) dX8_laysOdds_34 rfl ?_
        refine v_istore 37 [some (rfv x 40), some (.int (nI (o))), some (.int (nI (n))), some (.int (nI (smN n u))), some (.int (nI (1000))), some (.int (nI (0))), none] dX8_laysOdds_35 rfl (by decide) rfl ?_
        have lq : ∀ i, i ≤ n → ∀ Ij : Iv, (∀ q, q < i → Ij 52 q = nI (pq u (smN n u) q)) → (∀ q, q < i → Ij 51 q = nI (pr u (smN n u) q)) → (∀ a q, a ≠ 51 → a ≠ 52 → Ij a q = I a q) → V x M_X8_laysOdds Q 37 [some (rfv x 40), some (.int (nI (o))), some (.int (nI (n))), some (.int (nI (smN n u))), some (.int (nI (lfN u (smN n u) i))), some (.int (nI (i))), none] [] Ij L P := by
          refine lpU ?_ ?_
          · intro Ij gA gB gF
            refine v_iload 39 rfl dX8_laysOdds_37 rfl ?_
            refine v_iload_n 40 rfl dX8_laysOdds_39 rfl ?_
            refine v_icmpN_ge 121 43 dX8_laysOdds_40 (by decide) rfl (by omega) (by omega) (fun h40 => ?_) (fun h40 => ?_)
            · skip
              by_cases hs0 : smN n u = 0
              · skip
                refine v_iload 123 rfl dX8_laysOdds_121 rfl ?_
                refine v_ifN_le 199 126 dX8_laysOdds_123 (by decide) rfl (by unfold lfN; omega) (fun h123 => ?_) (fun h123 => ?_)
                · skip
                  refine v_vret rfl dX8_laysOdds_199 ?_
                  refine hQ Ij gF (fun j hj => ?_)
                  rw [gA j hj, hod j hj, (hz hs0 j hj).1, odN, if_pos hs0]
                · skip
                  refine v_iload_n 127 rfl dX8_laysOdds_126 rfl ?_
                  refine v_ifN_le 199 130 dX8_laysOdds_127 (by decide) rfl (by omega) (fun h127 => ?_) (fun h127 => ?_)
                  · skip
                    refine v_vret rfl dX8_laysOdds_199 ?_
                    refine hQ Ij gF (fun j hj => ?_)
                    rw [gA j hj, hod j hj, (hz hs0 j hj).1, odN, if_pos hs0]
                  · skip
                    exact absurd h127 (by omega)
              have lp : ∀ l, l ≤ lfN u (smN n u) n → ∀ (O R : Nat → Nat) (Ij : Iv), (∀ j, j < n → Ij 52 j = nI (O j)) → (∀ j, j < n → Ij 51 j = rv (R j)) → (∀ j, j < n → R j < 2 ^ 30) → (∀ a q, a ≠ 51 → a ≠ 52 → Ij a q = I a q) → (∀ j, j < n → finN n l O R j = odN u n j) → V x M_X8_laysOdds Q 121 [some (rfv x 40), some (.int (nI (o))), some (.int (nI (n))), some (.int (nI (smN n u))), some (.int (nI (l))), none, none] [] Ij L P := by
                intro l
                induction l with
                | zero =>
                  intro hl O R Ij hO hR hB hF hfn
                  refine v_iload 123 rfl dX8_laysOdds_121 rfl ?_
                  refine v_ifN_le 199 126 dX8_laysOdds_123 (by decide) rfl (by decide) (fun _ => ?_) (fun h => absurd h (by decide))
                  refine v_vret rfl dX8_laysOdds_199 ?_
                  refine hQ Ij hF (fun j hj => ?_)
                  rw [hO j hj, hod j hj]
                  exact congrArg nI (hfn j hj)
                | succ l ih =>
                  intro hl O R Ij hO hR hB hF hfn
                  refine v_iload 123 rfl dX8_laysOdds_121 rfl ?_
                  refine v_ifN_le 199 126 dX8_laysOdds_123 (by decide) rfl (by unfold lfN at hl; omega) (fun h123 => ?_) (fun h123 => ?_)
                  · skip
                    exact absurd h123 (by omega)
                  · skip
                    refine v_iload_n 127 rfl dX8_laysOdds_126 rfl ?_
                    refine v_ifN_le 199 130 dX8_laysOdds_127 (by decide) rfl (by omega) (fun h127 => ?_) (fun h127 => ?_)
                    · skip
                      exact absurd h127 (by omega)
                    · skip
                      refine v_iconst 131 (nI (0)) (by decide) dX8_laysOdds_130 rfl ?_
                      refine v_istore 133 [some (rfv x 40), some (.int (nI (o))), some (.int (nI (n))), some (.int (nI (smN n u))), some (.int (nI (l + 1))), some (.int (nI (0))), none] dX8_laysOdds_131 rfl (by decide) rfl ?_
                      refine v_iconst 134 (nI (1)) (by decide) dX8_laysOdds_133 rfl ?_
                      refine v_istore 136 [some (rfv x 40), some (.int (nI (o))), some (.int (nI (n))), some (.int (nI (smN n u))), some (.int (nI (l + 1))), some (.int (nI (0))), some (.int (nI (1)))] dX8_laysOdds_134 rfl (by decide) rfl ?_
                      have hb := bsN_lt R (n := n) (m := n) (Nat.le_refl n) (by omega)
                      have lb : ∀ i, i ≤ n → V x M_X8_laysOdds Q 136 [some (rfv x 40), some (.int (nI (o))), some (.int (nI (n))), some (.int (nI (smN n u))), some (.int (nI (l + 1))), some (.int (nI (bsN R i))), some (.int (nI (i)))] [] Ij L P := by
                        refine lpU ?_ ?_
                        · skip
                          refine v_iload 138 rfl dX8_laysOdds_136 rfl ?_
                          refine v_iload_n 139 rfl dX8_laysOdds_138 rfl ?_
                          refine v_icmpN_ge 174 142 dX8_laysOdds_139 (by decide) rfl (by omega) (by omega) (fun h139 => ?_) (fun h139 => ?_)
                          · skip
                            refine v_aload_n 175 rfl dX8_laysOdds_174 rfl ?_
                            refine v_get 178 (k := 15) 8 (rfv x 52) (by decide) rfl (by decide) (by decide) dX8_laysOdds_175 rfl fl_X8_44 rfl ?_
                            refine v_iload 180 rfl dX8_laysOdds_178 rfl ?_
                            refine v_dup2 181 dX8_laysOdds_180 rfl rfl rfl ?_
                            refine v_iald 182 (k := bsN R n) (nI (O (bsN R n))) (by decide) rfl (by decide) dX8_laysOdds_181 rfl rfl (by omega) (hO _ hb) ?_
                            refine v_iconst 183 (nI (1)) (by decide) dX8_laysOdds_182 rfl ?_
                            refine v_iadd 184 (nI ((O (bsN R n)) + 1)) dX8_laysOdds_183 rfl (nI_add _ _) ?_
                            refine v_iast 185 (k := bsN R n) (nI ((O (bsN R n)) + 1)) (by decide) rfl (by decide) dX8_laysOdds_184 rfl rfl (by omega) rfl (fun I184 e184 => ?_)
                            refine v_aload_n 186 rfl dX8_laysOdds_185 rfl ?_
                            refine v_get 189 (k := 14) 8 (rfv x 51) (by decide) rfl (by decide) (by decide) dX8_laysOdds_186 rfl fl_X8_41 rfl ?_
                            refine v_iload 191 rfl dX8_laysOdds_189 rfl ?_
                            refine v_iconst 192 ((-1)) (by decide) dX8_laysOdds_191 rfl ?_
                            refine v_iast 193 (k := bsN R n) ((-1)) (by decide) rfl (by decide) dX8_laysOdds_192 rfl rfl (by omega) rfl (fun I192 e192 => ?_)
                            refine v_iinc 196 [some (rfv x 40), some (.int (nI (o))), some (.int (nI (n))), some (.int (nI (smN n u))), some (.int (nI (l))), some (.int (nI (bsN R n))), some (.int (nI (n)))] (nI (l)) dX8_laysOdds_193 rfl (by decide) rfl (nI_dec (by omega)) rfl ?_
                            refine v_goto 121 dX8_laysOdds_196 (by decide) ?_
                            refine v_drop [some (rfv x 40), some (.int (nI (o))), some (.int (nI (n))), some (.int (nI (smN n u))), some (.int (nI (l))), none, none] (by simp [lsub, smN_s]) ?_
                            refine ih (by omega) (upb O (bsN R n) (O (bsN R n) + 1)) (upb R (bsN R n) 0) I192 (fun j hj => ?_) (fun j hj => ?_) (fun j hj => ?_) (fun a q z1 z2 => (up2_off e192 (by omega)).trans ((up2_off e184 (by omega)).trans (hF a q z1 z2))) hfn
                            · rw [up2_off e192 (by omega)]
                              by_cases z : j = bsN R n
                              · rw [z, upb_at]
                                exact up2_at e184
                              · rw [upb_ne z]
                                exact (up2_off e184 (by omega)).trans (hO j hj)
                            · by_cases z : j = bsN R n
                              · rw [z, upb_at]
                                exact up2_at e192
                              · rw [upb_ne z]
                                exact (up2_off e192 (by omega)).trans ((up2_off e184 (by omega)).trans (hR j hj))
                            · by_cases z : j = bsN R n
                              · rw [z, upb_at]
                                decide
                              · rw [upb_ne z]
                                exact hB j hj
                          · skip
                            exact absurd h139 (by omega)
                        · intro i hi ih 
                          have hbi := bsN_lt R (n := n) (m := i) (by omega) (by omega)
                          have hcmp := rv_le (hB i hi) (hB _ hbi)
                          refine v_iload 138 rfl dX8_laysOdds_136 rfl ?_
                          refine v_iload_n 139 rfl dX8_laysOdds_138 rfl ?_
                          refine v_icmpN_ge 174 142 dX8_laysOdds_139 (by decide) rfl (by omega) (by omega) (fun h139 => ?_) (fun h139 => ?_)
                          · skip
                            exact absurd h139 (by omega)
                          · skip
                            refine v_aload_n 143 rfl dX8_laysOdds_142 rfl ?_
                            refine v_get 146 (k := 14) 8 (rfv x 51) (by decide) rfl (by decide) (by decide) dX8_laysOdds_143 rfl fl_X8_41 rfl ?_
                            refine v_iload 148 rfl dX8_laysOdds_146 rfl ?_
                            refine v_iald 149 (k := i) (rv (R i)) (by decide) rfl (by decide) dX8_laysOdds_148 rfl rfl (by omega) (hR i hi) ?_
                            refine v_aload_n 150 rfl dX8_laysOdds_149 rfl ?_
                            refine v_get 153 (k := 14) 8 (rfv x 51) (by decide) rfl (by decide) (by decide) dX8_laysOdds_150 rfl fl_X8_41 rfl ?_
                            refine v_iload 155 rfl dX8_laysOdds_153 rfl ?_
                            refine v_iald 156 (k := bsN R i) (rv (R (bsN R i))) (by decide) rfl (by decide) dX8_laysOdds_155 rfl rfl (by omega) (hR _ hbi) ?_
                            refine v_icmp_le 164 159 dX8_laysOdds_156 (by decide) rfl (fun h156 => ?_) (fun h156 => ?_)
                            · skip
                              refine v_iload 166 rfl dX8_laysOdds_164 rfl ?_
                              refine v_istore 168 [some (rfv x 40), some (.int (nI (o))), some (.int (nI (n))), some (.int (nI (smN n u))), some (.int (nI (l + 1))), some (.int (nI (bsN R i))), some (.int (nI (i)))] dX8_laysOdds_166 rfl (by decide) rfl ?_
                              refine v_iinc 171 [some (rfv x 40), some (.int (nI (o))), some (.int (nI (n))), some (.int (nI (smN n u))), some (.int (nI (l + 1))), some (.int (nI (bsN R i))), some (.int (nI (i + 1)))] (nI (i + 1)) dX8_laysOdds_168 rfl (by decide) rfl (nI_inc _) rfl ?_
                              refine v_goto 136 dX8_laysOdds_171 (by decide) ?_
                              refine v_drop [some (rfv x 40), some (.int (nI (o))), some (.int (nI (n))), some (.int (nI (smN n u))), some (.int (nI (l + 1))), some (.int (nI (bsN R (i + 1)))), some (.int (nI (i + 1)))] (by
                                have e9 : bsN R (i + 1) = bsN R i := by
                                  rw [bsN_s]
                                  first
                                  | exact if_pos (by rw [hcmp] at h156; omega)
                                  | exact if_neg (by rw [hcmp] at h156; omega)
                                simp [lsub, e9]) ?_
                              exact ih
                            · skip
                              refine v_iload 161 rfl dX8_laysOdds_159 rfl ?_
                              refine v_goto 166 dX8_laysOdds_161 (by decide) ?_
                              refine v_istore 168 [some (rfv x 40), some (.int (nI (o))), some (.int (nI (n))), some (.int (nI (smN n u))), some (.int (nI (l + 1))), some (.int (nI (i))), some (.int (nI (i)))] dX8_laysOdds_166 rfl (by decide) rfl ?_
                              refine v_iinc 171 [some (rfv x 40), some (.int (nI (o))), some (.int (nI (n))), some (.int (nI (smN n u))), some (.int (nI (l + 1))), some (.int (nI (i))), some (.int (nI (i + 1)))] (nI (i + 1)) dX8_laysOdds_168 rfl (by decide) rfl (nI_inc _) rfl ?_
                              refine v_goto 136 dX8_laysOdds_171 (by decide) ?_
                              refine v_drop [some (rfv x 40), some (.int (nI (o))), some (.int (nI (n))), some (.int (nI (smN n u))), some (.int (nI (l + 1))), some (.int (nI (bsN R (i + 1)))), some (.int (nI (i + 1)))] (by
                                have e9 : bsN R (i + 1) = i := by
                                  rw [bsN_s]
                                  first
                                  | exact if_pos (by rw [hcmp] at h156; omega)
                                  | exact if_neg (by rw [hcmp] at h156; omega)
                                simp [lsub, e9]) ?_
                              exact ih
                      refine v_drop [some (rfv x 40), some (.int (nI (o))), some (.int (nI (n))), some (.int (nI (smN n u))), some (.int (nI (l + 1))), some (.int (nI (bsN R 1))), some (.int (nI (1)))] (by simp [lsub, bsN_1]) ?_
                      exact lb 1 h1
              refine v_drop [some (rfv x 40), some (.int (nI (o))), some (.int (nI (n))), some (.int (nI (smN n u))), some (.int (nI (lfN u (smN n u) n))), none, none] (by simp [lsub, smN_s]) ?_
              refine lp _ (Nat.le_refl _) (pq u (smN n u)) (fun i => pr u (smN n u) i + 1) Ij gA (fun j hj => ?_) (fun j hj => ?_) gF (hfin hs0)
              · rw [gB j hj]
                simp [rv]
              · have h9 : pr u (smN n u) j ≤ 1000 * u j := Nat.mod_le _ _
                have := h6 j hj
                show pr u (smN n u) j + 1 < 2 ^ 30
                omega
            · skip
              exact absurd h40 (by omega)
          · intro i hi ih Ij gA gB gF
            have h6i := h6 i hi
            refine v_iload 39 rfl dX8_laysOdds_37 rfl ?_
            refine v_iload_n 40 rfl dX8_laysOdds_39 rfl ?_
            refine v_icmpN_ge 121 43 dX8_laysOdds_40 (by decide) rfl (by omega) (by omega) (fun h40 => ?_) (fun h40 => ?_)
            · skip
              exact absurd h40 (by omega)
            · skip
              refine v_aload_n 44 rfl dX8_laysOdds_43 rfl ?_
              refine v_get 47 (k := 15) 8 (rfv x 52) (by decide) rfl (by decide) (by decide) dX8_laysOdds_44 rfl fl_X8_44 rfl ?_
              refine v_iload 49 rfl dX8_laysOdds_47 rfl ?_
              refine v_iload_n 50 rfl dX8_laysOdds_49 rfl ?_
              refine v_ifN_ne 57 53 dX8_laysOdds_50 (by decide) rfl (by omega) (fun h50 => ?_) (fun h50 => ?_)
              · skip
                refine v_sipush 60 (nI (1000)) (by decide) dX8_laysOdds_57 rfl ?_
                refine v_aload_n 61 rfl dX8_laysOdds_60 rfl ?_
                refine v_get 64 (k := 1) 8 (rfv x 41) (by decide) rfl (by decide) (by decide) dX8_laysOdds_61 rfl fl_X8_7 rfl ?_
                refine v_iload_n 65 rfl dX8_laysOdds_64 rfl ?_
                refine v_iload 67 rfl dX8_laysOdds_65 rfl ?_
                refine v_iadd 68 (nI (o + i)) dX8_laysOdds_67 rfl (nI_add _ _) ?_
                refine v_iald 69 (k := o + i) (nI (u i)) (by decide) rfl (by decide) dX8_laysOdds_68 rfl rfl (by omega) ((gF 41 _ (by decide) (by decide)).trans (hI i hi)) ?_
                refine v_imul 70 (nI (1000 * (u i))) dX8_laysOdds_69 rfl (pk_mul _ _) ?_
                refine v_iload_n 71 rfl dX8_laysOdds_70 rfl ?_
                refine v_idiv 72 (nI ((1000 * (u i)) / (smN n u))) dX8_laysOdds_71 rfl (nI_ne0 (by omega) (by omega)) (pk_div (by omega) (by omega) (by omega)) ?_
                refine v_iast 73 (k := i) (nI ((1000 * (u i)) / (smN n u))) (by decide) rfl (by decide) dX8_laysOdds_72 rfl rfl (by omega) rfl (fun I72 e72 => ?_)
                refine v_aload_n 74 rfl dX8_laysOdds_73 rfl ?_
                refine v_get 77 (k := 14) 8 (rfv x 51) (by decide) rfl (by decide) (by decide) dX8_laysOdds_74 rfl fl_X8_41 rfl ?_
                refine v_iload 79 rfl dX8_laysOdds_77 rfl ?_
                refine v_iload_n 80 rfl dX8_laysOdds_79 rfl ?_
                refine v_ifN_ne 87 83 dX8_laysOdds_80 (by decide) rfl (by omega) (fun h80 => ?_) (fun h80 => ?_)
                · skip
                  refine v_sipush 90 (nI (1000)) (by decide) dX8_laysOdds_87 rfl ?_
                  refine v_aload_n 91 rfl dX8_laysOdds_90 rfl ?_
                  refine v_get 94 (k := 1) 8 (rfv x 41) (by decide) rfl (by decide) (by decide) dX8_laysOdds_91 rfl fl_X8_7 rfl ?_
                  refine v_iload_n 95 rfl dX8_laysOdds_94 rfl ?_
                  refine v_iload 97 rfl dX8_laysOdds_95 rfl ?_
                  refine v_iadd 98 (nI (o + i)) dX8_laysOdds_97 rfl (nI_add _ _) ?_
                  refine v_iald 99 (k := o + i) (nI (u i)) (by decide) rfl (by decide) dX8_laysOdds_98 rfl rfl (by omega) ((up2_off e72 (by omega)).trans ((gF 41 _ (by decide) (by decide)).trans (hI i hi))) ?_
                  refine v_imul 100 (nI (1000 * (u i))) dX8_laysOdds_99 rfl (pk_mul _ _) ?_
                  refine v_iload_n 101 rfl dX8_laysOdds_100 rfl ?_
                  refine v_irem 102 (nI ((1000 * (u i)) % (smN n u))) dX8_laysOdds_101 rfl (nI_ne0 (by omega) (by omega)) (pk_rem (by omega) (by omega) (by omega)) ?_
                  refine v_iast 103 (k := i) (nI ((1000 * (u i)) % (smN n u))) (by decide) rfl (by decide) dX8_laysOdds_102 rfl rfl (by omega) rfl (fun I102 e102 => ?_)
                  refine v_iload 105 rfl dX8_laysOdds_103 rfl ?_
                  refine v_aload_n 106 rfl dX8_laysOdds_105 rfl ?_
                  refine v_get 109 (k := 15) 8 (rfv x 52) (by decide) rfl (by decide) (by decide) dX8_laysOdds_106 rfl fl_X8_44 rfl ?_
                  refine v_iload 111 rfl dX8_laysOdds_109 rfl ?_
                  refine v_iald 112 (k := i) (nI (pq u (smN n u) i)) (by decide) rfl (by decide) dX8_laysOdds_111 rfl rfl (by omega) ((up2_off e102 (by omega)).trans ((up2_at e72).trans (congrArg nI (by first | rfl | exact (hz h50 i hi).1.symm)))) ?_
                  refine v_isub 113 (nI (lfN u (smN n u) (i + 1))) dX8_laysOdds_112 rfl (lf_sub hi) ?_
                  refine v_istore 115 [some (rfv x 40), some (.int (nI (o))), some (.int (nI (n))), some (.int (nI (smN n u))), some (.int (nI (lfN u (smN n u) (i + 1)))), some (.int (nI (i))), none] dX8_laysOdds_113 rfl (by decide) rfl ?_
                  refine v_iinc 118 [some (rfv x 40), some (.int (nI (o))), some (.int (nI (n))), some (.int (nI (smN n u))), some (.int (nI (lfN u (smN n u) (i + 1)))), some (.int (nI (i + 1))), none] (nI (i + 1)) dX8_laysOdds_115 rfl (by decide) rfl (nI_inc _) rfl ?_
                  refine v_goto 37 dX8_laysOdds_118 (by decide) ?_
                  refine v_drop [some (rfv x 40), some (.int (nI (o))), some (.int (nI (n))), some (.int (nI (smN n u))), some (.int (nI (lfN u (smN n u) (i + 1)))), some (.int (nI (i + 1))), none] (by simp [lsub, smN_s]) ?_
                  refine ih I102 (fun q hq => ?_) (fun q hq => ?_) (fun a q z1 z2 => (up2_off e102 (by omega)).trans ((up2_off e72 (by omega)).trans (gF a q z1 z2)))
                  · rw [up2_off e102 (by omega)]
                    by_cases z : q = i
                    · subst z
                      exact (up2_at e72).trans (congrArg nI (by first | rfl | exact (hz h50 q hi).1.symm))
                    · exact (up2_off e72 (by omega)).trans (gA q (by omega))
                  · by_cases z : q = i
                    · subst z
                      exact (up2_at e102).trans (congrArg nI (by first | rfl | exact (hz h80 q hi).2.symm))
                    · exact (up2_off e102 (by omega)).trans ((up2_off e72 (by omega)).trans (gB q (by omega)))
                · skip
                  refine v_iconst 84 (nI (0)) (by decide) dX8_laysOdds_83 rfl ?_
                  refine v_goto 102 dX8_laysOdds_84 (by decide) ?_
                  refine v_iast 103 (k := i) (nI (0)) (by decide) rfl (by decide) dX8_laysOdds_102 rfl rfl (by omega) rfl (fun I102 e102 => ?_)
                  refine v_iload 105 rfl dX8_laysOdds_103 rfl ?_
                  refine v_aload_n 106 rfl dX8_laysOdds_105 rfl ?_
                  refine v_get 109 (k := 15) 8 (rfv x 52) (by decide) rfl (by decide) (by decide) dX8_laysOdds_106 rfl fl_X8_44 rfl ?_
                  refine v_iload 111 rfl dX8_laysOdds_109 rfl ?_
                  refine v_iald 112 (k := i) (nI (pq u (smN n u) i)) (by decide) rfl (by decide) dX8_laysOdds_111 rfl rfl (by omega) ((up2_off e102 (by omega)).trans ((up2_at e72).trans (congrArg nI (by first | rfl | exact (hz h50 i hi).1.symm)))) ?_
                  refine v_isub 113 (nI (lfN u (smN n u) (i + 1))) dX8_laysOdds_112 rfl (lf_sub hi) ?_
                  refine v_istore 115 [some (rfv x 40), some (.int (nI (o))), some (.int (nI (n))), some (.int (nI (smN n u))), some (.int (nI (lfN u (smN n u) (i + 1)))), some (.int (nI (i))), none] dX8_laysOdds_113 rfl (by decide) rfl ?_
                  refine v_iinc 118 [some (rfv x 40), some (.int (nI (o))), some (.int (nI (n))), some (.int (nI (smN n u))), some (.int (nI (lfN u (smN n u) (i + 1)))), some (.int (nI (i + 1))), none] (nI (i + 1)) dX8_laysOdds_115 rfl (by decide) rfl (nI_inc _) rfl ?_
                  refine v_goto 37 dX8_laysOdds_118 (by decide) ?_
                  refine v_drop [some (rfv x 40), some (.int (nI (o))), some (.int (nI (n))), some (.int (nI (smN n u))), some (.int (nI (lfN u (smN n u) (i + 1)))), some (.int (nI (i + 1))), none] (by simp [lsub, smN_s]) ?_
                  refine ih I102 (fun q hq => ?_) (fun q hq => ?_) (fun a q z1 z2 => (up2_off e102 (by omega)).trans ((up2_off e72 (by omega)).trans (gF a q z1 z2)))
                  · rw [up2_off e102 (by omega)]
                    by_cases z : q = i
                    · subst z
                      exact (up2_at e72).trans (congrArg nI (by first | rfl | exact (hz h50 q hi).1.symm))
                    · exact (up2_off e72 (by omega)).trans (gA q (by omega))
                  · by_cases z : q = i
                    · subst z
                      exact (up2_at e102).trans (congrArg nI (by first | rfl | exact (hz h80 q hi).2.symm))
                    · exact (up2_off e102 (by omega)).trans ((up2_off e72 (by omega)).trans (gB q (by omega)))
              · skip
                refine v_iconst 54 (nI (0)) (by decide) dX8_laysOdds_53 rfl ?_
                refine v_goto 72 dX8_laysOdds_54 (by decide) ?_
                refine v_iast 73 (k := i) (nI (0)) (by decide) rfl (by decide) dX8_laysOdds_72 rfl rfl (by omega) rfl (fun I72 e72 => ?_)
                refine v_aload_n 74 rfl dX8_laysOdds_73 rfl ?_
                refine v_get 77 (k := 14) 8 (rfv x 51) (by decide) rfl (by decide) (by decide) dX8_laysOdds_74 rfl fl_X8_41 rfl ?_
                refine v_iload 79 rfl dX8_laysOdds_77 rfl ?_
                refine v_iload_n 80 rfl dX8_laysOdds_79 rfl ?_
                refine v_ifN_ne 87 83 dX8_laysOdds_80 (by decide) rfl (by omega) (fun h80 => ?_) (fun h80 => ?_)
                · skip
                  refine v_sipush 90 (nI (1000)) (by decide) dX8_laysOdds_87 rfl ?_
                  refine v_aload_n 91 rfl dX8_laysOdds_90 rfl ?_
                  refine v_get 94 (k := 1) 8 (rfv x 41) (by decide) rfl (by decide) (by decide) dX8_laysOdds_91 rfl fl_X8_7 rfl ?_
                  refine v_iload_n 95 rfl dX8_laysOdds_94 rfl ?_
                  refine v_iload 97 rfl dX8_laysOdds_95 rfl ?_
                  refine v_iadd 98 (nI (o + i)) dX8_laysOdds_97 rfl (nI_add _ _) ?_
                  refine v_iald 99 (k := o + i) (nI (u i)) (by decide) rfl (by decide) dX8_laysOdds_98 rfl rfl (by omega) ((up2_off e72 (by omega)).trans ((gF 41 _ (by decide) (by decide)).trans (hI i hi))) ?_
                  refine v_imul 100 (nI (1000 * (u i))) dX8_laysOdds_99 rfl (pk_mul _ _) ?_
                  refine v_iload_n 101 rfl dX8_laysOdds_100 rfl ?_
                  refine v_irem 102 (nI ((1000 * (u i)) % (smN n u))) dX8_laysOdds_101 rfl (nI_ne0 (by omega) (by omega)) (pk_rem (by omega) (by omega) (by omega)) ?_
                  refine v_iast 103 (k := i) (nI ((1000 * (u i)) % (smN n u))) (by decide) rfl (by decide) dX8_laysOdds_102 rfl rfl (by omega) rfl (fun I102 e102 => ?_)
                  refine v_iload 105 rfl dX8_laysOdds_103 rfl ?_
                  refine v_aload_n 106 rfl dX8_laysOdds_105 rfl ?_
                  refine v_get 109 (k := 15) 8 (rfv x 52) (by decide) rfl (by decide) (by decide) dX8_laysOdds_106 rfl fl_X8_44 rfl ?_
                  refine v_iload 111 rfl dX8_laysOdds_109 rfl ?_
                  refine v_iald 112 (k := i) (nI (pq u (smN n u) i)) (by decide) rfl (by decide) dX8_laysOdds_111 rfl rfl (by omega) ((up2_off e102 (by omega)).trans ((up2_at e72).trans (congrArg nI (by first | rfl | exact (hz h50 i hi).1.symm)))) ?_
                  refine v_isub 113 (nI (lfN u (smN n u) (i + 1))) dX8_laysOdds_112 rfl (lf_sub hi) ?_
                  refine v_istore 115 [some (rfv x 40), some (.int (nI (o))), some (.int (nI (n))), some (.int (nI (smN n u))), some (.int (nI (lfN u (smN n u) (i + 1)))), some (.int (nI (i))), none] dX8_laysOdds_113 rfl (by decide) rfl ?_
                  refine v_iinc 118 [some (rfv x 40), some (.int (nI (o))), some (.int (nI (n))), some (.int (nI (smN n u))), some (.int (nI (lfN u (smN n u) (i + 1)))), some (.int (nI (i + 1))), none] (nI (i + 1)) dX8_laysOdds_115 rfl (by decide) rfl (nI_inc _) rfl ?_
                  refine v_goto 37 dX8_laysOdds_118 (by decide) ?_
                  refine v_drop [some (rfv x 40), some (.int (nI (o))), some (.int (nI (n))), some (.int (nI (smN n u))), some (.int (nI (lfN u (smN n u) (i + 1)))), some (.int (nI (i + 1))), none] (by simp [lsub, smN_s]) ?_
                  refine ih I102 (fun q hq => ?_) (fun q hq => ?_) (fun a q z1 z2 => (up2_off e102 (by omega)).trans ((up2_off e72 (by omega)).trans (gF a q z1 z2)))
                  · rw [up2_off e102 (by omega)]
                    by_cases z : q = i
                    · subst z
                      exact (up2_at e72).trans (congrArg nI (by first | rfl | exact (hz h50 q hi).1.symm))
                    · exact (up2_off e72 (by omega)).trans (gA q (by omega))
                  · by_cases z : q = i
                    · subst z
                      exact (up2_at e102).trans (congrArg nI (by first | rfl | exact (hz h80 q hi).2.symm))
                    · exact (up2_off e102 (by omega)).trans ((up2_off e72 (by omega)).trans (gB q (by omega)))
                · skip
                  refine v_iconst 84 (nI (0)) (by decide) dX8_laysOdds_83 rfl ?_
                  refine v_goto 102 dX8_laysOdds_84 (by decide) ?_
                  refine v_iast 103 (k := i) (nI (0)) (by decide) rfl (by decide) dX8_laysOdds_102 rfl rfl (by omega) rfl (fun I102 e102 => ?_)
                  refine v_iload 105 rfl dX8_laysOdds_103 rfl ?_
                  refine v_aload_n 106 rfl dX8_laysOdds_105 rfl ?_
                  refine v_get 109 (k := 15) 8 (rfv x 52) (by decide) rfl (by decide) (by decide) dX8_laysOdds_106 rfl fl_X8_44 rfl ?_
                  refine v_iload 111 rfl dX8_laysOdds_109 rfl ?_
                  refine v_iald 112 (k := i) (nI (pq u (smN n u) i)) (by decide) rfl (by decide) dX8_laysOdds_111 rfl rfl (by omega) ((up2_off e102 (by omega)).trans ((up2_at e72).trans (congrArg nI (by first | rfl | exact (hz h50 i hi).1.symm)))) ?_
                  refine v_isub 113 (nI (lfN u (smN n u) (i + 1))) dX8_laysOdds_112 rfl (lf_sub hi) ?_
                  refine v_istore 115 [some (rfv x 40), some (.int (nI (o))), some (.int (nI (n))), some (.int (nI (smN n u))), some (.int (nI (lfN u (smN n u) (i + 1)))), some (.int (nI (i))), none] dX8_laysOdds_113 rfl (by decide) rfl ?_
                  refine v_iinc 118 [some (rfv x 40), some (.int (nI (o))), some (.int (nI (n))), some (.int (nI (smN n u))), some (.int (nI (lfN u (smN n u) (i + 1)))), some (.int (nI (i + 1))), none] (nI (i + 1)) dX8_laysOdds_115 rfl (by decide) rfl (nI_inc _) rfl ?_
                  refine v_goto 37 dX8_laysOdds_118 (by decide) ?_
                  refine v_drop [some (rfv x 40), some (.int (nI (o))), some (.int (nI (n))), some (.int (nI (smN n u))), some (.int (nI (lfN u (smN n u) (i + 1)))), some (.int (nI (i + 1))), none] (by simp [lsub, smN_s]) ?_
                  refine ih I102 (fun q hq => ?_) (fun q hq => ?_) (fun a q z1 z2 => (up2_off e102 (by omega)).trans ((up2_off e72 (by omega)).trans (gF a q z1 z2)))
                  · rw [up2_off e102 (by omega)]
                    by_cases z : q = i
                    · subst z
                      exact (up2_at e72).trans (congrArg nI (by first | rfl | exact (hz h50 q hi).1.symm))
                    · exact (up2_off e72 (by omega)).trans (gA q (by omega))
                  · by_cases z : q = i
                    · subst z
                      exact (up2_at e102).trans (congrArg nI (by first | rfl | exact (hz h80 q hi).2.symm))
                    · exact (up2_off e102 (by omega)).trans ((up2_off e72 (by omega)).trans (gB q (by omega)))
        refine v_drop [some (rfv x 40), some (.int (nI (o))), some (.int (nI (n))), some (.int (nI (smN n u))), some (.int (nI (lfN u (smN n u) 0))), some (.int (nI (0))), none] (by simp [lsub, smN, lfN]) ?_
        exact lq 0 (Nat.zero_le _) I (fun q hq => absurd hq (Nat.not_lt_zero q)) (fun q hq => absurd hq (Nat.not_lt_zero q)) (fun a q _ _ => rfl)
      · skip
        exact absurd h13 (by omega)
    · intro i hi ih 
      refine v_iload 12 rfl dX8_laysOdds_10 rfl ?_
      refine v_iload_n 13 rfl dX8_laysOdds_12 rfl ?_
      refine v_icmpN_ge 34 16 dX8_laysOdds_13 (by decide) rfl (by omega) (by omega) (fun h13 => ?_) (fun h13 => ?_)
      · skip
        exact absurd h13 (by omega)
      · skip
        refine v_iload_n 17 rfl dX8_laysOdds_16 rfl ?_
        refine v_aload_n 18 rfl dX8_laysOdds_17 rfl ?_
        refine v_get 21 (k := 1) 8 (rfv x 41) (by decide) rfl (by decide) (by decide) dX8_laysOdds_18 rfl fl_X8_7 rfl ?_
        refine v_iload_n 22 rfl dX8_laysOdds_21 rfl ?_
        refine v_iload 24 rfl dX8_laysOdds_22 rfl ?_
        refine v_iadd 25 (nI (o + i)) dX8_laysOdds_24 rfl (nI_add _ _) ?_
        refine v_iald 26 (k := o + i) (nI (u i)) (by decide) rfl (by decide) dX8_laysOdds_25 rfl rfl (by omega) (hI i hi) ?_
        refine v_iadd 27 (nI ((smN i u) + (u i))) dX8_laysOdds_26 rfl (nI_add _ _) ?_
        refine v_istore_n 28 [some (rfv x 40), some (.int (nI (o))), some (.int (nI (n))), some (.int (nI ((smN i u) + (u i)))), some (.int (nI (1000))), some (.int (nI (i))), none] dX8_laysOdds_27 rfl (by decide) rfl ?_
        refine v_iinc 31 [some (rfv x 40), some (.int (nI (o))), some (.int (nI (n))), some (.int (nI ((smN i u) + (u i)))), some (.int (nI (1000))), some (.int (nI (i + 1))), none] (nI (i + 1)) dX8_laysOdds_28 rfl (by decide) rfl (nI_inc _) rfl ?_
        refine v_goto 10 dX8_laysOdds_31 (by decide) ?_
        refine v_drop [some (rfv x 40), some (.int (nI (o))), some (.int (nI (n))), some (.int (nI (smN (i + 1) u))), some (.int (nI (1000))), some (.int (nI (i + 1))), none] (by simp [lsub, smN_s]) ?_
        exact ih
  refine v_drop [some (rfv x 40), some (.int (nI (o))), some (.int (nI (n))), some (.int (nI (smN 0 u))), some (.int (nI (1000))), some (.int (nI (0))), none] (by simp [lsub, smN, amN, dbW, mxN]) ?_
  exact l1 0 (Nat.zero_le _)
set_option maxHeartbeats 4000000 in
theorem sp_X8_oddsOf {x : Cx} {Q : Qt} {I : Iv} {L : Lv} {P : Pv} {f : Vw} (r : RR (I 41) f) (w : Wf f) {k s t : Nat} (hk : k < 3) (hs : s < f 0) (ht : t < tg (f 0) k) (hQ : ∀ I1 : Iv, (∀ a q, a ≠ 51 → a ≠ 52 → I1 a q = I a q) → Q (some (.int (nI (odN (fm f k s) (fz (f 0) k) (me k s t))))) I1 L P) : SP x M_X8_oddsOf [rfv x 40, .int (nI (k)), .int (nI (s)), .int (nI (t))] I L P Q := by
  have := w.n4
  have h1n := w.n1
  have hfz := fz_le (k := k) h1n w.n4
  have hme := me_lt hk hs ht
  refine SP.intro [some (rfv x 40), some (.int (nI (k))), some (.int (nI (s))), some (.int (nI (t)))] pn_X8_oddsOf (Nat.le_of_ble_eq_true rfl) rfl ?_
  refine v_aload_n 1 rfl dX8_oddsOf_0 rfl ?_
  refine v_iload_n 2 rfl dX8_oddsOf_1 rfl ?_
  refine v_ifN_ne 9 5 dX8_oddsOf_2 (by decide) rfl (by omega) (fun h2 => ?_) (fun h2 => ?_)
  · skip
    refine v_iload_n 10 rfl dX8_oddsOf_9 rfl ?_
    refine v_iconst 11 (nI (1)) (by decide) dX8_oddsOf_10 rfl ?_
    refine v_icmpN_ne 23 14 dX8_oddsOf_11 (by decide) rfl (by omega) (by omega) (fun h11 => ?_) (fun h11 => ?_)
    · skip
      refine v_bipush 25 (nI (23)) (by decide) dX8_oddsOf_23 rfl ?_
      refine v_iconst 26 (nI (3)) (by decide) dX8_oddsOf_25 rfl ?_
      refine v_iload_n 27 rfl dX8_oddsOf_26 rfl ?_
      refine v_imul 28 (nI (3 * s)) dX8_oddsOf_27 rfl (pk_mul _ _) ?_
      refine v_iadd 29 (nI (23 + (3 * s))) dX8_oddsOf_28 rfl (nI_add _ _) ?_
      refine v_iload_n 30 rfl dX8_oddsOf_29 rfl ?_
      refine v_iconst 31 (nI (2)) (by decide) dX8_oddsOf_30 rfl ?_
      refine v_icmpN_ne 38 34 dX8_oddsOf_31 (by decide) rfl (by omega) (by omega) (fun h31 => ?_) (fun h31 => ?_)
      · skip
        refine v_aload_n 39 rfl dX8_oddsOf_38 rfl ?_
        refine v_get 42 (k := 1) 8 (rfv x 41) (by decide) rfl (by decide) (by decide) dX8_oddsOf_39 rfl fl_X8_7 rfl ?_
        refine v_iconst 43 (nI (0)) (by decide) dX8_oddsOf_42 rfl ?_
        refine v_iald 44 (k := 0) (nI (f 0)) (by decide) rfl (by decide) dX8_oddsOf_43 rfl rfl (by omega) r.st ?_
        have hv : ∀ j, j < fz (f 0) k → I 41 ((23 + (3 * s)) + j) = nI (fm f k s j) := fun j hj => by
          have h9 := r.at (PC.fam hk hs hj)
          rw [show fm f k s j = f (mp k s j) from rfl, ← h9]
          refine congrArg (I 41) ?_
          unfold mp pl
          repeat (first | omega | split)
        have esz : f 0 = fz (f 0) k := by
          unfold fz
          repeat (first | omega | split)
        have hoz : (23 + (3 * s)) + fz (f 0) k ≤ 83 := by omega
        refine v_invV 47 M_X8_laysOdds [.int (nI (23 + (3 * s))), .int (nI (f 0))] (by decide) rfl (by decide) rfl dX8_oddsOf_44 rfl ml_X8_177 im_X8_laysOdds se_X8_laysOdds mc_X8_laysOdds (by decide) (Nat.le_of_ble_eq_true rfl) (sp_X8_laysOdds (v := fm f k s) (by omega) (by omega) (by omega) (fun j hj => hv j (Nat.lt_of_lt_of_eq hj esz)) (fun j hj => w.at (PC.fam hk hs (Nat.lt_of_lt_of_eq hj esz))) (fun Io fo ho => ?_))
        rw [esz] at ho
        refine v_aload_n 48 rfl dX8_oddsOf_47 rfl ?_
        refine v_get 51 (k := 15) 8 (rfv x 52) (by decide) rfl (by decide) (by decide) dX8_oddsOf_48 rfl fl_X8_44 rfl ?_
        refine v_iload_n 52 rfl dX8_oddsOf_51 rfl ?_
        refine v_ifN_ne 59 55 dX8_oddsOf_52 (by decide) rfl (by omega) (fun h52 => ?_) (fun h52 => ?_)
        · skip
          refine v_iload_n 60 rfl dX8_oddsOf_59 rfl ?_
          refine v_iald 61 (k := t) (nI (odN (fm f k s) (fz (f 0) k) (me k s t))) (by decide) rfl (by decide) dX8_oddsOf_60 rfl rfl (by first | (rw [me, if_neg h52] at hme; omega) | (rw [me, if_pos h52] at hme; omega)) ((ho _ (by first | (rw [me, if_neg h52] at hme; exact hme) | (rw [me, if_pos h52] at hme; exact hme))).trans (congrArg (fun y => nI (odN (fm f k s) (fz (f 0) k) y)) (by first | exact (if_neg h52).symm | exact (if_pos h52).symm))) ?_
          refine v_iret rfl dX8_oddsOf_61 ?_
          exact hQ Io fo
        · skip
          refine v_iload_n 56 rfl dX8_oddsOf_55 rfl ?_
          refine v_goto 60 dX8_oddsOf_56 (by decide) ?_
          refine v_iald 61 (k := s) (nI (odN (fm f k s) (fz (f 0) k) (me k s t))) (by decide) rfl (by decide) dX8_oddsOf_60 rfl rfl (by first | (rw [me, if_neg h52] at hme; omega) | (rw [me, if_pos h52] at hme; omega)) ((ho _ (by first | (rw [me, if_neg h52] at hme; exact hme) | (rw [me, if_pos h52] at hme; exact hme))).trans (congrArg (fun y => nI (odN (fm f k s) (fz (f 0) k) y)) (by first | exact (if_neg h52).symm | exact (if_pos h52).symm))) ?_
          refine v_iret rfl dX8_oddsOf_61 ?_
          exact hQ Io fo
      · skip
        refine v_iconst 35 (nI (3)) (by decide) dX8_oddsOf_34 rfl ?_
        refine v_goto 44 dX8_oddsOf_35 (by decide) ?_
        have hv : ∀ j, j < fz (f 0) k → I 41 ((23 + (3 * s)) + j) = nI (fm f k s j) := fun j hj => by
          have h9 := r.at (PC.fam hk hs hj)
          rw [show fm f k s j = f (mp k s j) from rfl, ← h9]
          refine congrArg (I 41) ?_
          unfold mp pl
          repeat (first | omega | split)
        have esz : 3 = fz (f 0) k := by
          unfold fz
          repeat (first | omega | split)
        have hoz : (23 + (3 * s)) + fz (f 0) k ≤ 83 := by omega
        refine v_invV 47 M_X8_laysOdds [.int (nI (23 + (3 * s))), .int (nI (3))] (by decide) rfl (by decide) rfl dX8_oddsOf_44 rfl ml_X8_177 im_X8_laysOdds se_X8_laysOdds mc_X8_laysOdds (by decide) (Nat.le_of_ble_eq_true rfl) (sp_X8_laysOdds (v := fm f k s) (by omega) (by omega) (by omega) (fun j hj => hv j (Nat.lt_of_lt_of_eq hj esz)) (fun j hj => w.at (PC.fam hk hs (Nat.lt_of_lt_of_eq hj esz))) (fun Io fo ho => ?_))
        rw [esz] at ho
        refine v_aload_n 48 rfl dX8_oddsOf_47 rfl ?_
        refine v_get 51 (k := 15) 8 (rfv x 52) (by decide) rfl (by decide) (by decide) dX8_oddsOf_48 rfl fl_X8_44 rfl ?_
        refine v_iload_n 52 rfl dX8_oddsOf_51 rfl ?_
        refine v_ifN_ne 59 55 dX8_oddsOf_52 (by decide) rfl (by omega) (fun h52 => ?_) (fun h52 => ?_)
        · skip
          refine v_iload_n 60 rfl dX8_oddsOf_59 rfl ?_
          refine v_iald 61 (k := t) (nI (odN (fm f k s) (fz (f 0) k) (me k s t))) (by decide) rfl (by decide) dX8_oddsOf_60 rfl rfl (by first | (rw [me, if_neg h52] at hme; omega) | (rw [me, if_pos h52] at hme; omega)) ((ho _ (by first | (rw [me, if_neg h52] at hme; exact hme) | (rw [me, if_pos h52] at hme; exact hme))).trans (congrArg (fun y => nI (odN (fm f k s) (fz (f 0) k) y)) (by first | exact (if_neg h52).symm | exact (if_pos h52).symm))) ?_
          refine v_iret rfl dX8_oddsOf_61 ?_
          exact hQ Io fo
        · skip
          refine v_iload_n 56 rfl dX8_oddsOf_55 rfl ?_
          refine v_goto 60 dX8_oddsOf_56 (by decide) ?_
          refine v_iald 61 (k := s) (nI (odN (fm f k s) (fz (f 0) k) (me k s t))) (by decide) rfl (by decide) dX8_oddsOf_60 rfl rfl (by first | (rw [me, if_neg h52] at hme; omega) | (rw [me, if_pos h52] at hme; omega)) ((ho _ (by first | (rw [me, if_neg h52] at hme; exact hme) | (rw [me, if_pos h52] at hme; exact hme))).trans (congrArg (fun y => nI (odN (fm f k s) (fz (f 0) k) y)) (by first | exact (if_neg h52).symm | exact (if_pos h52).symm))) ?_
          refine v_iret rfl dX8_oddsOf_61 ?_
          exact hQ Io fo
    · skip
      refine v_bipush 16 (nI (7)) (by decide) dX8_oddsOf_14 rfl ?_
      refine v_iconst 17 (nI (4)) (by decide) dX8_oddsOf_16 rfl ?_
      refine v_iload_n 18 rfl dX8_oddsOf_17 rfl ?_
      refine v_imul 19 (nI (4 * s)) dX8_oddsOf_18 rfl (pk_mul _ _) ?_
      refine v_iadd 20 (nI (7 + (4 * s))) dX8_oddsOf_19 rfl (nI_add _ _) ?_
      refine v_goto 29 dX8_oddsOf_20 (by decide) ?_
      refine v_iload_n 30 rfl dX8_oddsOf_29 rfl ?_
      refine v_iconst 31 (nI (2)) (by decide) dX8_oddsOf_30 rfl ?_
      refine v_icmpN_ne 38 34 dX8_oddsOf_31 (by decide) rfl (by omega) (by omega) (fun h31 => ?_) (fun h31 => ?_)
      · skip
        refine v_aload_n 39 rfl dX8_oddsOf_38 rfl ?_
        refine v_get 42 (k := 1) 8 (rfv x 41) (by decide) rfl (by decide) (by decide) dX8_oddsOf_39 rfl fl_X8_7 rfl ?_
        refine v_iconst 43 (nI (0)) (by decide) dX8_oddsOf_42 rfl ?_
        refine v_iald 44 (k := 0) (nI (f 0)) (by decide) rfl (by decide) dX8_oddsOf_43 rfl rfl (by omega) r.st ?_
        have hv : ∀ j, j < fz (f 0) k → I 41 ((7 + (4 * s)) + j) = nI (fm f k s j) := fun j hj => by
          have h9 := r.at (PC.fam hk hs hj)
          rw [show fm f k s j = f (mp k s j) from rfl, ← h9]
          refine congrArg (I 41) ?_
          unfold mp pl
          repeat (first | omega | split)
        have esz : f 0 = fz (f 0) k := by
          unfold fz
          repeat (first | omega | split)
        have hoz : (7 + (4 * s)) + fz (f 0) k ≤ 83 := by omega
        refine v_invV 47 M_X8_laysOdds [.int (nI (7 + (4 * s))), .int (nI (f 0))] (by decide) rfl (by decide) rfl dX8_oddsOf_44 rfl ml_X8_177 im_X8_laysOdds se_X8_laysOdds mc_X8_laysOdds (by decide) (Nat.le_of_ble_eq_true rfl) (sp_X8_laysOdds (v := fm f k s) (by omega) (by omega) (by omega) (fun j hj => hv j (Nat.lt_of_lt_of_eq hj esz)) (fun j hj => w.at (PC.fam hk hs (Nat.lt_of_lt_of_eq hj esz))) (fun Io fo ho => ?_))
        rw [esz] at ho
        refine v_aload_n 48 rfl dX8_oddsOf_47 rfl ?_
        refine v_get 51 (k := 15) 8 (rfv x 52) (by decide) rfl (by decide) (by decide) dX8_oddsOf_48 rfl fl_X8_44 rfl ?_
        refine v_iload_n 52 rfl dX8_oddsOf_51 rfl ?_
        refine v_ifN_ne 59 55 dX8_oddsOf_52 (by decide) rfl (by omega) (fun h52 => ?_) (fun h52 => ?_)
        · skip
          refine v_iload_n 60 rfl dX8_oddsOf_59 rfl ?_
          refine v_iald 61 (k := t) (nI (odN (fm f k s) (fz (f 0) k) (me k s t))) (by decide) rfl (by decide) dX8_oddsOf_60 rfl rfl (by first | (rw [me, if_neg h52] at hme; omega) | (rw [me, if_pos h52] at hme; omega)) ((ho _ (by first | (rw [me, if_neg h52] at hme; exact hme) | (rw [me, if_pos h52] at hme; exact hme))).trans (congrArg (fun y => nI (odN (fm f k s) (fz (f 0) k) y)) (by first | exact (if_neg h52).symm | exact (if_pos h52).symm))) ?_
          refine v_iret rfl dX8_oddsOf_61 ?_
          exact hQ Io fo
        · skip
          refine v_iload_n 56 rfl dX8_oddsOf_55 rfl ?_
          refine v_goto 60 dX8_oddsOf_56 (by decide) ?_
          refine v_iald 61 (k := s) (nI (odN (fm f k s) (fz (f 0) k) (me k s t))) (by decide) rfl (by decide) dX8_oddsOf_60 rfl rfl (by first | (rw [me, if_neg h52] at hme; omega) | (rw [me, if_pos h52] at hme; omega)) ((ho _ (by first | (rw [me, if_neg h52] at hme; exact hme) | (rw [me, if_pos h52] at hme; exact hme))).trans (congrArg (fun y => nI (odN (fm f k s) (fz (f 0) k) y)) (by first | exact (if_neg h52).symm | exact (if_pos h52).symm))) ?_
          refine v_iret rfl dX8_oddsOf_61 ?_
          exact hQ Io fo
      · skip
        refine v_iconst 35 (nI (3)) (by decide) dX8_oddsOf_34 rfl ?_
        refine v_goto 44 dX8_oddsOf_35 (by decide) ?_
        have hv : ∀ j, j < fz (f 0) k → I 41 ((7 + (4 * s)) + j) = nI (fm f k s j) := fun j hj => by
          have h9 := r.at (PC.fam hk hs hj)
          rw [show fm f k s j = f (mp k s j) from rfl, ← h9]
          refine congrArg (I 41) ?_
          unfold mp pl
          repeat (first | omega | split)
        have esz : 3 = fz (f 0) k := by
          unfold fz
          repeat (first | omega | split)
        have hoz : (7 + (4 * s)) + fz (f 0) k ≤ 83 := by omega
        refine v_invV 47 M_X8_laysOdds [.int (nI (7 + (4 * s))), .int (nI (3))] (by decide) rfl (by decide) rfl dX8_oddsOf_44 rfl ml_X8_177 im_X8_laysOdds se_X8_laysOdds mc_X8_laysOdds (by decide) (Nat.le_of_ble_eq_true rfl) (sp_X8_laysOdds (v := fm f k s) (by omega) (by omega) (by omega) (fun j hj => hv j (Nat.lt_of_lt_of_eq hj esz)) (fun j hj => w.at (PC.fam hk hs (Nat.lt_of_lt_of_eq hj esz))) (fun Io fo ho => ?_))
        rw [esz] at ho
        refine v_aload_n 48 rfl dX8_oddsOf_47 rfl ?_
        refine v_get 51 (k := 15) 8 (rfv x 52) (by decide) rfl (by decide) (by decide) dX8_oddsOf_48 rfl fl_X8_44 rfl ?_
        refine v_iload_n 52 rfl dX8_oddsOf_51 rfl ?_
        refine v_ifN_ne 59 55 dX8_oddsOf_52 (by decide) rfl (by omega) (fun h52 => ?_) (fun h52 => ?_)
        · skip
          refine v_iload_n 60 rfl dX8_oddsOf_59 rfl ?_
          refine v_iald 61 (k := t) (nI (odN (fm f k s) (fz (f 0) k) (me k s t))) (by decide) rfl (by decide) dX8_oddsOf_60 rfl rfl (by first | (rw [me, if_neg h52] at hme; omega) | (rw [me, if_pos h52] at hme; omega)) ((ho _ (by first | (rw [me, if_neg h52] at hme; exact hme) | (rw [me, if_pos h52] at hme; exact hme))).trans (congrArg (fun y => nI (odN (fm f k s) (fz (f 0) k) y)) (by first | exact (if_neg h52).symm | exact (if_pos h52).symm))) ?_
          refine v_iret rfl dX8_oddsOf_61 ?_
          exact hQ Io fo
        · skip
          refine v_iload_n 56 rfl dX8_oddsOf_55 rfl ?_
          refine v_goto 60 dX8_oddsOf_56 (by decide) ?_
          refine v_iald 61 (k := s) (nI (odN (fm f k s) (fz (f 0) k) (me k s t))) (by decide) rfl (by decide) dX8_oddsOf_60 rfl rfl (by first | (rw [me, if_neg h52] at hme; omega) | (rw [me, if_pos h52] at hme; omega)) ((ho _ (by first | (rw [me, if_neg h52] at hme; exact hme) | (rw [me, if_pos h52] at hme; exact hme))).trans (congrArg (fun y => nI (odN (fm f k s) (fz (f 0) k) y)) (by first | exact (if_neg h52).symm | exact (if_pos h52).symm))) ?_
          refine v_iret rfl dX8_oddsOf_61 ?_
          exact hQ Io fo
  · skip
    refine v_iconst 6 (nI (3)) (by decide) dX8_oddsOf_5 rfl ?_
    refine v_goto 29 dX8_oddsOf_6 (by decide) ?_
    refine v_iload_n 30 rfl dX8_oddsOf_29 rfl ?_
    refine v_iconst 31 (nI (2)) (by decide) dX8_oddsOf_30 rfl ?_
    refine v_icmpN_ne 38 34 dX8_oddsOf_31 (by decide) rfl (by omega) (by omega) (fun h31 => ?_) (fun h31 => ?_)
    · skip
      refine v_aload_n 39 rfl dX8_oddsOf_38 rfl ?_
      refine v_get 42 (k := 1) 8 (rfv x 41) (by decide) rfl (by decide) (by decide) dX8_oddsOf_39 rfl fl_X8_7 rfl ?_
      refine v_iconst 43 (nI (0)) (by decide) dX8_oddsOf_42 rfl ?_
      refine v_iald 44 (k := 0) (nI (f 0)) (by decide) rfl (by decide) dX8_oddsOf_43 rfl rfl (by omega) r.st ?_
      have hv : ∀ j, j < fz (f 0) k → I 41 ((3) + j) = nI (fm f k s j) := fun j hj => by
        have h9 := r.at (PC.fam hk hs hj)
        rw [show fm f k s j = f (mp k s j) from rfl, ← h9]
        refine congrArg (I 41) ?_
        unfold mp pl
        repeat (first | omega | split)
      have esz : f 0 = fz (f 0) k := by
        unfold fz
        repeat (first | omega | split)
      have hoz : (3) + fz (f 0) k ≤ 83 := by omega
      refine v_invV 47 M_X8_laysOdds [.int (nI (3)), .int (nI (f 0))] (by decide) rfl (by decide) rfl dX8_oddsOf_44 rfl ml_X8_177 im_X8_laysOdds se_X8_laysOdds mc_X8_laysOdds (by decide) (Nat.le_of_ble_eq_true rfl) (sp_X8_laysOdds (v := fm f k s) (by omega) (by omega) (by omega) (fun j hj => hv j (Nat.lt_of_lt_of_eq hj esz)) (fun j hj => w.at (PC.fam hk hs (Nat.lt_of_lt_of_eq hj esz))) (fun Io fo ho => ?_))
      rw [esz] at ho
      refine v_aload_n 48 rfl dX8_oddsOf_47 rfl ?_
      refine v_get 51 (k := 15) 8 (rfv x 52) (by decide) rfl (by decide) (by decide) dX8_oddsOf_48 rfl fl_X8_44 rfl ?_
      refine v_iload_n 52 rfl dX8_oddsOf_51 rfl ?_
      refine v_ifN_ne 59 55 dX8_oddsOf_52 (by decide) rfl (by omega) (fun h52 => ?_) (fun h52 => ?_)
      · skip
        refine v_iload_n 60 rfl dX8_oddsOf_59 rfl ?_
        refine v_iald 61 (k := t) (nI (odN (fm f k s) (fz (f 0) k) (me k s t))) (by decide) rfl (by decide) dX8_oddsOf_60 rfl rfl (by first | (rw [me, if_neg h52] at hme; omega) | (rw [me, if_pos h52] at hme; omega)) ((ho _ (by first | (rw [me, if_neg h52] at hme; exact hme) | (rw [me, if_pos h52] at hme; exact hme))).trans (congrArg (fun y => nI (odN (fm f k s) (fz (f 0) k) y)) (by first | exact (if_neg h52).symm | exact (if_pos h52).symm))) ?_
        refine v_iret rfl dX8_oddsOf_61 ?_
        exact hQ Io fo
      · skip
        refine v_iload_n 56 rfl dX8_oddsOf_55 rfl ?_
        refine v_goto 60 dX8_oddsOf_56 (by decide) ?_
        refine v_iald 61 (k := s) (nI (odN (fm f k s) (fz (f 0) k) (me k s t))) (by decide) rfl (by decide) dX8_oddsOf_60 rfl rfl (by first | (rw [me, if_neg h52] at hme; omega) | (rw [me, if_pos h52] at hme; omega)) ((ho _ (by first | (rw [me, if_neg h52] at hme; exact hme) | (rw [me, if_pos h52] at hme; exact hme))).trans (congrArg (fun y => nI (odN (fm f k s) (fz (f 0) k) y)) (by first | exact (if_neg h52).symm | exact (if_pos h52).symm))) ?_
        refine v_iret rfl dX8_oddsOf_61 ?_
        exact hQ Io fo
    · skip
      refine v_iconst 35 (nI (3)) (by decide) dX8_oddsOf_34 rfl ?_
      refine v_goto 44 dX8_oddsOf_35 (by decide) ?_
      have hv : ∀ j, j < fz (f 0) k → I 41 ((3) + j) = nI (fm f k s j) := fun j hj => by
        have h9 := r.at (PC.fam hk hs hj)
        rw [show fm f k s j = f (mp k s j) from rfl, ← h9]
        refine congrArg (I 41) ?_
        unfold mp pl
        repeat (first | omega | split)
      have esz : 3 = fz (f 0) k := by
        unfold fz
        repeat (first | omega | split)
      have hoz : (3) + fz (f 0) k ≤ 83 := by omega
      refine v_invV 47 M_X8_laysOdds [.int (nI (3)), .int (nI (3))] (by decide) rfl (by decide) rfl dX8_oddsOf_44 rfl ml_X8_177 im_X8_laysOdds se_X8_laysOdds mc_X8_laysOdds (by decide) (Nat.le_of_ble_eq_true rfl) (sp_X8_laysOdds (v := fm f k s) (by omega) (by omega) (by omega) (fun j hj => hv j (Nat.lt_of_lt_of_eq hj esz)) (fun j hj => w.at (PC.fam hk hs (Nat.lt_of_lt_of_eq hj esz))) (fun Io fo ho => ?_))
      rw [esz] at ho
      refine v_aload_n 48 rfl dX8_oddsOf_47 rfl ?_
      refine v_get 51 (k := 15) 8 (rfv x 52) (by decide) rfl (by decide) (by decide) dX8_oddsOf_48 rfl fl_X8_44 rfl ?_
      refine v_iload_n 52 rfl dX8_oddsOf_51 rfl ?_
      refine v_ifN_ne 59 55 dX8_oddsOf_52 (by decide) rfl (by omega) (fun h52 => ?_) (fun h52 => ?_)
      · skip
        refine v_iload_n 60 rfl dX8_oddsOf_59 rfl ?_
        refine v_iald 61 (k := t) (nI (odN (fm f k s) (fz (f 0) k) (me k s t))) (by decide) rfl (by decide) dX8_oddsOf_60 rfl rfl (by first | (rw [me, if_neg h52] at hme; omega) | (rw [me, if_pos h52] at hme; omega)) ((ho _ (by first | (rw [me, if_neg h52] at hme; exact hme) | (rw [me, if_pos h52] at hme; exact hme))).trans (congrArg (fun y => nI (odN (fm f k s) (fz (f 0) k) y)) (by first | exact (if_neg h52).symm | exact (if_pos h52).symm))) ?_
        refine v_iret rfl dX8_oddsOf_61 ?_
        exact hQ Io fo
      · skip
        refine v_iload_n 56 rfl dX8_oddsOf_55 rfl ?_
        refine v_goto 60 dX8_oddsOf_56 (by decide) ?_
        refine v_iald 61 (k := s) (nI (odN (fm f k s) (fz (f 0) k) (me k s t))) (by decide) rfl (by decide) dX8_oddsOf_60 rfl rfl (by first | (rw [me, if_neg h52] at hme; omega) | (rw [me, if_pos h52] at hme; omega)) ((ho _ (by first | (rw [me, if_neg h52] at hme; exact hme) | (rw [me, if_pos h52] at hme; exact hme))).trans (congrArg (fun y => nI (odN (fm f k s) (fz (f 0) k) y)) (by first | exact (if_neg h52).symm | exact (if_pos h52).symm))) ?_
        refine v_iret rfl dX8_oddsOf_61 ?_
        exact hQ Io fo
set_option maxHeartbeats 4000000 in
theorem sp_X8_weight {x : Cx} {Q : Qt} {I : Iv} {L : Lv} {P : Pv} {f : Vw} (r : RR (I 41) f) (w : Wf f) {z s t o : Int32} (hQ : ∀ I1 L1, Kp I I1 → Q (some (.int (wgA f z s t o))) I1 L1 P) : SP x M_X8_weight [rfv x 40, .int (z), .int (s), .int (t), .int (o)] I L P Q := by
  have := w.n4
  have := w.n1
  have := w.m6
  
  refine SP.intro [some (rfv x 40), some (.int (z)), some (.int (s)), some (.int (t)), some (.int (o)), none] pn_X8_weight (Nat.le_of_ble_eq_true rfl) rfl ?_
  refine v_aload_n 1 rfl dX8_weight_0 rfl ?_
  refine v_iconst 2 (nI (0)) (by decide) dX8_weight_1 rfl ?_
  refine v_putI 5 (k := 0) 8 .int (by decide) rfl (by decide) (by decide) rfl (by decide +kernel) rfl rfl (fun _ _ => rfl) dX8_weight_2 rfl fl_X8_50 (fun I2 e2 => ?_)
  have r2 : RR (I2 41) f := by rw [up2_row e2 (by omega)]; exact r
  have kp : Kp I I2 := fun a q hl => up2_off e2 (by unfold live at hl; omega)
  by_cases hb : inb z 3 = 0
  · skip
    refine v_aload_n 6 rfl dX8_weight_5 rfl ?_
    refine v_iload_n 7 rfl dX8_weight_6 rfl ?_
    refine v_iload_n 8 rfl dX8_weight_7 rfl ?_
    refine v_iload_n 9 rfl dX8_weight_8 rfl ?_
    refine v_invV 12 M_X8_placeOf [.int (z), .int (s), .int (t)] (by decide) rfl (by decide) rfl dX8_weight_9 rfl ml_X8_101 im_X8_placeOf se_X8_placeOf mc_X8_placeOf (by decide) (Nat.le_of_ble_eq_true rfl) (sp_X8_placeOf r2 w (y := (-2)) (by rw [plA, if_pos hb]) ?_)
    refine v_istore 14 [some (rfv x 40), some (.int (z)), some (.int (s)), some (.int (t)), some (.int (o)), some (.int ((-2)))] dX8_weight_12 rfl (by decide) rfl ?_
    refine v_iload 16 rfl dX8_weight_14 rfl ?_
    refine v_if_lt 24 19 dX8_weight_16 (by decide) rfl (fun h16 => ?_) (fun h16 => ?_)
    · skip
      refine v_iload 26 rfl dX8_weight_24 rfl ?_
      refine v_if_ge 34 29 dX8_weight_26 (by decide) rfl (fun h26 => ?_) (fun h26 => ?_)
      · skip
        exact absurd h26 (by decide)
      · skip
        refine v_iload 31 rfl dX8_weight_29 rfl ?_
        refine v_goto 51 dX8_weight_31 (by decide) ?_
        refine v_iret rfl dX8_weight_51 ?_
        exact qZ (hQ I2 L kp) (by rw [wgA, if_pos hb])
    · skip
      exact absurd h16 (by decide)
  obtain ⟨k, hk, ez⟩ := inb_1 (by decide) hb
  subst ez
  by_cases hn : noP f (nI k) s t
  · skip
    refine v_aload_n 6 rfl dX8_weight_5 rfl ?_
    refine v_iload_n 7 rfl dX8_weight_6 rfl ?_
    refine v_iload_n 8 rfl dX8_weight_7 rfl ?_
    refine v_iload_n 9 rfl dX8_weight_8 rfl ?_
    refine v_invV 12 M_X8_placeOf [.int (nI (k)), .int (s), .int (t)] (by decide) rfl (by decide) rfl dX8_weight_9 rfl ml_X8_101 im_X8_placeOf se_X8_placeOf mc_X8_placeOf (by decide) (Nat.le_of_ble_eq_true rfl) (sp_X8_placeOf r2 w (y := (-1)) (by rw [plA, if_neg hb, if_pos hn]) ?_)
    refine v_istore 14 [some (rfv x 40), some (.int (nI (k))), some (.int (s)), some (.int (t)), some (.int (o)), some (.int ((-1)))] dX8_weight_12 rfl (by decide) rfl ?_
    refine v_iload 16 rfl dX8_weight_14 rfl ?_
    refine v_if_lt 24 19 dX8_weight_16 (by decide) rfl (fun h16 => ?_) (fun h16 => ?_)
    · skip
      refine v_iload 26 rfl dX8_weight_24 rfl ?_
      refine v_if_ge 34 29 dX8_weight_26 (by decide) rfl (fun h26 => ?_) (fun h26 => ?_)
      · skip
        exact absurd h26 (by decide)
      · skip
        refine v_iload 31 rfl dX8_weight_29 rfl ?_
        refine v_goto 51 dX8_weight_31 (by decide) ?_
        refine v_iret rfl dX8_weight_51 ?_
        exact qZ (hQ I2 L kp) (by rw [wgA, if_neg hb, if_pos hn])
    · skip
      exact absurd h16 (by decide)
  obtain ⟨i, j, hi, hj, es, ej⟩ := noP_ok w hk hn
  subst es
  subst ej
  have hg := tg_lt (k := k) w.n4
  have hp := PC.of hk hi hj
  have hp9 := hp.lt w
  have h6w := w.at hp
  have ei : ix (nI i) = i := ix_n (by omega)
  have ej : ix (nI j) = j := ix_n (by omega)
  have ek : ix (nI k) = k := ix_n (by omega)
  have ep : pv (nI k) (nI i) (nI j) = pl k i j := pv_n hk (by omega) (by omega)
  refine v_aload_n 6 rfl dX8_weight_5 rfl ?_
  refine v_iload_n 7 rfl dX8_weight_6 rfl ?_
  refine v_iload_n 8 rfl dX8_weight_7 rfl ?_
  refine v_iload_n 9 rfl dX8_weight_8 rfl ?_
  refine v_invV 12 M_X8_placeOf [.int (nI (k)), .int (nI (i)), .int (nI (j))] (by decide) rfl (by decide) rfl dX8_weight_9 rfl ml_X8_101 im_X8_placeOf se_X8_placeOf mc_X8_placeOf (by decide) (Nat.le_of_ble_eq_true rfl) (sp_X8_placeOf r2 w (y := nI (pl k i j)) (by rw [plA, if_neg hb, if_neg hn, ep]) ?_)
  refine v_istore 14 [some (rfv x 40), some (.int (nI (k))), some (.int (nI (i))), some (.int (nI (j))), some (.int (o)), some (.int (nI (pl k i j)))] dX8_weight_12 rfl (by decide) rfl ?_
  refine v_iload 16 rfl dX8_weight_14 rfl ?_
  refine v_ifN_lt 24 19 dX8_weight_16 (by decide) rfl (by omega) ?_
  refine v_iload 21 rfl dX8_weight_19 rfl ?_
  refine v_if_ne 44 24 dX8_weight_21 (by decide) rfl (fun h21 => ?_) (fun h21 => ?_)
  · skip
    refine v_aload_n 45 rfl dX8_weight_44 rfl ?_
    refine v_iload_n 46 rfl dX8_weight_45 rfl ?_
    refine v_iload_n 47 rfl dX8_weight_46 rfl ?_
    refine v_iload_n 48 rfl dX8_weight_47 rfl ?_
    refine v_invV 51 M_X8_oddsOf [.int (nI (k)), .int (nI (i)), .int (nI (j))] (by decide) rfl (by decide) rfl dX8_weight_48 rfl ml_X8_174 im_X8_oddsOf se_X8_oddsOf mc_X8_oddsOf (by decide) (Nat.le_of_ble_eq_true rfl) (sp_X8_oddsOf r2 w hk hi hj (fun Io fo => ?_))
    have kpo : Kp I Io := fun a q hl => (fo a q (by unfold live at hl; omega) (by unfold live at hl; omega)).trans (kp a q hl)
    refine v_iret rfl dX8_weight_51 ?_
    first
    | exact qZ (hQ I2 L kp) (by rw [wgA, if_neg hb, if_neg hn, if_pos h21, ep])
    | exact qZ (hQ Io L kpo) (by rw [wgA, if_neg hb, if_neg hn, if_neg h21, ei, ej, ek])
  · skip
    refine v_iload 26 rfl dX8_weight_24 rfl ?_
    refine v_ifN_ge 34 29 dX8_weight_26 (by decide) rfl (by omega) ?_
    refine v_aload_n 35 rfl dX8_weight_34 rfl ?_
    refine v_get 38 (k := 1) 8 (rfv x 41) (by decide) rfl (by decide) (by decide) dX8_weight_35 rfl fl_X8_7 rfl ?_
    refine v_iload 40 rfl dX8_weight_38 rfl ?_
    refine v_iald 41 (k := pl k i j) (nI (f (pl k i j))) (by decide) rfl (by decide) dX8_weight_40 rfl rfl (by omega) (r2.at hp) ?_
    refine v_goto 51 dX8_weight_41 (by decide) ?_
    refine v_iret rfl dX8_weight_51 ?_
    first
    | exact qZ (hQ I2 L kp) (by rw [wgA, if_neg hb, if_neg hn, if_pos h21, ep])
    | exact qZ (hQ Io L kpo) (by rw [wgA, if_neg hb, if_neg hn, if_neg h21, ei, ej, ek])
