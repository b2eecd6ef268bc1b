set_option maxHeartbeats 4000000 in
theorem sp_X8_split {x : Cx} {Q : Qt} {I : Iv} {L : Lv} {P : Pv} {f : Vw} {H : Hs} {hn sn : Nat} {g : Vw} {T : Tx} {tl : Nat} (ri : RI f H hn sn g T tl I) (wi : WI f H hn sn g T tl) {z : Int32} (hQ : ∀ (I1 : Iv) (L1 : Lv), (∀ a, a < 40 → I1 a = I a) → RI (stF (spB f z) f (splF f (ix z))) (stH (spB f z) H hn f) (stN (spB f z) hn) sn g T tl I1 → Q (some (.int (spA f z))) I1 L1 P) : SP x M_X8_split [rfv x 40, .int (z)] I L P Q := by
  obtain ⟨r, hr, hsn, hsg, htx⟩ := id ri
  obtain ⟨w, hw, hs2, hwg, htl, hT⟩ := id wi
  have := w.n4
  have := w.m6
  have := w.n1
  refine SP.intro [some (rfv x 40), some (.int (z)), none, none, none] pn_X8_split (Nat.le_of_ble_eq_true rfl) rfl ?_
  refine v_aload_n 1 rfl dX8_split_0 rfl ?_
  refine v_iconst 2 (nI (0)) (by decide) dX8_split_1 rfl ?_
  refine v_putI 5 (k := 0) 8 .int (by decide) rfl (by decide) (by decide) rfl (by decide +kernel) rfl rfl (fun _ _ => rfl) dX8_split_2 rfl fl_X8_50 (fun I2 e2 => ?_)
  have ht0 : I2 = up2 I 40 0 (nI 0) := e2
  have r2 : RR (I2 41) f := by rw [up2_row e2 (by omega)]; exact r
  have hr2 : HR H hn I2 := ⟨hr.1, (up2_off e2 (by omega)).trans hr.2.1, fun i hi => by rw [up2_row e2 (by omega)]; exact hr.2.2 i hi⟩
  have ri2 : RI f H hn sn g T tl I2 := ri.kp (fun a q hl => up2_off e2 (by unfold live at hl; omega))
  have lo2 : ∀ a, a < 40 → I2 a = I a := fun a ha => up2_row e2 (by omega)
  refine v_aload_n 6 rfl dX8_split_5 rfl ?_
  refine v_iload_n 7 rfl dX8_split_6 rfl ?_
  refine v_invV 10 M_X8_isState [.int (z)] (by decide) rfl (by decide) rfl dX8_split_7 rfl ml_X8_97 im_X8_isState se_X8_isState mc_X8_isState (by decide) (Nat.le_of_ble_eq_true rfl) (sp_X8_isState r2 w ?_)
  refine v_ifN_ne 15 13 dX8_split_10 (by decide) rfl (by have := inb_lt z (f 0); omega) (fun h10 => ?_) (fun h10 => ?_)
  · skip
    refine v_aload_n 16 rfl dX8_split_15 rfl ?_
    refine v_get 19 (k := 1) 8 (rfv x 41) (by decide) rfl (by decide) (by decide) dX8_split_16 rfl fl_X8_7 rfl ?_
    refine v_iconst 20 (nI (0)) (by decide) dX8_split_19 rfl ?_
    refine v_iald 21 (k := 0) (nI (f 0)) (by decide) rfl (by decide) dX8_split_20 rfl rfl (by omega) r2.st ?_
    refine v_iconst 22 (nI (4)) (by decide) dX8_split_21 rfl ?_
    refine v_icmpN_ne 28 25 dX8_split_22 (by decide) rfl (by omega) (by omega) (fun h22 => ?_) (fun h22 => ?_)
    · skip
      have h4 : f 0 ≠ 4 := h22
      have hz := h10
      obtain ⟨s, hs, ez⟩ := inb_1 (by omega) hz
      subst ez
      have es : ix (nI s) = s := ix_n (by omega)
      refine v_aload_n 29 rfl dX8_split_28 rfl ?_
      refine v_invV 32 M_X8_records [] (by decide) rfl (by decide) rfl dX8_split_29 rfl ml_X8_105 im_X8_records se_X8_records mc_X8_records (by decide) (Nat.le_of_ble_eq_true rfl) (sp_X8_records hr2 hw r2 w (fun Ir fr hrr => ?_))
      have rr : RR (Ir 41) f := (r2.on w (fun j _ => fr 41 j (by decide) (Or.inl (by decide))))
      refine v_aload_n 33 rfl dX8_split_32 rfl ?_
      refine v_get 36 (k := 1) 8 (rfv x 41) (by decide) rfl (by decide) (by decide) dX8_split_33 rfl fl_X8_7 rfl ?_
      refine v_iconst 37 (nI (0)) (by decide) dX8_split_36 rfl ?_
      refine v_iald 38 (k := 0) (nI (f 0)) (by decide) rfl (by decide) dX8_split_37 rfl rfl (by omega) rr.st ?_
      refine v_istore_n 39 [some (rfv x 40), some (.int (nI (s))), some (.int (nI (f 0))), none, none] dX8_split_38 rfl (by decide) rfl ?_
      refine v_aload_n 40 rfl dX8_split_39 rfl ?_
      refine v_iload_n 41 rfl dX8_split_40 rfl ?_
      refine v_iload_n 42 rfl dX8_split_41 rfl ?_
      refine v_invV 45 M_X8_go [.int (nI (s)), .int (nI (s))] (by decide) rfl (by decide) rfl dX8_split_42 rfl ml_X8_76 im_X8_go se_X8_go mc_X8_go (by decide) (Nat.le_of_ble_eq_true rfl) (sp_X8_go rr w (by omega) (by omega) ?_)
      refine v_istore_n 46 [some (rfv x 40), some (.int (nI (s))), some (.int (nI (f 0))), some (.int (nI (gW f s s))), none] dX8_split_45 rfl (by decide) rfl ?_
      refine v_aload_n 47 rfl dX8_split_46 rfl ?_
      refine v_get 50 (k := 1) 8 (rfv x 41) (by decide) rfl (by decide) (by decide) dX8_split_47 rfl fl_X8_7 rfl ?_
      refine v_iconst 51 (nI (0)) (by decide) dX8_split_50 rfl ?_
      refine v_dup2 52 dX8_split_51 rfl rfl rfl ?_
      refine v_iald 53 (k := 0) (nI (f 0)) (by decide) rfl (by decide) dX8_split_52 rfl rfl (by omega) rr.st ?_
      refine v_iconst 54 (nI (1)) (by decide) dX8_split_53 rfl ?_
      refine v_iadd 55 (nI ((f 0) + 1)) dX8_split_54 rfl (nI_add _ _) ?_
      refine v_iast 56 (k := 0) (nI ((f 0) + 1)) (by decide) rfl (by decide) dX8_split_55 rfl rfl (by omega) rfl (fun I55 e55 => ?_)
      refine v_aload_n 57 rfl dX8_split_56 rfl ?_
      refine v_get 60 (k := 1) 8 (rfv x 41) (by decide) rfl (by decide) (by decide) dX8_split_57 rfl fl_X8_7 rfl ?_
      refine v_iconst 61 (nI (3)) (by decide) dX8_split_60 rfl ?_
      refine v_iload_n 62 rfl dX8_split_61 rfl ?_
      refine v_iadd 63 (nI (3 + (f 0))) dX8_split_62 rfl (nI_add _ _) ?_
      refine v_aload_n 64 rfl dX8_split_63 rfl ?_
      refine v_get 67 (k := 1) 8 (rfv x 41) (by decide) rfl (by decide) (by decide) dX8_split_64 rfl fl_X8_7 rfl ?_
      refine v_iconst 68 (nI (3)) (by decide) dX8_split_67 rfl ?_
      refine v_iload_n 69 rfl dX8_split_68 rfl ?_
      refine v_iadd 70 (nI (3 + s)) dX8_split_69 rfl (nI_add _ _) ?_
      refine v_iald 71 (k := 3 + s) (nI (bW f s)) (by decide) rfl (by decide) dX8_split_70 rfl rfl (by omega) ((up2_off e55 (by omega)).trans (rr.b hs)) ?_
      refine v_iast 72 (k := 3 + (f 0)) (nI (bW f s)) (by decide) rfl (by decide) dX8_split_71 rfl rfl (by omega) rfl (fun I71 e71 => ?_)
      refine v_iconst 73 (nI (0)) (by decide) dX8_split_72 rfl ?_
      refine v_istore 75 [some (rfv x 40), some (.int (nI (s))), some (.int (nI (f 0))), some (.int (nI (gW f s s))), some (.int (nI (0)))] dX8_split_73 rfl (by decide) rfl ?_
      have k0 : ∀ a q, a ≠ 41 → I71 a q = Ir a q := fun a q h => (up2_off e71 (by omega)).trans (up2_off e55 (by omega))
      have k1 : ∀ q, q ≠ 0 → q ≠ 3 + f 0 → I71 41 q = Ir 41 q := fun q h1 h2 => (up2_off e71 (by omega)).trans (up2_off e55 (by omega))
      have k2 : I71 41 0 = nI (f 0 + 1) := (up2_off e71 (by omega)).trans (up2_at e55)
      have k3 : I71 41 (3 + f 0) = nI (bW f s) := up2_at e71
      have lp : ∀ g, g ≤ 3 → ∀ Ij : Iv, (∀ q, q < g → Ij 41 (23 + 3 * f 0 + q) = nI (sW f s q)) → (∀ a q, (a ≠ 41 ∨ q < 23 + 3 * f 0 ∨ 26 + 3 * f 0 ≤ q) → Ij a q = I71 a q) → V x M_X8_split Q 75 [some (rfv x 40), some (.int (nI (s))), some (.int (nI (f 0))), some (.int (nI (gW f s s))), some (.int (nI (g)))] [] Ij L P := by
        refine lpU ?_ ?_
        · intro Ij hA hF
          refine v_iload 77 rfl dX8_split_75 rfl ?_
          refine v_iconst 78 (nI (3)) (by decide) dX8_split_77 rfl ?_
          refine v_icmpN_ge 108 81 dX8_split_78 (by decide) rfl (by omega) (by omega) (fun h78 => ?_) (fun h78 => ?_)
          · skip
            refine v_iconst 109 (nI (0)) (by decide) dX8_split_108 rfl ?_
            refine v_istore 111 [some (rfv x 40), some (.int (nI (s))), some (.int (nI (f 0))), some (.int (nI (gW f s s))), some (.int (nI (0)))] dX8_split_109 rfl (by decide) rfl ?_
            have lq : ∀ t, t ≤ f 0 → ∀ Ik : Iv, (∀ q, q < t → Ik 41 (7 + 4 * f 0 + q) = nI (gW f s q)) → (∀ q, q < t → Ik 41 (7 + 4 * q + f 0) = nI (gW f q s)) → (∀ a q, (a ≠ 41 ∨ q < 7 ∨ 23 ≤ q ∨ ((q - 7) / 4 ≠ f 0 ∧ (q - 7) % 4 ≠ f 0)) → Ik a q = Ij a q) → V x M_X8_split Q 111 [some (rfv x 40), some (.int (nI (s))), some (.int (nI (f 0))), some (.int (nI (gW f s s))), some (.int (nI (t)))] [] Ik L P := by
              refine lpU ?_ ?_
              · intro Ik gA gB gF
                refine v_iload 113 rfl dX8_split_111 rfl ?_
                refine v_iload_n 114 rfl dX8_split_113 rfl ?_
                refine v_icmpN_ge 165 117 dX8_split_114 (by decide) rfl (by omega) (by omega) (fun h114 => ?_) (fun h114 => ?_)
                · skip
                  refine v_aload_n 166 rfl dX8_split_165 rfl ?_
                  refine v_get 169 (k := 1) 8 (rfv x 41) (by decide) rfl (by decide) (by decide) dX8_split_166 rfl fl_X8_7 rfl ?_
                  refine v_bipush 171 (nI (7)) (by decide) dX8_split_169 rfl ?_
                  refine v_iconst 172 (nI (4)) (by decide) dX8_split_171 rfl ?_
                  refine v_iload_n 173 rfl dX8_split_172 rfl ?_
                  refine v_imul 174 (nI (4 * (f 0))) dX8_split_173 rfl (pk_mul _ _) ?_
                  refine v_iadd 175 (nI (7 + (4 * (f 0)))) dX8_split_174 rfl (nI_add _ _) ?_
                  refine v_iload_n 176 rfl dX8_split_175 rfl ?_
                  refine v_iadd 177 (nI ((7 + (4 * (f 0))) + (f 0))) dX8_split_176 rfl (nI_add _ _) ?_
                  refine v_iload_n 178 rfl dX8_split_177 rfl ?_
                  refine v_iast 179 (k := (7 + (4 * (f 0))) + (f 0)) (nI (gW f s s)) (by decide) rfl (by decide) dX8_split_178 rfl rfl (by omega) rfl (fun I178 e178 => ?_)
                  refine v_iload_n 180 rfl dX8_split_179 rfl ?_
                  refine v_iret rfl dX8_split_180 ?_
                  have u1 : ∀ a q, a ≠ 41 → I178 a q = Ir a q := fun a q h => (up2_off e178 (by omega)).trans ((gF a q (Or.inl h)).trans ((hF a q (Or.inl h)).trans (k0 a q h)))
                  have u2 : ∀ q, q ≠ 0 → q ≠ 3 + f 0 → (q < 23 + 3 * f 0 ∨ 26 + 3 * f 0 ≤ q) → (q < 7 ∨ 23 ≤ q ∨ ((q - 7) / 4 ≠ f 0 ∧ (q - 7) % 4 ≠ f 0)) → I178 41 q = Ir 41 q := fun q z1 z2 z3 z4 => (up2_off e178 (by omega)).trans ((gF 41 q (Or.inr z4)).trans ((hF 41 q (Or.inr z3)).trans (k1 q z1 z2)))
                  refine qZ (hQ I178 L (fun a ha => ?_) ?_) (by rw [spA, if_neg hz, if_neg h4])
                  · rw [show I178 a = Ir a from funext (fun q => u1 a q (by omega)), show Ir a = I2 a from funext (fun q => fr a q (by omega) (Or.inl (by omega)))]
                    exact lo2 a ha
                  · rw [show spB f (nI s) = true by rw [spB, if_neg hz, if_neg h4], es]
                    have hv : RR (I178 41) (splF f s) := by
                      refine rr.laid (by omega) ?_ (fun i hi => u2 i (by omega) (by omega) (by omega) (by omega)) (fun a ha => ?_) (fun a b ha hb => ?_) (fun a g ha hg => ?_)
                      · exact (up2_off e178 (by omega)).trans ((gF 41 0 (by omega)).trans ((hF 41 0 (by omega)).trans k2))
                      · by_cases y : a = f 0
                        · rw [y, tw_n]
                          exact (up2_off e178 (by omega)).trans ((gF 41 _ (by omega)).trans ((hF 41 _ (by omega)).trans k3))
                        · rw [tw_o y]
                          exact (u2 _ (by omega) (by omega) (by omega) (by omega)).trans (rr.b (by omega))
                      · by_cases y : a = f 0
                        · rw [y, tw_n]
                          by_cases y2 : b = f 0
                          · rw [y2, tw_n]
                            exact up2_at e178
                          · rw [tw_o y2]
                            exact (up2_off e178 (by omega)).trans (gA b (by omega))
                        · rw [tw_o y]
                          by_cases y2 : b = f 0
                          · rw [y2, tw_n]
                            exact (up2_off e178 (by omega)).trans (gB a (by omega))
                          · rw [tw_o y2]
                            exact (u2 _ (by omega) (by omega) (by omega) (by omega)).trans (rr.g (by omega) (by omega))
                      · by_cases y : a = f 0
                        · rw [y, tw_n]
                          exact (up2_off e178 (by omega)).trans ((gF 41 _ (by omega)).trans (hA g hg))
                        · rw [tw_o y]
                          exact (u2 _ (by omega) (by omega) (by omega) (by omega)).trans (rr.w (by omega) hg)
                    refine ⟨hv, ⟨hrr.1, (u1 40 4 (by decide)).trans hrr.2.1, fun i hi => by rw [show I178 43 = Ir 43 from funext (fun q => u1 43 q (by decide))]; exact hrr.2.2 i hi⟩, ?_, fun e => ?_, ?_, fun i hi => ?_⟩
                    · rw [u1 40 6 (by decide), fr 40 6 (by decide) (Or.inr (by decide))]
                      exact ri2.2.2.1
                    · exact (ri2.2.2.2.1 e).on (hwg e) (fun j _ => (u1 44 j (by decide)).trans (fr 44 j (by decide) (Or.inl (by decide))))
                    · rw [u1 40 8 (by decide), fr 40 8 (by decide) (Or.inr (by decide))]
                      exact ri2.2.2.2.2.1
                    · rw [u1 45 i (by decide), fr 45 i (by decide) (Or.inl (by decide))]
                      exact ri2.2.2.2.2.2 i hi
                · skip
                  exact absurd h114 (by omega)
              · intro t ht ih Ik gA gB gF
                refine v_iload 113 rfl dX8_split_111 rfl ?_
                refine v_iload_n 114 rfl dX8_split_113 rfl ?_
                refine v_icmpN_ge 165 117 dX8_split_114 (by decide) rfl (by omega) (by omega) (fun h114 => ?_) (fun h114 => ?_)
                · skip
                  exact absurd h114 (by omega)
                · skip
                  refine v_aload_n 118 rfl dX8_split_117 rfl ?_
                  refine v_get 121 (k := 1) 8 (rfv x 41) (by decide) rfl (by decide) (by decide) dX8_split_118 rfl fl_X8_7 rfl ?_
                  refine v_bipush 123 (nI (7)) (by decide) dX8_split_121 rfl ?_
                  refine v_iconst 124 (nI (4)) (by decide) dX8_split_123 rfl ?_
                  refine v_iload_n 125 rfl dX8_split_124 rfl ?_
                  refine v_imul 126 (nI (4 * (f 0))) dX8_split_125 rfl (pk_mul _ _) ?_
                  refine v_iadd 127 (nI (7 + (4 * (f 0)))) dX8_split_126 rfl (nI_add _ _) ?_
                  refine v_iload 129 rfl dX8_split_127 rfl ?_
                  refine v_iadd 130 (nI ((7 + (4 * (f 0))) + t)) dX8_split_129 rfl (nI_add _ _) ?_
                  refine v_aload_n 131 rfl dX8_split_130 rfl ?_
                  refine v_iload_n 132 rfl dX8_split_131 rfl ?_
                  refine v_iload 134 rfl dX8_split_132 rfl ?_
                  refine v_invV 137 M_X8_go [.int (nI (s)), .int (nI (t))] (by decide) rfl (by decide) rfl dX8_split_134 rfl ml_X8_76 im_X8_go se_X8_go mc_X8_go (by decide) (Nat.le_of_ble_eq_true rfl) (sq_X8_go (v := nI (gW f s t)) (by omega) (by omega) ((gF 41 _ (by omega)).trans ((hF 41 _ (by omega)).trans ((k1 _ (by omega) (by omega)).trans (rr.g hs (by omega))))) ?_)
                  refine v_iast 138 (k := (7 + (4 * (f 0))) + t) (nI (gW f s t)) (by decide) rfl (by decide) dX8_split_137 rfl rfl (by omega) rfl (fun I137 e137 => ?_)
                  refine v_aload_n 139 rfl dX8_split_138 rfl ?_
                  refine v_get 142 (k := 1) 8 (rfv x 41) (by decide) rfl (by decide) (by decide) dX8_split_139 rfl fl_X8_7 rfl ?_
                  refine v_bipush 144 (nI (7)) (by decide) dX8_split_142 rfl ?_
                  refine v_iconst 145 (nI (4)) (by decide) dX8_split_144 rfl ?_
                  refine v_iload 147 rfl dX8_split_145 rfl ?_
                  refine v_imul 148 (nI (4 * t)) dX8_split_147 rfl (pk_mul _ _) ?_
                  refine v_iadd 149 (nI (7 + (4 * t))) dX8_split_148 rfl (nI_add _ _) ?_
                  refine v_iload_n 150 rfl dX8_split_149 rfl ?_
                  refine v_iadd 151 (nI ((7 + (4 * t)) + (f 0))) dX8_split_150 rfl (nI_add _ _) ?_
                  refine v_aload_n 152 rfl dX8_split_151 rfl ?_
                  refine v_iload 154 rfl dX8_split_152 rfl ?_
                  refine v_iload_n 155 rfl dX8_split_154 rfl ?_
                  refine v_invV 158 M_X8_go [.int (nI (t)), .int (nI (s))] (by decide) rfl (by decide) rfl dX8_split_155 rfl ml_X8_76 im_X8_go se_X8_go mc_X8_go (by decide) (Nat.le_of_ble_eq_true rfl) (sq_X8_go (v := nI (gW f t s)) (by omega) (by omega) ((up2_off e137 (by omega)).trans ((gF 41 _ (by omega)).trans ((hF 41 _ (by omega)).trans ((k1 _ (by omega) (by omega)).trans (rr.g (by omega) hs))))) ?_)
                  refine v_iast 159 (k := (7 + (4 * t)) + (f 0)) (nI (gW f t s)) (by decide) rfl (by decide) dX8_split_158 rfl rfl (by omega) rfl (fun I158 e158 => ?_)
                  refine v_iinc 162 [some (rfv x 40), some (.int (nI (s))), some (.int (nI (f 0))), some (.int (nI (gW f s s))), some (.int (nI (t + 1)))] (nI (t + 1)) dX8_split_159 rfl (by decide) rfl (nI_inc _) rfl ?_
                  refine v_goto 111 dX8_split_162 (by decide) ?_
                  refine v_drop [some (rfv x 40), some (.int (nI (s))), some (.int (nI (f 0))), some (.int (nI (gW f s s))), some (.int (nI (t + 1)))] (by simp [lsub, smN_s]) ?_
                  refine ih I158 (fun q hq => ?_) (fun q hq => ?_) (fun a q z => (up2_off e158 (by omega)).trans ((up2_off e137 (by omega)).trans (gF a q z)))
                  · rw [up2_off e158 (by omega)]
                    by_cases y : q = t
                    · rw [y]
                      exact up2_at e137
                    · exact (up2_off e137 (by omega)).trans (gA q (by omega))
                  · by_cases y : q = t
                    · rw [y]
                      exact up2_at e158
                    · rw [up2_off e158 (by omega), up2_off e137 (by omega)]
                      exact gB q (by omega)
            refine v_drop [some (rfv x 40), some (.int (nI (s))), some (.int (nI (f 0))), some (.int (nI (gW f s s))), some (.int (nI (0)))] (by simp [lsub, smN, amN, dbW, mxN]) ?_
            exact lq 0 (Nat.zero_le _) Ij (fun q h => absurd h (Nat.not_lt_zero q)) (fun q h => absurd h (Nat.not_lt_zero q)) (fun a q _ => rfl)
          · skip
            exact absurd h78 (by omega)
        · intro g hg ih Ij hA hF
          refine v_iload 77 rfl dX8_split_75 rfl ?_
          refine v_iconst 78 (nI (3)) (by decide) dX8_split_77 rfl ?_
          refine v_icmpN_ge 108 81 dX8_split_78 (by decide) rfl (by omega) (by omega) (fun h78 => ?_) (fun h78 => ?_)
          · skip
            exact absurd h78 (by omega)
          · skip
            refine v_aload_n 82 rfl dX8_split_81 rfl ?_
            refine v_get 85 (k := 1) 8 (rfv x 41) (by decide) rfl (by decide) (by decide) dX8_split_82 rfl fl_X8_7 rfl ?_
            refine v_bipush 87 (nI (23)) (by decide) dX8_split_85 rfl ?_
            refine v_iconst 88 (nI (3)) (by decide) dX8_split_87 rfl ?_
            refine v_iload_n 89 rfl dX8_split_88 rfl ?_
            refine v_imul 90 (nI (3 * (f 0))) dX8_split_89 rfl (pk_mul _ _) ?_
            refine v_iadd 91 (nI (23 + (3 * (f 0)))) dX8_split_90 rfl (nI_add _ _) ?_
            refine v_iload 93 rfl dX8_split_91 rfl ?_
            refine v_iadd 94 (nI ((23 + (3 * (f 0))) + g)) dX8_split_93 rfl (nI_add _ _) ?_
            refine v_aload_n 95 rfl dX8_split_94 rfl ?_
            refine v_iload_n 96 rfl dX8_split_95 rfl ?_
            refine v_iload 98 rfl dX8_split_96 rfl ?_
            refine v_invV 101 M_X8_show [.int (nI (s)), .int (nI (g))] (by decide) rfl (by decide) rfl dX8_split_98 rfl ml_X8_73 im_X8_show se_X8_show mc_X8_show (by decide) (Nat.le_of_ble_eq_true rfl) (sq_X8_show (v := nI (sW f s g)) (by omega) (by omega) ((hF 41 _ (by omega)).trans ((k1 _ (by omega) (by omega)).trans (rr.w hs hg))) ?_)
            refine v_iast 102 (k := (23 + (3 * (f 0))) + g) (nI (sW f s g)) (by decide) rfl (by decide) dX8_split_101 rfl rfl (by omega) rfl (fun I101 e101 => ?_)
            refine v_iinc 105 [some (rfv x 40), some (.int (nI (s))), some (.int (nI (f 0))), some (.int (nI (gW f s s))), some (.int (nI (g + 1)))] (nI (g + 1)) dX8_split_102 rfl (by decide) rfl (nI_inc _) rfl ?_
            refine v_goto 75 dX8_split_105 (by decide) ?_
            refine v_drop [some (rfv x 40), some (.int (nI (s))), some (.int (nI (f 0))), some (.int (nI (gW f s s))), some (.int (nI (g + 1)))] (by simp [lsub, smN_s]) ?_
            refine ih I101 (fun q hq => ?_) (fun a q z => (up2_off e101 (by omega)).trans (hF a q z))
            by_cases y : q = g
            · rw [y]
              exact up2_at e101
            · exact (up2_off e101 (by omega)).trans (hA q (by omega))
      refine v_drop [some (rfv x 40), some (.int (nI (s))), some (.int (nI (f 0))), some (.int (nI (gW f s s))), some (.int (nI (0)))] (by simp [lsub, smN, amN, dbW, mxN]) ?_
      exact lp 0 (Nat.zero_le _) I71 (fun q h => absurd h (Nat.not_lt_zero q)) (fun a q _ => rfl)
    · skip
      refine v_bipush 27 ((-3)) (by decide) dX8_split_25 rfl ?_
      refine v_iret rfl dX8_split_27 ?_
      refine qZ (hQ I2 L lo2 ?_) (by rw [spA, if_neg h10, if_pos h22])
      simp only [spB, if_neg h10, if_pos h22]
      exact ri2
  · skip
    refine v_iconst 14 ((-1)) (by decide) dX8_split_13 rfl ?_
    refine v_iret rfl dX8_split_14 ?_
    refine qZ (hQ I2 L lo2 ?_) (by rw [spA, if_pos h10])
    simp only [spB, if_pos h10]
    exact ri2
