/-! the reference reads the text -/
def chN (T : Tx) (tl i : Nat) : Nat := if i < tl then T i else 0
theorem inr_lB {c : Nat} (hc : c < 2147483648) : inr (nI c) (nI 97) (nI 99) = lB c := by
  unfold inr lB
  by_cases h : 97 ≤ c ∧ c ≤ 99
  · rw [if_pos h, if_neg (by
      rintro (q | q)
      · have := (nI_ltI hc (by decide)).mp q
        omega
      · have := (nI_ltI (by decide) hc).mp q
        omega)]
  · rw [if_neg h, if_pos (by
      by_cases y : c < 97
      · exact Or.inl ((nI_ltI hc (by decide)).mpr y)
      · exact Or.inr ((nI_ltI (by decide) hc).mpr (by omega)))]
theorem tCn_2 {T : Tx} : ∀ i, tTo T i → 2 * tCn T i + tLt T i ≤ i
  | 0, _ => Nat.le_refl _
  | i + 1, h => by
    have h0 := tCn_2 i (tTo_le h (by omega))
    by_cases y : T i = 59
    · rw [tCn_z y, tLt_z y]
      rcases h i (by omega) with ⟨q, _⟩ | ⟨_, q⟩ <;> omega
    · rw [tCn_s y, tLt_s y]
      omega
theorem tRT_m {T : Tx} {tl k : Nat} (h : noF T tl) (hk : k < tM T tl) : 1 ≤ tRT T tl (8 * k) ∧ tRT T tl (8 * k) ≤ 7 := by
  have ho := noF_to h
  have h7 := tLt_le ho
  have h8 := h.2
  unfold tM at hk
  by_cases y : k = tCn T tl
  · rw [y, tRT_c tl ho]
    omega
  · exact tRT_n tl ho k (by omega)
def TD (T : Tx) (i m : Nat) (I : Iv) : Prop := (∀ k, k < m → I 53 (8 * k) = nI (tRT T i (8 * k))) ∧ ∀ k p, k < m → p < tRT T i (8 * k) → I 53 (8 * k + 1 + p) = nI (tRT T i (8 * k + 1 + p))
def RF2 (I I1 : Iv) : Prop := ∀ a q, a ≠ 53 → (a ≠ 40 ∨ (q ≠ 16 ∧ q ≠ 17 ∧ q ≠ 19)) → I1 a q = I a q
def SC (T : Tx) (tl i : Nat) : Prop := i = tl ∨ ¬ ((97 ≤ T i ∧ T i ≤ 99) ∧ tLt T i < 7)
def wlN (T : Tx) (i : Nat) : Nat := if 0 < tLt T i then 1 else 0
def rdA (T : Tx) (tl : Nat) : Int32 := if noF T tl then (-5) else nI (tFS T tl 0)
set_option maxHeartbeats 4000000 in
theorem sp_X8_letter {x : Cx} {Q : Qt} {I : Iv} {L : Lv} {P : Pv} {T : Tx} {tl : Nat} (ht8 : I 40 8 = nI tl) (ht45 : ∀ j, j < tl → I 45 j = nI (T j)) (hl : tl ≤ 60) (hT : ∀ j, j < tl → T j < 65536) {i : Nat} (hi : I 40 16 = nI i) (hb : i ≤ 60) (hQ : Q (some (.int (nI (chN T tl i)))) I L P) : SP x M_X8_letter [rfv x 40] I L P Q := by
  refine SP.intro [some (rfv x 40)] pn_X8_letter (Nat.le_of_ble_eq_true rfl) rfl ?_
  refine v_aload_n 1 rfl dX8_letter_0 rfl ?_
  refine v_get 4 (k := 16) 8 (.int (nI (i))) (by decide) rfl (by decide) (by decide) dX8_letter_1 rfl fl_X8_117 (congrArg Value.int hi) ?_
  refine v_aload_n 5 rfl dX8_letter_4 rfl ?_
  refine v_get 8 (k := 8) 8 (.int (nI (tl))) (by decide) rfl (by decide) (by decide) dX8_letter_5 rfl fl_X8_120 (congrArg Value.int ht8) ?_
  refine v_icmpN_ge 23 11 dX8_letter_8 (by decide) rfl (by omega) (by omega) (fun h8 => ?_) (fun h8 => ?_)
  · skip
    refine v_iconst 24 (nI (0)) (by decide) dX8_letter_23 rfl ?_
    refine v_iret rfl dX8_letter_24 ?_
    first
    | exact qI hQ (show 0 = chN T tl i by unfold chN; rw [if_neg (by omega)])
    | exact qI hQ (show T i = chN T tl i by unfold chN; rw [if_pos (by omega)])
  · skip
    refine v_aload_n 12 rfl dX8_letter_11 rfl ?_
    refine v_get 15 (k := 7) 8 (rfv x 45) (by decide) rfl (by decide) (by decide) dX8_letter_12 rfl fl_X8_22 rfl ?_
    refine v_aload_n 16 rfl dX8_letter_15 rfl ?_
    refine v_get 19 (k := 16) 8 (.int (nI (i))) (by decide) rfl (by decide) (by decide) dX8_letter_16 rfl fl_X8_117 (congrArg Value.int hi) ?_
    refine v_iald 20 (k := i) (nI (T i)) (by decide) rfl (by decide) dX8_letter_19 rfl rfl (by omega) (ht45 i (by omega)) ?_
    refine v_goto 24 dX8_letter_20 (by decide) ?_
    refine v_iret rfl dX8_letter_24 ?_
    first
    | exact qI hQ (show 0 = chN T tl i by unfold chN; rw [if_neg (by omega)])
    | exact qI hQ (show T i = chN T tl i by unfold chN; rw [if_pos (by omega)])
set_option maxHeartbeats 4000000 in
theorem sp_X8_readsSample {x : Cx} {Q : Qt} {I : Iv} {L : Lv} {P : Pv} {T : Tx} {tl : Nat} (ht8 : I 40 8 = nI tl) (ht45 : ∀ j, j < tl → I 45 j = nI (T j)) (hl : tl ≤ 60) (hT : ∀ j, j < tl → T j < 65536) {i : Nat} (hit : i ≤ tl) (ho : tTo T i) (hz : tLt T i = 0) (h16 : I 40 16 = nI i) (h19 : I 40 19 = nI (tCn T i)) (td : TD T i (tCn T i) I) (hQ : ∀ (n : Nat) (I1 : Iv), i + n ≤ tl → tTo T (i + n) → SC T tl (i + n) → RF2 I I1 → I1 40 16 = nI (i + n) → I1 40 17 = nI (wlN T (i + n)) → I1 40 19 = nI (tCn T (i + n) + 1) → TD T (i + n) (tCn T (i + n) + 1) I1 → Q none I1 L P) : SP x M_X8_readsSample [rfv x 40] I L P Q := by
  have hcn := tCn_2 i ho
  refine SP.intro [some (rfv x 40), none] pn_X8_readsSample (Nat.le_of_ble_eq_true rfl) rfl ?_
  refine v_iconst 1 (nI (0)) (by decide) dX8_readsSample_0 rfl ?_
  refine v_istore_n 2 [some (rfv x 40), some (.int (nI (0)))] dX8_readsSample_1 rfl (by decide) rfl ?_
  have fin : ∀ v, v ≤ 7 → SC T tl (i + v) → i + v ≤ tl → tTo T (i + v) → tLt T (i + v) = v → tCn T (i + v) = tCn T i → ∀ Ij : Iv, RF2 I Ij → Ij 40 16 = nI (i + v) → Ij 40 19 = nI (tCn T i) → TD T (i + v) (tCn T i) Ij → (∀ p, p < v → Ij 53 (8 * tCn T i + 1 + p) = nI (tRT T (i + v) (8 * tCn T i + 1 + p))) → V x M_X8_readsSample Q 61 [some (rfv x 40), some (.int (nI (v)))] [] Ij L P := by
    intro v hv hsc h1 ho2 hLt hCn Ij rf k16 k19 td2 row
    refine v_aload_n 62 rfl dX8_readsSample_61 rfl ?_
    refine v_get 65 (k := 18) 8 (rfv x 53) (by decide) rfl (by decide) (by decide) dX8_readsSample_62 rfl fl_X8_47 rfl ?_
    refine v_bipush 67 (nI (8)) (by decide) dX8_readsSample_65 rfl ?_
    refine v_aload_n 68 rfl dX8_readsSample_67 rfl ?_
    refine v_get 71 (k := 19) 8 (.int (nI (tCn T i))) (by decide) rfl (by decide) (by decide) dX8_readsSample_68 rfl fl_X8_127 (congrArg Value.int k19) ?_
    refine v_imul 72 (nI (8 * (tCn T i))) dX8_readsSample_71 rfl (pk_mul _ _) ?_
    refine v_iload_n 73 rfl dX8_readsSample_72 rfl ?_
    refine v_iast 74 (k := 8 * (tCn T i)) (nI (v)) (by decide) rfl (by decide) dX8_readsSample_73 rfl rfl (by omega) rfl (fun I73 e73 => ?_)
    refine v_aload_n 75 rfl dX8_readsSample_74 rfl ?_
    refine v_iload_n 76 rfl dX8_readsSample_75 rfl ?_
    refine v_ifN_le 83 79 dX8_readsSample_76 (by decide) rfl (by omega) (fun h76 => ?_) (fun h76 => ?_)
    · skip
      refine v_iconst 84 (nI (0)) (by decide) dX8_readsSample_83 rfl ?_
      refine v_putI 87 (k := 17) 8 .boolean (by decide) rfl (by decide) (by decide) rfl (by decide +kernel) (by decide +kernel) rfl (fun _ _ => rfl) dX8_readsSample_84 rfl fl_X8_130 (fun I84 e84 => ?_)
      refine v_aload_n 88 rfl dX8_readsSample_87 rfl ?_
      refine v_dup 89 dX8_readsSample_88 rfl rfl ?_
      refine v_get 92 (k := 19) 8 (.int (nI (tCn T i))) (by decide) rfl (by decide) (by decide) dX8_readsSample_89 rfl fl_X8_127 (congrArg Value.int ((up2_off e84 (by omega)).trans ((up2_off e73 (by omega)).trans k19))) ?_
      refine v_iconst 93 (nI (1)) (by decide) dX8_readsSample_92 rfl ?_
      refine v_iadd 94 (nI ((tCn T i) + 1)) dX8_readsSample_93 rfl (nI_add _ _) ?_
      refine v_putI 97 (k := 19) 8 .int (by decide) rfl (by decide) (by decide) rfl (by decide +kernel) rfl rfl (fun _ _ => rfl) dX8_readsSample_94 rfl fl_X8_127 (fun I94 e94 => ?_)
      refine v_vret rfl dX8_readsSample_97 ?_
      refine hQ v I94 h1 ho2 hsc (fun a q z1 z2 => ?_) ?_ ?_ (by rw [hCn]; exact up2_at e94) ?_
      · exact (up2_off e94 (by omega)).trans ((up2_off e84 (by omega)).trans ((up2_off e73 (by omega)).trans (rf a q z1 z2)))
      · exact (up2_off e94 (by omega)).trans ((up2_off e84 (by omega)).trans ((up2_off e73 (by omega)).trans k16))
      · refine (up2_off e94 (by omega)).trans ((up2_at e84).trans (congrArg nI ?_))
        unfold wlN
        rw [hLt]
        first
        | rw [if_pos h76]
        | rw [h76, if_neg (by decide)]
      · have s1 : ∀ q, q ≠ 8 * tCn T i → I94 53 q = Ij 53 q := fun q z => (up2_off e94 (by omega)).trans ((up2_off e84 (by omega)).trans (up2_off e73 (by omega)))
        have s2 : I94 53 (8 * tCn T i) = nI v := (up2_off e94 (by omega)).trans ((up2_off e84 (by omega)).trans (up2_at e73))
        have s3 : tRT T (i + v) (8 * tCn T i) = v := by
          have h9 := tRT_c (i + v) ho2
          rwa [hCn, hLt] at h9
        rw [hCn]
        refine ⟨fun k hk => ?_, fun k j hk hj => ?_⟩
        · by_cases y : k = tCn T i
          · rw [y, s3]
            exact s2
          · exact (s1 _ (by omega)).trans (td2.1 k (by omega))
        · by_cases y : k = tCn T i
          · rw [y, s3] at hj
            rw [y]
            exact (s1 _ (by omega)).trans (row j hj)
          · have h9 := tRT_n (i + v) ho2 k (by omega)
            exact (s1 _ (by omega)).trans (td2.2 k j (by omega) hj)
    · skip
      refine v_iconst 80 (nI (1)) (by decide) dX8_readsSample_79 rfl ?_
      refine v_goto 84 dX8_readsSample_80 (by decide) ?_
      refine v_putI 87 (k := 17) 8 .boolean (by decide) rfl (by decide) (by decide) rfl (by decide +kernel) (by decide +kernel) rfl (fun _ _ => rfl) dX8_readsSample_84 rfl fl_X8_130 (fun I84 e84 => ?_)
      refine v_aload_n 88 rfl dX8_readsSample_87 rfl ?_
      refine v_dup 89 dX8_readsSample_88 rfl rfl ?_
      refine v_get 92 (k := 19) 8 (.int (nI (tCn T i))) (by decide) rfl (by decide) (by decide) dX8_readsSample_89 rfl fl_X8_127 (congrArg Value.int ((up2_off e84 (by omega)).trans ((up2_off e73 (by omega)).trans k19))) ?_
      refine v_iconst 93 (nI (1)) (by decide) dX8_readsSample_92 rfl ?_
      refine v_iadd 94 (nI ((tCn T i) + 1)) dX8_readsSample_93 rfl (nI_add _ _) ?_
      refine v_putI 97 (k := 19) 8 .int (by decide) rfl (by decide) (by decide) rfl (by decide +kernel) rfl rfl (fun _ _ => rfl) dX8_readsSample_94 rfl fl_X8_127 (fun I94 e94 => ?_)
      refine v_vret rfl dX8_readsSample_97 ?_
      refine hQ v I94 h1 ho2 hsc (fun a q z1 z2 => ?_) ?_ ?_ (by rw [hCn]; exact up2_at e94) ?_
      · exact (up2_off e94 (by omega)).trans ((up2_off e84 (by omega)).trans ((up2_off e73 (by omega)).trans (rf a q z1 z2)))
      · exact (up2_off e94 (by omega)).trans ((up2_off e84 (by omega)).trans ((up2_off e73 (by omega)).trans k16))
      · refine (up2_off e94 (by omega)).trans ((up2_at e84).trans (congrArg nI ?_))
        unfold wlN
        rw [hLt]
        first
        | rw [if_pos h76]
        | rw [h76, if_neg (by decide)]
      · have s1 : ∀ q, q ≠ 8 * tCn T i → I94 53 q = Ij 53 q := fun q z => (up2_off e94 (by omega)).trans ((up2_off e84 (by omega)).trans (up2_off e73 (by omega)))
        have s2 : I94 53 (8 * tCn T i) = nI v := (up2_off e94 (by omega)).trans ((up2_off e84 (by omega)).trans (up2_at e73))
        have s3 : tRT T (i + v) (8 * tCn T i) = v := by
          have h9 := tRT_c (i + v) ho2
          rwa [hCn, hLt] at h9
        rw [hCn]
        refine ⟨fun k hk => ?_, fun k j hk hj => ?_⟩
        · by_cases y : k = tCn T i
          · rw [y, s3]
            exact s2
          · exact (s1 _ (by omega)).trans (td2.1 k (by omega))
        · by_cases y : k = tCn T i
          · rw [y, s3] at hj
            rw [y]
            exact (s1 _ (by omega)).trans (row j hj)
          · have h9 := tRT_n (i + v) ho2 k (by omega)
            exact (s1 _ (by omega)).trans (td2.2 k j (by omega) hj)
  have lp : ∀ v, v ≤ 7 → i + v ≤ tl → tTo T (i + v) → tLt T (i + v) = v → tCn T (i + v) = tCn T i → ∀ Ij : Iv, RF2 I Ij → Ij 40 16 = nI (i + v) → Ij 40 19 = nI (tCn T i) → TD T (i + v) (tCn T i) Ij → (∀ p, p < v → Ij 53 (8 * tCn T i + 1 + p) = nI (tRT T (i + v) (8 * tCn T i + 1 + p))) → V x M_X8_readsSample Q 2 [some (rfv x 40), some (.int (nI (v)))] [] Ij L P := by
    refine lpU ?_ ?_
    · intro h1 ho2 hLt hCn Ij rf k16 k19 td2 row
      refine v_iload_n 3 rfl dX8_readsSample_2 rfl ?_
      refine v_bipush 5 (nI (7)) (by decide) dX8_readsSample_3 rfl ?_
      refine v_icmpN_ge 61 8 dX8_readsSample_5 (by decide) rfl (by omega) (by omega) (fun h5 => ?_) (fun h5 => ?_)
      · skip
        exact fin 7 (Nat.le_refl _) (Or.inr (fun q => by have := q.2; omega)) h1 ho2 hLt hCn Ij rf k16 k19 td2 row
      · skip
        exact absurd h5 (by omega)
    · intro v hv ih h1 ho2 hLt hCn Ij rf k16 k19 td2 row
      have hch : chN T tl (i + v) < 65536 := by
        unfold chN
        split
        · exact hT _ (by omega)
        · decide
      refine v_iload_n 3 rfl dX8_readsSample_2 rfl ?_
      refine v_bipush 5 (nI (7)) (by decide) dX8_readsSample_3 rfl ?_
      refine v_icmpN_ge 61 8 dX8_readsSample_5 (by decide) rfl (by omega) (by omega) (fun h5 => ?_) (fun h5 => ?_)
      · skip
        exact absurd h5 (by omega)
      · skip
        refine v_aload_n 9 rfl dX8_readsSample_8 rfl ?_
        refine v_invV 12 M_X8_letter [] (by decide) rfl (by decide) rfl dX8_readsSample_9 rfl ml_X8_123 im_X8_letter se_X8_letter mc_X8_letter (by decide) (Nat.le_of_ble_eq_true rfl) (sp_X8_letter (T := T) (i := i + v) ((rf 40 8 (by decide) (by omega)).trans ht8) (fun j hj => (rf 45 j (by decide) (by omega)).trans (ht45 j hj)) hl hT k16 (by omega) ?_)
        refine v_bipush 14 (nI (97)) (by decide) dX8_readsSample_12 rfl ?_
        refine v_bipush 16 (nI (99)) (by decide) dX8_readsSample_14 rfl ?_
        refine v_invT 19 M_X8_in [.int (nI (chN T tl (i + v))), .int (nI (97)), .int (nI (99))] dX8_readsSample_16 rfl ml_X8_58 sm_X8_in mc_X8_in (by decide) (Nat.le_of_ble_eq_true rfl) (sp_X8_in ?_)
        refine v_ifN_eq 61 22 dX8_readsSample_19 (by decide) rfl (by have := inr_lt (nI (chN T tl (i + v))) (nI 97) (nI 99); omega) (fun h19 => ?_) (fun h19 => ?_)
        · skip
          refine fin v (by omega) ?_ h1 ho2 hLt hCn Ij rf k16 k19 td2 row
          have hc0 := lB_0 (c := chN T tl (i + v)) (by rw [← inr_lB (by omega)]; exact h19)
          by_cases y : i + v = tl
          · exact Or.inl y
          · refine Or.inr (fun q => hc0 ?_)
            unfold chN
            rw [if_pos (by omega)]
            exact q.1
        · skip
          have hc0 : 97 ≤ chN T tl (i + v) ∧ chN T tl (i + v) ≤ 99 := lB_1 (by rw [← inr_lB (by omega)]; exact h19)
          have hlt : i + v < tl := Classical.byContradiction fun q => by
            unfold chN at hc0
            rw [if_neg q] at hc0
            omega
          have ech : chN T tl (i + v) = T (i + v) := if_pos hlt
          have hoc : okc T (i + v) := Or.inl ⟨by rw [← ech]; exact hc0, by omega⟩
          have hn59 : T (i + v) ≠ 59 := by omega
          refine v_aload_n 23 rfl dX8_readsSample_22 rfl ?_
          refine v_get 26 (k := 18) 8 (rfv x 53) (by decide) rfl (by decide) (by decide) dX8_readsSample_23 rfl fl_X8_47 rfl ?_
          refine v_bipush 28 (nI (8)) (by decide) dX8_readsSample_26 rfl ?_
          refine v_aload_n 29 rfl dX8_readsSample_28 rfl ?_
          refine v_get 32 (k := 19) 8 (.int (nI (tCn T i))) (by decide) rfl (by decide) (by decide) dX8_readsSample_29 rfl fl_X8_127 (congrArg Value.int k19) ?_
          refine v_imul 33 (nI (8 * (tCn T i))) dX8_readsSample_32 rfl (pk_mul _ _) ?_
          refine v_iconst 34 (nI (1)) (by decide) dX8_readsSample_33 rfl ?_
          refine v_iadd 35 (nI ((8 * (tCn T i)) + 1)) dX8_readsSample_34 rfl (nI_add _ _) ?_
          refine v_iload_n 36 rfl dX8_readsSample_35 rfl ?_
          refine v_iadd 37 (nI (((8 * (tCn T i)) + 1) + v)) dX8_readsSample_36 rfl (nI_add _ _) ?_
          refine v_aload_n 38 rfl dX8_readsSample_37 rfl ?_
          refine v_invV 41 M_X8_letter [] (by decide) rfl (by decide) rfl dX8_readsSample_38 rfl ml_X8_123 im_X8_letter se_X8_letter mc_X8_letter (by decide) (Nat.le_of_ble_eq_true rfl) (sp_X8_letter (T := T) (i := i + v) ((rf 40 8 (by decide) (by omega)).trans ht8) (fun j hj => (rf 45 j (by decide) (by omega)).trans (ht45 j hj)) hl hT k16 (by omega) ?_)
          refine v_bipush 43 (nI (97)) (by decide) dX8_readsSample_41 rfl ?_
          refine v_isub 44 (nI ((chN T tl (i + v)) - 97)) dX8_readsSample_43 rfl (pk_sub (by omega)) ?_
          refine v_iast 45 (k := ((8 * (tCn T i)) + 1) + v) (nI ((chN T tl (i + v)) - 97)) (by decide) rfl (by decide) dX8_readsSample_44 rfl rfl (by omega) rfl (fun I44 e44 => ?_)
          refine v_iinc 48 [some (rfv x 40), some (.int (nI (v + 1)))] (nI (v + 1)) dX8_readsSample_45 rfl (by decide) rfl (nI_inc _) rfl ?_
          refine v_aload_n 49 rfl dX8_readsSample_48 rfl ?_
          refine v_dup 50 dX8_readsSample_49 rfl rfl ?_
          refine v_get 53 (k := 16) 8 (.int (nI (i + v))) (by decide) rfl (by decide) (by decide) dX8_readsSample_50 rfl fl_X8_117 (congrArg Value.int ((up2_off e44 (by omega)).trans k16)) ?_
          refine v_iconst 54 (nI (1)) (by decide) dX8_readsSample_53 rfl ?_
          refine v_iadd 55 (nI ((i + v) + 1)) dX8_readsSample_54 rfl (nI_add _ _) ?_
          refine v_putI 58 (k := 16) 8 .int (by decide) rfl (by decide) (by decide) rfl (by decide +kernel) rfl rfl (fun _ _ => rfl) dX8_readsSample_55 rfl fl_X8_117 (fun I55 e55 => ?_)
          refine v_goto 2 dX8_readsSample_58 (by decide) ?_
          refine v_drop [some (rfv x 40), some (.int (nI (v + 1)))] (by simp [lsub, smN_s]) ?_
          have er : ∀ q, tRT T (i + v + 1) q = if q = 8 * tCn T i + 1 + v then T (i + v) - 97 else if q = 8 * tCn T i then v + 1 else tRT T (i + v) q := fun q => by
            rw [tRT_ss hn59, hCn, hLt]
          have s1 : ∀ a q, (a ≠ 53 ∨ q ≠ 8 * tCn T i + 1 + v) → (a ≠ 40 ∨ q ≠ 16) → I55 a q = Ij a q := fun a q z1 z2 => (up2_off e55 (by omega)).trans (up2_off e44 (by omega))
          refine ih (by omega) (tTo_s ho2 hoc) (by rw [show i + (v + 1) = i + v + 1 from rfl, tLt_s hn59, hLt]) (by rw [show i + (v + 1) = i + v + 1 from rfl, tCn_s hn59, hCn]) I55 (fun a q z1 z2 => (s1 a q (by omega) (by omega)).trans (rf a q z1 z2)) (up2_at e55) ((s1 40 19 (by omega) (by omega)).trans k19) ⟨fun k hk => ?_, fun k j hk hj => ?_⟩ (fun j hj => ?_)
          · rw [show i + (v + 1) = i + v + 1 from rfl, er, if_neg (by omega), if_neg (by omega)]
            exact (s1 53 _ (by omega) (by omega)).trans (td2.1 k hk)
          · have h9 := tRT_n (i + v) ho2 k (by omega)
            rw [show i + (v + 1) = i + v + 1 from rfl] at hj ⊢
            rw [er, if_neg (by omega), if_neg (by omega)] at hj
            rw [er, if_neg (by omega), if_neg (by omega)]
            exact (s1 53 _ (by omega) (by omega)).trans (td2.2 k j hk hj)
          · rw [show i + (v + 1) = i + v + 1 from rfl, er]
            by_cases y : j = v
            · rw [y, if_pos rfl, ← ech]
              exact (up2_off e55 (by omega)).trans (up2_at e44)
            · rw [if_neg (by omega), if_neg (by omega)]
              exact (s1 53 _ (by omega) (by omega)).trans (row j (by omega))
  refine v_drop [some (rfv x 40), some (.int (nI (0)))] (by simp [lsub, smN, amN, dbW, mxN]) ?_
  exact lp 0 (Nat.zero_le _) hit ho hz rfl I (fun a q _ _ => rfl) h16 h19 td (fun q h => absurd h (Nat.not_lt_zero q))
set_option maxHeartbeats 4000000 in
theorem sp_X8_reads {x : Cx} {Q : Qt} {I : Iv} {L : Lv} {P : Pv} {T : Tx} {tl : Nat} (ht8 : I 40 8 = nI tl) (ht45 : ∀ j, j < tl → I 45 j = nI (T j)) (hl : tl ≤ 60) (hT : ∀ j, j < tl → T j < 65536) (hQ : ∀ I1 : Iv, RF2 I I1 → (noF T tl → I1 40 19 = nI (tM T tl) ∧ TD T tl (tM T tl) I1) → Q (some (.int (rdA T tl))) I1 L P) : SP x M_X8_reads [rfv x 40] I L P Q := by
  refine SP.intro [some (rfv x 40)] pn_X8_reads (Nat.le_of_ble_eq_true rfl) rfl ?_
  refine v_aload_n 1 rfl dX8_reads_0 rfl ?_
  refine v_iconst 2 (nI (0)) (by decide) dX8_reads_1 rfl ?_
  refine v_putI 5 (k := 16) 8 .int (by decide) rfl (by decide) (by decide) rfl (by decide +kernel) rfl rfl (fun _ _ => rfl) dX8_reads_2 rfl fl_X8_117 (fun I2 e2 => ?_)
  refine v_aload_n 6 rfl dX8_reads_5 rfl ?_
  refine v_iconst 7 (nI (1)) (by decide) dX8_reads_6 rfl ?_
  refine v_putI 10 (k := 17) 8 .boolean (by decide) rfl (by decide) (by decide) rfl (by decide +kernel) (by decide +kernel) rfl (fun _ _ => rfl) dX8_reads_7 rfl fl_X8_130 (fun I7 e7 => ?_)
  refine v_aload_n 11 rfl dX8_reads_10 rfl ?_
  refine v_iconst 12 (nI (0)) (by decide) dX8_reads_11 rfl ?_
  refine v_putI 15 (k := 19) 8 .int (by decide) rfl (by decide) (by decide) rfl (by decide +kernel) rfl rfl (fun _ _ => rfl) dX8_reads_12 rfl fl_X8_127 (fun I12 e12 => ?_)
  refine v_aload_n 16 rfl dX8_reads_15 rfl ?_
  refine v_invV 19 M_X8_readsSample [] (by decide) rfl (by decide) rfl dX8_reads_16 rfl ml_X8_134 im_X8_readsSample se_X8_readsSample mc_X8_readsSample (by decide) (Nat.le_of_ble_eq_true rfl) (sp_X8_readsSample (T := T) (tl := tl) (i := 0) ((up2_off e12 (by omega)).trans ((up2_off e7 (by omega)).trans ((up2_off e2 (by omega)).trans ht8))) (fun j hj => (up2_off e12 (by omega)).trans ((up2_off e7 (by omega)).trans ((up2_off e2 (by omega)).trans (ht45 j hj)))) hl hT (Nat.zero_le _) (fun j hj => absurd hj (Nat.not_lt_zero j)) rfl ((up2_off e12 (by omega)).trans ((up2_off e7 (by omega)).trans (up2_at e2))) (up2_at e12) ⟨fun k hk => absurd hk (Nat.not_lt_zero k), fun k j hk => absurd hk (Nat.not_lt_zero k)⟩ (fun n0 Ia q1 q2 q3 q4 q5 q6 q7 q8 => ?_))
  have key : ∀ d i, tl - i ≤ d → i ≤ tl → tTo T i → SC T tl i → ∀ Ij : Iv, RF2 I Ij → Ij 40 16 = nI i → Ij 40 17 = nI (wlN T i) → Ij 40 19 = nI (tCn T i + 1) → TD T i (tCn T i + 1) Ij → V x M_X8_reads Q 19 [some (rfv x 40)] [] Ij L P := by
    intro d
    induction d with
    | zero =>
      intro i hd hit ho hsc Ij rf k16 k17 k19 td
      by_cases hw : 0 < tLt T i
      · have k17b : Ij 40 17 = nI 1 := k17.trans (congrArg nI (if_pos hw))
        refine v_aload_n 20 rfl dX8_reads_19 rfl ?_
        refine v_get 23 (k := 17) 8 (.int (nI (1))) (by decide) rfl (by decide) (by decide) dX8_reads_20 rfl fl_X8_130 (congrArg Value.int k17b) ?_
        refine v_ifN_eq 90 26 dX8_reads_23 (by decide) rfl (by decide) (fun h => absurd h (by decide)) (fun _ => ?_)
        refine v_aload_n 27 rfl dX8_reads_26 rfl ?_
        refine v_get 30 (k := 16) 8 (.int (nI (i))) (by decide) rfl (by decide) (by decide) dX8_reads_27 rfl fl_X8_117 (congrArg Value.int k16) ?_
        refine v_aload_n 31 rfl dX8_reads_30 rfl ?_
        refine v_get 34 (k := 8) 8 (.int (nI (tl))) (by decide) rfl (by decide) (by decide) dX8_reads_31 rfl fl_X8_120 (congrArg Value.int ((rf 40 8 (by decide) (by omega)).trans ht8)) ?_
        refine v_icmpN_ge 90 37 dX8_reads_34 (by decide) rfl (by omega) (by omega) (fun h34 => ?_) (fun h34 => ?_)
        · skip
          refine v_aload_n 91 rfl dX8_reads_90 rfl ?_
          refine v_get 94 (k := 17) 8 (.int (nI (1))) (by decide) rfl (by decide) (by decide) dX8_reads_91 rfl fl_X8_130 (congrArg Value.int k17b) ?_
          refine v_ifN_eq 102 97 dX8_reads_94 (by decide) rfl (by decide) (fun h => absurd h (by decide)) (fun _ => ?_)
          refine v_bipush 99 ((-5)) (by decide) dX8_reads_97 rfl ?_
          refine v_goto 106 dX8_reads_99 (by decide) ?_
          refine v_iret rfl dX8_reads_106 ?_
          have ei : i = tl := by omega
          subst ei
          have hf := noF_1 ho hw
          refine qZ (hQ Ij rf (fun _ => ⟨k19, td⟩)) (by rw [rdA, if_pos hf])
        · skip
          refine v_aload_n 38 rfl dX8_reads_37 rfl ?_
          refine v_aload_n 39 rfl dX8_reads_38 rfl ?_
          have hch : chN T tl i < 65536 := by
            rw [show chN T tl i = T i from if_pos h34]
            exact hT _ h34
          refine v_invV 42 M_X8_letter [] (by decide) rfl (by decide) rfl dX8_reads_39 rfl ml_X8_123 im_X8_letter se_X8_letter mc_X8_letter (by decide) (Nat.le_of_ble_eq_true rfl) (sp_X8_letter (T := T) (i := i) ((rf 40 8 (by decide) (by omega)).trans ht8) (fun j hj => (rf 45 j (by decide) (by omega)).trans (ht45 j hj)) hl hT k16 (by omega) ?_)
          refine v_bipush 44 (nI (59)) (by decide) dX8_reads_42 rfl ?_
          refine v_icmpN_ne 51 47 dX8_reads_44 (by decide) rfl (by omega) (by omega) (fun h44 => ?_) (fun h44 => ?_)
          · skip
            have h59 : T i ≠ 59 := by
              have ech : chN T tl i = T i := if_pos h34
              omega
            have hno : ¬ okc T i := by
              rcases hsc with q | q
              · omega
              · rintro (y | y)
                · exact q y
                · exact h59 y.1
            refine v_iconst 52 (nI (0)) (by decide) dX8_reads_51 rfl ?_
            refine v_putI 55 (k := 17) 8 .boolean (by decide) rfl (by decide) (by decide) rfl (by decide +kernel) (by decide +kernel) rfl (fun _ _ => rfl) dX8_reads_52 rfl fl_X8_130 (fun I52 e52 => ?_)
            refine v_aload_n 56 rfl dX8_reads_55 rfl ?_
            refine v_dup 57 dX8_reads_56 rfl rfl ?_
            refine v_get 60 (k := 16) 8 (.int (nI (i))) (by decide) rfl (by decide) (by decide) dX8_reads_57 rfl fl_X8_117 (congrArg Value.int ((up2_off e52 (by omega)).trans k16)) ?_
            refine v_aload_n 61 rfl dX8_reads_60 rfl ?_
            refine v_get 64 (k := 17) 8 (.int (nI (0))) (by decide) rfl (by decide) (by decide) dX8_reads_61 rfl fl_X8_130 (congrArg Value.int (up2_at e52)) ?_
            refine v_ifN_eq 71 67 dX8_reads_64 (by decide) rfl (by decide) (fun _ => ?_) (fun h => absurd h (by decide))
            refine v_iconst 72 (nI (0)) (by decide) dX8_reads_71 rfl ?_
            refine v_iadd 73 (nI (i + 0)) dX8_reads_72 rfl (nI_add _ _) ?_
            refine v_putI 76 (k := 16) 8 .int (by decide) rfl (by decide) (by decide) rfl (by decide +kernel) rfl rfl (fun _ _ => rfl) dX8_reads_73 rfl fl_X8_117 (fun I73 e73 => ?_)
            refine v_aload_n 77 rfl dX8_reads_76 rfl ?_
            refine v_get 80 (k := 17) 8 (.int (nI (0))) (by decide) rfl (by decide) (by decide) dX8_reads_77 rfl fl_X8_130 (congrArg Value.int ((up2_off e73 (by omega)).trans (up2_at e52))) ?_
            refine v_ifN_eq 19 83 dX8_reads_80 (by decide) rfl (by decide) (fun _ => ?_) (fun h => absurd h (by decide))
            refine v_aload_n 20 rfl dX8_reads_19 rfl ?_
            refine v_get 23 (k := 17) 8 (.int (nI (0))) (by decide) rfl (by decide) (by decide) dX8_reads_20 rfl fl_X8_130 (congrArg Value.int ((up2_off e73 (by omega)).trans (up2_at e52))) ?_
            refine v_ifN_eq 90 26 dX8_reads_23 (by decide) rfl (by decide) (fun _ => ?_) (fun h => absurd h (by decide))
            refine v_aload_n 91 rfl dX8_reads_90 rfl ?_
            refine v_get 94 (k := 17) 8 (.int (nI (0))) (by decide) rfl (by decide) (by decide) dX8_reads_91 rfl fl_X8_130 (congrArg Value.int ((up2_off e73 (by omega)).trans (up2_at e52))) ?_
            refine v_ifN_eq 102 97 dX8_reads_94 (by decide) rfl (by decide) (fun _ => ?_) (fun h => absurd h (by decide))
            refine v_aload_n 103 rfl dX8_reads_102 rfl ?_
            refine v_get 106 (k := 16) 8 (.int (nI (i + 0))) (by decide) rfl (by decide) (by decide) dX8_reads_103 rfl fl_X8_117 (congrArg Value.int (up2_at e73)) ?_
            refine v_iret rfl dX8_reads_106 ?_
            refine qZ (hQ I73 (fun a q z1 z2 => (up2_off e73 (by omega)).trans ((up2_off e52 (by omega)).trans (rf a q z1 z2))) (fun q => absurd q (noF_0 ho h34 hno))) (by rw [rdA, if_neg (noF_0 ho h34 hno), tFS_e ho hit (Or.inr hno)]; rfl)
          · skip
            have h59 : T i = 59 := by
              have ech : chN T tl i = T i := if_pos h34
              omega
            have hoc : okc T i := Or.inr ⟨h59, hw⟩
            refine v_iconst 48 (nI (1)) (by decide) dX8_reads_47 rfl ?_
            refine v_goto 52 dX8_reads_48 (by decide) ?_
            refine v_putI 55 (k := 17) 8 .boolean (by decide) rfl (by decide) (by decide) rfl (by decide +kernel) (by decide +kernel) rfl (fun _ _ => rfl) dX8_reads_52 rfl fl_X8_130 (fun I52 e52 => ?_)
            refine v_aload_n 56 rfl dX8_reads_55 rfl ?_
            refine v_dup 57 dX8_reads_56 rfl rfl ?_
            refine v_get 60 (k := 16) 8 (.int (nI (i))) (by decide) rfl (by decide) (by decide) dX8_reads_57 rfl fl_X8_117 (congrArg Value.int ((up2_off e52 (by omega)).trans k16)) ?_
            refine v_aload_n 61 rfl dX8_reads_60 rfl ?_
            refine v_get 64 (k := 17) 8 (.int (nI (1))) (by decide) rfl (by decide) (by decide) dX8_reads_61 rfl fl_X8_130 (congrArg Value.int (up2_at e52)) ?_
            refine v_ifN_eq 71 67 dX8_reads_64 (by decide) rfl (by decide) (fun h => absurd h (by decide)) (fun _ => ?_)
            refine v_iconst 68 (nI (1)) (by decide) dX8_reads_67 rfl ?_
            refine v_goto 72 dX8_reads_68 (by decide) ?_
            refine v_iadd 73 (nI (i + 1)) dX8_reads_72 rfl (nI_add _ _) ?_
            refine v_putI 76 (k := 16) 8 .int (by decide) rfl (by decide) (by decide) rfl (by decide +kernel) rfl rfl (fun _ _ => rfl) dX8_reads_73 rfl fl_X8_117 (fun I73 e73 => ?_)
            refine v_aload_n 77 rfl dX8_reads_76 rfl ?_
            refine v_get 80 (k := 17) 8 (.int (nI (1))) (by decide) rfl (by decide) (by decide) dX8_reads_77 rfl fl_X8_130 (congrArg Value.int ((up2_off e73 (by omega)).trans (up2_at e52))) ?_
            refine v_ifN_eq 19 83 dX8_reads_80 (by decide) rfl (by decide) (fun h => absurd h (by decide)) (fun _ => ?_)
            refine v_aload_n 84 rfl dX8_reads_83 rfl ?_
            refine v_invV 87 M_X8_readsSample [] (by decide) rfl (by decide) rfl dX8_reads_84 rfl ml_X8_134 im_X8_readsSample se_X8_readsSample mc_X8_readsSample (by decide) (Nat.le_of_ble_eq_true rfl) (sp_X8_readsSample (T := T) (tl := tl) (i := i + 1) ((up2_off e73 (by omega)).trans ((up2_off e52 (by omega)).trans ((rf 40 8 (by decide) (by omega)).trans ht8))) (fun j hj => (up2_off e73 (by omega)).trans ((up2_off e52 (by omega)).trans ((rf 45 j (by decide) (by omega)).trans (ht45 j hj)))) hl hT (by omega) (tTo_s ho hoc) (tLt_z h59) (up2_at e73) ((up2_off e73 (by omega)).trans ((up2_off e52 (by omega)).trans (k19.trans (congrArg nI (tCn_z h59).symm)))) ?_ (fun n Ib g1 g2 g3 g4 g5 g6 g7 g8 => ?_))
            · rw [tCn_z h59]
              refine ⟨fun k hk => ?_, fun k j hk hj => ?_⟩
              · rw [tRT_sz h59]
                exact (up2_off e73 (by omega)).trans ((up2_off e52 (by omega)).trans (td.1 k hk))
              · rw [tRT_sz h59] at hj ⊢
                exact (up2_off e73 (by omega)).trans ((up2_off e52 (by omega)).trans (td.2 k j hk hj))
            refine v_goto 19 dX8_reads_87 (by decide) ?_
            exact absurd hd (by omega)
      · have k17b : Ij 40 17 = nI 0 := k17.trans (congrArg nI (if_neg hw))
        refine v_aload_n 20 rfl dX8_reads_19 rfl ?_
        refine v_get 23 (k := 17) 8 (.int (nI (0))) (by decide) rfl (by decide) (by decide) dX8_reads_20 rfl fl_X8_130 (congrArg Value.int k17b) ?_
        refine v_ifN_eq 90 26 dX8_reads_23 (by decide) rfl (by decide) (fun _ => ?_) (fun h => absurd h (by decide))
        refine v_aload_n 91 rfl dX8_reads_90 rfl ?_
        refine v_get 94 (k := 17) 8 (.int (nI (0))) (by decide) rfl (by decide) (by decide) dX8_reads_91 rfl fl_X8_130 (congrArg Value.int k17b) ?_
        refine v_ifN_eq 102 97 dX8_reads_94 (by decide) rfl (by decide) (fun _ => ?_) (fun h => absurd h (by decide))
        refine v_aload_n 103 rfl dX8_reads_102 rfl ?_
        refine v_get 106 (k := 16) 8 (.int (nI (i))) (by decide) rfl (by decide) (by decide) dX8_reads_103 rfl fl_X8_117 (congrArg Value.int k16) ?_
        refine v_iret rfl dX8_reads_106 ?_
        have hnf : ¬ noF T tl ∧ tFS T tl 0 = i := by
          rcases hsc with q | q
          · subst q
            exact ⟨fun y => hw y.2, tFS_e ho hit (Or.inl rfl)⟩
          · have hno : ¬ okc T i := by
              rintro (y | y)
              · exact q y
              · exact hw y.2
            by_cases y : i = tl
            · subst y
              exact ⟨fun y => hw y.2, tFS_e ho hit (Or.inl rfl)⟩
            · exact ⟨noF_0 ho (by omega) hno, tFS_e ho hit (Or.inr hno)⟩
        refine qZ (hQ Ij rf (fun q => absurd q hnf.1)) (by rw [rdA, if_neg hnf.1, hnf.2])
    | succ d ih =>
      intro i hd hit ho hsc Ij rf k16 k17 k19 td
      by_cases hw : 0 < tLt T i
      · have k17b : Ij 40 17 = nI 1 := k17.trans (congrArg nI (if_pos hw))
        refine v_aload_n 20 rfl dX8_reads_19 rfl ?_
        refine v_get 23 (k := 17) 8 (.int (nI (1))) (by decide) rfl (by decide) (by decide) dX8_reads_20 rfl fl_X8_130 (congrArg Value.int k17b) ?_
        refine v_ifN_eq 90 26 dX8_reads_23 (by decide) rfl (by decide) (fun h => absurd h (by decide)) (fun _ => ?_)
        refine v_aload_n 27 rfl dX8_reads_26 rfl ?_
        refine v_get 30 (k := 16) 8 (.int (nI (i))) (by decide) rfl (by decide) (by decide) dX8_reads_27 rfl fl_X8_117 (congrArg Value.int k16) ?_
        refine v_aload_n 31 rfl dX8_reads_30 rfl ?_
        refine v_get 34 (k := 8) 8 (.int (nI (tl))) (by decide) rfl (by decide) (by decide) dX8_reads_31 rfl fl_X8_120 (congrArg Value.int ((rf 40 8 (by decide) (by omega)).trans ht8)) ?_
        refine v_icmpN_ge 90 37 dX8_reads_34 (by decide) rfl (by omega) (by omega) (fun h34 => ?_) (fun h34 => ?_)
        · skip
          refine v_aload_n 91 rfl dX8_reads_90 rfl ?_
          refine v_get 94 (k := 17) 8 (.int (nI (1))) (by decide) rfl (by decide) (by decide) dX8_reads_91 rfl fl_X8_130 (congrArg Value.int k17b) ?_
          refine v_ifN_eq 102 97 dX8_reads_94 (by decide) rfl (by decide) (fun h => absurd h (by decide)) (fun _ => ?_)
          refine v_bipush 99 ((-5)) (by decide) dX8_reads_97 rfl ?_
          refine v_goto 106 dX8_reads_99 (by decide) ?_
          refine v_iret rfl dX8_reads_106 ?_
          have ei : i = tl := by omega
          subst ei
          have hf := noF_1 ho hw
          refine qZ (hQ Ij rf (fun _ => ⟨k19, td⟩)) (by rw [rdA, if_pos hf])
        · skip
          refine v_aload_n 38 rfl dX8_reads_37 rfl ?_
          refine v_aload_n 39 rfl dX8_reads_38 rfl ?_
          have hch : chN T tl i < 65536 := by
            rw [show chN T tl i = T i from if_pos h34]
            exact hT _ h34
          refine v_invV 42 M_X8_letter [] (by decide) rfl (by decide) rfl dX8_reads_39 rfl ml_X8_123 im_X8_letter se_X8_letter mc_X8_letter (by decide) (Nat.le_of_ble_eq_true rfl) (sp_X8_letter (T := T) (i := i) ((rf 40 8 (by decide) (by omega)).trans ht8) (fun j hj => (rf 45 j (by decide) (by omega)).trans (ht45 j hj)) hl hT k16 (by omega) ?_)
          refine v_bipush 44 (nI (59)) (by decide) dX8_reads_42 rfl ?_
          refine v_icmpN_ne 51 47 dX8_reads_44 (by decide) rfl (by omega) (by omega) (fun h44 => ?_) (fun h44 => ?_)
          · skip
            have h59 : T i ≠ 59 := by
              have ech : chN T tl i = T i := if_pos h34
              omega
            have hno : ¬ okc T i := by
              rcases hsc with q | q
              · omega
              · rintro (y | y)
                · exact q y
                · exact h59 y.1
            refine v_iconst 52 (nI (0)) (by decide) dX8_reads_51 rfl ?_
            refine v_putI 55 (k := 17) 8 .boolean (by decide) rfl (by decide) (by decide) rfl (by decide +kernel) (by decide +kernel) rfl (fun _ _ => rfl) dX8_reads_52 rfl fl_X8_130 (fun I52 e52 => ?_)
            refine v_aload_n 56 rfl dX8_reads_55 rfl ?_
            refine v_dup 57 dX8_reads_56 rfl rfl ?_
            refine v_get 60 (k := 16) 8 (.int (nI (i))) (by decide) rfl (by decide) (by decide) dX8_reads_57 rfl fl_X8_117 (congrArg Value.int ((up2_off e52 (by omega)).trans k16)) ?_
            refine v_aload_n 61 rfl dX8_reads_60 rfl ?_
            refine v_get 64 (k := 17) 8 (.int (nI (0))) (by decide) rfl (by decide) (by decide) dX8_reads_61 rfl fl_X8_130 (congrArg Value.int (up2_at e52)) ?_
            refine v_ifN_eq 71 67 dX8_reads_64 (by decide) rfl (by decide) (fun _ => ?_) (fun h => absurd h (by decide))
            refine v_iconst 72 (nI (0)) (by decide) dX8_reads_71 rfl ?_
            refine v_iadd 73 (nI (i + 0)) dX8_reads_72 rfl (nI_add _ _) ?_
            refine v_putI 76 (k := 16) 8 .int (by decide) rfl (by decide) (by decide) rfl (by decide +kernel) rfl rfl (fun _ _ => rfl) dX8_reads_73 rfl fl_X8_117 (fun I73 e73 => ?_)
            refine v_aload_n 77 rfl dX8_reads_76 rfl ?_
            refine v_get 80 (k := 17) 8 (.int (nI (0))) (by decide) rfl (by decide) (by decide) dX8_reads_77 rfl fl_X8_130 (congrArg Value.int ((up2_off e73 (by omega)).trans (up2_at e52))) ?_
            refine v_ifN_eq 19 83 dX8_reads_80 (by decide) rfl (by decide) (fun _ => ?_) (fun h => absurd h (by decide))
            refine v_aload_n 20 rfl dX8_reads_19 rfl ?_
            refine v_get 23 (k := 17) 8 (.int (nI (0))) (by decide) rfl (by decide) (by decide) dX8_reads_20 rfl fl_X8_130 (congrArg Value.int ((up2_off e73 (by omega)).trans (up2_at e52))) ?_
            refine v_ifN_eq 90 26 dX8_reads_23 (by decide) rfl (by decide) (fun _ => ?_) (fun h => absurd h (by decide))
            refine v_aload_n 91 rfl dX8_reads_90 rfl ?_
            refine v_get 94 (k := 17) 8 (.int (nI (0))) (by decide) rfl (by decide) (by decide) dX8_reads_91 rfl fl_X8_130 (congrArg Value.int ((up2_off e73 (by omega)).trans (up2_at e52))) ?_
            refine v_ifN_eq 102 97 dX8_reads_94 (by decide) rfl (by decide) (fun _ => ?_) (fun h => absurd h (by decide))
            refine v_aload_n 103 rfl dX8_reads_102 rfl ?_
            refine v_get 106 (k := 16) 8 (.int (nI (i + 0))) (by decide) rfl (by decide) (by decide) dX8_reads_103 rfl fl_X8_117 (congrArg Value.int (up2_at e73)) ?_
            refine v_iret rfl dX8_reads_106 ?_
            refine qZ (hQ I73 (fun a q z1 z2 => (up2_off e73 (by omega)).trans ((up2_off e52 (by omega)).trans (rf a q z1 z2))) (fun q => absurd q (noF_0 ho h34 hno))) (by rw [rdA, if_neg (noF_0 ho h34 hno), tFS_e ho hit (Or.inr hno)]; rfl)
          · skip
            have h59 : T i = 59 := by
              have ech : chN T tl i = T i := if_pos h34
              omega
            have hoc : okc T i := Or.inr ⟨h59, hw⟩
            refine v_iconst 48 (nI (1)) (by decide) dX8_reads_47 rfl ?_
            refine v_goto 52 dX8_reads_48 (by decide) ?_
            refine v_putI 55 (k := 17) 8 .boolean (by decide) rfl (by decide) (by decide) rfl (by decide +kernel) (by decide +kernel) rfl (fun _ _ => rfl) dX8_reads_52 rfl fl_X8_130 (fun I52 e52 => ?_)
            refine v_aload_n 56 rfl dX8_reads_55 rfl ?_
            refine v_dup 57 dX8_reads_56 rfl rfl ?_
            refine v_get 60 (k := 16) 8 (.int (nI (i))) (by decide) rfl (by decide) (by decide) dX8_reads_57 rfl fl_X8_117 (congrArg Value.int ((up2_off e52 (by omega)).trans k16)) ?_
            refine v_aload_n 61 rfl dX8_reads_60 rfl ?_
            refine v_get 64 (k := 17) 8 (.int (nI (1))) (by decide) rfl (by decide) (by decide) dX8_reads_61 rfl fl_X8_130 (congrArg Value.int (up2_at e52)) ?_
            refine v_ifN_eq 71 67 dX8_reads_64 (by decide) rfl (by decide) (fun h => absurd h (by decide)) (fun _ => ?_)
            refine v_iconst 68 (nI (1)) (by decide) dX8_reads_67 rfl ?_
            refine v_goto 72 dX8_reads_68 (by decide) ?_
            refine v_iadd 73 (nI (i + 1)) dX8_reads_72 rfl (nI_add _ _) ?_
            refine v_putI 76 (k := 16) 8 .int (by decide) rfl (by decide) (by decide) rfl (by decide +kernel) rfl rfl (fun _ _ => rfl) dX8_reads_73 rfl fl_X8_117 (fun I73 e73 => ?_)
            refine v_aload_n 77 rfl dX8_reads_76 rfl ?_
            refine v_get 80 (k := 17) 8 (.int (nI (1))) (by decide) rfl (by decide) (by decide) dX8_reads_77 rfl fl_X8_130 (congrArg Value.int ((up2_off e73 (by omega)).trans (up2_at e52))) ?_
            refine v_ifN_eq 19 83 dX8_reads_80 (by decide) rfl (by decide) (fun h => absurd h (by decide)) (fun _ => ?_)
            refine v_aload_n 84 rfl dX8_reads_83 rfl ?_
            refine v_invV 87 M_X8_readsSample [] (by decide) rfl (by decide) rfl dX8_reads_84 rfl ml_X8_134 im_X8_readsSample se_X8_readsSample mc_X8_readsSample (by decide) (Nat.le_of_ble_eq_true rfl) (sp_X8_readsSample (T := T) (tl := tl) (i := i + 1) ((up2_off e73 (by omega)).trans ((up2_off e52 (by omega)).trans ((rf 40 8 (by decide) (by omega)).trans ht8))) (fun j hj => (up2_off e73 (by omega)).trans ((up2_off e52 (by omega)).trans ((rf 45 j (by decide) (by omega)).trans (ht45 j hj)))) hl hT (by omega) (tTo_s ho hoc) (tLt_z h59) (up2_at e73) ((up2_off e73 (by omega)).trans ((up2_off e52 (by omega)).trans (k19.trans (congrArg nI (tCn_z h59).symm)))) ?_ (fun n Ib g1 g2 g3 g4 g5 g6 g7 g8 => ?_))
            · rw [tCn_z h59]
              refine ⟨fun k hk => ?_, fun k j hk hj => ?_⟩
              · rw [tRT_sz h59]
                exact (up2_off e73 (by omega)).trans ((up2_off e52 (by omega)).trans (td.1 k hk))
              · rw [tRT_sz h59] at hj ⊢
                exact (up2_off e73 (by omega)).trans ((up2_off e52 (by omega)).trans (td.2 k j hk hj))
            refine v_goto 19 dX8_reads_87 (by decide) ?_
            exact ih (i + 1 + n) (by omega) g1 g2 g3 Ib (fun a q z1 z2 => (g4 a q z1 z2).trans ((up2_off e73 (by omega)).trans ((up2_off e52 (by omega)).trans (rf a q z1 z2)))) g5 g6 g7 g8
      · have k17b : Ij 40 17 = nI 0 := k17.trans (congrArg nI (if_neg hw))
        refine v_aload_n 20 rfl dX8_reads_19 rfl ?_
        refine v_get 23 (k := 17) 8 (.int (nI (0))) (by decide) rfl (by decide) (by decide) dX8_reads_20 rfl fl_X8_130 (congrArg Value.int k17b) ?_
        refine v_ifN_eq 90 26 dX8_reads_23 (by decide) rfl (by decide) (fun _ => ?_) (fun h => absurd h (by decide))
        refine v_aload_n 91 rfl dX8_reads_90 rfl ?_
        refine v_get 94 (k := 17) 8 (.int (nI (0))) (by decide) rfl (by decide) (by decide) dX8_reads_91 rfl fl_X8_130 (congrArg Value.int k17b) ?_
        refine v_ifN_eq 102 97 dX8_reads_94 (by decide) rfl (by decide) (fun _ => ?_) (fun h => absurd h (by decide))
        refine v_aload_n 103 rfl dX8_reads_102 rfl ?_
        refine v_get 106 (k := 16) 8 (.int (nI (i))) (by decide) rfl (by decide) (by decide) dX8_reads_103 rfl fl_X8_117 (congrArg Value.int k16) ?_
        refine v_iret rfl dX8_reads_106 ?_
        have hnf : ¬ noF T tl ∧ tFS T tl 0 = i := by
          rcases hsc with q | q
          · subst q
            exact ⟨fun y => hw y.2, tFS_e ho hit (Or.inl rfl)⟩
          · have hno : ¬ okc T i := by
              rintro (y | y)
              · exact q y
              · exact hw y.2
            by_cases y : i = tl
            · subst y
              exact ⟨fun y => hw y.2, tFS_e ho hit (Or.inl rfl)⟩
            · exact ⟨noF_0 ho (by omega) hno, tFS_e ho hit (Or.inr hno)⟩
        refine qZ (hQ Ij rf (fun q => absurd q hnf.1)) (by rw [rdA, if_neg hnf.1, hnf.2])
  exact key tl (0 + n0) (by omega) q1 q2 q3 Ia (fun a q z1 z2 => (q4 a q z1 z2).trans ((up2_off e12 (by omega)).trans ((up2_off e7 (by omega)).trans (up2_off e2 (by omega))))) q5 q6 q7 q8
set_option maxHeartbeats 4000000 in
theorem sp_X8_addSamples {x : Cx} {Q : Qt} {I : Iv} {L : Lv} {P : Pv} {f : Vw} {H : Hs} {hn sn : Nat} {g : Vw} {T : Tx} {tl : Nat} (ri : RI f H hn sn g T tl I) (wi : WI f H hn sn g T tl) (hQ : ∀ (I1 : Iv) (L1 : Lv), (∀ a, a < 40 → I1 a = I a) → RI (stF (smB f T tl) f (smV f T tl)) (stH (smB f T tl) H hn f) (stN (smB f T tl) hn) sn g T tl I1 → Q (some (.int (smA f T tl))) I1 L1 P) : SP x M_X8_addSamples [rfv x 40] I L P Q := by
  obtain ⟨r, hr, hsn, hsg, htx⟩ := id ri
  obtain ⟨w, hw, hs2, hwg, htl, hT⟩ := id wi
  have := w.n4
  have := w.m6
  have := w.n1
  refine SP.intro [some (rfv x 40), none, none, none] pn_X8_addSamples (Nat.le_of_ble_eq_true rfl) rfl ?_
  refine v_aload_n 1 rfl dX8_addSamples_0 rfl ?_
  refine v_iconst 2 (nI (0)) (by decide) dX8_addSamples_1 rfl ?_
  refine v_putI 5 (k := 0) 8 .int (by decide) rfl (by decide) (by decide) rfl (by decide +kernel) rfl rfl (fun _ _ => rfl) dX8_addSamples_2 rfl fl_X8_50 (fun I2 e2 => ?_)
  have ht0 : I2 = up2 I 40 0 (nI 0) := e2
  have r2 : RR (I2 41) f := by rw [up2_row e2 (by omega)]; exact r
  have hr2 : HR H hn I2 := ⟨hr.1, (up2_off e2 (by omega)).trans hr.2.1, fun i hi => by rw [up2_row e2 (by omega)]; exact hr.2.2 i hi⟩
  have ri2 : RI f H hn sn g T tl I2 := ri.kp (fun a q hl => up2_off e2 (by unfold live at hl; omega))
  have lo2 : ∀ a, a < 40 → I2 a = I a := fun a ha => up2_row e2 (by omega)
  refine v_aload_n 6 rfl dX8_addSamples_5 rfl ?_
  refine v_invV 9 M_X8_reads [] (by decide) rfl (by decide) rfl dX8_addSamples_6 rfl ml_X8_137 im_X8_reads se_X8_reads mc_X8_reads (by decide) (Nat.le_of_ble_eq_true rfl) (sp_X8_reads (T := T) (tl := tl) ri2.2.2.2.2.1 ri2.2.2.2.2.2 htl hT (fun Ia fa fb => ?_))
  have ria : RI f H hn sn g T tl Ia := ri2.kp (fun a q hl => fa a q (by unfold live at hl; omega) (by unfold live at hl; omega))
  have ra : RR (Ia 41) f := ria.1
  have loa : ∀ a, a < 40 → Ia a = I a := fun a ha => (funext fun q => fa a q (by omega) (Or.inl (by omega))).trans (lo2 a ha)
  refine v_istore_n 10 [some (rfv x 40), some (.int (rdA T tl)), none, none] dX8_addSamples_9 rfl (by decide) rfl ?_
  refine v_iload_n 11 rfl dX8_addSamples_10 rfl ?_
  refine v_bipush 13 ((-5)) (by decide) dX8_addSamples_11 rfl ?_
  refine v_icmp_eq 21 16 dX8_addSamples_13 (by decide) rfl (fun h13 => ?_) (fun h13 => ?_)
  · skip
    have hz : noF T tl := Classical.byContradiction fun q => nI_neg (by have := tFS_le (T := T) tl 0; omega) (by decide) ((if_neg q).symm.trans h13)
    obtain ⟨k19, td⟩ := fb hz
    have hM : tM T tl ≤ 61 := by have := tCn_lt (T := T) tl; unfold tM; omega
    refine v_aload_n 22 rfl dX8_addSamples_21 rfl ?_
    refine v_get 25 (k := 1) 8 (rfv x 41) (by decide) rfl (by decide) (by decide) dX8_addSamples_22 rfl fl_X8_7 rfl ?_
    refine v_iconst 26 (nI (1)) (by decide) dX8_addSamples_25 rfl ?_
    refine v_iald 27 (k := 1) (nI (f 1)) (by decide) rfl (by decide) dX8_addSamples_26 rfl rfl (by omega) ra.sm ?_
    refine v_aload_n 28 rfl dX8_addSamples_27 rfl ?_
    refine v_get 31 (k := 19) 8 (.int (nI (tM T tl))) (by decide) rfl (by decide) (by decide) dX8_addSamples_28 rfl fl_X8_127 (congrArg Value.int k19) ?_
    refine v_iadd 32 (nI ((f 1) + (tM T tl))) dX8_addSamples_31 rfl (nI_add _ _) ?_
    refine v_bipush 34 (nI (6)) (by decide) dX8_addSamples_32 rfl ?_
    refine v_icmpN_le 40 37 dX8_addSamples_34 (by decide) rfl (by omega) (by omega) (fun h34 => ?_) (fun h34 => ?_)
    · skip
      have h6 : ¬ 6 < f 1 + tM T tl := by omega
      refine v_aload_n 41 rfl dX8_addSamples_40 rfl ?_
      refine v_invV 44 M_X8_records [] (by decide) rfl (by decide) rfl dX8_addSamples_41 rfl ml_X8_105 im_X8_records se_X8_records mc_X8_records (by decide) (Nat.le_of_ble_eq_true rfl) (sp_X8_records ria.2.1 hw ra w (fun Ir fr hrr => ?_))
      have rr : RR (Ir 41) f := (ra.on w (fun j _ => fr 41 j (by decide) (Or.inl (by decide))))
      have kr : Ir 40 19 = nI (tM T tl) := (fr 40 19 (by decide) (by omega)).trans k19
      have tdr : TD T tl (tM T tl) Ir := ⟨fun k hk => (fr 53 _ (by decide) (by omega)).trans (td.1 k hk), fun k j hk hj => (fr 53 _ (by decide) (by omega)).trans (td.2 k j hk hj)⟩
      refine v_iconst 45 (nI (0)) (by decide) dX8_addSamples_44 rfl ?_
      refine v_istore_n 46 [some (rfv x 40), some (.int (rdA T tl)), some (.int (nI (0))), none] dX8_addSamples_45 rfl (by decide) rfl ?_
      have lp : ∀ k, k ≤ (tM T tl) → ∀ Ij : Iv, (∀ a q, (a ≠ 41 ∨ (q ≠ 1 ∧ q < 35 + 8 * f 1) ∨ 35 + 8 * (f 1 + k) ≤ q) → Ij a q = Ir a q) → Ij 41 1 = nI (f 1 + k) → (∀ j, j < k → Ij 41 (35 + 8 * (f 1 + j)) = nI (tRT T tl (8 * j))) → (∀ j q, j < k → q < tRT T tl (8 * j) → Ij 41 (35 + 8 * (f 1 + j) + 1 + q) = nI (tRT T tl (8 * j + 1 + q))) → V x M_X8_addSamples Q 46 [some (rfv x 40), none, some (.int (nI (k))), none] [] Ij L P := by
        refine lpU ?_ ?_
        · intro Ij hF hB hN hS
          refine v_iload_n 47 rfl dX8_addSamples_46 rfl ?_
          refine v_aload_n 48 rfl dX8_addSamples_47 rfl ?_
          refine v_get 51 (k := 19) 8 (.int (nI (tM T tl))) (by decide) rfl (by decide) (by decide) dX8_addSamples_48 rfl fl_X8_127 (congrArg Value.int ((hF 40 19 (by omega)).trans kr)) ?_
          refine v_icmpN_ge 131 54 dX8_addSamples_51 (by decide) rfl (by omega) (by omega) (fun h51 => ?_) (fun h51 => ?_)
          · skip
            refine v_aload_n 132 rfl dX8_addSamples_131 rfl ?_
            refine v_get 135 (k := 19) 8 (.int (nI (tM T tl))) (by decide) rfl (by decide) (by decide) dX8_addSamples_132 rfl fl_X8_127 (congrArg Value.int ((hF 40 19 (by omega)).trans kr)) ?_
            refine v_iret rfl dX8_addSamples_135 ?_
            have u1 : ∀ a q, a ≠ 41 → Ij a q = Ir a q := fun a q h => hF a q (Or.inl h)
            refine qZ (hQ Ij L (fun a ha => ?_) ?_) (by rw [smA, if_pos hz, if_neg h6])
            · exact (funext fun q => (u1 a q (by omega)).trans (fr a q (by omega) (Or.inl (by omega)))).trans (loa a ha)
            · rw [show smB f T tl = true by rw [smB, if_pos hz, if_neg h6]]
              have hv : RR (Ij 41) (smV f T tl) := rr.smp w (fun q z1 z2 => hF 41 q (Or.inr (Or.inl ⟨z1, z2⟩))) hB hN hS
              refine ⟨hv, ⟨hrr.1, (u1 40 4 (by decide)).trans hrr.2.1, fun i hi => by rw [show Ij 43 = Ir 43 from funext (fun q => u1 43 q (by decide))]; exact hrr.2.2 i hi⟩, ?_, fun e => ?_, ?_, fun i hi => ?_⟩
              · rw [u1 40 6 (by decide), fr 40 6 (by decide) (Or.inr (by decide))]
                exact ria.2.2.1
              · exact (ria.2.2.2.1 e).on (hwg e) (fun j _ => (u1 44 j (by decide)).trans (fr 44 j (by decide) (Or.inl (by decide))))
              · rw [u1 40 8 (by decide), fr 40 8 (by decide) (Or.inr (by decide))]
                exact ria.2.2.2.2.1
              · rw [u1 45 i (by decide), fr 45 i (by decide) (Or.inl (by decide))]
                exact ria.2.2.2.2.2 i hi
          · skip
            exact absurd h51 (by omega)
        · intro k hk ih Ij hF hB hN hS
          have h7 := tRT_m hz hk
          refine v_iload_n 47 rfl dX8_addSamples_46 rfl ?_
          refine v_aload_n 48 rfl dX8_addSamples_47 rfl ?_
          refine v_get 51 (k := 19) 8 (.int (nI (tM T tl))) (by decide) rfl (by decide) (by decide) dX8_addSamples_48 rfl fl_X8_127 (congrArg Value.int ((hF 40 19 (by omega)).trans kr)) ?_
          refine v_icmpN_ge 131 54 dX8_addSamples_51 (by decide) rfl (by omega) (by omega) (fun h51 => ?_) (fun h51 => ?_)
          · skip
            exact absurd h51 (by omega)
          · skip
            refine v_iconst 55 (nI (0)) (by decide) dX8_addSamples_54 rfl ?_
            refine v_istore_n 56 [some (rfv x 40), none, some (.int (nI (k))), some (.int (nI (0)))] dX8_addSamples_55 rfl (by decide) rfl ?_
            have lq : ∀ t, t ≤ 8 → ∀ Ik : Iv, (∀ a q, (a ≠ 41 ∨ q < 35 + 8 * (f 1 + k) ∨ 35 + 8 * (f 1 + k) + t ≤ q) → Ik a q = Ij a q) → (0 < t → Ik 41 (35 + 8 * (f 1 + k)) = nI (tRT T tl (8 * k))) → (∀ q, 1 + q < t → q < tRT T tl (8 * k) → Ik 41 (35 + 8 * (f 1 + k) + 1 + q) = nI (tRT T tl (8 * k + 1 + q))) → V x M_X8_addSamples Q 56 [some (rfv x 40), none, some (.int (nI (k))), some (.int (nI (t)))] [] Ik L P := by
              refine lpU ?_ ?_
              · intro Ik gF gN gS
                refine v_iload_n 57 rfl dX8_addSamples_56 rfl ?_
                refine v_bipush 59 (nI (8)) (by decide) dX8_addSamples_57 rfl ?_
                refine v_icmpN_ge 115 62 dX8_addSamples_59 (by decide) rfl (by omega) (by omega) (fun h59 => ?_) (fun h59 => ?_)
                · skip
                  refine v_aload_n 116 rfl dX8_addSamples_115 rfl ?_
                  refine v_get 119 (k := 1) 8 (rfv x 41) (by decide) rfl (by decide) (by decide) dX8_addSamples_116 rfl fl_X8_7 rfl ?_
                  refine v_iconst 120 (nI (1)) (by decide) dX8_addSamples_119 rfl ?_
                  refine v_dup2 121 dX8_addSamples_120 rfl rfl rfl ?_
                  refine v_iald 122 (k := 1) (nI (f 1 + k)) (by decide) rfl (by decide) dX8_addSamples_121 rfl rfl (by omega) ((gF 41 1 (by omega)).trans hB) ?_
                  refine v_iconst 123 (nI (1)) (by decide) dX8_addSamples_122 rfl ?_
                  refine v_iadd 124 (nI ((f 1 + k) + 1)) dX8_addSamples_123 rfl (nI_add _ _) ?_
                  refine v_iast 125 (k := 1) (nI ((f 1 + k) + 1)) (by decide) rfl (by decide) dX8_addSamples_124 rfl rfl (by omega) rfl (fun I124 e124 => ?_)
                  refine v_iinc 128 [some (rfv x 40), none, some (.int (nI (k + 1))), some (.int (nI (8)))] (nI (k + 1)) dX8_addSamples_125 rfl (by decide) rfl (nI_inc _) rfl ?_
                  refine v_goto 46 dX8_addSamples_128 (by decide) ?_
                  refine v_drop [some (rfv x 40), none, some (.int (nI (k + 1))), none] (by simp [lsub, smN_s]) ?_
                  refine ih I124 (fun a q z => (up2_off e124 (by omega)).trans ((gF a q (by omega)).trans (hF a q (by omega)))) (up2_at e124) (fun j hj => ?_) (fun j q hj hq => ?_)
                  · refine (up2_off e124 (by omega)).trans ?_
                    by_cases y : j = k
                    · rw [y]
                      exact gN (by decide)
                    · exact (gF 41 _ (by omega)).trans (hN j (by omega))
                  · refine (up2_off e124 (by omega)).trans ?_
                    by_cases y : j = k
                    · rw [y] at hq ⊢
                      exact gS q (by omega) hq
                    · have h9 := tRT_m hz (k := j) (by omega)
                      exact (gF 41 _ (by omega)).trans (hS j q (by omega) hq)
                · skip
                  exact absurd h59 (by omega)
              · intro t ht ih Ik gF gN gS
                refine v_iload_n 57 rfl dX8_addSamples_56 rfl ?_
                refine v_bipush 59 (nI (8)) (by decide) dX8_addSamples_57 rfl ?_
                refine v_icmpN_ge 115 62 dX8_addSamples_59 (by decide) rfl (by omega) (by omega) (fun h59 => ?_) (fun h59 => ?_)
                · skip
                  exact absurd h59 (by omega)
                · skip
                  refine v_aload_n 63 rfl dX8_addSamples_62 rfl ?_
                  refine v_get 66 (k := 1) 8 (rfv x 41) (by decide) rfl (by decide) (by decide) dX8_addSamples_63 rfl fl_X8_7 rfl ?_
                  refine v_bipush 68 (nI (35)) (by decide) dX8_addSamples_66 rfl ?_
                  refine v_bipush 70 (nI (8)) (by decide) dX8_addSamples_68 rfl ?_
                  refine v_aload_n 71 rfl dX8_addSamples_70 rfl ?_
                  refine v_get 74 (k := 1) 8 (rfv x 41) (by decide) rfl (by decide) (by decide) dX8_addSamples_71 rfl fl_X8_7 rfl ?_
                  refine v_iconst 75 (nI (1)) (by decide) dX8_addSamples_74 rfl ?_
                  refine v_iald 76 (k := 1) (nI (f 1 + k)) (by decide) rfl (by decide) dX8_addSamples_75 rfl rfl (by omega) ((gF 41 1 (by omega)).trans hB) ?_
                  refine v_imul 77 (nI (8 * (f 1 + k))) dX8_addSamples_76 rfl (pk_mul _ _) ?_
                  refine v_iadd 78 (nI (35 + (8 * (f 1 + k)))) dX8_addSamples_77 rfl (nI_add _ _) ?_
                  refine v_iload_n 79 rfl dX8_addSamples_78 rfl ?_
                  refine v_iadd 80 (nI ((35 + (8 * (f 1 + k))) + t)) dX8_addSamples_79 rfl (nI_add _ _) ?_
                  refine v_iload_n 81 rfl dX8_addSamples_80 rfl ?_
                  refine v_aload_n 82 rfl dX8_addSamples_81 rfl ?_
                  refine v_get 85 (k := 18) 8 (rfv x 53) (by decide) rfl (by decide) (by decide) dX8_addSamples_82 rfl fl_X8_47 rfl ?_
                  refine v_bipush 87 (nI (8)) (by decide) dX8_addSamples_85 rfl ?_
                  refine v_iload_n 88 rfl dX8_addSamples_87 rfl ?_
                  refine v_imul 89 (nI (8 * k)) dX8_addSamples_88 rfl (pk_mul _ _) ?_
                  refine v_iald 90 (k := 8 * k) (nI (tRT T tl (8 * k))) (by decide) rfl (by decide) dX8_addSamples_89 rfl rfl (by omega) ((gF 53 _ (by omega)).trans ((hF 53 _ (by omega)).trans (tdr.1 k hk))) ?_
                  refine v_icmpN_gt 107 93 dX8_addSamples_90 (by decide) rfl (by omega) (by omega) (fun h90 => ?_) (fun h90 => ?_)
                  · skip
                    refine v_iconst 108 (nI (0)) (by decide) dX8_addSamples_107 rfl ?_
                    refine v_iast 109 (k := (35 + (8 * (f 1 + k))) + t) (nI (0)) (by decide) rfl (by decide) dX8_addSamples_108 rfl rfl (by omega) rfl (fun I108 e108 => ?_)
                    refine v_iinc 112 [some (rfv x 40), none, some (.int (nI (k))), some (.int (nI (t + 1)))] (nI (t + 1)) dX8_addSamples_109 rfl (by decide) rfl (nI_inc _) rfl ?_
                    refine v_goto 56 dX8_addSamples_112 (by decide) ?_
                    refine v_drop [some (rfv x 40), none, some (.int (nI (k))), some (.int (nI (t + 1)))] (by simp [lsub, smN_s]) ?_
                    refine ih I108 (fun a q z => (up2_off e108 (by omega)).trans (gF a q (by omega))) (fun _ => (up2_off e108 (by omega)).trans (gN (by omega))) (fun j h1 h2 => (up2_off e108 (by omega)).trans (gS j (by omega) h2))
                  · skip
                    have tv : Ir 53 (8 * k + t) = nI (tRT T tl (8 * k + t)) := by
                      by_cases y : t = 0
                      · rw [y]
                        exact tdr.1 k hk
                      · have h9 := tdr.2 k (t - 1) hk (by omega)
                        rwa [show 8 * k + 1 + (t - 1) = 8 * k + t by omega] at h9
                    refine v_aload_n 94 rfl dX8_addSamples_93 rfl ?_
                    refine v_get 97 (k := 18) 8 (rfv x 53) (by decide) rfl (by decide) (by decide) dX8_addSamples_94 rfl fl_X8_47 rfl ?_
                    refine v_bipush 99 (nI (8)) (by decide) dX8_addSamples_97 rfl ?_
                    refine v_iload_n 100 rfl dX8_addSamples_99 rfl ?_
                    refine v_imul 101 (nI (8 * k)) dX8_addSamples_100 rfl (pk_mul _ _) ?_
                    refine v_iload_n 102 rfl dX8_addSamples_101 rfl ?_
                    refine v_iadd 103 (nI ((8 * k) + t)) dX8_addSamples_102 rfl (nI_add _ _) ?_
                    refine v_iald 104 (k := (8 * k) + t) (nI (tRT T tl (8 * k + t))) (by decide) rfl (by decide) dX8_addSamples_103 rfl rfl (by omega) ((gF 53 _ (by omega)).trans ((hF 53 _ (by omega)).trans tv)) ?_
                    refine v_goto 108 dX8_addSamples_104 (by decide) ?_
                    refine v_iast 109 (k := (35 + (8 * (f 1 + k))) + t) (nI (tRT T tl (8 * k + t))) (by decide) rfl (by decide) dX8_addSamples_108 rfl rfl (by omega) rfl (fun I108 e108 => ?_)
                    refine v_iinc 112 [some (rfv x 40), none, some (.int (nI (k))), some (.int (nI (t + 1)))] (nI (t + 1)) dX8_addSamples_109 rfl (by decide) rfl (nI_inc _) rfl ?_
                    refine v_goto 56 dX8_addSamples_112 (by decide) ?_
                    refine v_drop [some (rfv x 40), none, some (.int (nI (k))), some (.int (nI (t + 1)))] (by simp [lsub, smN_s]) ?_
                    refine ih I108 (fun a q z => (up2_off e108 (by omega)).trans (gF a q (by omega))) (fun _ => ?_) (fun j h1 h2 => ?_)
                    · by_cases y : t = 0
                      · subst y
                        exact up2_at e108
                      · exact (up2_off e108 (by omega)).trans (gN (by omega))
                    · by_cases y : t = 1 + j
                      · subst y
                        have h9 := up2_at e108
                        rw [← Nat.add_assoc, ← Nat.add_assoc] at h9
                        exact h9
                      · exact (up2_off e108 (by omega)).trans (gS j (by omega) h2)
            refine v_drop [some (rfv x 40), none, some (.int (nI (k))), some (.int (nI (0)))] (by simp [lsub, smN, amN, dbW, mxN]) ?_
            exact lq 0 (Nat.zero_le _) Ij (fun a q _ => rfl) (fun h => absurd h (Nat.not_lt_zero _)) (fun j h => absurd h (Nat.not_lt_zero _))
      refine v_drop [some (rfv x 40), none, some (.int (nI (0))), none] (by simp [lsub, smN, amN, dbW, mxN]) ?_
      exact lp 0 (Nat.zero_le _) Ir (fun a q _ => rfl) rr.sm (fun k h => absurd h (Nat.not_lt_zero k)) (fun k j h => absurd h (Nat.not_lt_zero k))
    · skip
      refine v_bipush 39 ((-3)) (by decide) dX8_addSamples_37 rfl ?_
      refine v_iret rfl dX8_addSamples_39 ?_
      refine qZ (hQ Ia L loa ?_) (by rw [smA, if_pos hz, if_pos h34])
      simp only [smB, if_pos hz, if_pos h34]
      exact ria
  · skip
    refine v_bipush 18 ((-100)) (by decide) dX8_addSamples_16 rfl ?_
    refine v_iload_n 19 rfl dX8_addSamples_18 rfl ?_
    refine v_isub 20 (((-100)) - (rdA T tl)) dX8_addSamples_19 rfl rfl ?_
    refine v_iret rfl dX8_addSamples_20 ?_
    have hz : ¬ noF T tl := fun q => h13 (if_pos q)
    refine qZ (hQ Ia L loa ?_) (by rw [smA, if_neg hz, rdA, if_neg hz])
    rw [show smB f T tl = false from if_neg hz]
    exact ria
