def pc7 (v : Nat) : Nat := smN 7 (fun i => v / 2 ^ i % 2)
def c3 (f : Vw) : Nat := smN (f 1) (nP f)
def c4 (f : Vw) : Nat := smN (f 1) (fun k => pc7 (dW f k))
def c5 (f : Vw) : Nat := smN (f 1) (fun k => if totW f k = 0 then 1 else 0)
def of1 (f : Vw) (k p : Nat) : Nat := if pathW f k p = lkW f k p then 0 else 1
def c6 (f : Vw) : Nat := smN (f 1) (fun k => if totW f k = 0 then 0 else smN (nP f k) (of1 f k))
def aCount (f : Vw) (hn tl : Nat) (h : Int32) : Int32 := if h = nI 0 then nI (f 0) else if h = nI 1 then nI (f 1) else if h = nI 2 then nI (f 2) else if h = nI 3 then nI (c3 f) else if h = nI 4 then nI (c4 f) else if h = nI 5 then nI (c5 f) else if h = nI 6 then nI (c6 f) else if h = nI 7 then nI hn else if h = nI 8 then nI tl else (-2)
theorem dW_lt {f : Vw} {k : Nat} : dW f k < 2 ^ nP f k := by
  have h := dbW_lt f k (nP f k)
  have := Nat.two_pow_pos (nP f k)
  unfold dW
  split <;> omega
theorem dW_128 {f : Vw} {k : Nat} (w : Wf f) (hk : k < f 1) : dW f k < 128 := by
  have h := dW_lt (f := f) (k := k)
  have h2 : 2 ^ nP f k ≤ 2 ^ 7 := Nat.pow_le_pow_right (by decide) (w.p hk).2
  omega
theorem pc_n {v n : Nat} (hn : n ≤ 7) (h : v < 2 ^ n) : smN n (fun i => v / 2 ^ i % 2) = pc7 v := by
  have key : ∀ m, n ≤ m → smN m (fun i => v / 2 ^ i % 2) = smN n (fun i => v / 2 ^ i % 2) := by
    intro m
    induction m with
    | zero => intro q; rw [show n = 0 by omega]
    | succ m ih =>
      intro q
      by_cases e : n = m + 1
      · rw [e]
      · rw [smN_s, ih (by omega), Nat.div_eq_of_lt (Nat.lt_of_lt_of_le h (Nat.pow_le_pow_right (by decide) (by omega)))]
        simp
  exact (key 7 hn).symm
theorem shr_n {v i : Nat} (hv : v < 128) (hi : i < 7) : nI v >>> (nI i &&& 31) = nI (v / 2 ^ i) :=
  (show ∀ v, v < 128 → ∀ i, i < 7 → nI v >>> (nI i &&& 31) = nI (v / 2 ^ i) by decide +kernel) v hv i hi
theorem and_1 {a : Nat} (ha : a < 128) : nI a &&& nI 1 = nI (a % 2) := (show ∀ a, a < 128 → nI a &&& nI 1 = nI (a % 2) by decide +kernel) a ha
theorem tabN9 {h : Int32} (q : ∀ n : Nat, n < 9 → ¬ h = nI n) : h.toInt < 0 ∨ 8 < h.toInt := by
  by_cases c : h.toInt < 0 ∨ 8 < h.toInt
  · exact c
  · exfalso
    have e : h = nI h.toInt.toNat := Int32.toInt_inj.mp (by rw [nI_toInt (by omega)]; omega)
    exact q h.toInt.toNat (by omega) e
set_option maxHeartbeats 4000000 in
theorem sp_J6_bitCount_0f7a4 {x : Cx} {Q : Qt} {I : Iv} {L : Lv} {P : Pv} {v : Nat} (hv : v < 128) (hQ : Q (some (.int (nI (pc7 v)))) I L P) : SP x M_J6_bitCount_0f7a4 [.int (nI (v))] I L P Q := by
  refine SP.intro [some (.int (nI (v)))] pn_J6_bitCount_0f7a4 (Nat.le_of_ble_eq_true rfl) rfl ?_
  refine v_iload_n 1 rfl dJ6_bitCount_0f7a4_0 rfl ?_
  refine v_iload_n 2 rfl dJ6_bitCount_0f7a4_1 rfl ?_
  refine v_iconst 3 (nI (1)) (by decide) dJ6_bitCount_0f7a4_2 rfl ?_
  refine v_iushr 4 (((nI (v)).toUInt32 >>> ((nI (1)).toUInt32 &&& Int32.toUInt32 31)).toInt32) dJ6_bitCount_0f7a4_3 rfl rfl ?_
  refine v_ldcw 7 (nI (1431655765)) dJ6_bitCount_0f7a4_4 rfl ko_J6_265 ?_
  refine v_iand 8 ((((nI (v)).toUInt32 >>> ((nI (1)).toUInt32 &&& Int32.toUInt32 31)).toInt32) &&& (nI (1431655765))) dJ6_bitCount_0f7a4_7 rfl rfl ?_
  refine v_isub 9 ((nI (v)) - ((((nI (v)).toUInt32 >>> ((nI (1)).toUInt32 &&& Int32.toUInt32 31)).toInt32) &&& (nI (1431655765)))) dJ6_bitCount_0f7a4_8 rfl rfl ?_
  refine v_istore_n 10 [some (.int ((nI (v)) - ((((nI (v)).toUInt32 >>> ((nI (1)).toUInt32 &&& Int32.toUInt32 31)).toInt32) &&& (nI (1431655765)))))] dJ6_bitCount_0f7a4_9 rfl (by decide) rfl ?_
  refine v_iload_n 11 rfl dJ6_bitCount_0f7a4_10 rfl ?_
  refine v_ldcw 14 (nI (858993459)) dJ6_bitCount_0f7a4_11 rfl ko_J6_266 ?_
  refine v_iand 15 (((nI (v)) - ((((nI (v)).toUInt32 >>> ((nI (1)).toUInt32 &&& Int32.toUInt32 31)).toInt32) &&& (nI (1431655765)))) &&& (nI (858993459))) dJ6_bitCount_0f7a4_14 rfl rfl ?_
  refine v_iload_n 16 rfl dJ6_bitCount_0f7a4_15 rfl ?_
  refine v_iconst 17 (nI (2)) (by decide) dJ6_bitCount_0f7a4_16 rfl ?_
  refine v_iushr 18 ((((nI (v)) - ((((nI (v)).toUInt32 >>> ((nI (1)).toUInt32 &&& Int32.toUInt32 31)).toInt32) &&& (nI (1431655765)))).toUInt32 >>> ((nI (2)).toUInt32 &&& Int32.toUInt32 31)).toInt32) dJ6_bitCount_0f7a4_17 rfl rfl ?_
  refine v_ldcw 21 (nI (858993459)) dJ6_bitCount_0f7a4_18 rfl ko_J6_266 ?_
  refine v_iand 22 (((((nI (v)) - ((((nI (v)).toUInt32 >>> ((nI (1)).toUInt32 &&& Int32.toUInt32 31)).toInt32) &&& (nI (1431655765)))).toUInt32 >>> ((nI (2)).toUInt32 &&& Int32.toUInt32 31)).toInt32) &&& (nI (858993459))) dJ6_bitCount_0f7a4_21 rfl rfl ?_
  refine v_iadd 23 ((((nI (v)) - ((((nI (v)).toUInt32 >>> ((nI (1)).toUInt32 &&& Int32.toUInt32 31)).toInt32) &&& (nI (1431655765)))) &&& (nI (858993459))) + (((((nI (v)) - ((((nI (v)).toUInt32 >>> ((nI (1)).toUInt32 &&& Int32.toUInt32 31)).toInt32) &&& (nI (1431655765)))).toUInt32 >>> ((nI (2)).toUInt32 &&& Int32.toUInt32 31)).toInt32) &&& (nI (858993459)))) dJ6_bitCount_0f7a4_22 rfl rfl ?_
  refine v_istore_n 24 [some (.int ((((nI (v)) - ((((nI (v)).toUInt32 >>> ((nI (1)).toUInt32 &&& Int32.toUInt32 31)).toInt32) &&& (nI (1431655765)))) &&& (nI (858993459))) + (((((nI (v)) - ((((nI (v)).toUInt32 >>> ((nI (1)).toUInt32 &&& Int32.toUInt32 31)).toInt32) &&& (nI (1431655765)))).toUInt32 >>> ((nI (2)).toUInt32 &&& Int32.toUInt32 31)).toInt32) &&& (nI (858993459)))))] dJ6_bitCount_0f7a4_23 rfl (by decide) rfl ?_
  refine v_iload_n 25 rfl dJ6_bitCount_0f7a4_24 rfl ?_
  refine v_iload_n 26 rfl dJ6_bitCount_0f7a4_25 rfl ?_
  refine v_iconst 27 (nI (4)) (by decide) dJ6_bitCount_0f7a4_26 rfl ?_
  refine v_iushr 28 ((((((nI (v)) - ((((nI (v)).toUInt32 >>> ((nI (1)).toUInt32 &&& Int32.toUInt32 31)).toInt32) &&& (nI (1431655765)))) &&& (nI (858993459))) + (((((nI (v)) - ((((nI (v)).toUInt32 >>> ((nI (1)).toUInt32 &&& Int32.toUInt32 31)).toInt32) &&& (nI (1431655765)))).toUInt32 >>> ((nI (2)).toUInt32 &&& Int32.toUInt32 31)).toInt32) &&& (nI (858993459)))).toUInt32 >>> ((nI (4)).toUInt32 &&& Int32.toUInt32 31)).toInt32) dJ6_bitCount_0f7a4_27 rfl rfl ?_
  refine v_iadd 29 (((((nI (v)) - ((((nI (v)).toUInt32 >>> ((nI (1)).toUInt32 &&& Int32.toUInt32 31)).toInt32) &&& (nI (1431655765)))) &&& (nI (858993459))) + (((((nI (v)) - ((((nI (v)).toUInt32 >>> ((nI (1)).toUInt32 &&& Int32.toUInt32 31)).toInt32) &&& (nI (1431655765)))).toUInt32 >>> ((nI (2)).toUInt32 &&& Int32.toUInt32 31)).toInt32) &&& (nI (858993459)))) + ((((((nI (v)) - ((((nI (v)).toUInt32 >>> ((nI (1)).toUInt32 &&& Int32.toUInt32 31)).toInt32) &&& (nI (1431655765)))) &&& (nI (858993459))) + (((((nI (v)) - ((((nI (v)).toUInt32 >>> ((nI (1)).toUInt32 &&& Int32.toUInt32 31)).toInt32) &&& (nI (1431655765)))).toUInt32 >>> ((nI (2)).toUInt32 &&& Int32.toUInt32 31)).toInt32) &&& (nI (858993459)))).toUInt32 >>> ((nI (4)).toUInt32 &&& Int32.toUInt32 31)).toInt32)) dJ6_bitCount_0f7a4_28 rfl rfl ?_
  refine v_ldcw 32 (nI (252645135)) dJ6_bitCount_0f7a4_29 rfl ko_J6_267 ?_
  refine v_iand 33 ((((((nI (v)) - ((((nI (v)).toUInt32 >>> ((nI (1)).toUInt32 &&& Int32.toUInt32 31)).toInt32) &&& (nI (1431655765)))) &&& (nI (858993459))) + (((((nI (v)) - ((((nI (v)).toUInt32 >>> ((nI (1)).toUInt32 &&& Int32.toUInt32 31)).toInt32) &&& (nI (1431655765)))).toUInt32 >>> ((nI (2)).toUInt32 &&& Int32.toUInt32 31)).toInt32) &&& (nI (858993459)))) + ((((((nI (v)) - ((((nI (v)).toUInt32 >>> ((nI (1)).toUInt32 &&& Int32.toUInt32 31)).toInt32) &&& (nI (1431655765)))) &&& (nI (858993459))) + (((((nI (v)) - ((((nI (v)).toUInt32 >>> ((nI (1)).toUInt32 &&& Int32.toUInt32 31)).toInt32) &&& (nI (1431655765)))).toUInt32 >>> ((nI (2)).toUInt32 &&& Int32.toUInt32 31)).toInt32) &&& (nI (858993459)))).toUInt32 >>> ((nI (4)).toUInt32 &&& Int32.toUInt32 31)).toInt32)) &&& (nI (252645135))) dJ6_bitCount_0f7a4_32 rfl rfl ?_
  refine v_istore_n 34 [some (.int ((((((nI (v)) - ((((nI (v)).toUInt32 >>> ((nI (1)).toUInt32 &&& Int32.toUInt32 31)).toInt32) &&& (nI (1431655765)))) &&& (nI (858993459))) + (((((nI (v)) - ((((nI (v)).toUInt32 >>> ((nI (1)).toUInt32 &&& Int32.toUInt32 31)).toInt32) &&& (nI (1431655765)))).toUInt32 >>> ((nI (2)).toUInt32 &&& Int32.toUInt32 31)).toInt32) &&& (nI (858993459)))) + ((((((nI (v)) - ((((nI (v)).toUInt32 >>> ((nI (1)).toUInt32 &&& Int32.toUInt32 31)).toInt32) &&& (nI (1431655765)))) &&& (nI (858993459))) + (((((nI (v)) - ((((nI (v)).toUInt32 >>> ((nI (1)).toUInt32 &&& Int32.toUInt32 31)).toInt32) &&& (nI (1431655765)))).toUInt32 >>> ((nI (2)).toUInt32 &&& Int32.toUInt32 31)).toInt32) &&& (nI (858993459)))).toUInt32 >>> ((nI (4)).toUInt32 &&& Int32.toUInt32 31)).toInt32)) &&& (nI (252645135))))] dJ6_bitCount_0f7a4_33 rfl (by decide) rfl ?_
  refine v_iload_n 35 rfl dJ6_bitCount_0f7a4_34 rfl ?_
  refine v_iload_n 36 rfl dJ6_bitCount_0f7a4_35 rfl ?_
  refine v_bipush 38 (nI (8)) (by decide) dJ6_bitCount_0f7a4_36 rfl ?_
  refine v_iushr 39 ((((((((nI (v)) - ((((nI (v)).toUInt32 >>> ((nI (1)).toUInt32 &&& Int32.toUInt32 31)).toInt32) &&& (nI (1431655765)))) &&& (nI (858993459))) + (((((nI (v)) - ((((nI (v)).toUInt32 >>> ((nI (1)).toUInt32 &&& Int32.toUInt32 31)).toInt32) &&& (nI (1431655765)))).toUInt32 >>> ((nI (2)).toUInt32 &&& Int32.toUInt32 31)).toInt32) &&& (nI (858993459)))) + ((((((nI (v)) - ((((nI (v)).toUInt32 >>> ((nI (1)).toUInt32 &&& Int32.toUInt32 31)).toInt32) &&& (nI (1431655765)))) &&& (nI (858993459))) + (((((nI (v)) - ((((nI (v)).toUInt32 >>> ((nI (1)).toUInt32 &&& Int32.toUInt32 31)).toInt32) &&& (nI (1431655765)))).toUInt32 >>> ((nI (2)).toUInt32 &&& Int32.toUInt32 31)).toInt32) &&& (nI (858993459)))).toUInt32 >>> ((nI (4)).toUInt32 &&& Int32.toUInt32 31)).toInt32)) &&& (nI (252645135))).toUInt32 >>> ((nI (8)).toUInt32 &&& Int32.toUInt32 31)).toInt32) dJ6_bitCount_0f7a4_38 rfl rfl ?_
  refine v_iadd 40 (((((((nI (v)) - ((((nI (v)).toUInt32 >>> ((nI (1)).toUInt32 &&& Int32.toUInt32 31)).toInt32) &&& (nI (1431655765)))) &&& (nI (858993459))) + (((((nI (v)) - ((((nI (v)).toUInt32 >>> ((nI (1)).toUInt32 &&& Int32.toUInt32 31)).toInt32) &&& (nI (1431655765)))).toUInt32 >>> ((nI (2)).toUInt32 &&& Int32.toUInt32 31)).toInt32) &&& (nI (858993459)))) + ((((((nI (v)) - ((((nI (v)).toUInt32 >>> ((nI (1)).toUInt32 &&& Int32.toUInt32 31)).toInt32) &&& (nI (1431655765)))) &&& (nI (858993459))) + (((((nI (v)) - ((((nI (v)).toUInt32 >>> ((nI (1)).toUInt32 &&& Int32.toUInt32 31)).toInt32) &&& (nI (1431655765)))).toUInt32 >>> ((nI (2)).toUInt32 &&& Int32.toUInt32 31)).toInt32) &&& (nI (858993459)))).toUInt32 >>> ((nI (4)).toUInt32 &&& Int32.toUInt32 31)).toInt32)) &&& (nI (252645135))) + ((((((((nI (v)) - ((((nI (v)).toUInt32 >>> ((nI (1)).toUInt32 &&& Int32.toUInt32 31)).toInt32) &&& (nI (1431655765)))) &&& (nI (858993459))) + (((((nI (v)) - ((((nI (v)).toUInt32 >>> ((nI (1)).toUInt32 &&& Int32.toUInt32 31)).toInt32) &&& (nI (1431655765)))).toUInt32 >>> ((nI (2)).toUInt32 &&& Int32.toUInt32 31)).toInt32) &&& (nI (858993459)))) + ((((((nI (v)) - ((((nI (v)).toUInt32 >>> ((nI (1)).toUInt32 &&& Int32.toUInt32 31)).toInt32) &&& (nI (1431655765)))) &&& (nI (858993459))) + (((((nI (v)) - ((((nI (v)).toUInt32 >>> ((nI (1)).toUInt32 &&& Int32.toUInt32 31)).toInt32) &&& (nI (1431655765)))).toUInt32 >>> ((nI (2)).toUInt32 &&& Int32.toUInt32 31)).toInt32) &&& (nI (858993459)))).toUInt32 >>> ((nI (4)).toUInt32 &&& Int32.toUInt32 31)).toInt32)) &&& (nI (252645135))).toUInt32 >>> ((nI (8)).toUInt32 &&& Int32.toUInt32 31)).toInt32)) dJ6_bitCount_0f7a4_39 rfl rfl ?_
  refine v_istore_n 41 [some (.int (((((((nI (v)) - ((((nI (v)).toUInt32 >>> ((nI (1)).toUInt32 &&& Int32.toUInt32 31)).toInt32) &&& (nI (1431655765)))) &&& (nI (858993459))) + (((((nI (v)) - ((((nI (v)).toUInt32 >>> ((nI (1)).toUInt32 &&& Int32.toUInt32 31)).toInt32) &&& (nI (1431655765)))).toUInt32 >>> ((nI (2)).toUInt32 &&& Int32.toUInt32 31)).toInt32) &&& (nI (858993459)))) + ((((((nI (v)) - ((((nI (v)).toUInt32 >>> ((nI (1)).toUInt32 &&& Int32.toUInt32 31)).toInt32) &&& (nI (1431655765)))) &&& (nI (858993459))) + (((((nI (v)) - ((((nI (v)).toUInt32 >>> ((nI (1)).toUInt32 &&& Int32.toUInt32 31)).toInt32) &&& (nI (1431655765)))).toUInt32 >>> ((nI (2)).toUInt32 &&& Int32.toUInt32 31)).toInt32) &&& (nI (858993459)))).toUInt32 >>> ((nI (4)).toUInt32 &&& Int32.toUInt32 31)).toInt32)) &&& (nI (252645135))) + ((((((((nI (v)) - ((((nI (v)).toUInt32 >>> ((nI (1)).toUInt32 &&& Int32.toUInt32 31)).toInt32) &&& (nI (1431655765)))) &&& (nI (858993459))) + (((((nI (v)) - ((((nI (v)).toUInt32 >>> ((nI (1)).toUInt32 &&& Int32.toUInt32 31)).toInt32) &&& (nI (1431655765)))).toUInt32 >>> ((nI (2)).toUInt32 &&& Int32.toUInt32 31)).toInt32) &&& (nI (858993459)))) + ((((((nI (v)) - ((((nI (v)).toUInt32 >>> ((nI (1)).toUInt32 &&& Int32.toUInt32 31)).toInt32) &&& (nI (1431655765)))) &&& (nI (858993459))) + (((((nI (v)) - ((((nI (v)).toUInt32 >>> ((nI (1)).toUInt32 &&& Int32.toUInt32 31)).toInt32) &&& (nI (1431655765)))).toUInt32 >>> ((nI (2)).toUInt32 &&& Int32.toUInt32 31)).toInt32) &&& (nI (858993459)))).toUInt32 >>> ((nI (4)).toUInt32 &&& Int32.toUInt32 31)).toInt32)) &&& (nI (252645135))).toUInt32 >>> ((nI (8)).toUInt32 &&& Int32.toUInt32 31)).toInt32)))] dJ6_bitCount_0f7a4_40 rfl (by decide) rfl ?_
  refine v_iload_n 42 rfl dJ6_bitCount_0f7a4_41 rfl ?_
  refine v_iload_n 43 rfl dJ6_bitCount_0f7a4_42 rfl ?_
  refine v_bipush 45 (nI (16)) (by decide) dJ6_bitCount_0f7a4_43 rfl ?_
  refine v_iushr 46 (((((((((nI (v)) - ((((nI (v)).toUInt32 >>> ((nI (1)).toUInt32 &&& Int32.toUInt32 31)).toInt32) &&& (nI (1431655765)))) &&& (nI (858993459))) + (((((nI (v)) - ((((nI (v)).toUInt32 >>> ((nI (1)).toUInt32 &&& Int32.toUInt32 31)).toInt32) &&& (nI (1431655765)))).toUInt32 >>> ((nI (2)).toUInt32 &&& Int32.toUInt32 31)).toInt32) &&& (nI (858993459)))) + ((((((nI (v)) - ((((nI (v)).toUInt32 >>> ((nI (1)).toUInt32 &&& Int32.toUInt32 31)).toInt32) &&& (nI (1431655765)))) &&& (nI (858993459))) + (((((nI (v)) - ((((nI (v)).toUInt32 >>> ((nI (1)).toUInt32 &&& Int32.toUInt32 31)).toInt32) &&& (nI (1431655765)))).toUInt32 >>> ((nI (2)).toUInt32 &&& Int32.toUInt32 31)).toInt32) &&& (nI (858993459)))).toUInt32 >>> ((nI (4)).toUInt32 &&& Int32.toUInt32 31)).toInt32)) &&& (nI (252645135))) + ((((((((nI (v)) - ((((nI (v)).toUInt32 >>> ((nI (1)).toUInt32 &&& Int32.toUInt32 31)).toInt32) &&& (nI (1431655765)))) &&& (nI (858993459))) + (((((nI (v)) - ((((nI (v)).toUInt32 >>> ((nI (1)).toUInt32 &&& Int32.toUInt32 31)).toInt32) &&& (nI (1431655765)))).toUInt32 >>> ((nI (2)).toUInt32 &&& Int32.toUInt32 31)).toInt32) &&& (nI (858993459)))) + ((((((nI (v)) - ((((nI (v)).toUInt32 >>> ((nI (1)).toUInt32 &&& Int32.toUInt32 31)).toInt32) &&& (nI (1431655765)))) &&& (nI (858993459))) + (((((nI (v)) - ((((nI (v)).toUInt32 >>> ((nI (1)).toUInt32 &&& Int32.toUInt32 31)).toInt32) &&& (nI (1431655765)))).toUInt32 >>> ((nI (2)).toUInt32 &&& Int32.toUInt32 31)).toInt32) &&& (nI (858993459)))).toUInt32 >>> ((nI (4)).toUInt32 &&& Int32.toUInt32 31)).toInt32)) &&& (nI (252645135))).toUInt32 >>> ((nI (8)).toUInt32 &&& Int32.toUInt32 31)).toInt32)).toUInt32 >>> ((nI (16)).toUInt32 &&& Int32.toUInt32 31)).toInt32) dJ6_bitCount_0f7a4_45 rfl rfl ?_
  refine v_iadd 47 ((((((((nI (v)) - ((((nI (v)).toUInt32 >>> ((nI (1)).toUInt32 &&& Int32.toUInt32 31)).toInt32) &&& (nI (1431655765)))) &&& (nI (858993459))) + (((((nI (v)) - ((((nI (v)).toUInt32 >>> ((nI (1)).toUInt32 &&& Int32.toUInt32 31)).toInt32) &&& (nI (1431655765)))).toUInt32 >>> ((nI (2)).toUInt32 &&& Int32.toUInt32 31)).toInt32) &&& (nI (858993459)))) + ((((((nI (v)) - ((((nI (v)).toUInt32 >>> ((nI (1)).toUInt32 &&& Int32.toUInt32 31)).toInt32) &&& (nI (1431655765)))) &&& (nI (858993459))) + (((((nI (v)) - ((((nI (v)).toUInt32 >>> ((nI (1)).toUInt32 &&& Int32.toUInt32 31)).toInt32) &&& (nI (1431655765)))).toUInt32 >>> ((nI (2)).toUInt32 &&& Int32.toUInt32 31)).toInt32) &&& (nI (858993459)))).toUInt32 >>> ((nI (4)).toUInt32 &&& Int32.toUInt32 31)).toInt32)) &&& (nI (252645135))) + ((((((((nI (v)) - ((((nI (v)).toUInt32 >>> ((nI (1)).toUInt32 &&& Int32.toUInt32 31)).toInt32) &&& (nI (1431655765)))) &&& (nI (858993459))) + (((((nI (v)) - ((((nI (v)).toUInt32 >>> ((nI (1)).toUInt32 &&& Int32.toUInt32 31)).toInt32) &&& (nI (1431655765)))).toUInt32 >>> ((nI (2)).toUInt32 &&& Int32.toUInt32 31)).toInt32) &&& (nI (858993459)))) + ((((((nI (v)) - ((((nI (v)).toUInt32 >>> ((nI (1)).toUInt32 &&& Int32.toUInt32 31)).toInt32) &&& (nI (1431655765)))) &&& (nI (858993459))) + (((((nI (v)) - ((((nI (v)).toUInt32 >>> ((nI (1)).toUInt32 &&& Int32.toUInt32 31)).toInt32) &&& (nI (1431655765)))).toUInt32 >>> ((nI (2)).toUInt32 &&& Int32.toUInt32 31)).toInt32) &&& (nI (858993459)))).toUInt32 >>> ((nI (4)).toUInt32 &&& Int32.toUInt32 31)).toInt32)) &&& (nI (252645135))).toUInt32 >>> ((nI (8)).toUInt32 &&& Int32.toUInt32 31)).toInt32)) + (((((((((nI (v)) - ((((nI (v)).toUInt32 >>> ((nI (1)).toUInt32 &&& Int32.toUInt32 31)).toInt32) &&& (nI (1431655765)))) &&& (nI (858993459))) + (((((nI (v)) - ((((nI (v)).toUInt32 >>> ((nI (1)).toUInt32 &&& Int32.toUInt32 31)).toInt32) &&& (nI (1431655765)))).toUInt32 >>> ((nI (2)).toUInt32 &&& Int32.toUInt32 31)).toInt32) &&& (nI (858993459)))) + ((((((nI (v)) - ((((nI (v)).toUInt32 >>> ((nI (1)).toUInt32 &&& Int32.toUInt32 31)).toInt32) &&& (nI (1431655765)))) &&& (nI (858993459))) + (((((nI (v)) - ((((nI (v)).toUInt32 >>> ((nI (1)).toUInt32 &&& Int32.toUInt32 31)).toInt32) &&& (nI (1431655765)))).toUInt32 >>> ((nI (2)).toUInt32 &&& Int32.toUInt32 31)).toInt32) &&& (nI (858993459)))).toUInt32 >>> ((nI (4)).toUInt32 &&& Int32.toUInt32 31)).toInt32)) &&& (nI (252645135))) + ((((((((nI (v)) - ((((nI (v)).toUInt32 >>> ((nI (1)).toUInt32 &&& Int32.toUInt32 31)).toInt32) &&& (nI (1431655765)))) &&& (nI (858993459))) + (((((nI (v)) - ((((nI (v)).toUInt32 >>> ((nI (1)).toUInt32 &&& Int32.toUInt32 31)).toInt32) &&& (nI (1431655765)))).toUInt32 >>> ((nI (2)).toUInt32 &&& Int32.toUInt32 31)).toInt32) &&& (nI (858993459)))) + ((((((nI (v)) - ((((nI (v)).toUInt32 >>> ((nI (1)).toUInt32 &&& Int32.toUInt32 31)).toInt32) &&& (nI (1431655765)))) &&& (nI (858993459))) + (((((nI (v)) - ((((nI (v)).toUInt32 >>> ((nI (1)).toUInt32 &&& Int32.toUInt32 31)).toInt32) &&& (nI (1431655765)))).toUInt32 >>> ((nI (2)).toUInt32 &&& Int32.toUInt32 31)).toInt32) &&& (nI (858993459)))).toUInt32 >>> ((nI (4)).toUInt32 &&& Int32.toUInt32 31)).toInt32)) &&& (nI (252645135))).toUInt32 >>> ((nI (8)).toUInt32 &&& Int32.toUInt32 31)).toInt32)).toUInt32 >>> ((nI (16)).toUInt32 &&& Int32.toUInt32 31)).toInt32)) dJ6_bitCount_0f7a4_46 rfl rfl ?_
  refine v_istore_n 48 [some (.int ((((((((nI (v)) - ((((nI (v)).toUInt32 >>> ((nI (1)).toUInt32 &&& Int32.toUInt32 31)).toInt32) &&& (nI (1431655765)))) &&& (nI (858993459))) + (((((nI (v)) - ((((nI (v)).toUInt32 >>> ((nI (1)).toUInt32 &&& Int32.toUInt32 31)).toInt32) &&& (nI (1431655765)))).toUInt32 >>> ((nI (2)).toUInt32 &&& Int32.toUInt32 31)).toInt32) &&& (nI (858993459)))) + ((((((nI (v)) - ((((nI (v)).toUInt32 >>> ((nI (1)).toUInt32 &&& Int32.toUInt32 31)).toInt32) &&& (nI (1431655765)))) &&& (nI (858993459))) + (((((nI (v)) - ((((nI (v)).toUInt32 >>> ((nI (1)).toUInt32 &&& Int32.toUInt32 31)).toInt32) &&& (nI (1431655765)))).toUInt32 >>> ((nI (2)).toUInt32 &&& Int32.toUInt32 31)).toInt32) &&& (nI (858993459)))).toUInt32 >>> ((nI (4)).toUInt32 &&& Int32.toUInt32 31)).toInt32)) &&& (nI (252645135))) + ((((((((nI (v)) - ((((nI (v)).toUInt32 >>> ((nI (1)).toUInt32 &&& Int32.toUInt32 31)).toInt32) &&& (nI (1431655765)))) &&& (nI (858993459))) + (((((nI (v)) - ((((nI (v)).toUInt32 >>> ((nI (1)).toUInt32 &&& Int32.toUInt32 31)).toInt32) &&& (nI (1431655765)))).toUInt32 >>> ((nI (2)).toUInt32 &&& Int32.toUInt32 31)).toInt32) &&& (nI (858993459)))) + ((((((nI (v)) - ((((nI (v)).toUInt32 >>> ((nI (1)).toUInt32 &&& Int32.toUInt32 31)).toInt32) &&& (nI (1431655765)))) &&& (nI (858993459))) + (((((nI (v)) - ((((nI (v)).toUInt32 >>> ((nI (1)).toUInt32 &&& Int32.toUInt32 31)).toInt32) &&& (nI (1431655765)))).toUInt32 >>> ((nI (2)).toUInt32 &&& Int32.toUInt32 31)).toInt32) &&& (nI (858993459)))).toUInt32 >>> ((nI (4)).toUInt32 &&& Int32.toUInt32 31)).toInt32)) &&& (nI (252645135))).toUInt32 >>> ((nI (8)).toUInt32 &&& Int32.toUInt32 31)).toInt32)) + (((((((((nI (v)) - ((((nI (v)).toUInt32 >>> ((nI (1)).toUInt32 &&& Int32.toUInt32 31)).toInt32) &&& (nI (1431655765)))) &&& (nI (858993459))) + (((((nI (v)) - ((((nI (v)).toUInt32 >>> ((nI (1)).toUInt32 &&& Int32.toUInt32 31)).toInt32) &&& (nI (1431655765)))).toUInt32 >>> ((nI (2)).toUInt32 &&& Int32.toUInt32 31)).toInt32) &&& (nI (858993459)))) + ((((((nI (v)) - ((((nI (v)).toUInt32 >>> ((nI (1)).toUInt32 &&& Int32.toUInt32 31)).toInt32) &&& (nI (1431655765)))) &&& (nI (858993459))) + (((((nI (v)) - ((((nI (v)).toUInt32 >>> ((nI (1)).toUInt32 &&& Int32.toUInt32 31)).toInt32) &&& (nI (1431655765)))).toUInt32 >>> ((nI (2)).toUInt32 &&& Int32.toUInt32 31)).toInt32) &&& (nI (858993459)))).toUInt32 >>> ((nI (4)).toUInt32 &&& Int32.toUInt32 31)).toInt32)) &&& (nI (252645135))) + ((((((((nI (v)) - ((((nI (v)).toUInt32 >>> ((nI (1)).toUInt32 &&& Int32.toUInt32 31)).toInt32) &&& (nI (1431655765)))) &&& (nI (858993459))) + (((((nI (v)) - ((((nI (v)).toUInt32 >>> ((nI (1)).toUInt32 &&& Int32.toUInt32 31)).toInt32) &&& (nI (1431655765)))).toUInt32 >>> ((nI (2)).toUInt32 &&& Int32.toUInt32 31)).toInt32) &&& (nI (858993459)))) + ((((((nI (v)) - ((((nI (v)).toUInt32 >>> ((nI (1)).toUInt32 &&& Int32.toUInt32 31)).toInt32) &&& (nI (1431655765)))) &&& (nI (858993459))) + (((((nI (v)) - ((((nI (v)).toUInt32 >>> ((nI (1)).toUInt32 &&& Int32.toUInt32 31)).toInt32) &&& (nI (1431655765)))).toUInt32 >>> ((nI (2)).toUInt32 &&& Int32.toUInt32 31)).toInt32) &&& (nI (858993459)))).toUInt32 >>> ((nI (4)).toUInt32 &&& Int32.toUInt32 31)).toInt32)) &&& (nI (252645135))).toUInt32 >>> ((nI (8)).toUInt32 &&& Int32.toUInt32 31)).toInt32)).toUInt32 >>> ((nI (16)).toUInt32 &&& Int32.toUInt32 31)).toInt32)))] dJ6_bitCount_0f7a4_47 rfl (by decide) rfl ?_
  refine v_iload_n 49 rfl dJ6_bitCount_0f7a4_48 rfl ?_
  refine v_bipush 51 (nI (63)) (by decide) dJ6_bitCount_0f7a4_49 rfl ?_
  refine v_iand 52 (((((((((nI (v)) - ((((nI (v)).toUInt32 >>> ((nI (1)).toUInt32 &&& Int32.toUInt32 31)).toInt32) &&& (nI (1431655765)))) &&& (nI (858993459))) + (((((nI (v)) - ((((nI (v)).toUInt32 >>> ((nI (1)).toUInt32 &&& Int32.toUInt32 31)).toInt32) &&& (nI (1431655765)))).toUInt32 >>> ((nI (2)).toUInt32 &&& Int32.toUInt32 31)).toInt32) &&& (nI (858993459)))) + ((((((nI (v)) - ((((nI (v)).toUInt32 >>> ((nI (1)).toUInt32 &&& Int32.toUInt32 31)).toInt32) &&& (nI (1431655765)))) &&& (nI (858993459))) + (((((nI (v)) - ((((nI (v)).toUInt32 >>> ((nI (1)).toUInt32 &&& Int32.toUInt32 31)).toInt32) &&& (nI (1431655765)))).toUInt32 >>> ((nI (2)).toUInt32 &&& Int32.toUInt32 31)).toInt32) &&& (nI (858993459)))).toUInt32 >>> ((nI (4)).toUInt32 &&& Int32.toUInt32 31)).toInt32)) &&& (nI (252645135))) + ((((((((nI (v)) - ((((nI (v)).toUInt32 >>> ((nI (1)).toUInt32 &&& Int32.toUInt32 31)).toInt32) &&& (nI (1431655765)))) &&& (nI (858993459))) + (((((nI (v)) - ((((nI (v)).toUInt32 >>> ((nI (1)).toUInt32 &&& Int32.toUInt32 31)).toInt32) &&& (nI (1431655765)))).toUInt32 >>> ((nI (2)).toUInt32 &&& Int32.toUInt32 31)).toInt32) &&& (nI (858993459)))) + ((((((nI (v)) - ((((nI (v)).toUInt32 >>> ((nI (1)).toUInt32 &&& Int32.toUInt32 31)).toInt32) &&& (nI (1431655765)))) &&& (nI (858993459))) + (((((nI (v)) - ((((nI (v)).toUInt32 >>> ((nI (1)).toUInt32 &&& Int32.toUInt32 31)).toInt32) &&& (nI (1431655765)))).toUInt32 >>> ((nI (2)).toUInt32 &&& Int32.toUInt32 31)).toInt32) &&& (nI (858993459)))).toUInt32 >>> ((nI (4)).toUInt32 &&& Int32.toUInt32 31)).toInt32)) &&& (nI (252645135))).toUInt32 >>> ((nI (8)).toUInt32 &&& Int32.toUInt32 31)).toInt32)) + (((((((((nI (v)) - ((((nI (v)).toUInt32 >>> ((nI (1)).toUInt32 &&& Int32.toUInt32 31)).toInt32) &&& (nI (1431655765)))) &&& (nI (858993459))) + (((((nI (v)) - ((((nI (v)).toUInt32 >>> ((nI (1)).toUInt32 &&& Int32.toUInt32 31)).toInt32) &&& (nI (1431655765)))).toUInt32 >>> ((nI (2)).toUInt32 &&& Int32.toUInt32 31)).toInt32) &&& (nI (858993459)))) + ((((((nI (v)) - ((((nI (v)).toUInt32 >>> ((nI (1)).toUInt32 &&& Int32.toUInt32 31)).toInt32) &&& (nI (1431655765)))) &&& (nI (858993459))) + (((((nI (v)) - ((((nI (v)).toUInt32 >>> ((nI (1)).toUInt32 &&& Int32.toUInt32 31)).toInt32) &&& (nI (1431655765)))).toUInt32 >>> ((nI (2)).toUInt32 &&& Int32.toUInt32 31)).toInt32) &&& (nI (858993459)))).toUInt32 >>> ((nI (4)).toUInt32 &&& Int32.toUInt32 31)).toInt32)) &&& (nI (252645135))) + ((((((((nI (v)) - ((((nI (v)).toUInt32 >>> ((nI (1)).toUInt32 &&& Int32.toUInt32 31)).toInt32) &&& (nI (1431655765)))) &&& (nI (858993459))) + (((((nI (v)) - ((((nI (v)).toUInt32 >>> ((nI (1)).toUInt32 &&& Int32.toUInt32 31)).toInt32) &&& (nI (1431655765)))).toUInt32 >>> ((nI (2)).toUInt32 &&& Int32.toUInt32 31)).toInt32) &&& (nI (858993459)))) + ((((((nI (v)) - ((((nI (v)).toUInt32 >>> ((nI (1)).toUInt32 &&& Int32.toUInt32 31)).toInt32) &&& (nI (1431655765)))) &&& (nI (858993459))) + (((((nI (v)) - ((((nI (v)).toUInt32 >>> ((nI (1)).toUInt32 &&& Int32.toUInt32 31)).toInt32) &&& (nI (1431655765)))).toUInt32 >>> ((nI (2)).toUInt32 &&& Int32.toUInt32 31)).toInt32) &&& (nI (858993459)))).toUInt32 >>> ((nI (4)).toUInt32 &&& Int32.toUInt32 31)).toInt32)) &&& (nI (252645135))).toUInt32 >>> ((nI (8)).toUInt32 &&& Int32.toUInt32 31)).toInt32)).toUInt32 >>> ((nI (16)).toUInt32 &&& Int32.toUInt32 31)).toInt32)) &&& (nI (63))) dJ6_bitCount_0f7a4_51 rfl rfl ?_
  refine v_iret rfl dJ6_bitCount_0f7a4_52 ?_
  exact qZ hQ ((show ∀ v, v < 128 → (((((((((nI (v)) - ((((nI (v)).toUInt32 >>> ((nI (1)).toUInt32 &&& Int32.toUInt32 31)).toInt32) &&& (nI (1431655765)))) &&& (nI (858993459))) + (((((nI (v)) - ((((nI (v)).toUInt32 >>> ((nI (1)).toUInt32 &&& Int32.toUInt32 31)).toInt32) &&& (nI (1431655765)))).toUInt32 >>> ((nI (2)).toUInt32 &&& Int32.toUInt32 31)).toInt32) &&& (nI (858993459)))) + ((((((nI (v)) - ((((nI (v)).toUInt32 >>> ((nI (1)).toUInt32 &&& Int32.toUInt32 31)).toInt32) &&& (nI (1431655765)))) &&& (nI (858993459))) + (((((nI (v)) - ((((nI (v)).toUInt32 >>> ((nI (1)).toUInt32 &&& Int32.toUInt32 31)).toInt32) &&& (nI (1431655765)))).toUInt32 >>> ((nI (2)).toUInt32 &&& Int32.toUInt32 31)).toInt32) &&& (nI (858993459)))).toUInt32 >>> ((nI (4)).toUInt32 &&& Int32.toUInt32 31)).toInt32)) &&& (nI (252645135))) + ((((((((nI (v)) - ((((nI (v)).toUInt32 >>> ((nI (1)).toUInt32 &&& Int32.toUInt32 31)).toInt32) &&& (nI (1431655765)))) &&& (nI (858993459))) + (((((nI (v)) - ((((nI (v)).toUInt32 >>> ((nI (1)).toUInt32 &&& Int32.toUInt32 31)).toInt32) &&& (nI (1431655765)))).toUInt32 >>> ((nI (2)).toUInt32 &&& Int32.toUInt32 31)).toInt32) &&& (nI (858993459)))) + ((((((nI (v)) - ((((nI (v)).toUInt32 >>> ((nI (1)).toUInt32 &&& Int32.toUInt32 31)).toInt32) &&& (nI (1431655765)))) &&& (nI (858993459))) + (((((nI (v)) - ((((nI (v)).toUInt32 >>> ((nI (1)).toUInt32 &&& Int32.toUInt32 31)).toInt32) &&& (nI (1431655765)))).toUInt32 >>> ((nI (2)).toUInt32 &&& Int32.toUInt32 31)).toInt32) &&& (nI (858993459)))).toUInt32 >>> ((nI (4)).toUInt32 &&& Int32.toUInt32 31)).toInt32)) &&& (nI (252645135))).toUInt32 >>> ((nI (8)).toUInt32 &&& Int32.toUInt32 31)).toInt32)) + (((((((((nI (v)) - ((((nI (v)).toUInt32 >>> ((nI (1)).toUInt32 &&& Int32.toUInt32 31)).toInt32) &&& (nI (1431655765)))) &&& (nI (858993459))) + (((((nI (v)) - ((((nI (v)).toUInt32 >>> ((nI (1)).toUInt32 &&& Int32.toUInt32 31)).toInt32) &&& (nI (1431655765)))).toUInt32 >>> ((nI (2)).toUInt32 &&& Int32.toUInt32 31)).toInt32) &&& (nI (858993459)))) + ((((((nI (v)) - ((((nI (v)).toUInt32 >>> ((nI (1)).toUInt32 &&& Int32.toUInt32 31)).toInt32) &&& (nI (1431655765)))) &&& (nI (858993459))) + (((((nI (v)) - ((((nI (v)).toUInt32 >>> ((nI (1)).toUInt32 &&& Int32.toUInt32 31)).toInt32) &&& (nI (1431655765)))).toUInt32 >>> ((nI (2)).toUInt32 &&& Int32.toUInt32 31)).toInt32) &&& (nI (858993459)))).toUInt32 >>> ((nI (4)).toUInt32 &&& Int32.toUInt32 31)).toInt32)) &&& (nI (252645135))) + ((((((((nI (v)) - ((((nI (v)).toUInt32 >>> ((nI (1)).toUInt32 &&& Int32.toUInt32 31)).toInt32) &&& (nI (1431655765)))) &&& (nI (858993459))) + (((((nI (v)) - ((((nI (v)).toUInt32 >>> ((nI (1)).toUInt32 &&& Int32.toUInt32 31)).toInt32) &&& (nI (1431655765)))).toUInt32 >>> ((nI (2)).toUInt32 &&& Int32.toUInt32 31)).toInt32) &&& (nI (858993459)))) + ((((((nI (v)) - ((((nI (v)).toUInt32 >>> ((nI (1)).toUInt32 &&& Int32.toUInt32 31)).toInt32) &&& (nI (1431655765)))) &&& (nI (858993459))) + (((((nI (v)) - ((((nI (v)).toUInt32 >>> ((nI (1)).toUInt32 &&& Int32.toUInt32 31)).toInt32) &&& (nI (1431655765)))).toUInt32 >>> ((nI (2)).toUInt32 &&& Int32.toUInt32 31)).toInt32) &&& (nI (858993459)))).toUInt32 >>> ((nI (4)).toUInt32 &&& Int32.toUInt32 31)).toInt32)) &&& (nI (252645135))).toUInt32 >>> ((nI (8)).toUInt32 &&& Int32.toUInt32 31)).toInt32)).toUInt32 >>> ((nI (16)).toUInt32 &&& Int32.toUInt32 31)).toInt32)) &&& (nI (63))) = nI (pc7 v) by decide +kernel) v hv)
set_option maxHeartbeats 4000000 in
theorem sp_X3_allSigns {x : Cx} {Q : Qt} {I : Iv} {L : Lv} {P : Pv} {f : Vw} (c : RC 1 f I) (w : Wf f) (hQ : Q (some (.int (nI (c3 f)))) I L P) : SP x M_X3_allSigns [rfv x 1] I L P Q := by
  have := w.n4
  have := w.m6
  refine SP.intro [some (rfv x 1), none, none] pn_X3_allSigns (Nat.le_of_ble_eq_true rfl) rfl ?_
  refine v_iconst 1 (nI (0)) (by decide) dX3_allSigns_0 rfl ?_
  refine v_istore_n 2 [some (rfv x 1), some (.int (nI (0))), none] dX3_allSigns_1 rfl (by decide) rfl ?_
  refine v_iconst 3 (nI (0)) (by decide) dX3_allSigns_2 rfl ?_
  refine v_istore_n 4 [some (rfv x 1), some (.int (nI (0))), some (.int (nI (0)))] dX3_allSigns_3 rfl (by decide) rfl ?_
  have lp : ∀ i, i ≤ f 1 → V x M_X3_allSigns Q 4 [some (rfv x 1), some (.int (nI (smN i (nP f)))), some (.int (nI (i)))] [] I L P := by
    refine lpU ?_ ?_
    · skip
      refine v_iload_n 5 rfl dX3_allSigns_4 rfl ?_
      refine v_aload_n 6 rfl dX3_allSigns_5 rfl ?_
      refine v_get 9 (k := 5) 3 (.int (nI (f 1))) (by decide) rfl (by decide) (by decide) dX3_allSigns_6 rfl fl_X3_34 (congrArg Value.int c.sm) ?_
      refine v_icmpN_ge 27 12 dX3_allSigns_9 (by decide) rfl (by omega) (by omega) (fun h9 => ?_) (fun h9 => ?_)
      · skip
        refine v_iload_n 28 rfl dX3_allSigns_27 rfl ?_
        refine v_iret rfl dX3_allSigns_28 ?_
        exact hQ
      · skip
        exact absurd h9 (by omega)
    · intro i hi ih 
      refine v_iload_n 5 rfl dX3_allSigns_4 rfl ?_
      refine v_aload_n 6 rfl dX3_allSigns_5 rfl ?_
      refine v_get 9 (k := 5) 3 (.int (nI (f 1))) (by decide) rfl (by decide) (by decide) dX3_allSigns_6 rfl fl_X3_34 (congrArg Value.int c.sm) ?_
      refine v_icmpN_ge 27 12 dX3_allSigns_9 (by decide) rfl (by omega) (by omega) (fun h9 => ?_) (fun h9 => ?_)
      · skip
        exact absurd h9 (by omega)
      · skip
        refine v_iload_n 13 rfl dX3_allSigns_12 rfl ?_
        refine v_aload_n 14 rfl dX3_allSigns_13 rfl ?_
        refine v_get 17 (k := 3) 3 (rfv x 3) (by decide) rfl (by decide) (by decide) dX3_allSigns_14 rfl fl_X3_22 rfl ?_
        refine v_iload_n 18 rfl dX3_allSigns_17 rfl ?_
        refine v_iald 19 (k := i) (nI (nP f i)) (by decide) rfl (by decide) dX3_allSigns_18 rfl rfl (by omega) (c.n hi) ?_
        refine v_iadd 20 (nI ((smN i (nP f)) + (nP f i))) dX3_allSigns_19 rfl (nI_add _ _) ?_
        refine v_istore_n 21 [some (rfv x 1), some (.int (nI ((smN i (nP f)) + (nP f i)))), some (.int (nI (i)))] dX3_allSigns_20 rfl (by decide) rfl ?_
        refine v_iinc 24 [some (rfv x 1), some (.int (nI ((smN i (nP f)) + (nP f i)))), some (.int (nI (i + 1)))] (nI (i + 1)) dX3_allSigns_21 rfl (by decide) rfl (nI_inc _) rfl ?_
        refine v_goto 4 dX3_allSigns_24 (by decide) ?_
        refine v_drop [some (rfv x 1), some (.int (nI (smN (i + 1) (nP f)))), some (.int (nI (i + 1)))] (by simp [lsub, smN_s]) ?_
        exact ih
  refine v_drop [some (rfv x 1), some (.int (nI (smN 0 (nP f)))), some (.int (nI (0)))] (by simp [lsub, smN, amN, dbW, mxN]) ?_
  exact lp 0 (Nat.zero_le _)
set_option maxHeartbeats 4000000 in
theorem sp_X7_allDoubtful {x : Cx} {Q : Qt} {I : Iv} {L : Lv} {P : Pv} {f : Vw} (c : RC 1 f I) (w : Wf f) (hQ : ∀ I1 L1, Kp I I1 → Q (some (.int (nI (c4 f)))) I1 L1 P) : SP x M_X7_allDoubtful [rfv x 0] I L P Q := by
  have := w.n4
  have := w.m6
  refine SP.intro [some (rfv x 0), none, none] pn_X7_allDoubtful (Nat.le_of_ble_eq_true rfl) rfl ?_
  refine v_iconst 1 (nI (0)) (by decide) dX7_allDoubtful_0 rfl ?_
  refine v_istore_n 2 [some (rfv x 0), some (.int (nI (0))), none] dX7_allDoubtful_1 rfl (by decide) rfl ?_
  refine v_iconst 3 (nI (0)) (by decide) dX7_allDoubtful_2 rfl ?_
  refine v_istore_n 4 [some (rfv x 0), some (.int (nI (0))), some (.int (nI (0)))] dX7_allDoubtful_3 rfl (by decide) rfl ?_
  have lp : ∀ k, k ≤ f 1 → ∀ (I1 : Iv) (L1 : Lv), Kp I I1 → V x M_X7_allDoubtful Q 4 [some (rfv x 0), some (.int (nI (smN k (fun k => pc7 (dW f k))))), some (.int (nI (k)))] [] I1 L1 P := by
    refine lpU ?_ ?_
    · intro I1 L1 kp
      refine v_iload_n 5 rfl dX7_allDoubtful_4 rfl ?_
      refine v_aload_n 6 rfl dX7_allDoubtful_5 rfl ?_
      refine v_get 9 (k := 0) 7 (rfv x 1) (by decide) rfl (by decide) (by decide) dX7_allDoubtful_6 rfl fl_X7_15 rfl ?_
      refine v_getN 12 (k := 5) 3 (.int (nI (f 1))) (by decide) rfl (by decide) (by decide) dX7_allDoubtful_9 rfl fl_X7_124 (congrArg Value.int (RC.same (I' := I1) c (fun a _ _ => kp.row (by omega))).sm) ?_
      refine v_icmpN_ge 42 15 dX7_allDoubtful_12 (by decide) rfl (by omega) (by omega) (fun h12 => ?_) (fun h12 => ?_)
      · skip
        refine v_iload_n 43 rfl dX7_allDoubtful_42 rfl ?_
        refine v_iret rfl dX7_allDoubtful_43 ?_
        exact hQ I1 L1 kp
      · skip
        exact absurd h12 (by omega)
    · intro k hk ih I1 L1 kp
      refine v_iload_n 5 rfl dX7_allDoubtful_4 rfl ?_
      refine v_aload_n 6 rfl dX7_allDoubtful_5 rfl ?_
      refine v_get 9 (k := 0) 7 (rfv x 1) (by decide) rfl (by decide) (by decide) dX7_allDoubtful_6 rfl fl_X7_15 rfl ?_
      refine v_getN 12 (k := 5) 3 (.int (nI (f 1))) (by decide) rfl (by decide) (by decide) dX7_allDoubtful_9 rfl fl_X7_124 (congrArg Value.int (RC.same (I' := I1) c (fun a _ _ => kp.row (by omega))).sm) ?_
      refine v_icmpN_ge 42 15 dX7_allDoubtful_12 (by decide) rfl (by omega) (by omega) (fun h12 => ?_) (fun h12 => ?_)
      · skip
        exact absurd h12 (by omega)
      · skip
        refine v_aload_n 16 rfl dX7_allDoubtful_15 rfl ?_
        refine v_get 19 (k := 5) 7 (rfv x 29) (by decide) rfl (by decide) (by decide) dX7_allDoubtful_16 rfl fl_X7_38 rfl ?_
        refine v_iload_n 20 rfl dX7_allDoubtful_19 rfl ?_
        refine v_invV 23 M_X6_read [.int (nI (k))] (by decide) rfl (by decide) rfl dX7_allDoubtful_20 rfl ml_X7_177 im_X6_read se_X6_read mc_X6_read (by decide) (Nat.le_of_ble_eq_true rfl) (sp_X6_read (RC.same (I' := I1) c (fun a _ _ => kp.row (by omega))) w hk (fun Ir Lr f1 f2 sm => ?_))
        have kp2 : Kp I Ir := kp.tr (fun a q hl => congrFun (f1 a (by unfold live at hl; omega)) q)
        have cr : RC 1 f Ir := RC.same (I' := Ir) c (fun a _ _ => kp2.row (by omega))
        refine v_iload_n 24 rfl dX7_allDoubtful_23 rfl ?_
        refine v_aload_n 25 rfl dX7_allDoubtful_24 rfl ?_
        refine v_get 28 (k := 5) 7 (rfv x 29) (by decide) rfl (by decide) (by decide) dX7_allDoubtful_25 rfl fl_X7_38 rfl ?_
        refine v_invV 31 M_X6_doubtfulPlaces [] (by decide) rfl (by decide) rfl dX7_allDoubtful_28 rfl ml_X7_207 im_X6_doubtfulPlaces se_X6_doubtfulPlaces mc_X6_doubtfulPlaces (by decide) (Nat.le_of_ble_eq_true rfl) (sp_X6_doubtfulPlaces cr w hk sm ?_)
        refine v_invT 34 M_J6_bitCount_0f7a4 [.int (nI (dW f k))] dX7_allDoubtful_31 rfl ml_X7_231 sm_J6_bitCount_0f7a4 mc_J6_bitCount_0f7a4 (by decide) (Nat.le_of_ble_eq_true rfl) (sp_J6_bitCount_0f7a4 (dW_128 w hk) ?_)
        refine v_iadd 35 (nI ((smN k (fun k => pc7 (dW f k))) + (pc7 (dW f k)))) dX7_allDoubtful_34 rfl (nI_add _ _) ?_
        refine v_istore_n 36 [some (rfv x 0), some (.int (nI ((smN k (fun k => pc7 (dW f k))) + (pc7 (dW f k))))), some (.int (nI (k)))] dX7_allDoubtful_35 rfl (by decide) rfl ?_
        refine v_iinc 39 [some (rfv x 0), some (.int (nI ((smN k (fun k => pc7 (dW f k))) + (pc7 (dW f k))))), some (.int (nI (k + 1)))] (nI (k + 1)) dX7_allDoubtful_36 rfl (by decide) rfl (nI_inc _) rfl ?_
        refine v_goto 4 dX7_allDoubtful_39 (by decide) ?_
        refine v_drop [some (rfv x 0), some (.int (nI (smN (k + 1) (fun k => pc7 (dW f k))))), some (.int (nI (k + 1)))] (by simp [lsub, smN_s]) ?_
        exact ih Ir Lr kp2
  refine v_drop [some (rfv x 0), some (.int (nI (smN 0 (fun k => pc7 (dW f k))))), some (.int (nI (0)))] (by simp [lsub, smN, amN, dbW, mxN]) ?_
  exact lp 0 (Nat.zero_le _) I L (Kp.rf I)
set_option maxHeartbeats 4000000 in
theorem sp_X7_samplesWithoutTotal {x : Cx} {Q : Qt} {I : Iv} {L : Lv} {P : Pv} {f : Vw} (c : RC 1 f I) (w : Wf f) (hQ : ∀ I1 L1, Kp I I1 → Q (some (.int (nI (c5 f)))) I1 L1 P) : SP x M_X7_samplesWithoutTotal [rfv x 0] I L P Q := by
  have := w.n4
  have := w.m6
  refine SP.intro [some (rfv x 0), none, none] pn_X7_samplesWithoutTotal (Nat.le_of_ble_eq_true rfl) rfl ?_
  refine v_iconst 1 (nI (0)) (by decide) dX7_samplesWithoutTotal_0 rfl ?_
  refine v_istore_n 2 [some (rfv x 0), some (.int (nI (0))), none] dX7_samplesWithoutTotal_1 rfl (by decide) rfl ?_
  refine v_iconst 3 (nI (0)) (by decide) dX7_samplesWithoutTotal_2 rfl ?_
  refine v_istore_n 4 [some (rfv x 0), some (.int (nI (0))), some (.int (nI (0)))] dX7_samplesWithoutTotal_3 rfl (by decide) rfl ?_
  have lp : ∀ k, k ≤ f 1 → ∀ (I1 : Iv) (L1 : Lv), Kp I I1 → V x M_X7_samplesWithoutTotal Q 4 [some (rfv x 0), some (.int (nI (smN k (fun k => if totW f k = 0 then 1 else 0)))), some (.int (nI (k)))] [] I1 L1 P := by
    refine lpU ?_ ?_
    · intro I1 L1 kp
      refine v_iload_n 5 rfl dX7_samplesWithoutTotal_4 rfl ?_
      refine v_aload_n 6 rfl dX7_samplesWithoutTotal_5 rfl ?_
      refine v_get 9 (k := 0) 7 (rfv x 1) (by decide) rfl (by decide) (by decide) dX7_samplesWithoutTotal_6 rfl fl_X7_15 rfl ?_
      refine v_getN 12 (k := 5) 3 (.int (nI (f 1))) (by decide) rfl (by decide) (by decide) dX7_samplesWithoutTotal_9 rfl fl_X7_124 (congrArg Value.int (RC.same (I' := I1) c (fun a _ _ => kp.row (by omega))).sm) ?_
      refine v_icmpN_ge 44 15 dX7_samplesWithoutTotal_12 (by decide) rfl (by omega) (by omega) (fun h12 => ?_) (fun h12 => ?_)
      · skip
        refine v_iload_n 45 rfl dX7_samplesWithoutTotal_44 rfl ?_
        refine v_iret rfl dX7_samplesWithoutTotal_45 ?_
        exact hQ I1 L1 kp
      · skip
        exact absurd h12 (by omega)
    · intro k hk ih I1 L1 kp
      have hT := totW_le w hk
      have e1 := (pk_lEQ (a := totW f k) (b := 0) (by omega) (by decide))
      refine v_iload_n 5 rfl dX7_samplesWithoutTotal_4 rfl ?_
      refine v_aload_n 6 rfl dX7_samplesWithoutTotal_5 rfl ?_
      refine v_get 9 (k := 0) 7 (rfv x 1) (by decide) rfl (by decide) (by decide) dX7_samplesWithoutTotal_6 rfl fl_X7_15 rfl ?_
      refine v_getN 12 (k := 5) 3 (.int (nI (f 1))) (by decide) rfl (by decide) (by decide) dX7_samplesWithoutTotal_9 rfl fl_X7_124 (congrArg Value.int (RC.same (I' := I1) c (fun a _ _ => kp.row (by omega))).sm) ?_
      refine v_icmpN_ge 44 15 dX7_samplesWithoutTotal_12 (by decide) rfl (by omega) (by omega) (fun h12 => ?_) (fun h12 => ?_)
      · skip
        exact absurd h12 (by omega)
      · skip
        refine v_aload_n 16 rfl dX7_samplesWithoutTotal_15 rfl ?_
        refine v_get 19 (k := 5) 7 (rfv x 29) (by decide) rfl (by decide) (by decide) dX7_samplesWithoutTotal_16 rfl fl_X7_38 rfl ?_
        refine v_iload_n 20 rfl dX7_samplesWithoutTotal_19 rfl ?_
        refine v_invV 23 M_X6_read [.int (nI (k))] (by decide) rfl (by decide) rfl dX7_samplesWithoutTotal_20 rfl ml_X7_177 im_X6_read se_X6_read mc_X6_read (by decide) (Nat.le_of_ble_eq_true rfl) (sp_X6_read (RC.same (I' := I1) c (fun a _ _ => kp.row (by omega))) w hk (fun Ir Lr f1 f2 sm => ?_))
        have kp2 : Kp I Ir := kp.tr (fun a q hl => congrFun (f1 a (by unfold live at hl; omega)) q)
        have cr : RC 1 f Ir := RC.same (I' := Ir) c (fun a _ _ => kp2.row (by omega))
        refine v_aload_n 24 rfl dX7_samplesWithoutTotal_23 rfl ?_
        refine v_get 27 (k := 5) 7 (rfv x 29) (by decide) rfl (by decide) (by decide) dX7_samplesWithoutTotal_24 rfl fl_X7_38 rfl ?_
        refine v_getN 30 (k := 5) 6 (.long (lN (totW f k))) (by decide) rfl (by decide) (by decide) dX7_samplesWithoutTotal_27 rfl fl_X7_180 (congrArg Value.long sm.2.2.2.2) ?_
        refine v_lconst 31 (lN (0)) rfl dX7_samplesWithoutTotal_30 rfl ?_
        refine v_lcmp_ne 32 38 35 dX7_samplesWithoutTotal_31 rfl dX7_samplesWithoutTotal_32 (by decide) rfl (fun h31 => ?_) (fun h31 => ?_)
        · skip
          refine v_iinc 41 [some (rfv x 0), some (.int (nI (smN k (fun k => if totW f k = 0 then 1 else 0)))), some (.int (nI (k + 1)))] (nI (k + 1)) dX7_samplesWithoutTotal_38 rfl (by decide) rfl (nI_inc _) rfl ?_
          refine v_goto 4 dX7_samplesWithoutTotal_41 (by decide) ?_
          refine v_drop [some (rfv x 0), some (.int (nI (smN (k + 1) (fun k => if totW f k = 0 then 1 else 0)))), some (.int (nI (k + 1)))] (by rw [e1] at h31; simp [lsub, smN_s, h31]) ?_
          exact ih Ir Lr kp2
        · skip
          refine v_iinc 38 [some (rfv x 0), some (.int (nI ((smN k (fun k => if totW f k = 0 then 1 else 0)) + 1))), some (.int (nI (k)))] (nI ((smN k (fun k => if totW f k = 0 then 1 else 0)) + 1)) dX7_samplesWithoutTotal_35 rfl (by decide) rfl (nI_inc _) rfl ?_
          refine v_iinc 41 [some (rfv x 0), some (.int (nI ((smN k (fun k => if totW f k = 0 then 1 else 0)) + 1))), some (.int (nI (k + 1)))] (nI (k + 1)) dX7_samplesWithoutTotal_38 rfl (by decide) rfl (nI_inc _) rfl ?_
          refine v_goto 4 dX7_samplesWithoutTotal_41 (by decide) ?_
          refine v_drop [some (rfv x 0), some (.int (nI (smN (k + 1) (fun k => if totW f k = 0 then 1 else 0)))), some (.int (nI (k + 1)))] (by rw [e1] at h31; simp [lsub, smN_s, h31]) ?_
          exact ih Ir Lr kp2
  refine v_drop [some (rfv x 0), some (.int (nI (smN 0 (fun k => if totW f k = 0 then 1 else 0)))), some (.int (nI (0)))] (by simp [lsub, smN, amN, dbW, mxN]) ?_
  exact lp 0 (Nat.zero_le _) I L (Kp.rf I)
set_option maxHeartbeats 4000000 in
theorem sp_X7_placesOffPath {x : Cx} {Q : Qt} {I : Iv} {L : Lv} {P : Pv} {f : Vw} (c : RC 1 f I) (w : Wf f) {k : Nat} (hk : k < f 1) (sm : SM f k I L) (bp : ∀ p, p < nP f k → I 34 p = nI (pathW f k p)) (hQ : Q (some (.int (nI (smN (nP f k) (of1 f k))))) I L P) : SP x M_X7_placesOffPath [rfv x 0, .int (nI (nP f k))] I L P Q := by
  have := w.n4
  have := w.n1
  have := w.m6
  have := w.p hk
  
  refine SP.intro [some (rfv x 0), some (.int (nI (nP f k))), none, none] pn_X7_placesOffPath (Nat.le_of_ble_eq_true rfl) rfl ?_
  refine v_iconst 1 (nI (0)) (by decide) dX7_placesOffPath_0 rfl ?_
  refine v_istore_n 2 [some (rfv x 0), some (.int (nI (nP f k))), some (.int (nI (0))), none] dX7_placesOffPath_1 rfl (by decide) rfl ?_
  refine v_iconst 3 (nI (0)) (by decide) dX7_placesOffPath_2 rfl ?_
  refine v_istore_n 4 [some (rfv x 0), some (.int (nI (nP f k))), some (.int (nI (0))), some (.int (nI (0)))] dX7_placesOffPath_3 rfl (by decide) rfl ?_
  have lp : ∀ i, i ≤ nP f k → V x M_X7_placesOffPath Q 4 [some (rfv x 0), some (.int (nI (nP f k))), some (.int (nI (smN i (of1 f k)))), some (.int (nI (i)))] [] I L P := by
    refine lpU ?_ ?_
    · skip
      refine v_iload_n 5 rfl dX7_placesOffPath_4 rfl ?_
      refine v_iload_n 6 rfl dX7_placesOffPath_5 rfl ?_
      refine v_icmpN_ge 38 9 dX7_placesOffPath_6 (by decide) rfl (by omega) (by omega) (fun h6 => ?_) (fun h6 => ?_)
      · skip
        refine v_iload_n 39 rfl dX7_placesOffPath_38 rfl ?_
        refine v_iret rfl dX7_placesOffPath_39 ?_
        exact hQ
      · skip
        exact absurd h6 (by omega)
    · intro i hi ih 
      have := pathW_lt (k := k) w i
      have := lkW_lt (k := k) (p := i) w
      refine v_iload_n 5 rfl dX7_placesOffPath_4 rfl ?_
      refine v_iload_n 6 rfl dX7_placesOffPath_5 rfl ?_
      refine v_icmpN_ge 38 9 dX7_placesOffPath_6 (by decide) rfl (by omega) (by omega) (fun h6 => ?_) (fun h6 => ?_)
      · skip
        exact absurd h6 (by omega)
      · skip
        refine v_aload_n 10 rfl dX7_placesOffPath_9 rfl ?_
        refine v_get 13 (k := 6) 7 (rfv x 32) (by decide) rfl (by decide) (by decide) dX7_placesOffPath_10 rfl fl_X7_45 rfl ?_
        refine v_getN 16 (k := 2) 0 (rfv x 34) (by decide) rfl (by decide) (by decide) dX7_placesOffPath_13 rfl fl_X7_192 rfl ?_
        refine v_iload_n 17 rfl dX7_placesOffPath_16 rfl ?_
        refine v_iald 18 (k := i) (nI (pathW f k i)) (by decide) rfl (by decide) dX7_placesOffPath_17 rfl rfl (by omega) (bp i hi) ?_
        refine v_aload_n 19 rfl dX7_placesOffPath_18 rfl ?_
        refine v_get 22 (k := 5) 7 (rfv x 29) (by decide) rfl (by decide) (by decide) dX7_placesOffPath_19 rfl fl_X7_38 rfl ?_
        refine v_iload_n 23 rfl dX7_placesOffPath_22 rfl ?_
        refine v_invV 26 M_X6_likeliestAt [.int (nI (i))] (by decide) rfl (by decide) rfl dX7_placesOffPath_23 rfl ml_X7_203 im_X6_likeliestAt se_X6_likeliestAt mc_X6_likeliestAt (by decide) (Nat.le_of_ble_eq_true rfl) (sp_X6_likeliestAt c w hk sm (by omega) ?_)
        refine v_icmpN_eq 32 29 dX7_placesOffPath_26 (by decide) rfl (by omega) (by omega) (fun h26 => ?_) (fun h26 => ?_)
        · skip
          refine v_iinc 35 [some (rfv x 0), some (.int (nI (nP f k))), some (.int (nI (smN i (of1 f k)))), some (.int (nI (i + 1)))] (nI (i + 1)) dX7_placesOffPath_32 rfl (by decide) rfl (nI_inc _) rfl ?_
          refine v_goto 4 dX7_placesOffPath_35 (by decide) ?_
          refine v_drop [some (rfv x 0), some (.int (nI (nP f k))), some (.int (nI (smN (i + 1) (of1 f k)))), some (.int (nI (i + 1)))] (by simp [lsub, smN_s, of1, h26]) ?_
          exact ih
        · skip
          refine v_iinc 32 [some (rfv x 0), some (.int (nI (nP f k))), some (.int (nI ((smN i (of1 f k)) + 1))), some (.int (nI (i)))] (nI ((smN i (of1 f k)) + 1)) dX7_placesOffPath_29 rfl (by decide) rfl (nI_inc _) rfl ?_
          refine v_iinc 35 [some (rfv x 0), some (.int (nI (nP f k))), some (.int (nI ((smN i (of1 f k)) + 1))), some (.int (nI (i + 1)))] (nI (i + 1)) dX7_placesOffPath_32 rfl (by decide) rfl (nI_inc _) rfl ?_
          refine v_goto 4 dX7_placesOffPath_35 (by decide) ?_
          refine v_drop [some (rfv x 0), some (.int (nI (nP f k))), some (.int (nI (smN (i + 1) (of1 f k)))), some (.int (nI (i + 1)))] (by simp [lsub, smN_s, of1, h26]) ?_
          exact ih
  refine v_drop [some (rfv x 0), some (.int (nI (nP f k))), some (.int (nI (smN 0 (of1 f k)))), some (.int (nI (0)))] (by simp [lsub, smN, amN, dbW, mxN]) ?_
  exact lp 0 (Nat.zero_le _)
set_option maxHeartbeats 4000000 in
theorem sp_X7_placesOffBest {x : Cx} {Q : Qt} {I : Iv} {L : Lv} {P : Pv} {f : Vw} (c : RC 1 f I) (w : Wf f) (hQ : ∀ I1 L1, Kp I I1 → Q (some (.int (nI (c6 f)))) I1 L1 P) : SP x M_X7_placesOffBest [rfv x 0] I L P Q := by
  have := w.n4
  have := w.m6
  refine SP.intro [some (rfv x 0), none, none] pn_X7_placesOffBest (Nat.le_of_ble_eq_true rfl) rfl ?_
  refine v_iconst 1 (nI (0)) (by decide) dX7_placesOffBest_0 rfl ?_
  refine v_istore_n 2 [some (rfv x 0), some (.int (nI (0))), none] dX7_placesOffBest_1 rfl (by decide) rfl ?_
  refine v_iconst 3 (nI (0)) (by decide) dX7_placesOffBest_2 rfl ?_
  refine v_istore_n 4 [some (rfv x 0), some (.int (nI (0))), some (.int (nI (0)))] dX7_placesOffBest_3 rfl (by decide) rfl ?_
  have lp : ∀ k, k ≤ f 1 → ∀ (I1 : Iv) (L1 : Lv), Kp I I1 → V x M_X7_placesOffBest Q 4 [some (rfv x 0), some (.int (nI (smN k (fun k => if totW f k = 0 then 0 else smN (nP f k) (of1 f k))))), some (.int (nI (k)))] [] I1 L1 P := by
    refine lpU ?_ ?_
    · intro I1 L1 kp
      refine v_iload_n 5 rfl dX7_placesOffBest_4 rfl ?_
      refine v_aload_n 6 rfl dX7_placesOffBest_5 rfl ?_
      refine v_get 9 (k := 0) 7 (rfv x 1) (by decide) rfl (by decide) (by decide) dX7_placesOffBest_6 rfl fl_X7_15 rfl ?_
      refine v_getN 12 (k := 5) 3 (.int (nI (f 1))) (by decide) rfl (by decide) (by decide) dX7_placesOffBest_9 rfl fl_X7_124 (congrArg Value.int (RC.same (I' := I1) c (fun a _ _ => kp.row (by omega))).sm) ?_
      refine v_icmpN_ge 65 15 dX7_placesOffBest_12 (by decide) rfl (by omega) (by omega) (fun h12 => ?_) (fun h12 => ?_)
      · skip
        refine v_iload_n 66 rfl dX7_placesOffBest_65 rfl ?_
        refine v_iret rfl dX7_placesOffBest_66 ?_
        exact hQ I1 L1 kp
      · skip
        exact absurd h12 (by omega)
    · intro k hk ih I1 L1 kp
      have hbl := bestW_lt w hk
      refine v_iload_n 5 rfl dX7_placesOffBest_4 rfl ?_
      refine v_aload_n 6 rfl dX7_placesOffBest_5 rfl ?_
      refine v_get 9 (k := 0) 7 (rfv x 1) (by decide) rfl (by decide) (by decide) dX7_placesOffBest_6 rfl fl_X7_15 rfl ?_
      refine v_getN 12 (k := 5) 3 (.int (nI (f 1))) (by decide) rfl (by decide) (by decide) dX7_placesOffBest_9 rfl fl_X7_124 (congrArg Value.int (RC.same (I' := I1) c (fun a _ _ => kp.row (by omega))).sm) ?_
      refine v_icmpN_ge 65 15 dX7_placesOffBest_12 (by decide) rfl (by omega) (by omega) (fun h12 => ?_) (fun h12 => ?_)
      · skip
        exact absurd h12 (by omega)
      · skip
        refine v_aload_n 16 rfl dX7_placesOffBest_15 rfl ?_
        refine v_get 19 (k := 6) 7 (rfv x 32) (by decide) rfl (by decide) (by decide) dX7_placesOffBest_16 rfl fl_X7_45 rfl ?_
        refine v_iload_n 20 rfl dX7_placesOffBest_19 rfl ?_
        refine v_invV 23 M_X0_read [.int (nI (k))] (by decide) rfl (by decide) rfl dX7_placesOffBest_20 rfl ml_X7_186 im_X0_read se_X0_read mc_X0_read (by decide) (Nat.le_of_ble_eq_true rfl) (sp_X0_read (RC.same (I' := I1) c (fun a _ _ => kp.row (by omega))) w hk (fun Ir Lr f1 f2 bm => ?_))
        have kp2 : Kp I Ir := kp.tr (fun a q hl => congrFun (f1 a (by unfold live at hl; omega)) q)
        have cr : RC 1 f Ir := RC.same (I' := Ir) c (fun a _ _ => kp2.row (by omega))
        refine v_aload_n 24 rfl dX7_placesOffBest_23 rfl ?_
        refine v_get 27 (k := 6) 7 (rfv x 32) (by decide) rfl (by decide) (by decide) dX7_placesOffBest_24 rfl fl_X7_45 rfl ?_
        refine v_getN 30 (k := 3) 0 (.long (lN (bestW f k))) (by decide) rfl (by decide) (by decide) dX7_placesOffBest_27 rfl fl_X7_187 (congrArg Value.long bm.2) ?_
        refine v_lconst 31 (lN (0)) rfl dX7_placesOffBest_30 rfl ?_
        refine v_lcmp_le 32 59 35 dX7_placesOffBest_31 rfl dX7_placesOffBest_32 (by decide) rfl (fun h31 => ?_) (fun h31 => ?_)
        · skip
          have h0 : totW f k = 0 := by have := mt (best_tot w hk).mpr (fun q => h31 ((pk_lLT (by decide) hbl).mpr q)); omega
          refine v_iinc 62 [some (rfv x 0), some (.int (nI (smN k (fun k => if totW f k = 0 then 0 else smN (nP f k) (of1 f k))))), some (.int (nI (k + 1)))] (nI (k + 1)) dX7_placesOffBest_59 rfl (by decide) rfl (nI_inc _) rfl ?_
          refine v_goto 4 dX7_placesOffBest_62 (by decide) ?_
          refine v_drop [some (rfv x 0), some (.int (nI (smN (k + 1) (fun k => if totW f k = 0 then 0 else smN (nP f k) (of1 f k))))), some (.int (nI (k + 1)))] (by simp [lsub, smN_s, h0]) ?_
          exact ih Ir Lr kp2
        · skip
          have h0 : totW f k ≠ 0 := by have := (best_tot w hk).mp ((pk_lLT (by decide) hbl).mp h31); omega
          refine v_aload_n 36 rfl dX7_placesOffBest_35 rfl ?_
          refine v_get 39 (k := 5) 7 (rfv x 29) (by decide) rfl (by decide) (by decide) dX7_placesOffBest_36 rfl fl_X7_38 rfl ?_
          refine v_iload_n 40 rfl dX7_placesOffBest_39 rfl ?_
          refine v_invV 43 M_X6_read [.int (nI (k))] (by decide) rfl (by decide) rfl dX7_placesOffBest_40 rfl ml_X7_177 im_X6_read se_X6_read mc_X6_read (by decide) (Nat.le_of_ble_eq_true rfl) (sp_X6_read cr w hk (fun Is Ls g1 g2 sm => ?_))
          have kp3 : Kp I Is := kp2.tr (fun a q hl => congrFun (g1 a (by unfold live at hl; omega)) q)
          have cs : RC 1 f Is := RC.same (I' := Is) c (fun a _ _ => kp3.row (by omega))
          refine v_iload_n 44 rfl dX7_placesOffBest_43 rfl ?_
          refine v_aload_n 45 rfl dX7_placesOffBest_44 rfl ?_
          refine v_aload_n 46 rfl dX7_placesOffBest_45 rfl ?_
          refine v_get 49 (k := 0) 7 (rfv x 1) (by decide) rfl (by decide) (by decide) dX7_placesOffBest_46 rfl fl_X7_15 rfl ?_
          refine v_getN 52 (k := 3) 3 (rfv x 3) (by decide) rfl (by decide) (by decide) dX7_placesOffBest_49 rfl fl_X7_236 rfl ?_
          refine v_iload_n 53 rfl dX7_placesOffBest_52 rfl ?_
          refine v_iald 54 (k := k) (nI (nP f k)) (by decide) rfl (by decide) dX7_placesOffBest_53 rfl rfl (by omega) (cs.n hk) ?_
          refine v_invV 57 M_X7_placesOffPath [.int (nI (nP f k))] (by decide) rfl (by decide) rfl dX7_placesOffBest_54 rfl ml_X7_239 im_X7_placesOffPath se_X7_placesOffPath mc_X7_placesOffPath (by decide) (Nat.le_of_ble_eq_true rfl) (sp_X7_placesOffPath cs w hk sm (fun p hp => (congrFun (g1 34 (by decide)) p).trans (bm.1 p hp)) ?_)
          refine v_iadd 58 (nI ((smN k (fun k => if totW f k = 0 then 0 else smN (nP f k) (of1 f k))) + (smN (nP f k) (of1 f k)))) dX7_placesOffBest_57 rfl (nI_add _ _) ?_
          refine v_istore_n 59 [some (rfv x 0), some (.int (nI ((smN k (fun k => if totW f k = 0 then 0 else smN (nP f k) (of1 f k))) + (smN (nP f k) (of1 f k))))), some (.int (nI (k)))] dX7_placesOffBest_58 rfl (by decide) rfl ?_
          refine v_iinc 62 [some (rfv x 0), some (.int (nI ((smN k (fun k => if totW f k = 0 then 0 else smN (nP f k) (of1 f k))) + (smN (nP f k) (of1 f k))))), some (.int (nI (k + 1)))] (nI (k + 1)) dX7_placesOffBest_59 rfl (by decide) rfl (nI_inc _) rfl ?_
          refine v_goto 4 dX7_placesOffBest_62 (by decide) ?_
          refine v_drop [some (rfv x 0), some (.int (nI (smN (k + 1) (fun k => if totW f k = 0 then 0 else smN (nP f k) (of1 f k))))), some (.int (nI (k + 1)))] (by simp [lsub, smN_s, h0]) ?_
          exact ih Is Ls kp3
  refine v_drop [some (rfv x 0), some (.int (nI (smN 0 (fun k => if totW f k = 0 then 0 else smN (nP f k) (of1 f k))))), some (.int (nI (0)))] (by simp [lsub, smN, amN, dbW, mxN]) ?_
  exact lp 0 (Nat.zero_le _) I L (Kp.rf I)
theorem aCount_0 {f : Vw} {hn tl : Nat} : aCount f hn tl (nI 0) = nI (f 0) := by
  unfold aCount
  rw [if_pos rfl]
theorem aCount_1 {f : Vw} {hn tl : Nat} : aCount f hn tl (nI 1) = nI (f 1) := by
  unfold aCount
  rw [if_neg (show ¬ (nI 1 : Int32) = nI 0 by decide), if_pos rfl]
theorem aCount_2 {f : Vw} {hn tl : Nat} : aCount f hn tl (nI 2) = nI (f 2) := by
  unfold aCount
  rw [if_neg (show ¬ (nI 2 : Int32) = nI 0 by decide), if_neg (show ¬ (nI 2 : Int32) = nI 1 by decide), if_pos rfl]
theorem aCount_3 {f : Vw} {hn tl : Nat} : aCount f hn tl (nI 3) = nI (c3 f) := by
  unfold aCount
  rw [if_neg (show ¬ (nI 3 : Int32) = nI 0 by decide), if_neg (show ¬ (nI 3 : Int32) = nI 1 by decide), if_neg (show ¬ (nI 3 : Int32) = nI 2 by decide), if_pos rfl]
theorem aCount_4 {f : Vw} {hn tl : Nat} : aCount f hn tl (nI 4) = nI (c4 f) := by
  unfold aCount
  rw [if_neg (show ¬ (nI 4 : Int32) = nI 0 by decide), if_neg (show ¬ (nI 4 : Int32) = nI 1 by decide), if_neg (show ¬ (nI 4 : Int32) = nI 2 by decide), if_neg (show ¬ (nI 4 : Int32) = nI 3 by decide), if_pos rfl]
theorem aCount_5 {f : Vw} {hn tl : Nat} : aCount f hn tl (nI 5) = nI (c5 f) := by
  unfold aCount
  rw [if_neg (show ¬ (nI 5 : Int32) = nI 0 by decide), if_neg (show ¬ (nI 5 : Int32) = nI 1 by decide), if_neg (show ¬ (nI 5 : Int32) = nI 2 by decide), if_neg (show ¬ (nI 5 : Int32) = nI 3 by decide), if_neg (show ¬ (nI 5 : Int32) = nI 4 by decide), if_pos rfl]
theorem aCount_6 {f : Vw} {hn tl : Nat} : aCount f hn tl (nI 6) = nI (c6 f) := by
  unfold aCount
  rw [if_neg (show ¬ (nI 6 : Int32) = nI 0 by decide), if_neg (show ¬ (nI 6 : Int32) = nI 1 by decide), if_neg (show ¬ (nI 6 : Int32) = nI 2 by decide), if_neg (show ¬ (nI 6 : Int32) = nI 3 by decide), if_neg (show ¬ (nI 6 : Int32) = nI 4 by decide), if_neg (show ¬ (nI 6 : Int32) = nI 5 by decide), if_pos rfl]
theorem aCount_7 {f : Vw} {hn tl : Nat} : aCount f hn tl (nI 7) = nI (hn) := by
  unfold aCount
  rw [if_neg (show ¬ (nI 7 : Int32) = nI 0 by decide), if_neg (show ¬ (nI 7 : Int32) = nI 1 by decide), if_neg (show ¬ (nI 7 : Int32) = nI 2 by decide), if_neg (show ¬ (nI 7 : Int32) = nI 3 by decide), if_neg (show ¬ (nI 7 : Int32) = nI 4 by decide), if_neg (show ¬ (nI 7 : Int32) = nI 5 by decide), if_neg (show ¬ (nI 7 : Int32) = nI 6 by decide), if_pos rfl]
theorem aCount_8 {f : Vw} {hn tl : Nat} : aCount f hn tl (nI 8) = nI (tl) := by
  unfold aCount
  rw [if_neg (show ¬ (nI 8 : Int32) = nI 0 by decide), if_neg (show ¬ (nI 8 : Int32) = nI 1 by decide), if_neg (show ¬ (nI 8 : Int32) = nI 2 by decide), if_neg (show ¬ (nI 8 : Int32) = nI 3 by decide), if_neg (show ¬ (nI 8 : Int32) = nI 4 by decide), if_neg (show ¬ (nI 8 : Int32) = nI 5 by decide), if_neg (show ¬ (nI 8 : Int32) = nI 6 by decide), if_neg (show ¬ (nI 8 : Int32) = nI 7 by decide), if_pos rfl]
set_option maxHeartbeats 4000000 in
theorem sp_X7_count {x : Cx} {Q : Qt} {I : Iv} {L : Lv} {P : Pv} {f : Vw} (c : RC 1 f I) (w : Wf f) {h : Int32} {hn tl : Nat} (hh : I 9 1 = nI hn) (ht : I 27 1 = nI tl) (hQ : ∀ I1 L1, Kp I I1 → Q (some (.int (aCount f hn tl h))) I1 L1 P) : SP x M_X7_count [rfv x 0, .int (h)] I L P Q := by
  have := w.n4
  have := w.m6
  refine SP.intro [some (rfv x 0), some (.int (h))] pn_X7_count (Nat.le_of_ble_eq_true rfl) rfl ?_
  refine v_iload_n 1 rfl dX7_count_0 rfl ?_
  by_cases q0 : h = nI 0
  · skip
    subst q0
    refine v_tin 52 (off := 51) dX7_count_1 (by decide) (by decide) (by decide +kernel) (by decide) ?_
    refine v_aload_n 53 rfl dX7_count_52 rfl ?_
    refine v_get 56 (k := 0) 7 (rfv x 1) (by decide) rfl (by decide) (by decide) dX7_count_53 rfl fl_X7_15 rfl ?_
    refine v_getN 59 (k := 1) 3 (.int (nI (f 0))) (by decide) rfl (by decide) (by decide) dX7_count_56 rfl fl_X7_84 (congrArg Value.int c.st) ?_
    refine v_iret rfl dX7_count_59 ?_
    exact qZ (hQ I L (Kp.rf I)) (aCount_0).symm
  by_cases q1 : h = nI 1
  · skip
    subst q1
    refine v_tin 60 (off := 59) dX7_count_1 (by decide) (by decide) (by decide +kernel) (by decide) ?_
    refine v_aload_n 61 rfl dX7_count_60 rfl ?_
    refine v_get 64 (k := 0) 7 (rfv x 1) (by decide) rfl (by decide) (by decide) dX7_count_61 rfl fl_X7_15 rfl ?_
    refine v_getN 67 (k := 5) 3 (.int (nI (f 1))) (by decide) rfl (by decide) (by decide) dX7_count_64 rfl fl_X7_124 (congrArg Value.int c.sm) ?_
    refine v_iret rfl dX7_count_67 ?_
    exact qZ (hQ I L (Kp.rf I)) (aCount_1).symm
  by_cases q2 : h = nI 2
  · skip
    subst q2
    refine v_tin 68 (off := 67) dX7_count_1 (by decide) (by decide) (by decide +kernel) (by decide) ?_
    refine v_aload_n 69 rfl dX7_count_68 rfl ?_
    refine v_get 72 (k := 0) 7 (rfv x 1) (by decide) rfl (by decide) (by decide) dX7_count_69 rfl fl_X7_15 rfl ?_
    refine v_getN 75 (k := 2) 3 (.int (nI (f 2))) (by decide) rfl (by decide) (by decide) dX7_count_72 rfl fl_X7_114 (congrArg Value.int c.bd) ?_
    refine v_iret rfl dX7_count_75 ?_
    exact qZ (hQ I L (Kp.rf I)) (aCount_2).symm
  by_cases q3 : h = nI 3
  · skip
    subst q3
    refine v_tin 76 (off := 75) dX7_count_1 (by decide) (by decide) (by decide +kernel) (by decide) ?_
    refine v_aload_n 77 rfl dX7_count_76 rfl ?_
    refine v_get 80 (k := 0) 7 (rfv x 1) (by decide) rfl (by decide) (by decide) dX7_count_77 rfl fl_X7_15 rfl ?_
    refine v_invV 83 M_X3_allSigns [] (by decide) rfl (by decide) rfl dX7_count_80 rfl ml_X7_217 im_X3_allSigns se_X3_allSigns mc_X3_allSigns (by decide) (Nat.le_of_ble_eq_true rfl) (sp_X3_allSigns c w ?_)
    refine v_iret rfl dX7_count_83 ?_
    exact qZ (hQ I L (Kp.rf I)) (aCount_3).symm
  by_cases q4 : h = nI 4
  · skip
    subst q4
    refine v_tin 84 (off := 83) dX7_count_1 (by decide) (by decide) (by decide +kernel) (by decide) ?_
    refine v_aload_n 85 rfl dX7_count_84 rfl ?_
    refine v_invV 88 M_X7_allDoubtful [] (by decide) rfl (by decide) rfl dX7_count_85 rfl ml_X7_220 im_X7_allDoubtful se_X7_allDoubtful mc_X7_allDoubtful (by decide) (Nat.le_of_ble_eq_true rfl) (sp_X7_allDoubtful c w (fun I1 L1 kp => ?_))
    refine v_iret rfl dX7_count_88 ?_
    exact qZ (hQ I1 L1 kp) (aCount_4).symm
  by_cases q5 : h = nI 5
  · skip
    subst q5
    refine v_tin 89 (off := 88) dX7_count_1 (by decide) (by decide) (by decide +kernel) (by decide) ?_
    refine v_aload_n 90 rfl dX7_count_89 rfl ?_
    refine v_invV 93 M_X7_samplesWithoutTotal [] (by decide) rfl (by decide) rfl dX7_count_90 rfl ml_X7_223 im_X7_samplesWithoutTotal se_X7_samplesWithoutTotal mc_X7_samplesWithoutTotal (by decide) (Nat.le_of_ble_eq_true rfl) (sp_X7_samplesWithoutTotal c w (fun I1 L1 kp => ?_))
    refine v_iret rfl dX7_count_93 ?_
    exact qZ (hQ I1 L1 kp) (aCount_5).symm
  by_cases q6 : h = nI 6
  · skip
    subst q6
    refine v_tin 94 (off := 93) dX7_count_1 (by decide) (by decide) (by decide +kernel) (by decide) ?_
    refine v_aload_n 95 rfl dX7_count_94 rfl ?_
    refine v_invV 98 M_X7_placesOffBest [] (by decide) rfl (by decide) rfl dX7_count_95 rfl ml_X7_226 im_X7_placesOffBest se_X7_placesOffBest mc_X7_placesOffBest (by decide) (Nat.le_of_ble_eq_true rfl) (sp_X7_placesOffBest c w (fun I1 L1 kp => ?_))
    refine v_iret rfl dX7_count_98 ?_
    exact qZ (hQ I1 L1 kp) (aCount_6).symm
  by_cases q7 : h = nI 7
  · skip
    subst q7
    refine v_tin 99 (off := 98) dX7_count_1 (by decide) (by decide) (by decide +kernel) (by decide) ?_
    refine v_aload_n 100 rfl dX7_count_99 rfl ?_
    refine v_get 103 (k := 3) 7 (rfv x 9) (by decide) rfl (by decide) (by decide) dX7_count_100 rfl fl_X7_27 rfl ?_
    refine v_getN 106 (k := 1) 1 (.int (nI (hn))) (by decide) rfl (by decide) (by decide) dX7_count_103 rfl fl_X7_152 (congrArg Value.int hh) ?_
    refine v_iret rfl dX7_count_106 ?_
    exact qZ (hQ I L (Kp.rf I)) (aCount_7).symm
  by_cases q8 : h = nI 8
  · skip
    subst q8
    refine v_tin 107 (off := 106) dX7_count_1 (by decide) (by decide) (by decide +kernel) (by decide) ?_
    refine v_aload_n 108 rfl dX7_count_107 rfl ?_
    refine v_get 111 (k := 4) 7 (rfv x 27) (by decide) rfl (by decide) (by decide) dX7_count_108 rfl fl_X7_34 rfl ?_
    refine v_getN 114 (k := 1) 5 (.int (nI (tl))) (by decide) rfl (by decide) (by decide) dX7_count_111 rfl fl_X7_142 (congrArg Value.int ht) ?_
    refine v_iret rfl dX7_count_114 ?_
    exact qZ (hQ I L (Kp.rf I)) (aCount_8).symm
  refine v_tout 115 dX7_count_1 (tabN9 (fun n hn9 e => by rcases (show n = 0 ∨ n = 1 ∨ n = 2 ∨ n = 3 ∨ n = 4 ∨ n = 5 ∨ n = 6 ∨ n = 7 ∨ n = 8 by omega) with z | z | z | z | z | z | z | z | z <;> subst z <;> contradiction)) (by decide) ?_
  refine v_bipush 117 ((-2)) (by decide) dX7_count_115 rfl ?_
  refine v_iret rfl dX7_count_117 ?_
  exact qZ (hQ I L (Kp.rf I)) (by simp [aCount, q0, q1, q2, q3, q4, q5, q6, q7, q8])
set_option maxHeartbeats 4000000 in
theorem sp_X8_signs {x : Cx} {Q : Qt} {I : Iv} {L : Lv} {P : Pv} {f : Vw} (r : RR (I 41) f) (w : Wf f) (hQ : Q (some (.int (nI (c3 f)))) I L P) : SP x M_X8_signs [rfv x 40] I L P Q := by
  have := w.n4
  have := w.n1
  have := w.m6
  
  refine SP.intro [some (rfv x 40), none, none] pn_X8_signs (Nat.le_of_ble_eq_true rfl) rfl ?_
  refine v_iconst 1 (nI (0)) (by decide) dX8_signs_0 rfl ?_
  refine v_istore_n 2 [some (rfv x 40), some (.int (nI (0))), none] dX8_signs_1 rfl (by decide) rfl ?_
  refine v_iconst 3 (nI (0)) (by decide) dX8_signs_2 rfl ?_
  refine v_istore_n 4 [some (rfv x 40), some (.int (nI (0))), some (.int (nI (0)))] dX8_signs_3 rfl (by decide) rfl ?_
  have lp : ∀ i, i ≤ f 1 → V x M_X8_signs Q 4 [some (rfv x 40), some (.int (nI (smN i (nP f)))), some (.int (nI (i)))] [] I L P := by
    refine lpU ?_ ?_
    · skip
      refine v_iload_n 5 rfl dX8_signs_4 rfl ?_
      refine v_aload_n 6 rfl dX8_signs_5 rfl ?_
      refine v_get 9 (k := 1) 8 (rfv x 41) (by decide) rfl (by decide) (by decide) dX8_signs_6 rfl fl_X8_7 rfl ?_
      refine v_iconst 10 (nI (1)) (by decide) dX8_signs_9 rfl ?_
      refine v_iald 11 (k := 1) (nI (f 1)) (by decide) rfl (by decide) dX8_signs_10 rfl rfl (by omega) r.sm ?_
      refine v_icmpN_ge 28 14 dX8_signs_11 (by decide) rfl (by omega) (by omega) (fun h11 => ?_) (fun h11 => ?_)
      · skip
        refine v_iload_n 29 rfl dX8_signs_28 rfl ?_
        refine v_iret rfl dX8_signs_29 ?_
        exact hQ
      · skip
        exact absurd h11 (by omega)
    · intro i hi ih 
      refine v_iload_n 5 rfl dX8_signs_4 rfl ?_
      refine v_aload_n 6 rfl dX8_signs_5 rfl ?_
      refine v_get 9 (k := 1) 8 (rfv x 41) (by decide) rfl (by decide) (by decide) dX8_signs_6 rfl fl_X8_7 rfl ?_
      refine v_iconst 10 (nI (1)) (by decide) dX8_signs_9 rfl ?_
      refine v_iald 11 (k := 1) (nI (f 1)) (by decide) rfl (by decide) dX8_signs_10 rfl rfl (by omega) r.sm ?_
      refine v_icmpN_ge 28 14 dX8_signs_11 (by decide) rfl (by omega) (by omega) (fun h11 => ?_) (fun h11 => ?_)
      · skip
        exact absurd h11 (by omega)
      · skip
        refine v_iload_n 15 rfl dX8_signs_14 rfl ?_
        refine v_aload_n 16 rfl dX8_signs_15 rfl ?_
        refine v_iload_n 17 rfl dX8_signs_16 rfl ?_
        refine v_invV 20 M_X8_placesOf [.int (nI (i))] (by decide) rfl (by decide) rfl dX8_signs_17 rfl ml_X8_65 im_X8_placesOf se_X8_placesOf mc_X8_placesOf (by decide) (Nat.le_of_ble_eq_true rfl) (sp_X8_placesOf r w (by omega) ?_)
        refine v_iadd 21 (nI ((smN i (nP f)) + (nP f i))) dX8_signs_20 rfl (nI_add _ _) ?_
        refine v_istore_n 22 [some (rfv x 40), some (.int (nI ((smN i (nP f)) + (nP f i)))), some (.int (nI (i)))] dX8_signs_21 rfl (by decide) rfl ?_
        refine v_iinc 25 [some (rfv x 40), some (.int (nI ((smN i (nP f)) + (nP f i)))), some (.int (nI (i + 1)))] (nI (i + 1)) dX8_signs_22 rfl (by decide) rfl (nI_inc _) rfl ?_
        refine v_goto 4 dX8_signs_25 (by decide) ?_
        refine v_drop [some (rfv x 40), some (.int (nI (smN (i + 1) (nP f)))), some (.int (nI (i + 1)))] (by simp [lsub, smN_s]) ?_
        exact ih
  refine v_drop [some (rfv x 40), some (.int (nI (smN 0 (nP f)))), some (.int (nI (0)))] (by simp [lsub, smN, amN, dbW, mxN]) ?_
  exact lp 0 (Nat.zero_le _)
def ovs (f : Vw) (wh k : Nat) : Nat := if wh = 4 then pc7 (dW f k) else if wh = 5 then (if totW f k = 0 then 1 else 0) else (if totW f k = 0 then 0 else smN (nP f k) (of1 f k))
def ovT (f : Vw) (wh k p : Nat) : Nat := if wh = 4 then dW f k / 2 ^ p % 2 else if wh = 6 then (if totW f k = 0 then 0 else of1 f k p) else 0
theorem smN_0 : ∀ n, smN n (fun _ => 0) = 0
  | 0 => rfl
  | n + 1 => by rw [smN_s, smN_0 n]
theorem ovs_eq {f : Vw} {wh k : Nat} (w : Wf f) (hk : k < f 1) (hw : wh = 4 ∨ wh = 5 ∨ wh = 6) : (if wh = 5 ∧ totW f k = 0 then 1 else 0) + smN (nP f k) (ovT f wh k) = ovs f wh k := by
  rcases hw with e | e | e <;> subst e
  · have h : smN (nP f k) (ovT f 4 k) = pc7 (dW f k) := by
      rw [← pc_n (w.p hk).2 dW_lt]
      exact smN_congr (fun p _ => by simp [ovT])
    simp [h, ovs]
  · have h : smN (nP f k) (ovT f 5 k) = 0 := by
      rw [← smN_0 (nP f k)]
      exact smN_congr (fun p _ => by simp [ovT])
    simp [h, ovs]
  · by_cases q : totW f k = 0
    · have h : smN (nP f k) (ovT f 6 k) = 0 := by
        rw [← smN_0 (nP f k)]
        exact smN_congr (fun p _ => by simp [ovT, q])
      simp [h, ovs, q]
    · have h : smN (nP f k) (ovT f 6 k) = smN (nP f k) (of1 f k) := smN_congr (fun p _ => by simp [ovT, q])
      simp [h, ovs, q]
set_option maxHeartbeats 4000000 in
theorem sp_X8_overSamples {x : Cx} {Q : Qt} {I : Iv} {L : Lv} {P : Pv} {f : Vw} (r : RR (I 41) f) (w : Wf f) {wh : Nat} (hw : wh = 4 ∨ wh = 5 ∨ wh = 6) (hQ : ∀ L1, Q (some (.int (nI (smN (f 1) (ovs f wh))))) I L1 P) : SP x M_X8_overSamples [rfv x 40, .int (nI (wh))] I L P Q := by
  have := w.n4
  have := w.n1
  have := w.m6
  
  refine SP.intro [some (rfv x 40), some (.int (nI (wh))), none, none, none, none, none] pn_X8_overSamples (Nat.le_of_ble_eq_true rfl) rfl ?_
  refine v_iconst 1 (nI (0)) (by decide) dX8_overSamples_0 rfl ?_
  refine v_istore_n 2 [some (rfv x 40), some (.int (nI (wh))), some (.int (nI (0))), none, none, none, none] dX8_overSamples_1 rfl (by decide) rfl ?_
  refine v_iconst 3 (nI (0)) (by decide) dX8_overSamples_2 rfl ?_
  refine v_istore_n 4 [some (rfv x 40), some (.int (nI (wh))), some (.int (nI (0))), some (.int (nI (0))), none, none, none] dX8_overSamples_3 rfl (by decide) rfl ?_
  have lp : ∀ k, k ≤ f 1 → ∀ L1 : Lv, V x M_X8_overSamples Q 4 [some (rfv x 40), some (.int (nI (wh))), some (.int (nI (smN k (ovs f wh)))), some (.int (nI (k))), none, none, none] [] I L1 P := by
    refine lpU ?_ ?_
    · intro L1
      refine v_iload_n 5 rfl dX8_overSamples_4 rfl ?_
      refine v_aload_n 6 rfl dX8_overSamples_5 rfl ?_
      refine v_get 9 (k := 1) 8 (rfv x 41) (by decide) rfl (by decide) (by decide) dX8_overSamples_6 rfl fl_X8_7 rfl ?_
      refine v_iconst 10 (nI (1)) (by decide) dX8_overSamples_9 rfl ?_
      refine v_iald 11 (k := 1) (nI (f 1)) (by decide) rfl (by decide) dX8_overSamples_10 rfl rfl (by omega) r.sm ?_
      refine v_icmpN_ge 130 14 dX8_overSamples_11 (by decide) rfl (by omega) (by omega) (fun h11 => ?_) (fun h11 => ?_)
      · skip
        refine v_iload_n 131 rfl dX8_overSamples_130 rfl ?_
        refine v_iret rfl dX8_overSamples_131 ?_
        exact hQ L1
      · skip
        exact absurd h11 (by omega)
    · intro k hk ih L1
      have := w.p hk
      have hT := totW_le w hk
      refine v_iload_n 5 rfl dX8_overSamples_4 rfl ?_
      refine v_aload_n 6 rfl dX8_overSamples_5 rfl ?_
      refine v_get 9 (k := 1) 8 (rfv x 41) (by decide) rfl (by decide) (by decide) dX8_overSamples_6 rfl fl_X8_7 rfl ?_
      refine v_iconst 10 (nI (1)) (by decide) dX8_overSamples_9 rfl ?_
      refine v_iald 11 (k := 1) (nI (f 1)) (by decide) rfl (by decide) dX8_overSamples_10 rfl rfl (by omega) r.sm ?_
      refine v_icmpN_ge 130 14 dX8_overSamples_11 (by decide) rfl (by omega) (by omega) (fun h11 => ?_) (fun h11 => ?_)
      · skip
        exact absurd h11 (by omega)
      · skip
        refine v_aload_n 15 rfl dX8_overSamples_14 rfl ?_
        refine v_iload_n 16 rfl dX8_overSamples_15 rfl ?_
        refine v_invV 19 M_X8_doubts [.int (nI (k))] (by decide) rfl (by decide) rfl dX8_overSamples_16 rfl ml_X8_197 im_X8_doubts se_X8_doubts mc_X8_doubts (by decide) (Nat.le_of_ble_eq_true rfl) (sp_X8_doubts r w hk (fun Lr um => ?_))
        refine v_istore 21 [some (rfv x 40), some (.int (nI (wh))), some (.int (nI (smN k (ovs f wh)))), some (.int (nI (k))), some (.int (nI (dW f k))), none, none] dX8_overSamples_19 rfl (by decide) rfl ?_
        refine v_aload_n 22 rfl dX8_overSamples_21 rfl ?_
        refine v_invV 25 M_X8_total [] (by decide) rfl (by decide) rfl dX8_overSamples_22 rfl ml_X8_154 im_X8_total se_X8_total mc_X8_total (by decide) (Nat.le_of_ble_eq_true rfl) (sp_X8_total r w hk um ?_)
        refine v_lconst 26 (lN (0)) rfl dX8_overSamples_25 rfl ?_
        refine v_lcmp_ne 27 34 30 dX8_overSamples_26 rfl dX8_overSamples_27 (by decide) rfl (fun h26 => ?_) (fun h26 => ?_)
        · skip
          have h0 : ¬ totW f k = 0 := fun q9 => h26 ((pk_lEQ (by omega) (by decide)).mpr q9)
          refine v_iconst 35 (nI (0)) (by decide) dX8_overSamples_34 rfl ?_
          refine v_istore 37 [some (rfv x 40), some (.int (nI (wh))), some (.int (nI (smN k (ovs f wh)))), some (.int (nI (k))), some (.int (nI (dW f k))), some (.int (nI (0))), none] dX8_overSamples_35 rfl (by decide) rfl ?_
          refine v_iload_n 38 rfl dX8_overSamples_37 rfl ?_
          refine v_iload_n 39 rfl dX8_overSamples_38 rfl ?_
          refine v_iconst 40 (nI (5)) (by decide) dX8_overSamples_39 rfl ?_
          refine v_icmpN_ne 52 43 dX8_overSamples_40 (by decide) rfl (by omega) (by omega) (fun h40 => ?_) (fun h40 => ?_)
          · skip
            refine v_iconst 53 (nI (0)) (by decide) dX8_overSamples_52 rfl ?_
            refine v_iadd 54 (nI ((smN k (ovs f wh)) + 0)) dX8_overSamples_53 rfl (nI_add _ _) ?_
            refine v_istore_n 55 [some (rfv x 40), some (.int (nI (wh))), some (.int (nI ((smN k (ovs f wh)) + 0))), some (.int (nI (k))), some (.int (nI (dW f k))), some (.int (nI (0))), none] dX8_overSamples_54 rfl (by decide) rfl ?_
            refine v_iconst 56 (nI (0)) (by decide) dX8_overSamples_55 rfl ?_
            refine v_istore 58 [some (rfv x 40), some (.int (nI (wh))), some (.int (nI ((smN k (ovs f wh)) + 0))), some (.int (nI (k))), some (.int (nI (dW f k))), some (.int (nI (0))), some (.int (nI (0)))] dX8_overSamples_56 rfl (by decide) rfl ?_
            have lq : ∀ i, i ≤ nP f k → V x M_X8_overSamples Q 58 [some (rfv x 40), some (.int (nI (wh))), some (.int (nI (smN k (ovs f wh) + (if wh = 5 ∧ totW f k = 0 then 1 else 0) + smN i (ovT f wh k)))), some (.int (nI (k))), some (.int (nI (dW f k))), some (.int (nI (0))), some (.int (nI (i)))] [] I Lr P := by
              refine lpU ?_ ?_
              · skip
                refine v_iload 60 rfl dX8_overSamples_58 rfl ?_
                refine v_aload_n 61 rfl dX8_overSamples_60 rfl ?_
                refine v_iload_n 62 rfl dX8_overSamples_61 rfl ?_
                refine v_invV 65 M_X8_placesOf [.int (nI (k))] (by decide) rfl (by decide) rfl dX8_overSamples_62 rfl ml_X8_65 im_X8_placesOf se_X8_placesOf mc_X8_placesOf (by decide) (Nat.le_of_ble_eq_true rfl) (sp_X8_placesOf r w (by omega) ?_)
                refine v_icmpN_ge 124 68 dX8_overSamples_65 (by decide) rfl (by omega) (by omega) (fun h65 => ?_) (fun h65 => ?_)
                · skip
                  refine v_iinc 127 [some (rfv x 40), some (.int (nI (wh))), some (.int (nI (smN k (ovs f wh) + (if wh = 5 ∧ totW f k = 0 then 1 else 0) + smN (nP f k) (ovT f wh k)))), some (.int (nI (k + 1))), some (.int (nI (dW f k))), some (.int (nI (0))), some (.int (nI (nP f k)))] (nI (k + 1)) dX8_overSamples_124 rfl (by decide) rfl (nI_inc _) rfl ?_
                  refine v_goto 4 dX8_overSamples_127 (by decide) ?_
                  refine v_drop [some (rfv x 40), some (.int (nI (wh))), some (.int (nI (smN (k + 1) (ovs f wh)))), some (.int (nI (k + 1))), none, none, none] (by have e9 := ovs_eq w hk hw; simp [lsub, smN_s, ← e9, Nat.add_assoc]) ?_
                  exact ih Lr
                · skip
                  exact absurd h65 (by omega)
              · intro i hi ih2 
                have := pathW_lt (k := k) w i
                have := lkW_lt (k := k) (p := i) w
                refine v_iload 60 rfl dX8_overSamples_58 rfl ?_
                refine v_aload_n 61 rfl dX8_overSamples_60 rfl ?_
                refine v_iload_n 62 rfl dX8_overSamples_61 rfl ?_
                refine v_invV 65 M_X8_placesOf [.int (nI (k))] (by decide) rfl (by decide) rfl dX8_overSamples_62 rfl ml_X8_65 im_X8_placesOf se_X8_placesOf mc_X8_placesOf (by decide) (Nat.le_of_ble_eq_true rfl) (sp_X8_placesOf r w (by omega) ?_)
                refine v_icmpN_ge 124 68 dX8_overSamples_65 (by decide) rfl (by omega) (by omega) (fun h65 => ?_) (fun h65 => ?_)
                · skip
                  exact absurd h65 (by omega)
                · skip
                  refine v_iload_n 69 rfl dX8_overSamples_68 rfl ?_
                  refine v_iload_n 70 rfl dX8_overSamples_69 rfl ?_
                  refine v_iconst 71 (nI (4)) (by decide) dX8_overSamples_70 rfl ?_
                  refine v_icmpN_ne 84 74 dX8_overSamples_71 (by decide) rfl (by omega) (by omega) (fun h71 => ?_) (fun h71 => ?_)
                  · skip
                    refine v_iload_n 85 rfl dX8_overSamples_84 rfl ?_
                    refine v_bipush 87 (nI (6)) (by decide) dX8_overSamples_85 rfl ?_
                    refine v_icmpN_ne 115 90 dX8_overSamples_87 (by decide) rfl (by omega) (by omega) (fun h87 => ?_) (fun h87 => ?_)
                    · skip
                      refine v_iconst 116 (nI (0)) (by decide) dX8_overSamples_115 rfl ?_
                      refine v_iadd 117 (nI ((smN k (ovs f wh) + (if wh = 5 ∧ totW f k = 0 then 1 else 0) + smN i (ovT f wh k)) + 0)) dX8_overSamples_116 rfl (nI_add _ _) ?_
                      refine v_istore_n 118 [some (rfv x 40), some (.int (nI (wh))), some (.int (nI ((smN k (ovs f wh) + (if wh = 5 ∧ totW f k = 0 then 1 else 0) + smN i (ovT f wh k)) + 0))), some (.int (nI (k))), some (.int (nI (dW f k))), some (.int (nI (0))), some (.int (nI (i)))] dX8_overSamples_117 rfl (by decide) rfl ?_
                      refine v_iinc 121 [some (rfv x 40), some (.int (nI (wh))), some (.int (nI ((smN k (ovs f wh) + (if wh = 5 ∧ totW f k = 0 then 1 else 0) + smN i (ovT f wh k)) + 0))), some (.int (nI (k))), some (.int (nI (dW f k))), some (.int (nI (0))), some (.int (nI (i + 1)))] (nI (i + 1)) dX8_overSamples_118 rfl (by decide) rfl (nI_inc _) rfl ?_
                      refine v_goto 58 dX8_overSamples_121 (by decide) ?_
                      refine v_drop [some (rfv x 40), some (.int (nI (wh))), some (.int (nI (smN k (ovs f wh) + (if wh = 5 ∧ totW f k = 0 then 1 else 0) + smN (i + 1) (ovT f wh k)))), some (.int (nI (k))), some (.int (nI (dW f k))), some (.int (nI (0))), some (.int (nI (i + 1)))] (by first | (simp [lsub, smN_s, ovT, h71, Nat.add_assoc]; done) | (simp [lsub, smN_s, ovT, h71, h0, h87, of1, h108, Nat.add_assoc]; done) | (simp [lsub, smN_s, ovT, h71, h0, h87, Nat.add_assoc]; done)) ?_
                      exact ih2
                    · skip
                      refine v_iload 92 rfl dX8_overSamples_90 rfl ?_
                      refine v_ifN_ne 115 95 dX8_overSamples_92 (by decide) rfl (by decide) (fun h => absurd h (by decide)) (fun _ => ?_)
                      refine v_aload_n 96 rfl dX8_overSamples_95 rfl ?_
                      refine v_iload_n 97 rfl dX8_overSamples_96 rfl ?_
                      refine v_iload 99 rfl dX8_overSamples_97 rfl ?_
                      refine v_invV 102 M_X8_bestAt [.int (nI (k)), .int (nI (i))] (by decide) rfl (by decide) rfl dX8_overSamples_99 rfl ml_X8_191 im_X8_bestAt se_X8_bestAt mc_X8_bestAt (by decide) (Nat.le_of_ble_eq_true rfl) (sp_X8_bestAt r w hk um (by omega) ?_)
                      refine v_aload_n 103 rfl dX8_overSamples_102 rfl ?_
                      refine v_iload 105 rfl dX8_overSamples_103 rfl ?_
                      refine v_invV 108 M_X8_likeliestAt [.int (nI (i))] (by decide) rfl (by decide) rfl dX8_overSamples_105 rfl ml_X8_194 im_X8_likeliestAt se_X8_likeliestAt mc_X8_likeliestAt (by decide) (Nat.le_of_ble_eq_true rfl) (sp_X8_likeliestAt r w hk um (by omega) ?_)
                      refine v_icmpN_eq 115 111 dX8_overSamples_108 (by decide) rfl (by omega) (by omega) (fun h108 => ?_) (fun h108 => ?_)
                      · skip
                        refine v_iconst 116 (nI (0)) (by decide) dX8_overSamples_115 rfl ?_
                        refine v_iadd 117 (nI ((smN k (ovs f wh) + (if wh = 5 ∧ totW f k = 0 then 1 else 0) + smN i (ovT f wh k)) + 0)) dX8_overSamples_116 rfl (nI_add _ _) ?_
                        refine v_istore_n 118 [some (rfv x 40), some (.int (nI (wh))), some (.int (nI ((smN k (ovs f wh) + (if wh = 5 ∧ totW f k = 0 then 1 else 0) + smN i (ovT f wh k)) + 0))), some (.int (nI (k))), some (.int (nI (dW f k))), some (.int (nI (0))), some (.int (nI (i)))] dX8_overSamples_117 rfl (by decide) rfl ?_
                        refine v_iinc 121 [some (rfv x 40), some (.int (nI (wh))), some (.int (nI ((smN k (ovs f wh) + (if wh = 5 ∧ totW f k = 0 then 1 else 0) + smN i (ovT f wh k)) + 0))), some (.int (nI (k))), some (.int (nI (dW f k))), some (.int (nI (0))), some (.int (nI (i + 1)))] (nI (i + 1)) dX8_overSamples_118 rfl (by decide) rfl (nI_inc _) rfl ?_
                        refine v_goto 58 dX8_overSamples_121 (by decide) ?_
                        refine v_drop [some (rfv x 40), some (.int (nI (wh))), some (.int (nI (smN k (ovs f wh) + (if wh = 5 ∧ totW f k = 0 then 1 else 0) + smN (i + 1) (ovT f wh k)))), some (.int (nI (k))), some (.int (nI (dW f k))), some (.int (nI (0))), some (.int (nI (i + 1)))] (by first | (simp [lsub, smN_s, ovT, h71, Nat.add_assoc]; done) | (simp [lsub, smN_s, ovT, h71, h0, h87, of1, h108, Nat.add_assoc]; done) | (simp [lsub, smN_s, ovT, h71, h0, h87, Nat.add_assoc]; done)) ?_
                        exact ih2
                      · skip
                        refine v_iconst 112 (nI (1)) (by decide) dX8_overSamples_111 rfl ?_
                        refine v_goto 116 dX8_overSamples_112 (by decide) ?_
                        refine v_iadd 117 (nI ((smN k (ovs f wh) + (if wh = 5 ∧ totW f k = 0 then 1 else 0) + smN i (ovT f wh k)) + 1)) dX8_overSamples_116 rfl (nI_add _ _) ?_
                        refine v_istore_n 118 [some (rfv x 40), some (.int (nI (wh))), some (.int (nI ((smN k (ovs f wh) + (if wh = 5 ∧ totW f k = 0 then 1 else 0) + smN i (ovT f wh k)) + 1))), some (.int (nI (k))), some (.int (nI (dW f k))), some (.int (nI (0))), some (.int (nI (i)))] dX8_overSamples_117 rfl (by decide) rfl ?_
                        refine v_iinc 121 [some (rfv x 40), some (.int (nI (wh))), some (.int (nI ((smN k (ovs f wh) + (if wh = 5 ∧ totW f k = 0 then 1 else 0) + smN i (ovT f wh k)) + 1))), some (.int (nI (k))), some (.int (nI (dW f k))), some (.int (nI (0))), some (.int (nI (i + 1)))] (nI (i + 1)) dX8_overSamples_118 rfl (by decide) rfl (nI_inc _) rfl ?_
                        refine v_goto 58 dX8_overSamples_121 (by decide) ?_
                        refine v_drop [some (rfv x 40), some (.int (nI (wh))), some (.int (nI (smN k (ovs f wh) + (if wh = 5 ∧ totW f k = 0 then 1 else 0) + smN (i + 1) (ovT f wh k)))), some (.int (nI (k))), some (.int (nI (dW f k))), some (.int (nI (0))), some (.int (nI (i + 1)))] (by first | (simp [lsub, smN_s, ovT, h71, Nat.add_assoc]; done) | (simp [lsub, smN_s, ovT, h71, h0, h87, of1, h108, Nat.add_assoc]; done) | (simp [lsub, smN_s, ovT, h71, h0, h87, Nat.add_assoc]; done)) ?_
                        exact ih2
                  · skip
                    refine v_iload 76 rfl dX8_overSamples_74 rfl ?_
                    refine v_iload 78 rfl dX8_overSamples_76 rfl ?_
                    refine v_ishr 79 (nI (dW f k / 2 ^ i)) dX8_overSamples_78 rfl (shr_n (dW_128 w hk) (by omega)) ?_
                    refine v_iconst 80 (nI (1)) (by decide) dX8_overSamples_79 rfl ?_
                    refine v_iand 81 (nI (dW f k / 2 ^ i % 2)) dX8_overSamples_80 rfl (and_1 (Nat.lt_of_le_of_lt (Nat.div_le_self _ _) (dW_128 w hk))) ?_
                    refine v_goto 116 dX8_overSamples_81 (by decide) ?_
                    refine v_iadd 117 (nI ((smN k (ovs f wh) + (if wh = 5 ∧ totW f k = 0 then 1 else 0) + smN i (ovT f wh k)) + (dW f k / 2 ^ i % 2))) dX8_overSamples_116 rfl (nI_add _ _) ?_
                    refine v_istore_n 118 [some (rfv x 40), some (.int (nI (wh))), some (.int (nI ((smN k (ovs f wh) + (if wh = 5 ∧ totW f k = 0 then 1 else 0) + smN i (ovT f wh k)) + (dW f k / 2 ^ i % 2)))), some (.int (nI (k))), some (.int (nI (dW f k))), some (.int (nI (0))), some (.int (nI (i)))] dX8_overSamples_117 rfl (by decide) rfl ?_
                    refine v_iinc 121 [some (rfv x 40), some (.int (nI (wh))), some (.int (nI ((smN k (ovs f wh) + (if wh = 5 ∧ totW f k = 0 then 1 else 0) + smN i (ovT f wh k)) + (dW f k / 2 ^ i % 2)))), some (.int (nI (k))), some (.int (nI (dW f k))), some (.int (nI (0))), some (.int (nI (i + 1)))] (nI (i + 1)) dX8_overSamples_118 rfl (by decide) rfl (nI_inc _) rfl ?_
                    refine v_goto 58 dX8_overSamples_121 (by decide) ?_
                    refine v_drop [some (rfv x 40), some (.int (nI (wh))), some (.int (nI (smN k (ovs f wh) + (if wh = 5 ∧ totW f k = 0 then 1 else 0) + smN (i + 1) (ovT f wh k)))), some (.int (nI (k))), some (.int (nI (dW f k))), some (.int (nI (0))), some (.int (nI (i + 1)))] (by first | (simp [lsub, smN_s, ovT, h71, Nat.add_assoc]; done) | (simp [lsub, smN_s, ovT, h71, h0, h87, of1, h108, Nat.add_assoc]; done) | (simp [lsub, smN_s, ovT, h71, h0, h87, Nat.add_assoc]; done)) ?_
                    exact ih2
            refine v_drop [some (rfv x 40), some (.int (nI (wh))), some (.int (nI (smN k (ovs f wh) + (if wh = 5 ∧ totW f k = 0 then 1 else 0) + smN 0 (ovT f wh k)))), some (.int (nI (k))), some (.int (nI (dW f k))), some (.int (nI (0))), some (.int (nI (0)))] (by first | (simp [lsub, smN, h0, h40]; done)) ?_
            exact lq 0 (Nat.zero_le _)
          · skip
            refine v_iload 45 rfl dX8_overSamples_43 rfl ?_
            refine v_ifN_eq 52 48 dX8_overSamples_45 (by decide) rfl (by decide) (fun _ => ?_) (fun h => absurd h (by decide))
            refine v_iconst 53 (nI (0)) (by decide) dX8_overSamples_52 rfl ?_
            refine v_iadd 54 (nI ((smN k (ovs f wh)) + 0)) dX8_overSamples_53 rfl (nI_add _ _) ?_
            refine v_istore_n 55 [some (rfv x 40), some (.int (nI (wh))), some (.int (nI ((smN k (ovs f wh)) + 0))), some (.int (nI (k))), some (.int (nI (dW f k))), some (.int (nI (0))), none] dX8_overSamples_54 rfl (by decide) rfl ?_
            refine v_iconst 56 (nI (0)) (by decide) dX8_overSamples_55 rfl ?_
            refine v_istore 58 [some (rfv x 40), some (.int (nI (wh))), some (.int (nI ((smN k (ovs f wh)) + 0))), some (.int (nI (k))), some (.int (nI (dW f k))), some (.int (nI (0))), some (.int (nI (0)))] dX8_overSamples_56 rfl (by decide) rfl ?_
            have lq : ∀ i, i ≤ nP f k → V x M_X8_overSamples Q 58 [some (rfv x 40), some (.int (nI (wh))), some (.int (nI (smN k (ovs f wh) + (if wh = 5 ∧ totW f k = 0 then 1 else 0) + smN i (ovT f wh k)))), some (.int (nI (k))), some (.int (nI (dW f k))), some (.int (nI (0))), some (.int (nI (i)))] [] I Lr P := by
              refine lpU ?_ ?_
              · skip
                refine v_iload 60 rfl dX8_overSamples_58 rfl ?_
                refine v_aload_n 61 rfl dX8_overSamples_60 rfl ?_
                refine v_iload_n 62 rfl dX8_overSamples_61 rfl ?_
                refine v_invV 65 M_X8_placesOf [.int (nI (k))] (by decide) rfl (by decide) rfl dX8_overSamples_62 rfl ml_X8_65 im_X8_placesOf se_X8_placesOf mc_X8_placesOf (by decide) (Nat.le_of_ble_eq_true rfl) (sp_X8_placesOf r w (by omega) ?_)
                refine v_icmpN_ge 124 68 dX8_overSamples_65 (by decide) rfl (by omega) (by omega) (fun h65 => ?_) (fun h65 => ?_)
                · skip
                  refine v_iinc 127 [some (rfv x 40), some (.int (nI (wh))), some (.int (nI (smN k (ovs f wh) + (if wh = 5 ∧ totW f k = 0 then 1 else 0) + smN (nP f k) (ovT f wh k)))), some (.int (nI (k + 1))), some (.int (nI (dW f k))), some (.int (nI (0))), some (.int (nI (nP f k)))] (nI (k + 1)) dX8_overSamples_124 rfl (by decide) rfl (nI_inc _) rfl ?_
                  refine v_goto 4 dX8_overSamples_127 (by decide) ?_
                  refine v_drop [some (rfv x 40), some (.int (nI (wh))), some (.int (nI (smN (k + 1) (ovs f wh)))), some (.int (nI (k + 1))), none, none, none] (by have e9 := ovs_eq w hk hw; simp [lsub, smN_s, ← e9, Nat.add_assoc]) ?_
                  exact ih Lr
                · skip
                  exact absurd h65 (by omega)
              · intro i hi ih2 
                have := pathW_lt (k := k) w i
                have := lkW_lt (k := k) (p := i) w
                refine v_iload 60 rfl dX8_overSamples_58 rfl ?_
                refine v_aload_n 61 rfl dX8_overSamples_60 rfl ?_
                refine v_iload_n 62 rfl dX8_overSamples_61 rfl ?_
                refine v_invV 65 M_X8_placesOf [.int (nI (k))] (by decide) rfl (by decide) rfl dX8_overSamples_62 rfl ml_X8_65 im_X8_placesOf se_X8_placesOf mc_X8_placesOf (by decide) (Nat.le_of_ble_eq_true rfl) (sp_X8_placesOf r w (by omega) ?_)
                refine v_icmpN_ge 124 68 dX8_overSamples_65 (by decide) rfl (by omega) (by omega) (fun h65 => ?_) (fun h65 => ?_)
                · skip
                  exact absurd h65 (by omega)
                · skip
                  refine v_iload_n 69 rfl dX8_overSamples_68 rfl ?_
                  refine v_iload_n 70 rfl dX8_overSamples_69 rfl ?_
                  refine v_iconst 71 (nI (4)) (by decide) dX8_overSamples_70 rfl ?_
                  refine v_icmpN_ne 84 74 dX8_overSamples_71 (by decide) rfl (by omega) (by omega) (fun h71 => ?_) (fun h71 => ?_)
                  · skip
                    refine v_iload_n 85 rfl dX8_overSamples_84 rfl ?_
                    refine v_bipush 87 (nI (6)) (by decide) dX8_overSamples_85 rfl ?_
                    refine v_icmpN_ne 115 90 dX8_overSamples_87 (by decide) rfl (by omega) (by omega) (fun h87 => ?_) (fun h87 => ?_)
                    · skip
                      refine v_iconst 116 (nI (0)) (by decide) dX8_overSamples_115 rfl ?_
                      refine v_iadd 117 (nI ((smN k (ovs f wh) + (if wh = 5 ∧ totW f k = 0 then 1 else 0) + smN i (ovT f wh k)) + 0)) dX8_overSamples_116 rfl (nI_add _ _) ?_
                      refine v_istore_n 118 [some (rfv x 40), some (.int (nI (wh))), some (.int (nI ((smN k (ovs f wh) + (if wh = 5 ∧ totW f k = 0 then 1 else 0) + smN i (ovT f wh k)) + 0))), some (.int (nI (k))), some (.int (nI (dW f k))), some (.int (nI (0))), some (.int (nI (i)))] dX8_overSamples_117 rfl (by decide) rfl ?_
                      refine v_iinc 121 [some (rfv x 40), some (.int (nI (wh))), some (.int (nI ((smN k (ovs f wh) + (if wh = 5 ∧ totW f k = 0 then 1 else 0) + smN i (ovT f wh k)) + 0))), some (.int (nI (k))), some (.int (nI (dW f k))), some (.int (nI (0))), some (.int (nI (i + 1)))] (nI (i + 1)) dX8_overSamples_118 rfl (by decide) rfl (nI_inc _) rfl ?_
                      refine v_goto 58 dX8_overSamples_121 (by decide) ?_
                      refine v_drop [some (rfv x 40), some (.int (nI (wh))), some (.int (nI (smN k (ovs f wh) + (if wh = 5 ∧ totW f k = 0 then 1 else 0) + smN (i + 1) (ovT f wh k)))), some (.int (nI (k))), some (.int (nI (dW f k))), some (.int (nI (0))), some (.int (nI (i + 1)))] (by first | (simp [lsub, smN_s, ovT, h71, Nat.add_assoc]; done) | (simp [lsub, smN_s, ovT, h71, h0, h87, of1, h108, Nat.add_assoc]; done) | (simp [lsub, smN_s, ovT, h71, h0, h87, Nat.add_assoc]; done)) ?_
                      exact ih2
                    · skip
                      refine v_iload 92 rfl dX8_overSamples_90 rfl ?_
                      refine v_ifN_ne 115 95 dX8_overSamples_92 (by decide) rfl (by decide) (fun h => absurd h (by decide)) (fun _ => ?_)
                      refine v_aload_n 96 rfl dX8_overSamples_95 rfl ?_
                      refine v_iload_n 97 rfl dX8_overSamples_96 rfl ?_
                      refine v_iload 99 rfl dX8_overSamples_97 rfl ?_
                      refine v_invV 102 M_X8_bestAt [.int (nI (k)), .int (nI (i))] (by decide) rfl (by decide) rfl dX8_overSamples_99 rfl ml_X8_191 im_X8_bestAt se_X8_bestAt mc_X8_bestAt (by decide) (Nat.le_of_ble_eq_true rfl) (sp_X8_bestAt r w hk um (by omega) ?_)
                      refine v_aload_n 103 rfl dX8_overSamples_102 rfl ?_
                      refine v_iload 105 rfl dX8_overSamples_103 rfl ?_
                      refine v_invV 108 M_X8_likeliestAt [.int (nI (i))] (by decide) rfl (by decide) rfl dX8_overSamples_105 rfl ml_X8_194 im_X8_likeliestAt se_X8_likeliestAt mc_X8_likeliestAt (by decide) (Nat.le_of_ble_eq_true rfl) (sp_X8_likeliestAt r w hk um (by omega) ?_)
                      refine v_icmpN_eq 115 111 dX8_overSamples_108 (by decide) rfl (by omega) (by omega) (fun h108 => ?_) (fun h108 => ?_)
                      · skip
                        refine v_iconst 116 (nI (0)) (by decide) dX8_overSamples_115 rfl ?_
                        refine v_iadd 117 (nI ((smN k (ovs f wh) + (if wh = 5 ∧ totW f k = 0 then 1 else 0) + smN i (ovT f wh k)) + 0)) dX8_overSamples_116 rfl (nI_add _ _) ?_
                        refine v_istore_n 118 [some (rfv x 40), some (.int (nI (wh))), some (.int (nI ((smN k (ovs f wh) + (if wh = 5 ∧ totW f k = 0 then 1 else 0) + smN i (ovT f wh k)) + 0))), some (.int (nI (k))), some (.int (nI (dW f k))), some (.int (nI (0))), some (.int (nI (i)))] dX8_overSamples_117 rfl (by decide) rfl ?_
                        refine v_iinc 121 [some (rfv x 40), some (.int (nI (wh))), some (.int (nI ((smN k (ovs f wh) + (if wh = 5 ∧ totW f k = 0 then 1 else 0) + smN i (ovT f wh k)) + 0))), some (.int (nI (k))), some (.int (nI (dW f k))), some (.int (nI (0))), some (.int (nI (i + 1)))] (nI (i + 1)) dX8_overSamples_118 rfl (by decide) rfl (nI_inc _) rfl ?_
                        refine v_goto 58 dX8_overSamples_121 (by decide) ?_
                        refine v_drop [some (rfv x 40), some (.int (nI (wh))), some (.int (nI (smN k (ovs f wh) + (if wh = 5 ∧ totW f k = 0 then 1 else 0) + smN (i + 1) (ovT f wh k)))), some (.int (nI (k))), some (.int (nI (dW f k))), some (.int (nI (0))), some (.int (nI (i + 1)))] (by first | (simp [lsub, smN_s, ovT, h71, Nat.add_assoc]; done) | (simp [lsub, smN_s, ovT, h71, h0, h87, of1, h108, Nat.add_assoc]; done) | (simp [lsub, smN_s, ovT, h71, h0, h87, Nat.add_assoc]; done)) ?_
                        exact ih2
                      · skip
                        refine v_iconst 112 (nI (1)) (by decide) dX8_overSamples_111 rfl ?_
                        refine v_goto 116 dX8_overSamples_112 (by decide) ?_
                        refine v_iadd 117 (nI ((smN k (ovs f wh) + (if wh = 5 ∧ totW f k = 0 then 1 else 0) + smN i (ovT f wh k)) + 1)) dX8_overSamples_116 rfl (nI_add _ _) ?_
                        refine v_istore_n 118 [some (rfv x 40), some (.int (nI (wh))), some (.int (nI ((smN k (ovs f wh) + (if wh = 5 ∧ totW f k = 0 then 1 else 0) + smN i (ovT f wh k)) + 1))), some (.int (nI (k))), some (.int (nI (dW f k))), some (.int (nI (0))), some (.int (nI (i)))] dX8_overSamples_117 rfl (by decide) rfl ?_
                        refine v_iinc 121 [some (rfv x 40), some (.int (nI (wh))), some (.int (nI ((smN k (ovs f wh) + (if wh = 5 ∧ totW f k = 0 then 1 else 0) + smN i (ovT f wh k)) + 1))), some (.int (nI (k))), some (.int (nI (dW f k))), some (.int (nI (0))), some (.int (nI (i + 1)))] (nI (i + 1)) dX8_overSamples_118 rfl (by decide) rfl (nI_inc _) rfl ?_
                        refine v_goto 58 dX8_overSamples_121 (by decide) ?_
                        refine v_drop [some (rfv x 40), some (.int (nI (wh))), some (.int (nI (smN k (ovs f wh) + (if wh = 5 ∧ totW f k = 0 then 1 else 0) + smN (i + 1) (ovT f wh k)))), some (.int (nI (k))), some (.int (nI (dW f k))), some (.int (nI (0))), some (.int (nI (i + 1)))] (by first | (simp [lsub, smN_s, ovT, h71, Nat.add_assoc]; done) | (simp [lsub, smN_s, ovT, h71, h0, h87, of1, h108, Nat.add_assoc]; done) | (simp [lsub, smN_s, ovT, h71, h0, h87, Nat.add_assoc]; done)) ?_
                        exact ih2
                  · skip
                    refine v_iload 76 rfl dX8_overSamples_74 rfl ?_
                    refine v_iload 78 rfl dX8_overSamples_76 rfl ?_
                    refine v_ishr 79 (nI (dW f k / 2 ^ i)) dX8_overSamples_78 rfl (shr_n (dW_128 w hk) (by omega)) ?_
                    refine v_iconst 80 (nI (1)) (by decide) dX8_overSamples_79 rfl ?_
                    refine v_iand 81 (nI (dW f k / 2 ^ i % 2)) dX8_overSamples_80 rfl (and_1 (Nat.lt_of_le_of_lt (Nat.div_le_self _ _) (dW_128 w hk))) ?_
                    refine v_goto 116 dX8_overSamples_81 (by decide) ?_
                    refine v_iadd 117 (nI ((smN k (ovs f wh) + (if wh = 5 ∧ totW f k = 0 then 1 else 0) + smN i (ovT f wh k)) + (dW f k / 2 ^ i % 2))) dX8_overSamples_116 rfl (nI_add _ _) ?_
                    refine v_istore_n 118 [some (rfv x 40), some (.int (nI (wh))), some (.int (nI ((smN k (ovs f wh) + (if wh = 5 ∧ totW f k = 0 then 1 else 0) + smN i (ovT f wh k)) + (dW f k / 2 ^ i % 2)))), some (.int (nI (k))), some (.int (nI (dW f k))), some (.int (nI (0))), some (.int (nI (i)))] dX8_overSamples_117 rfl (by decide) rfl ?_
                    refine v_iinc 121 [some (rfv x 40), some (.int (nI (wh))), some (.int (nI ((smN k (ovs f wh) + (if wh = 5 ∧ totW f k = 0 then 1 else 0) + smN i (ovT f wh k)) + (dW f k / 2 ^ i % 2)))), some (.int (nI (k))), some (.int (nI (dW f k))), some (.int (nI (0))), some (.int (nI (i + 1)))] (nI (i + 1)) dX8_overSamples_118 rfl (by decide) rfl (nI_inc _) rfl ?_
                    refine v_goto 58 dX8_overSamples_121 (by decide) ?_
                    refine v_drop [some (rfv x 40), some (.int (nI (wh))), some (.int (nI (smN k (ovs f wh) + (if wh = 5 ∧ totW f k = 0 then 1 else 0) + smN (i + 1) (ovT f wh k)))), some (.int (nI (k))), some (.int (nI (dW f k))), some (.int (nI (0))), some (.int (nI (i + 1)))] (by first | (simp [lsub, smN_s, ovT, h71, Nat.add_assoc]; done) | (simp [lsub, smN_s, ovT, h71, h0, h87, of1, h108, Nat.add_assoc]; done) | (simp [lsub, smN_s, ovT, h71, h0, h87, Nat.add_assoc]; done)) ?_
                    exact ih2
            refine v_drop [some (rfv x 40), some (.int (nI (wh))), some (.int (nI (smN k (ovs f wh) + (if wh = 5 ∧ totW f k = 0 then 1 else 0) + smN 0 (ovT f wh k)))), some (.int (nI (k))), some (.int (nI (dW f k))), some (.int (nI (0))), some (.int (nI (0)))] (by first | (simp [lsub, smN, h0, h40]; done)) ?_
            exact lq 0 (Nat.zero_le _)
        · skip
          have h0 : totW f k = 0 := (pk_lEQ (by omega) (by decide)).mp h26
          refine v_iconst 31 (nI (1)) (by decide) dX8_overSamples_30 rfl ?_
          refine v_goto 35 dX8_overSamples_31 (by decide) ?_
          refine v_istore 37 [some (rfv x 40), some (.int (nI (wh))), some (.int (nI (smN k (ovs f wh)))), some (.int (nI (k))), some (.int (nI (dW f k))), some (.int (nI (1))), none] dX8_overSamples_35 rfl (by decide) rfl ?_
          refine v_iload_n 38 rfl dX8_overSamples_37 rfl ?_
          refine v_iload_n 39 rfl dX8_overSamples_38 rfl ?_
          refine v_iconst 40 (nI (5)) (by decide) dX8_overSamples_39 rfl ?_
          refine v_icmpN_ne 52 43 dX8_overSamples_40 (by decide) rfl (by omega) (by omega) (fun h40 => ?_) (fun h40 => ?_)
          · skip
            refine v_iconst 53 (nI (0)) (by decide) dX8_overSamples_52 rfl ?_
            refine v_iadd 54 (nI ((smN k (ovs f wh)) + 0)) dX8_overSamples_53 rfl (nI_add _ _) ?_
            refine v_istore_n 55 [some (rfv x 40), some (.int (nI (wh))), some (.int (nI ((smN k (ovs f wh)) + 0))), some (.int (nI (k))), some (.int (nI (dW f k))), some (.int (nI (1))), none] dX8_overSamples_54 rfl (by decide) rfl ?_
            refine v_iconst 56 (nI (0)) (by decide) dX8_overSamples_55 rfl ?_
            refine v_istore 58 [some (rfv x 40), some (.int (nI (wh))), some (.int (nI ((smN k (ovs f wh)) + 0))), some (.int (nI (k))), some (.int (nI (dW f k))), some (.int (nI (1))), some (.int (nI (0)))] dX8_overSamples_56 rfl (by decide) rfl ?_
            have lq : ∀ i, i ≤ nP f k → V x M_X8_overSamples Q 58 [some (rfv x 40), some (.int (nI (wh))), some (.int (nI (smN k (ovs f wh) + (if wh = 5 ∧ totW f k = 0 then 1 else 0) + smN i (ovT f wh k)))), some (.int (nI (k))), some (.int (nI (dW f k))), some (.int (nI (1))), some (.int (nI (i)))] [] I Lr P := by
              refine lpU ?_ ?_
              · skip
                refine v_iload 60 rfl dX8_overSamples_58 rfl ?_
                refine v_aload_n 61 rfl dX8_overSamples_60 rfl ?_
                refine v_iload_n 62 rfl dX8_overSamples_61 rfl ?_
                refine v_invV 65 M_X8_placesOf [.int (nI (k))] (by decide) rfl (by decide) rfl dX8_overSamples_62 rfl ml_X8_65 im_X8_placesOf se_X8_placesOf mc_X8_placesOf (by decide) (Nat.le_of_ble_eq_true rfl) (sp_X8_placesOf r w (by omega) ?_)
                refine v_icmpN_ge 124 68 dX8_overSamples_65 (by decide) rfl (by omega) (by omega) (fun h65 => ?_) (fun h65 => ?_)
                · skip
                  refine v_iinc 127 [some (rfv x 40), some (.int (nI (wh))), some (.int (nI (smN k (ovs f wh) + (if wh = 5 ∧ totW f k = 0 then 1 else 0) + smN (nP f k) (ovT f wh k)))), some (.int (nI (k + 1))), some (.int (nI (dW f k))), some (.int (nI (1))), some (.int (nI (nP f k)))] (nI (k + 1)) dX8_overSamples_124 rfl (by decide) rfl (nI_inc _) rfl ?_
                  refine v_goto 4 dX8_overSamples_127 (by decide) ?_
                  refine v_drop [some (rfv x 40), some (.int (nI (wh))), some (.int (nI (smN (k + 1) (ovs f wh)))), some (.int (nI (k + 1))), none, none, none] (by have e9 := ovs_eq w hk hw; simp [lsub, smN_s, ← e9, Nat.add_assoc]) ?_
                  exact ih Lr
                · skip
                  exact absurd h65 (by omega)
              · intro i hi ih2 
                have := pathW_lt (k := k) w i
                have := lkW_lt (k := k) (p := i) w
                refine v_iload 60 rfl dX8_overSamples_58 rfl ?_
                refine v_aload_n 61 rfl dX8_overSamples_60 rfl ?_
                refine v_iload_n 62 rfl dX8_overSamples_61 rfl ?_
                refine v_invV 65 M_X8_placesOf [.int (nI (k))] (by decide) rfl (by decide) rfl dX8_overSamples_62 rfl ml_X8_65 im_X8_placesOf se_X8_placesOf mc_X8_placesOf (by decide) (Nat.le_of_ble_eq_true rfl) (sp_X8_placesOf r w (by omega) ?_)
                refine v_icmpN_ge 124 68 dX8_overSamples_65 (by decide) rfl (by omega) (by omega) (fun h65 => ?_) (fun h65 => ?_)
                · skip
                  exact absurd h65 (by omega)
                · skip
                  refine v_iload_n 69 rfl dX8_overSamples_68 rfl ?_
                  refine v_iload_n 70 rfl dX8_overSamples_69 rfl ?_
                  refine v_iconst 71 (nI (4)) (by decide) dX8_overSamples_70 rfl ?_
                  refine v_icmpN_ne 84 74 dX8_overSamples_71 (by decide) rfl (by omega) (by omega) (fun h71 => ?_) (fun h71 => ?_)
                  · skip
                    refine v_iload_n 85 rfl dX8_overSamples_84 rfl ?_
                    refine v_bipush 87 (nI (6)) (by decide) dX8_overSamples_85 rfl ?_
                    refine v_icmpN_ne 115 90 dX8_overSamples_87 (by decide) rfl (by omega) (by omega) (fun h87 => ?_) (fun h87 => ?_)
                    · skip
                      refine v_iconst 116 (nI (0)) (by decide) dX8_overSamples_115 rfl ?_
                      refine v_iadd 117 (nI ((smN k (ovs f wh) + (if wh = 5 ∧ totW f k = 0 then 1 else 0) + smN i (ovT f wh k)) + 0)) dX8_overSamples_116 rfl (nI_add _ _) ?_
                      refine v_istore_n 118 [some (rfv x 40), some (.int (nI (wh))), some (.int (nI ((smN k (ovs f wh) + (if wh = 5 ∧ totW f k = 0 then 1 else 0) + smN i (ovT f wh k)) + 0))), some (.int (nI (k))), some (.int (nI (dW f k))), some (.int (nI (1))), some (.int (nI (i)))] dX8_overSamples_117 rfl (by decide) rfl ?_
                      refine v_iinc 121 [some (rfv x 40), some (.int (nI (wh))), some (.int (nI ((smN k (ovs f wh) + (if wh = 5 ∧ totW f k = 0 then 1 else 0) + smN i (ovT f wh k)) + 0))), some (.int (nI (k))), some (.int (nI (dW f k))), some (.int (nI (1))), some (.int (nI (i + 1)))] (nI (i + 1)) dX8_overSamples_118 rfl (by decide) rfl (nI_inc _) rfl ?_
                      refine v_goto 58 dX8_overSamples_121 (by decide) ?_
                      refine v_drop [some (rfv x 40), some (.int (nI (wh))), some (.int (nI (smN k (ovs f wh) + (if wh = 5 ∧ totW f k = 0 then 1 else 0) + smN (i + 1) (ovT f wh k)))), some (.int (nI (k))), some (.int (nI (dW f k))), some (.int (nI (1))), some (.int (nI (i + 1)))] (by first | (simp [lsub, smN_s, ovT, h71, Nat.add_assoc]; done) | (simp [lsub, smN_s, ovT, h71, h0, h87, of1, h108, Nat.add_assoc]; done) | (simp [lsub, smN_s, ovT, h71, h0, h87, Nat.add_assoc]; done)) ?_
                      exact ih2
                    · skip
                      refine v_iload 92 rfl dX8_overSamples_90 rfl ?_
                      refine v_ifN_ne 115 95 dX8_overSamples_92 (by decide) rfl (by decide) (fun _ => ?_) (fun h => absurd h (by decide))
                      refine v_iconst 116 (nI (0)) (by decide) dX8_overSamples_115 rfl ?_
                      refine v_iadd 117 (nI ((smN k (ovs f wh) + (if wh = 5 ∧ totW f k = 0 then 1 else 0) + smN i (ovT f wh k)) + 0)) dX8_overSamples_116 rfl (nI_add _ _) ?_
                      refine v_istore_n 118 [some (rfv x 40), some (.int (nI (wh))), some (.int (nI ((smN k (ovs f wh) + (if wh = 5 ∧ totW f k = 0 then 1 else 0) + smN i (ovT f wh k)) + 0))), some (.int (nI (k))), some (.int (nI (dW f k))), some (.int (nI (1))), some (.int (nI (i)))] dX8_overSamples_117 rfl (by decide) rfl ?_
                      refine v_iinc 121 [some (rfv x 40), some (.int (nI (wh))), some (.int (nI ((smN k (ovs f wh) + (if wh = 5 ∧ totW f k = 0 then 1 else 0) + smN i (ovT f wh k)) + 0))), some (.int (nI (k))), some (.int (nI (dW f k))), some (.int (nI (1))), some (.int (nI (i + 1)))] (nI (i + 1)) dX8_overSamples_118 rfl (by decide) rfl (nI_inc _) rfl ?_
                      refine v_goto 58 dX8_overSamples_121 (by decide) ?_
                      refine v_drop [some (rfv x 40), some (.int (nI (wh))), some (.int (nI (smN k (ovs f wh) + (if wh = 5 ∧ totW f k = 0 then 1 else 0) + smN (i + 1) (ovT f wh k)))), some (.int (nI (k))), some (.int (nI (dW f k))), some (.int (nI (1))), some (.int (nI (i + 1)))] (by first | (simp [lsub, smN_s, ovT, h71, Nat.add_assoc]; done) | (simp [lsub, smN_s, ovT, h71, h0, h87, of1, h108, Nat.add_assoc]; done) | (simp [lsub, smN_s, ovT, h71, h0, h87, Nat.add_assoc]; done)) ?_
                      exact ih2
                  · skip
                    refine v_iload 76 rfl dX8_overSamples_74 rfl ?_
                    refine v_iload 78 rfl dX8_overSamples_76 rfl ?_
                    refine v_ishr 79 (nI (dW f k / 2 ^ i)) dX8_overSamples_78 rfl (shr_n (dW_128 w hk) (by omega)) ?_
                    refine v_iconst 80 (nI (1)) (by decide) dX8_overSamples_79 rfl ?_
                    refine v_iand 81 (nI (dW f k / 2 ^ i % 2)) dX8_overSamples_80 rfl (and_1 (Nat.lt_of_le_of_lt (Nat.div_le_self _ _) (dW_128 w hk))) ?_
                    refine v_goto 116 dX8_overSamples_81 (by decide) ?_
                    refine v_iadd 117 (nI ((smN k (ovs f wh) + (if wh = 5 ∧ totW f k = 0 then 1 else 0) + smN i (ovT f wh k)) + (dW f k / 2 ^ i % 2))) dX8_overSamples_116 rfl (nI_add _ _) ?_
                    refine v_istore_n 118 [some (rfv x 40), some (.int (nI (wh))), some (.int (nI ((smN k (ovs f wh) + (if wh = 5 ∧ totW f k = 0 then 1 else 0) + smN i (ovT f wh k)) + (dW f k / 2 ^ i % 2)))), some (.int (nI (k))), some (.int (nI (dW f k))), some (.int (nI (1))), some (.int (nI (i)))] dX8_overSamples_117 rfl (by decide) rfl ?_
                    refine v_iinc 121 [some (rfv x 40), some (.int (nI (wh))), some (.int (nI ((smN k (ovs f wh) + (if wh = 5 ∧ totW f k = 0 then 1 else 0) + smN i (ovT f wh k)) + (dW f k / 2 ^ i % 2)))), some (.int (nI (k))), some (.int (nI (dW f k))), some (.int (nI (1))), some (.int (nI (i + 1)))] (nI (i + 1)) dX8_overSamples_118 rfl (by decide) rfl (nI_inc _) rfl ?_
                    refine v_goto 58 dX8_overSamples_121 (by decide) ?_
                    refine v_drop [some (rfv x 40), some (.int (nI (wh))), some (.int (nI (smN k (ovs f wh) + (if wh = 5 ∧ totW f k = 0 then 1 else 0) + smN (i + 1) (ovT f wh k)))), some (.int (nI (k))), some (.int (nI (dW f k))), some (.int (nI (1))), some (.int (nI (i + 1)))] (by first | (simp [lsub, smN_s, ovT, h71, Nat.add_assoc]; done) | (simp [lsub, smN_s, ovT, h71, h0, h87, of1, h108, Nat.add_assoc]; done) | (simp [lsub, smN_s, ovT, h71, h0, h87, Nat.add_assoc]; done)) ?_
                    exact ih2
            refine v_drop [some (rfv x 40), some (.int (nI (wh))), some (.int (nI (smN k (ovs f wh) + (if wh = 5 ∧ totW f k = 0 then 1 else 0) + smN 0 (ovT f wh k)))), some (.int (nI (k))), some (.int (nI (dW f k))), some (.int (nI (1))), some (.int (nI (0)))] (by first | (simp [lsub, smN, h0, h40]; done)) ?_
            exact lq 0 (Nat.zero_le _)
          · skip
            refine v_iload 45 rfl dX8_overSamples_43 rfl ?_
            refine v_ifN_eq 52 48 dX8_overSamples_45 (by decide) rfl (by decide) (fun h => absurd h (by decide)) (fun _ => ?_)
            refine v_iconst 49 (nI (1)) (by decide) dX8_overSamples_48 rfl ?_
            refine v_goto 53 dX8_overSamples_49 (by decide) ?_
            refine v_iadd 54 (nI ((smN k (ovs f wh)) + 1)) dX8_overSamples_53 rfl (nI_add _ _) ?_
            refine v_istore_n 55 [some (rfv x 40), some (.int (nI (wh))), some (.int (nI ((smN k (ovs f wh)) + 1))), some (.int (nI (k))), some (.int (nI (dW f k))), some (.int (nI (1))), none] dX8_overSamples_54 rfl (by decide) rfl ?_
            refine v_iconst 56 (nI (0)) (by decide) dX8_overSamples_55 rfl ?_
            refine v_istore 58 [some (rfv x 40), some (.int (nI (wh))), some (.int (nI ((smN k (ovs f wh)) + 1))), some (.int (nI (k))), some (.int (nI (dW f k))), some (.int (nI (1))), some (.int (nI (0)))] dX8_overSamples_56 rfl (by decide) rfl ?_
            have lq : ∀ i, i ≤ nP f k → V x M_X8_overSamples Q 58 [some (rfv x 40), some (.int (nI (wh))), some (.int (nI (smN k (ovs f wh) + (if wh = 5 ∧ totW f k = 0 then 1 else 0) + smN i (ovT f wh k)))), some (.int (nI (k))), some (.int (nI (dW f k))), some (.int (nI (1))), some (.int (nI (i)))] [] I Lr P := by
              refine lpU ?_ ?_
              · skip
                refine v_iload 60 rfl dX8_overSamples_58 rfl ?_
                refine v_aload_n 61 rfl dX8_overSamples_60 rfl ?_
                refine v_iload_n 62 rfl dX8_overSamples_61 rfl ?_
                refine v_invV 65 M_X8_placesOf [.int (nI (k))] (by decide) rfl (by decide) rfl dX8_overSamples_62 rfl ml_X8_65 im_X8_placesOf se_X8_placesOf mc_X8_placesOf (by decide) (Nat.le_of_ble_eq_true rfl) (sp_X8_placesOf r w (by omega) ?_)
                refine v_icmpN_ge 124 68 dX8_overSamples_65 (by decide) rfl (by omega) (by omega) (fun h65 => ?_) (fun h65 => ?_)
                · skip
                  refine v_iinc 127 [some (rfv x 40), some (.int (nI (wh))), some (.int (nI (smN k (ovs f wh) + (if wh = 5 ∧ totW f k = 0 then 1 else 0) + smN (nP f k) (ovT f wh k)))), some (.int (nI (k + 1))), some (.int (nI (dW f k))), some (.int (nI (1))), some (.int (nI (nP f k)))] (nI (k + 1)) dX8_overSamples_124 rfl (by decide) rfl (nI_inc _) rfl ?_
                  refine v_goto 4 dX8_overSamples_127 (by decide) ?_
                  refine v_drop [some (rfv x 40), some (.int (nI (wh))), some (.int (nI (smN (k + 1) (ovs f wh)))), some (.int (nI (k + 1))), none, none, none] (by have e9 := ovs_eq w hk hw; simp [lsub, smN_s, ← e9, Nat.add_assoc]) ?_
                  exact ih Lr
                · skip
                  exact absurd h65 (by omega)
              · intro i hi ih2 
                have := pathW_lt (k := k) w i
                have := lkW_lt (k := k) (p := i) w
                refine v_iload 60 rfl dX8_overSamples_58 rfl ?_
                refine v_aload_n 61 rfl dX8_overSamples_60 rfl ?_
                refine v_iload_n 62 rfl dX8_overSamples_61 rfl ?_
                refine v_invV 65 M_X8_placesOf [.int (nI (k))] (by decide) rfl (by decide) rfl dX8_overSamples_62 rfl ml_X8_65 im_X8_placesOf se_X8_placesOf mc_X8_placesOf (by decide) (Nat.le_of_ble_eq_true rfl) (sp_X8_placesOf r w (by omega) ?_)
                refine v_icmpN_ge 124 68 dX8_overSamples_65 (by decide) rfl (by omega) (by omega) (fun h65 => ?_) (fun h65 => ?_)
                · skip
                  exact absurd h65 (by omega)
                · skip
                  refine v_iload_n 69 rfl dX8_overSamples_68 rfl ?_
                  refine v_iload_n 70 rfl dX8_overSamples_69 rfl ?_
                  refine v_iconst 71 (nI (4)) (by decide) dX8_overSamples_70 rfl ?_
                  refine v_icmpN_ne 84 74 dX8_overSamples_71 (by decide) rfl (by omega) (by omega) (fun h71 => ?_) (fun h71 => ?_)
                  · skip
                    refine v_iload_n 85 rfl dX8_overSamples_84 rfl ?_
                    refine v_bipush 87 (nI (6)) (by decide) dX8_overSamples_85 rfl ?_
                    refine v_icmpN_ne 115 90 dX8_overSamples_87 (by decide) rfl (by omega) (by omega) (fun h87 => ?_) (fun h87 => ?_)
                    · skip
                      refine v_iconst 116 (nI (0)) (by decide) dX8_overSamples_115 rfl ?_
                      refine v_iadd 117 (nI ((smN k (ovs f wh) + (if wh = 5 ∧ totW f k = 0 then 1 else 0) + smN i (ovT f wh k)) + 0)) dX8_overSamples_116 rfl (nI_add _ _) ?_
                      refine v_istore_n 118 [some (rfv x 40), some (.int (nI (wh))), some (.int (nI ((smN k (ovs f wh) + (if wh = 5 ∧ totW f k = 0 then 1 else 0) + smN i (ovT f wh k)) + 0))), some (.int (nI (k))), some (.int (nI (dW f k))), some (.int (nI (1))), some (.int (nI (i)))] dX8_overSamples_117 rfl (by decide) rfl ?_
                      refine v_iinc 121 [some (rfv x 40), some (.int (nI (wh))), some (.int (nI ((smN k (ovs f wh) + (if wh = 5 ∧ totW f k = 0 then 1 else 0) + smN i (ovT f wh k)) + 0))), some (.int (nI (k))), some (.int (nI (dW f k))), some (.int (nI (1))), some (.int (nI (i + 1)))] (nI (i + 1)) dX8_overSamples_118 rfl (by decide) rfl (nI_inc _) rfl ?_
                      refine v_goto 58 dX8_overSamples_121 (by decide) ?_
                      refine v_drop [some (rfv x 40), some (.int (nI (wh))), some (.int (nI (smN k (ovs f wh) + (if wh = 5 ∧ totW f k = 0 then 1 else 0) + smN (i + 1) (ovT f wh k)))), some (.int (nI (k))), some (.int (nI (dW f k))), some (.int (nI (1))), some (.int (nI (i + 1)))] (by first | (simp [lsub, smN_s, ovT, h71, Nat.add_assoc]; done) | (simp [lsub, smN_s, ovT, h71, h0, h87, of1, h108, Nat.add_assoc]; done) | (simp [lsub, smN_s, ovT, h71, h0, h87, Nat.add_assoc]; done)) ?_
                      exact ih2
                    · skip
                      refine v_iload 92 rfl dX8_overSamples_90 rfl ?_
                      refine v_ifN_ne 115 95 dX8_overSamples_92 (by decide) rfl (by decide) (fun _ => ?_) (fun h => absurd h (by decide))
                      refine v_iconst 116 (nI (0)) (by decide) dX8_overSamples_115 rfl ?_
                      refine v_iadd 117 (nI ((smN k (ovs f wh) + (if wh = 5 ∧ totW f k = 0 then 1 else 0) + smN i (ovT f wh k)) + 0)) dX8_overSamples_116 rfl (nI_add _ _) ?_
                      refine v_istore_n 118 [some (rfv x 40), some (.int (nI (wh))), some (.int (nI ((smN k (ovs f wh) + (if wh = 5 ∧ totW f k = 0 then 1 else 0) + smN i (ovT f wh k)) + 0))), some (.int (nI (k))), some (.int (nI (dW f k))), some (.int (nI (1))), some (.int (nI (i)))] dX8_overSamples_117 rfl (by decide) rfl ?_
                      refine v_iinc 121 [some (rfv x 40), some (.int (nI (wh))), some (.int (nI ((smN k (ovs f wh) + (if wh = 5 ∧ totW f k = 0 then 1 else 0) + smN i (ovT f wh k)) + 0))), some (.int (nI (k))), some (.int (nI (dW f k))), some (.int (nI (1))), some (.int (nI (i + 1)))] (nI (i + 1)) dX8_overSamples_118 rfl (by decide) rfl (nI_inc _) rfl ?_
                      refine v_goto 58 dX8_overSamples_121 (by decide) ?_
                      refine v_drop [some (rfv x 40), some (.int (nI (wh))), some (.int (nI (smN k (ovs f wh) + (if wh = 5 ∧ totW f k = 0 then 1 else 0) + smN (i + 1) (ovT f wh k)))), some (.int (nI (k))), some (.int (nI (dW f k))), some (.int (nI (1))), some (.int (nI (i + 1)))] (by first | (simp [lsub, smN_s, ovT, h71, Nat.add_assoc]; done) | (simp [lsub, smN_s, ovT, h71, h0, h87, of1, h108, Nat.add_assoc]; done) | (simp [lsub, smN_s, ovT, h71, h0, h87, Nat.add_assoc]; done)) ?_
                      exact ih2
                  · skip
                    refine v_iload 76 rfl dX8_overSamples_74 rfl ?_
                    refine v_iload 78 rfl dX8_overSamples_76 rfl ?_
                    refine v_ishr 79 (nI (dW f k / 2 ^ i)) dX8_overSamples_78 rfl (shr_n (dW_128 w hk) (by omega)) ?_
                    refine v_iconst 80 (nI (1)) (by decide) dX8_overSamples_79 rfl ?_
                    refine v_iand 81 (nI (dW f k / 2 ^ i % 2)) dX8_overSamples_80 rfl (and_1 (Nat.lt_of_le_of_lt (Nat.div_le_self _ _) (dW_128 w hk))) ?_
                    refine v_goto 116 dX8_overSamples_81 (by decide) ?_
                    refine v_iadd 117 (nI ((smN k (ovs f wh) + (if wh = 5 ∧ totW f k = 0 then 1 else 0) + smN i (ovT f wh k)) + (dW f k / 2 ^ i % 2))) dX8_overSamples_116 rfl (nI_add _ _) ?_
                    refine v_istore_n 118 [some (rfv x 40), some (.int (nI (wh))), some (.int (nI ((smN k (ovs f wh) + (if wh = 5 ∧ totW f k = 0 then 1 else 0) + smN i (ovT f wh k)) + (dW f k / 2 ^ i % 2)))), some (.int (nI (k))), some (.int (nI (dW f k))), some (.int (nI (1))), some (.int (nI (i)))] dX8_overSamples_117 rfl (by decide) rfl ?_
                    refine v_iinc 121 [some (rfv x 40), some (.int (nI (wh))), some (.int (nI ((smN k (ovs f wh) + (if wh = 5 ∧ totW f k = 0 then 1 else 0) + smN i (ovT f wh k)) + (dW f k / 2 ^ i % 2)))), some (.int (nI (k))), some (.int (nI (dW f k))), some (.int (nI (1))), some (.int (nI (i + 1)))] (nI (i + 1)) dX8_overSamples_118 rfl (by decide) rfl (nI_inc _) rfl ?_
                    refine v_goto 58 dX8_overSamples_121 (by decide) ?_
                    refine v_drop [some (rfv x 40), some (.int (nI (wh))), some (.int (nI (smN k (ovs f wh) + (if wh = 5 ∧ totW f k = 0 then 1 else 0) + smN (i + 1) (ovT f wh k)))), some (.int (nI (k))), some (.int (nI (dW f k))), some (.int (nI (1))), some (.int (nI (i + 1)))] (by first | (simp [lsub, smN_s, ovT, h71, Nat.add_assoc]; done) | (simp [lsub, smN_s, ovT, h71, h0, h87, of1, h108, Nat.add_assoc]; done) | (simp [lsub, smN_s, ovT, h71, h0, h87, Nat.add_assoc]; done)) ?_
                    exact ih2
            refine v_drop [some (rfv x 40), some (.int (nI (wh))), some (.int (nI (smN k (ovs f wh) + (if wh = 5 ∧ totW f k = 0 then 1 else 0) + smN 0 (ovT f wh k)))), some (.int (nI (k))), some (.int (nI (dW f k))), some (.int (nI (1))), some (.int (nI (0)))] (by first | (simp [lsub, smN, h0, h40]; done)) ?_
            exact lq 0 (Nat.zero_le _)
  refine v_drop [some (rfv x 40), some (.int (nI (wh))), some (.int (nI (smN 0 (ovs f wh)))), some (.int (nI (0))), none, none, none] (by simp [lsub, smN, amN, dbW, mxN]) ?_
  exact lp 0 (Nat.zero_le _) L
theorem ov_4 {f : Vw} : smN (f 1) (ovs f 4) = c4 f := smN_congr (fun _ _ => rfl)
theorem ov_5 {f : Vw} : smN (f 1) (ovs f 5) = c5 f := smN_congr (fun _ _ => rfl)
theorem ov_6 {f : Vw} : smN (f 1) (ovs f 6) = c6 f := smN_congr (fun _ _ => rfl)
set_option maxHeartbeats 4000000 in
theorem sp_X8_count {x : Cx} {Q : Qt} {I : Iv} {L : Lv} {P : Pv} {f : Vw} (r : RR (I 41) f) (w : Wf f) {h : Int32} {hn tl : Nat} (hh : I 40 4 = nI hn) (ht : I 40 8 = nI tl) (hQ : ∀ I1 L1, Kp I I1 → Q (some (.int (aCount f hn tl h))) I1 L1 P) : SP x M_X8_count [rfv x 40, .int (h)] I L P Q := by
  have := w.n4
  have := w.n1
  have := w.m6
  refine SP.intro [some (rfv x 40), some (.int (h))] pn_X8_count (Nat.le_of_ble_eq_true rfl) rfl ?_
  refine v_aload_n 1 rfl dX8_count_0 rfl ?_
  refine v_iconst 2 (nI (0)) (by decide) dX8_count_1 rfl ?_
  refine v_putI 5 (k := 0) 8 .int (by decide) rfl (by decide) (by decide) rfl (by decide +kernel) rfl rfl (fun _ _ => rfl) dX8_count_2 rfl fl_X8_50 (fun I2 e2 => ?_)
  have r2 : RR (I2 41) f := by rw [up2_row e2 (by omega)]; exact r
  have kp : Kp I I2 := fun a q hl => up2_off e2 (by unfold live at hl; omega)
  have hh2 : I2 40 4 = nI hn := (up2_off e2 (by omega)).trans hh
  have ht2 : I2 40 8 = nI tl := (up2_off e2 (by omega)).trans ht
  refine v_iload_n 6 rfl dX8_count_5 rfl ?_
  by_cases q0 : h = nI 0
  · skip
    subst q0
    refine v_tin 56 (off := 50) dX8_count_6 (by decide) (by decide) (by decide +kernel) (by decide) ?_
    refine v_aload_n 57 rfl dX8_count_56 rfl ?_
    refine v_get 60 (k := 1) 8 (rfv x 41) (by decide) rfl (by decide) (by decide) dX8_count_57 rfl fl_X8_7 rfl ?_
    refine v_iload_n 61 rfl dX8_count_60 rfl ?_
    refine v_iald 62 (k := 0) (nI (f 0)) (by decide) rfl (by decide) dX8_count_61 rfl rfl (by omega) r2.st ?_
    refine v_iret rfl dX8_count_62 ?_
    exact qZ (hQ I2 L kp) (aCount_0).symm
  by_cases q1 : h = nI 1
  · skip
    subst q1
    refine v_tin 56 (off := 50) dX8_count_6 (by decide) (by decide) (by decide +kernel) (by decide) ?_
    refine v_aload_n 57 rfl dX8_count_56 rfl ?_
    refine v_get 60 (k := 1) 8 (rfv x 41) (by decide) rfl (by decide) (by decide) dX8_count_57 rfl fl_X8_7 rfl ?_
    refine v_iload_n 61 rfl dX8_count_60 rfl ?_
    refine v_iald 62 (k := 1) (nI (f 1)) (by decide) rfl (by decide) dX8_count_61 rfl rfl (by omega) r2.sm ?_
    refine v_iret rfl dX8_count_62 ?_
    exact qZ (hQ I2 L kp) (aCount_1).symm
  by_cases q2 : h = nI 2
  · skip
    subst q2
    refine v_tin 56 (off := 50) dX8_count_6 (by decide) (by decide) (by decide +kernel) (by decide) ?_
    refine v_aload_n 57 rfl dX8_count_56 rfl ?_
    refine v_get 60 (k := 1) 8 (rfv x 41) (by decide) rfl (by decide) (by decide) dX8_count_57 rfl fl_X8_7 rfl ?_
    refine v_iload_n 61 rfl dX8_count_60 rfl ?_
    refine v_iald 62 (k := 2) (nI (f 2)) (by decide) rfl (by decide) dX8_count_61 rfl rfl (by omega) r2.bd ?_
    refine v_iret rfl dX8_count_62 ?_
    exact qZ (hQ I2 L kp) (aCount_2).symm
  by_cases q3 : h = nI 3
  · skip
    subst q3
    refine v_tin 63 (off := 57) dX8_count_6 (by decide) (by decide) (by decide +kernel) (by decide) ?_
    refine v_aload_n 64 rfl dX8_count_63 rfl ?_
    refine v_invV 67 M_X8_signs [] (by decide) rfl (by decide) rfl dX8_count_64 rfl ml_X8_206 im_X8_signs se_X8_signs mc_X8_signs (by decide) (Nat.le_of_ble_eq_true rfl) (sp_X8_signs r2 w ?_)
    refine v_iret rfl dX8_count_67 ?_
    exact qZ (hQ I2 L kp) (aCount_3).symm
  by_cases q4 : h = nI 4
  · skip
    subst q4
    refine v_tin 68 (off := 62) dX8_count_6 (by decide) (by decide) (by decide +kernel) (by decide) ?_
    refine v_aload_n 69 rfl dX8_count_68 rfl ?_
    refine v_iload_n 70 rfl dX8_count_69 rfl ?_
    refine v_invV 73 M_X8_overSamples [.int (nI (4))] (by decide) rfl (by decide) rfl dX8_count_70 rfl ml_X8_209 im_X8_overSamples se_X8_overSamples mc_X8_overSamples (by decide) (Nat.le_of_ble_eq_true rfl) (sp_X8_overSamples r2 w (by decide) (fun L1 => ?_))
    refine v_iret rfl dX8_count_73 ?_
    exact qZ (hQ I2 L1 kp) ((congrArg nI ov_4).trans (aCount_4).symm)
  by_cases q5 : h = nI 5
  · skip
    subst q5
    refine v_tin 68 (off := 62) dX8_count_6 (by decide) (by decide) (by decide +kernel) (by decide) ?_
    refine v_aload_n 69 rfl dX8_count_68 rfl ?_
    refine v_iload_n 70 rfl dX8_count_69 rfl ?_
    refine v_invV 73 M_X8_overSamples [.int (nI (5))] (by decide) rfl (by decide) rfl dX8_count_70 rfl ml_X8_209 im_X8_overSamples se_X8_overSamples mc_X8_overSamples (by decide) (Nat.le_of_ble_eq_true rfl) (sp_X8_overSamples r2 w (by decide) (fun L1 => ?_))
    refine v_iret rfl dX8_count_73 ?_
    exact qZ (hQ I2 L1 kp) ((congrArg nI ov_5).trans (aCount_5).symm)
  by_cases q6 : h = nI 6
  · skip
    subst q6
    refine v_tin 68 (off := 62) dX8_count_6 (by decide) (by decide) (by decide +kernel) (by decide) ?_
    refine v_aload_n 69 rfl dX8_count_68 rfl ?_
    refine v_iload_n 70 rfl dX8_count_69 rfl ?_
    refine v_invV 73 M_X8_overSamples [.int (nI (6))] (by decide) rfl (by decide) rfl dX8_count_70 rfl ml_X8_209 im_X8_overSamples se_X8_overSamples mc_X8_overSamples (by decide) (Nat.le_of_ble_eq_true rfl) (sp_X8_overSamples r2 w (by decide) (fun L1 => ?_))
    refine v_iret rfl dX8_count_73 ?_
    exact qZ (hQ I2 L1 kp) ((congrArg nI ov_6).trans (aCount_6).symm)
  by_cases q7 : h = nI 7
  · skip
    subst q7
    refine v_tin 74 (off := 68) dX8_count_6 (by decide) (by decide) (by decide +kernel) (by decide) ?_
    refine v_aload_n 75 rfl dX8_count_74 rfl ?_
    refine v_get 78 (k := 4) 8 (.int (nI (hn))) (by decide) rfl (by decide) (by decide) dX8_count_75 rfl fl_X8_62 (congrArg Value.int hh2) ?_
    refine v_iret rfl dX8_count_78 ?_
    exact qZ (hQ I2 L kp) (aCount_7).symm
  by_cases q8 : h = nI 8
  · skip
    subst q8
    refine v_tin 79 (off := 73) dX8_count_6 (by decide) (by decide) (by decide +kernel) (by decide) ?_
    refine v_aload_n 80 rfl dX8_count_79 rfl ?_
    refine v_get 83 (k := 8) 8 (.int (nI (tl))) (by decide) rfl (by decide) (by decide) dX8_count_80 rfl fl_X8_120 (congrArg Value.int ht2) ?_
    refine v_iret rfl dX8_count_83 ?_
    exact qZ (hQ I2 L kp) (aCount_8).symm
  refine v_tout 84 dX8_count_6 (tabN9 (fun n hn9 e => by rcases (show n = 0 ∨ n = 1 ∨ n = 2 ∨ n = 3 ∨ n = 4 ∨ n = 5 ∨ n = 6 ∨ n = 7 ∨ n = 8 by omega) with z | z | z | z | z | z | z | z | z <;> subst z <;> contradiction)) (by decide) ?_
  refine v_bipush 86 ((-2)) (by decide) dX8_count_84 rfl ?_
  refine v_iret rfl dX8_count_86 ?_
  exact qZ (hQ I2 L kp) (by simp [aCount, q0, q1, q2, q3, q4, q5, q6, q7, q8])
