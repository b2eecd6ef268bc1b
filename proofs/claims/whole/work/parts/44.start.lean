theorem v_ib {ci : Nat} (h : ci < 9) : Cond.instantiable (vC ci) (nf ci) ∈ TB := by
  match ci, h with
  | 0, _ => exact ib_X0
  | 1, _ => exact ib_X1
  | 2, _ => exact ib_X2
  | 3, _ => exact ib_X3
  | 4, _ => exact ib_X4
  | 5, _ => exact ib_X5
  | 6, _ => exact ib_X6
  | 7, _ => exact ib_X7
  | 8, _ => exact ib_X8
theorem kn_all {s : State} {args : Array Value} (ok : ∀ w ∈ TB, w.before args s = true) : ∃ D : va_G, ∀ (c : Nat) (q : vw_C), vwCl[c]? = some q → u_Kn s q.1 q.2.1 q.2.2 (D.1 c) (D.2 c) := by
  have h0 : ∀ k, k < 9 → ∃ r : ClassId × (Nat → Nat), u_Kn s (vC k) (vT k) (nf k) r.1 r.2 := fun k hk => by
    obtain ⟨cC, iS, h⟩ := u_known (C := vC k) (T := vT k) (N := nf k) (n := nf k) (ws := TB) ok (v_wi hk) (ok _ (v_ib hk))
    exact ⟨(cC, iS), h⟩
  have h1 : ∀ k, ∃ r : ClassId × (Nat → Nat), k < 9 → u_Kn s (vC k) (vT k) (nf k) r.1 r.2 := fun k => by
    by_cases hk : k < 9
    · obtain ⟨r, h⟩ := h0 k hk
      exact ⟨r, fun _ => h⟩
    · obtain ⟨r, _⟩ := h0 0 (by decide)
      exact ⟨r, fun h => absurd h hk⟩
  obtain ⟨F, hF⟩ := Classical.axiomOfChoice h1
  refine ⟨(fun k => (F k).1, fun k => (F k).2), fun c q hq => ?_⟩
  by_cases hc : c < 9
  · rw [v_cl hc] at hq
    cases hq
    exact hF c hc
  · have e : vwCl[c]? = none := List.getElem?_eq_none (by show 9 ≤ c; omega)
    rw [e] at hq
    cases hq
theorem gL_M {M' : MI} {n : Nat} (h : MC M' n) : GoodIn lw_tbl (wsM M') := by
  intro w hw
  have : w ∈ TB := wsM_ok h w hw
  exact ⟨TB_in w this, good_of_word (TB_good w this)⟩
set_option maxHeartbeats 8000000 in
theorem whole_start {p : Program} {e : Env} {s : State} {m : MethodId} {below : List Frame} {meth : Method} {c : Code} (l : Launch) (hflags : l.flags = flags0) {b L : Nat} {xs : Nat → Int32} (hL : L ≤ 2560) (C0 : lw_At p s m meth c b L xs) : W p l e room_1 s m #[Value.ref b] below meth c s.heap [] 0 0 (lw_Z below #[Value.ref b] s) (entryFrame m ([Value.ref b] : List Value).toArray 4) := by
  obtain ⟨hx, hb, hr, hml, hown, hts, hX, hbl, hlocks, hgv⟩ := id C0
  have ok : ∀ w ∈ TB, w.before #[Value.ref b] s = true := fun w hw => hts w (TB_in w hw)
  have hA : ∀ q : Nat, s.heap.size ≤ q → (fun q : Nat => s.heap.size ≤ q) q := fun _ h => h
  obtain ⟨D, hKn⟩ := kn_all ok
  obtain ⟨cI, kI, pI, fI, hI, jI⟩ := Cond.arrayClass_spec (ok _ ac_int)
  obtain ⟨cC, kC, pC, fC, hC, jC⟩ := Cond.arrayClass_spec (ok _ ac_char)
  obtain ⟨cJ, kJ, pJ, fJ, hJ, jJ⟩ := Cond.arrayClass_spec (ok _ ac_long)
  obtain ⟨cR, kR, pR, hAR, fR, hR2⟩ : ∃ (cR : ClassId) (kR : Class) (pR : ClassId), (s.vm.classes[cR]? = some kR ∧ kR.kind = .array pR (.object "HiddenRuns$Model")) ∧ s.vm.findClass "HiddenRuns$Model" = some pR ∧ s.vm.findClass ("[" ++ (FieldType.object "HiddenRuns$Model").toString) = some cR := by
    obtain ⟨comp, cA, kA, hcomp, hidx, hkA, hkindA, hnameA⟩ := Cond.arrayOver_spec (hts _ ao_model)
    exact ⟨cA, kA, comp, ⟨hkA, hkindA⟩, hcomp, hnameA⟩
  obtain ⟨x, ex⟩ : ∃ x : Cx, x = (l, D, fun _ => 0, cI, cC, cJ, cR) := ⟨_, rfl⟩
  have exl : x_l x = l := by rw [ex]
  have hK : va_K (x_D x) vwCl (tyl x) s := by
    rw [ex]
    refine ⟨hKn, fun k q hk => ?_⟩
    have hk4 : k < 4 := (List.getElem?_eq_some_iff.mp hk).1
    match k, hk4, hk with
    | 0, _, hk => cases hk; exact ⟨fun N z => ⟨(fun k h => by cases h), kI, hI, pI, jI⟩, fI⟩
    | 1, _, hk => cases hk; exact ⟨fun N z => ⟨(fun k h => by cases h), kC, hC, pC, jC⟩, fC⟩
    | 2, _, hk => cases hk; exact ⟨fun N z => ⟨(fun k h => by cases h), kJ, hJ, pJ, jJ⟩, fJ⟩
    | 3, _, hk => cases hk; exact ⟨fun N z => ⟨(fun k h => by cases h), kR, hAR.1, pR, hAR.2⟩, kR, pR, hAR.1, hAR.2, fR, hR2⟩
  have hKY : KY x s := ⟨hK, fun w hw => by
    have h2 : isNest w = true := NW_is w hw
    have h1 := hts w (List.mem_filter.mp hw).1
    cases w <;> first
      | exact va_Nw.of rfl h1
      | (simp [isNest] at h2; done), va_AO.of (hts _ ao_model)⟩
  have hS : va_S (fun q : Nat => s.heap.size ≤ q) s.heap s.heap [] := va_S.rf
  have hP : va_P (x_D x) vwCl [] s.heap := fun k q h => by simp at h
  have hD : va_D (fun q : Nat => s.heap.size ≤ q) [] := ⟨fun i j p q h => by simp at h, fun k q h => by simp at h⟩
  have hl := lv_entry ([.ref b]) (n := 4) (Nat.le_of_ble_eq_true rfl)
  rw [lg_entry_eq]
  generalize (lg_sl ([.ref b]) ++ List.replicate (4 - (lg_sl ([.ref b])).length) Slot.unset).toArray = ls at hl ⊢
  have hl : lv_has ls 4 [(0, .ref b)] := hl
  subst exl
  refine va_new (ci := 7) (fs := [.null, .null, .int 0, .null, .null, .null, .null, .null, .null]) (C := vC 7) (T := vT 7) (N := nf 7) hx hb (Ts := TB) ok (v_wi (by decide)) (vY 7) (v_ty (by decide)) hown (ok _ cl_L_7) (ok _ ib_X7) (ok _ in_X7) hK hP hD hS hA rfl (fun j hj => by have h9 : j < 9 := hj; rcases (show j = 0 ∨ j = 1 ∨ j = 2 ∨ j = 3 ∨ j = 4 ∨ j = 5 ∨ j = 6 ∨ j = 7 ∨ j = 8 by omega) with h | h | h | h | h | h | h | h | h <;> subst h <;> rfl) (Nat.le_of_ble_eq_true rfl) (Nat.le_of_ble_eq_true rfl) dL_law_0 (fun q0 H hP hD hS => ?_)
  refine lv_dup hx hb dL_law_3 rfl ?_
  have hPc : va_P (x_D x) vwCl [(q0, .inr (7, [.null, .null, .int 0, .null, .null, .null, .null, .null, .null]))] H := hP
  have hDc : va_D (fun q : Nat => s.heap.size ≤ q) [(q0, .inr (7, [.null, .null, .int 0, .null, .null, .null, .null, .null, .null]))] := hD
  have hFc := va_free (wc := [(q0, .inr (7, [.null, .null, .int 0, .null, .null, .null, .null, .null, .null]))]) hDc hS hA [0] rfl
  refine va_callv (va_runI (nL := 4) (Ts := lw_tbl) (own := RL) (As := []) (rest := [.ref q0]) ⟨hx, hb, hml, hown, hts⟩ (cp_X7_init x q0 H.size) (cwI 0 hts (gL_M mc_X7_init) rfl rfl rfl (ok _ in_X7) (ok _ ml_L_9) (ok _ im_X7_init) rfl (by decide +kernel) ⟨Nat.le_of_ble_eq_true rfl, Nat.le_of_ble_eq_true rfl⟩) ⟨PcC_blind _ _ _ _, fun U hU hW => ⟨rfl, by rw [hU], by rw [hU]; exact hPc, hKY.warm hW, hDc.weaken (fun _ _ _ _ => trivial)⟩⟩ rfl rfl hl.1 rfl (lv_room (Nat.le_of_ble_eq_true rfl)) dL_law_4 ⟨Nat.le_of_ble_eq_true rfl, Nat.le_of_ble_eq_true rfl⟩) hS (fun q _ h => hFc q h) hFc (fun w1 t H1 locs ht hvm hR7 hB hz1 hk1 hS => ?_)
  obtain ⟨hP1, hD1⟩ := hB
  rw [ht] at hP1
  obtain ⟨hP2, hD2⟩ := va_join (wr := []) (w1 := w1) hPc hDc [0] [] rfl rfl (by decide) (by decide) hk1 hFc hP1 hD1
  clear hPc hDc hFc hk1 hz1 hP1 hD1 ht hvm
  obtain ⟨ad, I7, P7, e0, hS7, ew⟩ := hR7
  subst ew
  subst e0
  have hP : va_P (x_D x) vwCl (w40 x ad I7 P7) H1 := hP2
  have hD : va_D (fun q : Nat => s.heap.size ≤ q) (w40 x ad I7 P7) := hD2
  refine lv_astore_n (lv' := [(1, .ref (ad 0)), (0, .ref b)]) hx hb dL_law_7 rfl hl (by decide) rfl (fun ls hl => ?_)
  refine W.widen (k := 40) (n := 793) (Nat.le_of_ble_eq_true rfl) (Nat.le_of_ble_eq_true rfl) ?_
  refine va_new (ci := 8) (fs := [.int 0, .null, .null, .null, .int 0, .null, .int 0, .null, .int 0, .null, .null, .null, .null, .null, .null, .null, .int 0, .int 0, .null, .int 0]) (C := vC 8) (T := vT 8) (N := nf 8) hx hb (Ts := TB) ok (v_wi (by decide)) (vY 8) (v_ty (by decide)) hown (ok _ cl_L_10) (ok _ ib_X8) (ok _ in_X8) hK hP hD hS hA rfl (fun j hj => by have h9 : j < 20 := hj; rcases (show j = 0 ∨ j = 1 ∨ j = 2 ∨ j = 3 ∨ j = 4 ∨ j = 5 ∨ j = 6 ∨ j = 7 ∨ j = 8 ∨ j = 9 ∨ j = 10 ∨ j = 11 ∨ j = 12 ∨ j = 13 ∨ j = 14 ∨ j = 15 ∨ j = 16 ∨ j = 17 ∨ j = 18 ∨ j = 19 by omega) with h | h | h | h | h | h | h | h | h | h | h | h | h | h | h | h | h | h | h | h <;> subst h <;> rfl) (Nat.le_of_ble_eq_true rfl) (Nat.le_of_ble_eq_true rfl) dL_law_8 (fun q4 H2 hP hD hS => ?_)
  refine lv_dup hx hb dL_law_11 rfl ?_
  have hC4 : [40].map (fun i => (w40 x ad I7 P7 ++ [(q4, Sum.inr (8, [.int 0, .null, .null, .null, .int 0, .null, .int 0, .null, .int 0, .null, .null, .null, .null, .null, .null, .null, .int 0, .int 0, .null, .int 0]))])[i]?) = ([(q4, Sum.inr (8, [.int 0, .null, .null, .null, .int 0, .null, .int 0, .null, .int 0, .null, .null, .null, .null, .null, .null, .null, .int 0, .int 0, .null, .int 0]))] : va_W).map some := rfl
  have hPc := hP.of [40] hC4
  have hDc := hD.sub [40] rfl hC4
  have hFc := va_free hD hS hA [40] hC4
  refine va_callv (va_runI (nL := 4) (Ts := lw_tbl) (own := RL) (As := []) (rest := [.ref q4]) ⟨hx, hb, hml, hown, hts⟩ (cp_X8_init x q4 H2.size) (cwI 0 hts (gL_M mc_X8_init) rfl rfl rfl (ok _ in_X8) (ok _ ml_L_12) (ok _ im_X8_init) rfl (by decide +kernel) ⟨Nat.le_of_ble_eq_true rfl, Nat.le_of_ble_eq_true rfl⟩) ⟨PcC_blind _ _ _ _, fun U hU hW => ⟨rfl, by rw [hU], by rw [hU]; exact hPc, hKY.warm hW, hDc.weaken (fun _ _ _ _ => trivial)⟩⟩ rfl rfl hl.1 rfl (lv_room (Nat.le_of_ble_eq_true rfl)) dL_law_12 ⟨Nat.le_of_ble_eq_true rfl, Nat.le_of_ble_eq_true rfl⟩) hS (fun q _ h => hFc q h) hFc (fun w1 t H3 locs ht hvm hR8 hB hz1 hk1 hS => ?_)
  obtain ⟨hP1, hD1⟩ := hB
  rw [ht] at hP1
  obtain ⟨hP3, hD3⟩ := va_join (wr := w40 x ad I7 P7) (w1 := w1) hP hD [40] (List.range 40) hC4 rfl (by decide +kernel) (by decide +kernel) hk1 hFc hP1 hD1
  clear hPc hDc hFc hk1 hz1 hP1 hD1 ht hvm hC4
  obtain ⟨ad8, I8, e4, hS8, ew⟩ := hR8
  subst ew
  subst e4
  rw [wl_mix hS7.2.2.2.2.2.2.2.2] at hP3 hD3
  refine lv_astore_n (lv' := [(2, .ref (ad8 40)), (1, .ref (ad 0)), (0, .ref b)]) hx hb dL_law_15 rfl hl (by decide) rfl (fun ls hl => ?_)
  refine lv_iconst (v := 0) hx hb dL_law_16 (by decide) ?_
  refine lv_istore_n (lv' := [(3, .int 0), (2, .ref (ad8 40)), (1, .ref (ad 0)), (0, .ref b)]) hx hb dL_law_17 rfl hl (by decide) rfl (fun ls hl => ?_)
  refine W.widen (k := 600000) (n := 7302250) (Nat.le_of_ble_eq_true rfl) (Nat.le_of_ble_eq_true rfl) ?_
  have hInj : Inj (xA x (mixN ad ad8)) := fun i j hi hj e => hD3.1 i j _ _ (wl_get hi) (wl_get hj) e
  have hAA : ∀ q, AA (xA x (mixN ad ad8)) q → s.heap.size ≤ q := fun q ⟨i, hi, e⟩ => by
    rw [e]
    exact hD3.2 i _ (wl_get hi)
  have hci : CI fS0 (fun _ => fS0) 0 0 fS0 (fun _ => 0) 0 (mixI I7 I8) P7 := (CI_S0 hS7 _ _ _).hi (fun a ha => if_pos ha)
  have hri : RI fS0 (fun _ => fS0) 0 0 fS0 (fun _ => 0) 0 (mixI I7 I8) := (RI_S0 hS8 _ _ _).lo (fun a ha => if_neg (by omega))
  exact law_loop (x := xA x (mixN ad ad8)) hL L 0 (by omega) (Nat.zero_le _) fS0 (fun _ => fS0) 0 0 fS0 (fun _ => 0) 0 (mixI I7 I8) (fun _ _ => 0) P7 hci hri (WI_S0 _ _ _) p e s m below meth c C0 ⟨hKY.1, hKY.2.1, hInj⟩ hAA H3 locs ls hP3 hS (lv_sub hl [3, 2, 1, 0] rfl)
