/-! THE CLAIM OUT OF ONE WALK OF THE LAW'S BODY. Your part is whole_start (and what it stands on); all else here is the same for every law, but numbers. -/
def R_law : String := "HiddenRunsLaw"
def lw_P (b : Addr) (xs : List Int32) (args : Array Value) (s : State) : Prop := args = #[.ref b] ∧ s.IntsAt b xs ∧ xs.length ≤ 2560 ∧ (Jvm.Cond.and given_1 narrow_1).before args s = true
def lw_Q (_ : Array Value) (s : State) (o : Outcome) (t : State) : Prop := o = .returned (some (.int 1)) ∧ Framed s o t [] 600000 7302250
def lw_Z (below : List Frame) (a : Array Value) (s : State) : State → Prop := fun t => ∃ o, t.status = .running ∧ Ended t below o ∧ lw_Q a s o t
/-- the law's own end, with 1 on the stack, nothing written that was there before, its room as the claim has it -/
theorem lw_ret {p : Program} {l : Launch} {e : Env} {s : State} {m : MethodId} {below : List Frame} {meth : Method} {c : Code} {b : Nat} (hx : p.tables.exec = Jvm.exec) (hb : c.code = code) (hr : meth.sig.returnType = ret) (hlocks : meth.locks = false) {pc : Nat} {H : Heap} {ls : Array Slot} (hdg : decode code pc = .ok (.ireturn, 1)) : W p l e room_1 s m #[Value.ref b] below meth c H [] 600000 7302250 (lw_Z below #[Value.ref b] s) (F0 m pc ls [.int 1]) := by
  intro T hT X
  obtain ⟨fs, hret, hrun, hended, hW, hframe⟩ := X.leave (v := some (.int 1)) (hlocks := hlocks) (fun h => by rw [hr] at h; cases h)
  have hmeth' : T.vm.method? m = some meth := X.method'
  refine ⟨T.setFrames fs, ?_, .returned (some (.int 1)), hrun, hended, rfl, ⟨_, rfl⟩, hW, hframe⟩
  jvm_step X.here [X.here.top, hx, hb, hdg, hmeth', hr, ret, narrow_b1]
  (try refine ⟨rfl, ?_⟩); (try refine ⟨rfl, ?_⟩)
  first | (intro acts; rw [hret _ acts rfl rfl rfl]) | rw [hret _ _ rfl rfl rfl]
  exact Steps.refl _
/-- what holds at the law's entry: the machine, the code, the tables' words (any of lw_tbl by 'hts w (by decide +kernel)'), the script of L ints xs at the cell b, what the Statement gives of the start (any of its parts by flat_of_before) -/
def lw_At (p : Program) (s : State) (m : MethodId) (meth : Method) (c : Code) (b L : Nat) (xs : Nat → Int32) : Prop :=
  p.tables.exec = Jvm.exec ∧ c.code = code ∧ meth.sig.returnType = ret ∧ c.maxLocals = 4 ∧ s.vm.findClass R_law = some m.cls ∧ (∀ w ∈ lw_tbl, w.before #[Value.ref b] s = true) ∧ va_X b L xs s s.heap ∧ b < s.heap.size ∧ meth.locks = false ∧ (Jvm.Cond.and given_1 narrow_1).before #[Value.ref b] s = true
/-! THE LAW'S OWN LAYER: the whole world, the script beside it -/
def LA (x : Cx) (b Ln : Nat) (xs : Nat → Int32) (pc : Nat) (ls : List (Option Value)) (st : List Value) (I : Iv) (L : Lv) (P : Pv) : Prop :=
  ∀ (p : Program) (e : Env) (s : State) (m : MethodId) (below : List Frame) (meth : Method) (c : Code), lw_At p s m meth c b Ln xs → KX x s → (∀ q, AA x q → s.heap.size ≤ q) → ∀ (H : Heap) (locs : List Loc) (lsA : Array Slot), HP x I L P H → va_S (fun q : Nat => s.heap.size ≤ q) s.heap H locs → lv_has lsA 4 (lvA 0 ls) →
    W p (x_l x) e room_1 s m #[Value.ref b] below meth c H locs 600000 7302250 (lw_Z below #[Value.ref b] s) (F0 m pc lsA st)
theorem w_fin {x : Cx} {p : Program} {e : Env} {s : State} {m : MethodId} {args : Array Value} {below : List Frame} {meth : Method} {c : Code} {H H0 : Heap} {locs : List Loc} {lsA : Array Slot} {R : Room} {Qz : State → Prop} {Q' : Qt} {a : Array Value} {st0 st : List Value} {cs sl pc : Nat} {A0 : Nat → Prop} (hr : va_Run p (x_l x) e R s m args below meth c H locs cs sl 0 0 (F0 m pc lsA st0) st (QcO x Q' a) (AA x)) (hS : va_S A0 H0 H locs) (hA : ∀ q, AA x q → A0 q)
    (kk : ∀ v I' L' P' H1 locs1, Q' v I' L' P' → HP x I' L' P' H1 → va_S A0 H0 H1 locs1 → W p (x_l x) e R s m args below meth c H1 locs1 cs sl Qz (F0 m (pc + 3) lsA (v.toList ++ st))) : W p (x_l x) e R s m args below meth c H locs cs sl Qz (F0 m pc lsA st0) := by
  intro T hT X
  obtain ⟨v, st₀, t, T', L0, h0, X', hL, e1, e2, ⟨⟨v2, I', L', P', hv, hq, hP⟩, hz, hk⟩, st⟩ := hr T hT X
  cases hv
  rw [h0] at hz hk
  obtain ⟨t2, a1, b1⟩ := kk v I' L' P' T'.heap (locs ++ L0) hq (by rw [e1]; exact hP)
    ⟨Nat.le_trans hS.1 (by rw [e1]; exact hz), fun q h1 h2 => by rw [e1, hk q (Nat.lt_of_lt_of_le h1 hS.1) (fun y => h2 (hA q y))]; exact hS.2.1 q h1 h2, fun q hq => by
      rcases List.mem_append.mp hq with h | h
      · exact hS.2.2 q h
      · exact hA _ (hL q h)⟩ T' rfl X'
  exact ⟨t2, st t2 a1, b1⟩
theorem gL_V {M' : MI} {n index : Nat} {own C : String} (h : MC M' n) (h1 : Cond.methodLink own index (mY M') ∈ TB) (h2 : Cond.instanceMethod (mY M') ∈ TB) (h3 : Cond.selects C (mY M') (mY M') ∈ TB) (h4 : Cond.initialized C ∈ TB) : GoodIn lw_tbl (wsV own index C (mY M') (wsM M')) := by
  intro w hw
  have : w ∈ TB := by
    rcases List.mem_append.mp hw with hw | hw
    · simp only [List.mem_cons, List.not_mem_nil, or_false] at hw
      rcases hw with rfl | rfl | rfl | rfl
      · exact h1
      · exact h2
      · exact h3
      · exact h4
    · exact wsM_ok h w hw
  exact ⟨TB_in w this, good_of_word (TB_good w this)⟩
section WROWS
variable {x : Cx} {b Ln : Nat} {xs : Nat → Int32} {pc : Nat} {ls : List (Option Value)} {st : List Value} {I : Iv} {L : Lv} {P : Pv}
theorem w_aload_n (q : Nat) {k : Fin 4} {v : Nat} (hl0 : ls[(k : Nat)]? = some (some (.ref v))) (d : decode code pc = .ok (.aload_n k, 1)) (hq : pc + 1 = q) (kk : LA x b Ln xs q ls (.ref v :: st) I L P) : LA x b Ln xs pc ls st I L P := by
  subst hq
  intro p e s m below meth c hc hk hA H locs lsA hP hS hl
  exact lv_aload_n hc.1 hc.2.1 d rfl (lvA_get hl hl0) (kk p e s m below meth c hc hk hA H locs lsA hP hS hl)
theorem w_iload_n (q : Nat) {k : Fin 4} {v : Int32} (hl0 : ls[(k : Nat)]? = some (some (.int v))) (d : decode code pc = .ok (.iload_n k, 1)) (hq : pc + 1 = q) (kk : LA x b Ln xs q ls (.int v :: st) I L P) : LA x b Ln xs pc ls st I L P := by
  subst hq
  intro p e s m below meth c hc hk hA H locs lsA hP hS hl
  exact lv_iload_n hc.1 hc.2.1 d rfl (lvA_get hl hl0) (kk p e s m below meth c hc hk hA H locs lsA hP hS hl)
theorem w_iconst (q : Nat) {n : Int} (v : Int32) (hv : Int32.ofInt n = v) (d : decode code pc = .ok (.iconst n, 1)) (hq : pc + 1 = q) (kk : LA x b Ln xs q ls (.int v :: st) I L P) : LA x b Ln xs pc ls st I L P := by
  subst hq
  intro p e s m below meth c hc hk hA H locs lsA hP hS hl
  exact lv_iconst hc.1 hc.2.1 d hv (kk p e s m below meth c hc hk hA H locs lsA hP hS hl)
theorem w_bipush (q : Nat) {n : Int} (v : Int32) (hv : (Int8.ofInt n).toInt32 = v) (d : decode code pc = .ok (.bipush n, 2)) (hq : pc + 2 = q) (kk : LA x b Ln xs q ls (.int v :: st) I L P) : LA x b Ln xs pc ls st I L P := by
  subst hq
  intro p e s m below meth c hc hk hA H locs lsA hP hS hl
  exact lv_bipush hc.1 hc.2.1 d hv (kk p e s m below meth c hc hk hA H locs lsA hP hS hl)
theorem w_iadd (q : Nat) {a1 b1 : Int32} (r : Int32) (d : decode code pc = .ok (.iadd, 1)) (hq : pc + 1 = q) (hr : a1 + b1 = r) (kk : LA x b Ln xs q ls (.int r :: st) I L P) : LA x b Ln xs pc ls (.int b1 :: .int a1 :: st) I L P := by
  subst hq
  subst hr
  intro p e s m below meth c hc hk hA H locs lsA hP hS hl
  exact lv_iadd hc.1 hc.2.1 d (kk p e s m below meth c hc hk hA H locs lsA hP hS hl)
theorem w_isub (q : Nat) {a1 b1 : Int32} (r : Int32) (d : decode code pc = .ok (.isub, 1)) (hq : pc + 1 = q) (hr : a1 - b1 = r) (kk : LA x b Ln xs q ls (.int r :: st) I L P) : LA x b Ln xs pc ls (.int b1 :: .int a1 :: st) I L P := by
  subst hq
  subst hr
  intro p e s m below meth c hc hk hA H locs lsA hP hS hl
  exact lv_isub hc.1 hc.2.1 d (kk p e s m below meth c hc hk hA H locs lsA hP hS hl)
theorem w_iand (q : Nat) {a1 b1 : Int32} (r : Int32) (d : decode code pc = .ok (.iand, 1)) (hq : pc + 1 = q) (hr : a1 &&& b1 = r) (kk : LA x b Ln xs q ls (.int r :: st) I L P) : LA x b Ln xs pc ls (.int b1 :: .int a1 :: st) I L P := by
  subst hq
  subst hr
  intro p e s m below meth c hc hk hA H locs lsA hP hS hl
  exact lv_iand hc.1 hc.2.1 d (kk p e s m below meth c hc hk hA H locs lsA hP hS hl)
theorem w_i2c (q : Nat) {a1 : Int32} (r : Int32) (d : decode code pc = .ok (.i2c, 1)) (hq : pc + 1 = q) (hr : (a1.toUInt32 % 65536).toInt32 = r) (kk : LA x b Ln xs q ls (.int r :: st) I L P) : LA x b Ln xs pc ls (.int a1 :: st) I L P := by
  subst hq
  intro p e s m below meth c hc hk hA H locs lsA hP hS hl
  exact lv_i2c hc.1 hc.2.1 d hr (kk p e s m below meth c hc hk hA H locs lsA hP hS hl)
theorem w_iinc (q : Nat) (ls' : List (Option Value)) {k : Nat} {n : Int} {a : Int32} (v : Int32) (d : decode code pc = .ok (.iinc k n, 3)) (hq : pc + 3 = q) (hn : k < 4) (ha : ls[k]? = some (some (.int a))) (hv : a + Int32.ofInt n = v) (hls : stA k (.int v) 0 ls = ls') (kk : LA x b Ln xs q ls' st I L P) : LA x b Ln xs pc ls st I L P := by
  subst hq
  subst hls
  intro p e s m below meth c hc hk hA H locs lsA hP hS hl
  obtain ⟨j, hj⟩ := List.getElem?_of_mem ((lvA_mem ls 0 (k, .int a)).mpr ⟨Nat.zero_le _, ha⟩)
  exact lv_iinc hc.1 hc.2.1 d hl hj hv hn rfl (fun ls1 h1 => kk p e s m below meth c hc hk hA H locs ls1 hP hS (lvA_stA h1))
theorem w_goto (q : Nat) {off : Int} (d : decode code pc = .ok (.goto off, 3)) (ht : (pc : Int) + off = (q : Int)) (kk : LA x b Ln xs q ls st I L P) : LA x b Ln xs pc ls st I L P := by
  intro p e s m below meth c hc hk hA H locs lsA hP hS hl
  exact lv_goto hc.1 hc.2.1 d ht (kk p e s m below meth c hc hk hA H locs lsA hP hS hl)
theorem w_icmp_gt (t q : Nat) {a1 b1 : Int32} {off : Int} (d : decode code pc = .ok (.if_icmp .gt off, 3)) (ht : (pc : Int) + off = (t : Int)) (hq : pc + 3 = q) (kt : b1 < a1 → LA x b Ln xs t ls st I L P) (kf : ¬ (b1 < a1) → LA x b Ln xs q ls st I L P) : LA x b Ln xs pc ls (.int b1 :: .int a1 :: st) I L P := by
  subst hq
  intro p e s m below meth c hc hk hA H locs lsA hP hS hl
  exact lv_icmp_gt hc.1 hc.2.1 d ht (fun h => kt h p e s m below meth c hc hk hA H locs lsA hP hS hl) (fun h => kf h p e s m below meth c hc hk hA H locs lsA hP hS hl)
/-- both sides answered alike -/
theorem w_same (t : Nat) {a1 : Int32} {off : Int} (d : decode code pc = .ok (.if_icmp .eq off, 3)) (ht : (pc : Int) + off = (t : Int)) (kt : LA x b Ln xs t ls st I L P) : LA x b Ln xs pc ls (.int a1 :: .int a1 :: st) I L P := by
  intro p e s m below meth c hc hk hA H locs lsA hP hS hl
  exact lv_icmp_eq hc.1 hc.2.1 d ht (fun _ => kt p e s m below meth c hc hk hA H locs lsA hP hS hl) (fun h => absurd rfl h)
theorem w_lsame (q1 t q : Nat) {a1 : Int64} {off : Int} (d0 : decode code pc = .ok (.lcmp, 1)) (hq1 : pc + 1 = q1) (d : decode code q1 = .ok (.ifCond .eq off, 3)) (ht : (q1 : Int) + off = (t : Int)) (kt : LA x b Ln xs t ls st I L P) : LA x b Ln xs pc ls (.long a1 :: .long a1 :: st) I L P := by
  subst hq1
  intro p e s m below meth c hc hk hA H locs lsA hP hS hl
  exact W.lcmp hc.1 hc.2.1 d0 (lv_if_eq hc.1 hc.2.1 d ht (fun _ => kt p e s m below meth c hc hk hA H locs lsA hP hS hl) (fun h => absurd (lg_eq0.mpr rfl) h))
theorem w_if_eq (t q : Nat) {a1 : Int32} {off : Int} (d : decode code pc = .ok (.ifCond .eq off, 3)) (ht : (pc : Int) + off = (t : Int)) (hq : pc + 3 = q) (kt : a1 = 0 → LA x b Ln xs t ls st I L P) (kf : ¬ (a1 = 0) → LA x b Ln xs q ls st I L P) : LA x b Ln xs pc ls (.int a1 :: st) I L P := by
  subst hq
  intro p e s m below meth c hc hk hA H locs lsA hP hS hl
  exact lv_if_eq hc.1 hc.2.1 d ht (fun h => kt h p e s m below meth c hc hk hA H locs lsA hP hS hl) (fun h => kf h p e s m below meth c hc hk hA H locs lsA hP hS hl)
theorem w_tin (q : Nat) {dflt lo hi off : Int} {offs : Array Int} {len : Nat} {a : Int32} (d : decode code pc = .ok (.tableswitch dflt lo hi offs, len)) (h1 : ¬ a.toInt < lo) (h2 : ¬ hi < a.toInt) (ho : offs[(a.toInt - lo).toNat]? = some off) (ht : (pc : Int) + off = (q : Int)) (kk : LA x b Ln xs q ls st I L P) : LA x b Ln xs pc ls (.int a :: st) I L P := by
  intro p e s m below meth c hc hk hA H locs lsA hP hS hl
  exact lv_tableIn hc.1 hc.2.1 d h1 h2 ho ht (kk p e s m below meth c hc hk hA H locs lsA hP hS hl)
theorem w_tout (q : Nat) {dflt lo hi : Int} {offs : Array Int} {len : Nat} {a : Int32} (d : decode code pc = .ok (.tableswitch dflt lo hi offs, len)) (h : a.toInt < lo ∨ hi < a.toInt) (ht : (pc : Int) + dflt = (q : Int)) (kk : LA x b Ln xs q ls st I L P) : LA x b Ln xs pc ls (.int a :: st) I L P := by
  intro p e s m below meth c hc hk hA H locs lsA hP hS hl
  exact lv_tableOut hc.1 hc.2.1 d h ht (kk p e s m below meth c hc hk hA H locs lsA hP hS hl)
theorem w_sld (q : Nat) {k : Nat} (hk1 : k < Ln) (hn : Ln < 2147483648) (d : decode code pc = .ok (.iaload, 1)) (hq : pc + 1 = q) (kk : LA x b Ln xs q ls (.int (xs k) :: st) I L P) : LA x b Ln xs pc ls (.int (nI k) :: .ref b :: st) I L P := by
  subst hq
  intro p e s m below meth c hc hk hA H locs lsA hP hS hl
  refine va_sld hc.1 hc.2.1 hc.2.2.2.2.2.2.1 hc.2.2.2.2.2.2.2.1 (Nat.not_le.mpr hc.2.2.2.2.2.2.2.1) hS (vp_in_nI hk1 hn) d ?_
  rw [nI_clamp (Nat.lt_trans hk1 hn)]
  exact kk p e s m below meth c hc hk hA H locs lsA hP hS hl
theorem w_slen (q : Nat) (d : decode code pc = .ok (.arraylength, 1)) (hq : pc + 1 = q) (kk : LA x b Ln xs q ls (.int (nI Ln) :: st) I L P) : LA x b Ln xs pc ls (.ref b :: st) I L P := by
  subst hq
  intro p e s m below meth c hc hk hA H locs lsA hP hS hl
  exact va_slen hc.1 hc.2.1 hc.2.2.2.2.2.2.1 hc.2.2.2.2.2.2.2.1 (Nat.not_le.mpr hc.2.2.2.2.2.2.2.1) hS d (kk p e s m below meth c hc hk hA H locs lsA hP hS hl)
theorem w_inv (q : Nat) (M' : MI) (As : List Value) {index i ci : Nat} (hi : i < 54) (hs1 : hs i = (0, ci)) (hci : ci < 9) (hC : vC ci = (mY M').cls) (d : decode code pc = .ok (.invokevirtual index, 3)) (hq : pc + 3 = q) (hm : Cond.methodLink RL index (mY M') ∈ TB) (him : Cond.instanceMethod (mY M') ∈ TB) (hse : Cond.selects (mY M').cls (mY M') (mY M') ∈ TB) (hmc : MC M' As.length) (hroom : mF M' + 1 ≤ 9 ∧ 8 + (mL M' + 11) + mO M' ≤ 360) (hW : (st.map fun v => v.category).sum ≤ 8) (hsp : SP x M' (rfv x i :: As) I L P (fun v I' L' P' => LA x b Ln xs q ls (v.toList ++ st) I' L' P')) : LA x b Ln xs pc ls (As.reverse ++ rfv x i :: st) I L P := by
  subst hq
  intro p e s m below meth c hc hk hA H locs lsA hP hS hl
  have he : (wl x (cE x I L P))[i]? = some (x_ad x i, .inr (ci, (List.range (nf ci)).map (fvl x ci i I L))) := (wl_get hi).trans (by rw [cE_obj hs1])
  refine w_fin (va_runV (nL := 4) (Ts := lw_tbl) (own := RL) (C := (mY M').cls) (As := As) (rest := st) ⟨hc.1, hc.2.1, hc.2.2.2.1, hc.2.2.2.2.1, hc.2.2.2.2.2.1⟩ hsp (cwV As.length hc.2.2.2.2.2.1 (gL_V hmc hm him hse hmc.2.1) rfl rfl rfl ⟨rfl, hmc.2.2⟩ hroom) ⟨PcO_blind _ _ _ _ _, ?_, fun U hU hW => ⟨rfl, by rw [hU]; exact hP, hk.warm hW⟩⟩ rfl rfl hl.1 rfl (lv_room hW) d ⟨Nat.le_refl _, Nat.le_refl _⟩) hS hA (fun v I' L' P' H1 locs1 hq hP1 hS1 => hq p e s m below meth c hc hk hA H1 locs1 lsA hP1 hS1 hl)
  have h9 := va_recv hk.1 hP (v_cl hci) he
  rw [show ((vC ci, vT ci, nf ci) : vw_C).1 = (mY M').cls from hC] at h9
  exact h9
theorem w_ret (d : decode code pc = .ok (.ireturn, 1)) : LA x b Ln xs pc ls [.int 1] I L P := by
  intro p e s m below meth c hc hk hA H locs lsA hP hS hl
  refine va_forget (fun q hq => hS.2.2 q hq) ?_
  exact lw_ret hc.1 hc.2.1 hc.2.2.1 hc.2.2.2.2.2.2.2.2.1 d
end WROWS
