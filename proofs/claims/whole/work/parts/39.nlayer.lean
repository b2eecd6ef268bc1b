/-! THE LAYER N: what makes cells. A constructor's contract over its own small world; a row an instruction. -/
def rmC (M : MI) (mc ms : Nat) : Room := { frames := mF M, cells := mc, slots := ms, locals := mO M }
def KY (x : Cx) (U : State) : Prop := va_K (x_D x) vwCl (tyl x) U ∧ (∀ w ∈ nestW, va_Nw w U) ∧ va_AO "HiddenRuns$Model" U
theorem KY.warm {x : Cx} {s U : State} (hW : s.WarmedH U.vm) (h : KY x s) : KY x U := by
  refine ⟨va_K.moved hW.alike h.1, fun w hw => ?_, va_AO.moved hW.alike h.2.2⟩
  have h1 := h.2.1 w hw
  have h2 : isNest w = true := NW_is w hw
  cases w <;> first
    | exact va_Nw.warmF hW h1
    | exact va_Nw.warmM hW h1
    | (simp [isNest] at h2; done)
theorem KY.calling {x : Cx} {U : State} {g : JFrame} {mk : MethodId} {a : Array Value} (h : KY x U) : KY x (U.calling g mk a) := by
  refine ⟨va_K.moved (u := U) (U := U.calling g mk a) (Vm.Alike.refl U.vm) h.1, fun w hw => ?_, va_AO.moved (u := U) (U := U.calling g mk a) (Vm.Alike.refl U.vm) h.2.2⟩
  have h1 := h.2.1 w hw
  have h2 : isNest w = true := NW_is w hw
  cases w <;> first
    | exact va_Nw.same rfl (u := U) rfl h1
    | (simp [isNest] at h2; done)
def PcC (x : Cx) (args : List Value) (ws : va_W) (sz : Nat) : Array Value → State → Prop := va_Pc args (fun U => U.heap.size = sz ∧ va_P (x_D x) vwCl ws U.heap ∧ KY x U ∧ va_D (fun _ => True) ws)
def QcC (x : Cx) (ws : va_W) (sz : Nat) (R : va_W → Prop) : Array Value → State → Outcome → State → Prop := va_Qv (fun w1 : va_W => R w1) (fun w1 t => va_P (x_D x) vwCl w1 t.heap ∧ va_D (va_A ws sz) w1) (va_A ws sz)
def CP (x : Cx) (M : MI) (mc ms : Nat) (args : List Value) (ws : va_W) (R : va_W → Prop) : Prop := ∀ sz : Nat, Met (x_l x) (mY M) (wsM M) (rmC M mc ms) (PcC x args ws sz) (QcC x ws sz R) mc ms (va_A ws sz)
theorem PcC_blind (x : Cx) (args : List Value) (ws : va_W) (sz : Nat) : FrameBlind (PcC x args ws sz) := fun a U g mk q => by
  obtain ⟨q0, q1, q2, q3, q4⟩ := q
  exact ⟨q0, q1, q2, q3.calling, q4⟩
def CB (x : Cx) (M : MI) (mc ms : Nat) (ws0 : va_W) (R : va_W → Prop) (cs sl pc : Nat) (ls : List (Option Value)) (st : List Value) (w : va_W) : Prop :=
  ∀ (p : Program) (e : Env) (s : State) (m : MethodId) (args : Array Value) (below : List Frame) (meth : Method) (c : Code), CT M p s m args meth c → meth.name = (mY M).name → KY x s → ∀ (sz : Nat) (H : Heap) (locs : List Loc) (lsA : Array Slot), s.heap.size = sz → va_P (x_D x) vwCl w H → va_D (va_A ws0 sz) w → va_S (va_A ws0 sz) s.heap H locs → lv_has lsA (mL M) (lvA 0 ls) →
    W p (x_l x) e (headSpec (wsM M) (rmC M mc ms)).room s m args below meth c H locs cs sl (MQ below (QcC x ws0 sz R) args s mc ms (va_A ws0 sz)) (F0 m pc lsA st)
theorem CP.intro {x : Cx} {M : MI} {mc ms : Nat} {args : List Value} {ws : va_W} {R : va_W → Prop} (ls : List (Option Value)) (hpl : plainName (mY M).cls = true) (hlen : (lg_sl args).length ≤ mL M) (hls : lvA 0 ls = lv_args 0 args) (h : CB x M mc ms ws R 0 0 0 ls [] ws) : CP x M mc ms args ws R := by
  intro sz
  refine Met.ofW (cc := mB M) (maxL := mL M) (ret := mR M) (ws' := TB) hpl rfl ?_
  intro p e s m args' below meth c s₁ B hml hv
  obtain ⟨rfl, hz, hP, hK, hD⟩ := hv
  have hl := lv_entry args (n := mL M) hlen
  rw [lg_entry_eq]
  refine h p e s m _ below meth c ⟨B.exec, B.bytes, B.returns, hml, findClass_of_methodNamed B.named, atoms_spec (ws := wsM M) B.pre, B.notSynchronized⟩ ((name_of_methodNamed B.named B.method).1) hK sz s.heap [] _ hz hP hD.self va_S.rf ?_
  rw [hls]
  exact hl
theorem va_P.of {D : va_G} {cl : List vw_C} {ws wc : va_W} {H : Heap} (h : va_P D cl ws H) (is : List Nat) (hs : is.map (fun i => ws[i]?) = wc.map some) : va_P D cl wc H := by
  intro k q hk
  have h1 : (is.map (fun i => ws[i]?))[k]? = some (some q) := by rw [hs, List.getElem?_map, hk]; rfl
  rw [List.getElem?_map] at h1
  cases hi : is[k]? with
  | none => rw [hi] at h1; cases h1
  | some i => rw [hi] at h1; exact h i q (Option.some.inj h1)
section NROWS
variable {x : Cx} {M : MI} {mc ms : Nat} {ws0 : va_W} {R : va_W → Prop} {cs sl pc : Nat} {ls : List (Option Value)} {st : List Value} {w : va_W}
theorem n_aload_n (q : Nat) {k : Fin 4} {v : Nat} (hl0 : ls[(k : Nat)]? = some (some (.ref v))) (d : decode (mB M) pc = .ok (.aload_n k, 1)) (hq : pc + 1 = q) (kk : CB x M mc ms ws0 R cs sl q ls (.ref v :: st) w) : CB x M mc ms ws0 R cs sl pc ls st w := by
  subst hq
  intro p e s m args below meth c hc hin hk sz H locs lsA hz hP hD hS hl
  exact lv_aload_n hc.1 hc.2.1 d rfl (lvA_get hl hl0) (kk p e s m args below meth c hc hin hk sz H locs lsA hz hP hD hS hl)
theorem n_iload_n (q : Nat) {k : Fin 4} {v : Int32} (hl0 : ls[(k : Nat)]? = some (some (.int v))) (d : decode (mB M) pc = .ok (.iload_n k, 1)) (hq : pc + 1 = q) (kk : CB x M mc ms ws0 R cs sl q ls (.int v :: st) w) : CB x M mc ms ws0 R cs sl pc ls st w := by
  subst hq
  intro p e s m args below meth c hc hin hk sz H locs lsA hz hP hD hS hl
  exact lv_iload_n hc.1 hc.2.1 d rfl (lvA_get hl hl0) (kk p e s m args below meth c hc hin hk sz H locs lsA hz hP hD hS hl)
theorem n_iconst (q : Nat) {n : Int} (v : Int32) (hv : Int32.ofInt n = v) (d : decode (mB M) pc = .ok (.iconst n, 1)) (hq : pc + 1 = q) (kk : CB x M mc ms ws0 R cs sl q ls (.int v :: st) w) : CB x M mc ms ws0 R cs sl pc ls st w := by
  subst hq
  intro p e s m args below meth c hc hin hk sz H locs lsA hz hP hD hS hl
  exact lv_iconst hc.1 hc.2.1 d hv (kk p e s m args below meth c hc hin hk sz H locs lsA hz hP hD hS hl)
theorem n_bipush (q : Nat) {n : Int} (v : Int32) (hv : (Int8.ofInt n).toInt32 = v) (d : decode (mB M) pc = .ok (.bipush n, 2)) (hq : pc + 2 = q) (kk : CB x M mc ms ws0 R cs sl q ls (.int v :: st) w) : CB x M mc ms ws0 R cs sl pc ls st w := by
  subst hq
  intro p e s m args below meth c hc hin hk sz H locs lsA hz hP hD hS hl
  exact lv_bipush hc.1 hc.2.1 d hv (kk p e s m args below meth c hc hin hk sz H locs lsA hz hP hD hS hl)
theorem n_sipush (q : Nat) {n : Int} (v : Int32) (hv : (Int16.ofInt n).toInt32 = v) (d : decode (mB M) pc = .ok (.sipush n, 3)) (hq : pc + 3 = q) (kk : CB x M mc ms ws0 R cs sl q ls (.int v :: st) w) : CB x M mc ms ws0 R cs sl pc ls st w := by
  subst hq
  intro p e s m args below meth c hc hin hk sz H locs lsA hz hP hD hS hl
  exact lv_sipush hc.1 hc.2.1 d hv (kk p e s m args below meth c hc hin hk sz H locs lsA hz hP hD hS hl)
theorem n_dup (q : Nat) {a : Value} (d : decode (mB M) pc = .ok (.dup, 1)) (hq : pc + 1 = q) (ha : a.category = 1) (kk : CB x M mc ms ws0 R cs sl q ls (a :: a :: st) w) : CB x M mc ms ws0 R cs sl pc ls (a :: st) w := by
  subst hq
  intro p e s m args below meth c hc hin hk sz H locs lsA hz hP hD hS hl
  exact lv_dup hc.1 hc.2.1 d ha (kk p e s m args below meth c hc hin hk sz H locs lsA hz hP hD hS hl)
theorem n_istore_n (q : Nat) (ls' : List (Option Value)) {k : Fin 4} {v : Int32} (d : decode (mB M) pc = .ok (.istore_n k, 1)) (hq : pc + 1 = q) (hn : (k : Nat) < mL M) (hls : stA (k : Nat) (.int v) 0 ls = ls') (kk : CB x M mc ms ws0 R cs sl q ls' st w) : CB x M mc ms ws0 R cs sl pc ls (.int v :: st) w := by
  subst hq
  subst hls
  intro p e s m args below meth c hc hin hk sz H locs lsA hz hP hD hS hl
  exact lv_istore_n hc.1 hc.2.1 d rfl hl hn rfl (fun ls1 h1 => kk p e s m args below meth c hc hin hk sz H locs ls1 hz hP hD hS (lvA_stA h1))
theorem n_astore_n (q : Nat) (ls' : List (Option Value)) {k : Fin 4} {v : Nat} (d : decode (mB M) pc = .ok (.astore_n k, 1)) (hq : pc + 1 = q) (hn : (k : Nat) < mL M) (hls : stA (k : Nat) (.ref v) 0 ls = ls') (kk : CB x M mc ms ws0 R cs sl q ls' st w) : CB x M mc ms ws0 R cs sl pc ls (.ref v :: st) w := by
  subst hq
  subst hls
  intro p e s m args below meth c hc hin hk sz H locs lsA hz hP hD hS hl
  exact lv_astore_n hc.1 hc.2.1 d rfl hl hn rfl (fun ls1 h1 => kk p e s m args below meth c hc hin hk sz H locs ls1 hz hP hD hS (lvA_stA h1))
theorem n_iinc (q : Nat) (ls' : List (Option Value)) {k : Nat} {n : Int} {a : Int32} (v : Int32) (d : decode (mB M) pc = .ok (.iinc k n, 3)) (hq : pc + 3 = q) (hn : k < mL M) (ha : ls[k]? = some (some (.int a))) (hv : a + Int32.ofInt n = v) (hls : stA k (.int v) 0 ls = ls') (kk : CB x M mc ms ws0 R cs sl q ls' st w) : CB x M mc ms ws0 R cs sl pc ls st w := by
  subst hq
  subst hls
  intro p e s m args below meth c hc hin hk sz H locs lsA hz hP hD hS hl
  obtain ⟨j, hj⟩ := List.getElem?_of_mem ((lvA_mem ls 0 (k, .int a)).mpr ⟨Nat.zero_le _, ha⟩)
  exact lv_iinc hc.1 hc.2.1 d hl hj hv hn rfl (fun ls1 h1 => kk p e s m args below meth c hc hin hk sz H locs ls1 hz hP hD hS (lvA_stA h1))
theorem n_goto (q : Nat) {off : Int} (d : decode (mB M) pc = .ok (.goto off, 3)) (ht : (pc : Int) + off = (q : Int)) (kk : CB x M mc ms ws0 R cs sl q ls st w) : CB x M mc ms ws0 R cs sl pc ls st w := by
  intro p e s m args below meth c hc hin hk sz H locs lsA hz hP hD hS hl
  exact lv_goto hc.1 hc.2.1 d ht (kk p e s m args below meth c hc hin hk sz H locs lsA hz hP hD hS hl)
theorem n_icmp_ge (t q : Nat) {a b : Nat} {off : Int} (d : decode (mB M) pc = .ok (.if_icmp .ge off, 3)) (ht : (pc : Int) + off = (t : Int)) (hq : pc + 3 = q) (ha : a < 2147483648) (hb : b < 2147483648) (kt : b ≤ a → CB x M mc ms ws0 R cs sl t ls st w) (kf : a < b → CB x M mc ms ws0 R cs sl q ls st w) : CB x M mc ms ws0 R cs sl pc ls (.int (nI b) :: .int (nI a) :: st) w := by
  subst hq
  intro p e s m args below meth c hc hin hk sz H locs lsA hz hP hD hS hl
  exact lv_icmp_ge hc.1 hc.2.1 d ht (fun h => kt ((nI_leI hb ha).mp h) p e s m args below meth c hc hin hk sz H locs lsA hz hP hD hS hl) (fun h => kf (Nat.lt_of_not_le fun q => h ((nI_leI hb ha).mpr q)) p e s m args below meth c hc hin hk sz H locs lsA hz hP hD hS hl)
theorem n_get (q : Nat) {index a k : Nat} (q0 ci : Nat) {fs : List Value} (v : Value) (he : w[q0]? = some (a, .inr (ci, fs))) (hci : ci < 9) (hk1 : k < nf ci) (hv : fs[k]? = some v) (d : decode (mB M) pc = .ok (.getfield index, 3)) (hq : pc + 3 = q) (hw : Cond.fieldLink (mY M).cls index (vT ci k).1 (vT ci k).2.1 (vT ci k).2.2.1 ∈ TB) (kk : CB x M mc ms ws0 R cs sl q ls (v :: st) w) : CB x M mc ms ws0 R cs sl pc ls (.ref a :: st) w := by
  subst hq
  intro p e s m args below meth c hc hin hk sz H locs lsA hz hP hD hS hl
  exact va_get hc.1 hc.2.1 (Ts := TB) (fun w hw => hc.2.2.2.2.2.1 w (List.mem_cons_of_mem _ hw)) (v_wi hci) hc.2.2.2.2.1 hk.1 hP q0 he (v_cl hci) k hk1 (hc.2.2.2.2.2.1 _ (List.mem_cons_of_mem _ hw)) (fun _ h9 => h9) (v := v) hv d (kk p e s m args below meth c hc hin hk sz H locs lsA hz hP hD hS hl)
theorem n_putF (q : Nat) {index a k : Nat} (hnm : (mY M).name = "<init>") (q0 ci : Nat) {fs : List Value} {v : Value} (ty : FieldType) (w' : va_W) (he : w[q0]? = some (a, .inr (ci, fs))) (hci : ci < 9) (hk1 : k < nf ci) (hfin : (vT ci k).2.2.2 = true) (hdecl : (vT ci k).1 = (mY M).cls) (hd : parseFieldDescriptor (vT ci k).2.2.1 = some ty) (hn : narrow ty v = v) (hft : fits ty v = true) (hlen : k < fs.length) (d : decode (mB M) pc = .ok (.putfield index, 3)) (hq : pc + 3 = q) (hw : Cond.fieldLink (mY M).cls index (vT ci k).1 (vT ci k).2.1 (vT ci k).2.2.1 ∈ TB) (hw' : w.set q0 (a, .inr (ci, fs.set k v)) = w') (kk : CB x M mc ms ws0 R cs sl q ls st w') : CB x M mc ms ws0 R cs sl pc ls (v :: .ref a :: st) w := by
  subst hq
  subst hw'
  intro p e s m args below meth c hc hin hk sz H locs lsA hz hP hD hS hl
  exact va_putF hc.1 hc.2.1 (Ts := TB) (fun w hw => hc.2.2.2.2.2.1 w (List.mem_cons_of_mem _ hw)) (v_wi hci) (vY ci) (v_ty hci) (v_nm hci) hc.2.2.2.2.1 hk.1 hP hD hS q0 he (v_cl hci) k hk1 (hc.2.2.2.2.2.1 _ (List.mem_cons_of_mem _ hw)) (fun _ h9 => h9) hfin (hin.trans hnm) hdecl hd hn hft hlen d (fun H1 locs1 hP1 hD1 hS1 => kk p e s m args below meth c hc hin hk sz H1 locs1 lsA hz hP1 hD1 hS1 hl)
theorem n_put (q : Nat) {index a k : Nat} (q0 ci : Nat) {fs : List Value} {v : Value} (ty : FieldType) (w' : va_W) (he : w[q0]? = some (a, .inr (ci, fs))) (hci : ci < 9) (hk1 : k < nf ci) (hfin : (vT ci k).2.2.2 = false) (hd : parseFieldDescriptor (vT ci k).2.2.1 = some ty) (hn : narrow ty v = v) (hft : fits ty v = true) (hlen : k < fs.length) (d : decode (mB M) pc = .ok (.putfield index, 3)) (hq : pc + 3 = q) (hw : Cond.fieldLink (mY M).cls index (vT ci k).1 (vT ci k).2.1 (vT ci k).2.2.1 ∈ TB) (hw' : w.set q0 (a, .inr (ci, fs.set k v)) = w') (kk : CB x M mc ms ws0 R cs sl q ls st w') : CB x M mc ms ws0 R cs sl pc ls (v :: .ref a :: st) w := by
  subst hq
  subst hw'
  intro p e s m args below meth c hc hin hk sz H locs lsA hz hP hD hS hl
  exact va_put hc.1 hc.2.1 (Ts := TB) (fun w hw => hc.2.2.2.2.2.1 w (List.mem_cons_of_mem _ hw)) (v_wi hci) (vY ci) (v_ty hci) (v_nm hci) hc.2.2.2.2.1 hk.1 hP hD hS q0 he (v_cl hci) k hk1 (hc.2.2.2.2.2.1 _ (List.mem_cons_of_mem _ hw)) (fun _ h9 => h9) hfin hd hn hft hlen d (fun H1 locs1 hP1 hD1 hS1 => kk p e s m args below meth c hc hin hk sz H1 locs1 lsA hz hP1 hD1 hS1 hl)
theorem n_iast (q : Nat) {a n k : Nat} {f : Nat → Int32} {v : Int32} (q0 : Nat) (w' : va_W) (he : w[q0]? = some (a, .inl (x_I x, n, .inl f))) (hk1 : k < n) (hn : n < 2147483648) (d : decode (mB M) pc = .ok (.iastore, 1)) (hq : pc + 1 = q) (hw' : w.set q0 (a, .inl (x_I x, n, .inl (upd f k v))) = w') (kk : CB x M mc ms ws0 R cs sl q ls st w') : CB x M mc ms ws0 R cs sl pc ls (.int v :: .int (nI k) :: .ref a :: st) w := by
  subst hq
  subst hw'
  intro p e s m args below meth c hc hin hk sz H locs lsA hz hP hD hS hl
  refine va_iast hc.1 hc.2.1 hk.1 hP hD hS q0 0 he rfl (vp_in_nI hk1 hn) d (fun H1 locs1 hP1 hD1 hS1 => ?_)
  rw [nI_clamp (Nat.lt_trans hk1 hn)] at hP1 hD1
  exact kk p e s m args below meth c hc hin hk sz H1 locs1 lsA hz hP1 hD1 hS1 hl
theorem n_astq (q : Nat) {a n k v ci : Nat} {f : Nat → Option Nat} {vs : List Value} (q0 qk : Nat) (w' : va_W) (he : w[q0]? = some (a, .inl (x_R x, n, .inr (.inr (.inr (.inr f)))))) (hv : w[qk]? = some (v, .inr (3, vs))) (hk1 : k < n) (hn : n < 2147483648) (d : decode (mB M) pc = .ok (.aastore, 1)) (hq : pc + 1 = q) (hw' : w.set q0 (a, .inl (x_R x, n, .inr (.inr (.inr (.inr (va_up f k (some v))))))) = w') (kk : CB x M mc ms ws0 R cs sl q ls st w') : CB x M mc ms ws0 R cs sl pc ls (.ref v :: .int (nI k) :: .ref a :: st) w := by
  subst hq
  subst hw'
  intro p e s m args below meth c hc hin hk sz H locs lsA hz hP hD hS hl
  refine va_astq hc.1 hc.2.1 hk.1 hP hD hS q0 3 qk 3 (r := (RX3, TX3, 6)) he rfl hv rfl (vp_in_nI hk1 hn) d (fun H1 locs1 hP1 hD1 hS1 => ?_)
  rw [nI_clamp (Nat.lt_trans hk1 hn)] at hP1 hD1
  exact kk p e s m args below meth c hc hin hk sz H1 locs1 lsA hz hP1 hD1 hS1 hl
theorem n_newi (q : Nat) {n : Nat} (hn : n < 1000) (hcells : cs + 1 ≤ mc) (hslots : sl + n ≤ ms) (d : decode (mB M) pc = .ok (.newarray .int, 2)) (hq : pc + 2 = q) (kk : ∀ a : Nat, CB x M mc ms ws0 R (cs + 1) (sl + n) q ls (.ref a :: st) (w ++ [(a, .inl (x_I x, n, .inl (fun _ => 0)))])) : CB x M mc ms ws0 R cs sl pc ls (.int (nI n) :: st) w := by
  subst hq
  intro p e s m args below meth c hc hin hk sz H locs lsA hz hP hD hS hl
  refine va_newa (atype := .int) hc.1 hc.2.1 (hc.2.2.2.2.2.1 _ (List.mem_cons_of_mem _ ac_int)) (ty := .int) rfl hk.1 hP hD hS (fun q h => Or.inr (by rw [← hz]; exact h)) (a0 := (n, .inl (fun _ => 0))) (fun cA => rfl) (nI_pos (by omega)) (nI_clamp (by omega)) (by show n * 4 ≤ _; omega) hcells hslots d (fun a cA H1 hK1 hP1 hD1 hS1 => ?_)
  have e1 := (hK1.2 4 (cA, .int) rfl).2
  have e2 := (hk.1.2 0 (x_I x, .int) rfl).2
  have e3 : cA = x_I x := Option.some.inj (e1.symm.trans e2)
  rw [e3] at hP1 hD1
  exact kk a p e s m args below meth c hc hin hk sz H1 locs lsA hz hP1 hD1 hS1 hl
theorem n_newc (q : Nat) {n : Nat} (hn : n < 1000) (hcells : cs + 1 ≤ mc) (hslots : sl + n ≤ ms) (d : decode (mB M) pc = .ok (.newarray .char, 2)) (hq : pc + 2 = q) (kk : ∀ a : Nat, CB x M mc ms ws0 R (cs + 1) (sl + n) q ls (.ref a :: st) (w ++ [(a, .inl (x_C x, n, .inl (fun _ => 0)))])) : CB x M mc ms ws0 R cs sl pc ls (.int (nI n) :: st) w := by
  subst hq
  intro p e s m args below meth c hc hin hk sz H locs lsA hz hP hD hS hl
  refine va_newa (atype := .char) hc.1 hc.2.1 (hc.2.2.2.2.2.1 _ (List.mem_cons_of_mem _ ac_char)) (ty := .char) rfl hk.1 hP hD hS (fun q h => Or.inr (by rw [← hz]; exact h)) (a0 := (n, .inl (fun _ => 0))) (fun cA => rfl) (nI_pos (by omega)) (nI_clamp (by omega)) (by show n * 2 ≤ _; omega) hcells hslots d (fun a cA H1 hK1 hP1 hD1 hS1 => ?_)
  have e1 := (hK1.2 4 (cA, .char) rfl).2
  have e2 := (hk.1.2 1 (x_C x, .char) rfl).2
  have e3 : cA = x_C x := Option.some.inj (e1.symm.trans e2)
  rw [e3] at hP1 hD1
  exact kk a p e s m args below meth c hc hin hk sz H1 locs lsA hz hP1 hD1 hS1 hl
theorem n_newl (q : Nat) {n : Nat} (hn : n < 1000) (hcells : cs + 1 ≤ mc) (hslots : sl + n ≤ ms) (d : decode (mB M) pc = .ok (.newarray .long, 2)) (hq : pc + 2 = q) (kk : ∀ a : Nat, CB x M mc ms ws0 R (cs + 1) (sl + n) q ls (.ref a :: st) (w ++ [(a, .inl (x_J x, n, .inr (.inl (fun _ => 0))))])) : CB x M mc ms ws0 R cs sl pc ls (.int (nI n) :: st) w := by
  subst hq
  intro p e s m args below meth c hc hin hk sz H locs lsA hz hP hD hS hl
  refine va_newa (atype := .long) hc.1 hc.2.1 (hc.2.2.2.2.2.1 _ (List.mem_cons_of_mem _ ac_long)) (ty := .long) rfl hk.1 hP hD hS (fun q h => Or.inr (by rw [← hz]; exact h)) (a0 := (n, .inr (.inl (fun _ => 0)))) (fun cA => rfl) (nI_pos (by omega)) (nI_clamp (by omega)) (by show n * 8 ≤ _; omega) hcells hslots d (fun a cA H1 hK1 hP1 hD1 hS1 => ?_)
  have e1 := (hK1.2 4 (cA, .long) rfl).2
  have e2 := (hk.1.2 2 (x_J x, .long) rfl).2
  have e3 : cA = x_J x := Option.some.inj (e1.symm.trans e2)
  rw [e3] at hP1 hD1
  exact kk a p e s m args below meth c hc hin hk sz H1 locs lsA hz hP1 hD1 hS1 hl
theorem n_newq (q : Nat) {n index : Nat} (hn : n < 1000) (hcells : cs + 1 ≤ mc) (hslots : sl + n ≤ ms) (hcl : Cond.classLink (mY M).cls index "HiddenRuns$Model" ∈ TB) (d : decode (mB M) pc = .ok (.anewarray index, 3)) (hq : pc + 3 = q) (kk : ∀ a : Nat, CB x M mc ms ws0 R (cs + 1) (sl + n) q ls (.ref a :: st) (w ++ [(a, .inl (x_R x, n, .inr (.inr (.inr (.inr (fun _ => none))))))])) : CB x M mc ms ws0 R cs sl pc ls (.int (nI n) :: st) w := by
  subst hq
  intro p e s m args below meth c hc hin hk sz H locs lsA hz hP hD hS hl
  refine va_newq (C := "HiddenRuns$Model") hc.1 hc.2.1 hc.2.2.2.2.1 (hc.2.2.2.2.2.1 _ (List.mem_cons_of_mem _ hcl)) hk.2.2 hk.1 hP hD hS (fun q h => Or.inr (by rw [← hz]; exact h)) (nI_pos (by omega)) (nI_clamp (by omega)) (by omega) hcells hslots d (fun a cA H1 hK1 hP1 hD1 hS1 => ?_)
  obtain ⟨_, _, _, _, _, e1⟩ := (hK1.2 4 (cA, .object "HiddenRuns$Model") rfl).2
  obtain ⟨_, _, _, _, _, e2⟩ := (hk.1.2 3 (x_R x, .object "HiddenRuns$Model") rfl).2
  have e3 : cA = x_R x := Option.some.inj (e1.symm.trans e2)
  rw [e3] at hP1 hD1
  exact kk a p e s m args below meth c hc hin hk sz H1 locs lsA hz hP1 hD1 hS1 hl
theorem n_new (q : Nat) {index : Nat} (ci : Nat) (fs : List Value) (hci : ci < 9) (hfs : ∀ j, j < nf ci → defaultValue (vY ci j) = vp_V fs j) (hcl : Cond.classLink (mY M).cls index (vC ci) ∈ TB) (hib : Cond.instantiable (vC ci) (nf ci) ∈ TB) (hini : Cond.initialized (vC ci) ∈ TB) (hcells : cs + 1 ≤ mc) (hslots : sl + nf ci ≤ ms) (d : decode (mB M) pc = .ok (.new index, 3)) (hq : pc + 3 = q) (kk : ∀ a : Nat, CB x M mc ms ws0 R (cs + 1) (sl + nf ci) q ls (.ref a :: st) (w ++ [(a, .inr (ci, fs))])) : CB x M mc ms ws0 R cs sl pc ls st w := by
  subst hq
  intro p e s m args below meth c hc hin hk sz H locs lsA hz hP hD hS hl
  have ok : ∀ w ∈ TB, w.before args s = true := fun w hw => hc.2.2.2.2.2.1 w (List.mem_cons_of_mem _ hw)
  exact va_new hc.1 hc.2.1 (Ts := TB) ok (v_wi hci) (vY ci) (v_ty hci) hc.2.2.2.2.1 (ok _ hcl) (ok _ hib) (ok _ hini) hk.1 hP hD hS (fun q h => Or.inr (by rw [← hz]; exact h)) (v_cl hci) hfs hcells hslots d (fun a H1 hP1 hD1 hS1 => kk a p e s m args below meth c hc hin hk sz H1 locs lsA hz hP1 hD1 hS1 hl)
theorem n_obj (q : Nat) {index a : Nat} (hm : Cond.methodLink (mY M).cls index objectInit ∈ TB) (hroom : 1 ≤ mF M ∧ (st.map fun v => v.category).sum + 12 ≤ mO M) (d : decode (mB M) pc = .ok (.invokespecial index, 3)) (hq : pc + 3 = q) (kk : CB x M mc ms ws0 R cs sl q ls st w) : CB x M mc ms ws0 R cs sl pc ls (.ref a :: st) w := by
  subst hq
  intro p e s m args below meth c hc hin hk sz H locs lsA hz hP hD hS hl
  have ok : ∀ w ∈ TB, w.before args s = true := fun w hw => hc.2.2.2.2.2.1 w (List.mem_cons_of_mem _ hw)
  exact W.objInit hc.1 hc.2.1 hc.2.2.2.2.1 (ok _ hm) (ok _ im_obj) (ok _ kc_obj) rfl (by rw [hc.2.2.2.1]; exact hl.1) rfl d hroom.1 (by show 2 * 0 + _ + 12 ≤ _; have := hroom.2; show 2 * 0 + (st.map fun v => v.category).sum + 12 ≤ mO M; omega) (kk p e s m args below meth c hc hin hk sz H locs lsA hz hP hD hS hl)
theorem n_call (q : Nat) (M' : MI) {mc' ms' index b : Nat} (As : List Value) (wc wr : va_W) (isC isR : List Nat) {R' : va_W → Prop} (hC : isC.map (fun i => w[i]?) = wc.map some) (hR : isR.map (fun i => w[i]?) = wr.map some) (hnC : va_nd isC = true) (hnR : va_nd isR = true) (hdis : ∀ i ∈ isR, i ∉ isC) (hm : Cond.methodLink (mY M).cls index (mY M') ∈ TB) (him : Cond.instanceMethod (mY M') ∈ TB) (hmc : MC M' As.length) (hname : (mY M').name = "<init>") (hret : mR M' = none) (hroom : roomOk M M' = true) (hcells : cs + mc' ≤ mc) (hslots : sl + ms' ≤ ms) (hW : (st.map fun v => v.category).sum ≤ 8) (d : decode (mB M) pc = .ok (.invokespecial index, 3)) (hq : pc + 3 = q) (hcp : CP x M' mc' ms' (.ref b :: As) wc R') (kk : ∀ w1, R' w1 → CB x M mc ms ws0 R (cs + mc') (sl + ms') q ls st (wr ++ w1)) : CB x M mc ms ws0 R cs sl pc ls (As.reverse ++ .ref b :: st) w := by
  subst hq
  intro p e s m args below meth c hc hin hk sz H locs lsA hz hP hD hS hl
  have ok : ∀ w ∈ TB, w.before args s = true := fun w hw => hc.2.2.2.2.2.1 w (List.mem_cons_of_mem _ hw)
  have hA : ∀ q, s.heap.size ≤ q → va_A ws0 sz q := fun q h => Or.inr (by rw [← hz]; exact h)
  have hPc := hP.of isC hC
  have hDc := hD.sub isC hnC hC
  have hFc := va_free hD hS hA isC hC
  have hwM : wsM M' = Cond.code (mY M') (mB M') (mL M') none :: TB := by unfold wsM; rw [hret]
  refine va_callv (va_runI (nL := mL M) (Ts := wsM M) (own := (mY M).cls) (As := As) (rest := st) ⟨hc.1, hc.2.1, hc.2.2.2.1, hc.2.2.2.2.1, hc.2.2.2.2.2.1⟩ (hcp H.size) (cwI As.length hc.2.2.2.2.2.1 (gI_M hmc) hwM rfl rfl (ok _ hmc.2.1) (ok _ hm) (ok _ him) hname hmc.2.2 (roomOk_spec hroom)) ⟨PcC_blind _ _ _ _, fun U hU hW => ⟨rfl, by rw [hU], by rw [hU]; exact hPc, hk.warm hW, hDc.weaken (fun _ _ _ _ => trivial)⟩⟩ rfl rfl hl.1 rfl (lv_room hW) d ⟨hcells, hslots⟩) hS (fun q _ h => hFc q h) hFc (fun w1 t H1 locs1 ht hvm hr hB hz1 hk1 hS1 => ?_)
  obtain ⟨hP1, hD1⟩ := hB
  rw [ht] at hP1
  obtain ⟨hP2, hD2⟩ := va_join (wr := wr) (w1 := w1) hP hD isC isR hC hR hnR hdis hk1 hFc hP1 hD1
  exact kk w1 hr p e s m args below meth c hc hin hk sz H1 locs1 lsA hz hP2 hD2 hS1 hl
theorem n_world (w' : va_W) (hPw : ∀ H : Heap, va_P (x_D x) vwCl w H → va_P (x_D x) vwCl w' H) (hDw : ∀ A : Nat → Prop, va_D A w → va_D A w') (kk : CB x M mc ms ws0 R cs sl pc ls st w') : CB x M mc ms ws0 R cs sl pc ls st w := by
  intro p e s m args below meth c hc hin hk sz H locs lsA hz hP hD hS hl
  exact kk p e s m args below meth c hc hin hk sz H locs lsA hz (hPw H hP) (hDw _ hD) hS hl
theorem n_vret (hr : mR M = none) (hcs : cs = mc) (hsl : sl = ms) (d : decode (mB M) pc = .ok (.return_, 1)) (hR : R w) : CB x M mc ms ws0 R cs sl pc ls [] w := by
  subst hcs
  subst hsl
  intro p e s m args below meth c hc hin hk sz H locs lsA hz hP hD hS hl
  exact W.vret hc.1 hc.2.1 (hc.2.2.1.trans hr) (fun t ht hW => ⟨⟨w, rfl, hR, by rw [ht]; exact hP, hD⟩, hS.F ht⟩) hS.2.2 d hc.2.2.2.2.2.2
theorem n_iload (q : Nat) {k : Nat} {v : Int32} (hl0 : ls[k]? = some (some (.int v))) (d : decode (mB M) pc = .ok (.iload k, 2)) (hq : pc + 2 = q) (kk : CB x M mc ms ws0 R cs sl q ls (.int v :: st) w) : CB x M mc ms ws0 R cs sl pc ls st w := by
  subst hq
  intro p e s m args below meth c hc hin hk sz H locs lsA hz hP hD hS hl
  exact lv_iload hc.1 hc.2.1 d (lvA_get hl hl0) (kk p e s m args below meth c hc hin hk sz H locs lsA hz hP hD hS hl)
theorem n_iadd (q : Nat) {a b : Int32} (r : Int32) (d : decode (mB M) pc = .ok (.iadd, 1)) (hq : pc + 1 = q) (hr : a + b = r) (kk : CB x M mc ms ws0 R cs sl q ls (.int r :: st) w) : CB x M mc ms ws0 R cs sl pc ls (.int b :: .int a :: st) w := by
  subst hq
  subst hr
  intro p e s m args below meth c hc hin hk sz H locs lsA hz hP hD hS hl
  exact lv_iadd hc.1 hc.2.1 d (kk p e s m args below meth c hc hin hk sz H locs lsA hz hP hD hS hl)
theorem n_imul (q : Nat) {a b : Int32} (r : Int32) (d : decode (mB M) pc = .ok (.imul, 1)) (hq : pc + 1 = q) (hr : a * b = r) (kk : CB x M mc ms ws0 R cs sl q ls (.int r :: st) w) : CB x M mc ms ws0 R cs sl pc ls (.int b :: .int a :: st) w := by
  subst hq
  subst hr
  intro p e s m args below meth c hc hin hk sz H locs lsA hz hP hD hS hl
  exact lv_imul hc.1 hc.2.1 d (kk p e s m args below meth c hc hin hk sz H locs lsA hz hP hD hS hl)
theorem n_iald (q : Nat) {a n k : Nat} {f : Nat → Int32} (v : Int32) (q0 : Nat) (he : w[q0]? = some (a, .inl (x_I x, n, .inl f))) (hk1 : k < n) (hn : n < 2147483648) (hv : f k = v) (d : decode (mB M) pc = .ok (.iaload, 1)) (hq : pc + 1 = q) (kk : CB x M mc ms ws0 R cs sl q ls (.int v :: st) w) : CB x M mc ms ws0 R cs sl pc ls (.int (nI k) :: .ref a :: st) w := by
  subst hq
  subst hv
  intro p e s m args below meth c hc hin hk sz H locs lsA hz hP hD hS hl
  refine va_iald hc.1 hc.2.1 hk.1 hP q0 0 he rfl (vp_in_nI hk1 hn) d ?_
  rw [nI_clamp (Nat.lt_trans hk1 hn)]
  exact kk p e s m args below meth c hc hin hk sz H locs lsA hz hP hD hS hl
theorem n_callV (q : Nat) (M' : MI) {mc' ms' index b ci : Nat} {vs : List Value} (As : List Value) (wc wr : va_W) (isC isR : List Nat) (qo : Nat) {R' : va_W → Prop} (hC : isC.map (fun i => w[i]?) = wc.map some) (hR : isR.map (fun i => w[i]?) = wr.map some) (hnC : va_nd isC = true) (hnR : va_nd isR = true) (hdis : ∀ i ∈ isR, i ∉ isC) (he : w[qo]? = some (b, .inr (ci, vs))) (hci : ci < 9) (hcC : vC ci = (mY M').cls) (hm : Cond.methodLink (mY M).cls index (mY M') ∈ TB) (him : Cond.instanceMethod (mY M') ∈ TB) (hse : Cond.selects (mY M').cls (mY M') (mY M') ∈ TB) (hmc : MC M' As.length) (hroom : roomOk M M' = true) (hcells : cs + mc' ≤ mc) (hslots : sl + ms' ≤ ms) (hW : (st.map fun v => v.category).sum ≤ 8) (d : decode (mB M) pc = .ok (.invokevirtual index, 3)) (hq : pc + 3 = q) (hcp : CP x M' mc' ms' (.ref b :: As) wc R') (kk : ∀ w1, R' w1 → CB x M mc ms ws0 R (cs + mc') (sl + ms') q ls st (wr ++ w1)) : CB x M mc ms ws0 R cs sl pc ls (As.reverse ++ .ref b :: st) w := by
  subst hq
  intro p e s m args below meth c hc hin hk sz H locs lsA hz hP hD hS hl
  have hA : ∀ q, s.heap.size ≤ q → va_A ws0 sz q := fun q h => Or.inr (by rw [← hz]; exact h)
  have hPc := hP.of isC hC
  have hDc := hD.sub isC hnC hC
  have hFc := va_free hD hS hA isC hC
  refine va_callv (va_runV (nL := mL M) (Ts := wsM M) (own := (mY M).cls) (C := (mY M').cls) (As := As) (rest := st) ⟨hc.1, hc.2.1, hc.2.2.2.1, hc.2.2.2.2.1, hc.2.2.2.2.2.1⟩ (hcp H.size) (cwV As.length hc.2.2.2.2.2.1 (gI_V hmc hm him hse hmc.2.1) rfl rfl rfl ⟨rfl, hmc.2.2⟩ (roomOk_spec hroom)) ⟨PcC_blind _ _ _ _, ?_, fun U hU hW => ⟨rfl, by rw [hU], by rw [hU]; exact hPc, hk.warm hW, hDc.weaken (fun _ _ _ _ => trivial)⟩⟩ rfl rfl hl.1 rfl (lv_room hW) d ⟨hcells, hslots⟩) hS (fun q _ h => hFc q h) hFc (fun w1 t H1 locs1 ht hvm hr hB hz1 hk1 hS1 => ?_)
  · have h9 := va_recv hk.1 hP (v_cl hci) he
    rw [show ((vC ci, vT ci, nf ci) : vw_C).1 = (mY M').cls from hcC] at h9
    exact h9
  · obtain ⟨hP1, hD1⟩ := hB
    rw [ht] at hP1
    obtain ⟨hP2, hD2⟩ := va_join (wr := wr) (w1 := w1) hP hD isC isR hC hR hnR hdis hk1 hFc hP1 hD1
    exact kk w1 hr p e s m args below meth c hc hin hk sz H1 locs1 lsA hz hP2 hD2 hS1 hl
end NROWS
theorem arrV_eq {cA : ClassId} {n : Nat} {f g : Nat → Value} (h : ∀ j, j < n → f j = g j) : arrV cA n f = arrV cA n g := by
  unfold arrV
  have e : (Array.ofFn (n := n) fun j => f j.val) = Array.ofFn (n := n) fun j => g j.val := congrArg _ (funext fun j => h j.val j.isLt)
  rw [e]
theorem va_P.refs {D : va_G} {cl : List vw_C} {ws : va_W} {H : Heap} {q0 a n : Nat} {cA : ClassId} {f g : Nat → Option Nat} (h : va_P D cl ws H) (he : ws[q0]? = some (a, .inl (cA, n, .inr (.inr (.inr (.inr f)))))) (e : ∀ j, j < n → f j = g j) : va_P D cl (ws.set q0 (a, .inl (cA, n, .inr (.inr (.inr (.inr g)))))) H := by
  have hl := (List.getElem?_eq_some_iff.mp he).1
  intro k q hk
  by_cases hkp : k = q0
  · subst hkp
    rw [List.getElem?_set_self hl] at hk
    cases hk
    have h1 := h k _ he
    show H[a]? = some (arrV cA n (fun j => va_rf (g j)))
    rw [← arrV_eq (f := fun j => va_rf (f j)) (fun j hj => by rw [e j hj])]
    exact h1
  · rw [List.getElem?_set_ne (fun q => hkp q.symm)] at hk
    exact h k q hk
