/-! THE LAYER V: the whole world as three functions (ints, longs, the row of references) over pointers 0..53; a row an instruction. -/
abbrev Iv : Type := Nat → Nat → Int32
abbrev Lv : Type := Nat → Nat → Int64
abbrev Pv : Type := Nat → Nat
/-- what stands at a pointer: (0, class), (1, n) ints, (2, n) chars, (3, n) longs, (4, n) references -/
def hs (i : Nat) : Nat × Nat := match i with
  | 0 => (0, 7)
  | 1 => (0, 3)
  | 2 => (1, 32)
  | 3 => (1, 6)
  | 4 => (1, 42)
  | 5 => (0, 3)
  | 6 => (1, 32)
  | 7 => (1, 6)
  | 8 => (1, 42)
  | 9 => (0, 1)
  | 10 => (4, 4)
  | 11 => (0, 3)
  | 12 => (1, 32)
  | 13 => (1, 6)
  | 14 => (1, 42)
  | 15 => (0, 3)
  | 16 => (1, 32)
  | 17 => (1, 6)
  | 18 => (1, 42)
  | 19 => (0, 3)
  | 20 => (1, 32)
  | 21 => (1, 6)
  | 22 => (1, 42)
  | 23 => (0, 3)
  | 24 => (1, 32)
  | 25 => (1, 6)
  | 26 => (1, 42)
  | 27 => (0, 5)
  | 28 => (2, 60)
  | 29 => (0, 6)
  | 30 => (3, 28)
  | 31 => (3, 28)
  | 32 => (0, 0)
  | 33 => (3, 28)
  | 34 => (1, 7)
  | 35 => (0, 4)
  | 36 => (1, 28)
  | 37 => (0, 2)
  | 38 => (1, 32)
  | 39 => (1, 32)
  | 40 => (0, 8)
  | 41 => (1, 83)
  | 42 => (1, 83)
  | 43 => (1, 332)
  | 44 => (1, 83)
  | 45 => (1, 60)
  | 46 => (3, 28)
  | 47 => (3, 28)
  | 48 => (3, 28)
  | 49 => (3, 28)
  | 50 => (3, 32)
  | 51 => (1, 4)
  | 52 => (1, 4)
  | 53 => (1, 256)
  | _ => (9, 0)
def nf (ci : Nat) : Nat := match ci with
  | 0 => 4 | 1 => 2 | 2 => 4 | 3 => 6 | 4 => 3 | 5 => 2 | 6 => 6 | 7 => 9 | 8 => 20 | _ => 0
/-- fields: 0 int, 1 long, 2 reference, 3 boolean -/
def ftk (ci k : Nat) : Nat := match ci with
  | 0 => (match k with | 0 => 2 | 1 => 2 | 2 => 2 | 3 => 1 | _ => 9)
  | 1 => (match k with | 0 => 2 | 1 => 0 | _ => 9)
  | 2 => (match k with | 0 => 2 | 1 => 2 | 2 => 2 | 3 => 2 | _ => 9)
  | 3 => (match k with | 0 => 2 | 1 => 0 | 2 => 0 | 3 => 2 | 4 => 2 | 5 => 0 | _ => 9)
  | 4 => (match k with | 0 => 2 | 1 => 2 | 2 => 0 | _ => 9)
  | 5 => (match k with | 0 => 2 | 1 => 0 | _ => 9)
  | 6 => (match k with | 0 => 2 | 1 => 0 | 2 => 0 | 3 => 2 | 4 => 2 | 5 => 1 | _ => 9)
  | 7 => (match k with | 0 => 2 | 1 => 2 | 2 => 3 | 3 => 2 | 4 => 2 | 5 => 2 | 6 => 2 | 7 => 2 | 8 => 2 | _ => 9)
  | 8 => (match k with | 0 => 0 | 1 => 2 | 2 => 2 | 3 => 2 | 4 => 0 | 5 => 2 | 6 => 3 | 7 => 2 | 8 => 0 | 9 => 2 | 10 => 2 | 11 => 2 | 12 => 2 | 13 => 2 | 14 => 2 | 15 => 2 | 16 => 0 | 17 => 3 | 18 => 2 | 19 => 0 | _ => 9)
  | _ => 9
/-- where the fields that are references lead -/
def rf (i k : Nat) : Nat := match i with
  | 0 => (match k with | 0 => 1 | 1 => 5 | 3 => 9 | 4 => 27 | 5 => 29 | 6 => 32 | 7 => 35 | 8 => 37 | _ => 0)
  | 1 => (match k with | 0 => 2 | 3 => 3 | 4 => 4 | _ => 0)
  | 5 => (match k with | 0 => 6 | 3 => 7 | 4 => 8 | _ => 0)
  | 9 => (match k with | 0 => 10 | _ => 0)
  | 11 => (match k with | 0 => 12 | 3 => 13 | 4 => 14 | _ => 0)
  | 15 => (match k with | 0 => 16 | 3 => 17 | 4 => 18 | _ => 0)
  | 19 => (match k with | 0 => 20 | 3 => 21 | 4 => 22 | _ => 0)
  | 23 => (match k with | 0 => 24 | 3 => 25 | 4 => 26 | _ => 0)
  | 27 => (match k with | 0 => 28 | _ => 0)
  | 29 => (match k with | 0 => 1 | 3 => 30 | 4 => 31 | _ => 0)
  | 32 => (match k with | 0 => 1 | 1 => 33 | 2 => 34 | _ => 0)
  | 35 => (match k with | 0 => 1 | 1 => 36 | _ => 0)
  | 37 => (match k with | 0 => 1 | 1 => 29 | 2 => 38 | 3 => 39 | _ => 0)
  | 40 => (match k with | 1 => 41 | 2 => 42 | 3 => 43 | 5 => 44 | 7 => 45 | 9 => 46 | 10 => 47 | 11 => 48 | 12 => 49 | 13 => 50 | 14 => 51 | 15 => 52 | 18 => 53 | _ => 0)
  | _ => 0
/-- launch, class numbers, addresses, the classes of the four kinds of rows -/
abbrev Cx : Type := Launch × va_G × (Nat → Nat) × ClassId × ClassId × ClassId × ClassId
abbrev x_l (x : Cx) : Launch := x.1
abbrev x_D (x : Cx) : va_G := x.2.1
abbrev x_ad (x : Cx) : Nat → Nat := x.2.2.1
abbrev x_I (x : Cx) : ClassId := x.2.2.2.1
abbrev x_C (x : Cx) : ClassId := x.2.2.2.2.1
abbrev x_J (x : Cx) : ClassId := x.2.2.2.2.2.1
abbrev x_R (x : Cx) : ClassId := x.2.2.2.2.2.2
def rfv (x : Cx) (i : Nat) : Value := .ref (x_ad x i)
def fvl (x : Cx) (ci i : Nat) (I : Iv) (L : Lv) (k : Nat) : Value := match ftk ci k with
  | 1 => .long (L i k)
  | 2 => .ref (x_ad x (rf i k))
  | _ => .int (I i k)
def cE (x : Cx) (I : Iv) (L : Lv) (P : Pv) (i : Nat) : va_E := match hs i with
  | (0, ci) => .inr (ci, (List.range (nf ci)).map (fvl x ci i I L))
  | (1, n) => .inl (x_I x, n, .inl (I i))
  | (2, n) => .inl (x_C x, n, .inl (I i))
  | (3, n) => .inl (x_J x, n, .inr (.inl (L i)))
  | (_, n) => .inl (x_R x, n, .inr (.inr (.inr (.inr (fun j => some (x_ad x (P j)))))))
def wl (x : Cx) (E : Nat → va_E) : va_W := (List.range 54).map (fun i => (x_ad x i, E i))
theorem wl_get {x : Cx} {E : Nat → va_E} {i : Nat} (h : i < 54) : (wl x E)[i]? = some (x_ad x i, E i) := by
  simp [wl, h]
theorem wl_set {x : Cx} {E E' : Nat → va_E} {i : Nat} {e : va_E} (h : i < 54) (h1 : E' i = e) (h2 : ∀ j, j ≠ i → E' j = E j) : (wl x E).set i (x_ad x i, e) = wl x E' := by
  apply List.ext_getElem?
  intro k
  rw [List.getElem?_set]
  by_cases hk : i = k
  · subst hk
    have hl : i < (wl x E).length := by simp [wl, h]
    rw [if_pos rfl, if_pos hl, wl_get h, h1]
  · rw [if_neg hk]
    by_cases hk2 : k < 54
    · rw [wl_get hk2, wl_get hk2, h2 k (fun q => hk q.symm)]
    · have e1 : (wl x E)[k]? = none := by simp [wl]; omega
      have e2 : (wl x E')[k]? = none := by simp [wl]; omega
      rw [e1, e2]
def AA (x : Cx) : Nat → Prop := fun q => ∃ i, i < 54 ∧ q = x_ad x i
def Inj (x : Cx) : Prop := ∀ i j, i < 54 → j < 54 → x_ad x i = x_ad x j → i = j
theorem wl_at {x : Cx} {E : Nat → va_E} {k : Nat} {q : Nat × va_E} (h : (wl x E)[k]? = some q) : k < 54 ∧ q = (x_ad x k, E k) := by
  by_cases hk : k < 54
  · rw [wl_get hk] at h
    exact ⟨hk, (Option.some.inj h).symm⟩
  · have e1 : (wl x E)[k]? = none := by simp [wl]; omega
    rw [e1] at h
    cases h
theorem wl_D {x : Cx} (E : Nat → va_E) (h : Inj x) : va_D (AA x) (wl x E) := by
  refine ⟨fun i j p q hp hq e => ?_, fun k q hq => ?_⟩
  · obtain ⟨h1, rfl⟩ := wl_at hp
    obtain ⟨h2, rfl⟩ := wl_at hq
    exact h i j h1 h2 e
  · obtain ⟨h1, rfl⟩ := wl_at hq
    exact ⟨k, h1, rfl⟩
def tyl (x : Cx) : List (ClassId × FieldType) := [(x_I x, .int), (x_C x, .char), (x_J x, .long), (x_R x, .object "HiddenRuns$Model")]
def KX (x : Cx) (U : State) : Prop := va_K (x_D x) vwCl (tyl x) U ∧ (∀ w ∈ nestW, va_Nw w U) ∧ Inj x
theorem KX.warm {x : Cx} {s U : State} (hW : s.WarmedH U.vm) (h : KX x s) : KX x U := by
  refine ⟨va_K.moved hW.alike h.1, fun w hw => ?_, h.2.2⟩
  have h1 := h.2.1 w hw
  have h2 : isNest w = true := NW_is w hw
  cases w <;> first
    | exact va_Nw.warmF hW h1
    | exact va_Nw.warmM hW h1
    | (simp [isNest] at h2; done)
theorem KX.calling {x : Cx} {U : State} {g : JFrame} {mk : MethodId} {a : Array Value} (h : KX x U) : KX x (U.calling g mk a) := by
  refine ⟨va_K.moved (u := U) (U := U.calling g mk a) (Vm.Alike.refl U.vm) h.1, fun w hw => ?_, h.2.2⟩
  have h1 := h.2.1 w hw
  have h2 : isNest w = true := NW_is w hw
  cases w <;> first
    | exact va_Nw.same rfl (u := U) rfl h1
    | (simp [isNest] at h2; done)
/-- a method: name, bytes, locals, answer, room in frames and in locals -/
abbrev MI : Type := MethodName × ByteArray × Nat × Option FieldType × Nat × Nat
abbrev mY (M : MI) : MethodName := M.1
abbrev mB (M : MI) : ByteArray := M.2.1
abbrev mL (M : MI) : Nat := M.2.2.1
abbrev mR (M : MI) : Option FieldType := M.2.2.2.1
abbrev mF (M : MI) : Nat := M.2.2.2.2.1
abbrev mO (M : MI) : Nat := M.2.2.2.2.2
def wsM (M : MI) : List Cond := Cond.code (mY M) (mB M) (mL M) (mR M) :: TB
def rmM (M : MI) : Room := { frames := mF M, cells := 0, slots := 0, locals := mO M }
theorem wsM_good (M : MI) (h : Cond.code (mY M) (mB M) (mL M) (mR M) ∈ TB) {big : List Cond} (hb : ∀ w ∈ TB, w ∈ big) : GoodIn big (wsM M) := by
  intro w hw
  rcases List.mem_cons.mp hw with rfl | hw
  · exact ⟨hb _ h, good_of_word (TB_good _ h)⟩
  · exact ⟨hb _ hw, good_of_word (TB_good _ hw)⟩
abbrev Qt : Type := Option Value → Iv → Lv → Pv → Prop
abbrev HP (x : Cx) (I : Iv) (L : Lv) (P : Pv) (H : Heap) : Prop := va_P (x_D x) vwCl (wl x (cE x I L P)) H
def QcO (x : Cx) (Q : Qt) : Array Value → State → Outcome → State → Prop := fun _ st oc t => (∃ v I L P, oc = .returned v ∧ Q v I L P ∧ HP x I L P t.heap) ∧ va_F (AA x) st t
def PcO (x : Cx) (args : List Value) (I : Iv) (L : Lv) (P : Pv) : Array Value → State → Prop := va_Pc args (fun U => HP x I L P U.heap ∧ KX x U)
/-- the contract of a method at one state: it ends, and Q holds of its answer and of the state then -/
def SP (x : Cx) (M : MI) (args : List Value) (I : Iv) (L : Lv) (P : Pv) (Q : Qt) : Prop := Met (x_l x) (mY M) (wsM M) (rmM M) (PcO x args I L P) (QcO x Q) 0 0 (AA x)
theorem PcO_blind (x : Cx) (args : List Value) (I : Iv) (L : Lv) (P : Pv) : FrameBlind (PcO x args I L P) := fun a U g mk q => by
  obtain ⟨q0, q1, q2⟩ := q
  exact ⟨q0, q1, q2.calling⟩
def CT (M : MI) (p : Program) (s : State) (m : MethodId) (args : Array Value) (meth : Method) (c : Code) : Prop :=
  p.tables.exec = Jvm.exec ∧ c.code = mB M ∧ meth.sig.returnType = mR M ∧ c.maxLocals = mL M ∧ s.vm.findClass (mY M).cls = some m.cls ∧ (∀ w ∈ wsM M, w.before args s = true) ∧ meth.locks = false
/-- the locals by their places: a long stands before none -/
def lvA : Nat → List (Option Value) → List (Nat × Value)
  | _, [] => []
  | j, none :: r => lvA (j + 1) r
  | j, some v :: r => (j, v) :: lvA (j + 1) r
theorem lvA_mem : ∀ (ls : List (Option Value)) (j : Nat) (q : Nat × Value), q ∈ lvA j ls ↔ j ≤ q.1 ∧ ls[q.1 - j]? = some (some q.2)
  | [], j, q => by simp [lvA]
  | none :: r, j, q => by
    rw [lvA, lvA_mem r (j + 1) q]
    constructor
    · rintro ⟨h1, h2⟩
      refine ⟨by omega, ?_⟩
      rw [show q.1 - j = (q.1 - (j + 1)) + 1 by omega]
      exact h2
    · rintro ⟨h1, h2⟩
      by_cases e : q.1 = j
      · rw [e, Nat.sub_self] at h2
        simp at h2
      · refine ⟨by omega, ?_⟩
        rw [show q.1 - j = (q.1 - (j + 1)) + 1 by omega] at h2
        exact h2
  | some v :: r, j, q => by
    rw [lvA, List.mem_cons, lvA_mem r (j + 1) q]
    constructor
    · rintro (rfl | ⟨h1, h2⟩)
      · simp
      · refine ⟨by omega, ?_⟩
        rw [show q.1 - j = (q.1 - (j + 1)) + 1 by omega]
        exact h2
    · rintro ⟨h1, h2⟩
      by_cases e : q.1 = j
      · left
        rw [e, Nat.sub_self] at h2
        simp at h2
        obtain ⟨a, b⟩ := q
        simp_all
      · right
        refine ⟨by omega, ?_⟩
        rw [show q.1 - j = (q.1 - (j + 1)) + 1 by omega] at h2
        exact h2
theorem lvA_get {lsA : Array Slot} {nL : Nat} {ls : List (Option Value)} (h : lv_has lsA nL (lvA 0 ls)) {i : Nat} {v : Value} (hi : ls[i]? = some (some v)) : lsA[i]? = some (.val v) :=
  h.2.2 (i, v) ((lvA_mem ls 0 (i, v)).mpr ⟨Nat.zero_le _, hi⟩)
def isL (w : Option Value) : Bool := match w with
  | some (.long _) => true
  | some (.double _) => true
  | _ => false
def stA (i : Nat) (v : Value) : Nat → List (Option Value) → List (Option Value)
  | _, [] => []
  | j, w :: r => (if j = i then some v else if j + 1 = i ∧ isL w = true then none else w) :: stA i v (j + 1) r
def stB (i : Nat) (v : Value) : Nat → List (Option Value) → List (Option Value)
  | _, [] => []
  | j, w :: r => (if j = i then some v else if j = i + 1 then none else if j + 1 = i ∧ isL w = true then none else w) :: stB i v (j + 1) r
theorem stA_get (i : Nat) (v : Value) : ∀ (ls : List (Option Value)) (j k : Nat), (stA i v j ls)[k]? = (ls[k]?).map (fun w => if j + k = i then some v else if j + k + 1 = i ∧ isL w = true then none else w)
  | [], j, k => by simp [stA]
  | w :: r, j, 0 => by simp [stA]
  | w :: r, j, k + 1 => by
    rw [stA, List.getElem?_cons_succ, stA_get i v r (j + 1) k, List.getElem?_cons_succ, show j + 1 + k = j + (k + 1) by omega]
theorem stB_get (i : Nat) (v : Value) : ∀ (ls : List (Option Value)) (j k : Nat), (stB i v j ls)[k]? = (ls[k]?).map (fun w => if j + k = i then some v else if j + k = i + 1 then none else if j + k + 1 = i ∧ isL w = true then none else w)
  | [], j, k => by simp [stB]
  | w :: r, j, 0 => by simp [stB]
  | w :: r, j, k + 1 => by
    rw [stB, List.getElem?_cons_succ, stB_get i v r (j + 1) k, List.getElem?_cons_succ, show j + 1 + k = j + (k + 1) by omega]
theorem cat2_isL {v : Value} (h : ¬ isL (some v) = true) : ¬ v.category = 2 := by
  cases v <;> simp_all [isL, Value.category]
theorem lvA_stA {lsA : Array Slot} {nL : Nat} {ls : List (Option Value)} {i : Nat} {v : Value} (h : lv_has lsA nL ((i, v) :: (lvA 0 ls).filter (fun q => !(q.1 == i) && !(q.1 + 1 == i && q.2.category == 2)))) : lv_has lsA nL (lvA 0 (stA i v 0 ls)) := by
  refine ⟨h.1, h.2.1, fun q hq => h.2.2 q ?_⟩
  obtain ⟨k, u⟩ := q
  rw [lvA_mem, stA_get] at hq
  obtain ⟨-, hq⟩ := hq
  simp only [Nat.sub_zero, Nat.zero_add] at hq
  cases hg : ls[k]? with
  | none => rw [hg] at hq; cases hq
  | some w =>
    rw [hg, Option.map_some] at hq
    by_cases e : k = i
    · subst e
      simp at hq
      subst hq
      exact List.mem_cons_self
    · rw [if_neg e] at hq
      by_cases e2 : k + 1 = i ∧ isL w = true
      · rw [if_pos e2] at hq
        cases hq
      · rw [if_neg e2] at hq
        have hw : w = some u := Option.some.inj hq
        subst hw
        refine List.mem_cons_of_mem _ (List.mem_filter.mpr ⟨(lvA_mem ls 0 (k, u)).mpr ⟨Nat.zero_le _, hg⟩, ?_⟩)
        by_cases e3 : k + 1 = i
        · have : ¬ u.category = 2 := cat2_isL (fun q => e2 ⟨e3, q⟩)
          simp [e, this]
        · simp [e, e3]
theorem lvA_stB {lsA : Array Slot} {nL : Nat} {ls : List (Option Value)} {i : Nat} {v : Value} (h : lv_has lsA nL ((i, v) :: (lvA 0 ls).filter (fun q => !(q.1 == i) && (!(q.1 == i + 1) && !(q.1 + 1 == i && q.2.category == 2))))) : lv_has lsA nL (lvA 0 (stB i v 0 ls)) := by
  refine ⟨h.1, h.2.1, fun q hq => h.2.2 q ?_⟩
  obtain ⟨k, u⟩ := q
  rw [lvA_mem, stB_get] at hq
  obtain ⟨-, hq⟩ := hq
  simp only [Nat.sub_zero, Nat.zero_add] at hq
  cases hg : ls[k]? with
  | none => rw [hg] at hq; cases hq
  | some w =>
    rw [hg, Option.map_some] at hq
    by_cases e : k = i
    · subst e
      simp at hq
      subst hq
      exact List.mem_cons_self
    · rw [if_neg e] at hq
      by_cases e1 : k = i + 1
      · rw [if_pos e1] at hq
        cases hq
      · rw [if_neg e1] at hq
        by_cases e2 : k + 1 = i ∧ isL w = true
        · rw [if_pos e2] at hq
          cases hq
        · rw [if_neg e2] at hq
          have hw : w = some u := Option.some.inj hq
          subst hw
          refine List.mem_cons_of_mem _ (List.mem_filter.mpr ⟨(lvA_mem ls 0 (k, u)).mpr ⟨Nat.zero_le _, hg⟩, ?_⟩)
          by_cases e3 : k + 1 = i
          · have : ¬ u.category = 2 := cat2_isL (fun q => e2 ⟨e3, q⟩)
            simp [e, e1, this]
          · simp [e, e1, e3]
/-- from here the method comes to its end with Q -/
def V (x : Cx) (M : MI) (Q : Qt) (pc : Nat) (ls : List (Option Value)) (st : List Value) (I : Iv) (L : Lv) (P : Pv) : Prop :=
  ∀ (p : Program) (e : Env) (s : State) (m : MethodId) (args : Array Value) (below : List Frame) (meth : Method) (c : Code), CT M p s m args meth c → KX x s → ∀ (H : Heap) (locs : List Loc) (lsA : Array Slot), HP x I L P H → va_S (AA x) s.heap H locs → lv_has lsA (mL M) (lvA 0 ls) →
    W p (x_l x) e (headSpec (wsM M) (rmM M)).room s m args below meth c H locs 0 0 (MQ below (QcO x Q) args s 0 0 (AA x)) (F0 m pc lsA st)
theorem SP.intro {x : Cx} {M : MI} {args : List Value} {I : Iv} {L : Lv} {P : Pv} {Q : Qt} (ls : List (Option Value)) (hpl : plainName (mY M).cls = true) (hlen : (lg_sl args).length ≤ mL M) (hls : lvA 0 ls = lv_args 0 args) (h : V x M Q 0 ls [] I L P) : SP x M args I L P Q := by
  refine Met.ofW (cc := mB M) (maxL := mL M) (ret := mR M) (ws' := TB) hpl rfl ?_
  intro p e s m args' below meth c s₁ B hml hv
  obtain ⟨rfl, hP, hK⟩ := hv
  have hl := lv_entry args (n := mL M) hlen
  rw [lg_entry_eq]
  refine h p e s m _ below meth c ⟨B.exec, B.bytes, B.returns, hml, findClass_of_methodNamed B.named, atoms_spec (ws := wsM M) B.pre, B.notSynchronized⟩ hK s.heap [] _ hP va_S.rf ?_
  rw [hls]
  exact hl
section ROWS
variable {x : Cx} {M : MI} {Q : Qt} {pc : Nat} {ls : List (Option Value)} {st : List Value} {I : Iv} {L : Lv} {P : Pv}

theorem v_iconst (q : Nat) {n : Int} (v : Int32) (hv : Int32.ofInt n = v) (d : decode (mB M) pc = .ok (.iconst n, 1)) (hq : pc + 1 = q) (kk : V x M Q q ls (.int v :: st) I L P) : V x M Q pc ls (st) I L P := by
  subst hq
  intro p e s m args below meth c hc hk H locs lsA hP hS hl
  exact lv_iconst hc.1 hc.2.1 d hv (kk p e s m args below meth c hc hk H locs lsA hP hS hl)
theorem v_bipush (q : Nat) {n : Int} (v : Int32) (hv : (Int8.ofInt n).toInt32 = v) (d : decode (mB M) pc = .ok (.bipush n, 2)) (hq : pc + 2 = q) (kk : V x M Q q ls (.int v :: st) I L P) : V x M Q pc ls (st) I L P := by
  subst hq
  intro p e s m args below meth c hc hk H locs lsA hP hS hl
  exact lv_bipush hc.1 hc.2.1 d hv (kk p e s m args below meth c hc hk H locs lsA hP hS hl)
theorem v_sipush (q : Nat) {n : Int} (v : Int32) (hv : (Int16.ofInt n).toInt32 = v) (d : decode (mB M) pc = .ok (.sipush n, 3)) (hq : pc + 3 = q) (kk : V x M Q q ls (.int v :: st) I L P) : V x M Q pc ls (st) I L P := by
  subst hq
  intro p e s m args below meth c hc hk H locs lsA hP hS hl
  exact lv_sipush hc.1 hc.2.1 d hv (kk p e s m args below meth c hc hk H locs lsA hP hS hl)
theorem v_lconst (q : Nat) {n : Fin 2} (v : Int64) (hv : Int64.ofNat (n : Nat) = v) (d : decode (mB M) pc = .ok (.lconst n, 1)) (hq : pc + 1 = q) (kk : V x M Q q ls (.long v :: st) I L P) : V x M Q pc ls (st) I L P := by
  subst hq
  intro p e s m args below meth c hc hk H locs lsA hP hS hl
  exact lv_lconst hc.1 hc.2.1 d hv (kk p e s m args below meth c hc hk H locs lsA hP hS hl)
theorem v_iload_n (q : Nat) {k : Fin 4} {v : Int32} (hl0 : ls[(k : Nat)]? = some (some (.int v))) (d : decode (mB M) pc = .ok (.iload_n k, 1)) (hq : pc + 1 = q) (kk : V x M Q q ls (.int v :: st) I L P) : V x M Q pc ls (st) I L P := by
  subst hq
  intro p e s m args below meth c hc hk H locs lsA hP hS hl
  exact lv_iload_n hc.1 hc.2.1 d rfl (lvA_get hl hl0) (kk p e s m args below meth c hc hk H locs lsA hP hS hl)
theorem v_iload (q : Nat) {k : Nat} {v : Int32} (hl0 : ls[k]? = some (some (.int v))) (d : decode (mB M) pc = .ok (.iload k, 2)) (hq : pc + 2 = q) (kk : V x M Q q ls (.int v :: st) I L P) : V x M Q pc ls (st) I L P := by
  subst hq
  intro p e s m args below meth c hc hk H locs lsA hP hS hl
  exact lv_iload hc.1 hc.2.1 d (lvA_get hl hl0) (kk p e s m args below meth c hc hk H locs lsA hP hS hl)
theorem v_lload_n (q : Nat) {k : Fin 4} {v : Int64} (hl0 : ls[(k : Nat)]? = some (some (.long v))) (d : decode (mB M) pc = .ok (.lload_n k, 1)) (hq : pc + 1 = q) (kk : V x M Q q ls (.long v :: st) I L P) : V x M Q pc ls (st) I L P := by
  subst hq
  intro p e s m args below meth c hc hk H locs lsA hP hS hl
  exact lv_lload_n hc.1 hc.2.1 d rfl (lvA_get hl hl0) (kk p e s m args below meth c hc hk H locs lsA hP hS hl)
theorem v_lload (q : Nat) {k : Nat} {v : Int64} (hl0 : ls[k]? = some (some (.long v))) (d : decode (mB M) pc = .ok (.lload k, 2)) (hq : pc + 2 = q) (kk : V x M Q q ls (.long v :: st) I L P) : V x M Q pc ls (st) I L P := by
  subst hq
  intro p e s m args below meth c hc hk H locs lsA hP hS hl
  exact lv_lload hc.1 hc.2.1 d (lvA_get hl hl0) (kk p e s m args below meth c hc hk H locs lsA hP hS hl)
theorem v_aload_n (q : Nat) {k : Fin 4} {v : Nat} (hl0 : ls[(k : Nat)]? = some (some (rfv x v))) (d : decode (mB M) pc = .ok (.aload_n k, 1)) (hq : pc + 1 = q) (kk : V x M Q q ls (rfv x v :: st) I L P) : V x M Q pc ls (st) I L P := by
  subst hq
  intro p e s m args below meth c hc hk H locs lsA hP hS hl
  exact lv_aload_n hc.1 hc.2.1 d rfl (lvA_get hl hl0) (kk p e s m args below meth c hc hk H locs lsA hP hS hl)
theorem v_aload (q : Nat) {k : Nat} {v : Nat} (hl0 : ls[k]? = some (some (rfv x v))) (d : decode (mB M) pc = .ok (.aload k, 2)) (hq : pc + 2 = q) (kk : V x M Q q ls (rfv x v :: st) I L P) : V x M Q pc ls (st) I L P := by
  subst hq
  intro p e s m args below meth c hc hk H locs lsA hP hS hl
  exact lv_aload hc.1 hc.2.1 d (lvA_get hl hl0) (kk p e s m args below meth c hc hk H locs lsA hP hS hl)
theorem v_istore_n (q : Nat) (ls' : List (Option Value)) {k : Fin 4} {v : Int32} (d : decode (mB M) pc = .ok (.istore_n k, 1)) (hq : pc + 1 = q) (hn : (k : Nat) < mL M) (hls : stA (k : Nat) (.int v) 0 ls = ls') (kk : V x M Q q ls' st I L P) : V x M Q pc ls (.int v :: st) I L P := by
  subst hq
  subst hls
  intro p e s m args below meth c hc hk H locs lsA hP hS hl
  exact lv_istore_n hc.1 hc.2.1 d rfl hl hn rfl (fun ls1 h1 => kk p e s m args below meth c hc hk H locs ls1 hP hS (lvA_stA h1))
theorem v_istore (q : Nat) (ls' : List (Option Value)) {k : Nat} {v : Int32} (d : decode (mB M) pc = .ok (.istore k, 2)) (hq : pc + 2 = q) (hn : k < mL M) (hls : stA k (.int v) 0 ls = ls') (kk : V x M Q q ls' st I L P) : V x M Q pc ls (.int v :: st) I L P := by
  subst hq
  subst hls
  intro p e s m args below meth c hc hk H locs lsA hP hS hl
  exact lv_istore hc.1 hc.2.1 d hl hn rfl (fun ls1 h1 => kk p e s m args below meth c hc hk H locs ls1 hP hS (lvA_stA h1))
theorem v_astore_n (q : Nat) (ls' : List (Option Value)) {k : Fin 4} {v : Nat} (d : decode (mB M) pc = .ok (.astore_n k, 1)) (hq : pc + 1 = q) (hn : (k : Nat) < mL M) (hls : stA (k : Nat) (rfv x v) 0 ls = ls') (kk : V x M Q q ls' st I L P) : V x M Q pc ls (rfv x v :: st) I L P := by
  subst hq
  subst hls
  intro p e s m args below meth c hc hk H locs lsA hP hS hl
  exact lv_astore_n hc.1 hc.2.1 d rfl hl hn rfl (fun ls1 h1 => kk p e s m args below meth c hc hk H locs ls1 hP hS (lvA_stA h1))
theorem v_astore (q : Nat) (ls' : List (Option Value)) {k : Nat} {v : Nat} (d : decode (mB M) pc = .ok (.astore k, 2)) (hq : pc + 2 = q) (hn : k < mL M) (hls : stA k (rfv x v) 0 ls = ls') (kk : V x M Q q ls' st I L P) : V x M Q pc ls (rfv x v :: st) I L P := by
  subst hq
  subst hls
  intro p e s m args below meth c hc hk H locs lsA hP hS hl
  exact lv_astore hc.1 hc.2.1 d hl hn rfl (fun ls1 h1 => kk p e s m args below meth c hc hk H locs ls1 hP hS (lvA_stA h1))
theorem v_lstore_n (q : Nat) (ls' : List (Option Value)) {k : Fin 4} {v : Int64} (d : decode (mB M) pc = .ok (.lstore_n k, 1)) (hq : pc + 1 = q) (hn : (k : Nat) + 1 < mL M) (hls : stB (k : Nat) (.long v) 0 ls = ls') (kk : V x M Q q ls' st I L P) : V x M Q pc ls (.long v :: st) I L P := by
  subst hq
  subst hls
  intro p e s m args below meth c hc hk H locs lsA hP hS hl
  exact lv_lstore_n hc.1 hc.2.1 d rfl hl hn rfl (fun ls1 h1 => kk p e s m args below meth c hc hk H locs ls1 hP hS (lvA_stB h1))
theorem v_lstore (q : Nat) (ls' : List (Option Value)) {k : Nat} {v : Int64} (d : decode (mB M) pc = .ok (.lstore k, 2)) (hq : pc + 2 = q) (hn : k + 1 < mL M) (hls : stB k (.long v) 0 ls = ls') (kk : V x M Q q ls' st I L P) : V x M Q pc ls (.long v :: st) I L P := by
  subst hq
  subst hls
  intro p e s m args below meth c hc hk H locs lsA hP hS hl
  exact lv_lstore hc.1 hc.2.1 d hl hn rfl (fun ls1 h1 => kk p e s m args below meth c hc hk H locs ls1 hP hS (lvA_stB h1))
theorem v_iinc (q : Nat) (ls' : List (Option Value)) {k : Nat} {n : Int} {a : Int32} (v : Int32) (d : decode (mB M) pc = .ok (.iinc k n, 3)) (hq : pc + 3 = q) (hn : k < mL M) (ha : ls[k]? = some (some (.int a))) (hv : a + Int32.ofInt n = v) (hls : stA k (.int v) 0 ls = ls') (kk : V x M Q q ls' st I L P) : V x M Q pc ls st I L P := by
  subst hq
  subst hls
  intro p e s m args below meth c hc hk H locs lsA hP hS hl
  obtain ⟨j, hj⟩ := List.getElem?_of_mem ((lvA_mem ls 0 (k, .int a)).mpr ⟨Nat.zero_le _, ha⟩)
  exact lv_iinc hc.1 hc.2.1 d hl hj hv hn rfl (fun ls1 h1 => kk p e s m args below meth c hc hk H locs ls1 hP hS (lvA_stA h1))
theorem v_iadd (q : Nat) {a b : Int32} (r : Int32) (d : decode (mB M) pc = .ok (.iadd, 1)) (hq : pc + 1 = q) (hr : a + b = r) (kk : V x M Q q ls (.int r :: st) I L P) : V x M Q pc ls (.int b :: .int a :: st) I L P := by
  subst hq
  subst hr
  intro p e s m args below meth c hc hk H locs lsA hP hS hl
  exact lv_iadd hc.1 hc.2.1 d (kk p e s m args below meth c hc hk H locs lsA hP hS hl)
theorem v_isub (q : Nat) {a b : Int32} (r : Int32) (d : decode (mB M) pc = .ok (.isub, 1)) (hq : pc + 1 = q) (hr : a - b = r) (kk : V x M Q q ls (.int r :: st) I L P) : V x M Q pc ls (.int b :: .int a :: st) I L P := by
  subst hq
  subst hr
  intro p e s m args below meth c hc hk H locs lsA hP hS hl
  exact lv_isub hc.1 hc.2.1 d (kk p e s m args below meth c hc hk H locs lsA hP hS hl)
theorem v_imul (q : Nat) {a b : Int32} (r : Int32) (d : decode (mB M) pc = .ok (.imul, 1)) (hq : pc + 1 = q) (hr : a * b = r) (kk : V x M Q q ls (.int r :: st) I L P) : V x M Q pc ls (.int b :: .int a :: st) I L P := by
  subst hq
  subst hr
  intro p e s m args below meth c hc hk H locs lsA hP hS hl
  exact lv_imul hc.1 hc.2.1 d (kk p e s m args below meth c hc hk H locs lsA hP hS hl)
theorem v_iand (q : Nat) {a b : Int32} (r : Int32) (d : decode (mB M) pc = .ok (.iand, 1)) (hq : pc + 1 = q) (hr : a &&& b = r) (kk : V x M Q q ls (.int r :: st) I L P) : V x M Q pc ls (.int b :: .int a :: st) I L P := by
  subst hq
  subst hr
  intro p e s m args below meth c hc hk H locs lsA hP hS hl
  exact lv_iand hc.1 hc.2.1 d (kk p e s m args below meth c hc hk H locs lsA hP hS hl)
theorem v_ior (q : Nat) {a b : Int32} (r : Int32) (d : decode (mB M) pc = .ok (.ior, 1)) (hq : pc + 1 = q) (hr : a ||| b = r) (kk : V x M Q q ls (.int r :: st) I L P) : V x M Q pc ls (.int b :: .int a :: st) I L P := by
  subst hq
  subst hr
  intro p e s m args below meth c hc hk H locs lsA hP hS hl
  exact lv_ior hc.1 hc.2.1 d (kk p e s m args below meth c hc hk H locs lsA hP hS hl)
theorem v_idiv (q : Nat) {a b : Int32} (r : Int32) (d : decode (mB M) pc = .ok (.idiv, 1)) (hq : pc + 1 = q) (hb : ¬ b = 0) (hr : a / b = r) (kk : V x M Q q ls (.int r :: st) I L P) : V x M Q pc ls (.int b :: .int a :: st) I L P := by
  subst hq
  subst hr
  intro p e s m args below meth c hc hk H locs lsA hP hS hl
  exact lv_idiv hc.1 hc.2.1 d hb (kk p e s m args below meth c hc hk H locs lsA hP hS hl)
theorem v_irem (q : Nat) {a b : Int32} (r : Int32) (d : decode (mB M) pc = .ok (.irem, 1)) (hq : pc + 1 = q) (hb : ¬ b = 0) (hr : a - a / b * b = r) (kk : V x M Q q ls (.int r :: st) I L P) : V x M Q pc ls (.int b :: .int a :: st) I L P := by
  subst hq
  subst hr
  intro p e s m args below meth c hc hk H locs lsA hP hS hl
  exact lv_irem hc.1 hc.2.1 d hb (kk p e s m args below meth c hc hk H locs lsA hP hS hl)
theorem v_ishl (q : Nat) {a b : Int32} (r : Int32) (d : decode (mB M) pc = .ok (.ishl, 1)) (hq : pc + 1 = q) (hr : a <<< (b &&& 31) = r) (kk : V x M Q q ls (.int r :: st) I L P) : V x M Q pc ls (.int b :: .int a :: st) I L P := by
  subst hq
  subst hr
  intro p e s m args below meth c hc hk H locs lsA hP hS hl
  exact lv_ishl hc.1 hc.2.1 d (kk p e s m args below meth c hc hk H locs lsA hP hS hl)
theorem v_ishr (q : Nat) {a b : Int32} (r : Int32) (d : decode (mB M) pc = .ok (.ishr, 1)) (hq : pc + 1 = q) (hr : a >>> (b &&& 31) = r) (kk : V x M Q q ls (.int r :: st) I L P) : V x M Q pc ls (.int b :: .int a :: st) I L P := by
  subst hq
  subst hr
  intro p e s m args below meth c hc hk H locs lsA hP hS hl
  exact lv_ishr hc.1 hc.2.1 d (kk p e s m args below meth c hc hk H locs lsA hP hS hl)
theorem v_ladd (q : Nat) {a b : Int64} (r : Int64) (d : decode (mB M) pc = .ok (.ladd, 1)) (hq : pc + 1 = q) (hr : a + b = r) (kk : V x M Q q ls (.long r :: st) I L P) : V x M Q pc ls (.long b :: .long a :: st) I L P := by
  subst hq
  subst hr
  intro p e s m args below meth c hc hk H locs lsA hP hS hl
  exact lv_ladd hc.1 hc.2.1 d (kk p e s m args below meth c hc hk H locs lsA hP hS hl)
theorem v_lsub (q : Nat) {a b : Int64} (r : Int64) (d : decode (mB M) pc = .ok (.lsub, 1)) (hq : pc + 1 = q) (hr : a - b = r) (kk : V x M Q q ls (.long r :: st) I L P) : V x M Q pc ls (.long b :: .long a :: st) I L P := by
  subst hq
  subst hr
  intro p e s m args below meth c hc hk H locs lsA hP hS hl
  exact lv_lsub hc.1 hc.2.1 d (kk p e s m args below meth c hc hk H locs lsA hP hS hl)
theorem v_lmul (q : Nat) {a b : Int64} (r : Int64) (d : decode (mB M) pc = .ok (.lmul, 1)) (hq : pc + 1 = q) (hr : a * b = r) (kk : V x M Q q ls (.long r :: st) I L P) : V x M Q pc ls (.long b :: .long a :: st) I L P := by
  subst hq
  subst hr
  intro p e s m args below meth c hc hk H locs lsA hP hS hl
  exact lv_lmul hc.1 hc.2.1 d (kk p e s m args below meth c hc hk H locs lsA hP hS hl)
theorem v_ldiv (q : Nat) {a b : Int64} (r : Int64) (d : decode (mB M) pc = .ok (.ldiv, 1)) (hq : pc + 1 = q) (hb : ¬ b = 0) (hr : a / b = r) (kk : V x M Q q ls (.long r :: st) I L P) : V x M Q pc ls (.long b :: .long a :: st) I L P := by
  subst hq
  subst hr
  intro p e s m args below meth c hc hk H locs lsA hP hS hl
  exact lv_ldiv hc.1 hc.2.1 d hb (kk p e s m args below meth c hc hk H locs lsA hP hS hl)
theorem v_lrem (q : Nat) {a b : Int64} (r : Int64) (d : decode (mB M) pc = .ok (.lrem, 1)) (hq : pc + 1 = q) (hb : ¬ b = 0) (hr : a - a / b * b = r) (kk : V x M Q q ls (.long r :: st) I L P) : V x M Q pc ls (.long b :: .long a :: st) I L P := by
  subst hq
  subst hr
  intro p e s m args below meth c hc hk H locs lsA hP hS hl
  exact lv_lrem hc.1 hc.2.1 d hb (kk p e s m args below meth c hc hk H locs lsA hP hS hl)
theorem v_i2l (q : Nat) {a : Int32} (r : Int64) (d : decode (mB M) pc = .ok (.i2l, 1)) (hq : pc + 1 = q) (hr : a.toInt64 = r) (kk : V x M Q q ls (.long r :: st) I L P) : V x M Q pc ls (.int a :: st) I L P := by
  subst hq
  intro p e s m args below meth c hc hk H locs lsA hP hS hl
  exact lv_i2l hc.1 hc.2.1 d hr (kk p e s m args below meth c hc hk H locs lsA hP hS hl)
theorem v_l2i (q : Nat) {a : Int64} (r : Int32) (d : decode (mB M) pc = .ok (.l2i, 1)) (hq : pc + 1 = q) (hr : a.toInt32 = r) (kk : V x M Q q ls (.int r :: st) I L P) : V x M Q pc ls (.long a :: st) I L P := by
  subst hq
  intro p e s m args below meth c hc hk H locs lsA hP hS hl
  exact lv_l2i hc.1 hc.2.1 d hr (kk p e s m args below meth c hc hk H locs lsA hP hS hl)
theorem v_i2c (q : Nat) {a : Int32} (r : Int32) (d : decode (mB M) pc = .ok (.i2c, 1)) (hq : pc + 1 = q) (hr : (a.toUInt32 % 65536).toInt32 = r) (kk : V x M Q q ls (.int r :: st) I L P) : V x M Q pc ls (.int a :: st) I L P := by
  subst hq
  intro p e s m args below meth c hc hk H locs lsA hP hS hl
  exact lv_i2c hc.1 hc.2.1 d hr (kk p e s m args below meth c hc hk H locs lsA hP hS hl)
theorem v_dup (q : Nat) {a : Value} (d : decode (mB M) pc = .ok (.dup, 1)) (hq : pc + 1 = q) (ha : a.category = 1) (kk : V x M Q q ls (a :: a :: st) I L P) : V x M Q pc ls (a :: st) I L P := by
  subst hq
  intro p e s m args below meth c hc hk H locs lsA hP hS hl
  exact lv_dup hc.1 hc.2.1 d ha (kk p e s m args below meth c hc hk H locs lsA hP hS hl)
theorem v_dup2 (q : Nat) {a b : Value} (d : decode (mB M) pc = .ok (.dup2, 1)) (hq : pc + 1 = q) (ha : a.category = 1) (hb : b.category = 1) (kk : V x M Q q ls (a :: b :: a :: b :: st) I L P) : V x M Q pc ls (a :: b :: st) I L P := by
  subst hq
  intro p e s m args below meth c hc hk H locs lsA hP hS hl
  exact lv_dup2_11 hc.1 hc.2.1 d ha hb (kk p e s m args below meth c hc hk H locs lsA hP hS hl)
theorem v_goto (q : Nat) {off : Int} (d : decode (mB M) pc = .ok (.goto off, 3)) (ht : (pc : Int) + off = (q : Int)) (kk : V x M Q q ls st I L P) : V x M Q pc ls st I L P := by
  intro p e s m args below meth c hc hk H locs lsA hP hS hl
  exact lv_goto hc.1 hc.2.1 d ht (kk p e s m args below meth c hc hk H locs lsA hP hS hl)
theorem v_if_eq (t q : Nat) {a : Int32} {off : Int} (d : decode (mB M) pc = .ok (.ifCond .eq off, 3)) (ht : (pc : Int) + off = (t : Int)) (hq : pc + 3 = q) (kt : a = 0 → V x M Q t ls st I L P) (kf : ¬ (a = 0) → V x M Q q ls st I L P) : V x M Q pc ls (.int a :: st) I L P := by
  subst hq
  intro p e s m args below meth c hc hk H locs lsA hP hS hl
  exact lv_if_eq hc.1 hc.2.1 d ht (fun h => kt h p e s m args below meth c hc hk H locs lsA hP hS hl) (fun h => kf h p e s m args below meth c hc hk H locs lsA hP hS hl)
theorem v_if_ne (t q : Nat) {a : Int32} {off : Int} (d : decode (mB M) pc = .ok (.ifCond .ne off, 3)) (ht : (pc : Int) + off = (t : Int)) (hq : pc + 3 = q) (kt : ¬ a = 0 → V x M Q t ls st I L P) (kf : a = 0 → V x M Q q ls st I L P) : V x M Q pc ls (.int a :: st) I L P := by
  subst hq
  intro p e s m args below meth c hc hk H locs lsA hP hS hl
  exact lv_if_ne hc.1 hc.2.1 d ht (fun h => kt h p e s m args below meth c hc hk H locs lsA hP hS hl) (fun h => kf h p e s m args below meth c hc hk H locs lsA hP hS hl)
theorem v_if_lt (t q : Nat) {a : Int32} {off : Int} (d : decode (mB M) pc = .ok (.ifCond .lt off, 3)) (ht : (pc : Int) + off = (t : Int)) (hq : pc + 3 = q) (kt : a < 0 → V x M Q t ls st I L P) (kf : ¬ (a < 0) → V x M Q q ls st I L P) : V x M Q pc ls (.int a :: st) I L P := by
  subst hq
  intro p e s m args below meth c hc hk H locs lsA hP hS hl
  exact lv_if_lt hc.1 hc.2.1 d ht (fun h => kt h p e s m args below meth c hc hk H locs lsA hP hS hl) (fun h => kf h p e s m args below meth c hc hk H locs lsA hP hS hl)
theorem v_if_ge (t q : Nat) {a : Int32} {off : Int} (d : decode (mB M) pc = .ok (.ifCond .ge off, 3)) (ht : (pc : Int) + off = (t : Int)) (hq : pc + 3 = q) (kt : 0 ≤ a → V x M Q t ls st I L P) (kf : ¬ (0 ≤ a) → V x M Q q ls st I L P) : V x M Q pc ls (.int a :: st) I L P := by
  subst hq
  intro p e s m args below meth c hc hk H locs lsA hP hS hl
  exact lv_if_ge hc.1 hc.2.1 d ht (fun h => kt h p e s m args below meth c hc hk H locs lsA hP hS hl) (fun h => kf h p e s m args below meth c hc hk H locs lsA hP hS hl)
theorem v_if_gt (t q : Nat) {a : Int32} {off : Int} (d : decode (mB M) pc = .ok (.ifCond .gt off, 3)) (ht : (pc : Int) + off = (t : Int)) (hq : pc + 3 = q) (kt : 0 < a → V x M Q t ls st I L P) (kf : ¬ (0 < a) → V x M Q q ls st I L P) : V x M Q pc ls (.int a :: st) I L P := by
  subst hq
  intro p e s m args below meth c hc hk H locs lsA hP hS hl
  exact lv_if_gt hc.1 hc.2.1 d ht (fun h => kt h p e s m args below meth c hc hk H locs lsA hP hS hl) (fun h => kf h p e s m args below meth c hc hk H locs lsA hP hS hl)
theorem v_if_le (t q : Nat) {a : Int32} {off : Int} (d : decode (mB M) pc = .ok (.ifCond .le off, 3)) (ht : (pc : Int) + off = (t : Int)) (hq : pc + 3 = q) (kt : a ≤ 0 → V x M Q t ls st I L P) (kf : ¬ (a ≤ 0) → V x M Q q ls st I L P) : V x M Q pc ls (.int a :: st) I L P := by
  subst hq
  intro p e s m args below meth c hc hk H locs lsA hP hS hl
  exact lv_if_le hc.1 hc.2.1 d ht (fun h => kt h p e s m args below meth c hc hk H locs lsA hP hS hl) (fun h => kf h p e s m args below meth c hc hk H locs lsA hP hS hl)
theorem v_icmp_eq (t q : Nat) {a b : Int32} {off : Int} (d : decode (mB M) pc = .ok (.if_icmp .eq off, 3)) (ht : (pc : Int) + off = (t : Int)) (hq : pc + 3 = q) (kt : a = b → V x M Q t ls st I L P) (kf : ¬ (a = b) → V x M Q q ls st I L P) : V x M Q pc ls (.int b :: .int a :: st) I L P := by
  subst hq
  intro p e s m args below meth c hc hk H locs lsA hP hS hl
  exact lv_icmp_eq hc.1 hc.2.1 d ht (fun h => kt h p e s m args below meth c hc hk H locs lsA hP hS hl) (fun h => kf h p e s m args below meth c hc hk H locs lsA hP hS hl)
theorem v_icmp_ne (t q : Nat) {a b : Int32} {off : Int} (d : decode (mB M) pc = .ok (.if_icmp .ne off, 3)) (ht : (pc : Int) + off = (t : Int)) (hq : pc + 3 = q) (kt : ¬ a = b → V x M Q t ls st I L P) (kf : a = b → V x M Q q ls st I L P) : V x M Q pc ls (.int b :: .int a :: st) I L P := by
  subst hq
  intro p e s m args below meth c hc hk H locs lsA hP hS hl
  exact lv_icmp_ne hc.1 hc.2.1 d ht (fun h => kt h p e s m args below meth c hc hk H locs lsA hP hS hl) (fun h => kf h p e s m args below meth c hc hk H locs lsA hP hS hl)
theorem v_icmp_lt (t q : Nat) {a b : Int32} {off : Int} (d : decode (mB M) pc = .ok (.if_icmp .lt off, 3)) (ht : (pc : Int) + off = (t : Int)) (hq : pc + 3 = q) (kt : a < b → V x M Q t ls st I L P) (kf : ¬ (a < b) → V x M Q q ls st I L P) : V x M Q pc ls (.int b :: .int a :: st) I L P := by
  subst hq
  intro p e s m args below meth c hc hk H locs lsA hP hS hl
  exact lv_icmp_lt hc.1 hc.2.1 d ht (fun h => kt h p e s m args below meth c hc hk H locs lsA hP hS hl) (fun h => kf h p e s m args below meth c hc hk H locs lsA hP hS hl)
theorem v_icmp_ge (t q : Nat) {a b : Int32} {off : Int} (d : decode (mB M) pc = .ok (.if_icmp .ge off, 3)) (ht : (pc : Int) + off = (t : Int)) (hq : pc + 3 = q) (kt : b ≤ a → V x M Q t ls st I L P) (kf : ¬ (b ≤ a) → V x M Q q ls st I L P) : V x M Q pc ls (.int b :: .int a :: st) I L P := by
  subst hq
  intro p e s m args below meth c hc hk H locs lsA hP hS hl
  exact lv_icmp_ge hc.1 hc.2.1 d ht (fun h => kt h p e s m args below meth c hc hk H locs lsA hP hS hl) (fun h => kf h p e s m args below meth c hc hk H locs lsA hP hS hl)
theorem v_icmp_gt (t q : Nat) {a b : Int32} {off : Int} (d : decode (mB M) pc = .ok (.if_icmp .gt off, 3)) (ht : (pc : Int) + off = (t : Int)) (hq : pc + 3 = q) (kt : b < a → V x M Q t ls st I L P) (kf : ¬ (b < a) → V x M Q q ls st I L P) : V x M Q pc ls (.int b :: .int a :: st) I L P := by
  subst hq
  intro p e s m args below meth c hc hk H locs lsA hP hS hl
  exact lv_icmp_gt hc.1 hc.2.1 d ht (fun h => kt h p e s m args below meth c hc hk H locs lsA hP hS hl) (fun h => kf h p e s m args below meth c hc hk H locs lsA hP hS hl)
theorem v_icmp_le (t q : Nat) {a b : Int32} {off : Int} (d : decode (mB M) pc = .ok (.if_icmp .le off, 3)) (ht : (pc : Int) + off = (t : Int)) (hq : pc + 3 = q) (kt : a ≤ b → V x M Q t ls st I L P) (kf : ¬ (a ≤ b) → V x M Q q ls st I L P) : V x M Q pc ls (.int b :: .int a :: st) I L P := by
  subst hq
  intro p e s m args below meth c hc hk H locs lsA hP hS hl
  exact lv_icmp_le hc.1 hc.2.1 d ht (fun h => kt h p e s m args below meth c hc hk H locs lsA hP hS hl) (fun h => kf h p e s m args below meth c hc hk H locs lsA hP hS hl)
theorem v_lcmp (q : Nat) {a b : Int64} (d : decode (mB M) pc = .ok (.lcmp, 1)) (hq : pc + 1 = q) (kk : V x M Q q ls (.int (lg_cmp a b) :: st) I L P) : V x M Q pc ls (.long b :: .long a :: st) I L P := by
  subst hq
  intro p e s m args below meth c hc hk H locs lsA hP hS hl
  exact W.lcmp hc.1 hc.2.1 d (kk p e s m args below meth c hc hk H locs lsA hP hS hl)
theorem v_ldc2 (q : Nat) (v : Int64) {index : Nat} (d : decode (mB M) pc = .ok (.ldc2_w index, 3)) (hq : pc + 3 = q) (hw : Cond.constantLong (mY M).cls index v ∈ TB) (kk : V x M Q q ls (.long v :: st) I L P) : V x M Q pc ls st I L P := by
  subst hq
  intro p e s m args below meth c hc hk H locs lsA hP hS hl
  exact lv_ldc2 hc.1 hc.2.1 hc.2.2.2.2.1 (hc.2.2.2.2.2.1 _ (List.mem_cons_of_mem _ hw)) d (kk p e s m args below meth c hc hk H locs lsA hP hS hl)
theorem v_ldc (q : Nat) (v : Int32) {index : Nat} (d : decode (mB M) pc = .ok (.ldc index, 2)) (hq : pc + 2 = q) (hw : Cond.constant (mY M).cls index v ∈ TB) (kk : V x M Q q ls (.int v :: st) I L P) : V x M Q pc ls st I L P := by
  subst hq
  intro p e s m args below meth c hc hk H locs lsA hP hS hl
  exact lv_ldc hc.1 hc.2.1 hc.2.2.2.2.1 (hc.2.2.2.2.2.1 _ (List.mem_cons_of_mem _ hw)) d (kk p e s m args below meth c hc hk H locs lsA hP hS hl)
/-! fields -/
def vC (ci : Nat) : String := match ci with
  | 0 => RX0 | 1 => RX1 | 2 => RX2 | 3 => RX3 | 4 => RX4 | 5 => RX5 | 6 => RX6 | 7 => RX7 | _ => RX8
def vT (ci : Nat) : u_T := match ci with
  | 0 => TX0 | 1 => TX1 | 2 => TX2 | 3 => TX3 | 4 => TX4 | 5 => TX5 | 6 => TX6 | 7 => TX7 | _ => TX8
def vY (ci : Nat) : Nat → FieldType := match ci with
  | 0 => tyX0 | 1 => tyX1 | 2 => tyX2 | 3 => tyX3 | 4 => tyX4 | 5 => tyX5 | 6 => tyX6 | 7 => tyX7 | _ => tyX8
theorem v_cl {ci : Nat} (h : ci < 9) : vwCl[ci]? = some (vC ci, vT ci, nf ci) := by
  match ci, h with
  | 0, _ => rfl
  | 1, _ => rfl
  | 2, _ => rfl
  | 3, _ => rfl
  | 4, _ => rfl
  | 5, _ => rfl
  | 6, _ => rfl
  | 7, _ => rfl
  | 8, _ => rfl
theorem v_wi {ci : Nat} (h : ci < 9) : ∀ w ∈ u_ws (vC ci) (vT ci) (nf ci), w ∈ TB := by
  match ci, h with
  | 0, _ => exact wi_X0
  | 1, _ => exact wi_X1
  | 2, _ => exact wi_X2
  | 3, _ => exact wi_X3
  | 4, _ => exact wi_X4
  | 5, _ => exact wi_X5
  | 6, _ => exact wi_X6
  | 7, _ => exact wi_X7
  | 8, _ => exact wi_X8
theorem v_ty {ci : Nat} (h : ci < 9) : ∀ k, k < nf ci → parseFieldDescriptor (vT ci k).2.2.1 = some (vY ci k) := by
  match ci, h with
  | 0, _ => exact tyX0_ok
  | 1, _ => exact tyX1_ok
  | 2, _ => exact tyX2_ok
  | 3, _ => exact tyX3_ok
  | 4, _ => exact tyX4_ok
  | 5, _ => exact tyX5_ok
  | 6, _ => exact tyX6_ok
  | 7, _ => exact tyX7_ok
  | 8, _ => exact tyX8_ok
theorem v_nm {ci : Nat} (h : ci < 9) : ∀ a, a < nf ci → ∀ b, b < nf ci → a ≠ b → (vT ci a).2.1 ≠ (vT ci b).2.1 := by
  match ci, h with
  | 0, _ => exact nmX0
  | 1, _ => exact nmX1
  | 2, _ => exact nmX2
  | 3, _ => exact nmX3
  | 4, _ => exact nmX4
  | 5, _ => exact nmX5
  | 6, _ => exact nmX6
  | 7, _ => exact nmX7
  | 8, _ => exact nmX8
theorem cE_obj {i ci : Nat} (h : hs i = (0, ci)) : cE x I L P i = .inr (ci, (List.range (nf ci)).map (fvl x ci i I L)) := by
  simp [cE, h]
theorem cE_i {i n : Nat} (h : hs i = (1, n)) : cE x I L P i = .inl (x_I x, n, .inl (I i)) := by
  simp [cE, h]
theorem cE_c {i n : Nat} (h : hs i = (2, n)) : cE x I L P i = .inl (x_C x, n, .inl (I i)) := by
  simp [cE, h]
theorem cE_l {i n : Nat} (h : hs i = (3, n)) : cE x I L P i = .inl (x_J x, n, .inr (.inl (L i))) := by
  simp [cE, h]
theorem cE_r {i n : Nat} (h : hs i = (4, n)) : cE x I L P i = .inl (x_R x, n, .inr (.inr (.inr (.inr (fun j => some (x_ad x (P j))))))) := by
  simp [cE, h]
theorem cE_same {i : Nat} {I' : Iv} {L' : Lv} (hI : I' i = I i) (hL : L' i = L i) : cE x I' L' P i = cE x I L P i := by
  have e : ∀ ci, fvl x ci i I' L' = fvl x ci i I L := fun ci => funext fun k => by simp only [fvl, hI, hL]
  simp only [cE, hI, hL, e]
def up2 {α : Type} (f : Nat → Nat → α) (i k : Nat) (a : α) : Nat → Nat → α := fun p q => if p = i ∧ q = k then a else f p q
theorem up2_ne {α : Type} {f : Nat → Nat → α} {i k j : Nat} {a : α} (h : j ≠ i) : up2 f i k a j = f j := by
  funext q
  simp [up2, h]
theorem up2_upd {f : Iv} {i k : Nat} {a : Int32} : up2 f i k a i = upd (f i) k a := by
  funext q
  simp [up2, upd]
theorem up2_updL {f : Lv} {i k : Nat} {a : Int64} : up2 f i k a i = vp_updL (f i) k a := by
  funext q
  simp [up2, vp_updL]
theorem fvl_set {ci i k n : Nat} {I' : Iv} {L' : Lv} {v : Value} (hk : k < n) (h1 : fvl x ci i I' L' k = v) (h2 : ∀ j, j ≠ k → fvl x ci i I' L' j = fvl x ci i I L j) : (List.range n).map (fvl x ci i I' L') = ((List.range n).map (fvl x ci i I L)).set k v := by
  apply List.ext_getElem?
  intro j
  rw [List.getElem?_set]
  by_cases e : k = j
  · subst e
    simp [hk, h1]
  · rw [if_neg e]
    by_cases hj : j < n
    · simp [hj, h2 j (fun q => e q.symm)]
    · simp [hj]

theorem v_get (q : Nat) {index i k : Nat} (ci : Nat) (v : Value) (hi : i < 54) (hs1 : hs i = (0, ci)) (hci : ci < 9) (hk1 : k < nf ci) (d : decode (mB M) pc = .ok (.getfield index, 3)) (hq : pc + 3 = q) (hw : Cond.fieldLink (mY M).cls index (vT ci k).1 (vT ci k).2.1 (vT ci k).2.2.1 ∈ TB) (hv : fvl x ci i I L k = v) (kk : V x M Q q ls (v :: st) I L P) : V x M Q pc ls (rfv x i :: st) I L P := by
  subst hq
  intro p e s m args below meth c hc hk H locs lsA hP hS hl
  exact va_get hc.1 hc.2.1 (Ts := TB) (fun w hw => hc.2.2.2.2.2.1 w (List.mem_cons_of_mem _ hw)) (v_wi hci) hc.2.2.2.2.1 hk.1 hP i ((wl_get hi).trans (by rw [cE_obj hs1])) (v_cl hci) k hk1 (hc.2.2.2.2.2.1 _ (List.mem_cons_of_mem _ hw)) (fun _ h9 => h9) (v := v) (by simp [hk1, hv]) d (kk p e s m args below meth c hc hk H locs lsA hP hS hl)
theorem v_putI (q : Nat) {index i k : Nat} (ci : Nat) {a : Int32} (ty : FieldType) (hi : i < 54) (hs1 : hs i = (0, ci)) (hci : ci < 9) (hk1 : k < nf ci) (hfin : (vT ci k).2.2.2 = false) (hd : parseFieldDescriptor (vT ci k).2.2.1 = some ty) (hn : narrow ty (.int a) = .int a) (hft : fits ty (.int a) = true) (hfv : ∀ (I9 : Iv) (L9 : Lv), fvl x ci i I9 L9 k = .int (I9 i k)) (d : decode (mB M) pc = .ok (.putfield index, 3)) (hq : pc + 3 = q) (hw : Cond.fieldLink (mY M).cls index (vT ci k).1 (vT ci k).2.1 (vT ci k).2.2.1 ∈ TB) (kk : ∀ Z, Z = up2 I i k a → V x M Q q ls st Z L P) : V x M Q pc ls (.int a :: rfv x i :: st) I L P := by
  subst hq
  intro p e s m args below meth c hc hk H locs lsA hP hS hl
  refine va_put hc.1 hc.2.1 (Ts := TB) (fun w hw => hc.2.2.2.2.2.1 w (List.mem_cons_of_mem _ hw)) (v_wi hci) (vY ci) (v_ty hci) (v_nm hci) hc.2.2.2.2.1 hk.1 hP (wl_D _ hk.2.2) hS i ((wl_get hi).trans (by rw [cE_obj hs1])) (v_cl hci) k hk1 (hc.2.2.2.2.2.1 _ (List.mem_cons_of_mem _ hw)) (fun _ h9 => h9) hfin hd hn hft (by simp [hk1]) d (fun H1 locs1 hP1 _ hS1 => ?_)
  rw [wl_set (E' := cE x (up2 I i k a) L P) hi (by rw [cE_obj hs1, fvl_set (I := I) (L := L) (v := .int a) hk1 ((hfv _ _).trans (by simp [up2])) (fun j hj => by simp only [fvl, up2, hj, and_false, if_false])]) (fun j hj => cE_same (up2_ne hj) rfl)] at hP1
  exact kk _ rfl p e s m args below meth c hc hk H1 locs1 lsA hP1 hS1 hl
theorem v_putL (q : Nat) {index i k : Nat} (ci : Nat) {a : Int64} (ty : FieldType) (hi : i < 54) (hs1 : hs i = (0, ci)) (hci : ci < 9) (hk1 : k < nf ci) (hfin : (vT ci k).2.2.2 = false) (hd : parseFieldDescriptor (vT ci k).2.2.1 = some ty) (hn : narrow ty (.long a) = .long a) (hft : fits ty (.long a) = true) (hfv : ∀ (I9 : Iv) (L9 : Lv), fvl x ci i I9 L9 k = .long (L9 i k)) (d : decode (mB M) pc = .ok (.putfield index, 3)) (hq : pc + 3 = q) (hw : Cond.fieldLink (mY M).cls index (vT ci k).1 (vT ci k).2.1 (vT ci k).2.2.1 ∈ TB) (kk : ∀ Z, Z = up2 L i k a → V x M Q q ls st I Z P) : V x M Q pc ls (.long a :: rfv x i :: st) I L P := by
  subst hq
  intro p e s m args below meth c hc hk H locs lsA hP hS hl
  refine va_put hc.1 hc.2.1 (Ts := TB) (fun w hw => hc.2.2.2.2.2.1 w (List.mem_cons_of_mem _ hw)) (v_wi hci) (vY ci) (v_ty hci) (v_nm hci) hc.2.2.2.2.1 hk.1 hP (wl_D _ hk.2.2) hS i ((wl_get hi).trans (by rw [cE_obj hs1])) (v_cl hci) k hk1 (hc.2.2.2.2.2.1 _ (List.mem_cons_of_mem _ hw)) (fun _ h9 => h9) hfin hd hn hft (by simp [hk1]) d (fun H1 locs1 hP1 _ hS1 => ?_)
  rw [wl_set (E' := cE x I (up2 L i k a) P) hi (by rw [cE_obj hs1, fvl_set (I := I) (L := L) (v := .long a) hk1 ((hfv _ _).trans (by simp [up2])) (fun j hj => by simp only [fvl, up2, hj, and_false, if_false])]) (fun j hj => cE_same rfl (up2_ne hj))] at hP1
  exact kk _ rfl p e s m args below meth c hc hk H1 locs1 lsA hP1 hS1 hl
theorem v_getN (q : Nat) {index i k : Nat} (ci : Nat) {host : String} (v : Value) (hi : i < 54) (hs1 : hs i = (0, ci)) (hci : ci < 9) (hk1 : k < nf ci) (d : decode (mB M) pc = .ok (.getfield index, 3)) (hq : pc + 3 = q) (hw : Cond.fieldLinkNest (mY M).cls index (vT ci k).1 (vT ci k).2.1 (vT ci k).2.2.1 host ∈ nestW) (hv : fvl x ci i I L k = v) (kk : V x M Q q ls (v :: st) I L P) : V x M Q pc ls (rfv x i :: st) I L P := by
  subst hq
  intro p e s m args below meth c hc hk H locs lsA hP hS hl
  exact va_getN hc.1 hc.2.1 (Ts := TB) (fun w hw => hc.2.2.2.2.2.1 w (List.mem_cons_of_mem _ hw)) (v_wi hci) hc.2.2.2.2.1 hk.1 hP i ((wl_get hi).trans (by rw [cE_obj hs1])) (v_cl hci) k hk1 (va_Nw.use rfl (hk.2.1 _ hw)) (fun _ h9 => h9) (v := v) (by simp [hk1, hv]) d (kk p e s m args below meth c hc hk H locs lsA hP hS hl)
theorem v_putIN (q : Nat) {index i k : Nat} (ci : Nat) {host : String} {a : Int32} (ty : FieldType) (hi : i < 54) (hs1 : hs i = (0, ci)) (hci : ci < 9) (hk1 : k < nf ci) (hfin : (vT ci k).2.2.2 = false) (hd : parseFieldDescriptor (vT ci k).2.2.1 = some ty) (hn : narrow ty (.int a) = .int a) (hft : fits ty (.int a) = true) (hfv : ∀ (I9 : Iv) (L9 : Lv), fvl x ci i I9 L9 k = .int (I9 i k)) (d : decode (mB M) pc = .ok (.putfield index, 3)) (hq : pc + 3 = q) (hw : Cond.fieldLinkNest (mY M).cls index (vT ci k).1 (vT ci k).2.1 (vT ci k).2.2.1 host ∈ nestW) (kk : ∀ Z, Z = up2 I i k a → V x M Q q ls st Z L P) : V x M Q pc ls (.int a :: rfv x i :: st) I L P := by
  subst hq
  intro p e s m args below meth c hc hk H locs lsA hP hS hl
  refine va_putN hc.1 hc.2.1 (Ts := TB) (fun w hw => hc.2.2.2.2.2.1 w (List.mem_cons_of_mem _ hw)) (v_wi hci) (vY ci) (v_ty hci) (v_nm hci) hc.2.2.2.2.1 hk.1 hP (wl_D _ hk.2.2) hS i ((wl_get hi).trans (by rw [cE_obj hs1])) (v_cl hci) k hk1 (va_Nw.use rfl (hk.2.1 _ hw)) (fun _ h9 => h9) hfin hd hn hft (by simp [hk1]) d (fun H1 locs1 hP1 _ hS1 => ?_)
  rw [wl_set (E' := cE x (up2 I i k a) L P) hi (by rw [cE_obj hs1, fvl_set (I := I) (L := L) (v := .int a) hk1 ((hfv _ _).trans (by simp [up2])) (fun j hj => by simp only [fvl, up2, hj, and_false, if_false])]) (fun j hj => cE_same (up2_ne hj) rfl)] at hP1
  exact kk _ rfl p e s m args below meth c hc hk H1 locs1 lsA hP1 hS1 hl
theorem v_putLN (q : Nat) {index i k : Nat} (ci : Nat) {host : String} {a : Int64} (ty : FieldType) (hi : i < 54) (hs1 : hs i = (0, ci)) (hci : ci < 9) (hk1 : k < nf ci) (hfin : (vT ci k).2.2.2 = false) (hd : parseFieldDescriptor (vT ci k).2.2.1 = some ty) (hn : narrow ty (.long a) = .long a) (hft : fits ty (.long a) = true) (hfv : ∀ (I9 : Iv) (L9 : Lv), fvl x ci i I9 L9 k = .long (L9 i k)) (d : decode (mB M) pc = .ok (.putfield index, 3)) (hq : pc + 3 = q) (hw : Cond.fieldLinkNest (mY M).cls index (vT ci k).1 (vT ci k).2.1 (vT ci k).2.2.1 host ∈ nestW) (kk : ∀ Z, Z = up2 L i k a → V x M Q q ls st I Z P) : V x M Q pc ls (.long a :: rfv x i :: st) I L P := by
  subst hq
  intro p e s m args below meth c hc hk H locs lsA hP hS hl
  refine va_putN hc.1 hc.2.1 (Ts := TB) (fun w hw => hc.2.2.2.2.2.1 w (List.mem_cons_of_mem _ hw)) (v_wi hci) (vY ci) (v_ty hci) (v_nm hci) hc.2.2.2.2.1 hk.1 hP (wl_D _ hk.2.2) hS i ((wl_get hi).trans (by rw [cE_obj hs1])) (v_cl hci) k hk1 (va_Nw.use rfl (hk.2.1 _ hw)) (fun _ h9 => h9) hfin hd hn hft (by simp [hk1]) d (fun H1 locs1 hP1 _ hS1 => ?_)
  rw [wl_set (E' := cE x I (up2 L i k a) P) hi (by rw [cE_obj hs1, fvl_set (I := I) (L := L) (v := .long a) hk1 ((hfv _ _).trans (by simp [up2])) (fun j hj => by simp only [fvl, up2, hj, and_false, if_false])]) (fun j hj => cE_same rfl (up2_ne hj))] at hP1
  exact kk _ rfl p e s m args below meth c hc hk H1 locs1 lsA hP1 hS1 hl
/-! rows of arrays -/
theorem v_iald (q : Nat) {i n k : Nat} {j : Int32} (a : Int32) (hi : i < 54) (hs1 : hs i = (1, n)) (hb : n < 2147483648) (d : decode (mB M) pc = .ok (.iaload, 1)) (hq : pc + 1 = q) (hj : j = nI k) (hk1 : k < n) (hv : I i k = a) (kk : V x M Q q ls (.int a :: st) I L P) : V x M Q pc ls (.int j :: rfv x i :: st) I L P := by
  subst hq
  subst hj
  subst hv
  intro p e s m args below meth c hc hk H locs lsA hP hS hl
  refine va_iald hc.1 hc.2.1 hk.1 hP i 0 ((wl_get hi).trans (by rw [cE_i hs1])) rfl (vp_in_nI hk1 hb) d ?_
  rw [nI_clamp (Nat.lt_trans hk1 hb)]
  exact kk p e s m args below meth c hc hk H locs lsA hP hS hl
theorem v_iast (q : Nat) {i n k : Nat} {j : Int32} {a : Int32} (b : Int32) (hi : i < 54) (hs1 : hs i = (1, n)) (hb : n < 2147483648) (d : decode (mB M) pc = .ok (.iastore, 1)) (hq : pc + 1 = q) (hj : j = nI k) (hk1 : k < n) (hb2 : a = b) (kk : ∀ Z, Z = up2 I i k b → V x M Q q ls st Z L P) : V x M Q pc ls (.int a :: .int j :: rfv x i :: st) I L P := by
  subst hq
  subst hj
  subst hb2
  intro p e s m args below meth c hc hk H locs lsA hP hS hl
  refine va_iast hc.1 hc.2.1 hk.1 hP (wl_D _ hk.2.2) hS i 0 ((wl_get hi).trans (by rw [cE_i hs1])) rfl (vp_in_nI hk1 hb) d (fun H1 locs1 hP1 _ hS1 => ?_)
  rw [nI_clamp (Nat.lt_trans hk1 hb), wl_set (E' := cE x (up2 I i k a) L P) hi (by rw [cE_i hs1, up2_upd]) (fun j hj => cE_same (up2_ne hj) rfl)] at hP1
  exact kk _ rfl p e s m args below meth c hc hk H1 locs1 lsA hP1 hS1 hl
theorem v_cald (q : Nat) {i n k : Nat} {j : Int32} (a : Int32) (hi : i < 54) (hs1 : hs i = (2, n)) (hb : n < 2147483648) (d : decode (mB M) pc = .ok (.caload, 1)) (hq : pc + 1 = q) (hj : j = nI k) (hk1 : k < n) (hv : I i k = a) (kk : V x M Q q ls (.int a :: st) I L P) : V x M Q pc ls (.int j :: rfv x i :: st) I L P := by
  subst hq
  subst hj
  subst hv
  intro p e s m args below meth c hc hk H locs lsA hP hS hl
  refine va_cald hc.1 hc.2.1 hk.1 hP i 1 ((wl_get hi).trans (by rw [cE_c hs1])) rfl (vp_in_nI hk1 hb) d ?_
  rw [nI_clamp (Nat.lt_trans hk1 hb)]
  exact kk p e s m args below meth c hc hk H locs lsA hP hS hl
theorem v_cast (q : Nat) {i n k : Nat} {j : Int32} {a : Int32} (b : Int32) (hi : i < 54) (hs1 : hs i = (2, n)) (hb : n < 2147483648) (d : decode (mB M) pc = .ok (.castore, 1)) (hq : pc + 1 = q) (hj : j = nI k) (hk1 : k < n) (hb2 : vp_nar .char a = b) (kk : ∀ Z, Z = up2 I i k b → V x M Q q ls st Z L P) : V x M Q pc ls (.int a :: .int j :: rfv x i :: st) I L P := by
  subst hq
  subst hj
  subst hb2
  intro p e s m args below meth c hc hk H locs lsA hP hS hl
  refine va_cast hc.1 hc.2.1 hk.1 hP (wl_D _ hk.2.2) hS i 1 ((wl_get hi).trans (by rw [cE_c hs1])) rfl (vp_in_nI hk1 hb) d (fun H1 locs1 hP1 _ hS1 => ?_)
  rw [nI_clamp (Nat.lt_trans hk1 hb), wl_set (E' := cE x (up2 I i k (vp_nar .char a)) L P) hi (by rw [cE_c hs1, up2_upd]) (fun j hj => cE_same (up2_ne hj) rfl)] at hP1
  exact kk _ rfl p e s m args below meth c hc hk H1 locs1 lsA hP1 hS1 hl
theorem v_lald (q : Nat) {i n k : Nat} {j : Int32} (a : Int64) (hi : i < 54) (hs1 : hs i = (3, n)) (hb : n < 2147483648) (d : decode (mB M) pc = .ok (.laload, 1)) (hq : pc + 1 = q) (hj : j = nI k) (hk1 : k < n) (hv : L i k = a) (kk : V x M Q q ls (.long a :: st) I L P) : V x M Q pc ls (.int j :: rfv x i :: st) I L P := by
  subst hq
  subst hj
  subst hv
  intro p e s m args below meth c hc hk H locs lsA hP hS hl
  refine va_lald hc.1 hc.2.1 hk.1 hP i 2 ((wl_get hi).trans (by rw [cE_l hs1])) rfl (vp_in_nI hk1 hb) d ?_
  rw [nI_clamp (Nat.lt_trans hk1 hb)]
  exact kk p e s m args below meth c hc hk H locs lsA hP hS hl
theorem v_last (q : Nat) {i n k : Nat} {j : Int32} {a : Int64} (hi : i < 54) (hs1 : hs i = (3, n)) (hb : n < 2147483648) (d : decode (mB M) pc = .ok (.lastore, 1)) (hq : pc + 1 = q) (hj : j = nI k) (hk1 : k < n) (kk : ∀ Z, Z = up2 L i k a → V x M Q q ls st I Z P) : V x M Q pc ls (.long a :: .int j :: rfv x i :: st) I L P := by
  subst hq
  subst hj
  intro p e s m args below meth c hc hk H locs lsA hP hS hl
  refine va_last hc.1 hc.2.1 hk.1 hP (wl_D _ hk.2.2) hS i 2 ((wl_get hi).trans (by rw [cE_l hs1])) rfl (vp_in_nI hk1 hb) d (fun H1 locs1 hP1 _ hS1 => ?_)
  rw [nI_clamp (Nat.lt_trans hk1 hb), wl_set (E' := cE x I (up2 L i k a) P) hi (by rw [cE_l hs1, up2_updL]) (fun j hj => cE_same rfl (up2_ne hj))] at hP1
  exact kk _ rfl p e s m args below meth c hc hk H1 locs1 lsA hP1 hS1 hl
theorem v_alen (q : Nat) {i n : Nat} (a : Int32) (hi : i < 54) (hs1 : hs i = (1, n)) (d : decode (mB M) pc = .ok (.arraylength, 1)) (hq : pc + 1 = q) (hv : nI n = a) (kk : V x M Q q ls (.int a :: st) I L P) : V x M Q pc ls (rfv x i :: st) I L P := by
  subst hq
  intro p e s m args below meth c hc hk H locs lsA hP hS hl
  exact va_alen hc.1 hc.2.1 hk.1 hP i 0 ((wl_get hi).trans (by rw [cE_i hs1])) (ty := .int) rfl (show Int32.ofNat n = a from hv) d (kk p e s m args below meth c hc hk H locs lsA hP hS hl)
theorem v_aald (q : Nat) {i n k : Nat} {j : Int32} (a : Nat) (hi : i < 54) (hs1 : hs i = (4, n)) (hb : n < 2147483648) (d : decode (mB M) pc = .ok (.aaload, 1)) (hq : pc + 1 = q) (hj : j = nI k) (hk1 : k < n) (hv : P k = a) (kk : V x M Q q ls (rfv x a :: st) I L P) : V x M Q pc ls (.int j :: rfv x i :: st) I L P := by
  subst hq
  subst hj
  subst hv
  intro p e s m args below meth c hc hk H locs lsA hP hS hl
  refine va_aldq hc.1 hc.2.1 hk.1 hP i 3 ((wl_get hi).trans (by rw [cE_r hs1])) (C := "HiddenRuns$Model") rfl (vp_in_nI hk1 hb) d ?_
  rw [nI_clamp (Nat.lt_trans hk1 hb)]
  exact kk p e s m args below meth c hc hk H locs lsA hP hS hl
theorem cE_P {i : Nat} {P' : Pv} (h : i ≠ 10) (hi : i < 54) : cE x I L P' i = cE x I L P i := by
  have e : (hs i).1 ≠ 4 := (show ∀ i, i < 54 → i ≠ 10 → (hs i).1 ≠ 4 by decide +kernel) i hi h
  have e2 : (hs i).1 = 0 ∨ (hs i).1 = 1 ∨ (hs i).1 = 2 ∨ (hs i).1 = 3 := (show ∀ i, i < 54 → i ≠ 10 → (hs i).1 = 0 ∨ (hs i).1 = 1 ∨ (hs i).1 = 2 ∨ (hs i).1 = 3 by decide +kernel) i hi h
  obtain ⟨a, b⟩ : ∃ y, hs i = y := ⟨_, rfl⟩
  generalize hy : hs i = y at *
  obtain ⟨y1, y2⟩ := y
  simp only at e2
  rcases e2 with rfl | rfl | rfl | rfl <;> simp [cE, hy]
theorem wl_set' {E E' : Nat → va_E} {i : Nat} {e : va_E} (h : i < 54) (h1 : E' i = e) (h2 : ∀ j, j < 54 → j ≠ i → E' j = E j) : (wl x E).set i (x_ad x i, e) = wl x E' := by
  rw [wl_set (E' := fun j => if j = i then e else E j) h (by simp) (fun j hj => by simp [hj])]
  unfold wl
  apply List.map_congr_left
  intro j hj
  have hj2 : j < 54 := List.mem_range.mp hj
  by_cases e0 : j = i
  · subst e0
    simp [h1]
  · simp [e0, h2 j hj2 e0]
theorem v_aast (q : Nat) {k v : Nat} {j : Int32} (hv3 : v < 54) (hs2 : hs v = (0, 3)) (d : decode (mB M) pc = .ok (.aastore, 1)) (hq : pc + 1 = q) (hj : j = nI k) (hk1 : k < 4) (kk : ∀ Z, Z = va_up P k v → V x M Q q ls st I L Z) : V x M Q pc ls (rfv x v :: .int j :: rfv x 10 :: st) I L P := by
  subst hq
  subst hj
  intro p e s m args below meth c hc hk H locs lsA hP hS hl
  refine va_astq hc.1 hc.2.1 hk.1 hP (wl_D _ hk.2.2) hS 10 3 v 3 (r := (RX3, TX3, 6)) ((wl_get (by decide)).trans (by rw [cE_r (i := 10) (n := 4) rfl])) rfl ((wl_get hv3).trans (by rw [cE_obj hs2])) rfl (vp_in_nI hk1 (by decide)) d (fun H1 locs1 hP1 _ hS1 => ?_)
  rw [nI_clamp (Nat.lt_trans hk1 (by decide)), wl_set' (E' := cE x I L (va_up P k v)) (by decide) (by
    rw [cE_r (i := 10) (n := 4) rfl]
    have e9 : (fun j => some (x_ad x (va_up P k v j))) = va_up (fun j => some (x_ad x (P j))) k (some (x_ad x v)) := by
      funext z
      by_cases hz : z = k <;> simp [va_up, hz]
    rw [e9]) (fun j hj hne => cE_P hne hj)] at hP1
  exact kk _ rfl p e s m args below meth c hc hk H1 locs1 lsA hP1 hS1 hl
/-! ends -/
theorem v_iret {a : Int32} (hr : mR M = some .int) (d : decode (mB M) pc = .ok (.ireturn, 1)) (hQ : Q (some (.int a)) I L P) : V x M Q pc ls [.int a] I L P := by
  intro p e s m args below meth c hc hk H locs lsA hP hS hl
  exact W.iret hc.1 hc.2.1 (hc.2.2.1.trans hr) (fun t ht hW => ⟨⟨some (.int a), I, L, P, rfl, hQ, by rw [ht]; exact hP⟩, hS.F ht⟩) hS.2.2 d hc.2.2.2.2.2.2
theorem v_zret {a : Int32} (hr : mR M = some .boolean) (d : decode (mB M) pc = .ok (.ireturn, 1)) (hn : narrow .boolean (.int a) = .int a) (hQ : Q (some (.int a)) I L P) : V x M Q pc ls [.int a] I L P := by
  intro p e s m args below meth c hc hk H locs lsA hP hS hl
  exact W.zret hc.1 hc.2.1 (hc.2.2.1.trans hr) hn (fun t ht hW => ⟨⟨some (.int a), I, L, P, rfl, hQ, by rw [ht]; exact hP⟩, hS.F ht⟩) hS.2.2 d hc.2.2.2.2.2.2
theorem v_lret {a : Int64} (hr : mR M = some .long) (d : decode (mB M) pc = .ok (.lreturn, 1)) (hQ : Q (some (.long a)) I L P) : V x M Q pc ls [.long a] I L P := by
  intro p e s m args below meth c hc hk H locs lsA hP hS hl
  exact W.lret hc.1 hc.2.1 (hc.2.2.1.trans hr) (fun t ht hW => ⟨⟨some (.long a), I, L, P, rfl, hQ, by rw [ht]; exact hP⟩, hS.F ht⟩) hS.2.2 d hc.2.2.2.2.2.2
theorem v_vret (hr : mR M = none) (d : decode (mB M) pc = .ok (.return_, 1)) (hQ : Q none I L P) : V x M Q pc ls [] I L P := by
  intro p e s m args below meth c hc hk H locs lsA hP hS hl
  exact W.vret hc.1 hc.2.1 (hc.2.2.1.trans hr) (fun t ht hW => ⟨⟨none, I, L, P, rfl, hQ, by rw [ht]; exact hP⟩, hS.F ht⟩) hS.2.2 d hc.2.2.2.2.2.2
/-! calls -/
/-- what the tables say of a method of its own: not of the place of its call -/
def MC (M' : MI) (n : Nat) : Prop := Cond.code (mY M') (mB M') (mL M') (mR M') ∈ TB ∧ Cond.initialized (mY M').cls ∈ TB ∧ (mY M').cls ≠ "java/lang/invoke/MethodHandle" ∧ (mY M').cls ≠ "java/lang/invoke/VarHandle" ∧ (parseMethodDescriptor (mY M').desc).map (fun d => d.parameters.length) = some n
def roomOk (M M' : MI) : Bool := decide (mF M' + 1 ≤ mF M) && decide (8 + (mL M' + 11) + mO M' ≤ mO M)
theorem roomOk_spec {M M' : MI} (h : roomOk M M' = true) : mF M' + 1 ≤ mF M ∧ 8 + (mL M' + 11) + mO M' ≤ mO M := by
  simpa [roomOk] using h
theorem v_fin {p : Program} {e : Env} {s : State} {m : MethodId} {args : Array Value} {below : List Frame} {meth : Method} {c : Code} {H : Heap} {locs : List Loc} {lsA : Array Slot} {R : Room} {Qz : State → Prop} {Q' : Qt} {a : Array Value} {st0 : List Value} (hr : va_Run p (x_l x) e R s m args below meth c H locs 0 0 0 0 (F0 m pc lsA st0) st (QcO x Q' a) (AA x)) (hS : va_S (AA x) s.heap H locs)
    (kk : ∀ v I' L' P' H1 locs1, Q' v I' L' P' → HP x I' L' P' H1 → va_S (AA x) s.heap H1 locs1 → W p (x_l x) e R s m args below meth c H1 locs1 0 0 Qz (F0 m (pc + 3) lsA (v.toList ++ st))) : W p (x_l x) e R s m args below meth c H locs 0 0 Qz (F0 m pc lsA st0) := by
  intro T hT X
  obtain ⟨v, st₀, t, T', L0, h0, X', hL, e1, e2, ⟨⟨v2, I', L', P', hv, hq, hP⟩, hz, hk⟩, st⟩ := hr T hT X
  cases hv
  rw [h0] at hz hk
  obtain ⟨t2, a1, b1⟩ := kk v I' L' P' T'.heap (locs ++ L0) hq (by rw [e1]; exact hP)
    ⟨Nat.le_trans hS.1 (by rw [e1]; exact hz), fun q h1 h2 => by rw [e1, hk q (Nat.lt_of_lt_of_le h1 hS.1) h2]; exact hS.2.1 q h1 h2, fun q hq => by
      rcases List.mem_append.mp hq with h | h
      · exact hS.2.2 q h
      · exact hL q h⟩ T' rfl X'
  exact ⟨t2, st t2 a1, b1⟩
theorem wsM_ok {M' : MI} {n : Nat} (h : MC M' n) : ∀ w ∈ wsM M', w ∈ TB := by
  intro w hw
  rcases List.mem_cons.mp hw with rfl | hw
  · exact h.1
  · exact hw
theorem gI_V {M M' : MI} {n index : Nat} {own C : String} (h : MC M' n) (h1 : Cond.methodLink own index (mY M') ∈ TB) (h2 : Cond.instanceMethod (mY M') ∈ TB) (h3 : Cond.selects C (mY M') (mY M') ∈ TB) (h4 : Cond.initialized C ∈ TB) : GoodIn (wsM M) (wsV own index C (mY M') (wsM M')) := by
  intro w hw
  have : w ∈ TB := by
    rcases List.mem_append.mp hw with hw | hw
    · simp only [List.mem_cons, List.not_mem_nil, or_false] at hw
      rcases hw with rfl | rfl | rfl | rfl
      · exact h1
      · exact h2
      · exact h3
      · exact h4
    · exact wsM_ok h w hw
  exact ⟨List.mem_cons_of_mem _ this, good_of_word (TB_good w this)⟩
theorem gI_S {M M' : MI} {n index : Nat} {own : String} (h : MC M' n) (h1 : Cond.methodLink own index (mY M') ∈ TB) (h2 : Cond.static (mY M') ∈ TB) (h4 : Cond.initialized own ∈ TB) : GoodIn (wsM M) (wsS own index (mY M') (wsM M')) := by
  intro w hw
  have : w ∈ TB := by
    rcases List.mem_append.mp hw with hw | hw
    · simp only [List.mem_cons, List.not_mem_nil, or_false] at hw
      rcases hw with rfl | rfl | rfl
      · exact h1
      · exact h2
      · exact h4
    · exact wsM_ok h w hw
  exact ⟨List.mem_cons_of_mem _ this, good_of_word (TB_good w this)⟩
theorem gI_M {M M' : MI} {n : Nat} (h : MC M' n) : GoodIn (wsM M) (wsM M') := by
  intro w hw
  have : w ∈ TB := wsM_ok h w hw
  exact ⟨List.mem_cons_of_mem _ this, good_of_word (TB_good w this)⟩

theorem v_invV (q : Nat) (M' : MI) (As : List Value) {index i ci : Nat} (hi : i < 54) (hs1 : hs i = (0, ci)) (hci : ci < 9) (hC : vC ci = (mY M').cls) (d : decode (mB M) pc = .ok (.invokevirtual index, 3)) (hq : pc + 3 = q) (hm : Cond.methodLink (mY M).cls index (mY M') ∈ TB) (him : Cond.instanceMethod (mY M') ∈ TB) (hse : Cond.selects (mY M').cls (mY M') (mY M') ∈ TB) (hmc : MC M' As.length) (hroom : roomOk M M' = true) (hW : (st.map fun v => v.category).sum ≤ 8) (hsp : SP x M' (rfv x i :: As) I L P (fun v I' L' P' => V x M Q q ls (v.toList ++ st) I' L' P')) : V x M Q pc ls (As.reverse ++ rfv x i :: st) I L P := by
  subst hq
  intro p e s m args below meth c hc hk H locs lsA hP hS hl
  have he : (wl x (cE x I L P))[i]? = some (x_ad x i, .inr (ci, (List.range (nf ci)).map (fvl x ci i I L))) := (wl_get hi).trans (by rw [cE_obj hs1])
  refine v_fin (va_runV (nL := mL M) (Ts := wsM M) (own := (mY M).cls) (C := (mY M').cls) (As := As) (rest := st) ⟨hc.1, hc.2.1, hc.2.2.2.1, hc.2.2.2.2.1, hc.2.2.2.2.2.1⟩ hsp (cwV As.length hc.2.2.2.2.2.1 (gI_V hmc hm him hse hmc.2.1) rfl rfl rfl ⟨rfl, hmc.2.2⟩ (roomOk_spec hroom)) ⟨PcO_blind _ _ _ _ _, ?_, fun U hU hW => ⟨rfl, by rw [hU]; exact hP, hk.warm hW⟩⟩ rfl rfl hl.1 rfl (lv_room hW) d ⟨Nat.le_refl _, Nat.le_refl _⟩) hS (fun v I' L' P' H1 locs1 hq hP1 hS1 => hq p e s m args below meth c hc hk H1 locs1 lsA hP1 hS1 hl)
  have h9 := va_recv hk.1 hP (v_cl hci) he
  rw [show ((vC ci, vT ci, nf ci) : vw_C).1 = (mY M').cls from hC] at h9
  exact h9
theorem v_invS (q : Nat) (M' : MI) (As : List Value) {index : Nat} (d : decode (mB M) pc = .ok (.invokestatic index, 3)) (hq : pc + 3 = q) (hown : (mY M').cls = (mY M).cls) (hm : Cond.methodLink (mY M).cls index (mY M') ∈ TB) (hst : Cond.static (mY M') ∈ TB) (hmc : MC M' As.length) (hroom : roomOk M M' = true) (hW : (st.map fun v => v.category).sum ≤ 8) (hsp : SP x M' As I L P (fun v I' L' P' => V x M Q q ls (v.toList ++ st) I' L' P')) : V x M Q pc ls (As.reverse ++ st) I L P := by
  subst hq
  intro p e s m args below meth c hc hk H locs lsA hP hS hl
  exact v_fin (va_runS (nL := mL M) (Ts := wsM M) (own := (mY M).cls) (As := As) (rest := st) ⟨hc.1, hc.2.1, hc.2.2.2.1, hc.2.2.2.2.1, hc.2.2.2.2.2.1⟩ hsp (cwS As.length hc.2.2.2.2.2.1 (gI_S hmc hm hst (by rw [← hown]; exact hmc.2.1)) rfl rfl rfl ⟨hown, hmc.2.2⟩ (roomOk_spec hroom)) ⟨PcO_blind _ _ _ _ _, fun U hU hW => ⟨rfl, by rw [hU]; exact hP, hk.warm hW⟩⟩ rfl rfl hl.1 rfl (lv_room hW) d ⟨Nat.le_refl _, Nat.le_refl _⟩) hS (fun v I' L' P' H1 locs1 hq hP1 hS1 => hq p e s m args below meth c hc hk H1 locs1 lsA hP1 hS1 hl)
theorem v_invT (q : Nat) (M' : MI) (As : List Value) {index : Nat} (d : decode (mB M) pc = .ok (.invokestatic index, 3)) (hq : pc + 3 = q) (hm : Cond.methodLink (mY M).cls index (mY M') ∈ TB) (hst : Cond.static (mY M') ∈ TB) (hmc : MC M' As.length) (hroom : roomOk M M' = true) (hW : (st.map fun v => v.category).sum ≤ 8) (hsp : SP x M' As I L P (fun v I' L' P' => V x M Q q ls (v.toList ++ st) I' L' P')) : V x M Q pc ls (As.reverse ++ st) I L P := by
  subst hq
  intro p e s m args below meth c hc hk H locs lsA hP hS hl
  have ok : ∀ w ∈ TB, w.before args s = true := fun w hw => hc.2.2.2.2.2.1 w (List.mem_cons_of_mem _ hw)
  exact v_fin (va_runS (nL := mL M) (Ts := wsM M) (own := (mY M).cls) (As := As) (rest := st) ⟨hc.1, hc.2.1, hc.2.2.2.1, hc.2.2.2.2.1, hc.2.2.2.2.2.1⟩ hsp ⟨callB_of As.length hc.2.2.2.2.2.1 (gI_M hmc) rfl rfl rfl (ok _ hmc.2.1) (ok _ hm) hmc.2.2 (roomOk_spec hroom), ok _ hst⟩ ⟨PcO_blind _ _ _ _ _, fun U hU hW => ⟨rfl, by rw [hU]; exact hP, hk.warm hW⟩⟩ rfl rfl hl.1 rfl (lv_room hW) d ⟨Nat.le_refl _, Nat.le_refl _⟩) hS (fun v I' L' P' H1 locs1 hq hP1 hS1 => hq p e s m args below meth c hc hk H1 locs1 lsA hP1 hS1 hl)
theorem v_invN (q : Nat) (M' : MI) (As : List Value) {index : Nat} {host : String} (d : decode (mB M) pc = .ok (.invokestatic index, 3)) (hq : pc + 3 = q) (hm : Cond.methodLinkNest (mY M).cls index (mY M') host ∈ nestW) (hst : Cond.static (mY M') ∈ TB) (hmc : MC M' As.length) (hroom : roomOk M M' = true) (hW : (st.map fun v => v.category).sum ≤ 8) (hsp : SP x M' As I L P (fun v I' L' P' => V x M Q q ls (v.toList ++ st) I' L' P')) : V x M Q pc ls (As.reverse ++ st) I L P := by
  subst hq
  intro p e s m args below meth c hc hk H locs lsA hP hS hl
  have ok : ∀ w ∈ TB, w.before args s = true := fun w hw => hc.2.2.2.2.2.1 w (List.mem_cons_of_mem _ hw)
  exact v_fin (va_runSN (nL := mL M) (Ts := wsM M) (own := (mY M).cls) (As := As) (rest := st) ⟨hc.1, hc.2.1, hc.2.2.2.1, hc.2.2.2.2.1, hc.2.2.2.2.2.1⟩ hsp ⟨va_cnB As.length hc.2.2.2.2.2.1 (gI_M hmc) rfl rfl rfl (hk.2.1 _ hm) (ok _ hmc.2.1) hmc.2.2 (roomOk_spec hroom), ok _ hst, trivial⟩ ⟨PcO_blind _ _ _ _ _, fun U hU hW => ⟨rfl, by rw [hU]; exact hP, hk.warm hW⟩⟩ rfl rfl hl.1 rfl (lv_room hW) d ⟨Nat.le_refl _, Nat.le_refl _⟩) hS (fun v I' L' P' H1 locs1 hq hP1 hS1 => hq p e s m args below meth c hc hk H1 locs1 lsA hP1 hS1 hl)
theorem v_mmax (q : Nat) {a b : Int32} {index : Nat} (r : Int32) (d : decode (mB M) pc = .ok (.invokestatic index, 3)) (hq : pc + 3 = q) (hm : Cond.methodLink (mY M).cls index Lib.Math.max.name ∈ TB) (hroom : 1 ≤ mF M ∧ (st.map fun v => v.category).sum + 13 ≤ mO M) (hr : (if a < b then b else a) = r) (kk : V x M Q q ls (.int r :: st) I L P) : V x M Q pc ls (.int b :: .int a :: st) I L P := by
  subst hq
  subst hr
  intro p e s m args below meth c hc hk H locs lsA hP hS hl
  have ok : ∀ w ∈ TB, w.before args s = true := fun w hw => hc.2.2.2.2.2.1 w (List.mem_cons_of_mem _ hw)
  exact va_mmax hc.1 hc.2.1 (hc.2.2.2.1.trans hl.1.symm) hc.2.2.2.2.1 (ok _ hm) (ok _ sm_J9_max) (ok _ in_Math) (ok _ kc_J9_max) hroom.1 hroom.2 (Nat.zero_le _) (Nat.zero_le _) d (kk p e s m args below meth c hc hk H locs lsA hP hS hl)
theorem v_mmin (q : Nat) {a b : Int32} {index : Nat} (r : Int32) (d : decode (mB M) pc = .ok (.invokestatic index, 3)) (hq : pc + 3 = q) (hm : Cond.methodLink (mY M).cls index Lib.Math.min.name ∈ TB) (hroom : 1 ≤ mF M ∧ (st.map fun v => v.category).sum + 13 ≤ mO M) (hr : (if b < a then b else a) = r) (kk : V x M Q q ls (.int r :: st) I L P) : V x M Q pc ls (.int b :: .int a :: st) I L P := by
  subst hq
  subst hr
  intro p e s m args below meth c hc hk H locs lsA hP hS hl
  have ok : ∀ w ∈ TB, w.before args s = true := fun w hw => hc.2.2.2.2.2.1 w (List.mem_cons_of_mem _ hw)
  exact va_mmin hc.1 hc.2.1 (hc.2.2.2.1.trans hl.1.symm) hc.2.2.2.2.1 (ok _ hm) (ok _ sm_J9_min) (ok _ in_Math) (ok _ kc_J9_min) hroom.1 hroom.2 (Nat.zero_le _) (Nat.zero_le _) d (kk p e s m args below meth c hc hk H locs lsA hP hS hl)
def cpy2 (I : Iv) (i0 i1 sp dp n : Nat) : Iv := fun a b => if a = i1 then (if dp ≤ b ∧ b < dp + n then I i0 (sp + (b - dp)) else I i1 b) else I a b
theorem v_acopy (q : Nat) {i0 i1 n0 n1 sp dp n index : Nat} {jsp jdp jn : Int32} (hi0 : i0 < 54) (hi1 : i1 < 54) (hs0 : hs i0 = (1, n0)) (hs1 : hs i1 = (1, n1)) (d : decode (mB M) pc = .ok (.invokestatic index, 3)) (hq : pc + 3 = q) (hm : Cond.methodLink (mY M).cls index arraycopyName ∈ TB) (hroom : 1 ≤ mF M ∧ (st.map fun v => v.category).sum + (nativeFrameWords "java/lang/System" "arraycopy" 5 + 11) ≤ mO M) (e1 : jsp = nI sp) (e2 : jdp = nI dp) (e3 : jn = nI n) (hb : n0 < 2147483648 ∧ n1 < 2147483648) (h4 : sp + n ≤ n0) (h5 : dp + n ≤ n1) (kk : ∀ Z, Z = cpy2 I i0 i1 sp dp n → V x M Q q ls st Z L P) : V x M Q pc ls (.int jn :: .int jdp :: rfv x i1 :: .int jsp :: rfv x i0 :: st) I L P := by
  subst hq
  subst e1
  subst e2
  subst e3
  intro p e s m args below meth c hc hk H locs lsA hP hS hl
  have ok : ∀ w ∈ TB, w.before args s = true := fun w hw => hc.2.2.2.2.2.1 w (List.mem_cons_of_mem _ hw)
  have b1 : sp < 2 ^ 31 := by have := hb.1; omega
  have b2 : dp < 2 ^ 31 := by have := hb.2; omega
  have b3 : n < 2 ^ 31 := by have := hb.1; omega
  refine va_copyi hc.1 hc.2.1 (hc.2.2.2.1.trans hl.1.symm) hc.2.2.2.2.1 (ok _ hm) (ok _ na_acopy) (ok _ sm_acopy) (ok _ in_System) hk.1 hP (wl_D _ hk.2.2) hS i0 i1 0 0 (ty := .int) ((wl_get hi0).trans (by rw [cE_i hs0])) ((wl_get hi1).trans (by rw [cE_i hs1])) rfl rfl rfl (nI_pos b1) (nI_pos b2) (nI_pos b3) (by rw [nI_clamp b1, nI_clamp b3]; exact h4) (by rw [nI_clamp b2, nI_clamp b3]; exact h5) (fun _ _ => rfl) hroom.1 hroom.2 d (fun H1 locs1 hP1 _ hS1 => ?_)
  rw [nI_clamp b1, nI_clamp b2, nI_clamp b3, wl_set (E' := cE x (cpy2 I i0 i1 sp dp n) L P) hi1 (by
    rw [cE_i hs1]
    congr 4
    funext z
    simp [cpy2, va_cpy]) (fun j hj => cE_same (by funext z; simp [cpy2, hj]) rfl)] at hP1
  exact kk _ rfl p e s m args below meth c hc hk H1 locs1 lsA hP1 hS1 hl
theorem v_iushr (q : Nat) {a b : Int32} (r : Int32) (d : decode (mB M) pc = .ok (.iushr, 1)) (hq : pc + 1 = q) (hr : (a.toUInt32 >>> (b.toUInt32 &&& Int32.toUInt32 31)).toInt32 = r) (kk : V x M Q q ls (.int r :: st) I L P) : V x M Q pc ls (.int b :: .int a :: st) I L P := by
  subst hq
  subst hr
  intro p e s m args below meth c hc hk H locs lsA hP hS hl
  exact lv_iushr hc.1 hc.2.1 d rfl (kk p e s m args below meth c hc hk H locs lsA hP hS hl)
theorem v_ldcw (q : Nat) (v : Int32) {index : Nat} (d : decode (mB M) pc = .ok (.ldc_w index, 3)) (hq : pc + 3 = q) (hw : Cond.constant (mY M).cls index v ∈ TB) (kk : V x M Q q ls (.int v :: st) I L P) : V x M Q pc ls st I L P := by
  subst hq
  intro p e s m args below meth c hc hk H locs lsA hP hS hl
  exact lv_ldcw hc.1 hc.2.1 hc.2.2.2.2.1 (hc.2.2.2.2.2.1 _ (List.mem_cons_of_mem _ hw)) d (kk p e s m args below meth c hc hk H locs lsA hP hS hl)
theorem v_tin (q : Nat) {dflt lo hi off : Int} {offs : Array Int} {len : Nat} {a : Int32} (d : decode (mB M) pc = .ok (.tableswitch dflt lo hi offs, len)) (h1 : ¬ a.toInt < lo) (h2 : ¬ hi < a.toInt) (ho : offs[(a.toInt - lo).toNat]? = some off) (ht : (pc : Int) + off = (q : Int)) (kk : V x M Q q ls st I L P) : V x M Q pc ls (.int a :: st) I L P := by
  intro p e s m args below meth c hc hk H locs lsA hP hS hl
  exact lv_tableIn hc.1 hc.2.1 d h1 h2 ho ht (kk p e s m args below meth c hc hk H locs lsA hP hS hl)
theorem v_tout (q : Nat) {dflt lo hi : Int} {offs : Array Int} {len : Nat} {a : Int32} (d : decode (mB M) pc = .ok (.tableswitch dflt lo hi offs, len)) (h : a.toInt < lo ∨ hi < a.toInt) (ht : (pc : Int) + dflt = (q : Int)) (kk : V x M Q q ls st I L P) : V x M Q pc ls (.int a :: st) I L P := by
  intro p e s m args below meth c hc hk H locs lsA hP hS hl
  exact lv_tableOut hc.1 hc.2.1 d h ht (kk p e s m args below meth c hc hk H locs lsA hP hS hl)
theorem v_icmpN_eq (t q : Nat) {a b : Nat} {off : Int} (d : decode (mB M) pc = .ok (.if_icmp .eq off, 3)) (ht : (pc : Int) + off = (t : Int)) (hq : pc + 3 = q) (ha : a < 2147483648) (hb : b < 2147483648) (kt : a = b → V x M Q t ls st I L P) (kf : a ≠ b → V x M Q q ls st I L P) : V x M Q pc ls (.int (nI b) :: .int (nI a) :: st) I L P :=
  v_icmp_eq t q d ht hq (fun h => kt ((nI_eq ha hb).mp h)) (fun h => kf (fun q => h ((nI_eq ha hb).mpr q)))
theorem v_icmpN_ne (t q : Nat) {a b : Nat} {off : Int} (d : decode (mB M) pc = .ok (.if_icmp .ne off, 3)) (ht : (pc : Int) + off = (t : Int)) (hq : pc + 3 = q) (ha : a < 2147483648) (hb : b < 2147483648) (kt : a ≠ b → V x M Q t ls st I L P) (kf : a = b → V x M Q q ls st I L P) : V x M Q pc ls (.int (nI b) :: .int (nI a) :: st) I L P :=
  v_icmp_ne t q d ht hq (fun h => kt (fun q => h ((nI_eq ha hb).mpr q))) (fun h => kf ((nI_eq ha hb).mp h))
theorem v_icmpN_lt (t q : Nat) {a b : Nat} {off : Int} (d : decode (mB M) pc = .ok (.if_icmp .lt off, 3)) (ht : (pc : Int) + off = (t : Int)) (hq : pc + 3 = q) (ha : a < 2147483648) (hb : b < 2147483648) (kt : a < b → V x M Q t ls st I L P) (kf : b ≤ a → V x M Q q ls st I L P) : V x M Q pc ls (.int (nI b) :: .int (nI a) :: st) I L P :=
  v_icmp_lt t q d ht hq (fun h => kt ((nI_ltI ha hb).mp h)) (fun h => kf (Nat.le_of_not_lt (fun q => h ((nI_ltI ha hb).mpr q))))
theorem v_icmpN_ge (t q : Nat) {a b : Nat} {off : Int} (d : decode (mB M) pc = .ok (.if_icmp .ge off, 3)) (ht : (pc : Int) + off = (t : Int)) (hq : pc + 3 = q) (ha : a < 2147483648) (hb : b < 2147483648) (kt : b ≤ a → V x M Q t ls st I L P) (kf : a < b → V x M Q q ls st I L P) : V x M Q pc ls (.int (nI b) :: .int (nI a) :: st) I L P :=
  v_icmp_ge t q d ht hq (fun h => kt ((nI_leI hb ha).mp h)) (fun h => kf (Nat.lt_of_not_le (fun q => h ((nI_leI hb ha).mpr q))))
theorem v_icmpN_gt (t q : Nat) {a b : Nat} {off : Int} (d : decode (mB M) pc = .ok (.if_icmp .gt off, 3)) (ht : (pc : Int) + off = (t : Int)) (hq : pc + 3 = q) (ha : a < 2147483648) (hb : b < 2147483648) (kt : b < a → V x M Q t ls st I L P) (kf : a ≤ b → V x M Q q ls st I L P) : V x M Q pc ls (.int (nI b) :: .int (nI a) :: st) I L P :=
  v_icmp_gt t q d ht hq (fun h => kt ((nI_ltI hb ha).mp h)) (fun h => kf (Nat.le_of_not_lt (fun q => h ((nI_ltI hb ha).mpr q))))
theorem v_icmpN_le (t q : Nat) {a b : Nat} {off : Int} (d : decode (mB M) pc = .ok (.if_icmp .le off, 3)) (ht : (pc : Int) + off = (t : Int)) (hq : pc + 3 = q) (ha : a < 2147483648) (hb : b < 2147483648) (kt : a ≤ b → V x M Q t ls st I L P) (kf : b < a → V x M Q q ls st I L P) : V x M Q pc ls (.int (nI b) :: .int (nI a) :: st) I L P :=
  v_icmp_le t q d ht hq (fun h => kt ((nI_leI ha hb).mp h)) (fun h => kf (Nat.lt_of_not_le (fun q => h ((nI_leI ha hb).mpr q))))
theorem v_ifN_eq (t q : Nat) {a : Nat} {off : Int} (d : decode (mB M) pc = .ok (.ifCond .eq off, 3)) (ht : (pc : Int) + off = (t : Int)) (hq : pc + 3 = q) (ha : a < 2147483648) (kt : a = 0 → V x M Q t ls st I L P) (kf : a ≠ 0 → V x M Q q ls st I L P) : V x M Q pc ls (.int (nI a) :: st) I L P :=
  v_if_eq t q d ht hq (fun h => kt ((nI_eq ha (by decide : 0 < 2 ^ 31)).mp h)) (fun h => kf (fun q => h ((nI_eq ha (by decide : 0 < 2 ^ 31)).mpr q)))
theorem v_ifN_ne (t q : Nat) {a : Nat} {off : Int} (d : decode (mB M) pc = .ok (.ifCond .ne off, 3)) (ht : (pc : Int) + off = (t : Int)) (hq : pc + 3 = q) (ha : a < 2147483648) (kt : a ≠ 0 → V x M Q t ls st I L P) (kf : a = 0 → V x M Q q ls st I L P) : V x M Q pc ls (.int (nI a) :: st) I L P :=
  v_if_ne t q d ht hq (fun h => kt (fun q => h ((nI_eq ha (by decide : 0 < 2 ^ 31)).mpr q))) (fun h => kf ((nI_eq ha (by decide : 0 < 2 ^ 31)).mp h))
theorem v_ifN_gt (t q : Nat) {a : Nat} {off : Int} (d : decode (mB M) pc = .ok (.ifCond .gt off, 3)) (ht : (pc : Int) + off = (t : Int)) (hq : pc + 3 = q) (ha : a < 2147483648) (kt : 0 < a → V x M Q t ls st I L P) (kf : a = 0 → V x M Q q ls st I L P) : V x M Q pc ls (.int (nI a) :: st) I L P :=
  v_if_gt t q d ht hq (fun h => kt ((nI_ltI (by decide : 0 < 2 ^ 31) ha).mp h)) (fun h => kf (Nat.eq_zero_of_not_pos (fun q => h ((nI_ltI (by decide : 0 < 2 ^ 31) ha).mpr q))))
theorem v_ifN_le (t q : Nat) {a : Nat} {off : Int} (d : decode (mB M) pc = .ok (.ifCond .le off, 3)) (ht : (pc : Int) + off = (t : Int)) (hq : pc + 3 = q) (ha : a < 2147483648) (kt : a = 0 → V x M Q t ls st I L P) (kf : 0 < a → V x M Q q ls st I L P) : V x M Q pc ls (.int (nI a) :: st) I L P :=
  v_if_le t q d ht hq (fun h => kt (Nat.le_zero.mp ((nI_leI ha (by decide : 0 < 2 ^ 31)).mp h))) (fun h => kf (Nat.pos_of_ne_zero (fun q => h (by rw [q]; decide))))
theorem v_ifN_lt (t q : Nat) {a : Nat} {off : Int} (d : decode (mB M) pc = .ok (.ifCond .lt off, 3)) (ht : (pc : Int) + off = (t : Int)) (hq : pc + 3 = q) (ha : a < 2147483648) (kf : V x M Q q ls st I L P) : V x M Q pc ls (.int (nI a) :: st) I L P :=
  v_if_lt t q d ht hq (fun h => absurd h (nI_pos ha)) (fun _ => kf)
theorem v_ifN_ge (t q : Nat) {a : Nat} {off : Int} (d : decode (mB M) pc = .ok (.ifCond .ge off, 3)) (ht : (pc : Int) + off = (t : Int)) (hq : pc + 3 = q) (ha : a < 2147483648) (kt : V x M Q t ls st I L P) : V x M Q pc ls (.int (nI a) :: st) I L P :=
  v_if_ge t q d ht hq (fun _ => kt) (fun h => absurd (nI_pos' ha) h)
theorem lg_eq0 {a b : Int64} : lg_cmp a b = 0 ↔ a = b := by
  by_cases h1 : b < a
  · have : ¬ a = b := fun e => by rw [e] at h1; exact absurd h1 (by simp [Int64.lt_iff_toInt_lt])
    simp [lg_cmp, h1, this]
  · by_cases h2 : a = b <;> simp [lg_cmp, h1, h2]
theorem lg_gt0 {a b : Int64} : (0 : Int32) < lg_cmp a b ↔ b < a := by
  by_cases h1 : b < a
  · simp [lg_cmp, h1]
  · by_cases h2 : a = b <;> simp [lg_cmp, h1, h2]
theorem v_lcmp_eq (q1 t q : Nat) {a b : Int64} {off : Int} (d0 : decode (mB M) pc = .ok (.lcmp, 1)) (hq1 : pc + 1 = q1) (d : decode (mB M) q1 = .ok (.ifCond .eq off, 3)) (ht : (q1 : Int) + off = (t : Int)) (hq : q1 + 3 = q) (kt : a = b → V x M Q t ls st I L P) (kf : ¬ a = b → V x M Q q ls st I L P) : V x M Q pc ls (.long b :: .long a :: st) I L P :=
  v_lcmp q1 d0 hq1 (v_if_eq t q d ht hq (fun h => kt (lg_eq0.mp h)) (fun h => kf (fun q => h (lg_eq0.mpr q))))
theorem v_lcmp_ne (q1 t q : Nat) {a b : Int64} {off : Int} (d0 : decode (mB M) pc = .ok (.lcmp, 1)) (hq1 : pc + 1 = q1) (d : decode (mB M) q1 = .ok (.ifCond .ne off, 3)) (ht : (q1 : Int) + off = (t : Int)) (hq : q1 + 3 = q) (kt : ¬ a = b → V x M Q t ls st I L P) (kf : a = b → V x M Q q ls st I L P) : V x M Q pc ls (.long b :: .long a :: st) I L P :=
  v_lcmp q1 d0 hq1 (v_if_ne t q d ht hq (fun h => kt (fun q => h (lg_eq0.mpr q))) (fun h => kf (lg_eq0.mp h)))
theorem v_lcmp_gt (q1 t q : Nat) {a b : Int64} {off : Int} (d0 : decode (mB M) pc = .ok (.lcmp, 1)) (hq1 : pc + 1 = q1) (d : decode (mB M) q1 = .ok (.ifCond .gt off, 3)) (ht : (q1 : Int) + off = (t : Int)) (hq : q1 + 3 = q) (kt : b < a → V x M Q t ls st I L P) (kf : ¬ b < a → V x M Q q ls st I L P) : V x M Q pc ls (.long b :: .long a :: st) I L P :=
  v_lcmp q1 d0 hq1 (v_if_gt t q d ht hq (fun h => kt (lg_gt0.mp h)) (fun h => kf (fun q => h (lg_gt0.mpr q))))
theorem v_lcmp_le (q1 t q : Nat) {a b : Int64} {off : Int} (d0 : decode (mB M) pc = .ok (.lcmp, 1)) (hq1 : pc + 1 = q1) (d : decode (mB M) q1 = .ok (.ifCond .le off, 3)) (ht : (q1 : Int) + off = (t : Int)) (hq : q1 + 3 = q) (kt : ¬ b < a → V x M Q t ls st I L P) (kf : b < a → V x M Q q ls st I L P) : V x M Q pc ls (.long b :: .long a :: st) I L P :=
  v_lcmp q1 d0 hq1 (v_if_le t q d ht hq (fun h => kt (fun q => absurd (lg_gt0.mpr q) (Int32.not_lt.mpr h))) (fun h => kf (lg_gt0.mp (Int32.not_le.mp h))))
theorem lg_lt0 {a b : Int64} : lg_cmp a b < (0 : Int32) ↔ a < b := by
  by_cases h1 : b < a
  · have h3 : ¬ a < b := lg_lt_not h1
    simp [lg_cmp, h1, h3]
  · by_cases h2 : a = b
    · subst h2
      simp [lg_cmp, h1]
    · have h3 : a < b := by
        rw [Int64.lt_iff_toInt_lt] at h1 ⊢
        have : a.toInt ≠ b.toInt := fun q => h2 (Int64.toInt_inj.mp q)
        omega
      simp [lg_cmp, h1, h2, h3]
theorem v_lcmp_lt (q1 t q : Nat) {a b : Int64} {off : Int} (d0 : decode (mB M) pc = .ok (.lcmp, 1)) (hq1 : pc + 1 = q1) (d : decode (mB M) q1 = .ok (.ifCond .lt off, 3)) (ht : (q1 : Int) + off = (t : Int)) (hq : q1 + 3 = q) (kt : a < b → V x M Q t ls st I L P) (kf : ¬ a < b → V x M Q q ls st I L P) : V x M Q pc ls (.long b :: .long a :: st) I L P :=
  v_lcmp q1 d0 hq1 (v_if_lt t q d ht hq (fun h => kt (lg_lt0.mp h)) (fun h => kf (fun q => h (lg_lt0.mpr q))))
theorem lg_ge0 {a b : Int64} : (0 : Int32) ≤ lg_cmp a b ↔ ¬ a < b := by
  rw [← lg_lt0]
  exact Int32.not_lt.symm
theorem v_lcmp_ge (q1 t q : Nat) {a b : Int64} {off : Int} (d0 : decode (mB M) pc = .ok (.lcmp, 1)) (hq1 : pc + 1 = q1) (d : decode (mB M) q1 = .ok (.ifCond .ge off, 3)) (ht : (q1 : Int) + off = (t : Int)) (hq : q1 + 3 = q) (kt : ¬ a < b → V x M Q t ls st I L P) (kf : a < b → V x M Q q ls st I L P) : V x M Q pc ls (.long b :: .long a :: st) I L P :=
  v_lcmp q1 d0 hq1 (v_if_ge t q d ht hq (fun h => kt (lg_ge0.mp h)) (fun h => kf (Classical.not_not.mp (fun q => h (lg_ge0.mpr q)))))
theorem nI_inc (a : Nat) : nI a + Int32.ofInt 1 = nI (a + 1) := nI_1 a
theorem nI_dec {a : Nat} (h : 0 < a) : nI a + Int32.ofInt (-1) = nI (a - 1) := by
  obtain ⟨b, rfl⟩ : ∃ b, a = b + 1 := ⟨a - 1, by omega⟩
  exact pk_m1 b
end ROWS
