/-! the state of a model in numbers: a view f; what both sides hold of it -/
abbrev Vw : Type := Nat → Nat
def bW (f : Vw) (s : Nat) : Nat := f (3 + s)
def gW (f : Vw) (s t : Nat) : Nat := f (7 + 4 * s + t)
def sW (f : Vw) (s g : Nat) : Nat := f (23 + 3 * s + g)
def nP (f : Vw) (k : Nat) : Nat := f (35 + 8 * k)
def sG (f : Vw) (k p : Nat) : Nat := f (35 + 8 * k + 1 + p)
/-- a Model of the class at the pointers b .. b + 3 holds f -/
def RC (b : Nat) (f : Vw) (I : Iv) : Prop :=
  I b 1 = nI (f 0) ∧ I b 5 = nI (f 1) ∧ I b 2 = nI (f 2) ∧
  (∀ s, s < f 0 → I (b + 1) (s * 8) = nI (bW f s)) ∧
  (∀ s t, s < f 0 → t < f 0 → I (b + 1) (s * 8 + 1 + t) = nI (gW f s t)) ∧
  (∀ s g, s < f 0 → g < 3 → I (b + 1) (s * 8 + 5 + g) = nI (sW f s g)) ∧
  (∀ k, k < f 1 → I (b + 2) k = nI (nP f k)) ∧
  (∀ k p, k < f 1 → p < nP f k → I (b + 3) (k * 7 + p) = nI (sG f k p))
def Wf (f : Vw) : Prop :=
  (1 ≤ f 0 ∧ f 0 ≤ 4) ∧ f 1 ≤ 6 ∧ (500 ≤ f 2 ∧ f 2 ≤ 1000) ∧
  (∀ s, s < f 0 → bW f s ≤ 6) ∧ (∀ s t, s < f 0 → t < f 0 → gW f s t ≤ 6) ∧ (∀ s g, s < f 0 → g < 3 → sW f s g ≤ 6) ∧
  (∀ k, k < f 1 → 1 ≤ nP f k ∧ nP f k ≤ 7) ∧ (∀ k p, k < f 1 → p < nP f k → sG f k p ≤ 2)
/-- a row of 83 ints of the reference holds f -/
def RR (h : Nat → Int32) (f : Vw) : Prop :=
  h 0 = nI (f 0) ∧ h 1 = nI (f 1) ∧ h 2 = nI (f 2) ∧
  (∀ s, s < f 0 → h (3 + s) = nI (bW f s)) ∧
  (∀ s t, s < f 0 → t < f 0 → h (7 + 4 * s + t) = nI (gW f s t)) ∧
  (∀ s g, s < f 0 → g < 3 → h (23 + 3 * s + g) = nI (sW f s g)) ∧
  (∀ k, k < f 1 → h (35 + 8 * k) = nI (nP f k)) ∧
  (∀ k p, k < f 1 → p < nP f k → h (35 + 8 * k + 1 + p) = nI (sG f k p))
theorem RC.st {b : Nat} {f : Vw} {I : Iv} (h : RC b f I) : I b 1 = nI (f 0) := h.1
theorem RC.sm {b : Nat} {f : Vw} {I : Iv} (h : RC b f I) : I b 5 = nI (f 1) := h.2.1
theorem RC.bd {b : Nat} {f : Vw} {I : Iv} (h : RC b f I) : I b 2 = nI (f 2) := h.2.2.1
theorem RC.b {b : Nat} {f : Vw} {I : Iv} (h : RC b f I) {s : Nat} (hs : s < f 0) : I (b + 1) (s * 8) = nI (bW f s) := h.2.2.2.1 s hs
theorem RC.g {b : Nat} {f : Vw} {I : Iv} (h : RC b f I) {s t : Nat} (hs : s < f 0) (ht : t < f 0) : I (b + 1) (s * 8 + 1 + t) = nI (gW f s t) := h.2.2.2.2.1 s t hs ht
theorem RC.w {b : Nat} {f : Vw} {I : Iv} (h : RC b f I) {s g : Nat} (hs : s < f 0) (hg : g < 3) : I (b + 1) (s * 8 + 5 + g) = nI (sW f s g) := h.2.2.2.2.2.1 s g hs hg
theorem RC.n {b : Nat} {f : Vw} {I : Iv} (h : RC b f I) {k : Nat} (hk : k < f 1) : I (b + 2) k = nI (nP f k) := h.2.2.2.2.2.2.1 k hk
theorem RC.s {b : Nat} {f : Vw} {I : Iv} (h : RC b f I) {k p : Nat} (hk : k < f 1) (hp : p < nP f k) : I (b + 3) (k * 7 + p) = nI (sG f k p) := h.2.2.2.2.2.2.2 k p hk hp
theorem RR.st {h : Nat → Int32} {f : Vw} (c : RR h f) : h 0 = nI (f 0) := c.1
theorem RR.sm {h : Nat → Int32} {f : Vw} (c : RR h f) : h 1 = nI (f 1) := c.2.1
theorem RR.bd {h : Nat → Int32} {f : Vw} (c : RR h f) : h 2 = nI (f 2) := c.2.2.1
theorem RR.b {h : Nat → Int32} {f : Vw} (c : RR h f) {s : Nat} (hs : s < f 0) : h (3 + s) = nI (bW f s) := c.2.2.2.1 s hs
theorem RR.g {h : Nat → Int32} {f : Vw} (c : RR h f) {s t : Nat} (hs : s < f 0) (ht : t < f 0) : h (7 + 4 * s + t) = nI (gW f s t) := c.2.2.2.2.1 s t hs ht
theorem RR.w {h : Nat → Int32} {f : Vw} (c : RR h f) {s g : Nat} (hs : s < f 0) (hg : g < 3) : h (23 + 3 * s + g) = nI (sW f s g) := c.2.2.2.2.2.1 s g hs hg
theorem RR.n {h : Nat → Int32} {f : Vw} (c : RR h f) {k : Nat} (hk : k < f 1) : h (35 + 8 * k) = nI (nP f k) := c.2.2.2.2.2.2.1 k hk
theorem RR.s {h : Nat → Int32} {f : Vw} (c : RR h f) {k p : Nat} (hk : k < f 1) (hp : p < nP f k) : h (35 + 8 * k + 1 + p) = nI (sG f k p) := c.2.2.2.2.2.2.2 k p hk hp
theorem Wf.n1 {f : Vw} (h : Wf f) : 1 ≤ f 0 := h.1.1
theorem Wf.n4 {f : Vw} (h : Wf f) : f 0 ≤ 4 := h.1.2
theorem Wf.m6 {f : Vw} (h : Wf f) : f 1 ≤ 6 := h.2.1
theorem Wf.b {f : Vw} (h : Wf f) {s : Nat} (hs : s < f 0) : bW f s ≤ 6 := h.2.2.2.1 s hs
theorem Wf.g {f : Vw} (h : Wf f) {s t : Nat} (hs : s < f 0) (ht : t < f 0) : gW f s t ≤ 6 := h.2.2.2.2.1 s t hs ht
theorem Wf.w {f : Vw} (h : Wf f) {s g : Nat} (hs : s < f 0) (hg : g < 3) : sW f s g ≤ 6 := h.2.2.2.2.2.1 s g hs hg
theorem Wf.p {f : Vw} (h : Wf f) {k : Nat} (hk : k < f 1) : 1 ≤ nP f k ∧ nP f k ≤ 7 := h.2.2.2.2.2.2.1 k hk
theorem Wf.s {f : Vw} (h : Wf f) {k p : Nat} (hk : k < f 1) (hp : p < nP f k) : sG f k p ≤ 2 := h.2.2.2.2.2.2.2 k p hk hp
theorem RC.same {b : Nat} {f : Vw} {I I' : Iv} (h : RC b f I) (e : ∀ a, b ≤ a → a ≤ b + 3 → I' a = I a) : RC b f I' := by
  unfold RC
  rw [e b (by omega) (by omega), e (b + 1) (by omega) (by omega), e (b + 2) (by omega) (by omega), e (b + 3) (by omega) (by omega)]
  exact h
theorem up2_row {α : Type} {f g : Nat → Nat → α} {i k : Nat} {a : α} (e : g = up2 f i k a) {j : Nat} (h : j ≠ i) : g j = f j := by
  rw [e]
  exact up2_ne h
theorem up2_at {α : Type} {f g : Nat → Nat → α} {i k : Nat} {a : α} (e : g = up2 f i k a) : g i k = a := by
  rw [e]
  simp [up2]
theorem up2_off {α : Type} {f g : Nat → Nat → α} {i k : Nat} {a : α} (e : g = up2 f i k a) {j q : Nat} (h : ¬ (j = i ∧ q = k)) : g j q = f j q := by
  rw [e]
  simp [up2, h]
/-- whether z is one of 0 .. n - 1 -/
def inb (z : Int32) (n : Nat) : Nat := if z < 0 ∨ nI n ≤ z then 0 else 1
theorem inb_0 {z : Int32} {n : Nat} (h : inb z n = 0) : z < 0 ∨ nI n ≤ z := by
  by_cases c : z < 0 ∨ nI n ≤ z
  · exact c
  · rw [inb, if_neg c] at h
    cases h
theorem inb_1 {z : Int32} {n : Nat} (hn : n < 2147483648) (h : inb z n ≠ 0) : ∃ j, j < n ∧ z = nI j := by
  by_cases c : z < 0 ∨ nI n ≤ z
  · rw [inb, if_pos c] at h
    exact absurd rfl h
  · rcases pk_ix z hn with q | q | q
    · exact absurd (Or.inl q) c
    · exact absurd (Or.inr q) c
    · exact q
theorem inb_lt (z : Int32) (n : Nat) : inb z n < 2 := by
  unfold inb
  split <;> omega
theorem inb_in {j n : Nat} (h : j < n) (hn : n < 2147483648) : inb (nI j) n = 1 := by
  have h1 : ¬ (nI j < 0 ∨ nI n ≤ nI j) := by
    rintro (q | q)
    · exact nI_pos (Nat.lt_trans h hn) q
    · exact nI_ge h hn q
  rw [inb, if_neg h1]
theorem inb_out {z : Int32} {n : Nat} (h : z < 0 ∨ nI n ≤ z) : inb z n = 0 := if_pos h
def smN (n : Nat) (g : Nat → Nat) : Nat := match n with
  | 0 => 0
  | n + 1 => smN n g + g n
theorem smN_s (n : Nat) (g : Nat → Nat) : smN (n + 1) g = smN n g + g n := rfl
theorem smN_congr {g h : Nat → Nat} : ∀ {n : Nat}, (∀ k, k < n → g k = h k) → smN n g = smN n h
  | 0, _ => rfl
  | n + 1, e => by rw [smN_s, smN_s, smN_congr (fun k hk => e k (by omega)), e n (by omega)]
theorem smN_le {g : Nat → Nat} {c : Nat} : ∀ {n : Nat}, (∀ k, k < n → g k ≤ c) → smN n g ≤ n * c
  | 0, _ => by simp [smN]
  | n + 1, e => by
    have h1 := smN_le (g := g) (c := c) (n := n) (fun k hk => e k (by omega))
    have h2 := e n (by omega)
    rw [smN_s, Nat.succ_mul]
    omega
/-- a loop that counts up: from each place on, what holds at the end -/
theorem lpU {W : Nat → Prop} {n : Nat} (he : W n) (hs : ∀ i, i < n → W (i + 1) → W i) : ∀ i, i ≤ n → W i := by
  intro i hi
  obtain ⟨k, rfl⟩ : ∃ k, n = i + k := ⟨n - i, by omega⟩
  clear hi
  induction k generalizing i with
  | zero => exact he
  | succ k ih =>
    refine hs i (by omega) (ih (i + 1) ?_ ?_)
    · rw [show i + 1 + k = i + (k + 1) by omega]
      exact he
    · intro j hj
      exact hs j (by omega)
/-- a loop that counts down -/
theorem lpD {W : Nat → Prop} (h0 : W 0) (hs : ∀ i, W i → W (i + 1)) : ∀ i, W i := by
  intro i
  induction i with
  | zero => exact h0
  | succ i ih => exact hs i ih
def lsub : List (Option Value) → List (Option Value) → Prop
  | [], _ => True
  | none :: r, _ :: r' => lsub r r'
  | some v :: r, w :: r' => w = some v ∧ lsub r r'
  | _ :: _, [] => False
theorem lsub_get : ∀ (a b : List (Option Value)), lsub a b → ∀ (i : Nat) (v : Value), a[i]? = some (some v) → b[i]? = some (some v)
  | [], _, _, i, v, h => by simp at h
  | none :: r, [], h0, i, v, h => h0.elim
  | some w :: r, [], h0, i, v, h => h0.elim
  | none :: r, w :: r', h0, i, v, h => by
    cases i with
    | zero => simp at h
    | succ i => exact lsub_get r r' h0 i v h
  | some u :: r, w :: r', h0, i, v, h => by
    cases i with
    | zero =>
      simp at h
      subst h
      simpa using h0.1
    | succ i => exact lsub_get r r' h0.2 i v h
/-- fewer locals are known -/
theorem v_drop {x : Cx} {M : MI} {Q : Qt} {pc : Nat} {ls : List (Option Value)} {st : List Value} {I : Iv} {L : Lv} {P : Pv} (ls' : List (Option Value)) (h : lsub ls' ls) (kk : V x M Q pc ls' st I L P) : V x M Q pc ls st I L P := by
  intro p e s m args below meth c hc hk H locs lsA hP hS hl
  refine kk p e s m args below meth c hc hk H locs lsA hP hS ⟨hl.1, hl.2.1, fun q hq => hl.2.2 q ?_⟩
  rw [lvA_mem] at hq ⊢
  exact ⟨hq.1, lsub_get ls' ls h _ _ hq.2⟩
theorem qL {Q : Qt} {I : Iv} {L : Lv} {P : Pv} {a b : Nat} (h : Q (some (.long (lN a))) I L P) (e : b = a) : Q (some (.long (lN b))) I L P := e ▸ h
theorem qI {Q : Qt} {I : Iv} {L : Lv} {P : Pv} {a b : Nat} (h : Q (some (.int (nI a))) I L P) (e : b = a) : Q (some (.int (nI b))) I L P := e ▸ h
theorem nI_sub1 (a : Nat) : nI a - nI 1 = nI a + Int32.ofInt (-1) := by
  rw [Int32.sub_eq_add_neg]
  rfl
theorem nI_m1 (a : Nat) : nI (a + 1) + Int32.ofInt (-1) = nI a := pk_m1 a
