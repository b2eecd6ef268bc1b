/-! runs in numbers: weights up to a place, from a place on, the greatest, how many -/
def upW (f : Vw) (k : Nat) : Nat → Nat → Nat
  | 0, s => bW f s * sW f s (sG f k 0)
  | p + 1, s => smN (f 0) (fun t => upW f k p t * gW f t s) * sW f s (sG f k (p + 1))
def stW (f : Vw) (k p s t : Nat) : Nat := gW f s t * sW f t (sG f k (p + 1))
def bhR (f : Vw) (k : Nat) : Nat → Nat → Nat
  | 0, _ => 1
  | j + 1, s => smN (f 0) (fun t => stW f k (nP f k - 2 - j) s t * bhR f k j t)
def bhW (f : Vw) (k p s : Nat) : Nat := bhR f k (nP f k - 1 - p) s
def mxN (n : Nat) (g : Nat → Nat) : Nat := match n with
  | 0 => 0
  | n + 1 => if mxN n g < g n then g n else mxN n g
def grR (f : Vw) (k : Nat) : Nat → Nat → Nat
  | 0, _ => 1
  | j + 1, s => mxN (f 0) (fun t => stW f k (nP f k - 2 - j) s t * grR f k j t)
def grW (f : Vw) (k p s : Nat) : Nat := grR f k (nP f k - 1 - p) s
def mnR (f : Vw) (k : Nat) : Nat → Nat → Nat
  | 0, _ => 1
  | j + 1, s => smN (f 0) (fun t => if 0 < stW f k (nP f k - 2 - j) s t then mnR f k j t else 0)
def mnW (f : Vw) (k p s : Nat) : Nat := mnR f k (nP f k - 1 - p) s
theorem bhW_l {f : Vw} {k p s : Nat} (h : p = nP f k - 1) : bhW f k p s = 1 := by
  unfold bhW
  rw [show nP f k - 1 - p = 0 by omega]
  rfl
theorem bhW_s {f : Vw} {k p s : Nat} (h : p + 1 < nP f k) : bhW f k p s = smN (f 0) (fun t => stW f k p s t * bhW f k (p + 1) t) := by
  unfold bhW
  rw [show nP f k - 1 - p = (nP f k - 1 - (p + 1)) + 1 by omega, bhR, show nP f k - 2 - (nP f k - 1 - (p + 1)) = p by omega]
theorem grW_l {f : Vw} {k p s : Nat} (h : p = nP f k - 1) : grW f k p s = 1 := by
  unfold grW
  rw [show nP f k - 1 - p = 0 by omega]
  rfl
theorem grW_s {f : Vw} {k p s : Nat} (h : p + 1 < nP f k) : grW f k p s = mxN (f 0) (fun t => stW f k p s t * grW f k (p + 1) t) := by
  unfold grW
  rw [show nP f k - 1 - p = (nP f k - 1 - (p + 1)) + 1 by omega, grR, show nP f k - 2 - (nP f k - 1 - (p + 1)) = p by omega]
theorem mnW_l {f : Vw} {k p s : Nat} (h : p = nP f k - 1) : mnW f k p s = 1 := by
  unfold mnW
  rw [show nP f k - 1 - p = 0 by omega]
  rfl
theorem mnW_s {f : Vw} {k p s : Nat} (h : p + 1 < nP f k) : mnW f k p s = smN (f 0) (fun t => if 0 < stW f k p s t then mnW f k (p + 1) t else 0) := by
  unfold mnW
  rw [show nP f k - 1 - p = (nP f k - 1 - (p + 1)) + 1 by omega, mnR, show nP f k - 2 - (nP f k - 1 - (p + 1)) = p by omega]
def wtW (f : Vw) (k p s : Nat) : Nat := upW f k p s * bhW f k p s
def totW (f : Vw) (k : Nat) : Nat := smN (f 0) (fun s => wtW f k 0 s)
def goW (f : Vw) (k s t : Nat) : Nat := smN (nP f k - 1) (fun p => upW f k p s * stW f k p s t * bhW f k (p + 1) t)
def shW (f : Vw) (k s g : Nat) : Nat := smN (nP f k) (fun p => if sG f k p = g then wtW f k p s else 0)
def nxW (f : Vw) (k g : Nat) : Nat := smN (f 0) (fun s => smN (f 0) (fun t => upW f k (nP f k - 1) s * gW f s t * sW f t g))
/-- the lowest place among 0 .. n at which g is greatest -/
def amN (g : Nat → Nat) : Nat → Nat
  | 0 => 0
  | n + 1 => if g (amN g n) < g (n + 1) then n + 1 else amN g n
def lkW (f : Vw) (k p : Nat) : Nat := amN (wtW f k p) (f 0 - 1)
/-- what Sums holds behind read(k) -/
def SM (f : Vw) (k : Nat) (I : Iv) (L : Lv) : Prop :=
  I 29 1 = nI k ∧ I 29 2 = nI (nP f k) ∧ (∀ p s, p < nP f k → s < f 0 → L 30 (p * 4 + s) = lN (upW f k p s)) ∧ (∀ p s, p < nP f k → s < f 0 → L 31 (p * 4 + s) = lN (bhW f k p s)) ∧ L 29 5 = lN (totW f k)
def shN (a t : Nat) : Nat := 1000 * a / t
theorem dig_q {a t : Nat} (ht : 0 < t) : a / t * 10 + a % t * 10 / t = a * 10 / t := by
  have h := Nat.div_add_mod a t
  have e : a * 10 = t * (a / t * 10) + a % t * 10 := by
    calc a * 10 = (t * (a / t) + a % t) * 10 := by rw [h]
      _ = t * (a / t) * 10 + a % t * 10 := Nat.add_mul _ _ _
      _ = t * (a / t * 10) + a % t * 10 := by rw [Nat.mul_assoc]
  rw [e, Nat.mul_add_div ht]
theorem dig_r {a t : Nat} : a % t * 10 % t = a * 10 % t := by
  have h := Nat.div_add_mod a t
  have e : a * 10 = t * (a / t * 10) + a % t * 10 := by
    calc a * 10 = (t * (a / t) + a % t) * 10 := by rw [h]
      _ = t * (a / t) * 10 + a % t * 10 := Nat.add_mul _ _ _
      _ = t * (a / t * 10) + a % t * 10 := by rw [Nat.mul_assoc]
  rw [e, Nat.mul_add_mod]
theorem dig_3 {a t : Nat} (ht : 0 < t) : ((a / t * 10 + a % t * 10 / t) * 10 + a % t * 10 % t * 10 / t) * 10 + a % t * 10 % t * 10 % t * 10 / t = shN a t := by
  rw [dig_q ht, dig_r, dig_q ht, dig_r, dig_q ht, shN, show a * 10 * 10 * 10 = 1000 * a by omega]
theorem dig_3' {a t : Nat} (ht : 0 < t) : 10 * (10 * (10 * (a / t) + a % t * 10 / t) + a % t * 10 % t * 10 / t) + a % t * 10 % t * 10 % t * 10 / t = shN a t := by
  rw [← dig_3 ht, Nat.mul_comm 10 (a / t), Nat.mul_comm 10, Nat.mul_comm 10]
theorem lN_ne0 {t : Nat} (ht : 0 < t) (hb : t < 2 ^ 63) : ¬ lN t = 0 := fun h => by
  have : t = 0 := (pk_lEQ hb (by decide)).mp (h.trans (show (0 : Int64) = lN 0 from rfl))
  omega
theorem smN_mul (c : Nat) (g : Nat → Nat) : ∀ n, c * smN n g = smN n (fun t => c * g t)
  | 0 => rfl
  | n + 1 => by rw [smN_s, Nat.mul_add, smN_mul c g n, smN_s]
theorem smN_le1 {g : Nat → Nat} {n i : Nat} (h : i < n) : g i ≤ smN n g := by
  induction n with
  | zero => omega
  | succ n ih =>
    rw [smN_s]
    by_cases q : i = n
    · subst q
      omega
    · have := ih (by omega)
      omega
theorem smN_pos {g : Nat → Nat} : ∀ {n : Nat}, 0 < smN n g → ∃ i, i < n ∧ 0 < g i
  | 0, h => by simp [smN] at h
  | n + 1, h => by
    rw [smN_s] at h
    by_cases q : 0 < g n
    · exact ⟨n, by omega, q⟩
    · obtain ⟨i, h1, h2⟩ := smN_pos (g := g) (n := n) (by omega)
      exact ⟨i, by omega, h2⟩
theorem upW_le {f : Vw} {k : Nat} (w : Wf f) (hk : k < f 1) : ∀ p, p < nP f k → ∀ s, s < f 0 → upW f k p s ≤ 36 * 144 ^ p
  | 0, hp, s, hs => by
    have h := Nat.mul_le_mul (w.b hs) (w.w hs (g := sG f k 0) (by have := w.s hk hp; omega))
    simpa [upW] using h
  | p + 1, hp, s, hs => by
    have h1 : ∀ t, t < f 0 → upW f k p t * gW f t s ≤ 36 * 144 ^ p * 6 := fun t ht => Nat.mul_le_mul (upW_le w hk p (by omega) t ht) (w.g ht hs)
    have h2 := smN_le (g := fun t => upW f k p t * gW f t s) h1
    have h3 : f 0 * (36 * 144 ^ p * 6) ≤ 4 * (36 * 144 ^ p * 6) := Nat.mul_le_mul_right _ w.n4
    have h4 := Nat.mul_le_mul (Nat.le_trans h2 h3) (w.w hs (g := sG f k (p + 1)) (by have := w.s hk hp; omega))
    rw [upW, Nat.pow_succ]
    omega
theorem stW_le {f : Vw} {k p s t : Nat} (w : Wf f) (hk : k < f 1) (hp : p + 1 < nP f k) (hs : s < f 0) (ht : t < f 0) : stW f k p s t ≤ 36 :=
  Nat.mul_le_mul (w.g hs ht) (w.w ht (g := sG f k (p + 1)) (by have := w.s hk hp; omega))
theorem bhR_le {f : Vw} {k : Nat} (w : Wf f) (hk : k < f 1) : ∀ j, j < nP f k → ∀ s, s < f 0 → bhR f k j s ≤ 144 ^ j
  | 0, _, s, _ => by simp [bhR]
  | j + 1, hj, s, hs => by
    have h1 : ∀ t, t < f 0 → stW f k (nP f k - 2 - j) s t * bhR f k j t ≤ 36 * 144 ^ j := fun t ht => Nat.mul_le_mul (stW_le w hk (by omega) hs ht) (bhR_le w hk j (by omega) t ht)
    have h2 := smN_le (g := fun t => stW f k (nP f k - 2 - j) s t * bhR f k j t) h1
    have h3 : f 0 * (36 * 144 ^ j) ≤ 4 * (36 * 144 ^ j) := Nat.mul_le_mul_right _ w.n4
    rw [bhR, Nat.pow_succ]
    omega
theorem wtW_le {f : Vw} {k p s : Nat} (w : Wf f) (hk : k < f 1) (hp : p < nP f k) (hs : s < f 0) : wtW f k p s ≤ 320979616137216 := by
  have h := Nat.mul_le_mul (upW_le w hk p hp s hs) (bhR_le w hk (nP f k - 1 - p) (by omega) s hs)
  have e : 36 * 144 ^ p * 144 ^ (nP f k - 1 - p) = 36 * 144 ^ (nP f k - 1) := by
    rw [Nat.mul_assoc, ← Nat.pow_add, show p + (nP f k - 1 - p) = nP f k - 1 by omega]
  have h2 : 144 ^ (nP f k - 1) ≤ 144 ^ 6 := Nat.pow_le_pow_right (by decide) (by have := w.p hk; omega)
  have h3 : (144 : Nat) ^ 6 = 8916100448256 := by decide
  unfold wtW bhW
  rw [e] at h
  omega
theorem upL_le {f : Vw} {k p s : Nat} (w : Wf f) (hk : k < f 1) (hp : p < nP f k) (hs : s < f 0) : upW f k p s ≤ 320979616137216 := by
  have h := upW_le w hk p hp s hs
  have h2 : 144 ^ p ≤ 144 ^ 6 := Nat.pow_le_pow_right (by decide) (by have := w.p hk; omega)
  have h3 : (144 : Nat) ^ 6 = 8916100448256 := by decide
  omega
theorem totW_le {f : Vw} {k : Nat} (w : Wf f) (hk : k < f 1) : totW f k ≤ 1283918464548864 := by
  have h := smN_le (g := fun s => wtW f k 0 s) (n := f 0) (c := 320979616137216) (fun s hs => wtW_le w hk (by have := w.p hk; omega) hs)
  have := w.n4
  unfold totW
  omega
theorem amN_le (g : Nat → Nat) : ∀ n, amN g n ≤ n
  | 0 => Nat.le_refl 0
  | n + 1 => by
    have := amN_le g n
    rw [amN]
    split <;> omega
theorem lkW_lt {f : Vw} {k p : Nat} (w : Wf f) : lkW f k p < f 0 := by
  have := amN_le (wtW f k p) (f 0 - 1)
  have := w.n1
  unfold lkW
  omega
/-- doubtful places among the first n, as bits -/
def dbW (f : Vw) (k n : Nat) : Nat := smN n (fun p => if shN (wtW f k p (lkW f k p)) (totW f k) < f 2 then 2 ^ p else 0)
theorem dbW_lt (f : Vw) (k : Nat) : ∀ n, dbW f k n < 2 ^ n
  | 0 => by simp [dbW, smN]
  | n + 1 => by
    have h := dbW_lt f k n
    have e : dbW f k (n + 1) = dbW f k n + (if shN (wtW f k n (lkW f k n)) (totW f k) < f 2 then 2 ^ n else 0) := rfl
    rw [e, Nat.pow_succ]
    split <;> omega
theorem bit_shl {p : Nat} (hp : p < 31) : nI 1 <<< (nI p &&& 31) = nI (2 ^ p) := by
  have h : ∀ p, p < 31 → nI 1 <<< (nI p &&& 31) = nI (2 ^ p) := by decide +kernel
  exact h p hp
theorem bit_or {a p : Nat} (ha : a < 2 ^ p) (hp : p < 31) : nI a ||| nI (2 ^ p) = nI (a + 2 ^ p) := by
  have h0 : 2 ^ p ≤ 2 ^ 30 := Nat.pow_le_pow_right (by decide) (by omega)
  have h1 : (2 : Nat) ^ 30 = 1073741824 := by decide
  have e : a ||| 2 ^ p = a + 2 ^ p := by
    have := Nat.two_pow_add_eq_or_of_lt ha 1
    rw [Nat.mul_one] at this
    rw [Nat.or_comm, ← this, Nat.add_comm]
  apply Int32.toBitVec_inj.mp
  rw [Int32.toBitVec_or]
  show BitVec.ofNat 32 a ||| BitVec.ofNat 32 (2 ^ p) = BitVec.ofNat 32 (a + 2 ^ p)
  apply BitVec.eq_of_toNat_eq
  rw [BitVec.toNat_or, BitVec.toNat_ofNat, BitVec.toNat_ofNat, BitVec.toNat_ofNat, Nat.mod_eq_of_lt (by omega), Nat.mod_eq_of_lt (by omega), Nat.mod_eq_of_lt (by omega), e]
theorem nxC_eq {f : Vw} {k g : Nat} : smN (f 0) (fun s => upW f k (nP f k - 1) s * bhW f k (nP f k - 1) s * smN (f 0) (fun t => gW f s t * sW f t g)) = nxW f k g := by
  unfold nxW
  refine smN_congr (fun s _ => ?_)
  rw [bhW_l rfl, Nat.mul_one, smN_mul]
  exact smN_congr (fun t _ => (Nat.mul_assoc _ _ _).symm)
theorem nxW_le {f : Vw} {k g : Nat} (w : Wf f) (hk : k < f 1) (hg : g < 3) : nxW f k g ≤ 184884258895036416 := by
  have h : ∀ s, s < f 0 → smN (f 0) (fun t => upW f k (nP f k - 1) s * gW f s t * sW f t g) ≤ 46221064723759104 := fun s hs => by
    have h1 : ∀ t, t < f 0 → upW f k (nP f k - 1) s * gW f s t * sW f t g ≤ 11555266180939776 := fun t ht =>
      Nat.le_trans (Nat.mul_le_mul (Nat.mul_le_mul (upL_le w hk (p := nP f k - 1) (by have := w.p hk; omega) hs) (w.g hs ht)) (w.w ht hg)) (Nat.le_of_ble_eq_true rfl)
    have h2 := smN_le h1
    exact Nat.le_trans h2 (Nat.le_trans (Nat.mul_le_mul_right _ w.n4) (Nat.le_of_ble_eq_true rfl))
  exact Nat.le_trans (smN_le h) (Nat.le_trans (Nat.mul_le_mul_right _ w.n4) (Nat.le_of_ble_eq_true rfl))
theorem amN_s (g : Nat → Nat) (n : Nat) : amN g (n + 1) = if g (amN g n) < g (n + 1) then n + 1 else amN g n := rfl
theorem up_bh {f : Vw} {k : Nat} (w : Wf f) : ∀ p, p + 1 < nP f k → smN (f 0) (fun s => wtW f k p s) = smN (f 0) (fun s => wtW f k (p + 1) s) := by
  intro p hp
  have sw : ∀ (n m : Nat) (g : Nat → Nat → Nat), smN n (fun s => smN m (fun t => g s t)) = smN m (fun t => smN n (fun s => g s t)) := by
    intro n m g
    induction n with
    | zero =>
      have : ∀ m, smN m (fun _ => 0) = 0 := fun m => by
        induction m with
        | zero => rfl
        | succ m ih => rw [smN_s, ih]
      simp [smN, this]
    | succ n ih =>
      rw [smN_s, ih]
      clear ih
      induction m with
      | zero => rfl
      | succ m ih => rw [smN_s, smN_s, smN_s, ← ih, smN_s]; omega
  have e1 : ∀ s, wtW f k p s = smN (f 0) (fun t => upW f k p s * gW f s t * (sW f t (sG f k (p + 1)) * bhW f k (p + 1) t)) := fun s => by
    unfold wtW
    rw [bhW_s hp, smN_mul]
    refine smN_congr (fun t _ => ?_)
    simp only [stW, Nat.mul_assoc]
  have e2 : ∀ t, wtW f k (p + 1) t = smN (f 0) (fun s => upW f k p s * gW f s t * (sW f t (sG f k (p + 1)) * bhW f k (p + 1) t)) := fun t => by
    unfold wtW
    rw [upW, Nat.mul_assoc, Nat.mul_comm, smN_mul]
    refine smN_congr (fun s _ => ?_)
    rw [Nat.mul_comm]
  rw [smN_congr (fun s _ => e1 s), smN_congr (fun s _ => e2 s), sw]
theorem tot_at {f : Vw} {k : Nat} (w : Wf f) : ∀ p, p < nP f k → smN (f 0) (fun s => wtW f k p s) = totW f k
  | 0, _ => rfl
  | p + 1, h => (up_bh w p h).symm.trans (tot_at w p (by omega))
theorem wt_tot {f : Vw} {k p s : Nat} (w : Wf f) (hp : p < nP f k) (hs : s < f 0) : wtW f k p s ≤ totW f k := by
  rw [← tot_at w p hp]
  exact smN_le1 (g := fun s => wtW f k p s) hs
theorem shN_le {a t c : Nat} (h : a ≤ c * t) : shN a t ≤ 1000 * c := by
  unfold shN
  by_cases h0 : t = 0
  · subst h0
    simp
  · refine Nat.div_le_of_le_mul ?_
    calc 1000 * a ≤ 1000 * (c * t) := Nat.mul_le_mul_left _ h
      _ = t * (1000 * c) := by rw [← Nat.mul_assoc, Nat.mul_comm]
theorem shN_small {f : Vw} {k p s : Nat} (w : Wf f) (_ : k < f 1) (hp : p < nP f k) (hs : s < f 0) : shN (wtW f k p s) (totW f k) < 2147483648 := by
  have := shN_le (c := 1) (a := wtW f k p s) (t := totW f k) (by have := wt_tot w hp hs; omega)
  omega
/-- the greatest weight of what follows, the show at the place itself with it -/
def gcW (f : Vw) (k p s : Nat) : Nat := sW f s (sG f k p) * grW f k p s
def gnW (f : Vw) (k p s t : Nat) : Nat := gW f s t * gcW f k (p + 1) t
def bgW (f : Vw) (k s : Nat) : Nat := bW f s * gcW f k 0 s
theorem gnW_st {f : Vw} {k p s t : Nat} : gnW f k p s t = stW f k p s t * grW f k (p + 1) t := by
  simp only [gnW, gcW, stW, Nat.mul_assoc]
theorem bgW_up {f : Vw} {k s : Nat} : bgW f k s = upW f k 0 s * grW f k 0 s := by
  simp only [bgW, gcW, upW, Nat.mul_assoc]
theorem mxN_s (n : Nat) (g : Nat → Nat) : mxN (n + 1) g = if mxN n g < g n then g n else mxN n g := rfl
theorem mx_am (g : Nat → Nat) : ∀ n, g (amN g n) = mxN (n + 1) g
  | 0 => by
    rw [mxN_s]
    show g 0 = if 0 < g 0 then g 0 else 0
    split <;> omega
  | n + 1 => by
    have h := mx_am g n
    rw [mxN_s, amN_s, ← h]
    split <;> rfl
theorem mxN_congr {g h : Nat → Nat} : ∀ {n : Nat}, (∀ k, k < n → g k = h k) → mxN n g = mxN n h
  | 0, _ => rfl
  | n + 1, e => by rw [mxN_s, mxN_s, mxN_congr (fun k hk => e k (by omega)), e n (by omega)]
theorem mxN_le {g : Nat → Nat} {c : Nat} : ∀ {n : Nat}, (∀ k, k < n → g k ≤ c) → mxN n g ≤ c
  | 0, _ => Nat.zero_le _
  | n + 1, e => by
    rw [mxN_s]
    split
    · exact e n (by omega)
    · exact mxN_le (fun k hk => e k (by omega))
theorem grW_am {f : Vw} {k p s : Nat} (w : Wf f) (h : p + 1 < nP f k) : gnW f k p s (amN (gnW f k p s) (f 0 - 1)) = grW f k p s := by
  have := w.n1
  rw [mx_am (gnW f k p s), grW_s h, show f 0 - 1 + 1 = f 0 by omega]
  exact mxN_congr (fun t _ => gnW_st)
def bestW (f : Vw) (k : Nat) : Nat := mxN (f 0) (bgW f k)
def pathW (f : Vw) (k : Nat) : Nat → Nat
  | 0 => amN (bgW f k) (f 0 - 1)
  | p + 1 => amN (gnW f k p (pathW f k p)) (f 0 - 1)
theorem bestW_am {f : Vw} {k : Nat} (w : Wf f) : bgW f k (amN (bgW f k) (f 0 - 1)) = bestW f k := by
  have := w.n1
  rw [mx_am (bgW f k), show f 0 - 1 + 1 = f 0 by omega]
  rfl
theorem pathW_lt {f : Vw} {k : Nat} (w : Wf f) : ∀ p, pathW f k p < f 0 := by
  have := w.n1
  intro p
  cases p with
  | zero => have := amN_le (bgW f k) (f 0 - 1); simp only [pathW]; omega
  | succ p => have := amN_le (gnW f k p (pathW f k p)) (f 0 - 1); simp only [pathW]; omega
theorem grR_le {f : Vw} {k : Nat} (w : Wf f) (hk : k < f 1) : ∀ j, j < nP f k → ∀ s, s < f 0 → grR f k j s ≤ 36 ^ j
  | 0, _, s, _ => by simp [grR]
  | j + 1, hj, s, hs => by
    rw [grR, Nat.pow_succ, Nat.mul_comm]
    exact mxN_le (fun t ht => Nat.mul_le_mul (stW_le w hk (by omega) hs ht) (grR_le w hk j (by omega) t ht))
theorem grW_le {f : Vw} {k p s : Nat} (w : Wf f) (hk : k < f 1) (hp : p < nP f k) (hs : s < f 0) : grW f k p s ≤ 2176782336 := by
  have h := grR_le w hk (nP f k - 1 - p) (by omega) s hs
  have h2 : 36 ^ (nP f k - 1 - p) ≤ 36 ^ 6 := Nat.pow_le_pow_right (by decide) (by have := w.p hk; omega)
  have h3 : (36 : Nat) ^ 6 = 2176782336 := by decide
  unfold grW
  omega
theorem gcW_le {f : Vw} {k p s : Nat} (w : Wf f) (hk : k < f 1) (hp : p < nP f k) (hs : s < f 0) : gcW f k p s ≤ 13060694016 := by
  have h := Nat.mul_le_mul (w.w hs (g := sG f k p) (by have := w.s hk hp; omega)) (grW_le w hk hp hs)
  exact Nat.le_trans h (Nat.le_of_ble_eq_true rfl)
theorem gnW_le {f : Vw} {k p s t : Nat} (w : Wf f) (hk : k < f 1) (hp : p + 1 < nP f k) (hs : s < f 0) (ht : t < f 0) : gnW f k p s t < 2 ^ 63 :=
  Nat.lt_of_le_of_lt (Nat.mul_le_mul (w.g hs ht) (gcW_le w hk hp ht)) (by decide)
theorem bgW_le {f : Vw} {k s : Nat} (w : Wf f) (hk : k < f 1) (hs : s < f 0) : bgW f k s < 2 ^ 63 :=
  Nat.lt_of_le_of_lt (Nat.mul_le_mul (w.b hs) (gcW_le w hk (by have := w.p hk; omega) hs)) (by decide)
/-- what BestRun holds behind read(k) -/
def BM (f : Vw) (k : Nat) (I : Iv) (L : Lv) : Prop := (∀ p, p < nP f k → I 34 p = nI (pathW f k p)) ∧ L 32 3 = lN (bestW f k)
def ptW (f : Vw) (k p s : Nat) : Nat := if 0 < sW f s (sG f k p) then mnW f k p s else 0
def enW (f : Vw) (k p b s : Nat) : Nat := if 0 < (if p = 0 then bW f s else gW f b s) then ptW f k p s else 0
def cntW (f : Vw) (k : Nat) : Nat := smN (f 0) (fun s => enW f k 0 0 s)
theorem en_st {f : Vw} {k p s t : Nat} : enW f k (p + 1) s t = if 0 < stW f k p s t then mnW f k (p + 1) t else 0 := by
  unfold enW ptW stW
  rw [if_neg (Nat.succ_ne_zero p)]
  by_cases h1 : 0 < gW f s t <;> by_cases h2 : 0 < sW f t (sG f k (p + 1))
  · simp [h1, h2]
  · simp [show sW f t (sG f k (p + 1)) = 0 by omega]
  · simp [show gW f s t = 0 by omega]
  · simp [show gW f s t = 0 by omega]
theorem en_up {f : Vw} {k b s : Nat} : enW f k 0 b s = if 0 < upW f k 0 s then mnW f k 0 s else 0 := by
  unfold enW ptW upW
  rw [if_pos rfl]
  by_cases h1 : 0 < bW f s <;> by_cases h2 : 0 < sW f s (sG f k 0)
  · simp [h1, h2]
  · simp [show sW f s (sG f k 0) = 0 by omega]
  · simp [show bW f s = 0 by omega]
  · simp [show bW f s = 0 by omega]
theorem en_mn {f : Vw} {k p s : Nat} (h : p + 1 < nP f k) : smN (f 0) (fun t => enW f k (p + 1) s t) = mnW f k p s := by
  rw [mnW_s h]
  exact smN_congr (fun t _ => en_st)
theorem mnR_le {f : Vw} {k : Nat} (w : Wf f) : ∀ j, ∀ s, mnR f k j s ≤ 4 ^ j
  | 0, s => by simp [mnR]
  | j + 1, s => by
    have h1 : ∀ t, t < f 0 → (if 0 < stW f k (nP f k - 2 - j) s t then mnR f k j t else 0) ≤ 4 ^ j := fun t _ => by
      have := mnR_le (k := k) w j t
      split <;> omega
    have h2 := smN_le h1
    have h3 : f 0 * 4 ^ j ≤ 4 * 4 ^ j := Nat.mul_le_mul_right _ w.n4
    rw [mnR, Nat.pow_succ]
    omega
theorem mnW_le {f : Vw} {k p s : Nat} (w : Wf f) (hk : k < f 1) : mnW f k p s ≤ 4096 := by
  have h := mnR_le (k := k) w (nP f k - 1 - p) s
  have h2 : 4 ^ (nP f k - 1 - p) ≤ 4 ^ 6 := Nat.pow_le_pow_right (by decide) (by have := w.p hk; omega)
  have h3 : (4 : Nat) ^ 6 = 4096 := by decide
  unfold mnW
  omega
theorem ptW_le {f : Vw} {k p s : Nat} (w : Wf f) (hk : k < f 1) : ptW f k p s ≤ 4096 := by
  have := mnW_le (p := p) (s := s) w hk
  unfold ptW
  split <;> omega
theorem enW_le {f : Vw} {k p b s : Nat} (w : Wf f) (hk : k < f 1) : enW f k p b s ≤ 4096 := by
  have h := ptW_le (p := p) (s := s) w hk
  unfold enW
  by_cases q : 0 < (if p = 0 then bW f s else gW f b s)
  · rw [if_pos q]
    exact h
  · rw [if_neg q]
    exact Nat.zero_le _
theorem cntW_le {f : Vw} {k : Nat} (w : Wf f) (hk : k < f 1) : cntW f k ≤ 16384 := by
  have h := smN_le (g := fun s => enW f k 0 0 s) (n := f 0) (c := 4096) (fun s _ => enW_le w hk)
  have := w.n4
  unfold cntW
  omega
/-- the first place at which what is left is below the entry -/
def fnd (e : Nat → Nat) : Nat → Nat → Nat → Nat × Nat
  | 0, l, s => (l, s)
  | m + 1, l, s => if l < e s then (l, s) else fnd e m (l - e s) (s + 1)
theorem fnd_1 (e : Nat → Nat) : ∀ m l s, (fnd e m l s).1 ≤ l
  | 0, l, s => Nat.le_refl _
  | m + 1, l, s => by
    rw [fnd]
    split
    · exact Nat.le_refl _
    · exact Nat.le_trans (fnd_1 e m _ _) (Nat.sub_le _ _)
theorem fnd_2 (e : Nat → Nat) : ∀ m l s, (fnd e m l s).2 ≤ s + m
  | 0, l, s => Nat.le_refl _
  | m + 1, l, s => by
    rw [fnd]
    split
    · exact Nat.le_add_right _ _
    · have := fnd_2 e m (l - e s) (s + 1)
      omega
def rkW (f : Vw) (k r : Nat) : Nat → Nat × Nat
  | 0 => (r, 0)
  | i + 1 => fnd (enW f k i (rkW f k r i).2) (f 0 - 1) (rkW f k r i).1 0
theorem rk_1 {f : Vw} {k r : Nat} : ∀ i, (rkW f k r i).1 ≤ r
  | 0 => Nat.le_refl _
  | i + 1 => Nat.le_trans (fnd_1 _ _ _ _) (rk_1 i)
theorem rk_2 {f : Vw} {k r : Nat} (w : Wf f) : ∀ i, (rkW f k r i).2 < f 0
  | 0 => w.n1
  | i + 1 => by
    have := fnd_2 (enW f k i (rkW f k r i).2) (f 0 - 1) (rkW f k r i).1 0
    have := w.n1
    rw [rkW]
    omega
/-- what RunOrder holds behind read(k) -/
def RM (f : Vw) (k : Nat) (I : Iv) : Prop := (∀ p s, p < nP f k → s < f 0 → I 36 (p * 4 + s) = nI (ptW f k p s)) ∧ I 35 2 = nI (cntW f k)
/-! the reference's rows -/
def UM (f : Vw) (k : Nat) (L : Lv) : Prop :=
  (∀ p s j, p < nP f k → s < f 0 → j = 4 * p + s → L 46 j = lN (upW f k p s)) ∧
  (∀ p s j, p < nP f k → s < f 0 → j = 4 * p + s → L 47 j = lN (bhW f k p s)) ∧
  (∀ p s j, p < nP f k → s < f 0 → j = 4 * p + s → L 48 j = lN (grW f k p s)) ∧
  (∀ p s j, p < nP f k → s < f 0 → j = 4 * p + s → L 49 j = lN (mnW f k p s))
def inr (z a b : Int32) : Nat := if z < a ∨ b < z then 0 else 1
theorem inr_lt (z a b : Int32) : inr z a b < 2 := by
  unfold inr
  split <;> omega
theorem inr_inb {z : Int32} {n : Nat} (hn : n < 2 ^ 30) : inr z (nI 0) (nI n - nI 1) = inb z n := by
  unfold inr inb
  have e : (nI n - nI 1 < z) ↔ nI n ≤ z := by
    rw [Int32.lt_iff_toInt_lt, Int32.le_iff_toInt_le, pk_sub_toInt hn (by decide), nI_toInt (by omega)]
    omega
  have e0 : (nI 0 : Int32) = 0 := rfl
  rw [e0]
  by_cases h : z < 0 ∨ nI n ≤ z
  · rw [if_pos h, if_pos (h.imp id e.mpr)]
  · rw [if_neg h, if_neg (fun q => h (q.imp id e.mp))]
theorem grW_mx {f : Vw} {k p s : Nat} (h : p + 1 < nP f k) : grW f k p s = mxN (f 0) (gnW f k p s) := by
  rw [grW_s h]
  exact mxN_congr (fun t _ => gnW_st.symm)
theorem am_first (g : Nat → Nat) : ∀ n t, t < amN g n → g t < g (amN g n)
  | 0, t, h => absurd h (Nat.not_lt_zero t)
  | n + 1, t, h => by
    rw [amN_s] at h ⊢
    by_cases q : g (amN g n) < g (n + 1)
    · rw [if_pos q] at h ⊢
      have hx := mx_am g n
      have : g t ≤ mxN (n + 1) g := by
        have ht : t < n + 1 := h
        clear h q hx
        have key : ∀ m, t < m → g t ≤ mxN m g := by
          intro m
          induction m with
          | zero => intro h; omega
          | succ m ih =>
            intro h
            rw [mxN_s]
            by_cases e : t = m
            · subst e
              split <;> omega
            · have := ih (by omega)
              split <;> omega
        exact key _ ht
      omega
    · rw [if_neg q] at h ⊢
      exact am_first g n t h
theorem am_ne {g : Nat → Nat} {n t : Nat} (hn : 0 < n) (h : t < amN g (n - 1)) : g t ≠ mxN n g := by
  have h1 := am_first g (n - 1) t h
  have h2 := mx_am g (n - 1)
  rw [show n - 1 + 1 = n by omega] at h2
  omega
theorem am_eq {g : Nat → Nat} {n : Nat} (hn : 0 < n) : g (amN g (n - 1)) = mxN n g := by
  have h2 := mx_am g (n - 1)
  rwa [show n - 1 + 1 = n by omega] at h2
def smT (e : Nat → Nat) : Nat → Nat → Nat
  | s, 0 => e s
  | s, m + 1 => e s + smT e (s + 1) m
theorem smT_smN (e : Nat → Nat) : ∀ m s, smT e s m + smN s e = smN (s + m + 1) e
  | 0, s => by
    rw [smT, Nat.add_zero, smN_s]
    omega
  | m + 1, s => by
    have h := smT_smN e m (s + 1)
    rw [smT, show s + (m + 1) + 1 = s + 1 + m + 1 by omega, ← h, smN_s]
    omega
theorem smT_0 {e : Nat → Nat} {n : Nat} (hn : 0 < n) : smT e 0 (n - 1) = smN n e := by
  have h := smT_smN e (n - 1) 0
  rw [show 0 + (n - 1) + 1 = n by omega] at h
  simpa [smN] using h
theorem fnd_lt (e : Nat → Nat) : ∀ m l s, l < smT e s m → (fnd e m l s).1 < e (fnd e m l s).2
  | 0, l, s, h => h
  | m + 1, l, s, h => by
    rw [fnd]
    by_cases q : l < e s
    · rw [if_pos q]
      exact q
    · rw [if_neg q]
      rw [smT] at h
      exact fnd_lt e m (l - e s) (s + 1) (by omega)
theorem rk_lt {f : Vw} {k r : Nat} (w : Wf f) (hr : r < cntW f k) : ∀ i, i < nP f k → (rkW f k r (i + 1)).1 < enW f k i (rkW f k r i).2 (rkW f k r (i + 1)).2 ∧ (rkW f k r i).1 < smN (f 0) (enW f k i (rkW f k r i).2)
  | 0, _ => by
    refine ⟨fnd_lt _ _ _ _ ?_, ?_⟩
    · rw [smT_0 w.n1]
      exact hr
    · exact hr
  | i + 1, h => by
    have h1 := (rk_lt w hr i (by omega)).1
    have h2 : (rkW f k r (i + 1)).1 < smN (f 0) (enW f k (i + 1) (rkW f k r (i + 1)).2) := by
      have e : smN (f 0) (enW f k (i + 1) (rkW f k r (i + 1)).2) = mnW f k i (rkW f k r (i + 1)).2 := en_mn h
      rw [e]
      refine Nat.lt_of_lt_of_le h1 ?_
      unfold enW
      by_cases q : 0 < (if i = 0 then bW f (rkW f k r (i + 1)).2 else gW f (rkW f k r i).2 (rkW f k r (i + 1)).2)
      · rw [if_pos q]
        unfold ptW
        by_cases q2 : 0 < sW f (rkW f k r (i + 1)).2 (sG f k i)
        · rw [if_pos q2]
          exact Nat.le_refl _
        · rw [if_neg q2]
          exact Nat.zero_le _
      · rw [if_neg q]
        exact Nat.zero_le _
    refine ⟨fnd_lt _ _ _ _ ?_, h2⟩
    rw [smT_0 w.n1]
    exact h2
theorem bestW_lt {f : Vw} {k : Nat} (w : Wf f) (hk : k < f 1) : bestW f k < 2 ^ 63 :=
  Nat.lt_of_le_of_lt (mxN_le (c := 2 ^ 63 - 1) (fun s hs => by have := bgW_le w hk hs; omega)) (by decide)
theorem smT_s (e : Nat → Nat) (s m : Nat) : smT e s (m + 1) = e s + smT e (s + 1) m := rfl
