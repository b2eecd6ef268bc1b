/-! what holds between two calls: of the class, of the reference -/
abbrev Tx : Type := Nat → Nat
def TC (T : Tx) (tl : Nat) (I : Iv) : Prop := I 27 1 = nI tl ∧ ∀ i, i < tl → I 28 i = nI (T i)
def TR (T : Tx) (tl : Nat) (I : Iv) : Prop := I 40 8 = nI tl ∧ ∀ i, i < tl → I 45 i = nI (T i)
def CI (f : Vw) (H : Hs) (hn sn : Nat) (g : Vw) (T : Tx) (tl : Nat) (I : Iv) (P : Pv) : Prop := RC 1 f I ∧ HC H hn I P ∧ I 0 2 = nI sn ∧ (sn = 1 → RC 5 g I) ∧ TC T tl I
def RI (f : Vw) (H : Hs) (hn sn : Nat) (g : Vw) (T : Tx) (tl : Nat) (I : Iv) : Prop := RR (I 41) f ∧ HR H hn I ∧ I 40 6 = nI sn ∧ (sn = 1 → RR (I 44) g) ∧ TR T tl I
def WI (f : Vw) (H : Hs) (hn sn : Nat) (g : Vw) (T : Tx) (tl : Nat) : Prop := Wf f ∧ HW H hn ∧ sn < 2 ∧ (sn = 1 → Wf g) ∧ tl ≤ 60 ∧ ∀ i, i < tl → T i < 65536
theorem Kp.hc {H : Hs} {hn : Nat} {I I1 : Iv} {P : Pv} (k : Kp I I1) (h : HC H hn I P) : HC H hn I1 P := h.same (fun a _ _ => k.row (by omega))
theorem CI.kp {f : Vw} {H : Hs} {hn sn : Nat} {g : Vw} {T : Tx} {tl : Nat} {I I1 : Iv} {P : Pv} (k : Kp I I1) (h : CI f H hn sn g T tl I P) : CI f H hn sn g T tl I1 P := by
  obtain ⟨h1, h2, h3, h4, h5, h6⟩ := h
  refine ⟨h1.same (fun a _ _ => k.row (by omega)), k.hc h2, by rw [k.row (by omega)]; exact h3, fun e => (h4 e).same (fun a _ _ => k.row (by omega)), by rw [k.row (by omega)]; exact h5, fun i hi => by rw [k.row (by omega)]; exact h6 i hi⟩
theorem RI.kp {f : Vw} {H : Hs} {hn sn : Nat} {g : Vw} {T : Tx} {tl : Nat} {I I1 : Iv} (k : Kp I I1) (h : RI f H hn sn g T tl I) : RI f H hn sn g T tl I1 := by
  obtain ⟨h1, ⟨h2, h2b, h2c⟩, h3, h4, h5, h6⟩ := h
  refine ⟨by rw [k.row (by omega)]; exact h1, ⟨h2, (k 40 4 (by unfold live; omega)).trans h2b, fun i hi => by rw [k.row (by omega)]; exact h2c i hi⟩, (k 40 6 (by unfold live; omega)).trans h3, fun e => by rw [k.row (by omega)]; exact h4 e, (k 40 8 (by unfold live; omega)).trans h5, fun i hi => by rw [k.row (by omega)]; exact h6 i hi⟩
/-- the class's side doesn't see what is written from 40 on, the reference's not what is written below -/
theorem CI.hi {f : Vw} {H : Hs} {hn sn : Nat} {g : Vw} {T : Tx} {tl : Nat} {I I1 : Iv} {P : Pv} (e : ∀ a, a < 40 → I1 a = I a) (h : CI f H hn sn g T tl I P) : CI f H hn sn g T tl I1 P := by
  obtain ⟨h1, h2, h3, h4, h5, h6⟩ := h
  refine ⟨h1.same (fun a _ _ => e a (by omega)), h2.same (fun a _ _ => e a (by omega)), by rw [e 0 (by decide)]; exact h3, fun q => (h4 q).same (fun a _ _ => e a (by omega)), by rw [e 27 (by decide)]; exact h5, fun i hi => by rw [e 28 (by decide)]; exact h6 i hi⟩
theorem RI.lo {f : Vw} {H : Hs} {hn sn : Nat} {g : Vw} {T : Tx} {tl : Nat} {I I1 : Iv} (e : ∀ a, 40 ≤ a → I1 a = I a) (h : RI f H hn sn g T tl I) : RI f H hn sn g T tl I1 := by
  obtain ⟨h1, ⟨h2, h2b, h2c⟩, h3, h4, h5, h6⟩ := h
  refine ⟨by rw [e 41 (by decide)]; exact h1, ⟨h2, by rw [e 40 (by decide)]; exact h2b, fun i hi => by rw [e 43 (by decide)]; exact h2c i hi⟩, by rw [e 40 (by decide)]; exact h3, fun q => by rw [e 44 (by decide)]; exact h4 q, by rw [e 40 (by decide)]; exact h5, fun i hi => by rw [e 45 (by decide)]; exact h6 i hi⟩
def upf (f : Vw) (j v : Nat) : Vw := fun i => if i = j then v else f i
def setA (f : Vw) (z : Int32) : Int32 := if z < nI 500 ∨ nI 1000 < z then (-2) else if nI (f 2) = z then (-5) else nI (f 2)
def setB (f : Vw) (z : Int32) : Bool := !decide (z < nI 500 ∨ nI 1000 < z) && !decide (nI (f 2) = z)
def stF (b : Bool) (f f1 : Vw) : Vw := if b then f1 else f
def stH (b : Bool) (H : Hs) (hn : Nat) (f : Vw) : Hs := if b then recH H hn f else H
def stN (b : Bool) (hn : Nat) : Nat := if b then recN hn else hn
theorem upf_bW {f : Vw} {v s : Nat} (_ : s < 4) : bW (upf f 2 v) s = bW f s := by
  have : 3 + s ≠ 2 := by omega
  simp [bW, upf, this]
theorem upf_gW {f : Vw} {v s t : Nat} : gW (upf f 2 v) s t = gW f s t := by
  have : 7 + 4 * s + t ≠ 2 := by omega
  simp [gW, upf, this]
theorem upf_sW {f : Vw} {v s t : Nat} : sW (upf f 2 v) s t = sW f s t := by
  have : 23 + 3 * s + t ≠ 2 := by omega
  simp [sW, upf, this]
theorem upf_nP {f : Vw} {v k : Nat} : nP (upf f 2 v) k = nP f k := by
  have : 35 + 8 * k ≠ 2 := by omega
  simp [nP, upf, this]
theorem upf_sG {f : Vw} {v k p : Nat} : sG (upf f 2 v) k p = sG f k p := by
  have : 35 + 8 * k + 1 + p ≠ 2 := by omega
  simp [sG, upf, this]
theorem RC.setB {b : Nat} {f : Vw} {I I1 : Iv} {v : Nat} (c : RC b f I) (w : Wf f) (e : I1 = up2 I b 2 (nI v)) : RC b (upf f 2 v) I1 := by
  have := w.n4
  refine ⟨(up2_off e (by omega)).trans c.st, (up2_off e (by omega)).trans c.sm, up2_at e, fun s hs => ?_, fun s t hs ht => ?_, fun s g hs hg => ?_, fun k hk => ?_, fun k p hk hp => ?_⟩
  · have h : s < f 0 := hs
    rw [upf_bW (by omega), up2_off e (by omega)]
    exact c.b h
  · rw [upf_gW, up2_off e (by omega)]
    exact c.g hs ht
  · rw [upf_sW, up2_off e (by omega)]
    exact c.w hs hg
  · rw [upf_nP, up2_off e (by omega)]
    exact c.n hk
  · rw [upf_nP] at hp
    rw [upf_sG, up2_off e (by omega)]
    exact c.s hk hp
theorem RR.setB {f : Vw} {h h1 : Nat → Int32} {v : Nat} (c : RR h f) (w : Wf f) (e2 : h1 2 = nI v) (e : ∀ j, j ≠ 2 → h1 j = h j) : RR h1 (upf f 2 v) := by
  have := w.n4
  refine ⟨(e 0 (by decide)).trans c.st, (e 1 (by decide)).trans c.sm, e2, fun s hs => ?_, fun s t hs ht => ?_, fun s g hs hg => ?_, fun k hk => ?_, fun k p hk hp => ?_⟩
  · have h : s < f 0 := hs
    rw [upf_bW (by omega), e _ (by omega)]
    exact c.b h
  · rw [upf_gW, e _ (by omega)]
    exact c.g hs ht
  · rw [upf_sW, e _ (by omega)]
    exact c.w hs hg
  · rw [upf_nP, e _ (by omega)]
    exact c.n hk
  · rw [upf_nP] at hp
    rw [upf_sG, e _ (by omega)]
    exact c.s hk hp
theorem Wf.setB {f : Vw} {v : Nat} (w : Wf f) (h1 : 500 ≤ v) (h2 : v ≤ 1000) : Wf (upf f 2 v) := by
  have := w.n4
  refine ⟨w.1, w.m6, ⟨h1, h2⟩, fun s hs => ?_, fun s t hs ht => ?_, fun s g hs hg => ?_, fun k hk => ?_, fun k p hk hp => ?_⟩
  · have h : s < f 0 := hs
    rw [upf_bW (by omega)]
    exact w.b h
  · rw [upf_gW]
    exact w.g hs ht
  · rw [upf_sW]
    exact w.w hs hg
  · rw [upf_nP]
    exact w.p hk
  · rw [upf_nP] at hp
    rw [upf_sG]
    exact w.s hk hp
