/-! what an act keeps -/
theorem WI.act {f f1 : Vw} {H : Hs} {hn sn : Nat} {g : Vw} {T : Tx} {tl : Nat} (wi : WI f H hn sn g T tl) {b : Bool} (h : b = true → Wf f1) : WI (stF b f f1) (stH b H hn f) (stN b hn) sn g T tl := by
  cases b with
  | false => exact wi
  | true => exact ⟨h rfl, wi.2.1.rec wi.1, wi.2.2⟩
theorem wf_setWeight {f : Vw} (w : Wf f) {z s t v : Int32} (h : wtB f z s t v = true) : Wf (upf f (pv z s t) (ix v)) := by
  have h4 := w.n4
  unfold wtB at h
  by_cases h1 : inb z 3 = 0
  · rw [if_pos h1] at h
    cases h
  · rw [if_neg h1] at h
    by_cases h2 : noP f z s t
    · rw [if_pos h2] at h
      cases h
    · rw [if_neg h2] at h
      by_cases h3 : inb v 7 = 0
      · rw [if_pos h3] at h
        cases h
      · obtain ⟨k, hk, ez⟩ := inb_1 (by decide) h1
        subst ez
        obtain ⟨i, j, hi, hj, es, ej⟩ := noP_ok w hk h2
        subst es
        subst ej
        have hg := tg_lt (k := k) h4
        obtain ⟨y, hy, ev⟩ := inb_1 (by decide) h3
        subst ev
        rw [pv_n hk (by omega) (by omega), ix_n (by omega)]
        exact w.setW (PC.of hk hi hj) (by omega)
theorem wf_split {f : Vw} (w : Wf f) {z : Int32} (h : spB f z = true) : Wf (splF f (ix z)) := by
  have h4 := w.n4
  unfold spB at h
  by_cases h1 : inb z (f 0) = 0
  · rw [if_pos h1] at h
    cases h
  · rw [if_neg h1] at h
    by_cases h2 : f 0 = 4
    · rw [if_pos h2] at h
      cases h
    · obtain ⟨s, hs, ez⟩ := inb_1 (by omega) h1
      subst ez
      rw [ix_n (by omega)]
      exact w.spl hs h2
theorem wf_join {f : Vw} (w : Wf f) {z y : Int32} (h : joB f z y = true) : Wf (joV f z y) := by
  have h4 := w.n4
  unfold joB at h
  by_cases h1 : joN f z y
  · rw [if_pos h1] at h
    cases h
  · rw [if_neg h1] at h
    by_cases h2 : z = y
    · rw [if_pos h2] at h
      cases h
    · obtain ⟨i, hi, ez⟩ := inb_1 (z := z) (n := f 0) (by omega) (fun q => h1 (Or.inl q))
      obtain ⟨j, hj, ey⟩ := inb_1 (z := y) (n := f 0) (by omega) (fun q => h1 (Or.inr q))
      have hij : i ≠ j := fun q => h2 (by rw [ez, ey, q])
      exact w.joi (by omega)
theorem wf_remove {f : Vw} (w : Wf f) {z : Int32} (h : rmB f z = true) : Wf (rmF f (ix z)) := by
  unfold rmB at h
  by_cases h1 : inb z (f 0) = 0
  · rw [if_pos h1] at h
    cases h
  · rw [if_neg h1] at h
    by_cases h2 : f 0 = 1
    · rw [if_pos h2] at h
      cases h
    · exact w.rmv h2
theorem wf_bound {f : Vw} (w : Wf f) {z : Int32} (h : setB f z = true) : Wf (upf f 2 (ix z)) := by
  by_cases q : z < nI 500 ∨ nI 1000 < z
  · simp [setB, q] at h
  · obtain ⟨v, hv, e⟩ := setB_ok q
    subst e
    rw [ix_n (by omega)]
    exact w.setB hv.1 hv.2
theorem wf_samples {f : Vw} (w : Wf f) {T : Tx} {tl : Nat} (h : smB f T tl = true) : Wf (smV f T tl) := by
  unfold smB at h
  by_cases h1 : noF T tl
  · rw [if_pos h1] at h
    by_cases h2 : 6 < f 1 + tM T tl
    · rw [if_pos h2] at h
      cases h
    · exact w.smV h1 h2
  · rw [if_neg h1] at h
    cases h
theorem wf_rsample {f : Vw} (w : Wf f) {z : Int32} (h : rsB f z = true) : Wf (rsF f (ix z)) := by
  have h6 := w.m6
  unfold rsB at h
  by_cases h1 : inb z (f 1) = 0
  · rw [if_pos h1] at h
    cases h
  · obtain ⟨s, hs, ez⟩ := inb_1 (by omega) h1
    subst ez
    rw [ix_n (by omega)]
    exact w.rs hs
theorem wf_add {f : Vw} (w : Wf f) (h : adB f = true) : Wf (addF f) := by
  refine w.add (fun q => ?_)
  simp [adB, q] at h
theorem wf_restore {f : Vw} {H : Hs} {hn sn : Nat} {g : Vw} {T : Tx} {tl : Nat} (wi : WI f H hn sn g T tl) (h : rB sn = true) : Wf g := by
  have h2 := wi.2.2.1
  have h1 : sn ≠ 0 := fun q => by simp [rB, q] at h
  exact wi.2.2.2.1 (by omega)
theorem WI.undo {f : Vw} {H : Hs} {hn sn : Nat} {g : Vw} {T : Tx} {tl : Nat} (wi : WI f H hn sn g T tl) : WI (uF f H hn) H (hn - 1) sn g T tl := by
  refine ⟨?_, fun i hi => wi.2.1 i (by omega), wi.2.2⟩
  unfold uF
  by_cases q : hn = 0
  · rw [if_pos q]
    exact wi.1
  · rw [if_neg q]
    exact wi.2.1 _ (by omega)
theorem WI.type {f : Vw} {H : Hs} {hn sn : Nat} {g : Vw} {T : Tx} {tl : Nat} (wi : WI f H hn sn g T tl) {ch : Nat} (hch : ch < 65536) : WI f H hn sn g (tT T tl ch) (tN tl) := by
  obtain ⟨h1, h2, h3, h4, h5, h6⟩ := wi
  refine ⟨h1, h2, h3, h4, ?_, fun i hi => ?_⟩
  · unfold tN
    split <;> omega
  · unfold tT
    unfold tN at hi
    by_cases q : tl = 60
    · rw [if_pos q] at hi ⊢
      exact h6 i (by omega)
    · rw [if_neg q] at hi ⊢
      by_cases y : i = tl
      · simpa [y] using hch
      · simp only [y, if_false]
        exact h6 i (by omega)
theorem char_ex (z : Int32) : ∃ ch, ch < 65536 ∧ (z.toUInt32 % 65536).toInt32 = nI ch := by
  refine ⟨(z.toUInt32 % 65536).toNat, ?_, ?_⟩
  · have h := UInt32.toNat_mod z.toUInt32 65536
    rw [h]
    exact Nat.mod_lt _ (by decide)
  · apply Int32.toBitVec_inj.mp
    generalize z.toUInt32 % 65536 = u
    show u.toBitVec = BitVec.ofNat 32 u.toNat
    show u.toBitVec = BitVec.ofNat 32 u.toBitVec.toNat
    rw [BitVec.ofNat_toNat, BitVec.setWidth_eq]
abbrev lwL (x : Cx) (b i : Nat) : List (Option Value) := [some (.ref b), some (rfv x 0), some (rfv x 40), some (.int (nI i))]
def LH (x : Cx) (b Ln : Nat) (xs : Nat → Int32) (i : Nat) : Prop := ∀ (f : Vw) (H : Hs) (hn sn : Nat) (g : Vw) (T : Tx) (tl : Nat) (I : Iv) (L : Lv) (P : Pv), CI f H hn sn g T tl I P → RI f H hn sn g T tl I → WI f H hn sn g T tl → LA x b Ln xs 18 (lwL x b i) [] I L P
theorem law_815 {x : Cx} {b Ln : Nat} {xs : Nat → Int32} {i : Nat} (ih : LH x b Ln xs (i + 5)) {f : Vw} {H : Hs} {hn sn : Nat} {g : Vw} {T : Tx} {tl : Nat} {I : Iv} {L : Lv} {P : Pv} (ci : CI f H hn sn g T tl I P) (ri : RI f H hn sn g T tl I) (wi : WI f H hn sn g T tl) : LA x b Ln xs 815 (lwL x b i) [] I L P := by
  refine w_iinc 818 (lwL x b (i + 5)) (nI (i + 5)) dL_law_815 rfl (by decide) rfl (by rw [show Int32.ofInt 5 = nI 5 by decide]; exact nI_add i 5) rfl ?_
  refine w_goto 18 dL_law_818 (by decide) ?_
  exact ih f H hn sn g T tl I L P ci ri wi
set_option maxHeartbeats 4000000 in
theorem law_c0 {x : Cx} {b Ln : Nat} {xs : Nat → Int32} (hLn : Ln ≤ 2560) {i : Nat} (hi : i + 5 ≤ Ln) (ih : LH x b Ln xs (i + 5)) {f : Vw} {H : Hs} {hn sn : Nat} {g : Vw} {T : Tx} {tl : Nat} {I : Iv} {L : Lv} {P : Pv} (ci : CI f H hn sn g T tl I P) (ri : RI f H hn sn g T tl I) (wi : WI f H hn sn g T tl) : LA x b Ln xs 144 (lwL x b i) [] I L P := by
  refine w_aload_n 145 rfl dL_law_144 rfl ?_
  refine w_aload_n 146 rfl dL_law_145 rfl ?_
  refine w_iload_n 147 rfl dL_law_146 rfl ?_
  refine w_iconst 148 (nI 1) (by decide) dL_law_147 rfl ?_
  refine w_iadd 149 (nI (i + 1)) dL_law_148 rfl (nI_add _ _) ?_
  refine w_sld 150 (by omega) (by omega) dL_law_149 rfl ?_
  refine w_aload_n 151 rfl dL_law_150 rfl ?_
  refine w_iload_n 152 rfl dL_law_151 rfl ?_
  refine w_iconst 153 (nI 2) (by decide) dL_law_152 rfl ?_
  refine w_iadd 154 (nI (i + 2)) dL_law_153 rfl (nI_add _ _) ?_
  refine w_sld 155 (by omega) (by omega) dL_law_154 rfl ?_
  refine w_aload_n 156 rfl dL_law_155 rfl ?_
  refine w_iload_n 157 rfl dL_law_156 rfl ?_
  refine w_iconst 158 (nI 3) (by decide) dL_law_157 rfl ?_
  refine w_iadd 159 (nI (i + 3)) dL_law_158 rfl (nI_add _ _) ?_
  refine w_sld 160 (by omega) (by omega) dL_law_159 rfl ?_
  refine w_aload_n 161 rfl dL_law_160 rfl ?_
  refine w_iload_n 162 rfl dL_law_161 rfl ?_
  refine w_iconst 163 (nI 4) (by decide) dL_law_162 rfl ?_
  refine w_iadd 164 (nI (i + 4)) dL_law_163 rfl (nI_add _ _) ?_
  refine w_sld 165 (by omega) (by omega) dL_law_164 rfl ?_
  refine w_inv 168 M_X7_setWeight [.int (xs (i + 1)), .int (xs (i + 2)), .int (xs (i + 3)), .int (xs (i + 4))] (by decide) rfl (by decide) rfl dL_law_165 rfl ml_L_13 im_X7_setWeight se_X7_setWeight mc_X7_setWeight ⟨Nat.le_of_ble_eq_true rfl, Nat.le_of_ble_eq_true rfl⟩ (Nat.le_of_ble_eq_true rfl) (sp_X7_setWeight ci wi (fun I1 L1 P1 h40 ci1 => ?_))
  have ri1 := ri.lo h40
  refine w_aload_n 169 rfl dL_law_168 rfl ?_
  refine w_aload_n 170 rfl dL_law_169 rfl ?_
  refine w_iload_n 171 rfl dL_law_170 rfl ?_
  refine w_iconst 172 (nI 1) (by decide) dL_law_171 rfl ?_
  refine w_iadd 173 (nI (i + 1)) dL_law_172 rfl (nI_add _ _) ?_
  refine w_sld 174 (by omega) (by omega) dL_law_173 rfl ?_
  refine w_aload_n 175 rfl dL_law_174 rfl ?_
  refine w_iload_n 176 rfl dL_law_175 rfl ?_
  refine w_iconst 177 (nI 2) (by decide) dL_law_176 rfl ?_
  refine w_iadd 178 (nI (i + 2)) dL_law_177 rfl (nI_add _ _) ?_
  refine w_sld 179 (by omega) (by omega) dL_law_178 rfl ?_
  refine w_aload_n 180 rfl dL_law_179 rfl ?_
  refine w_iload_n 181 rfl dL_law_180 rfl ?_
  refine w_iconst 182 (nI 3) (by decide) dL_law_181 rfl ?_
  refine w_iadd 183 (nI (i + 3)) dL_law_182 rfl (nI_add _ _) ?_
  refine w_sld 184 (by omega) (by omega) dL_law_183 rfl ?_
  refine w_aload_n 185 rfl dL_law_184 rfl ?_
  refine w_iload_n 186 rfl dL_law_185 rfl ?_
  refine w_iconst 187 (nI 4) (by decide) dL_law_186 rfl ?_
  refine w_iadd 188 (nI (i + 4)) dL_law_187 rfl (nI_add _ _) ?_
  refine w_sld 189 (by omega) (by omega) dL_law_188 rfl ?_
  refine w_inv 192 M_X8_setWeight [.int (xs (i + 1)), .int (xs (i + 2)), .int (xs (i + 3)), .int (xs (i + 4))] (by decide) rfl (by decide) rfl dL_law_189 rfl ml_L_17 im_X8_setWeight se_X8_setWeight mc_X8_setWeight ⟨Nat.le_of_ble_eq_true rfl, Nat.le_of_ble_eq_true rfl⟩ (Nat.le_of_ble_eq_true rfl) (sp_X8_setWeight ri1 wi (fun I2 L2 h39 ri2 => ?_))
  have ci2 := ci1.hi h39
  refine w_same 815 dL_law_192 (by decide) ?_
  exact law_815 ih ci2 ri2 (wi.act (fun h => wf_setWeight wi.1 h))
set_option maxHeartbeats 4000000 in
theorem law_c1 {x : Cx} {b Ln : Nat} {xs : Nat → Int32} (hLn : Ln ≤ 2560) {i : Nat} (hi : i + 5 ≤ Ln) (ih : LH x b Ln xs (i + 5)) {f : Vw} {H : Hs} {hn sn : Nat} {g : Vw} {T : Tx} {tl : Nat} {I : Iv} {L : Lv} {P : Pv} (ci : CI f H hn sn g T tl I P) (ri : RI f H hn sn g T tl I) (wi : WI f H hn sn g T tl) : LA x b Ln xs 197 (lwL x b i) [] I L P := by
  refine w_aload_n 198 rfl dL_law_197 rfl ?_
  refine w_inv 201 M_X7_addState [] (by decide) rfl (by decide) rfl dL_law_198 rfl ml_L_18 im_X7_addState se_X7_addState mc_X7_addState ⟨Nat.le_of_ble_eq_true rfl, Nat.le_of_ble_eq_true rfl⟩ (Nat.le_of_ble_eq_true rfl) (sp_X7_addState ci wi (fun I1 L1 P1 h40 ci1 => ?_))
  have ri1 := ri.lo h40
  refine w_aload_n 202 rfl dL_law_201 rfl ?_
  refine w_inv 205 M_X8_addState [] (by decide) rfl (by decide) rfl dL_law_202 rfl ml_L_22 im_X8_addState se_X8_addState mc_X8_addState ⟨Nat.le_of_ble_eq_true rfl, Nat.le_of_ble_eq_true rfl⟩ (Nat.le_of_ble_eq_true rfl) (sp_X8_addState ri1 wi (fun I2 L2 h39 ri2 => ?_))
  have ci2 := ci1.hi h39
  refine w_same 815 dL_law_205 (by decide) ?_
  exact law_815 ih ci2 ri2 (wi.act (fun h => wf_add wi.1 h))
set_option maxHeartbeats 4000000 in
theorem law_c2 {x : Cx} {b Ln : Nat} {xs : Nat → Int32} (hLn : Ln ≤ 2560) {i : Nat} (hi : i + 5 ≤ Ln) (ih : LH x b Ln xs (i + 5)) {f : Vw} {H : Hs} {hn sn : Nat} {g : Vw} {T : Tx} {tl : Nat} {I : Iv} {L : Lv} {P : Pv} (ci : CI f H hn sn g T tl I P) (ri : RI f H hn sn g T tl I) (wi : WI f H hn sn g T tl) : LA x b Ln xs 210 (lwL x b i) [] I L P := by
  refine w_aload_n 211 rfl dL_law_210 rfl ?_
  refine w_aload_n 212 rfl dL_law_211 rfl ?_
  refine w_iload_n 213 rfl dL_law_212 rfl ?_
  refine w_iconst 214 (nI 1) (by decide) dL_law_213 rfl ?_
  refine w_iadd 215 (nI (i + 1)) dL_law_214 rfl (nI_add _ _) ?_
  refine w_sld 216 (by omega) (by omega) dL_law_215 rfl ?_
  refine w_inv 219 M_X7_split [.int (xs (i + 1))] (by decide) rfl (by decide) rfl dL_law_216 rfl ml_L_23 im_X7_split se_X7_split mc_X7_split ⟨Nat.le_of_ble_eq_true rfl, Nat.le_of_ble_eq_true rfl⟩ (Nat.le_of_ble_eq_true rfl) (sp_X7_split ci wi (fun I1 L1 P1 h40 ci1 => ?_))
  have ri1 := ri.lo h40
  refine w_aload_n 220 rfl dL_law_219 rfl ?_
  refine w_aload_n 221 rfl dL_law_220 rfl ?_
  refine w_iload_n 222 rfl dL_law_221 rfl ?_
  refine w_iconst 223 (nI 1) (by decide) dL_law_222 rfl ?_
  refine w_iadd 224 (nI (i + 1)) dL_law_223 rfl (nI_add _ _) ?_
  refine w_sld 225 (by omega) (by omega) dL_law_224 rfl ?_
  refine w_inv 228 M_X8_split [.int (xs (i + 1))] (by decide) rfl (by decide) rfl dL_law_225 rfl ml_L_27 im_X8_split se_X8_split mc_X8_split ⟨Nat.le_of_ble_eq_true rfl, Nat.le_of_ble_eq_true rfl⟩ (Nat.le_of_ble_eq_true rfl) (sp_X8_split ri1 wi (fun I2 L2 h39 ri2 => ?_))
  have ci2 := ci1.hi h39
  refine w_same 815 dL_law_228 (by decide) ?_
  exact law_815 ih ci2 ri2 (wi.act (fun h => wf_split wi.1 h))
set_option maxHeartbeats 4000000 in
theorem law_c3 {x : Cx} {b Ln : Nat} {xs : Nat → Int32} (hLn : Ln ≤ 2560) {i : Nat} (hi : i + 5 ≤ Ln) (ih : LH x b Ln xs (i + 5)) {f : Vw} {H : Hs} {hn sn : Nat} {g : Vw} {T : Tx} {tl : Nat} {I : Iv} {L : Lv} {P : Pv} (ci : CI f H hn sn g T tl I P) (ri : RI f H hn sn g T tl I) (wi : WI f H hn sn g T tl) : LA x b Ln xs 233 (lwL x b i) [] I L P := by
  refine w_aload_n 234 rfl dL_law_233 rfl ?_
  refine w_aload_n 235 rfl dL_law_234 rfl ?_
  refine w_iload_n 236 rfl dL_law_235 rfl ?_
  refine w_iconst 237 (nI 1) (by decide) dL_law_236 rfl ?_
  refine w_iadd 238 (nI (i + 1)) dL_law_237 rfl (nI_add _ _) ?_
  refine w_sld 239 (by omega) (by omega) dL_law_238 rfl ?_
  refine w_aload_n 240 rfl dL_law_239 rfl ?_
  refine w_iload_n 241 rfl dL_law_240 rfl ?_
  refine w_iconst 242 (nI 2) (by decide) dL_law_241 rfl ?_
  refine w_iadd 243 (nI (i + 2)) dL_law_242 rfl (nI_add _ _) ?_
  refine w_sld 244 (by omega) (by omega) dL_law_243 rfl ?_
  refine w_inv 247 M_X7_join [.int (xs (i + 1)), .int (xs (i + 2))] (by decide) rfl (by decide) rfl dL_law_244 rfl ml_L_28 im_X7_join se_X7_join mc_X7_join ⟨Nat.le_of_ble_eq_true rfl, Nat.le_of_ble_eq_true rfl⟩ (Nat.le_of_ble_eq_true rfl) (sp_X7_join ci wi (fun I1 L1 P1 h40 ci1 => ?_))
  have ri1 := ri.lo h40
  refine w_aload_n 248 rfl dL_law_247 rfl ?_
  refine w_aload_n 249 rfl dL_law_248 rfl ?_
  refine w_iload_n 250 rfl dL_law_249 rfl ?_
  refine w_iconst 251 (nI 1) (by decide) dL_law_250 rfl ?_
  refine w_iadd 252 (nI (i + 1)) dL_law_251 rfl (nI_add _ _) ?_
  refine w_sld 253 (by omega) (by omega) dL_law_252 rfl ?_
  refine w_aload_n 254 rfl dL_law_253 rfl ?_
  refine w_iload_n 255 rfl dL_law_254 rfl ?_
  refine w_iconst 256 (nI 2) (by decide) dL_law_255 rfl ?_
  refine w_iadd 257 (nI (i + 2)) dL_law_256 rfl (nI_add _ _) ?_
  refine w_sld 258 (by omega) (by omega) dL_law_257 rfl ?_
  refine w_inv 261 M_X8_join [.int (xs (i + 1)), .int (xs (i + 2))] (by decide) rfl (by decide) rfl dL_law_258 rfl ml_L_32 im_X8_join se_X8_join mc_X8_join ⟨Nat.le_of_ble_eq_true rfl, Nat.le_of_ble_eq_true rfl⟩ (Nat.le_of_ble_eq_true rfl) (sp_X8_join ri1 wi (fun I2 L2 h39 ri2 => ?_))
  have ci2 := ci1.hi h39
  refine w_same 815 dL_law_261 (by decide) ?_
  exact law_815 ih ci2 ri2 (wi.act (fun h => wf_join wi.1 h))
set_option maxHeartbeats 4000000 in
theorem law_c4 {x : Cx} {b Ln : Nat} {xs : Nat → Int32} (hLn : Ln ≤ 2560) {i : Nat} (hi : i + 5 ≤ Ln) (ih : LH x b Ln xs (i + 5)) {f : Vw} {H : Hs} {hn sn : Nat} {g : Vw} {T : Tx} {tl : Nat} {I : Iv} {L : Lv} {P : Pv} (ci : CI f H hn sn g T tl I P) (ri : RI f H hn sn g T tl I) (wi : WI f H hn sn g T tl) : LA x b Ln xs 266 (lwL x b i) [] I L P := by
  refine w_aload_n 267 rfl dL_law_266 rfl ?_
  refine w_aload_n 268 rfl dL_law_267 rfl ?_
  refine w_iload_n 269 rfl dL_law_268 rfl ?_
  refine w_iconst 270 (nI 1) (by decide) dL_law_269 rfl ?_
  refine w_iadd 271 (nI (i + 1)) dL_law_270 rfl (nI_add _ _) ?_
  refine w_sld 272 (by omega) (by omega) dL_law_271 rfl ?_
  refine w_inv 275 M_X7_removeState [.int (xs (i + 1))] (by decide) rfl (by decide) rfl dL_law_272 rfl ml_L_33 im_X7_removeState se_X7_removeState mc_X7_removeState ⟨Nat.le_of_ble_eq_true rfl, Nat.le_of_ble_eq_true rfl⟩ (Nat.le_of_ble_eq_true rfl) (sp_X7_removeState ci wi (fun I1 L1 P1 h40 ci1 => ?_))
  have ri1 := ri.lo h40
  refine w_aload_n 276 rfl dL_law_275 rfl ?_
  refine w_aload_n 277 rfl dL_law_276 rfl ?_
  refine w_iload_n 278 rfl dL_law_277 rfl ?_
  refine w_iconst 279 (nI 1) (by decide) dL_law_278 rfl ?_
  refine w_iadd 280 (nI (i + 1)) dL_law_279 rfl (nI_add _ _) ?_
  refine w_sld 281 (by omega) (by omega) dL_law_280 rfl ?_
  refine w_inv 284 M_X8_removeState [.int (xs (i + 1))] (by decide) rfl (by decide) rfl dL_law_281 rfl ml_L_36 im_X8_removeState se_X8_removeState mc_X8_removeState ⟨Nat.le_of_ble_eq_true rfl, Nat.le_of_ble_eq_true rfl⟩ (Nat.le_of_ble_eq_true rfl) (sp_X8_removeState ri1 wi (fun I2 L2 h39 ri2 => ?_))
  have ci2 := ci1.hi h39
  refine w_same 815 dL_law_284 (by decide) ?_
  exact law_815 ih ci2 ri2 (wi.act (fun h => wf_remove wi.1 h))
set_option maxHeartbeats 4000000 in
theorem law_c5 {x : Cx} {b Ln : Nat} {xs : Nat → Int32} (hLn : Ln ≤ 2560) {i : Nat} (hi : i + 5 ≤ Ln) (ih : LH x b Ln xs (i + 5)) {f : Vw} {H : Hs} {hn sn : Nat} {g : Vw} {T : Tx} {tl : Nat} {I : Iv} {L : Lv} {P : Pv} (ci : CI f H hn sn g T tl I P) (ri : RI f H hn sn g T tl I) (wi : WI f H hn sn g T tl) : LA x b Ln xs 289 (lwL x b i) [] I L P := by
  refine w_aload_n 290 rfl dL_law_289 rfl ?_
  refine w_aload_n 291 rfl dL_law_290 rfl ?_
  refine w_iload_n 292 rfl dL_law_291 rfl ?_
  refine w_iconst 293 (nI 1) (by decide) dL_law_292 rfl ?_
  refine w_iadd 294 (nI (i + 1)) dL_law_293 rfl (nI_add _ _) ?_
  refine w_sld 295 (by omega) (by omega) dL_law_294 rfl ?_
  refine w_inv 298 M_X7_setBound [.int (xs (i + 1))] (by decide) rfl (by decide) rfl dL_law_295 rfl ml_L_37 im_X7_setBound se_X7_setBound mc_X7_setBound ⟨Nat.le_of_ble_eq_true rfl, Nat.le_of_ble_eq_true rfl⟩ (Nat.le_of_ble_eq_true rfl) (sp_X7_setBound ci wi (fun I1 L1 P1 h40 ci1 => ?_))
  have ri1 := ri.lo h40
  refine w_aload_n 299 rfl dL_law_298 rfl ?_
  refine w_aload_n 300 rfl dL_law_299 rfl ?_
  refine w_iload_n 301 rfl dL_law_300 rfl ?_
  refine w_iconst 302 (nI 1) (by decide) dL_law_301 rfl ?_
  refine w_iadd 303 (nI (i + 1)) dL_law_302 rfl (nI_add _ _) ?_
  refine w_sld 304 (by omega) (by omega) dL_law_303 rfl ?_
  refine w_inv 307 M_X8_setBound [.int (xs (i + 1))] (by decide) rfl (by decide) rfl dL_law_304 rfl ml_L_40 im_X8_setBound se_X8_setBound mc_X8_setBound ⟨Nat.le_of_ble_eq_true rfl, Nat.le_of_ble_eq_true rfl⟩ (Nat.le_of_ble_eq_true rfl) (sp_X8_setBound ri1 wi (fun I2 L2 h39 ri2 => ?_))
  have ci2 := ci1.hi h39
  refine w_same 815 dL_law_307 (by decide) ?_
  exact law_815 ih ci2 ri2 (wi.act (fun h => wf_bound wi.1 h))
set_option maxHeartbeats 4000000 in
theorem law_c6 {x : Cx} {b Ln : Nat} {xs : Nat → Int32} (hLn : Ln ≤ 2560) {i : Nat} (hi : i + 5 ≤ Ln) (ih : LH x b Ln xs (i + 5)) {f : Vw} {H : Hs} {hn sn : Nat} {g : Vw} {T : Tx} {tl : Nat} {I : Iv} {L : Lv} {P : Pv} (ci : CI f H hn sn g T tl I P) (ri : RI f H hn sn g T tl I) (wi : WI f H hn sn g T tl) : LA x b Ln xs 312 (lwL x b i) [] I L P := by
  refine w_aload_n 313 rfl dL_law_312 rfl ?_
  refine w_inv 316 M_X7_addSamples [] (by decide) rfl (by decide) rfl dL_law_313 rfl ml_L_41 im_X7_addSamples se_X7_addSamples mc_X7_addSamples ⟨Nat.le_of_ble_eq_true rfl, Nat.le_of_ble_eq_true rfl⟩ (Nat.le_of_ble_eq_true rfl) (sp_X7_addSamples ci wi (fun I1 L1 P1 h40 ci1 => ?_))
  have ri1 := ri.lo h40
  refine w_aload_n 317 rfl dL_law_316 rfl ?_
  refine w_inv 320 M_X8_addSamples [] (by decide) rfl (by decide) rfl dL_law_317 rfl ml_L_44 im_X8_addSamples se_X8_addSamples mc_X8_addSamples ⟨Nat.le_of_ble_eq_true rfl, Nat.le_of_ble_eq_true rfl⟩ (Nat.le_of_ble_eq_true rfl) (sp_X8_addSamples ri1 wi (fun I2 L2 h39 ri2 => ?_))
  have ci2 := ci1.hi h39
  refine w_same 815 dL_law_320 (by decide) ?_
  exact law_815 ih ci2 ri2 (wi.act (fun h => wf_samples wi.1 h))
set_option maxHeartbeats 4000000 in
theorem law_c7 {x : Cx} {b Ln : Nat} {xs : Nat → Int32} (hLn : Ln ≤ 2560) {i : Nat} (hi : i + 5 ≤ Ln) (ih : LH x b Ln xs (i + 5)) {f : Vw} {H : Hs} {hn sn : Nat} {g : Vw} {T : Tx} {tl : Nat} {I : Iv} {L : Lv} {P : Pv} (ci : CI f H hn sn g T tl I P) (ri : RI f H hn sn g T tl I) (wi : WI f H hn sn g T tl) : LA x b Ln xs 325 (lwL x b i) [] I L P := by
  refine w_aload_n 326 rfl dL_law_325 rfl ?_
  refine w_aload_n 327 rfl dL_law_326 rfl ?_
  refine w_iload_n 328 rfl dL_law_327 rfl ?_
  refine w_iconst 329 (nI 1) (by decide) dL_law_328 rfl ?_
  refine w_iadd 330 (nI (i + 1)) dL_law_329 rfl (nI_add _ _) ?_
  refine w_sld 331 (by omega) (by omega) dL_law_330 rfl ?_
  refine w_inv 334 M_X7_removeSample [.int (xs (i + 1))] (by decide) rfl (by decide) rfl dL_law_331 rfl ml_L_45 im_X7_removeSample se_X7_removeSample mc_X7_removeSample ⟨Nat.le_of_ble_eq_true rfl, Nat.le_of_ble_eq_true rfl⟩ (Nat.le_of_ble_eq_true rfl) (sp_X7_removeSample ci wi (fun I1 L1 P1 h40 ci1 => ?_))
  have ri1 := ri.lo h40
  refine w_aload_n 335 rfl dL_law_334 rfl ?_
  refine w_aload_n 336 rfl dL_law_335 rfl ?_
  refine w_iload_n 337 rfl dL_law_336 rfl ?_
  refine w_iconst 338 (nI 1) (by decide) dL_law_337 rfl ?_
  refine w_iadd 339 (nI (i + 1)) dL_law_338 rfl (nI_add _ _) ?_
  refine w_sld 340 (by omega) (by omega) dL_law_339 rfl ?_
  refine w_inv 343 M_X8_removeSample [.int (xs (i + 1))] (by decide) rfl (by decide) rfl dL_law_340 rfl ml_L_48 im_X8_removeSample se_X8_removeSample mc_X8_removeSample ⟨Nat.le_of_ble_eq_true rfl, Nat.le_of_ble_eq_true rfl⟩ (Nat.le_of_ble_eq_true rfl) (sp_X8_removeSample ri1 wi (fun I2 L2 h39 ri2 => ?_))
  have ci2 := ci1.hi h39
  refine w_same 815 dL_law_343 (by decide) ?_
  exact law_815 ih ci2 ri2 (wi.act (fun h => wf_rsample wi.1 h))
set_option maxHeartbeats 4000000 in
theorem law_c8 {x : Cx} {b Ln : Nat} {xs : Nat → Int32} (hLn : Ln ≤ 2560) {i : Nat} (hi : i + 5 ≤ Ln) (ih : LH x b Ln xs (i + 5)) {f : Vw} {H : Hs} {hn sn : Nat} {g : Vw} {T : Tx} {tl : Nat} {I : Iv} {L : Lv} {P : Pv} (ci : CI f H hn sn g T tl I P) (ri : RI f H hn sn g T tl I) (wi : WI f H hn sn g T tl) : LA x b Ln xs 348 (lwL x b i) [] I L P := by
  refine w_aload_n 349 rfl dL_law_348 rfl ?_
  refine w_aload_n 350 rfl dL_law_349 rfl ?_
  refine w_iload_n 351 rfl dL_law_350 rfl ?_
  refine w_iconst 352 (nI 1) (by decide) dL_law_351 rfl ?_
  refine w_iadd 353 (nI (i + 1)) dL_law_352 rfl (nI_add _ _) ?_
  refine w_sld 354 (by omega) (by omega) dL_law_353 rfl ?_
  refine w_inv 357 M_X7_learn [.int (xs (i + 1))] (by decide) rfl (by decide) rfl dL_law_354 rfl ml_L_49 im_X7_learn se_X7_learn mc_X7_learn ⟨Nat.le_of_ble_eq_true rfl, Nat.le_of_ble_eq_true rfl⟩ (Nat.le_of_ble_eq_true rfl) (sp_X7_learn ci wi (fun I1 L1 P1 h40 ci1 => ?_))
  have ri1 := ri.lo h40
  refine w_aload_n 358 rfl dL_law_357 rfl ?_
  refine w_aload_n 359 rfl dL_law_358 rfl ?_
  refine w_iload_n 360 rfl dL_law_359 rfl ?_
  refine w_iconst 361 (nI 1) (by decide) dL_law_360 rfl ?_
  refine w_iadd 362 (nI (i + 1)) dL_law_361 rfl (nI_add _ _) ?_
  refine w_sld 363 (by omega) (by omega) dL_law_362 rfl ?_
  refine w_inv 366 M_X8_learn [.int (xs (i + 1))] (by decide) rfl (by decide) rfl dL_law_363 rfl ml_L_52 im_X8_learn se_X8_learn mc_X8_learn ⟨Nat.le_of_ble_eq_true rfl, Nat.le_of_ble_eq_true rfl⟩ (Nat.le_of_ble_eq_true rfl) (sp_X8_learn ri1 wi (fun I2 L2 h39 ri2 => ?_))
  have ci2 := ci1.hi h39
  refine w_same 815 dL_law_366 (by decide) ?_
  exact law_815 ih ci2 ri2 (wi.act (fun _ => fN_wf wi.1 _))
set_option maxHeartbeats 4000000 in
theorem law_c9 {x : Cx} {b Ln : Nat} {xs : Nat → Int32} (hLn : Ln ≤ 2560) {i : Nat} (hi : i + 5 ≤ Ln) (ih : LH x b Ln xs (i + 5)) {f : Vw} {H : Hs} {hn sn : Nat} {g : Vw} {T : Tx} {tl : Nat} {I : Iv} {L : Lv} {P : Pv} (ci : CI f H hn sn g T tl I P) (ri : RI f H hn sn g T tl I) (wi : WI f H hn sn g T tl) : LA x b Ln xs 371 (lwL x b i) [] I L P := by
  obtain ⟨ch, hch, ech⟩ := char_ex (xs (i + 1))
  refine w_aload_n 372 rfl dL_law_371 rfl ?_
  refine w_aload_n 373 rfl dL_law_372 rfl ?_
  refine w_iload_n 374 rfl dL_law_373 rfl ?_
  refine w_iconst 375 (nI 1) (by decide) dL_law_374 rfl ?_
  refine w_iadd 376 (nI (i + 1)) dL_law_375 rfl (nI_add _ _) ?_
  refine w_sld 377 (by omega) (by omega) dL_law_376 rfl ?_
  refine w_i2c 378 (nI ch) dL_law_377 rfl ech ?_
  refine w_inv 381 M_X7_type [.int (nI ch)] (by decide) rfl (by decide) rfl dL_law_378 rfl ml_L_53 im_X7_type se_X7_type mc_X7_type ⟨Nat.le_of_ble_eq_true rfl, Nat.le_of_ble_eq_true rfl⟩ (Nat.le_of_ble_eq_true rfl) (sp_X7_type ci wi hch (fun I1 L1 P1 h40 ci1 => ?_))
  have ri1 := ri.lo h40
  refine w_aload_n 382 rfl dL_law_381 rfl ?_
  refine w_aload_n 383 rfl dL_law_382 rfl ?_
  refine w_iload_n 384 rfl dL_law_383 rfl ?_
  refine w_iconst 385 (nI 1) (by decide) dL_law_384 rfl ?_
  refine w_iadd 386 (nI (i + 1)) dL_law_385 rfl (nI_add _ _) ?_
  refine w_sld 387 (by omega) (by omega) dL_law_386 rfl ?_
  refine w_i2c 388 (nI ch) dL_law_387 rfl ech ?_
  refine w_inv 391 M_X8_type [.int (nI ch)] (by decide) rfl (by decide) rfl dL_law_388 rfl ml_L_57 im_X8_type se_X8_type mc_X8_type ⟨Nat.le_of_ble_eq_true rfl, Nat.le_of_ble_eq_true rfl⟩ (Nat.le_of_ble_eq_true rfl) (sp_X8_type ri1 wi hch (fun I2 L2 h39 ri2 => ?_))
  have ci2 := ci1.hi h39
  refine w_same 815 dL_law_391 (by decide) ?_
  exact law_815 ih ci2 ri2 (wi.type hch)
set_option maxHeartbeats 4000000 in
theorem law_c10 {x : Cx} {b Ln : Nat} {xs : Nat → Int32} (hLn : Ln ≤ 2560) {i : Nat} (hi : i + 5 ≤ Ln) (ih : LH x b Ln xs (i + 5)) {f : Vw} {H : Hs} {hn sn : Nat} {g : Vw} {T : Tx} {tl : Nat} {I : Iv} {L : Lv} {P : Pv} (ci : CI f H hn sn g T tl I P) (ri : RI f H hn sn g T tl I) (wi : WI f H hn sn g T tl) : LA x b Ln xs 396 (lwL x b i) [] I L P := by
  refine w_aload_n 397 rfl dL_law_396 rfl ?_
  refine w_inv 400 M_X7_clearText [] (by decide) rfl (by decide) rfl dL_law_397 rfl ml_L_58 im_X7_clearText se_X7_clearText mc_X7_clearText ⟨Nat.le_of_ble_eq_true rfl, Nat.le_of_ble_eq_true rfl⟩ (Nat.le_of_ble_eq_true rfl) (sp_X7_clearText ci wi (fun I1 L1 P1 h40 ci1 => ?_))
  have ri1 := ri.lo h40
  refine w_aload_n 401 rfl dL_law_400 rfl ?_
  refine w_inv 404 M_X8_clearText [] (by decide) rfl (by decide) rfl dL_law_401 rfl ml_L_61 im_X8_clearText se_X8_clearText mc_X8_clearText ⟨Nat.le_of_ble_eq_true rfl, Nat.le_of_ble_eq_true rfl⟩ (Nat.le_of_ble_eq_true rfl) (sp_X8_clearText ri1 wi (fun I2 L2 h39 ri2 => ?_))
  have ci2 := ci1.hi h39
  refine w_same 815 dL_law_404 (by decide) ?_
  exact law_815 ih ci2 ri2 (⟨wi.1, wi.2.1, wi.2.2.1, wi.2.2.2.1, Nat.zero_le _, fun i hi => absurd hi (Nat.not_lt_zero i)⟩)
set_option maxHeartbeats 4000000 in
theorem law_c11 {x : Cx} {b Ln : Nat} {xs : Nat → Int32} (hLn : Ln ≤ 2560) {i : Nat} (hi : i + 5 ≤ Ln) (ih : LH x b Ln xs (i + 5)) {f : Vw} {H : Hs} {hn sn : Nat} {g : Vw} {T : Tx} {tl : Nat} {I : Iv} {L : Lv} {P : Pv} (ci : CI f H hn sn g T tl I P) (ri : RI f H hn sn g T tl I) (wi : WI f H hn sn g T tl) : LA x b Ln xs 409 (lwL x b i) [] I L P := by
  refine w_aload_n 410 rfl dL_law_409 rfl ?_
  refine w_inv 413 M_X7_undo [] (by decide) rfl (by decide) rfl dL_law_410 rfl ml_L_62 im_X7_undo se_X7_undo mc_X7_undo ⟨Nat.le_of_ble_eq_true rfl, Nat.le_of_ble_eq_true rfl⟩ (Nat.le_of_ble_eq_true rfl) (sp_X7_undo ci wi (fun I1 L1 P1 h40 ci1 => ?_))
  have ri1 := ri.lo h40
  refine w_aload_n 414 rfl dL_law_413 rfl ?_
  refine w_inv 417 M_X8_undo [] (by decide) rfl (by decide) rfl dL_law_414 rfl ml_L_65 im_X8_undo se_X8_undo mc_X8_undo ⟨Nat.le_of_ble_eq_true rfl, Nat.le_of_ble_eq_true rfl⟩ (Nat.le_of_ble_eq_true rfl) (sp_X8_undo ri1 wi (fun I2 L2 h39 ri2 => ?_))
  have ci2 := ci1.hi h39
  refine w_same 815 dL_law_417 (by decide) ?_
  exact law_815 ih ci2 ri2 (wi.undo)
set_option maxHeartbeats 4000000 in
theorem law_c12 {x : Cx} {b Ln : Nat} {xs : Nat → Int32} (hLn : Ln ≤ 2560) {i : Nat} (hi : i + 5 ≤ Ln) (ih : LH x b Ln xs (i + 5)) {f : Vw} {H : Hs} {hn sn : Nat} {g : Vw} {T : Tx} {tl : Nat} {I : Iv} {L : Lv} {P : Pv} (ci : CI f H hn sn g T tl I P) (ri : RI f H hn sn g T tl I) (wi : WI f H hn sn g T tl) : LA x b Ln xs 422 (lwL x b i) [] I L P := by
  refine w_aload_n 423 rfl dL_law_422 rfl ?_
  refine w_inv 426 M_X7_keep [] (by decide) rfl (by decide) rfl dL_law_423 rfl ml_L_66 im_X7_keep se_X7_keep mc_X7_keep ⟨Nat.le_of_ble_eq_true rfl, Nat.le_of_ble_eq_true rfl⟩ (Nat.le_of_ble_eq_true rfl) (sp_X7_keep ci wi (fun I1 L1 P1 h40 ci1 => ?_))
  have ri1 := ri.lo h40
  refine w_aload_n 427 rfl dL_law_426 rfl ?_
  refine w_inv 430 M_X8_keep [] (by decide) rfl (by decide) rfl dL_law_427 rfl ml_L_69 im_X8_keep se_X8_keep mc_X8_keep ⟨Nat.le_of_ble_eq_true rfl, Nat.le_of_ble_eq_true rfl⟩ (Nat.le_of_ble_eq_true rfl) (sp_X8_keep ri1 wi (fun I2 L2 h39 ri2 => ?_))
  have ci2 := ci1.hi h39
  refine w_same 815 dL_law_430 (by decide) ?_
  exact law_815 ih ci2 ri2 (⟨wi.1, wi.2.1, by decide, fun _ => wi.1, wi.2.2.2.2⟩)
set_option maxHeartbeats 4000000 in
theorem law_c13 {x : Cx} {b Ln : Nat} {xs : Nat → Int32} (hLn : Ln ≤ 2560) {i : Nat} (hi : i + 5 ≤ Ln) (ih : LH x b Ln xs (i + 5)) {f : Vw} {H : Hs} {hn sn : Nat} {g : Vw} {T : Tx} {tl : Nat} {I : Iv} {L : Lv} {P : Pv} (ci : CI f H hn sn g T tl I P) (ri : RI f H hn sn g T tl I) (wi : WI f H hn sn g T tl) : LA x b Ln xs 435 (lwL x b i) [] I L P := by
  refine w_aload_n 436 rfl dL_law_435 rfl ?_
  refine w_inv 439 M_X7_restore [] (by decide) rfl (by decide) rfl dL_law_436 rfl ml_L_70 im_X7_restore se_X7_restore mc_X7_restore ⟨Nat.le_of_ble_eq_true rfl, Nat.le_of_ble_eq_true rfl⟩ (Nat.le_of_ble_eq_true rfl) (sp_X7_restore ci wi (fun I1 L1 P1 h40 ci1 => ?_))
  have ri1 := ri.lo h40
  refine w_aload_n 440 rfl dL_law_439 rfl ?_
  refine w_inv 443 M_X8_restore [] (by decide) rfl (by decide) rfl dL_law_440 rfl ml_L_73 im_X8_restore se_X8_restore mc_X8_restore ⟨Nat.le_of_ble_eq_true rfl, Nat.le_of_ble_eq_true rfl⟩ (Nat.le_of_ble_eq_true rfl) (sp_X8_restore ri1 wi (fun I2 L2 h39 ri2 => ?_))
  have ci2 := ci1.hi h39
  refine w_same 815 dL_law_443 (by decide) ?_
  exact law_815 ih ci2 ri2 (wi.act (fun h => wf_restore wi h))
set_option maxHeartbeats 4000000 in
theorem law_c14 {x : Cx} {b Ln : Nat} {xs : Nat → Int32} (hLn : Ln ≤ 2560) {i : Nat} (hi : i + 5 ≤ Ln) (ih : LH x b Ln xs (i + 5)) {f : Vw} {H : Hs} {hn sn : Nat} {g : Vw} {T : Tx} {tl : Nat} {I : Iv} {L : Lv} {P : Pv} (ci : CI f H hn sn g T tl I P) (ri : RI f H hn sn g T tl I) (wi : WI f H hn sn g T tl) : LA x b Ln xs 448 (lwL x b i) [] I L P := by
  refine w_aload_n 449 rfl dL_law_448 rfl ?_
  refine w_aload_n 450 rfl dL_law_449 rfl ?_
  refine w_iload_n 451 rfl dL_law_450 rfl ?_
  refine w_iconst 452 (nI 1) (by decide) dL_law_451 rfl ?_
  refine w_iadd 453 (nI (i + 1)) dL_law_452 rfl (nI_add _ _) ?_
  refine w_sld 454 (by omega) (by omega) dL_law_453 rfl ?_
  refine w_aload_n 455 rfl dL_law_454 rfl ?_
  refine w_iload_n 456 rfl dL_law_455 rfl ?_
  refine w_iconst 457 (nI 2) (by decide) dL_law_456 rfl ?_
  refine w_iadd 458 (nI (i + 2)) dL_law_457 rfl (nI_add _ _) ?_
  refine w_sld 459 (by omega) (by omega) dL_law_458 rfl ?_
  refine w_aload_n 460 rfl dL_law_459 rfl ?_
  refine w_iload_n 461 rfl dL_law_460 rfl ?_
  refine w_iconst 462 (nI 3) (by decide) dL_law_461 rfl ?_
  refine w_iadd 463 (nI (i + 3)) dL_law_462 rfl (nI_add _ _) ?_
  refine w_sld 464 (by omega) (by omega) dL_law_463 rfl ?_
  refine w_aload_n 465 rfl dL_law_464 rfl ?_
  refine w_iload_n 466 rfl dL_law_465 rfl ?_
  refine w_iconst 467 (nI 4) (by decide) dL_law_466 rfl ?_
  refine w_iadd 468 (nI (i + 4)) dL_law_467 rfl (nI_add _ _) ?_
  refine w_sld 469 (by omega) (by omega) dL_law_468 rfl ?_
  refine w_if_eq 476 472 dL_law_469 (by decide) rfl (fun h469 => ?_) (fun h469 => ?_)
  · skip
    refine w_iconst 477 (nI 0) (by decide) dL_law_476 rfl ?_
    refine w_inv 480 M_X7_weight [.int (xs (i + 1)), .int (xs (i + 2)), .int (xs (i + 3)), .int (nI 0)] (by decide) rfl (by decide) rfl dL_law_477 rfl ml_L_74 im_X7_weight se_X7_weight mc_X7_weight ⟨Nat.le_of_ble_eq_true rfl, Nat.le_of_ble_eq_true rfl⟩ (Nat.le_of_ble_eq_true rfl) (sp_X7_weight ci.1 wi.1 (fun I1 L1 kp => ?_))
    have ci1 := ci.kp kp
    have ri1 := ri.kp kp
    refine w_aload_n 481 rfl dL_law_480 rfl ?_
    refine w_aload_n 482 rfl dL_law_481 rfl ?_
    refine w_iload_n 483 rfl dL_law_482 rfl ?_
    refine w_iconst 484 (nI 1) (by decide) dL_law_483 rfl ?_
    refine w_iadd 485 (nI (i + 1)) dL_law_484 rfl (nI_add _ _) ?_
    refine w_sld 486 (by omega) (by omega) dL_law_485 rfl ?_
    refine w_aload_n 487 rfl dL_law_486 rfl ?_
    refine w_iload_n 488 rfl dL_law_487 rfl ?_
    refine w_iconst 489 (nI 2) (by decide) dL_law_488 rfl ?_
    refine w_iadd 490 (nI (i + 2)) dL_law_489 rfl (nI_add _ _) ?_
    refine w_sld 491 (by omega) (by omega) dL_law_490 rfl ?_
    refine w_aload_n 492 rfl dL_law_491 rfl ?_
    refine w_iload_n 493 rfl dL_law_492 rfl ?_
    refine w_iconst 494 (nI 3) (by decide) dL_law_493 rfl ?_
    refine w_iadd 495 (nI (i + 3)) dL_law_494 rfl (nI_add _ _) ?_
    refine w_sld 496 (by omega) (by omega) dL_law_495 rfl ?_
    refine w_aload_n 497 rfl dL_law_496 rfl ?_
    refine w_iload_n 498 rfl dL_law_497 rfl ?_
    refine w_iconst 499 (nI 4) (by decide) dL_law_498 rfl ?_
    refine w_iadd 500 (nI (i + 4)) dL_law_499 rfl (nI_add _ _) ?_
    refine w_sld 501 (by omega) (by omega) dL_law_500 rfl ?_
    refine w_if_eq 508 504 dL_law_501 (by decide) rfl (fun h501 => ?_) (fun h501 => ?_)
    · skip
      refine w_iconst 509 (nI 0) (by decide) dL_law_508 rfl ?_
      refine w_inv 512 M_X8_weight [.int (xs (i + 1)), .int (xs (i + 2)), .int (xs (i + 3)), .int (nI 0)] (by decide) rfl (by decide) rfl dL_law_509 rfl ml_L_78 im_X8_weight se_X8_weight mc_X8_weight ⟨Nat.le_of_ble_eq_true rfl, Nat.le_of_ble_eq_true rfl⟩ (Nat.le_of_ble_eq_true rfl) (sp_X8_weight ri1.1 wi.1 (fun I2 L2 kp2 => ?_))
      have ci2 := ci1.kp kp2
      have ri2 := ri1.kp kp2
      refine w_same 815 dL_law_512 (by decide) ?_
      exact law_815 ih ci2 ri2 wi
    · exact absurd h469 h501
  · skip
    refine w_iconst 473 (nI 1) (by decide) dL_law_472 rfl ?_
    refine w_goto 477 dL_law_473 (by decide) ?_
    refine w_inv 480 M_X7_weight [.int (xs (i + 1)), .int (xs (i + 2)), .int (xs (i + 3)), .int (nI 1)] (by decide) rfl (by decide) rfl dL_law_477 rfl ml_L_74 im_X7_weight se_X7_weight mc_X7_weight ⟨Nat.le_of_ble_eq_true rfl, Nat.le_of_ble_eq_true rfl⟩ (Nat.le_of_ble_eq_true rfl) (sp_X7_weight ci.1 wi.1 (fun I1 L1 kp => ?_))
    have ci1 := ci.kp kp
    have ri1 := ri.kp kp
    refine w_aload_n 481 rfl dL_law_480 rfl ?_
    refine w_aload_n 482 rfl dL_law_481 rfl ?_
    refine w_iload_n 483 rfl dL_law_482 rfl ?_
    refine w_iconst 484 (nI 1) (by decide) dL_law_483 rfl ?_
    refine w_iadd 485 (nI (i + 1)) dL_law_484 rfl (nI_add _ _) ?_
    refine w_sld 486 (by omega) (by omega) dL_law_485 rfl ?_
    refine w_aload_n 487 rfl dL_law_486 rfl ?_
    refine w_iload_n 488 rfl dL_law_487 rfl ?_
    refine w_iconst 489 (nI 2) (by decide) dL_law_488 rfl ?_
    refine w_iadd 490 (nI (i + 2)) dL_law_489 rfl (nI_add _ _) ?_
    refine w_sld 491 (by omega) (by omega) dL_law_490 rfl ?_
    refine w_aload_n 492 rfl dL_law_491 rfl ?_
    refine w_iload_n 493 rfl dL_law_492 rfl ?_
    refine w_iconst 494 (nI 3) (by decide) dL_law_493 rfl ?_
    refine w_iadd 495 (nI (i + 3)) dL_law_494 rfl (nI_add _ _) ?_
    refine w_sld 496 (by omega) (by omega) dL_law_495 rfl ?_
    refine w_aload_n 497 rfl dL_law_496 rfl ?_
    refine w_iload_n 498 rfl dL_law_497 rfl ?_
    refine w_iconst 499 (nI 4) (by decide) dL_law_498 rfl ?_
    refine w_iadd 500 (nI (i + 4)) dL_law_499 rfl (nI_add _ _) ?_
    refine w_sld 501 (by omega) (by omega) dL_law_500 rfl ?_
    refine w_if_eq 508 504 dL_law_501 (by decide) rfl (fun h501 => ?_) (fun h501 => ?_)
    · exact absurd h501 h469
    · skip
      refine w_iconst 505 (nI 1) (by decide) dL_law_504 rfl ?_
      refine w_goto 509 dL_law_505 (by decide) ?_
      refine w_inv 512 M_X8_weight [.int (xs (i + 1)), .int (xs (i + 2)), .int (xs (i + 3)), .int (nI 1)] (by decide) rfl (by decide) rfl dL_law_509 rfl ml_L_78 im_X8_weight se_X8_weight mc_X8_weight ⟨Nat.le_of_ble_eq_true rfl, Nat.le_of_ble_eq_true rfl⟩ (Nat.le_of_ble_eq_true rfl) (sp_X8_weight ri1.1 wi.1 (fun I2 L2 kp2 => ?_))
      have ci2 := ci1.kp kp2
      have ri2 := ri1.kp kp2
      refine w_same 815 dL_law_512 (by decide) ?_
      exact law_815 ih ci2 ri2 wi
set_option maxHeartbeats 4000000 in
theorem law_c15 {x : Cx} {b Ln : Nat} {xs : Nat → Int32} (hLn : Ln ≤ 2560) {i : Nat} (hi : i + 5 ≤ Ln) (ih : LH x b Ln xs (i + 5)) {f : Vw} {H : Hs} {hn sn : Nat} {g : Vw} {T : Tx} {tl : Nat} {I : Iv} {L : Lv} {P : Pv} (ci : CI f H hn sn g T tl I P) (ri : RI f H hn sn g T tl I) (wi : WI f H hn sn g T tl) : LA x b Ln xs 517 (lwL x b i) [] I L P := by
  refine w_aload_n 518 rfl dL_law_517 rfl ?_
  refine w_aload_n 519 rfl dL_law_518 rfl ?_
  refine w_iload_n 520 rfl dL_law_519 rfl ?_
  refine w_iconst 521 (nI 1) (by decide) dL_law_520 rfl ?_
  refine w_iadd 522 (nI (i + 1)) dL_law_521 rfl (nI_add _ _) ?_
  refine w_sld 523 (by omega) (by omega) dL_law_522 rfl ?_
  refine w_aload_n 524 rfl dL_law_523 rfl ?_
  refine w_iload_n 525 rfl dL_law_524 rfl ?_
  refine w_iconst 526 (nI 2) (by decide) dL_law_525 rfl ?_
  refine w_iadd 527 (nI (i + 2)) dL_law_526 rfl (nI_add _ _) ?_
  refine w_sld 528 (by omega) (by omega) dL_law_527 rfl ?_
  refine w_inv 531 M_X7_sign [.int (xs (i + 1)), .int (xs (i + 2))] (by decide) rfl (by decide) rfl dL_law_528 rfl ml_L_79 im_X7_sign se_X7_sign mc_X7_sign ⟨Nat.le_of_ble_eq_true rfl, Nat.le_of_ble_eq_true rfl⟩ (Nat.le_of_ble_eq_true rfl) (sp_X7_sign ci.1 wi.1 (fun I1 L1 kp => ?_))
  have ci1 := ci.kp kp
  have ri1 := ri.kp kp
  refine w_aload_n 532 rfl dL_law_531 rfl ?_
  refine w_aload_n 533 rfl dL_law_532 rfl ?_
  refine w_iload_n 534 rfl dL_law_533 rfl ?_
  refine w_iconst 535 (nI 1) (by decide) dL_law_534 rfl ?_
  refine w_iadd 536 (nI (i + 1)) dL_law_535 rfl (nI_add _ _) ?_
  refine w_sld 537 (by omega) (by omega) dL_law_536 rfl ?_
  refine w_aload_n 538 rfl dL_law_537 rfl ?_
  refine w_iload_n 539 rfl dL_law_538 rfl ?_
  refine w_iconst 540 (nI 2) (by decide) dL_law_539 rfl ?_
  refine w_iadd 541 (nI (i + 2)) dL_law_540 rfl (nI_add _ _) ?_
  refine w_sld 542 (by omega) (by omega) dL_law_541 rfl ?_
  refine w_inv 545 M_X8_sign [.int (xs (i + 1)), .int (xs (i + 2))] (by decide) rfl (by decide) rfl dL_law_542 rfl ml_L_82 im_X8_sign se_X8_sign mc_X8_sign ⟨Nat.le_of_ble_eq_true rfl, Nat.le_of_ble_eq_true rfl⟩ (Nat.le_of_ble_eq_true rfl) (sp_X8_sign ri1.1 wi.1 (fun I2 L2 kp2 => ?_))
  have ci2 := ci1.kp kp2
  have ri2 := ri1.kp kp2
  refine w_same 815 dL_law_545 (by decide) ?_
  exact law_815 ih ci2 ri2 wi
set_option maxHeartbeats 4000000 in
theorem law_c16 {x : Cx} {b Ln : Nat} {xs : Nat → Int32} (hLn : Ln ≤ 2560) {i : Nat} (hi : i + 5 ≤ Ln) (ih : LH x b Ln xs (i + 5)) {f : Vw} {H : Hs} {hn sn : Nat} {g : Vw} {T : Tx} {tl : Nat} {I : Iv} {L : Lv} {P : Pv} (ci : CI f H hn sn g T tl I P) (ri : RI f H hn sn g T tl I) (wi : WI f H hn sn g T tl) : LA x b Ln xs 550 (lwL x b i) [] I L P := by
  refine w_aload_n 551 rfl dL_law_550 rfl ?_
  refine w_aload_n 552 rfl dL_law_551 rfl ?_
  refine w_iload_n 553 rfl dL_law_552 rfl ?_
  refine w_iconst 554 (nI 1) (by decide) dL_law_553 rfl ?_
  refine w_iadd 555 (nI (i + 1)) dL_law_554 rfl (nI_add _ _) ?_
  refine w_sld 556 (by omega) (by omega) dL_law_555 rfl ?_
  refine w_aload_n 557 rfl dL_law_556 rfl ?_
  refine w_iload_n 558 rfl dL_law_557 rfl ?_
  refine w_iconst 559 (nI 2) (by decide) dL_law_558 rfl ?_
  refine w_iadd 560 (nI (i + 2)) dL_law_559 rfl (nI_add _ _) ?_
  refine w_sld 561 (by omega) (by omega) dL_law_560 rfl ?_
  refine w_inv 564 M_X7_ofSample [.int (xs (i + 1)), .int (xs (i + 2))] (by decide) rfl (by decide) rfl dL_law_561 rfl ml_L_83 im_X7_ofSample se_X7_ofSample mc_X7_ofSample ⟨Nat.le_of_ble_eq_true rfl, Nat.le_of_ble_eq_true rfl⟩ (Nat.le_of_ble_eq_true rfl) (sp_X7_ofSample ci.1 wi.1 (fun I1 L1 kp => ?_))
  have ci1 := ci.kp kp
  have ri1 := ri.kp kp
  refine w_aload_n 565 rfl dL_law_564 rfl ?_
  refine w_aload_n 566 rfl dL_law_565 rfl ?_
  refine w_iload_n 567 rfl dL_law_566 rfl ?_
  refine w_iconst 568 (nI 1) (by decide) dL_law_567 rfl ?_
  refine w_iadd 569 (nI (i + 1)) dL_law_568 rfl (nI_add _ _) ?_
  refine w_sld 570 (by omega) (by omega) dL_law_569 rfl ?_
  refine w_aload_n 571 rfl dL_law_570 rfl ?_
  refine w_iload_n 572 rfl dL_law_571 rfl ?_
  refine w_iconst 573 (nI 2) (by decide) dL_law_572 rfl ?_
  refine w_iadd 574 (nI (i + 2)) dL_law_573 rfl (nI_add _ _) ?_
  refine w_sld 575 (by omega) (by omega) dL_law_574 rfl ?_
  refine w_inv 578 M_X8_ofSample [.int (xs (i + 1)), .int (xs (i + 2))] (by decide) rfl (by decide) rfl dL_law_575 rfl ml_L_87 im_X8_ofSample se_X8_ofSample mc_X8_ofSample ⟨Nat.le_of_ble_eq_true rfl, Nat.le_of_ble_eq_true rfl⟩ (Nat.le_of_ble_eq_true rfl) (sp_X8_ofSample ri1.1 wi.1 (fun I2 L2 kp2 => ?_))
  have ci2 := ci1.kp kp2
  have ri2 := ri1.kp kp2
  refine w_lsame 579 815 582 dL_law_578 rfl dL_law_579 (by decide) ?_
  exact law_815 ih ci2 ri2 wi
set_option maxHeartbeats 4000000 in
theorem law_c17 {x : Cx} {b Ln : Nat} {xs : Nat → Int32} (hLn : Ln ≤ 2560) {i : Nat} (hi : i + 5 ≤ Ln) (ih : LH x b Ln xs (i + 5)) {f : Vw} {H : Hs} {hn sn : Nat} {g : Vw} {T : Tx} {tl : Nat} {I : Iv} {L : Lv} {P : Pv} (ci : CI f H hn sn g T tl I P) (ri : RI f H hn sn g T tl I) (wi : WI f H hn sn g T tl) : LA x b Ln xs 584 (lwL x b i) [] I L P := by
  refine w_aload_n 585 rfl dL_law_584 rfl ?_
  refine w_aload_n 586 rfl dL_law_585 rfl ?_
  refine w_iload_n 587 rfl dL_law_586 rfl ?_
  refine w_iconst 588 (nI 1) (by decide) dL_law_587 rfl ?_
  refine w_iadd 589 (nI (i + 1)) dL_law_588 rfl (nI_add _ _) ?_
  refine w_sld 590 (by omega) (by omega) dL_law_589 rfl ?_
  refine w_aload_n 591 rfl dL_law_590 rfl ?_
  refine w_iload_n 592 rfl dL_law_591 rfl ?_
  refine w_iconst 593 (nI 2) (by decide) dL_law_592 rfl ?_
  refine w_iadd 594 (nI (i + 2)) dL_law_593 rfl (nI_add _ _) ?_
  refine w_sld 595 (by omega) (by omega) dL_law_594 rfl ?_
  refine w_inv 598 M_X7_best [.int (xs (i + 1)), .int (xs (i + 2))] (by decide) rfl (by decide) rfl dL_law_595 rfl ml_L_88 im_X7_best se_X7_best mc_X7_best ⟨Nat.le_of_ble_eq_true rfl, Nat.le_of_ble_eq_true rfl⟩ (Nat.le_of_ble_eq_true rfl) (sp_X7_best ci.1 wi.1 (fun I1 L1 kp => ?_))
  have ci1 := ci.kp kp
  have ri1 := ri.kp kp
  refine w_aload_n 599 rfl dL_law_598 rfl ?_
  refine w_aload_n 600 rfl dL_law_599 rfl ?_
  refine w_iload_n 601 rfl dL_law_600 rfl ?_
  refine w_iconst 602 (nI 1) (by decide) dL_law_601 rfl ?_
  refine w_iadd 603 (nI (i + 1)) dL_law_602 rfl (nI_add _ _) ?_
  refine w_sld 604 (by omega) (by omega) dL_law_603 rfl ?_
  refine w_aload_n 605 rfl dL_law_604 rfl ?_
  refine w_iload_n 606 rfl dL_law_605 rfl ?_
  refine w_iconst 607 (nI 2) (by decide) dL_law_606 rfl ?_
  refine w_iadd 608 (nI (i + 2)) dL_law_607 rfl (nI_add _ _) ?_
  refine w_sld 609 (by omega) (by omega) dL_law_608 rfl ?_
  refine w_inv 612 M_X8_best [.int (xs (i + 1)), .int (xs (i + 2))] (by decide) rfl (by decide) rfl dL_law_609 rfl ml_L_91 im_X8_best se_X8_best mc_X8_best ⟨Nat.le_of_ble_eq_true rfl, Nat.le_of_ble_eq_true rfl⟩ (Nat.le_of_ble_eq_true rfl) (sp_X8_best ri1.1 wi.1 (fun I2 L2 kp2 => ?_))
  have ci2 := ci1.kp kp2
  have ri2 := ri1.kp kp2
  refine w_same 815 dL_law_612 (by decide) ?_
  exact law_815 ih ci2 ri2 wi
set_option maxHeartbeats 4000000 in
theorem law_c18 {x : Cx} {b Ln : Nat} {xs : Nat → Int32} (hLn : Ln ≤ 2560) {i : Nat} (hi : i + 5 ≤ Ln) (ih : LH x b Ln xs (i + 5)) {f : Vw} {H : Hs} {hn sn : Nat} {g : Vw} {T : Tx} {tl : Nat} {I : Iv} {L : Lv} {P : Pv} (ci : CI f H hn sn g T tl I P) (ri : RI f H hn sn g T tl I) (wi : WI f H hn sn g T tl) : LA x b Ln xs 617 (lwL x b i) [] I L P := by
  refine w_aload_n 618 rfl dL_law_617 rfl ?_
  refine w_aload_n 619 rfl dL_law_618 rfl ?_
  refine w_iload_n 620 rfl dL_law_619 rfl ?_
  refine w_iconst 621 (nI 1) (by decide) dL_law_620 rfl ?_
  refine w_iadd 622 (nI (i + 1)) dL_law_621 rfl (nI_add _ _) ?_
  refine w_sld 623 (by omega) (by omega) dL_law_622 rfl ?_
  refine w_aload_n 624 rfl dL_law_623 rfl ?_
  refine w_iload_n 625 rfl dL_law_624 rfl ?_
  refine w_iconst 626 (nI 2) (by decide) dL_law_625 rfl ?_
  refine w_iadd 627 (nI (i + 2)) dL_law_626 rfl (nI_add _ _) ?_
  refine w_sld 628 (by omega) (by omega) dL_law_627 rfl ?_
  refine w_aload_n 629 rfl dL_law_628 rfl ?_
  refine w_iload_n 630 rfl dL_law_629 rfl ?_
  refine w_iconst 631 (nI 3) (by decide) dL_law_630 rfl ?_
  refine w_iadd 632 (nI (i + 3)) dL_law_631 rfl (nI_add _ _) ?_
  refine w_sld 633 (by omega) (by omega) dL_law_632 rfl ?_
  refine w_inv 636 M_X7_share [.int (xs (i + 1)), .int (xs (i + 2)), .int (xs (i + 3))] (by decide) rfl (by decide) rfl dL_law_633 rfl ml_L_92 im_X7_share se_X7_share mc_X7_share ⟨Nat.le_of_ble_eq_true rfl, Nat.le_of_ble_eq_true rfl⟩ (Nat.le_of_ble_eq_true rfl) (sp_X7_share ci.1 wi.1 (fun I1 L1 kp => ?_))
  have ci1 := ci.kp kp
  have ri1 := ri.kp kp
  refine w_aload_n 637 rfl dL_law_636 rfl ?_
  refine w_aload_n 638 rfl dL_law_637 rfl ?_
  refine w_iload_n 639 rfl dL_law_638 rfl ?_
  refine w_iconst 640 (nI 1) (by decide) dL_law_639 rfl ?_
  refine w_iadd 641 (nI (i + 1)) dL_law_640 rfl (nI_add _ _) ?_
  refine w_sld 642 (by omega) (by omega) dL_law_641 rfl ?_
  refine w_aload_n 643 rfl dL_law_642 rfl ?_
  refine w_iload_n 644 rfl dL_law_643 rfl ?_
  refine w_iconst 645 (nI 2) (by decide) dL_law_644 rfl ?_
  refine w_iadd 646 (nI (i + 2)) dL_law_645 rfl (nI_add _ _) ?_
  refine w_sld 647 (by omega) (by omega) dL_law_646 rfl ?_
  refine w_aload_n 648 rfl dL_law_647 rfl ?_
  refine w_iload_n 649 rfl dL_law_648 rfl ?_
  refine w_iconst 650 (nI 3) (by decide) dL_law_649 rfl ?_
  refine w_iadd 651 (nI (i + 3)) dL_law_650 rfl (nI_add _ _) ?_
  refine w_sld 652 (by omega) (by omega) dL_law_651 rfl ?_
  refine w_inv 655 M_X8_share [.int (xs (i + 1)), .int (xs (i + 2)), .int (xs (i + 3))] (by decide) rfl (by decide) rfl dL_law_652 rfl ml_L_96 im_X8_share se_X8_share mc_X8_share ⟨Nat.le_of_ble_eq_true rfl, Nat.le_of_ble_eq_true rfl⟩ (Nat.le_of_ble_eq_true rfl) (sp_X8_share ri1.1 wi.1 (fun I2 L2 kp2 => ?_))
  have ci2 := ci1.kp kp2
  have ri2 := ri1.kp kp2
  refine w_same 815 dL_law_655 (by decide) ?_
  exact law_815 ih ci2 ri2 wi
set_option maxHeartbeats 4000000 in
theorem law_c19 {x : Cx} {b Ln : Nat} {xs : Nat → Int32} (hLn : Ln ≤ 2560) {i : Nat} (hi : i + 5 ≤ Ln) (ih : LH x b Ln xs (i + 5)) {f : Vw} {H : Hs} {hn sn : Nat} {g : Vw} {T : Tx} {tl : Nat} {I : Iv} {L : Lv} {P : Pv} (ci : CI f H hn sn g T tl I P) (ri : RI f H hn sn g T tl I) (wi : WI f H hn sn g T tl) : LA x b Ln xs 660 (lwL x b i) [] I L P := by
  refine w_aload_n 661 rfl dL_law_660 rfl ?_
  refine w_aload_n 662 rfl dL_law_661 rfl ?_
  refine w_iload_n 663 rfl dL_law_662 rfl ?_
  refine w_iconst 664 (nI 1) (by decide) dL_law_663 rfl ?_
  refine w_iadd 665 (nI (i + 1)) dL_law_664 rfl (nI_add _ _) ?_
  refine w_sld 666 (by omega) (by omega) dL_law_665 rfl ?_
  refine w_aload_n 667 rfl dL_law_666 rfl ?_
  refine w_iload_n 668 rfl dL_law_667 rfl ?_
  refine w_iconst 669 (nI 2) (by decide) dL_law_668 rfl ?_
  refine w_iadd 670 (nI (i + 2)) dL_law_669 rfl (nI_add _ _) ?_
  refine w_sld 671 (by omega) (by omega) dL_law_670 rfl ?_
  refine w_inv 674 M_X7_likeliest [.int (xs (i + 1)), .int (xs (i + 2))] (by decide) rfl (by decide) rfl dL_law_671 rfl ml_L_97 im_X7_likeliest se_X7_likeliest mc_X7_likeliest ⟨Nat.le_of_ble_eq_true rfl, Nat.le_of_ble_eq_true rfl⟩ (Nat.le_of_ble_eq_true rfl) (sp_X7_likeliest ci.1 wi.1 (fun I1 L1 kp => ?_))
  have ci1 := ci.kp kp
  have ri1 := ri.kp kp
  refine w_aload_n 675 rfl dL_law_674 rfl ?_
  refine w_aload_n 676 rfl dL_law_675 rfl ?_
  refine w_iload_n 677 rfl dL_law_676 rfl ?_
  refine w_iconst 678 (nI 1) (by decide) dL_law_677 rfl ?_
  refine w_iadd 679 (nI (i + 1)) dL_law_678 rfl (nI_add _ _) ?_
  refine w_sld 680 (by omega) (by omega) dL_law_679 rfl ?_
  refine w_aload_n 681 rfl dL_law_680 rfl ?_
  refine w_iload_n 682 rfl dL_law_681 rfl ?_
  refine w_iconst 683 (nI 2) (by decide) dL_law_682 rfl ?_
  refine w_iadd 684 (nI (i + 2)) dL_law_683 rfl (nI_add _ _) ?_
  refine w_sld 685 (by omega) (by omega) dL_law_684 rfl ?_
  refine w_inv 688 M_X8_likeliest [.int (xs (i + 1)), .int (xs (i + 2))] (by decide) rfl (by decide) rfl dL_law_685 rfl ml_L_100 im_X8_likeliest se_X8_likeliest mc_X8_likeliest ⟨Nat.le_of_ble_eq_true rfl, Nat.le_of_ble_eq_true rfl⟩ (Nat.le_of_ble_eq_true rfl) (sp_X8_likeliest ri1.1 wi.1 (fun I2 L2 kp2 => ?_))
  have ci2 := ci1.kp kp2
  have ri2 := ri1.kp kp2
  refine w_same 815 dL_law_688 (by decide) ?_
  exact law_815 ih ci2 ri2 wi
set_option maxHeartbeats 4000000 in
theorem law_c20 {x : Cx} {b Ln : Nat} {xs : Nat → Int32} (hLn : Ln ≤ 2560) {i : Nat} (hi : i + 5 ≤ Ln) (ih : LH x b Ln xs (i + 5)) {f : Vw} {H : Hs} {hn sn : Nat} {g : Vw} {T : Tx} {tl : Nat} {I : Iv} {L : Lv} {P : Pv} (ci : CI f H hn sn g T tl I P) (ri : RI f H hn sn g T tl I) (wi : WI f H hn sn g T tl) : LA x b Ln xs 693 (lwL x b i) [] I L P := by
  refine w_aload_n 694 rfl dL_law_693 rfl ?_
  refine w_aload_n 695 rfl dL_law_694 rfl ?_
  refine w_iload_n 696 rfl dL_law_695 rfl ?_
  refine w_iconst 697 (nI 1) (by decide) dL_law_696 rfl ?_
  refine w_iadd 698 (nI (i + 1)) dL_law_697 rfl (nI_add _ _) ?_
  refine w_sld 699 (by omega) (by omega) dL_law_698 rfl ?_
  refine w_inv 702 M_X7_doubtful [.int (xs (i + 1))] (by decide) rfl (by decide) rfl dL_law_699 rfl ml_L_101 im_X7_doubtful se_X7_doubtful mc_X7_doubtful ⟨Nat.le_of_ble_eq_true rfl, Nat.le_of_ble_eq_true rfl⟩ (Nat.le_of_ble_eq_true rfl) (sp_X7_doubtful ci.1 wi.1 (fun I1 L1 kp => ?_))
  have ci1 := ci.kp kp
  have ri1 := ri.kp kp
  refine w_aload_n 703 rfl dL_law_702 rfl ?_
  refine w_aload_n 704 rfl dL_law_703 rfl ?_
  refine w_iload_n 705 rfl dL_law_704 rfl ?_
  refine w_iconst 706 (nI 1) (by decide) dL_law_705 rfl ?_
  refine w_iadd 707 (nI (i + 1)) dL_law_706 rfl (nI_add _ _) ?_
  refine w_sld 708 (by omega) (by omega) dL_law_707 rfl ?_
  refine w_inv 711 M_X8_doubtful [.int (xs (i + 1))] (by decide) rfl (by decide) rfl dL_law_708 rfl ml_L_104 im_X8_doubtful se_X8_doubtful mc_X8_doubtful ⟨Nat.le_of_ble_eq_true rfl, Nat.le_of_ble_eq_true rfl⟩ (Nat.le_of_ble_eq_true rfl) (sp_X8_doubtful ri1.1 wi.1 (fun I2 L2 kp2 => ?_))
  have ci2 := ci1.kp kp2
  have ri2 := ri1.kp kp2
  refine w_same 815 dL_law_711 (by decide) ?_
  exact law_815 ih ci2 ri2 wi
set_option maxHeartbeats 4000000 in
theorem law_c21 {x : Cx} {b Ln : Nat} {xs : Nat → Int32} (hLn : Ln ≤ 2560) {i : Nat} (hi : i + 5 ≤ Ln) (ih : LH x b Ln xs (i + 5)) {f : Vw} {H : Hs} {hn sn : Nat} {g : Vw} {T : Tx} {tl : Nat} {I : Iv} {L : Lv} {P : Pv} (ci : CI f H hn sn g T tl I P) (ri : RI f H hn sn g T tl I) (wi : WI f H hn sn g T tl) : LA x b Ln xs 716 (lwL x b i) [] I L P := by
  refine w_aload_n 717 rfl dL_law_716 rfl ?_
  refine w_aload_n 718 rfl dL_law_717 rfl ?_
  refine w_iload_n 719 rfl dL_law_718 rfl ?_
  refine w_iconst 720 (nI 1) (by decide) dL_law_719 rfl ?_
  refine w_iadd 721 (nI (i + 1)) dL_law_720 rfl (nI_add _ _) ?_
  refine w_sld 722 (by omega) (by omega) dL_law_721 rfl ?_
  refine w_aload_n 723 rfl dL_law_722 rfl ?_
  refine w_iload_n 724 rfl dL_law_723 rfl ?_
  refine w_iconst 725 (nI 2) (by decide) dL_law_724 rfl ?_
  refine w_iadd 726 (nI (i + 2)) dL_law_725 rfl (nI_add _ _) ?_
  refine w_sld 727 (by omega) (by omega) dL_law_726 rfl ?_
  refine w_aload_n 728 rfl dL_law_727 rfl ?_
  refine w_iload_n 729 rfl dL_law_728 rfl ?_
  refine w_iconst 730 (nI 3) (by decide) dL_law_729 rfl ?_
  refine w_iadd 731 (nI (i + 3)) dL_law_730 rfl (nI_add _ _) ?_
  refine w_sld 732 (by omega) (by omega) dL_law_731 rfl ?_
  refine w_inv 735 M_X7_run [.int (xs (i + 1)), .int (xs (i + 2)), .int (xs (i + 3))] (by decide) rfl (by decide) rfl dL_law_732 rfl ml_L_105 im_X7_run se_X7_run mc_X7_run ⟨Nat.le_of_ble_eq_true rfl, Nat.le_of_ble_eq_true rfl⟩ (Nat.le_of_ble_eq_true rfl) (sp_X7_run ci.1 wi.1 (fun I1 L1 kp => ?_))
  have ci1 := ci.kp kp
  have ri1 := ri.kp kp
  refine w_aload_n 736 rfl dL_law_735 rfl ?_
  refine w_aload_n 737 rfl dL_law_736 rfl ?_
  refine w_iload_n 738 rfl dL_law_737 rfl ?_
  refine w_iconst 739 (nI 1) (by decide) dL_law_738 rfl ?_
  refine w_iadd 740 (nI (i + 1)) dL_law_739 rfl (nI_add _ _) ?_
  refine w_sld 741 (by omega) (by omega) dL_law_740 rfl ?_
  refine w_aload_n 742 rfl dL_law_741 rfl ?_
  refine w_iload_n 743 rfl dL_law_742 rfl ?_
  refine w_iconst 744 (nI 2) (by decide) dL_law_743 rfl ?_
  refine w_iadd 745 (nI (i + 2)) dL_law_744 rfl (nI_add _ _) ?_
  refine w_sld 746 (by omega) (by omega) dL_law_745 rfl ?_
  refine w_aload_n 747 rfl dL_law_746 rfl ?_
  refine w_iload_n 748 rfl dL_law_747 rfl ?_
  refine w_iconst 749 (nI 3) (by decide) dL_law_748 rfl ?_
  refine w_iadd 750 (nI (i + 3)) dL_law_749 rfl (nI_add _ _) ?_
  refine w_sld 751 (by omega) (by omega) dL_law_750 rfl ?_
  refine w_inv 754 M_X8_run [.int (xs (i + 1)), .int (xs (i + 2)), .int (xs (i + 3))] (by decide) rfl (by decide) rfl dL_law_751 rfl ml_L_108 im_X8_run se_X8_run mc_X8_run ⟨Nat.le_of_ble_eq_true rfl, Nat.le_of_ble_eq_true rfl⟩ (Nat.le_of_ble_eq_true rfl) (sp_X8_run ri1.1 wi.1 (fun I2 L2 kp2 => ?_))
  have ci2 := ci1.kp kp2
  have ri2 := ri1.kp kp2
  refine w_same 815 dL_law_754 (by decide) ?_
  exact law_815 ih ci2 ri2 wi
set_option maxHeartbeats 4000000 in
theorem law_c22 {x : Cx} {b Ln : Nat} {xs : Nat → Int32} (hLn : Ln ≤ 2560) {i : Nat} (hi : i + 5 ≤ Ln) (ih : LH x b Ln xs (i + 5)) {f : Vw} {H : Hs} {hn sn : Nat} {g : Vw} {T : Tx} {tl : Nat} {I : Iv} {L : Lv} {P : Pv} (ci : CI f H hn sn g T tl I P) (ri : RI f H hn sn g T tl I) (wi : WI f H hn sn g T tl) : LA x b Ln xs 759 (lwL x b i) [] I L P := by
  refine w_aload_n 760 rfl dL_law_759 rfl ?_
  refine w_aload_n 761 rfl dL_law_760 rfl ?_
  refine w_iload_n 762 rfl dL_law_761 rfl ?_
  refine w_iconst 763 (nI 1) (by decide) dL_law_762 rfl ?_
  refine w_iadd 764 (nI (i + 1)) dL_law_763 rfl (nI_add _ _) ?_
  refine w_sld 765 (by omega) (by omega) dL_law_764 rfl ?_
  refine w_aload_n 766 rfl dL_law_765 rfl ?_
  refine w_iload_n 767 rfl dL_law_766 rfl ?_
  refine w_iconst 768 (nI 2) (by decide) dL_law_767 rfl ?_
  refine w_iadd 769 (nI (i + 2)) dL_law_768 rfl (nI_add _ _) ?_
  refine w_sld 770 (by omega) (by omega) dL_law_769 rfl ?_
  refine w_inv 773 M_X7_next [.int (xs (i + 1)), .int (xs (i + 2))] (by decide) rfl (by decide) rfl dL_law_770 rfl ml_L_109 im_X7_next se_X7_next mc_X7_next ⟨Nat.le_of_ble_eq_true rfl, Nat.le_of_ble_eq_true rfl⟩ (Nat.le_of_ble_eq_true rfl) (sp_X7_next ci.1 wi.1 (fun I1 L1 kp => ?_))
  have ci1 := ci.kp kp
  have ri1 := ri.kp kp
  refine w_aload_n 774 rfl dL_law_773 rfl ?_
  refine w_aload_n 775 rfl dL_law_774 rfl ?_
  refine w_iload_n 776 rfl dL_law_775 rfl ?_
  refine w_iconst 777 (nI 1) (by decide) dL_law_776 rfl ?_
  refine w_iadd 778 (nI (i + 1)) dL_law_777 rfl (nI_add _ _) ?_
  refine w_sld 779 (by omega) (by omega) dL_law_778 rfl ?_
  refine w_aload_n 780 rfl dL_law_779 rfl ?_
  refine w_iload_n 781 rfl dL_law_780 rfl ?_
  refine w_iconst 782 (nI 2) (by decide) dL_law_781 rfl ?_
  refine w_iadd 783 (nI (i + 2)) dL_law_782 rfl (nI_add _ _) ?_
  refine w_sld 784 (by omega) (by omega) dL_law_783 rfl ?_
  refine w_inv 787 M_X8_next [.int (xs (i + 1)), .int (xs (i + 2))] (by decide) rfl (by decide) rfl dL_law_784 rfl ml_L_112 im_X8_next se_X8_next mc_X8_next ⟨Nat.le_of_ble_eq_true rfl, Nat.le_of_ble_eq_true rfl⟩ (Nat.le_of_ble_eq_true rfl) (sp_X8_next ri1.1 wi.1 (fun I2 L2 kp2 => ?_))
  have ci2 := ci1.kp kp2
  have ri2 := ri1.kp kp2
  refine w_same 815 dL_law_787 (by decide) ?_
  exact law_815 ih ci2 ri2 wi
set_option maxHeartbeats 4000000 in
theorem law_c23 {x : Cx} {b Ln : Nat} {xs : Nat → Int32} (hLn : Ln ≤ 2560) {i : Nat} (hi : i + 5 ≤ Ln) (ih : LH x b Ln xs (i + 5)) {f : Vw} {H : Hs} {hn sn : Nat} {g : Vw} {T : Tx} {tl : Nat} {I : Iv} {L : Lv} {P : Pv} (ci : CI f H hn sn g T tl I P) (ri : RI f H hn sn g T tl I) (wi : WI f H hn sn g T tl) : LA x b Ln xs 792 (lwL x b i) [] I L P := by
  refine w_aload_n 793 rfl dL_law_792 rfl ?_
  refine w_aload_n 794 rfl dL_law_793 rfl ?_
  refine w_iload_n 795 rfl dL_law_794 rfl ?_
  refine w_iconst 796 (nI 1) (by decide) dL_law_795 rfl ?_
  refine w_iadd 797 (nI (i + 1)) dL_law_796 rfl (nI_add _ _) ?_
  refine w_sld 798 (by omega) (by omega) dL_law_797 rfl ?_
  refine w_inv 801 M_X7_count [.int (xs (i + 1))] (by decide) rfl (by decide) rfl dL_law_798 rfl ml_L_113 im_X7_count se_X7_count mc_X7_count ⟨Nat.le_of_ble_eq_true rfl, Nat.le_of_ble_eq_true rfl⟩ (Nat.le_of_ble_eq_true rfl) (sp_X7_count ci.1 wi.1 ci.2.1.2.1 ci.2.2.2.2.1 (fun I1 L1 kp => ?_))
  have ci1 := ci.kp kp
  have ri1 := ri.kp kp
  refine w_aload_n 802 rfl dL_law_801 rfl ?_
  refine w_aload_n 803 rfl dL_law_802 rfl ?_
  refine w_iload_n 804 rfl dL_law_803 rfl ?_
  refine w_iconst 805 (nI 1) (by decide) dL_law_804 rfl ?_
  refine w_iadd 806 (nI (i + 1)) dL_law_805 rfl (nI_add _ _) ?_
  refine w_sld 807 (by omega) (by omega) dL_law_806 rfl ?_
  refine w_inv 810 M_X8_count [.int (xs (i + 1))] (by decide) rfl (by decide) rfl dL_law_807 rfl ml_L_116 im_X8_count se_X8_count mc_X8_count ⟨Nat.le_of_ble_eq_true rfl, Nat.le_of_ble_eq_true rfl⟩ (Nat.le_of_ble_eq_true rfl) (sp_X8_count ri1.1 wi.1 ri1.2.1.2.1 ri1.2.2.2.2.1 (fun I2 L2 kp2 => ?_))
  have ci2 := ci1.kp kp2
  have ri2 := ri1.kp kp2
  refine w_same 815 dL_law_810 (by decide) ?_
  exact law_815 ih ci2 ri2 wi
theorem lw_gt {a c : Nat} (h : a ≤ 2560 ∧ c ≤ 2560) (q : ¬ (nI a - nI 5 < nI c)) : c + 5 ≤ a := by
  rw [Int32.lt_iff_toInt_lt, pk_sub_toInt (by omega) (by decide), nI_toInt (by omega)] at q
  omega
set_option maxHeartbeats 4000000 in
theorem law_loop {x : Cx} {b Ln : Nat} {xs : Nat → Int32} (hLn : Ln ≤ 2560) : ∀ n i, Ln ≤ i + n → i ≤ Ln → LH x b Ln xs i := by
  intro n
  induction n with
  | zero =>
    intro i h1 h2 f H hn sn g T tl I L P ci ri wi
    refine w_iload_n 19 rfl dL_law_18 rfl ?_
    refine w_aload_n 20 rfl dL_law_19 rfl ?_
    refine w_slen 21 dL_law_20 rfl ?_
    refine w_iconst 22 (nI 5) (by decide) dL_law_21 rfl ?_
    refine w_isub 23 (nI Ln - nI 5) dL_law_22 rfl rfl ?_
    refine w_icmp_gt 821 26 dL_law_23 (by decide) rfl (fun h23 => ?_) (fun h23 => ?_)
    · exact w_iconst 822 1 (by decide) dL_law_821 rfl (w_ret dL_law_822)
    · exact absurd (lw_gt (by omega) h23) (by omega)
  | succ n ih0 =>
    intro i h1 h2 f H hn sn g T tl I L P ci ri wi
    refine w_iload_n 19 rfl dL_law_18 rfl ?_
    refine w_aload_n 20 rfl dL_law_19 rfl ?_
    refine w_slen 21 dL_law_20 rfl ?_
    refine w_iconst 22 (nI 5) (by decide) dL_law_21 rfl ?_
    refine w_isub 23 (nI Ln - nI 5) dL_law_22 rfl rfl ?_
    refine w_icmp_gt 821 26 dL_law_23 (by decide) rfl (fun h23 => ?_) (fun h23 => ?_)
    · exact w_iconst 822 1 (by decide) dL_law_821 rfl (w_ret dL_law_822)
    · have hi : i + 5 ≤ Ln := lw_gt (by omega) h23
      have ih : LH x b Ln xs (i + 5) := ih0 (i + 5) (by omega) hi
      refine w_aload_n 27 rfl dL_law_26 rfl ?_
      refine w_iload_n 28 rfl dL_law_27 rfl ?_
      refine w_sld 29 (by omega) (by omega) dL_law_28 rfl ?_
      refine w_bipush 31 (nI 31) (by decide) dL_law_29 rfl ?_
      obtain ⟨k, hk, ek⟩ := pk_andE (xs i) (m := nI 31) 5 (by decide)
      refine w_iand 32 (nI k) dL_law_31 rfl ek ?_
      by_cases hk24 : 24 ≤ k
      · exact w_tout 815 dL_law_32 (Or.inr (by rw [nI_toInt (by omega)]; omega)) (by decide) (law_815 ih ci ri wi)
      · rcases (show k = 0 ∨ k = 1 ∨ k = 2 ∨ k = 3 ∨ k = 4 ∨ k = 5 ∨ k = 6 ∨ k = 7 ∨ k = 8 ∨ k = 9 ∨ k = 10 ∨ k = 11 ∨ k = 12 ∨ k = 13 ∨ k = 14 ∨ k = 15 ∨ k = 16 ∨ k = 17 ∨ k = 18 ∨ k = 19 ∨ k = 20 ∨ k = 21 ∨ k = 22 ∨ k = 23 by omega) with y | y | y | y | y | y | y | y | y | y | y | y | y | y | y | y | y | y | y | y | y | y | y | y <;> subst y
        · exact w_tin 144 (off := 112) dL_law_32 (by decide) (by decide) (by decide +kernel) (by decide) (law_c0 hLn hi ih ci ri wi)
        · exact w_tin 197 (off := 165) dL_law_32 (by decide) (by decide) (by decide +kernel) (by decide) (law_c1 hLn hi ih ci ri wi)
        · exact w_tin 210 (off := 178) dL_law_32 (by decide) (by decide) (by decide +kernel) (by decide) (law_c2 hLn hi ih ci ri wi)
        · exact w_tin 233 (off := 201) dL_law_32 (by decide) (by decide) (by decide +kernel) (by decide) (law_c3 hLn hi ih ci ri wi)
        · exact w_tin 266 (off := 234) dL_law_32 (by decide) (by decide) (by decide +kernel) (by decide) (law_c4 hLn hi ih ci ri wi)
        · exact w_tin 289 (off := 257) dL_law_32 (by decide) (by decide) (by decide +kernel) (by decide) (law_c5 hLn hi ih ci ri wi)
        · exact w_tin 312 (off := 280) dL_law_32 (by decide) (by decide) (by decide +kernel) (by decide) (law_c6 hLn hi ih ci ri wi)
        · exact w_tin 325 (off := 293) dL_law_32 (by decide) (by decide) (by decide +kernel) (by decide) (law_c7 hLn hi ih ci ri wi)
        · exact w_tin 348 (off := 316) dL_law_32 (by decide) (by decide) (by decide +kernel) (by decide) (law_c8 hLn hi ih ci ri wi)
        · exact w_tin 371 (off := 339) dL_law_32 (by decide) (by decide) (by decide +kernel) (by decide) (law_c9 hLn hi ih ci ri wi)
        · exact w_tin 396 (off := 364) dL_law_32 (by decide) (by decide) (by decide +kernel) (by decide) (law_c10 hLn hi ih ci ri wi)
        · exact w_tin 409 (off := 377) dL_law_32 (by decide) (by decide) (by decide +kernel) (by decide) (law_c11 hLn hi ih ci ri wi)
        · exact w_tin 422 (off := 390) dL_law_32 (by decide) (by decide) (by decide +kernel) (by decide) (law_c12 hLn hi ih ci ri wi)
        · exact w_tin 435 (off := 403) dL_law_32 (by decide) (by decide) (by decide +kernel) (by decide) (law_c13 hLn hi ih ci ri wi)
        · exact w_tin 448 (off := 416) dL_law_32 (by decide) (by decide) (by decide +kernel) (by decide) (law_c14 hLn hi ih ci ri wi)
        · exact w_tin 517 (off := 485) dL_law_32 (by decide) (by decide) (by decide +kernel) (by decide) (law_c15 hLn hi ih ci ri wi)
        · exact w_tin 550 (off := 518) dL_law_32 (by decide) (by decide) (by decide +kernel) (by decide) (law_c16 hLn hi ih ci ri wi)
        · exact w_tin 584 (off := 552) dL_law_32 (by decide) (by decide) (by decide +kernel) (by decide) (law_c17 hLn hi ih ci ri wi)
        · exact w_tin 617 (off := 585) dL_law_32 (by decide) (by decide) (by decide +kernel) (by decide) (law_c18 hLn hi ih ci ri wi)
        · exact w_tin 660 (off := 628) dL_law_32 (by decide) (by decide) (by decide +kernel) (by decide) (law_c19 hLn hi ih ci ri wi)
        · exact w_tin 693 (off := 661) dL_law_32 (by decide) (by decide) (by decide +kernel) (by decide) (law_c20 hLn hi ih ci ri wi)
        · exact w_tin 716 (off := 684) dL_law_32 (by decide) (by decide) (by decide +kernel) (by decide) (law_c21 hLn hi ih ci ri wi)
        · exact w_tin 759 (off := 727) dL_law_32 (by decide) (by decide) (by decide +kernel) (by decide) (law_c22 hLn hi ih ci ri wi)
        · exact w_tin 792 (off := 760) dL_law_32 (by decide) (by decide) (by decide +kernel) (by decide) (law_c23 hLn hi ih ci ri wi)
