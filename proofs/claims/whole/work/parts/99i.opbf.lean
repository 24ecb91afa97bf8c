/-! shares of a pot: the reference -/
theorem sumN_mono {f : Nat → Nat} : ∀ n i, i ≤ n → sumN f i ≤ sumN f n
  | 0, i, h => by
    have e : i = 0 := by omega
    rw [e]
    exact Nat.le_refl _
  | n + 1, i, h => by
    by_cases e : i = n + 1
    · rw [e]
      exact Nat.le_refl _
    · have := sumN_mono (f := f) n i (by omega)
      show _ ≤ sumN f n + f n
      omega
theorem sumN_tail {f : Nat → Nat} {D : Nat} : ∀ n, D ≤ n → (∀ i, D ≤ i → i < n → f i = 0) → sumN f n = sumN f D
  | 0, h, _ => by
    have e : D = 0 := by omega
    rw [e]
  | n + 1, h, hz => by
    by_cases e : D = n + 1
    · rw [e]
    · show sumN f n + f n = _
      rw [sumN_tail n (by omega) (fun i h1 h2 => hz i h1 (by omega)), hz n (by omega) (by omega)]
      rfl
theorem shTp_app {W K : Nat → Nat} {r : Nat} : ∀ a b i m G, shTp W K r (a + b) i m G = shTp W K r b (i + a) (shTp W K r a i m G).1 (shTp W K r a i m G).2
  | 0, b, i, m, G => by
    rw [Nat.zero_add]
    rfl
  | a + 1, b, i, m, G => by
    have e : a + 1 + b = (a + b) + 1 := by omega
    have e2 : i + (a + 1) = i + 1 + a := by omega
    have h1 : shTp W K r (a + b + 1) i m G = if K i = r ∧ 0 < m ∧ G i < W i then shTp W K r (a + b) (i + 1) (m - 1) (updN G i (G i + 1)) else shTp W K r (a + b) (i + 1) m G := rfl
    have h2 : shTp W K r (a + 1) i m G = if K i = r ∧ 0 < m ∧ G i < W i then shTp W K r a (i + 1) (m - 1) (updN G i (G i + 1)) else shTp W K r a (i + 1) m G := rfl
    rw [e, e2, h1, h2]
    by_cases q : K i = r ∧ 0 < m ∧ G i < W i
    · rw [if_pos q, if_pos q]
      exact shTp_app a b (i + 1) _ _
    · rw [if_neg q, if_neg q]
      exact shTp_app a b (i + 1) _ _
section OBF
variable {d : Nat} {σ : am_I} {ρ : am_R} {g : am_J} {τ : am_T} {Q : am_Q}
def RGD (w : Nat → Int32) (G : Nat → Nat) (D : Nat) : Prop := ∀ j, j < D → w j = nI (G j)
theorem RGD.upd {w : Nat → Int32} {G : Nat → Nat} {D : Nat} (h : RGD w G D) (i v : Nat) : RGD (fun j => if j = i then nI v else w j) (updN G i v) D := by
  intro j hj
  show (if j = i then nI v else w j) = nI (if j = i then v else G j)
  by_cases e : j = i
  · rw [if_pos e, if_pos e]
  · rw [if_neg e, if_neg e]
    exact h j hj
def KM (σ : am_I) (W K : Nat → Nat) (D : Nat) : Prop := (∀ i, i < D → (K i ≤ 9 ∧ σ 217 i = nI (K i)) ∨ (W i = 0 ∧ K i = 10 ∧ σ 217 i = -1)) ∧ (∀ i, i < D → W i ≤ 10998 ∧ σ 215 i = nI (W i)) ∧ (∀ i, D ≤ i → K i = 10) ∧ D ≤ 16 ∧ σ 161 2 = nI D
theorem m1_ne {r : Nat} (h : r ≤ 9) : ¬ (-1 : Int32) = nI r := by
  have q : ∀ r, r ≤ 9 → ¬ (-1 : Int32) = nI r := by decide
  exact q r h
theorem KM.rk {W K : Nat → Nat} {D r i : Nat} (h : KM σ W K D) (hr : r ≤ 9) (hi : i < D) : (σ 217 i = nI r ↔ K i = r) := by
  rcases h.1 i hi with ⟨k1, k2⟩ | ⟨k0, k1, k2⟩
  · rw [k2]
    exact nI_eq (by omega) (by omega)
  · rw [k2, k1]
    exact ⟨fun q => absurd q (m1_ne hr), fun q => by omega⟩
theorem c216b (hS : Sh ρ τ) {W K : Nat → Nat} {D : Nat} (hK : KM σ W K D) {r : Nat} (hr : r ≤ 9) {x1 x2 x3 x4 : Int32} {w : Nat → Int32} : ∀ (n i : Nat), i + n = D → AW d 216 132 [.ref 160, .int x1, .int x2, .int x3, .int x4, .int (nI r), .int (nI (shAll W K r i)), .int (nI i)] [] (am_ur σ 216 w) ρ g τ Q = AW d 216 173 [.ref 160, .int x1, .int x2, .int x3, .int x4, .int (nI r), .int (nI (shAll W K r D)), .int (nI D)] [] (am_ur σ 216 w) ρ g τ Q
  | 0, i, h => by
    have e : i = D := by omega
    subst e
    have hle : nI i ≤ nI i := Int32.le_refl _
    have k2 : am_inb 2 9 = true := by decide
    have e0 : am_ur σ 216 w 161 2 = nI i := by rw [ur_ne _ _ _ (by decide)]; exact hK.2.2.2.2
    simp only [s216_132, s216_134, s216_135, s216_138, s216_139, s216_140, k_160 hS, k_161 hS, l_161 hS, k_162 hS, l_162 hS, k_163 hS, l_163 hS, k_164 hS, l_164 hS, k_165 hS, l_165 hS, k_166 hS, l_166 hS, k_167 hS, l_167 hS, k_168 hS, l_168 hS, k_169 hS, l_169 hS, k_170 hS, l_170 hS, k_171 hS, l_171 hS, k_172 hS, l_172 hS, k_173 hS, l_173 hS, k_174 hS, l_174 hS, k_175 hS, l_175 hS, k_176 hS, l_176 hS, k_177 hS, l_177 hS, k_178 hS, l_178 hS, k_179 hS, l_179 hS, k_180 hS, l_180 hS, k_181 hS, l_181 hS, k_182 hS, l_182 hS, k_183 hS, l_183 hS, k_184 hS, l_184 hS, k_185 hS, l_185 hS, k_186 hS, l_186 hS, k_187 hS, l_187 hS, k_188 hS, l_188 hS, k_189 hS, l_189 hS, k_190 hS, l_190 hS, k_191 hS, l_191 hS, k_192 hS, l_192 hS, k_193 hS, l_193 hS, k_194 hS, l_194 hS, k_195 hS, l_195 hS, k_196 hS, l_196 hS, k_197 hS, l_197 hS, k_198 hS, l_198 hS, k_199 hS, l_199 hS, k_200 hS, l_200 hS, k_201 hS, l_201 hS, k_202 hS, l_202 hS, k_203 hS, l_203 hS, k_204 hS, l_204 hS, k_205 hS, l_205 hS, k_206 hS, l_206 hS, k_207 hS, l_207 hS, k_208 hS, l_208 hS, k_209 hS, l_209 hS, k_210 hS, l_210 hS, k_211 hS, l_211 hS, k_212 hS, l_212 hS, k_213 hS, l_213 hS, k_214 hS, l_214 hS, k_215 hS, l_215 hS, k_216 hS, l_216 hS, k_217 hS, l_217 hS, k_218 hS, l_218 hS, k_219 hS, l_219 hS, k_220 hS, l_220 hS, r_160_0 hS, r_160_1 hS, r_160_2 hS, r_160_3 hS, r_160_4 hS, r_160_5 hS, r_160_6 hS, r_160_7 hS, r_160_8 hS, r_160_9 hS, r_160_10 hS, r_160_11 hS, r_160_12 hS, r_160_13 hS, r_160_14 hS, r_160_15 hS, r_160_16 hS, r_160_17 hS, r_160_18 hS, r_160_19 hS, r_160_20 hS, r_160_21 hS, r_160_22 hS, r_160_23 hS, r_160_24 hS, r_160_25 hS, r_160_26 hS, r_160_27 hS, r_160_28 hS, r_160_29 hS, r_160_30 hS, r_160_31 hS, r_160_32 hS, r_160_33 hS, r_160_34 hS, r_160_35 hS, r_160_36 hS, r_160_37 hS, r_160_38 hS, r_160_39 hS, r_160_40 hS, r_160_41 hS, r_160_43 hS, r_160_45 hS, r_160_46 hS, r_160_48 hS, r_160_49 hS, r_160_50 hS, r_160_51 hS, r_160_52 hS, r_160_53 hS, r_160_54 hS, r_160_56 hS, r_160_63 hS, r_160_64 hS, r_160_65 hS, r_160_66 hS, r_160_67 hS, r_160_68 hS, r_160_69 hS, ol_s, ol_n, ln_0, ln_1, ln_2, ln_3, ln_4, eq_self, rf_s, rf_n, i01_0, i01_n0, i01_b, b01_0, b01_1, and_self, and_true, true_and, and_false, false_and, if_true, if_false, not_true_eq_false, not_false_eq_true, e10, e00, lt_bg, Nat.reduceLT, Nat.reduceLeDiff, k2, z2, e0, hle]
  | n + 1, i, h => by
    have hD := hK.2.2.2.1
    have hlt : ¬ nI D ≤ nI i := nI_ge (by omega) (by omega)
    have k2 : am_inb 2 9 = true := by decide
    have e0 : am_ur σ 216 w 161 2 = nI D := by rw [ur_ne _ _ _ (by decide)]; exact hK.2.2.2.2
    have hi : am_inb (nI i) 16 = true := inb_n (by omega) (by decide)
    have hc : (nI i).toNatClampNeg = i := nI_clamp (by omega)
    obtain ⟨w1, w2⟩ := hK.2.1 i (by omega)
    have e2 : am_ur σ 216 w 215 i = nI (W i) := by rw [ur_ne _ _ _ (by decide)]; exact w2
    have up : shAll W K r (i + 1) = shAll W K r i + (if K i = r then W i else 0) := rfl
    have ih := c216b hS hK hr (x1 := x1) (x2 := x2) (x3 := x3) (x4 := x4) (w := w) n (i + 1) (by omega)
    rw [s216_132]
    by_cases z : K i = r
    · have e1 : am_ur σ 216 w 217 i = nI r := by rw [ur_ne _ _ _ (by decide)]; exact (hK.rk hr (by omega)).mpr z
      rw [up, if_pos z] at ih
      simp only [s216_134, s216_135, s216_138, s216_139, s216_140, s216_143, s216_144, s216_147, s216_149, s216_150, s216_152, s216_155, s216_157, s216_158, s216_161, s216_163, s216_164, s216_165, s216_167, s216_170, k_160 hS, k_161 hS, l_161 hS, k_162 hS, l_162 hS, k_163 hS, l_163 hS, k_164 hS, l_164 hS, k_165 hS, l_165 hS, k_166 hS, l_166 hS, k_167 hS, l_167 hS, k_168 hS, l_168 hS, k_169 hS, l_169 hS, k_170 hS, l_170 hS, k_171 hS, l_171 hS, k_172 hS, l_172 hS, k_173 hS, l_173 hS, k_174 hS, l_174 hS, k_175 hS, l_175 hS, k_176 hS, l_176 hS, k_177 hS, l_177 hS, k_178 hS, l_178 hS, k_179 hS, l_179 hS, k_180 hS, l_180 hS, k_181 hS, l_181 hS, k_182 hS, l_182 hS, k_183 hS, l_183 hS, k_184 hS, l_184 hS, k_185 hS, l_185 hS, k_186 hS, l_186 hS, k_187 hS, l_187 hS, k_188 hS, l_188 hS, k_189 hS, l_189 hS, k_190 hS, l_190 hS, k_191 hS, l_191 hS, k_192 hS, l_192 hS, k_193 hS, l_193 hS, k_194 hS, l_194 hS, k_195 hS, l_195 hS, k_196 hS, l_196 hS, k_197 hS, l_197 hS, k_198 hS, l_198 hS, k_199 hS, l_199 hS, k_200 hS, l_200 hS, k_201 hS, l_201 hS, k_202 hS, l_202 hS, k_203 hS, l_203 hS, k_204 hS, l_204 hS, k_205 hS, l_205 hS, k_206 hS, l_206 hS, k_207 hS, l_207 hS, k_208 hS, l_208 hS, k_209 hS, l_209 hS, k_210 hS, l_210 hS, k_211 hS, l_211 hS, k_212 hS, l_212 hS, k_213 hS, l_213 hS, k_214 hS, l_214 hS, k_215 hS, l_215 hS, k_216 hS, l_216 hS, k_217 hS, l_217 hS, k_218 hS, l_218 hS, k_219 hS, l_219 hS, k_220 hS, l_220 hS, r_160_0 hS, r_160_1 hS, r_160_2 hS, r_160_3 hS, r_160_4 hS, r_160_5 hS, r_160_6 hS, r_160_7 hS, r_160_8 hS, r_160_9 hS, r_160_10 hS, r_160_11 hS, r_160_12 hS, r_160_13 hS, r_160_14 hS, r_160_15 hS, r_160_16 hS, r_160_17 hS, r_160_18 hS, r_160_19 hS, r_160_20 hS, r_160_21 hS, r_160_22 hS, r_160_23 hS, r_160_24 hS, r_160_25 hS, r_160_26 hS, r_160_27 hS, r_160_28 hS, r_160_29 hS, r_160_30 hS, r_160_31 hS, r_160_32 hS, r_160_33 hS, r_160_34 hS, r_160_35 hS, r_160_36 hS, r_160_37 hS, r_160_38 hS, r_160_39 hS, r_160_40 hS, r_160_41 hS, r_160_43 hS, r_160_45 hS, r_160_46 hS, r_160_48 hS, r_160_49 hS, r_160_50 hS, r_160_51 hS, r_160_52 hS, r_160_53 hS, r_160_54 hS, r_160_56 hS, r_160_63 hS, r_160_64 hS, r_160_65 hS, r_160_66 hS, r_160_67 hS, r_160_68 hS, r_160_69 hS, ol_s, ol_n, ln_0, ln_1, ln_2, ln_3, ln_4, eq_self, rf_s, rf_n, i01_0, i01_n0, i01_b, b01_0, b01_1, and_self, and_true, true_and, and_false, false_and, if_true, if_false, not_true_eq_false, not_false_eq_true, e10, e00, lt_bg, Nat.reduceLT, Nat.reduceLeDiff, k2, z2, e0, hlt, hi, hc, e1, e2, nI_add, nI_1]
      exact ih
    · have e1 : ¬ am_ur σ 216 w 217 i = nI r := by rw [ur_ne _ _ _ (by decide)]; exact fun q => z ((hK.rk hr (by omega)).mp q)
      rw [up, if_neg z] at ih
      simp only [s216_134, s216_135, s216_138, s216_139, s216_140, s216_143, s216_144, s216_147, s216_149, s216_150, s216_152, s216_155, s216_157, s216_158, s216_161, s216_163, s216_164, s216_165, s216_167, s216_170, k_160 hS, k_161 hS, l_161 hS, k_162 hS, l_162 hS, k_163 hS, l_163 hS, k_164 hS, l_164 hS, k_165 hS, l_165 hS, k_166 hS, l_166 hS, k_167 hS, l_167 hS, k_168 hS, l_168 hS, k_169 hS, l_169 hS, k_170 hS, l_170 hS, k_171 hS, l_171 hS, k_172 hS, l_172 hS, k_173 hS, l_173 hS, k_174 hS, l_174 hS, k_175 hS, l_175 hS, k_176 hS, l_176 hS, k_177 hS, l_177 hS, k_178 hS, l_178 hS, k_179 hS, l_179 hS, k_180 hS, l_180 hS, k_181 hS, l_181 hS, k_182 hS, l_182 hS, k_183 hS, l_183 hS, k_184 hS, l_184 hS, k_185 hS, l_185 hS, k_186 hS, l_186 hS, k_187 hS, l_187 hS, k_188 hS, l_188 hS, k_189 hS, l_189 hS, k_190 hS, l_190 hS, k_191 hS, l_191 hS, k_192 hS, l_192 hS, k_193 hS, l_193 hS, k_194 hS, l_194 hS, k_195 hS, l_195 hS, k_196 hS, l_196 hS, k_197 hS, l_197 hS, k_198 hS, l_198 hS, k_199 hS, l_199 hS, k_200 hS, l_200 hS, k_201 hS, l_201 hS, k_202 hS, l_202 hS, k_203 hS, l_203 hS, k_204 hS, l_204 hS, k_205 hS, l_205 hS, k_206 hS, l_206 hS, k_207 hS, l_207 hS, k_208 hS, l_208 hS, k_209 hS, l_209 hS, k_210 hS, l_210 hS, k_211 hS, l_211 hS, k_212 hS, l_212 hS, k_213 hS, l_213 hS, k_214 hS, l_214 hS, k_215 hS, l_215 hS, k_216 hS, l_216 hS, k_217 hS, l_217 hS, k_218 hS, l_218 hS, k_219 hS, l_219 hS, k_220 hS, l_220 hS, r_160_0 hS, r_160_1 hS, r_160_2 hS, r_160_3 hS, r_160_4 hS, r_160_5 hS, r_160_6 hS, r_160_7 hS, r_160_8 hS, r_160_9 hS, r_160_10 hS, r_160_11 hS, r_160_12 hS, r_160_13 hS, r_160_14 hS, r_160_15 hS, r_160_16 hS, r_160_17 hS, r_160_18 hS, r_160_19 hS, r_160_20 hS, r_160_21 hS, r_160_22 hS, r_160_23 hS, r_160_24 hS, r_160_25 hS, r_160_26 hS, r_160_27 hS, r_160_28 hS, r_160_29 hS, r_160_30 hS, r_160_31 hS, r_160_32 hS, r_160_33 hS, r_160_34 hS, r_160_35 hS, r_160_36 hS, r_160_37 hS, r_160_38 hS, r_160_39 hS, r_160_40 hS, r_160_41 hS, r_160_43 hS, r_160_45 hS, r_160_46 hS, r_160_48 hS, r_160_49 hS, r_160_50 hS, r_160_51 hS, r_160_52 hS, r_160_53 hS, r_160_54 hS, r_160_56 hS, r_160_63 hS, r_160_64 hS, r_160_65 hS, r_160_66 hS, r_160_67 hS, r_160_68 hS, r_160_69 hS, ol_s, ol_n, ln_0, ln_1, ln_2, ln_3, ln_4, eq_self, rf_s, rf_n, i01_0, i01_n0, i01_b, b01_0, b01_1, and_self, and_true, true_and, and_false, false_and, if_true, if_false, not_true_eq_false, not_false_eq_true, e10, e00, lt_bg, Nat.reduceLT, Nat.reduceLeDiff, k2, z2, e0, hlt, hi, hc, e1, nI_1]
      exact ih
theorem c216c (hS : Sh ρ τ) {W K : Nat → Nat} {D : Nat} (hK : KM σ W K D) {r : Nat} (hr : r ≤ 9) {x1 x2 x3 x4 x6 : Int32} {G : Nat → Nat} : ∀ (n i : Nat) (w : Nat → Int32), i + n = D → RGD w (fun j => if j < i ∧ K j = r then W j else G j) D → ∃ w', RGD w' (fun j => if K j = r then W j else G j) D ∧ ∀ (d : Nat) (g : am_J) (Q : am_Q), AW d 216 195 [.ref 160, .int x1, .int x2, .int x3, .int x4, .int (nI r), .int x6, .int (nI i)] [] (am_ur σ 216 w) ρ g τ Q = AW d 216 238 [.ref 160, .int x1, .int x2, .int x3, .int x4, .int (nI r), .int x6, .int (nI D)] [] (am_ur σ 216 w') ρ g τ Q
  | 0, i, w, h, hw => by
    have e : i = D := by omega
    subst e
    refine ⟨w, fun j hj => ?_, fun d g Q => ?_⟩
    · rw [hw j hj]
      congr 1
      dsimp only
      by_cases q : K j = r
      · rw [if_pos ⟨hj, q⟩, if_pos q]
      · rw [if_neg (fun h => q h.2), if_neg q]
    · have hle : nI i ≤ nI i := Int32.le_refl _
      have k2 : am_inb 2 9 = true := by decide
      have e0 : am_ur σ 216 w 161 2 = nI i := by rw [ur_ne _ _ _ (by decide)]; exact hK.2.2.2.2
      simp only [s216_195, s216_197, s216_198, s216_201, s216_202, s216_203, k_160 hS, k_161 hS, l_161 hS, k_162 hS, l_162 hS, k_163 hS, l_163 hS, k_164 hS, l_164 hS, k_165 hS, l_165 hS, k_166 hS, l_166 hS, k_167 hS, l_167 hS, k_168 hS, l_168 hS, k_169 hS, l_169 hS, k_170 hS, l_170 hS, k_171 hS, l_171 hS, k_172 hS, l_172 hS, k_173 hS, l_173 hS, k_174 hS, l_174 hS, k_175 hS, l_175 hS, k_176 hS, l_176 hS, k_177 hS, l_177 hS, k_178 hS, l_178 hS, k_179 hS, l_179 hS, k_180 hS, l_180 hS, k_181 hS, l_181 hS, k_182 hS, l_182 hS, k_183 hS, l_183 hS, k_184 hS, l_184 hS, k_185 hS, l_185 hS, k_186 hS, l_186 hS, k_187 hS, l_187 hS, k_188 hS, l_188 hS, k_189 hS, l_189 hS, k_190 hS, l_190 hS, k_191 hS, l_191 hS, k_192 hS, l_192 hS, k_193 hS, l_193 hS, k_194 hS, l_194 hS, k_195 hS, l_195 hS, k_196 hS, l_196 hS, k_197 hS, l_197 hS, k_198 hS, l_198 hS, k_199 hS, l_199 hS, k_200 hS, l_200 hS, k_201 hS, l_201 hS, k_202 hS, l_202 hS, k_203 hS, l_203 hS, k_204 hS, l_204 hS, k_205 hS, l_205 hS, k_206 hS, l_206 hS, k_207 hS, l_207 hS, k_208 hS, l_208 hS, k_209 hS, l_209 hS, k_210 hS, l_210 hS, k_211 hS, l_211 hS, k_212 hS, l_212 hS, k_213 hS, l_213 hS, k_214 hS, l_214 hS, k_215 hS, l_215 hS, k_216 hS, l_216 hS, k_217 hS, l_217 hS, k_218 hS, l_218 hS, k_219 hS, l_219 hS, k_220 hS, l_220 hS, r_160_0 hS, r_160_1 hS, r_160_2 hS, r_160_3 hS, r_160_4 hS, r_160_5 hS, r_160_6 hS, r_160_7 hS, r_160_8 hS, r_160_9 hS, r_160_10 hS, r_160_11 hS, r_160_12 hS, r_160_13 hS, r_160_14 hS, r_160_15 hS, r_160_16 hS, r_160_17 hS, r_160_18 hS, r_160_19 hS, r_160_20 hS, r_160_21 hS, r_160_22 hS, r_160_23 hS, r_160_24 hS, r_160_25 hS, r_160_26 hS, r_160_27 hS, r_160_28 hS, r_160_29 hS, r_160_30 hS, r_160_31 hS, r_160_32 hS, r_160_33 hS, r_160_34 hS, r_160_35 hS, r_160_36 hS, r_160_37 hS, r_160_38 hS, r_160_39 hS, r_160_40 hS, r_160_41 hS, r_160_43 hS, r_160_45 hS, r_160_46 hS, r_160_48 hS, r_160_49 hS, r_160_50 hS, r_160_51 hS, r_160_52 hS, r_160_53 hS, r_160_54 hS, r_160_56 hS, r_160_63 hS, r_160_64 hS, r_160_65 hS, r_160_66 hS, r_160_67 hS, r_160_68 hS, r_160_69 hS, ol_s, ol_n, ln_0, ln_1, ln_2, ln_3, ln_4, eq_self, rf_s, rf_n, i01_0, i01_n0, i01_b, b01_0, b01_1, and_self, and_true, true_and, and_false, false_and, if_true, if_false, not_true_eq_false, not_false_eq_true, e10, e00, lt_bg, Nat.reduceLT, Nat.reduceLeDiff, k2, z2, e0, hle]
  | n + 1, i, w, h, hw => by
    have hD := hK.2.2.2.1
    have hlt : ¬ nI D ≤ nI i := nI_ge (by omega) (by omega)
    have k2 : am_inb 2 9 = true := by decide
    have e0 : am_ur σ 216 w 161 2 = nI D := by rw [ur_ne _ _ _ (by decide)]; exact hK.2.2.2.2
    have hi : am_inb (nI i) 16 = true := inb_n (by omega) (by decide)
    have hc : (nI i).toNatClampNeg = i := nI_clamp (by omega)
    obtain ⟨w1, w2⟩ := hK.2.1 i (by omega)
    have e2 : am_ur σ 216 w 215 i = nI (W i) := by rw [ur_ne _ _ _ (by decide)]; exact w2
    by_cases z : K i = r
    · have e1 : am_ur σ 216 w 217 i = nI r := by rw [ur_ne _ _ _ (by decide)]; exact (hK.rk hr (by omega)).mpr z
      have hw' : RGD (fun j => if j = i then nI (W i) else w j) (fun j => if j < i + 1 ∧ K j = r then W j else G j) D := by
        intro j hj
        rw [hw.upd i (W i) j hj]
        congr 1
        dsimp only [updN]
        by_cases e : j = i
        · subst e
          rw [if_pos rfl, if_pos ⟨by omega, z⟩]
        · rw [if_neg e]
          by_cases y : j < i ∧ K j = r
          · rw [if_pos y, if_pos ⟨by omega, y.2⟩]
          · rw [if_neg y, if_neg (fun y2 => y ⟨by omega, y2.2⟩)]
      obtain ⟨w', P1, P2⟩ := c216c hS hK hr (x1 := x1) (x2 := x2) (x3 := x3) (x4 := x4) (x6 := x6) n (i + 1) _ (by omega) hw'
      refine ⟨w', P1, fun d g Q => ?_⟩
      have P2 := P2 d g Q
      rw [s216_195]
      simp only [s216_197, s216_198, s216_201, s216_202, s216_203, s216_206, s216_207, s216_210, s216_212, s216_213, s216_215, s216_218, s216_219, s216_222, s216_224, s216_225, s216_228, s216_230, s216_231, s216_232, s216_235, k_160 hS, k_161 hS, l_161 hS, k_162 hS, l_162 hS, k_163 hS, l_163 hS, k_164 hS, l_164 hS, k_165 hS, l_165 hS, k_166 hS, l_166 hS, k_167 hS, l_167 hS, k_168 hS, l_168 hS, k_169 hS, l_169 hS, k_170 hS, l_170 hS, k_171 hS, l_171 hS, k_172 hS, l_172 hS, k_173 hS, l_173 hS, k_174 hS, l_174 hS, k_175 hS, l_175 hS, k_176 hS, l_176 hS, k_177 hS, l_177 hS, k_178 hS, l_178 hS, k_179 hS, l_179 hS, k_180 hS, l_180 hS, k_181 hS, l_181 hS, k_182 hS, l_182 hS, k_183 hS, l_183 hS, k_184 hS, l_184 hS, k_185 hS, l_185 hS, k_186 hS, l_186 hS, k_187 hS, l_187 hS, k_188 hS, l_188 hS, k_189 hS, l_189 hS, k_190 hS, l_190 hS, k_191 hS, l_191 hS, k_192 hS, l_192 hS, k_193 hS, l_193 hS, k_194 hS, l_194 hS, k_195 hS, l_195 hS, k_196 hS, l_196 hS, k_197 hS, l_197 hS, k_198 hS, l_198 hS, k_199 hS, l_199 hS, k_200 hS, l_200 hS, k_201 hS, l_201 hS, k_202 hS, l_202 hS, k_203 hS, l_203 hS, k_204 hS, l_204 hS, k_205 hS, l_205 hS, k_206 hS, l_206 hS, k_207 hS, l_207 hS, k_208 hS, l_208 hS, k_209 hS, l_209 hS, k_210 hS, l_210 hS, k_211 hS, l_211 hS, k_212 hS, l_212 hS, k_213 hS, l_213 hS, k_214 hS, l_214 hS, k_215 hS, l_215 hS, k_216 hS, l_216 hS, k_217 hS, l_217 hS, k_218 hS, l_218 hS, k_219 hS, l_219 hS, k_220 hS, l_220 hS, r_160_0 hS, r_160_1 hS, r_160_2 hS, r_160_3 hS, r_160_4 hS, r_160_5 hS, r_160_6 hS, r_160_7 hS, r_160_8 hS, r_160_9 hS, r_160_10 hS, r_160_11 hS, r_160_12 hS, r_160_13 hS, r_160_14 hS, r_160_15 hS, r_160_16 hS, r_160_17 hS, r_160_18 hS, r_160_19 hS, r_160_20 hS, r_160_21 hS, r_160_22 hS, r_160_23 hS, r_160_24 hS, r_160_25 hS, r_160_26 hS, r_160_27 hS, r_160_28 hS, r_160_29 hS, r_160_30 hS, r_160_31 hS, r_160_32 hS, r_160_33 hS, r_160_34 hS, r_160_35 hS, r_160_36 hS, r_160_37 hS, r_160_38 hS, r_160_39 hS, r_160_40 hS, r_160_41 hS, r_160_43 hS, r_160_45 hS, r_160_46 hS, r_160_48 hS, r_160_49 hS, r_160_50 hS, r_160_51 hS, r_160_52 hS, r_160_53 hS, r_160_54 hS, r_160_56 hS, r_160_63 hS, r_160_64 hS, r_160_65 hS, r_160_66 hS, r_160_67 hS, r_160_68 hS, r_160_69 hS, ol_s, ol_n, ln_0, ln_1, ln_2, ln_3, ln_4, eq_self, rf_s, rf_n, i01_0, i01_n0, i01_b, b01_0, b01_1, and_self, and_true, true_and, and_false, false_and, if_true, if_false, not_true_eq_false, not_false_eq_true, e10, e00, lt_bg, Nat.reduceLT, Nat.reduceLeDiff, k2, z2, e0, hlt, hi, hc, e1, e2, u_ur, nI_1]
      exact P2
    · have e1 : ¬ am_ur σ 216 w 217 i = nI r := by rw [ur_ne _ _ _ (by decide)]; exact fun q => z ((hK.rk hr (by omega)).mp q)
      have hw' : RGD w (fun j => if j < i + 1 ∧ K j = r then W j else G j) D := by
        intro j hj
        rw [hw j hj]
        congr 1
        dsimp only
        by_cases e : j = i
        · subst e
          rw [if_neg (fun y => z y.2), if_neg (fun y => z y.2)]
        · by_cases y : j < i ∧ K j = r
          · rw [if_pos y, if_pos ⟨by omega, y.2⟩]
          · rw [if_neg y, if_neg (fun y2 => y ⟨by omega, y2.2⟩)]
      obtain ⟨w', P1, P2⟩ := c216c hS hK hr (x1 := x1) (x2 := x2) (x3 := x3) (x4 := x4) (x6 := x6) n (i + 1) w (by omega) hw'
      refine ⟨w', P1, fun d g Q => ?_⟩
      have P2 := P2 d g Q
      rw [s216_195]
      simp only [s216_197, s216_198, s216_201, s216_202, s216_203, s216_206, s216_207, s216_210, s216_212, s216_213, s216_215, s216_218, s216_219, s216_222, s216_224, s216_225, s216_228, s216_230, s216_231, s216_232, s216_235, k_160 hS, k_161 hS, l_161 hS, k_162 hS, l_162 hS, k_163 hS, l_163 hS, k_164 hS, l_164 hS, k_165 hS, l_165 hS, k_166 hS, l_166 hS, k_167 hS, l_167 hS, k_168 hS, l_168 hS, k_169 hS, l_169 hS, k_170 hS, l_170 hS, k_171 hS, l_171 hS, k_172 hS, l_172 hS, k_173 hS, l_173 hS, k_174 hS, l_174 hS, k_175 hS, l_175 hS, k_176 hS, l_176 hS, k_177 hS, l_177 hS, k_178 hS, l_178 hS, k_179 hS, l_179 hS, k_180 hS, l_180 hS, k_181 hS, l_181 hS, k_182 hS, l_182 hS, k_183 hS, l_183 hS, k_184 hS, l_184 hS, k_185 hS, l_185 hS, k_186 hS, l_186 hS, k_187 hS, l_187 hS, k_188 hS, l_188 hS, k_189 hS, l_189 hS, k_190 hS, l_190 hS, k_191 hS, l_191 hS, k_192 hS, l_192 hS, k_193 hS, l_193 hS, k_194 hS, l_194 hS, k_195 hS, l_195 hS, k_196 hS, l_196 hS, k_197 hS, l_197 hS, k_198 hS, l_198 hS, k_199 hS, l_199 hS, k_200 hS, l_200 hS, k_201 hS, l_201 hS, k_202 hS, l_202 hS, k_203 hS, l_203 hS, k_204 hS, l_204 hS, k_205 hS, l_205 hS, k_206 hS, l_206 hS, k_207 hS, l_207 hS, k_208 hS, l_208 hS, k_209 hS, l_209 hS, k_210 hS, l_210 hS, k_211 hS, l_211 hS, k_212 hS, l_212 hS, k_213 hS, l_213 hS, k_214 hS, l_214 hS, k_215 hS, l_215 hS, k_216 hS, l_216 hS, k_217 hS, l_217 hS, k_218 hS, l_218 hS, k_219 hS, l_219 hS, k_220 hS, l_220 hS, r_160_0 hS, r_160_1 hS, r_160_2 hS, r_160_3 hS, r_160_4 hS, r_160_5 hS, r_160_6 hS, r_160_7 hS, r_160_8 hS, r_160_9 hS, r_160_10 hS, r_160_11 hS, r_160_12 hS, r_160_13 hS, r_160_14 hS, r_160_15 hS, r_160_16 hS, r_160_17 hS, r_160_18 hS, r_160_19 hS, r_160_20 hS, r_160_21 hS, r_160_22 hS, r_160_23 hS, r_160_24 hS, r_160_25 hS, r_160_26 hS, r_160_27 hS, r_160_28 hS, r_160_29 hS, r_160_30 hS, r_160_31 hS, r_160_32 hS, r_160_33 hS, r_160_34 hS, r_160_35 hS, r_160_36 hS, r_160_37 hS, r_160_38 hS, r_160_39 hS, r_160_40 hS, r_160_41 hS, r_160_43 hS, r_160_45 hS, r_160_46 hS, r_160_48 hS, r_160_49 hS, r_160_50 hS, r_160_51 hS, r_160_52 hS, r_160_53 hS, r_160_54 hS, r_160_56 hS, r_160_63 hS, r_160_64 hS, r_160_65 hS, r_160_66 hS, r_160_67 hS, r_160_68 hS, r_160_69 hS, ol_s, ol_n, ln_0, ln_1, ln_2, ln_3, ln_4, eq_self, rf_s, rf_n, i01_0, i01_n0, i01_b, b01_0, b01_1, and_self, and_true, true_and, and_false, false_and, if_true, if_false, not_true_eq_false, not_false_eq_true, e10, e00, lt_bg, Nat.reduceLT, Nat.reduceLeDiff, k2, z2, e0, hlt, hi, hc, e1, nI_1]
      exact P2
theorem ldiv_n {a b A : Nat} (h : a * b < 2 ^ 31) (ha : a < 2 ^ 31) (hb : b < 2 ^ 31) (hA : 0 < A) (hA2 : A < 2 ^ 31) : ((nI a).toInt64 * (nI b).toInt64 / (nI A).toInt64).toInt32 = nI (a * b / A) := by
  rw [nI_l ha, nI_l hb, nI_l hA2, lN_mul, pk_lDiv (by omega) hA (by omega), lN_i]
theorem l0_n {A : Nat} (hA : 0 < A) (hA2 : A < 2 ^ 31) : ¬ (nI A).toInt64 = 0 := by
  rw [nI_l hA2]
  intro q
  have : A = 0 := (lN_eq (b := 0) hA2 (by decide)).mp q
  omega
theorem c217a (hS : Sh ρ τ) {W K : Nat → Nat} {D : Nat} (hK : KM σ W K D) {r R A : Nat} (hr : r ≤ 9) (hR : R ≤ 15984) (hA : 0 < A) (hA2 : A < 2 ^ 31) (hs : sumN (fun j => if K j = r then W j * R / A else 0) D ≤ R) {G : Nat → Nat} : ∀ (n i : Nat) (w : Nat → Int32), i + n = D → RGD w (fun j => if j < i ∧ K j = r then W j * R / A else G j) D → ∃ w', RGD w' (fun j => if K j = r then W j * R / A else G j) D ∧ ∀ (d : Nat) (g : am_J) (Q : am_Q), AW d 217 6 [.ref 160, .int (nI r), .int (nI R), .int (nI A), .int (nI (R - sumN (fun j => if K j = r then W j * R / A else 0) i)), .int (nI i)] [] (am_ur σ 216 w) ρ g τ Q = AW d 217 71 [.ref 160, .int (nI r), .int (nI R), .int (nI A), .int (nI (R - sumN (fun j => if K j = r then W j * R / A else 0) D)), .int (nI D)] [] (am_ur σ 216 w') ρ g τ Q
  | 0, i, w, h, hw => by
    have e : i = D := by omega
    subst e
    refine ⟨w, fun j hj => ?_, fun d g Q => ?_⟩
    · rw [hw j hj]
      congr 1
      dsimp only
      by_cases q : K j = r
      · rw [if_pos ⟨hj, q⟩, if_pos q]
      · rw [if_neg (fun h => q h.2), if_neg q]
    · have hle : nI i ≤ nI i := Int32.le_refl _
      have k2 : am_inb 2 9 = true := by decide
      have e0 : am_ur σ 216 w 161 2 = nI i := by rw [ur_ne _ _ _ (by decide)]; exact hK.2.2.2.2
      simp only [s217_6, s217_8, s217_9, s217_12, s217_13, s217_14, k_160 hS, k_161 hS, l_161 hS, k_162 hS, l_162 hS, k_163 hS, l_163 hS, k_164 hS, l_164 hS, k_165 hS, l_165 hS, k_166 hS, l_166 hS, k_167 hS, l_167 hS, k_168 hS, l_168 hS, k_169 hS, l_169 hS, k_170 hS, l_170 hS, k_171 hS, l_171 hS, k_172 hS, l_172 hS, k_173 hS, l_173 hS, k_174 hS, l_174 hS, k_175 hS, l_175 hS, k_176 hS, l_176 hS, k_177 hS, l_177 hS, k_178 hS, l_178 hS, k_179 hS, l_179 hS, k_180 hS, l_180 hS, k_181 hS, l_181 hS, k_182 hS, l_182 hS, k_183 hS, l_183 hS, k_184 hS, l_184 hS, k_185 hS, l_185 hS, k_186 hS, l_186 hS, k_187 hS, l_187 hS, k_188 hS, l_188 hS, k_189 hS, l_189 hS, k_190 hS, l_190 hS, k_191 hS, l_191 hS, k_192 hS, l_192 hS, k_193 hS, l_193 hS, k_194 hS, l_194 hS, k_195 hS, l_195 hS, k_196 hS, l_196 hS, k_197 hS, l_197 hS, k_198 hS, l_198 hS, k_199 hS, l_199 hS, k_200 hS, l_200 hS, k_201 hS, l_201 hS, k_202 hS, l_202 hS, k_203 hS, l_203 hS, k_204 hS, l_204 hS, k_205 hS, l_205 hS, k_206 hS, l_206 hS, k_207 hS, l_207 hS, k_208 hS, l_208 hS, k_209 hS, l_209 hS, k_210 hS, l_210 hS, k_211 hS, l_211 hS, k_212 hS, l_212 hS, k_213 hS, l_213 hS, k_214 hS, l_214 hS, k_215 hS, l_215 hS, k_216 hS, l_216 hS, k_217 hS, l_217 hS, k_218 hS, l_218 hS, k_219 hS, l_219 hS, k_220 hS, l_220 hS, r_160_0 hS, r_160_1 hS, r_160_2 hS, r_160_3 hS, r_160_4 hS, r_160_5 hS, r_160_6 hS, r_160_7 hS, r_160_8 hS, r_160_9 hS, r_160_10 hS, r_160_11 hS, r_160_12 hS, r_160_13 hS, r_160_14 hS, r_160_15 hS, r_160_16 hS, r_160_17 hS, r_160_18 hS, r_160_19 hS, r_160_20 hS, r_160_21 hS, r_160_22 hS, r_160_23 hS, r_160_24 hS, r_160_25 hS, r_160_26 hS, r_160_27 hS, r_160_28 hS, r_160_29 hS, r_160_30 hS, r_160_31 hS, r_160_32 hS, r_160_33 hS, r_160_34 hS, r_160_35 hS, r_160_36 hS, r_160_37 hS, r_160_38 hS, r_160_39 hS, r_160_40 hS, r_160_41 hS, r_160_43 hS, r_160_45 hS, r_160_46 hS, r_160_48 hS, r_160_49 hS, r_160_50 hS, r_160_51 hS, r_160_52 hS, r_160_53 hS, r_160_54 hS, r_160_56 hS, r_160_63 hS, r_160_64 hS, r_160_65 hS, r_160_66 hS, r_160_67 hS, r_160_68 hS, r_160_69 hS, ol_s, ol_n, ln_0, ln_1, ln_2, ln_3, ln_4, eq_self, rf_s, rf_n, i01_0, i01_n0, i01_b, b01_0, b01_1, and_self, and_true, true_and, and_false, false_and, if_true, if_false, not_true_eq_false, not_false_eq_true, e10, e00, lt_bg, Nat.reduceLT, Nat.reduceLeDiff, k2, z2, e0, hle]
  | n + 1, i, w, h, hw => by
    have hD := hK.2.2.2.1
    have hlt : ¬ nI D ≤ nI i := nI_ge (by omega) (by omega)
    have k2 : am_inb 2 9 = true := by decide
    have e0 : am_ur σ 216 w 161 2 = nI D := by rw [ur_ne _ _ _ (by decide)]; exact hK.2.2.2.2
    have hi : am_inb (nI i) 16 = true := inb_n (by omega) (by decide)
    have hc : (nI i).toNatClampNeg = i := nI_clamp (by omega)
    obtain ⟨w1, w2⟩ := hK.2.1 i (by omega)
    have e2 : am_ur σ 216 w 215 i = nI (W i) := by rw [ur_ne _ _ _ (by decide)]; exact w2
    have up : sumN (fun j => if K j = r then W j * R / A else 0) (i + 1) = sumN (fun j => if K j = r then W j * R / A else 0) i + (if K i = r then W i * R / A else 0) := rfl
    have mono := sumN_mono (f := fun j => if K j = r then W j * R / A else 0) D (i + 1) (by omega)
    by_cases z : K i = r
    · have e1 : am_ur σ 216 w 217 i = nI r := by rw [ur_ne _ _ _ (by decide)]; exact (hK.rk hr (by omega)).mpr z
      have hm : W i * R ≤ 10998 * 15984 := Nat.mul_le_mul w1 hR
      have dv := ldiv_n (a := W i) (b := R) (A := A) (by omega) (by omega) (by omega) hA hA2
      have hw' : RGD (fun j => if j = i then nI (W i * R / A) else w j) (fun j => if j < i + 1 ∧ K j = r then W j * R / A else G j) D := by
        intro j hj
        rw [hw.upd i (W i * R / A) j hj]
        congr 1
        dsimp only [updN]
        by_cases e : j = i
        · subst e
          rw [if_pos rfl, if_pos ⟨by omega, z⟩]
        · rw [if_neg e]
          by_cases y : j < i ∧ K j = r
          · rw [if_pos y, if_pos ⟨by omega, y.2⟩]
          · rw [if_neg y, if_neg (fun y2 => y ⟨by omega, y2.2⟩)]
      obtain ⟨w', P1, P2⟩ := c217a hS hK hr hR hA hA2 hs n (i + 1) _ (by omega) hw'
      refine ⟨w', P1, fun d g Q => ?_⟩
      have P2 := P2 d g Q
      rw [up, if_pos z] at P2 mono
      have at1 : ∀ (v : Int32), am_ur σ 216 (fun j => if j = i then v else w j) 216 i = v := fun v => by rw [ur_at]; exact if_pos rfl
      have sb : nI (R - sumN (fun j => if K j = r then W j * R / A else 0) i) - nI (W i * R / A) = nI (R - (sumN (fun j => if K j = r then W j * R / A else 0) i + W i * R / A)) := by
        rw [pk_sub (by omega)]
        congr 1
        omega
      rw [s217_6]
      simp only [s217_8, s217_9, s217_12, s217_13, s217_14, s217_17, s217_18, s217_21, s217_23, s217_24, s217_25, s217_28, s217_31, s217_32, s217_35, s217_37, s217_38, s217_41, s217_43, s217_44, s217_45, s217_46, s217_47, s217_48, s217_49, s217_50, s217_51, s217_52, s217_53, s217_55, s217_56, s217_59, s217_61, s217_62, s217_63, s217_65, s217_68, k_160 hS, k_161 hS, l_161 hS, k_162 hS, l_162 hS, k_163 hS, l_163 hS, k_164 hS, l_164 hS, k_165 hS, l_165 hS, k_166 hS, l_166 hS, k_167 hS, l_167 hS, k_168 hS, l_168 hS, k_169 hS, l_169 hS, k_170 hS, l_170 hS, k_171 hS, l_171 hS, k_172 hS, l_172 hS, k_173 hS, l_173 hS, k_174 hS, l_174 hS, k_175 hS, l_175 hS, k_176 hS, l_176 hS, k_177 hS, l_177 hS, k_178 hS, l_178 hS, k_179 hS, l_179 hS, k_180 hS, l_180 hS, k_181 hS, l_181 hS, k_182 hS, l_182 hS, k_183 hS, l_183 hS, k_184 hS, l_184 hS, k_185 hS, l_185 hS, k_186 hS, l_186 hS, k_187 hS, l_187 hS, k_188 hS, l_188 hS, k_189 hS, l_189 hS, k_190 hS, l_190 hS, k_191 hS, l_191 hS, k_192 hS, l_192 hS, k_193 hS, l_193 hS, k_194 hS, l_194 hS, k_195 hS, l_195 hS, k_196 hS, l_196 hS, k_197 hS, l_197 hS, k_198 hS, l_198 hS, k_199 hS, l_199 hS, k_200 hS, l_200 hS, k_201 hS, l_201 hS, k_202 hS, l_202 hS, k_203 hS, l_203 hS, k_204 hS, l_204 hS, k_205 hS, l_205 hS, k_206 hS, l_206 hS, k_207 hS, l_207 hS, k_208 hS, l_208 hS, k_209 hS, l_209 hS, k_210 hS, l_210 hS, k_211 hS, l_211 hS, k_212 hS, l_212 hS, k_213 hS, l_213 hS, k_214 hS, l_214 hS, k_215 hS, l_215 hS, k_216 hS, l_216 hS, k_217 hS, l_217 hS, k_218 hS, l_218 hS, k_219 hS, l_219 hS, k_220 hS, l_220 hS, r_160_0 hS, r_160_1 hS, r_160_2 hS, r_160_3 hS, r_160_4 hS, r_160_5 hS, r_160_6 hS, r_160_7 hS, r_160_8 hS, r_160_9 hS, r_160_10 hS, r_160_11 hS, r_160_12 hS, r_160_13 hS, r_160_14 hS, r_160_15 hS, r_160_16 hS, r_160_17 hS, r_160_18 hS, r_160_19 hS, r_160_20 hS, r_160_21 hS, r_160_22 hS, r_160_23 hS, r_160_24 hS, r_160_25 hS, r_160_26 hS, r_160_27 hS, r_160_28 hS, r_160_29 hS, r_160_30 hS, r_160_31 hS, r_160_32 hS, r_160_33 hS, r_160_34 hS, r_160_35 hS, r_160_36 hS, r_160_37 hS, r_160_38 hS, r_160_39 hS, r_160_40 hS, r_160_41 hS, r_160_43 hS, r_160_45 hS, r_160_46 hS, r_160_48 hS, r_160_49 hS, r_160_50 hS, r_160_51 hS, r_160_52 hS, r_160_53 hS, r_160_54 hS, r_160_56 hS, r_160_63 hS, r_160_64 hS, r_160_65 hS, r_160_66 hS, r_160_67 hS, r_160_68 hS, r_160_69 hS, ol_s, ol_n, ln_0, ln_1, ln_2, ln_3, ln_4, eq_self, rf_s, rf_n, i01_0, i01_n0, i01_b, b01_0, b01_1, and_self, and_true, true_and, and_false, false_and, if_true, if_false, not_true_eq_false, not_false_eq_true, e10, e00, lt_bg, Nat.reduceLT, Nat.reduceLeDiff, k2, z2, e0, hlt, hi, hc, e1, e2, l0_n hA hA2, dv, u_ur, at1, sb, nI_1]
      exact P2
    · have e1 : ¬ am_ur σ 216 w 217 i = nI r := by rw [ur_ne _ _ _ (by decide)]; exact fun q => z ((hK.rk hr (by omega)).mp q)
      have hw' : RGD w (fun j => if j < i + 1 ∧ K j = r then W j * R / A else G j) D := by
        intro j hj
        rw [hw j hj]
        congr 1
        dsimp only
        by_cases e : j = i
        · subst e
          rw [if_neg (fun y => z y.2), if_neg (fun y => z y.2)]
        · by_cases y : j < i ∧ K j = r
          · rw [if_pos y, if_pos ⟨by omega, y.2⟩]
          · rw [if_neg y, if_neg (fun y2 => y ⟨by omega, y2.2⟩)]
      obtain ⟨w', P1, P2⟩ := c217a hS hK hr hR hA hA2 hs n (i + 1) w (by omega) hw'
      refine ⟨w', P1, fun d g Q => ?_⟩
      have P2 := P2 d g Q
      rw [up, if_neg z, Nat.add_zero] at P2
      rw [s217_6]
      simp only [s217_8, s217_9, s217_12, s217_13, s217_14, s217_17, s217_18, s217_21, s217_23, s217_24, s217_25, s217_28, s217_31, s217_32, s217_35, s217_37, s217_38, s217_41, s217_43, s217_44, s217_45, s217_46, s217_47, s217_48, s217_49, s217_50, s217_51, s217_52, s217_53, s217_55, s217_56, s217_59, s217_61, s217_62, s217_63, s217_65, s217_68, k_160 hS, k_161 hS, l_161 hS, k_162 hS, l_162 hS, k_163 hS, l_163 hS, k_164 hS, l_164 hS, k_165 hS, l_165 hS, k_166 hS, l_166 hS, k_167 hS, l_167 hS, k_168 hS, l_168 hS, k_169 hS, l_169 hS, k_170 hS, l_170 hS, k_171 hS, l_171 hS, k_172 hS, l_172 hS, k_173 hS, l_173 hS, k_174 hS, l_174 hS, k_175 hS, l_175 hS, k_176 hS, l_176 hS, k_177 hS, l_177 hS, k_178 hS, l_178 hS, k_179 hS, l_179 hS, k_180 hS, l_180 hS, k_181 hS, l_181 hS, k_182 hS, l_182 hS, k_183 hS, l_183 hS, k_184 hS, l_184 hS, k_185 hS, l_185 hS, k_186 hS, l_186 hS, k_187 hS, l_187 hS, k_188 hS, l_188 hS, k_189 hS, l_189 hS, k_190 hS, l_190 hS, k_191 hS, l_191 hS, k_192 hS, l_192 hS, k_193 hS, l_193 hS, k_194 hS, l_194 hS, k_195 hS, l_195 hS, k_196 hS, l_196 hS, k_197 hS, l_197 hS, k_198 hS, l_198 hS, k_199 hS, l_199 hS, k_200 hS, l_200 hS, k_201 hS, l_201 hS, k_202 hS, l_202 hS, k_203 hS, l_203 hS, k_204 hS, l_204 hS, k_205 hS, l_205 hS, k_206 hS, l_206 hS, k_207 hS, l_207 hS, k_208 hS, l_208 hS, k_209 hS, l_209 hS, k_210 hS, l_210 hS, k_211 hS, l_211 hS, k_212 hS, l_212 hS, k_213 hS, l_213 hS, k_214 hS, l_214 hS, k_215 hS, l_215 hS, k_216 hS, l_216 hS, k_217 hS, l_217 hS, k_218 hS, l_218 hS, k_219 hS, l_219 hS, k_220 hS, l_220 hS, r_160_0 hS, r_160_1 hS, r_160_2 hS, r_160_3 hS, r_160_4 hS, r_160_5 hS, r_160_6 hS, r_160_7 hS, r_160_8 hS, r_160_9 hS, r_160_10 hS, r_160_11 hS, r_160_12 hS, r_160_13 hS, r_160_14 hS, r_160_15 hS, r_160_16 hS, r_160_17 hS, r_160_18 hS, r_160_19 hS, r_160_20 hS, r_160_21 hS, r_160_22 hS, r_160_23 hS, r_160_24 hS, r_160_25 hS, r_160_26 hS, r_160_27 hS, r_160_28 hS, r_160_29 hS, r_160_30 hS, r_160_31 hS, r_160_32 hS, r_160_33 hS, r_160_34 hS, r_160_35 hS, r_160_36 hS, r_160_37 hS, r_160_38 hS, r_160_39 hS, r_160_40 hS, r_160_41 hS, r_160_43 hS, r_160_45 hS, r_160_46 hS, r_160_48 hS, r_160_49 hS, r_160_50 hS, r_160_51 hS, r_160_52 hS, r_160_53 hS, r_160_54 hS, r_160_56 hS, r_160_63 hS, r_160_64 hS, r_160_65 hS, r_160_66 hS, r_160_67 hS, r_160_68 hS, r_160_69 hS, ol_s, ol_n, ln_0, ln_1, ln_2, ln_3, ln_4, eq_self, rf_s, rf_n, i01_0, i01_n0, i01_b, b01_0, b01_1, and_self, and_true, true_and, and_false, false_and, if_true, if_false, not_true_eq_false, not_false_eq_true, e10, e00, lt_bg, Nat.reduceLT, Nat.reduceLeDiff, k2, z2, e0, hlt, hi, hc, e1, nI_1]
      exact P2
theorem c217b (hS : Sh ρ τ) {W K : Nat → Nat} {D : Nat} (hK : KM σ W K D) {r R A : Nat} (hr : r ≤ 9) (hR : R ≤ 15984) : ∀ (n i m : Nat) (G : Nat → Nat) (w : Nat → Int32), i + n = D → m ≤ R → RGD w G D → (∀ j, j < D → G j ≤ 10998) → ∃ w', RGD w' (shTp W K r n i m G).2 D ∧ ∀ (d : Nat) (g : am_J) (Q : am_Q), AW d 217 79 [.ref 160, .int (nI r), .int (nI R), .int (nI A), .int (nI m), .int (nI i)] [] (am_ur σ 216 w) ρ g τ Q = AW d 217 143 [.ref 160, .int (nI r), .int (nI R), .int (nI A), .int (nI (shTp W K r n i m G).1), .int (nI D)] [] (am_ur σ 216 w') ρ g τ Q
  | 0, i, m, G, w, h, hm, hw, hG => by
    have e : i = D := by omega
    subst e
    refine ⟨w, hw, fun d g Q => ?_⟩
    have hle : nI i ≤ nI i := Int32.le_refl _
    have k2 : am_inb 2 9 = true := by decide
    have e0 : am_ur σ 216 w 161 2 = nI i := by rw [ur_ne _ _ _ (by decide)]; exact hK.2.2.2.2
    simp only [s217_79, s217_81, s217_82, s217_85, s217_86, s217_87, k_160 hS, k_161 hS, l_161 hS, k_162 hS, l_162 hS, k_163 hS, l_163 hS, k_164 hS, l_164 hS, k_165 hS, l_165 hS, k_166 hS, l_166 hS, k_167 hS, l_167 hS, k_168 hS, l_168 hS, k_169 hS, l_169 hS, k_170 hS, l_170 hS, k_171 hS, l_171 hS, k_172 hS, l_172 hS, k_173 hS, l_173 hS, k_174 hS, l_174 hS, k_175 hS, l_175 hS, k_176 hS, l_176 hS, k_177 hS, l_177 hS, k_178 hS, l_178 hS, k_179 hS, l_179 hS, k_180 hS, l_180 hS, k_181 hS, l_181 hS, k_182 hS, l_182 hS, k_183 hS, l_183 hS, k_184 hS, l_184 hS, k_185 hS, l_185 hS, k_186 hS, l_186 hS, k_187 hS, l_187 hS, k_188 hS, l_188 hS, k_189 hS, l_189 hS, k_190 hS, l_190 hS, k_191 hS, l_191 hS, k_192 hS, l_192 hS, k_193 hS, l_193 hS, k_194 hS, l_194 hS, k_195 hS, l_195 hS, k_196 hS, l_196 hS, k_197 hS, l_197 hS, k_198 hS, l_198 hS, k_199 hS, l_199 hS, k_200 hS, l_200 hS, k_201 hS, l_201 hS, k_202 hS, l_202 hS, k_203 hS, l_203 hS, k_204 hS, l_204 hS, k_205 hS, l_205 hS, k_206 hS, l_206 hS, k_207 hS, l_207 hS, k_208 hS, l_208 hS, k_209 hS, l_209 hS, k_210 hS, l_210 hS, k_211 hS, l_211 hS, k_212 hS, l_212 hS, k_213 hS, l_213 hS, k_214 hS, l_214 hS, k_215 hS, l_215 hS, k_216 hS, l_216 hS, k_217 hS, l_217 hS, k_218 hS, l_218 hS, k_219 hS, l_219 hS, k_220 hS, l_220 hS, r_160_0 hS, r_160_1 hS, r_160_2 hS, r_160_3 hS, r_160_4 hS, r_160_5 hS, r_160_6 hS, r_160_7 hS, r_160_8 hS, r_160_9 hS, r_160_10 hS, r_160_11 hS, r_160_12 hS, r_160_13 hS, r_160_14 hS, r_160_15 hS, r_160_16 hS, r_160_17 hS, r_160_18 hS, r_160_19 hS, r_160_20 hS, r_160_21 hS, r_160_22 hS, r_160_23 hS, r_160_24 hS, r_160_25 hS, r_160_26 hS, r_160_27 hS, r_160_28 hS, r_160_29 hS, r_160_30 hS, r_160_31 hS, r_160_32 hS, r_160_33 hS, r_160_34 hS, r_160_35 hS, r_160_36 hS, r_160_37 hS, r_160_38 hS, r_160_39 hS, r_160_40 hS, r_160_41 hS, r_160_43 hS, r_160_45 hS, r_160_46 hS, r_160_48 hS, r_160_49 hS, r_160_50 hS, r_160_51 hS, r_160_52 hS, r_160_53 hS, r_160_54 hS, r_160_56 hS, r_160_63 hS, r_160_64 hS, r_160_65 hS, r_160_66 hS, r_160_67 hS, r_160_68 hS, r_160_69 hS, ol_s, ol_n, ln_0, ln_1, ln_2, ln_3, ln_4, eq_self, rf_s, rf_n, i01_0, i01_n0, i01_b, b01_0, b01_1, and_self, and_true, true_and, and_false, false_and, if_true, if_false, not_true_eq_false, not_false_eq_true, e10, e00, lt_bg, Nat.reduceLT, Nat.reduceLeDiff, k2, z2, e0, hle, shTp]
  | n + 1, i, m, G, w, h, hm, hw, hG => by
    have hD := hK.2.2.2.1
    have hlt : ¬ nI D ≤ nI i := nI_ge (by omega) (by omega)
    have k2 : am_inb 2 9 = true := by decide
    have e0 : am_ur σ 216 w 161 2 = nI D := by rw [ur_ne _ _ _ (by decide)]; exact hK.2.2.2.2
    have hi : am_inb (nI i) 16 = true := inb_n (by omega) (by decide)
    have hc : (nI i).toNatClampNeg = i := nI_clamp (by omega)
    obtain ⟨w1, w2⟩ := hK.2.1 i (by omega)
    have g1 := hG i (by omega)
    have e2 : am_ur σ 216 w 215 i = nI (W i) := by rw [ur_ne _ _ _ (by decide)]; exact w2
    have e3 : am_ur σ 216 w 216 i = nI (G i) := by rw [ur_at]; exact hw i (by omega)
    unfold shTp
    by_cases z : K i = r ∧ 0 < m ∧ G i < W i
    · rw [if_pos z]
      have e1 : am_ur σ 216 w 217 i = nI r := by rw [ur_ne _ _ _ (by decide)]; exact (hK.rk hr (by omega)).mpr z.1
      have z2' : ¬ nI m ≤ 0 := nI_nle z.2.1 (by omega)
      have z3 : ¬ nI (W i) ≤ nI (G i) := nI_ge (by omega) (by omega)
      obtain ⟨m', rfl⟩ : ∃ m', m = m' + 1 := ⟨m - 1, by omega⟩
      have e5 : nI (m' + 1) + -1 = nI m' := pk_m1 m'
      obtain ⟨w', P1, P2⟩ := c217b hS hK hr hR (A := A) n (i + 1) m' _ _ (by omega) (by omega) (hw.upd i (G i + 1)) (fun j hj => by
        unfold updN
        split
        · omega
        · exact hG j hj)
      refine ⟨w', P1, fun d g Q => ?_⟩
      have P2 := P2 d g Q
      rw [s217_79]
      simp only [s217_81, s217_82, s217_85, s217_86, s217_87, s217_90, s217_92, s217_95, s217_96, s217_99, s217_101, s217_102, s217_103, s217_106, s217_107, s217_110, s217_112, s217_113, s217_114, s217_117, s217_119, s217_120, s217_123, s217_124, s217_127, s217_129, s217_130, s217_131, s217_132, s217_133, s217_134, s217_137, s217_140, k_160 hS, k_161 hS, l_161 hS, k_162 hS, l_162 hS, k_163 hS, l_163 hS, k_164 hS, l_164 hS, k_165 hS, l_165 hS, k_166 hS, l_166 hS, k_167 hS, l_167 hS, k_168 hS, l_168 hS, k_169 hS, l_169 hS, k_170 hS, l_170 hS, k_171 hS, l_171 hS, k_172 hS, l_172 hS, k_173 hS, l_173 hS, k_174 hS, l_174 hS, k_175 hS, l_175 hS, k_176 hS, l_176 hS, k_177 hS, l_177 hS, k_178 hS, l_178 hS, k_179 hS, l_179 hS, k_180 hS, l_180 hS, k_181 hS, l_181 hS, k_182 hS, l_182 hS, k_183 hS, l_183 hS, k_184 hS, l_184 hS, k_185 hS, l_185 hS, k_186 hS, l_186 hS, k_187 hS, l_187 hS, k_188 hS, l_188 hS, k_189 hS, l_189 hS, k_190 hS, l_190 hS, k_191 hS, l_191 hS, k_192 hS, l_192 hS, k_193 hS, l_193 hS, k_194 hS, l_194 hS, k_195 hS, l_195 hS, k_196 hS, l_196 hS, k_197 hS, l_197 hS, k_198 hS, l_198 hS, k_199 hS, l_199 hS, k_200 hS, l_200 hS, k_201 hS, l_201 hS, k_202 hS, l_202 hS, k_203 hS, l_203 hS, k_204 hS, l_204 hS, k_205 hS, l_205 hS, k_206 hS, l_206 hS, k_207 hS, l_207 hS, k_208 hS, l_208 hS, k_209 hS, l_209 hS, k_210 hS, l_210 hS, k_211 hS, l_211 hS, k_212 hS, l_212 hS, k_213 hS, l_213 hS, k_214 hS, l_214 hS, k_215 hS, l_215 hS, k_216 hS, l_216 hS, k_217 hS, l_217 hS, k_218 hS, l_218 hS, k_219 hS, l_219 hS, k_220 hS, l_220 hS, r_160_0 hS, r_160_1 hS, r_160_2 hS, r_160_3 hS, r_160_4 hS, r_160_5 hS, r_160_6 hS, r_160_7 hS, r_160_8 hS, r_160_9 hS, r_160_10 hS, r_160_11 hS, r_160_12 hS, r_160_13 hS, r_160_14 hS, r_160_15 hS, r_160_16 hS, r_160_17 hS, r_160_18 hS, r_160_19 hS, r_160_20 hS, r_160_21 hS, r_160_22 hS, r_160_23 hS, r_160_24 hS, r_160_25 hS, r_160_26 hS, r_160_27 hS, r_160_28 hS, r_160_29 hS, r_160_30 hS, r_160_31 hS, r_160_32 hS, r_160_33 hS, r_160_34 hS, r_160_35 hS, r_160_36 hS, r_160_37 hS, r_160_38 hS, r_160_39 hS, r_160_40 hS, r_160_41 hS, r_160_43 hS, r_160_45 hS, r_160_46 hS, r_160_48 hS, r_160_49 hS, r_160_50 hS, r_160_51 hS, r_160_52 hS, r_160_53 hS, r_160_54 hS, r_160_56 hS, r_160_63 hS, r_160_64 hS, r_160_65 hS, r_160_66 hS, r_160_67 hS, r_160_68 hS, r_160_69 hS, ol_s, ol_n, ln_0, ln_1, ln_2, ln_3, ln_4, eq_self, rf_s, rf_n, i01_0, i01_n0, i01_b, b01_0, b01_1, and_self, and_true, true_and, and_false, false_and, if_true, if_false, not_true_eq_false, not_false_eq_true, e10, e00, lt_bg, Nat.reduceLT, Nat.reduceLeDiff, k2, z2, e0, hlt, hi, hc, e1, e2, e3, z2', z3, u_ur, nI_1, e5]
      exact P2
    · rw [if_neg z]
      obtain ⟨w', P1, P2⟩ := c217b hS hK hr hR (A := A) n (i + 1) m G w (by omega) hm hw hG
      refine ⟨w', P1, fun d g Q => ?_⟩
      have P2 := P2 d g Q
      rw [s217_79]
      by_cases y1 : 0 < m
      · have z2' : ¬ nI m ≤ 0 := nI_nle y1 (by omega)
        by_cases y0 : K i = r
        · have e1 : am_ur σ 216 w 217 i = nI r := by rw [ur_ne _ _ _ (by decide)]; exact (hK.rk hr (by omega)).mpr y0
          have z3 : nI (W i) ≤ nI (G i) := nI_le (Nat.not_lt.mp (fun q => z ⟨y0, y1, q⟩)) (by omega)
          simp only [s217_81, s217_82, s217_85, s217_86, s217_87, s217_90, s217_92, s217_95, s217_96, s217_99, s217_101, s217_102, s217_103, s217_106, s217_107, s217_110, s217_112, s217_113, s217_114, s217_117, s217_119, s217_120, s217_123, s217_124, s217_127, s217_129, s217_130, s217_131, s217_132, s217_133, s217_134, s217_137, s217_140, k_160 hS, k_161 hS, l_161 hS, k_162 hS, l_162 hS, k_163 hS, l_163 hS, k_164 hS, l_164 hS, k_165 hS, l_165 hS, k_166 hS, l_166 hS, k_167 hS, l_167 hS, k_168 hS, l_168 hS, k_169 hS, l_169 hS, k_170 hS, l_170 hS, k_171 hS, l_171 hS, k_172 hS, l_172 hS, k_173 hS, l_173 hS, k_174 hS, l_174 hS, k_175 hS, l_175 hS, k_176 hS, l_176 hS, k_177 hS, l_177 hS, k_178 hS, l_178 hS, k_179 hS, l_179 hS, k_180 hS, l_180 hS, k_181 hS, l_181 hS, k_182 hS, l_182 hS, k_183 hS, l_183 hS, k_184 hS, l_184 hS, k_185 hS, l_185 hS, k_186 hS, l_186 hS, k_187 hS, l_187 hS, k_188 hS, l_188 hS, k_189 hS, l_189 hS, k_190 hS, l_190 hS, k_191 hS, l_191 hS, k_192 hS, l_192 hS, k_193 hS, l_193 hS, k_194 hS, l_194 hS, k_195 hS, l_195 hS, k_196 hS, l_196 hS, k_197 hS, l_197 hS, k_198 hS, l_198 hS, k_199 hS, l_199 hS, k_200 hS, l_200 hS, k_201 hS, l_201 hS, k_202 hS, l_202 hS, k_203 hS, l_203 hS, k_204 hS, l_204 hS, k_205 hS, l_205 hS, k_206 hS, l_206 hS, k_207 hS, l_207 hS, k_208 hS, l_208 hS, k_209 hS, l_209 hS, k_210 hS, l_210 hS, k_211 hS, l_211 hS, k_212 hS, l_212 hS, k_213 hS, l_213 hS, k_214 hS, l_214 hS, k_215 hS, l_215 hS, k_216 hS, l_216 hS, k_217 hS, l_217 hS, k_218 hS, l_218 hS, k_219 hS, l_219 hS, k_220 hS, l_220 hS, r_160_0 hS, r_160_1 hS, r_160_2 hS, r_160_3 hS, r_160_4 hS, r_160_5 hS, r_160_6 hS, r_160_7 hS, r_160_8 hS, r_160_9 hS, r_160_10 hS, r_160_11 hS, r_160_12 hS, r_160_13 hS, r_160_14 hS, r_160_15 hS, r_160_16 hS, r_160_17 hS, r_160_18 hS, r_160_19 hS, r_160_20 hS, r_160_21 hS, r_160_22 hS, r_160_23 hS, r_160_24 hS, r_160_25 hS, r_160_26 hS, r_160_27 hS, r_160_28 hS, r_160_29 hS, r_160_30 hS, r_160_31 hS, r_160_32 hS, r_160_33 hS, r_160_34 hS, r_160_35 hS, r_160_36 hS, r_160_37 hS, r_160_38 hS, r_160_39 hS, r_160_40 hS, r_160_41 hS, r_160_43 hS, r_160_45 hS, r_160_46 hS, r_160_48 hS, r_160_49 hS, r_160_50 hS, r_160_51 hS, r_160_52 hS, r_160_53 hS, r_160_54 hS, r_160_56 hS, r_160_63 hS, r_160_64 hS, r_160_65 hS, r_160_66 hS, r_160_67 hS, r_160_68 hS, r_160_69 hS, ol_s, ol_n, ln_0, ln_1, ln_2, ln_3, ln_4, eq_self, rf_s, rf_n, i01_0, i01_n0, i01_b, b01_0, b01_1, and_self, and_true, true_and, and_false, false_and, if_true, if_false, not_true_eq_false, not_false_eq_true, e10, e00, lt_bg, Nat.reduceLT, Nat.reduceLeDiff, k2, z2, e0, hlt, hi, hc, e1, e2, e3, z2', z3, nI_1]
          exact P2
        · have e1 : ¬ am_ur σ 216 w 217 i = nI r := by rw [ur_ne _ _ _ (by decide)]; exact fun q => y0 ((hK.rk hr (by omega)).mp q)
          simp only [s217_81, s217_82, s217_85, s217_86, s217_87, s217_90, s217_92, s217_95, s217_96, s217_99, s217_101, s217_102, s217_103, s217_106, s217_107, s217_110, s217_112, s217_113, s217_114, s217_117, s217_119, s217_120, s217_123, s217_124, s217_127, s217_129, s217_130, s217_131, s217_132, s217_133, s217_134, s217_137, s217_140, k_160 hS, k_161 hS, l_161 hS, k_162 hS, l_162 hS, k_163 hS, l_163 hS, k_164 hS, l_164 hS, k_165 hS, l_165 hS, k_166 hS, l_166 hS, k_167 hS, l_167 hS, k_168 hS, l_168 hS, k_169 hS, l_169 hS, k_170 hS, l_170 hS, k_171 hS, l_171 hS, k_172 hS, l_172 hS, k_173 hS, l_173 hS, k_174 hS, l_174 hS, k_175 hS, l_175 hS, k_176 hS, l_176 hS, k_177 hS, l_177 hS, k_178 hS, l_178 hS, k_179 hS, l_179 hS, k_180 hS, l_180 hS, k_181 hS, l_181 hS, k_182 hS, l_182 hS, k_183 hS, l_183 hS, k_184 hS, l_184 hS, k_185 hS, l_185 hS, k_186 hS, l_186 hS, k_187 hS, l_187 hS, k_188 hS, l_188 hS, k_189 hS, l_189 hS, k_190 hS, l_190 hS, k_191 hS, l_191 hS, k_192 hS, l_192 hS, k_193 hS, l_193 hS, k_194 hS, l_194 hS, k_195 hS, l_195 hS, k_196 hS, l_196 hS, k_197 hS, l_197 hS, k_198 hS, l_198 hS, k_199 hS, l_199 hS, k_200 hS, l_200 hS, k_201 hS, l_201 hS, k_202 hS, l_202 hS, k_203 hS, l_203 hS, k_204 hS, l_204 hS, k_205 hS, l_205 hS, k_206 hS, l_206 hS, k_207 hS, l_207 hS, k_208 hS, l_208 hS, k_209 hS, l_209 hS, k_210 hS, l_210 hS, k_211 hS, l_211 hS, k_212 hS, l_212 hS, k_213 hS, l_213 hS, k_214 hS, l_214 hS, k_215 hS, l_215 hS, k_216 hS, l_216 hS, k_217 hS, l_217 hS, k_218 hS, l_218 hS, k_219 hS, l_219 hS, k_220 hS, l_220 hS, r_160_0 hS, r_160_1 hS, r_160_2 hS, r_160_3 hS, r_160_4 hS, r_160_5 hS, r_160_6 hS, r_160_7 hS, r_160_8 hS, r_160_9 hS, r_160_10 hS, r_160_11 hS, r_160_12 hS, r_160_13 hS, r_160_14 hS, r_160_15 hS, r_160_16 hS, r_160_17 hS, r_160_18 hS, r_160_19 hS, r_160_20 hS, r_160_21 hS, r_160_22 hS, r_160_23 hS, r_160_24 hS, r_160_25 hS, r_160_26 hS, r_160_27 hS, r_160_28 hS, r_160_29 hS, r_160_30 hS, r_160_31 hS, r_160_32 hS, r_160_33 hS, r_160_34 hS, r_160_35 hS, r_160_36 hS, r_160_37 hS, r_160_38 hS, r_160_39 hS, r_160_40 hS, r_160_41 hS, r_160_43 hS, r_160_45 hS, r_160_46 hS, r_160_48 hS, r_160_49 hS, r_160_50 hS, r_160_51 hS, r_160_52 hS, r_160_53 hS, r_160_54 hS, r_160_56 hS, r_160_63 hS, r_160_64 hS, r_160_65 hS, r_160_66 hS, r_160_67 hS, r_160_68 hS, r_160_69 hS, ol_s, ol_n, ln_0, ln_1, ln_2, ln_3, ln_4, eq_self, rf_s, rf_n, i01_0, i01_n0, i01_b, b01_0, b01_1, and_self, and_true, true_and, and_false, false_and, if_true, if_false, not_true_eq_false, not_false_eq_true, e10, e00, lt_bg, Nat.reduceLT, Nat.reduceLeDiff, k2, z2, e0, hlt, hi, hc, e1, z2', nI_1]
          exact P2
      · have z2' : nI m ≤ 0 := by
          have m0 : m = 0 := by omega
          rw [m0]
          decide
        simp only [s217_81, s217_82, s217_85, s217_86, s217_87, s217_90, s217_92, s217_95, s217_96, s217_99, s217_101, s217_102, s217_103, s217_106, s217_107, s217_110, s217_112, s217_113, s217_114, s217_117, s217_119, s217_120, s217_123, s217_124, s217_127, s217_129, s217_130, s217_131, s217_132, s217_133, s217_134, s217_137, s217_140, k_160 hS, k_161 hS, l_161 hS, k_162 hS, l_162 hS, k_163 hS, l_163 hS, k_164 hS, l_164 hS, k_165 hS, l_165 hS, k_166 hS, l_166 hS, k_167 hS, l_167 hS, k_168 hS, l_168 hS, k_169 hS, l_169 hS, k_170 hS, l_170 hS, k_171 hS, l_171 hS, k_172 hS, l_172 hS, k_173 hS, l_173 hS, k_174 hS, l_174 hS, k_175 hS, l_175 hS, k_176 hS, l_176 hS, k_177 hS, l_177 hS, k_178 hS, l_178 hS, k_179 hS, l_179 hS, k_180 hS, l_180 hS, k_181 hS, l_181 hS, k_182 hS, l_182 hS, k_183 hS, l_183 hS, k_184 hS, l_184 hS, k_185 hS, l_185 hS, k_186 hS, l_186 hS, k_187 hS, l_187 hS, k_188 hS, l_188 hS, k_189 hS, l_189 hS, k_190 hS, l_190 hS, k_191 hS, l_191 hS, k_192 hS, l_192 hS, k_193 hS, l_193 hS, k_194 hS, l_194 hS, k_195 hS, l_195 hS, k_196 hS, l_196 hS, k_197 hS, l_197 hS, k_198 hS, l_198 hS, k_199 hS, l_199 hS, k_200 hS, l_200 hS, k_201 hS, l_201 hS, k_202 hS, l_202 hS, k_203 hS, l_203 hS, k_204 hS, l_204 hS, k_205 hS, l_205 hS, k_206 hS, l_206 hS, k_207 hS, l_207 hS, k_208 hS, l_208 hS, k_209 hS, l_209 hS, k_210 hS, l_210 hS, k_211 hS, l_211 hS, k_212 hS, l_212 hS, k_213 hS, l_213 hS, k_214 hS, l_214 hS, k_215 hS, l_215 hS, k_216 hS, l_216 hS, k_217 hS, l_217 hS, k_218 hS, l_218 hS, k_219 hS, l_219 hS, k_220 hS, l_220 hS, r_160_0 hS, r_160_1 hS, r_160_2 hS, r_160_3 hS, r_160_4 hS, r_160_5 hS, r_160_6 hS, r_160_7 hS, r_160_8 hS, r_160_9 hS, r_160_10 hS, r_160_11 hS, r_160_12 hS, r_160_13 hS, r_160_14 hS, r_160_15 hS, r_160_16 hS, r_160_17 hS, r_160_18 hS, r_160_19 hS, r_160_20 hS, r_160_21 hS, r_160_22 hS, r_160_23 hS, r_160_24 hS, r_160_25 hS, r_160_26 hS, r_160_27 hS, r_160_28 hS, r_160_29 hS, r_160_30 hS, r_160_31 hS, r_160_32 hS, r_160_33 hS, r_160_34 hS, r_160_35 hS, r_160_36 hS, r_160_37 hS, r_160_38 hS, r_160_39 hS, r_160_40 hS, r_160_41 hS, r_160_43 hS, r_160_45 hS, r_160_46 hS, r_160_48 hS, r_160_49 hS, r_160_50 hS, r_160_51 hS, r_160_52 hS, r_160_53 hS, r_160_54 hS, r_160_56 hS, r_160_63 hS, r_160_64 hS, r_160_65 hS, r_160_66 hS, r_160_67 hS, r_160_68 hS, r_160_69 hS, ol_s, ol_n, ln_0, ln_1, ln_2, ln_3, ln_4, eq_self, rf_s, rf_n, i01_0, i01_n0, i01_b, b01_0, b01_1, and_self, and_true, true_and, and_false, false_and, if_true, if_false, not_true_eq_false, not_false_eq_true, e10, e00, lt_bg, Nat.reduceLT, Nat.reduceLeDiff, k2, z2, e0, hlt, z2', nI_1]
        exact P2
end OBF
