/-! read: numbers, what is written; names by their cells -/
section OCW
variable {d : Nat} {σ : am_I} {ρ : am_R} {g : am_J} {τ : am_T} {Q : am_Q}
def rv (b : Nat → Nat) (p : Nat) : Nat → Nat
  | 0 => 0
  | k + 1 => min 10000 (10 * rv b p k + (b (p + k) - 48))
theorem rv_le {b : Nat → Nat} {p : Nat} : ∀ k, rv b p k ≤ 10000
  | 0 => Nat.zero_le _
  | k + 1 => Nat.min_le_left _ _
theorem rv_dg {b : Nat → Nat} {p : Nat} : ∀ k, k ≤ 3 → (∀ t, t < k → isD (b (p + t)) = true) → rv b p k = dg b p k
  | 0, _, _ => rfl
  | k + 1, hk, h => by
    have i := rv_dg (b := b) (p := p) k (by omega) (fun t ht => h t (by omega))
    have l := dg_le (b := b) (p := p) (k + 1) hk h
    have m : (10 : Nat) ^ (k + 1) ≤ 10 ^ 3 := Nat.pow_le_pow_right (by decide) hk
    have u : rv b p (k + 1) = min 10000 (10 * rv b p k + (b (p + k) - 48)) := rfl
    have u2 : dg b p (k + 1) = 10 * dg b p k + (b (p + k) - 48) := rfl
    rw [u, i, ← u2]
    omega
theorem c191L (hS : Sh ρ τ) {b : Nat → Nat} {l p : Nat} (hT : TR b l σ) {m : Int32} : ∀ (n i : Nat), i + n = l → p ≤ i → AW (d + 1) 191 12 [.ref 160, .int m, .int (nI i), .int (nI (rv b p (i - p)))] [] σ ρ g τ Q = AW (d + 1) 191 47 [.ref 160, .int m, .int (nI (rn isD b n i)), .int (nI (rv b p (rn isD b n i - p)))] [] σ ρ g τ Q
  | 0, i, e, _ => by
    have hl := hT.1
    have C := fun (d : Nat) (Q : am_Q) => c188 (d := d) (g := g) (Q := Q) hS hT (k := i) (by omega)
    have w : bI (lk isD b l i) = 0 := bI_f (decide_eq_false (fun z => absurd z.1 (by omega)))
    have u : rn isD b 0 i = i := rfl
    rw [u]
    simp only [s191_12, s191_13, s191_14, s191_17, k_160 hS, k_161 hS, l_161 hS, k_162 hS, l_162 hS, k_163 hS, l_163 hS, k_164 hS, l_164 hS, k_165 hS, l_165 hS, k_166 hS, l_166 hS, k_167 hS, l_167 hS, k_168 hS, l_168 hS, k_169 hS, l_169 hS, k_170 hS, l_170 hS, k_171 hS, l_171 hS, k_172 hS, l_172 hS, k_173 hS, l_173 hS, k_174 hS, l_174 hS, k_175 hS, l_175 hS, k_176 hS, l_176 hS, k_177 hS, l_177 hS, k_178 hS, l_178 hS, k_179 hS, l_179 hS, k_180 hS, l_180 hS, k_181 hS, l_181 hS, k_182 hS, l_182 hS, k_183 hS, l_183 hS, k_184 hS, l_184 hS, k_185 hS, l_185 hS, k_186 hS, l_186 hS, k_187 hS, l_187 hS, k_188 hS, l_188 hS, k_189 hS, l_189 hS, k_190 hS, l_190 hS, k_191 hS, l_191 hS, k_192 hS, l_192 hS, k_193 hS, l_193 hS, k_194 hS, l_194 hS, k_195 hS, l_195 hS, k_196 hS, l_196 hS, k_197 hS, l_197 hS, k_198 hS, l_198 hS, k_199 hS, l_199 hS, k_200 hS, l_200 hS, k_201 hS, l_201 hS, k_202 hS, l_202 hS, k_203 hS, l_203 hS, k_204 hS, l_204 hS, k_205 hS, l_205 hS, k_206 hS, l_206 hS, k_207 hS, l_207 hS, k_208 hS, l_208 hS, k_209 hS, l_209 hS, k_210 hS, l_210 hS, k_211 hS, l_211 hS, k_212 hS, l_212 hS, k_213 hS, l_213 hS, k_214 hS, l_214 hS, k_215 hS, l_215 hS, k_216 hS, l_216 hS, k_217 hS, l_217 hS, k_218 hS, l_218 hS, k_219 hS, l_219 hS, k_220 hS, l_220 hS, r_160_0 hS, r_160_1 hS, r_160_2 hS, r_160_3 hS, r_160_4 hS, r_160_5 hS, r_160_6 hS, r_160_7 hS, r_160_8 hS, r_160_9 hS, r_160_10 hS, r_160_11 hS, r_160_12 hS, r_160_13 hS, r_160_14 hS, r_160_15 hS, r_160_16 hS, r_160_17 hS, r_160_18 hS, r_160_19 hS, r_160_20 hS, r_160_21 hS, r_160_22 hS, r_160_23 hS, r_160_24 hS, r_160_25 hS, r_160_26 hS, r_160_27 hS, r_160_28 hS, r_160_29 hS, r_160_30 hS, r_160_31 hS, r_160_32 hS, r_160_33 hS, r_160_34 hS, r_160_35 hS, r_160_36 hS, r_160_37 hS, r_160_38 hS, r_160_39 hS, r_160_40 hS, r_160_41 hS, r_160_43 hS, r_160_45 hS, r_160_46 hS, r_160_48 hS, r_160_49 hS, r_160_50 hS, r_160_51 hS, r_160_52 hS, r_160_53 hS, r_160_54 hS, r_160_56 hS, r_160_63 hS, r_160_64 hS, r_160_65 hS, r_160_66 hS, r_160_67 hS, r_160_68 hS, r_160_69 hS, ol_s, ol_n, ln_0, ln_1, ln_2, ln_3, ln_4, eq_self, rf_s, rf_n, i01_0, i01_n0, i01_b, b01_0, b01_1, and_self, and_true, true_and, and_false, false_and, if_true, if_false, not_true_eq_false, not_false_eq_true, e10, e00, lt_bg, Nat.reduceLT, Nat.reduceLeDiff, C, w]
  | n + 1, i, e, hp => by
    have hl := hT.1
    have C := fun (d : Nat) (Q : am_Q) => c188 (d := d) (g := g) (Q := Q) hS hT (k := i) (by omega)
    obtain ⟨b1, b2⟩ := hT.2.2 i (by omega)
    have ii : am_inb (nI i) 240 = true := inb_n (by omega) (by decide)
    have ci : (nI i).toNatClampNeg = i := nI_clamp (by omega)
    rw [s191_12]
    by_cases q : isD (b i) = true
    · have w : bI (lk isD b l i) = 1 := bI_t (decide_eq_true ⟨by omega, q⟩)
      have u : rn isD b (n + 1) i = rn isD b n (i + 1) := if_pos q
      have ih := c191L hS (p := p) hT (m := m) n (i + 1) (by omega) (by omega)
      have dd := of_decide_eq_true q
      have rl := rv_le (b := b) (p := p) (i - p)
      have ek : nI 10000 = (10000 : Int32) := by decide
      have a1 : (10 : Int32) * nI (rv b p (i - p)) = nI (10 * rv b p (i - p)) := nI_mulL 10 _
      have a3 : nI (10 * rv b p (i - p) + b i) - 48 = nI (10 * rv b p (i - p) + b i - 48) := pk_sub (b := 48) (by omega)
      have a4 : rv b p (i + 1 - p) = min 10000 (10 * rv b p (i - p) + (b i - 48)) := by
        rw [show i + 1 - p = i - p + 1 by omega]
        show min 10000 (10 * rv b p (i - p) + (b (p + (i - p)) - 48)) = _
        rw [show p + (i - p) = i by omega]
      have mn : (if nI (10 * rv b p (i - p) + b i - 48) < 10000 then nI (10 * rv b p (i - p) + b i - 48) else 10000) = nI (rv b p (i + 1 - p)) := by
        rw [a4, ← ek]
        by_cases z : 10 * rv b p (i - p) + b i - 48 < 10000
        · rw [if_pos (Int32.not_le.mp (nI_ge z (by omega)))]
          congr 1
          omega
        · rw [if_neg (Int32.not_lt.mpr (nI_le (by omega) (by omega)))]
          congr 1
          omega
      rw [u, ← ih]
      simp only [s191_13, s191_14, s191_17, s191_20, s191_23, s191_25, s191_26, s191_27, s191_28, s191_31, s191_32, s191_33, s191_34, s191_36, s191_37, s191_40, s191_41, s191_44, k_160 hS, k_161 hS, l_161 hS, k_162 hS, l_162 hS, k_163 hS, l_163 hS, k_164 hS, l_164 hS, k_165 hS, l_165 hS, k_166 hS, l_166 hS, k_167 hS, l_167 hS, k_168 hS, l_168 hS, k_169 hS, l_169 hS, k_170 hS, l_170 hS, k_171 hS, l_171 hS, k_172 hS, l_172 hS, k_173 hS, l_173 hS, k_174 hS, l_174 hS, k_175 hS, l_175 hS, k_176 hS, l_176 hS, k_177 hS, l_177 hS, k_178 hS, l_178 hS, k_179 hS, l_179 hS, k_180 hS, l_180 hS, k_181 hS, l_181 hS, k_182 hS, l_182 hS, k_183 hS, l_183 hS, k_184 hS, l_184 hS, k_185 hS, l_185 hS, k_186 hS, l_186 hS, k_187 hS, l_187 hS, k_188 hS, l_188 hS, k_189 hS, l_189 hS, k_190 hS, l_190 hS, k_191 hS, l_191 hS, k_192 hS, l_192 hS, k_193 hS, l_193 hS, k_194 hS, l_194 hS, k_195 hS, l_195 hS, k_196 hS, l_196 hS, k_197 hS, l_197 hS, k_198 hS, l_198 hS, k_199 hS, l_199 hS, k_200 hS, l_200 hS, k_201 hS, l_201 hS, k_202 hS, l_202 hS, k_203 hS, l_203 hS, k_204 hS, l_204 hS, k_205 hS, l_205 hS, k_206 hS, l_206 hS, k_207 hS, l_207 hS, k_208 hS, l_208 hS, k_209 hS, l_209 hS, k_210 hS, l_210 hS, k_211 hS, l_211 hS, k_212 hS, l_212 hS, k_213 hS, l_213 hS, k_214 hS, l_214 hS, k_215 hS, l_215 hS, k_216 hS, l_216 hS, k_217 hS, l_217 hS, k_218 hS, l_218 hS, k_219 hS, l_219 hS, k_220 hS, l_220 hS, r_160_0 hS, r_160_1 hS, r_160_2 hS, r_160_3 hS, r_160_4 hS, r_160_5 hS, r_160_6 hS, r_160_7 hS, r_160_8 hS, r_160_9 hS, r_160_10 hS, r_160_11 hS, r_160_12 hS, r_160_13 hS, r_160_14 hS, r_160_15 hS, r_160_16 hS, r_160_17 hS, r_160_18 hS, r_160_19 hS, r_160_20 hS, r_160_21 hS, r_160_22 hS, r_160_23 hS, r_160_24 hS, r_160_25 hS, r_160_26 hS, r_160_27 hS, r_160_28 hS, r_160_29 hS, r_160_30 hS, r_160_31 hS, r_160_32 hS, r_160_33 hS, r_160_34 hS, r_160_35 hS, r_160_36 hS, r_160_37 hS, r_160_38 hS, r_160_39 hS, r_160_40 hS, r_160_41 hS, r_160_43 hS, r_160_45 hS, r_160_46 hS, r_160_48 hS, r_160_49 hS, r_160_50 hS, r_160_51 hS, r_160_52 hS, r_160_53 hS, r_160_54 hS, r_160_56 hS, r_160_63 hS, r_160_64 hS, r_160_65 hS, r_160_66 hS, r_160_67 hS, r_160_68 hS, r_160_69 hS, ol_s, ol_n, ln_0, ln_1, ln_2, ln_3, ln_4, eq_self, rf_s, rf_n, i01_0, i01_n0, i01_b, b01_0, b01_1, and_self, and_true, true_and, and_false, false_and, if_true, if_false, not_true_eq_false, not_false_eq_true, e10, e00, lt_bg, Nat.reduceLT, Nat.reduceLeDiff, C, w, ii, ci, b2, a1, nI_add, a3, mn, nI_1]
    · have w : bI (lk isD b l i) = 0 := bI_f (decide_eq_false (fun z => q z.2))
      have u : rn isD b (n + 1) i = i := if_neg q
      rw [u]
      simp only [s191_13, s191_14, s191_17, k_160 hS, k_161 hS, l_161 hS, k_162 hS, l_162 hS, k_163 hS, l_163 hS, k_164 hS, l_164 hS, k_165 hS, l_165 hS, k_166 hS, l_166 hS, k_167 hS, l_167 hS, k_168 hS, l_168 hS, k_169 hS, l_169 hS, k_170 hS, l_170 hS, k_171 hS, l_171 hS, k_172 hS, l_172 hS, k_173 hS, l_173 hS, k_174 hS, l_174 hS, k_175 hS, l_175 hS, k_176 hS, l_176 hS, k_177 hS, l_177 hS, k_178 hS, l_178 hS, k_179 hS, l_179 hS, k_180 hS, l_180 hS, k_181 hS, l_181 hS, k_182 hS, l_182 hS, k_183 hS, l_183 hS, k_184 hS, l_184 hS, k_185 hS, l_185 hS, k_186 hS, l_186 hS, k_187 hS, l_187 hS, k_188 hS, l_188 hS, k_189 hS, l_189 hS, k_190 hS, l_190 hS, k_191 hS, l_191 hS, k_192 hS, l_192 hS, k_193 hS, l_193 hS, k_194 hS, l_194 hS, k_195 hS, l_195 hS, k_196 hS, l_196 hS, k_197 hS, l_197 hS, k_198 hS, l_198 hS, k_199 hS, l_199 hS, k_200 hS, l_200 hS, k_201 hS, l_201 hS, k_202 hS, l_202 hS, k_203 hS, l_203 hS, k_204 hS, l_204 hS, k_205 hS, l_205 hS, k_206 hS, l_206 hS, k_207 hS, l_207 hS, k_208 hS, l_208 hS, k_209 hS, l_209 hS, k_210 hS, l_210 hS, k_211 hS, l_211 hS, k_212 hS, l_212 hS, k_213 hS, l_213 hS, k_214 hS, l_214 hS, k_215 hS, l_215 hS, k_216 hS, l_216 hS, k_217 hS, l_217 hS, k_218 hS, l_218 hS, k_219 hS, l_219 hS, k_220 hS, l_220 hS, r_160_0 hS, r_160_1 hS, r_160_2 hS, r_160_3 hS, r_160_4 hS, r_160_5 hS, r_160_6 hS, r_160_7 hS, r_160_8 hS, r_160_9 hS, r_160_10 hS, r_160_11 hS, r_160_12 hS, r_160_13 hS, r_160_14 hS, r_160_15 hS, r_160_16 hS, r_160_17 hS, r_160_18 hS, r_160_19 hS, r_160_20 hS, r_160_21 hS, r_160_22 hS, r_160_23 hS, r_160_24 hS, r_160_25 hS, r_160_26 hS, r_160_27 hS, r_160_28 hS, r_160_29 hS, r_160_30 hS, r_160_31 hS, r_160_32 hS, r_160_33 hS, r_160_34 hS, r_160_35 hS, r_160_36 hS, r_160_37 hS, r_160_38 hS, r_160_39 hS, r_160_40 hS, r_160_41 hS, r_160_43 hS, r_160_45 hS, r_160_46 hS, r_160_48 hS, r_160_49 hS, r_160_50 hS, r_160_51 hS, r_160_52 hS, r_160_53 hS, r_160_54 hS, r_160_56 hS, r_160_63 hS, r_160_64 hS, r_160_65 hS, r_160_66 hS, r_160_67 hS, r_160_68 hS, r_160_69 hS, ol_s, ol_n, ln_0, ln_1, ln_2, ln_3, ln_4, eq_self, rf_s, rf_n, i01_0, i01_n0, i01_b, b01_0, b01_1, and_self, and_true, true_and, and_false, false_and, if_true, if_false, not_true_eq_false, not_false_eq_true, e10, e00, lt_bg, Nat.reduceLT, Nat.reduceLeDiff, C, w]
/-- what the reference's number leaves behind -/
def nuS (b : Nat → Nat) (l : Nat) (σ : am_I) (p m : Nat) : am_I := if nu b l p m = true then am_u (am_u σ 160 57 (nI (te b l p))) 160 62 (nI (dg b p (te b l p - p))) else am_u (am_u σ 160 57 (nI p)) 160 58 (nI p)
theorem c191 (hS : Sh ρ τ) {b : Nat → Nat} {l a m : Nat} (hm : m ≤ 999) (hT : TR b l σ) (ha : a ≤ l) (hc : σ 160 57 = nI a) (hf : σ 160 58 = -1) {y : Int32} (hy : y = nI m) : AW (d + 2) 191 0 [.ref 160, .int y, am_jk, am_jk] [] σ ρ g τ Q = Q (some (.int (bI (nu b l (sk b l a) m)))) (nuS b l σ (sk b l a) m) ρ g τ := by
  obtain ⟨_, pl⟩ := sk_b (b := b) ha
  have hl := hT.1
  have C := fun (d : Nat) (Q : am_Q) => c185 (d := d) (g := g) (Q := Q) hS hT ha hc
  have ss := sk_sk (b := b) ha
  subst hy
  generalize sk b l a = p at C pl ss ⊢
  generalize e1 : am_u σ 160 57 (nI p) = s1 at C
  have T1 : TR b l s1 := by rw [← e1]; exact hT.u (by decide)
  have h2 : s1 160 57 = nI p := by rw [← e1, u_at]
  have h3 : s1 160 58 = -1 := by rw [← e1, u_nk _ _ _ _ (by decide)]; exact hf
  have L := c191L (d := d + 1) (g := g) (Q := Q) hS (p := p) T1 (m := nI m) (l - p) p (by omega) (Nat.le_refl _)
  have z0' : nI (rv b p (p - p)) = (0 : Int32) := by rw [Nat.sub_self]; rfl
  rw [z0'] at L
  obtain ⟨g1, g2, g3, g4⟩ := rn_sp (P := isD) (b := b) (l - p) p
  have B := fun (d : Nat) (Q : am_Q) => c186 (d := d) (g := g) (Q := Q) hS T1 pl h2 h3
  rw [ss, u_self h2] at B
  have R0 : AW (d + 2) 191 0 [.ref 160, .int (nI m), am_jk, am_jk] [] σ ρ g τ Q = AW (d + 2) 191 12 [.ref 160, .int (nI m), .int (nI p), .int 0] [] s1 ρ g τ Q := by
    simp only [s191_0, s191_1, s191_4, s191_5, s191_6, s191_9, s191_10, s191_11, k_160 hS, k_161 hS, l_161 hS, k_162 hS, l_162 hS, k_163 hS, l_163 hS, k_164 hS, l_164 hS, k_165 hS, l_165 hS, k_166 hS, l_166 hS, k_167 hS, l_167 hS, k_168 hS, l_168 hS, k_169 hS, l_169 hS, k_170 hS, l_170 hS, k_171 hS, l_171 hS, k_172 hS, l_172 hS, k_173 hS, l_173 hS, k_174 hS, l_174 hS, k_175 hS, l_175 hS, k_176 hS, l_176 hS, k_177 hS, l_177 hS, k_178 hS, l_178 hS, k_179 hS, l_179 hS, k_180 hS, l_180 hS, k_181 hS, l_181 hS, k_182 hS, l_182 hS, k_183 hS, l_183 hS, k_184 hS, l_184 hS, k_185 hS, l_185 hS, k_186 hS, l_186 hS, k_187 hS, l_187 hS, k_188 hS, l_188 hS, k_189 hS, l_189 hS, k_190 hS, l_190 hS, k_191 hS, l_191 hS, k_192 hS, l_192 hS, k_193 hS, l_193 hS, k_194 hS, l_194 hS, k_195 hS, l_195 hS, k_196 hS, l_196 hS, k_197 hS, l_197 hS, k_198 hS, l_198 hS, k_199 hS, l_199 hS, k_200 hS, l_200 hS, k_201 hS, l_201 hS, k_202 hS, l_202 hS, k_203 hS, l_203 hS, k_204 hS, l_204 hS, k_205 hS, l_205 hS, k_206 hS, l_206 hS, k_207 hS, l_207 hS, k_208 hS, l_208 hS, k_209 hS, l_209 hS, k_210 hS, l_210 hS, k_211 hS, l_211 hS, k_212 hS, l_212 hS, k_213 hS, l_213 hS, k_214 hS, l_214 hS, k_215 hS, l_215 hS, k_216 hS, l_216 hS, k_217 hS, l_217 hS, k_218 hS, l_218 hS, k_219 hS, l_219 hS, k_220 hS, l_220 hS, r_160_0 hS, r_160_1 hS, r_160_2 hS, r_160_3 hS, r_160_4 hS, r_160_5 hS, r_160_6 hS, r_160_7 hS, r_160_8 hS, r_160_9 hS, r_160_10 hS, r_160_11 hS, r_160_12 hS, r_160_13 hS, r_160_14 hS, r_160_15 hS, r_160_16 hS, r_160_17 hS, r_160_18 hS, r_160_19 hS, r_160_20 hS, r_160_21 hS, r_160_22 hS, r_160_23 hS, r_160_24 hS, r_160_25 hS, r_160_26 hS, r_160_27 hS, r_160_28 hS, r_160_29 hS, r_160_30 hS, r_160_31 hS, r_160_32 hS, r_160_33 hS, r_160_34 hS, r_160_35 hS, r_160_36 hS, r_160_37 hS, r_160_38 hS, r_160_39 hS, r_160_40 hS, r_160_41 hS, r_160_43 hS, r_160_45 hS, r_160_46 hS, r_160_48 hS, r_160_49 hS, r_160_50 hS, r_160_51 hS, r_160_52 hS, r_160_53 hS, r_160_54 hS, r_160_56 hS, r_160_63 hS, r_160_64 hS, r_160_65 hS, r_160_66 hS, r_160_67 hS, r_160_68 hS, r_160_69 hS, ol_s, ol_n, ln_0, ln_1, ln_2, ln_3, ln_4, eq_self, rf_s, rf_n, i01_0, i01_n0, i01_b, b01_0, b01_1, and_self, and_true, true_and, and_false, false_and, if_true, if_false, not_true_eq_false, not_false_eq_true, e10, e00, lt_bg, Nat.reduceLT, Nat.reduceLeDiff, C, h2]
  rw [R0, L]
  generalize eE : rn isD b (l - p) p = E at g1 g2 g3 g4
  have sb : nI E - nI p = nI (E - p) := pk_sub g1
  have e3 : nI 3 = (3 : Int32) := by decide
  have rl := rv_le (b := b) (p := p) (E - p)
  by_cases q : E = p
  · have nf : nu b l p m = false := decide_eq_false (fun z => by
      have k := z.1
      have t := te_b (b := b) pl
      have t2 := te_2 k
      have t3 := t.2.2 (by omega)
      omega)
    have w := bI_f nf
    have w2 : nuS b l σ p m = am_u s1 160 58 (nI p) := by rw [← e1]; exact if_neg (by rw [nf]; decide)
    have E1 : (nI E = nI p) = True := eq_true (by rw [q])
    rw [w2]
    simp only [s191_47, s191_48, s191_49, s191_52, s191_70, s191_71, s191_74, k_160 hS, k_161 hS, l_161 hS, k_162 hS, l_162 hS, k_163 hS, l_163 hS, k_164 hS, l_164 hS, k_165 hS, l_165 hS, k_166 hS, l_166 hS, k_167 hS, l_167 hS, k_168 hS, l_168 hS, k_169 hS, l_169 hS, k_170 hS, l_170 hS, k_171 hS, l_171 hS, k_172 hS, l_172 hS, k_173 hS, l_173 hS, k_174 hS, l_174 hS, k_175 hS, l_175 hS, k_176 hS, l_176 hS, k_177 hS, l_177 hS, k_178 hS, l_178 hS, k_179 hS, l_179 hS, k_180 hS, l_180 hS, k_181 hS, l_181 hS, k_182 hS, l_182 hS, k_183 hS, l_183 hS, k_184 hS, l_184 hS, k_185 hS, l_185 hS, k_186 hS, l_186 hS, k_187 hS, l_187 hS, k_188 hS, l_188 hS, k_189 hS, l_189 hS, k_190 hS, l_190 hS, k_191 hS, l_191 hS, k_192 hS, l_192 hS, k_193 hS, l_193 hS, k_194 hS, l_194 hS, k_195 hS, l_195 hS, k_196 hS, l_196 hS, k_197 hS, l_197 hS, k_198 hS, l_198 hS, k_199 hS, l_199 hS, k_200 hS, l_200 hS, k_201 hS, l_201 hS, k_202 hS, l_202 hS, k_203 hS, l_203 hS, k_204 hS, l_204 hS, k_205 hS, l_205 hS, k_206 hS, l_206 hS, k_207 hS, l_207 hS, k_208 hS, l_208 hS, k_209 hS, l_209 hS, k_210 hS, l_210 hS, k_211 hS, l_211 hS, k_212 hS, l_212 hS, k_213 hS, l_213 hS, k_214 hS, l_214 hS, k_215 hS, l_215 hS, k_216 hS, l_216 hS, k_217 hS, l_217 hS, k_218 hS, l_218 hS, k_219 hS, l_219 hS, k_220 hS, l_220 hS, r_160_0 hS, r_160_1 hS, r_160_2 hS, r_160_3 hS, r_160_4 hS, r_160_5 hS, r_160_6 hS, r_160_7 hS, r_160_8 hS, r_160_9 hS, r_160_10 hS, r_160_11 hS, r_160_12 hS, r_160_13 hS, r_160_14 hS, r_160_15 hS, r_160_16 hS, r_160_17 hS, r_160_18 hS, r_160_19 hS, r_160_20 hS, r_160_21 hS, r_160_22 hS, r_160_23 hS, r_160_24 hS, r_160_25 hS, r_160_26 hS, r_160_27 hS, r_160_28 hS, r_160_29 hS, r_160_30 hS, r_160_31 hS, r_160_32 hS, r_160_33 hS, r_160_34 hS, r_160_35 hS, r_160_36 hS, r_160_37 hS, r_160_38 hS, r_160_39 hS, r_160_40 hS, r_160_41 hS, r_160_43 hS, r_160_45 hS, r_160_46 hS, r_160_48 hS, r_160_49 hS, r_160_50 hS, r_160_51 hS, r_160_52 hS, r_160_53 hS, r_160_54 hS, r_160_56 hS, r_160_63 hS, r_160_64 hS, r_160_65 hS, r_160_66 hS, r_160_67 hS, r_160_68 hS, r_160_69 hS, ol_s, ol_n, ln_0, ln_1, ln_2, ln_3, ln_4, eq_self, rf_s, rf_n, i01_0, i01_n0, i01_b, b01_0, b01_1, and_self, and_true, true_and, and_false, false_and, if_true, if_false, not_true_eq_false, not_false_eq_true, e10, e00, lt_bg, Nat.reduceLT, Nat.reduceLeDiff, h2, E1, B, w]
  have E1 : ¬ nI E = nI p := nI_nj q (by omega) (by omega)
  have k2 : kd b l p = 2 := by
    have pp := g3 p (Nat.le_refl _) (by omega)
    refine kd_2 (by omega) ?_ pp
    cases z : isL (b p)
    · rfl
    · rw [isL_D z] at pp
      exact absurd pp (by decide)
  have t2 := te_2 k2
  rw [eE] at t2
  by_cases r : E - p ≤ 3
  rotate_left
  · have nf : nu b l p m = false := decide_eq_false (fun z => r (by have := z.2.1; omega))
    have w := bI_f nf
    have w2 : nuS b l σ p m = am_u s1 160 58 (nI p) := by rw [← e1]; exact if_neg (by rw [nf]; decide)
    have E2 : (3 : Int32) < nI (E - p) := by rw [← e3]; exact Int32.not_le.mp (nI_ge (by omega) (by omega))
    rw [w2]
    simp only [s191_47, s191_48, s191_49, s191_52, s191_55, s191_56, s191_57, s191_60, s191_61, s191_62, s191_70, s191_71, s191_74, k_160 hS, k_161 hS, l_161 hS, k_162 hS, l_162 hS, k_163 hS, l_163 hS, k_164 hS, l_164 hS, k_165 hS, l_165 hS, k_166 hS, l_166 hS, k_167 hS, l_167 hS, k_168 hS, l_168 hS, k_169 hS, l_169 hS, k_170 hS, l_170 hS, k_171 hS, l_171 hS, k_172 hS, l_172 hS, k_173 hS, l_173 hS, k_174 hS, l_174 hS, k_175 hS, l_175 hS, k_176 hS, l_176 hS, k_177 hS, l_177 hS, k_178 hS, l_178 hS, k_179 hS, l_179 hS, k_180 hS, l_180 hS, k_181 hS, l_181 hS, k_182 hS, l_182 hS, k_183 hS, l_183 hS, k_184 hS, l_184 hS, k_185 hS, l_185 hS, k_186 hS, l_186 hS, k_187 hS, l_187 hS, k_188 hS, l_188 hS, k_189 hS, l_189 hS, k_190 hS, l_190 hS, k_191 hS, l_191 hS, k_192 hS, l_192 hS, k_193 hS, l_193 hS, k_194 hS, l_194 hS, k_195 hS, l_195 hS, k_196 hS, l_196 hS, k_197 hS, l_197 hS, k_198 hS, l_198 hS, k_199 hS, l_199 hS, k_200 hS, l_200 hS, k_201 hS, l_201 hS, k_202 hS, l_202 hS, k_203 hS, l_203 hS, k_204 hS, l_204 hS, k_205 hS, l_205 hS, k_206 hS, l_206 hS, k_207 hS, l_207 hS, k_208 hS, l_208 hS, k_209 hS, l_209 hS, k_210 hS, l_210 hS, k_211 hS, l_211 hS, k_212 hS, l_212 hS, k_213 hS, l_213 hS, k_214 hS, l_214 hS, k_215 hS, l_215 hS, k_216 hS, l_216 hS, k_217 hS, l_217 hS, k_218 hS, l_218 hS, k_219 hS, l_219 hS, k_220 hS, l_220 hS, r_160_0 hS, r_160_1 hS, r_160_2 hS, r_160_3 hS, r_160_4 hS, r_160_5 hS, r_160_6 hS, r_160_7 hS, r_160_8 hS, r_160_9 hS, r_160_10 hS, r_160_11 hS, r_160_12 hS, r_160_13 hS, r_160_14 hS, r_160_15 hS, r_160_16 hS, r_160_17 hS, r_160_18 hS, r_160_19 hS, r_160_20 hS, r_160_21 hS, r_160_22 hS, r_160_23 hS, r_160_24 hS, r_160_25 hS, r_160_26 hS, r_160_27 hS, r_160_28 hS, r_160_29 hS, r_160_30 hS, r_160_31 hS, r_160_32 hS, r_160_33 hS, r_160_34 hS, r_160_35 hS, r_160_36 hS, r_160_37 hS, r_160_38 hS, r_160_39 hS, r_160_40 hS, r_160_41 hS, r_160_43 hS, r_160_45 hS, r_160_46 hS, r_160_48 hS, r_160_49 hS, r_160_50 hS, r_160_51 hS, r_160_52 hS, r_160_53 hS, r_160_54 hS, r_160_56 hS, r_160_63 hS, r_160_64 hS, r_160_65 hS, r_160_66 hS, r_160_67 hS, r_160_68 hS, r_160_69 hS, ol_s, ol_n, ln_0, ln_1, ln_2, ln_3, ln_4, eq_self, rf_s, rf_n, i01_0, i01_n0, i01_b, b01_0, b01_1, and_self, and_true, true_and, and_false, false_and, if_true, if_false, not_true_eq_false, not_false_eq_true, e10, e00, lt_bg, Nat.reduceLT, Nat.reduceLeDiff, h2, E1, sb, E2, B, w]
  have E2 : ¬ (3 : Int32) < nI (E - p) := by rw [← e3]; exact Int32.not_lt.mpr (nI_le (by omega) (by omega))
  have rd := rv_dg (b := b) (p := p) (E - p) r (fun t ht => g3 _ (by omega) (by omega))
  rw [rd]
  rw [rd] at rl
  by_cases v : dg b p (E - p) ≤ m
  · have nt : nu b l p m = true := decide_eq_true ⟨k2, by omega, by rw [t2]; exact v⟩
    have w := bI_t nt
    have w2 : nuS b l σ p m = am_u (am_u s1 160 57 (nI E)) 160 62 (nI (dg b p (E - p))) := by
      rw [← e1, u_uu, ← t2]
      exact if_pos nt
    have E3 : nI (dg b p (E - p)) ≤ nI m := nI_le v (by omega)
    rw [w2]
    simp only [s191_47, s191_48, s191_49, s191_52, s191_55, s191_56, s191_57, s191_60, s191_61, s191_62, s191_65, s191_66, s191_67, s191_75, s191_76, s191_77, s191_80, s191_81, s191_82, s191_85, s191_86, k_160 hS, k_161 hS, l_161 hS, k_162 hS, l_162 hS, k_163 hS, l_163 hS, k_164 hS, l_164 hS, k_165 hS, l_165 hS, k_166 hS, l_166 hS, k_167 hS, l_167 hS, k_168 hS, l_168 hS, k_169 hS, l_169 hS, k_170 hS, l_170 hS, k_171 hS, l_171 hS, k_172 hS, l_172 hS, k_173 hS, l_173 hS, k_174 hS, l_174 hS, k_175 hS, l_175 hS, k_176 hS, l_176 hS, k_177 hS, l_177 hS, k_178 hS, l_178 hS, k_179 hS, l_179 hS, k_180 hS, l_180 hS, k_181 hS, l_181 hS, k_182 hS, l_182 hS, k_183 hS, l_183 hS, k_184 hS, l_184 hS, k_185 hS, l_185 hS, k_186 hS, l_186 hS, k_187 hS, l_187 hS, k_188 hS, l_188 hS, k_189 hS, l_189 hS, k_190 hS, l_190 hS, k_191 hS, l_191 hS, k_192 hS, l_192 hS, k_193 hS, l_193 hS, k_194 hS, l_194 hS, k_195 hS, l_195 hS, k_196 hS, l_196 hS, k_197 hS, l_197 hS, k_198 hS, l_198 hS, k_199 hS, l_199 hS, k_200 hS, l_200 hS, k_201 hS, l_201 hS, k_202 hS, l_202 hS, k_203 hS, l_203 hS, k_204 hS, l_204 hS, k_205 hS, l_205 hS, k_206 hS, l_206 hS, k_207 hS, l_207 hS, k_208 hS, l_208 hS, k_209 hS, l_209 hS, k_210 hS, l_210 hS, k_211 hS, l_211 hS, k_212 hS, l_212 hS, k_213 hS, l_213 hS, k_214 hS, l_214 hS, k_215 hS, l_215 hS, k_216 hS, l_216 hS, k_217 hS, l_217 hS, k_218 hS, l_218 hS, k_219 hS, l_219 hS, k_220 hS, l_220 hS, r_160_0 hS, r_160_1 hS, r_160_2 hS, r_160_3 hS, r_160_4 hS, r_160_5 hS, r_160_6 hS, r_160_7 hS, r_160_8 hS, r_160_9 hS, r_160_10 hS, r_160_11 hS, r_160_12 hS, r_160_13 hS, r_160_14 hS, r_160_15 hS, r_160_16 hS, r_160_17 hS, r_160_18 hS, r_160_19 hS, r_160_20 hS, r_160_21 hS, r_160_22 hS, r_160_23 hS, r_160_24 hS, r_160_25 hS, r_160_26 hS, r_160_27 hS, r_160_28 hS, r_160_29 hS, r_160_30 hS, r_160_31 hS, r_160_32 hS, r_160_33 hS, r_160_34 hS, r_160_35 hS, r_160_36 hS, r_160_37 hS, r_160_38 hS, r_160_39 hS, r_160_40 hS, r_160_41 hS, r_160_43 hS, r_160_45 hS, r_160_46 hS, r_160_48 hS, r_160_49 hS, r_160_50 hS, r_160_51 hS, r_160_52 hS, r_160_53 hS, r_160_54 hS, r_160_56 hS, r_160_63 hS, r_160_64 hS, r_160_65 hS, r_160_66 hS, r_160_67 hS, r_160_68 hS, r_160_69 hS, ol_s, ol_n, ln_0, ln_1, ln_2, ln_3, ln_4, eq_self, rf_s, rf_n, i01_0, i01_n0, i01_b, b01_0, b01_1, and_self, and_true, true_and, and_false, false_and, if_true, if_false, not_true_eq_false, not_false_eq_true, e10, e00, lt_bg, Nat.reduceLT, Nat.reduceLeDiff, h2, E1, sb, E2, E3, w]
  · have nf : nu b l p m = false := decide_eq_false (fun z => v (by have := z.2.2; rw [t2] at this; exact this))
    have w := bI_f nf
    have w2 : nuS b l σ p m = am_u s1 160 58 (nI p) := by rw [← e1]; exact if_neg (by rw [nf]; decide)
    have E3 : ¬ nI (dg b p (E - p)) ≤ nI m := nI_ge (by omega) (by omega)
    rw [w2]
    simp only [s191_47, s191_48, s191_49, s191_52, s191_55, s191_56, s191_57, s191_60, s191_61, s191_62, s191_65, s191_66, s191_67, s191_70, s191_71, s191_74, k_160 hS, k_161 hS, l_161 hS, k_162 hS, l_162 hS, k_163 hS, l_163 hS, k_164 hS, l_164 hS, k_165 hS, l_165 hS, k_166 hS, l_166 hS, k_167 hS, l_167 hS, k_168 hS, l_168 hS, k_169 hS, l_169 hS, k_170 hS, l_170 hS, k_171 hS, l_171 hS, k_172 hS, l_172 hS, k_173 hS, l_173 hS, k_174 hS, l_174 hS, k_175 hS, l_175 hS, k_176 hS, l_176 hS, k_177 hS, l_177 hS, k_178 hS, l_178 hS, k_179 hS, l_179 hS, k_180 hS, l_180 hS, k_181 hS, l_181 hS, k_182 hS, l_182 hS, k_183 hS, l_183 hS, k_184 hS, l_184 hS, k_185 hS, l_185 hS, k_186 hS, l_186 hS, k_187 hS, l_187 hS, k_188 hS, l_188 hS, k_189 hS, l_189 hS, k_190 hS, l_190 hS, k_191 hS, l_191 hS, k_192 hS, l_192 hS, k_193 hS, l_193 hS, k_194 hS, l_194 hS, k_195 hS, l_195 hS, k_196 hS, l_196 hS, k_197 hS, l_197 hS, k_198 hS, l_198 hS, k_199 hS, l_199 hS, k_200 hS, l_200 hS, k_201 hS, l_201 hS, k_202 hS, l_202 hS, k_203 hS, l_203 hS, k_204 hS, l_204 hS, k_205 hS, l_205 hS, k_206 hS, l_206 hS, k_207 hS, l_207 hS, k_208 hS, l_208 hS, k_209 hS, l_209 hS, k_210 hS, l_210 hS, k_211 hS, l_211 hS, k_212 hS, l_212 hS, k_213 hS, l_213 hS, k_214 hS, l_214 hS, k_215 hS, l_215 hS, k_216 hS, l_216 hS, k_217 hS, l_217 hS, k_218 hS, l_218 hS, k_219 hS, l_219 hS, k_220 hS, l_220 hS, r_160_0 hS, r_160_1 hS, r_160_2 hS, r_160_3 hS, r_160_4 hS, r_160_5 hS, r_160_6 hS, r_160_7 hS, r_160_8 hS, r_160_9 hS, r_160_10 hS, r_160_11 hS, r_160_12 hS, r_160_13 hS, r_160_14 hS, r_160_15 hS, r_160_16 hS, r_160_17 hS, r_160_18 hS, r_160_19 hS, r_160_20 hS, r_160_21 hS, r_160_22 hS, r_160_23 hS, r_160_24 hS, r_160_25 hS, r_160_26 hS, r_160_27 hS, r_160_28 hS, r_160_29 hS, r_160_30 hS, r_160_31 hS, r_160_32 hS, r_160_33 hS, r_160_34 hS, r_160_35 hS, r_160_36 hS, r_160_37 hS, r_160_38 hS, r_160_39 hS, r_160_40 hS, r_160_41 hS, r_160_43 hS, r_160_45 hS, r_160_46 hS, r_160_48 hS, r_160_49 hS, r_160_50 hS, r_160_51 hS, r_160_52 hS, r_160_53 hS, r_160_54 hS, r_160_56 hS, r_160_63 hS, r_160_64 hS, r_160_65 hS, r_160_66 hS, r_160_67 hS, r_160_68 hS, r_160_69 hS, ol_s, ol_n, ln_0, ln_1, ln_2, ln_3, ln_4, eq_self, rf_s, rf_n, i01_0, i01_n0, i01_b, b01_0, b01_1, and_self, and_true, true_and, and_false, false_and, if_true, if_false, not_true_eq_false, not_false_eq_true, e10, e00, lt_bg, Nat.reduceLT, Nat.reduceLeDiff, h2, E1, sb, E2, E3, B, w]
theorem c192 (hS : Sh ρ τ) {ver n : Nat} (hv : ver ≤ 8) (hn : n < 256) (h60 : σ 160 60 = nI ver) (h61 : σ 160 61 = nI n) {v : Int32} : AW d 192 0 [.ref 160, .int v] [] σ ρ g τ Q = Q none (am_u (am_u σ 187 (256 * ver + n) v) 160 61 (nI (n + 1))) ρ g τ := by
  have a1 : (256 : Int32) * nI ver = nI (256 * ver) := nI_mulL 256 _
  have ii : am_inb (nI (256 * ver + n)) 2304 = true := inb_n (by omega) (by decide)
  have ci : (nI (256 * ver + n)).toNatClampNeg = 256 * ver + n := nI_clamp (by omega)
  generalize e1 : am_u σ 187 (256 * ver + n) v = s1
  have h2 : s1 160 61 = nI n := by rw [← e1, u_ne _ _ _ _ (by decide)]; exact h61
  simp only [s192_0, s192_1, s192_4, s192_7, s192_8, s192_11, s192_12, s192_13, s192_16, s192_17, s192_18, s192_19, s192_20, s192_20r, s192_21, s192_24, s192_25, s192_26, s192_29, k_160 hS, k_161 hS, l_161 hS, k_162 hS, l_162 hS, k_163 hS, l_163 hS, k_164 hS, l_164 hS, k_165 hS, l_165 hS, k_166 hS, l_166 hS, k_167 hS, l_167 hS, k_168 hS, l_168 hS, k_169 hS, l_169 hS, k_170 hS, l_170 hS, k_171 hS, l_171 hS, k_172 hS, l_172 hS, k_173 hS, l_173 hS, k_174 hS, l_174 hS, k_175 hS, l_175 hS, k_176 hS, l_176 hS, k_177 hS, l_177 hS, k_178 hS, l_178 hS, k_179 hS, l_179 hS, k_180 hS, l_180 hS, k_181 hS, l_181 hS, k_182 hS, l_182 hS, k_183 hS, l_183 hS, k_184 hS, l_184 hS, k_185 hS, l_185 hS, k_186 hS, l_186 hS, k_187 hS, l_187 hS, k_188 hS, l_188 hS, k_189 hS, l_189 hS, k_190 hS, l_190 hS, k_191 hS, l_191 hS, k_192 hS, l_192 hS, k_193 hS, l_193 hS, k_194 hS, l_194 hS, k_195 hS, l_195 hS, k_196 hS, l_196 hS, k_197 hS, l_197 hS, k_198 hS, l_198 hS, k_199 hS, l_199 hS, k_200 hS, l_200 hS, k_201 hS, l_201 hS, k_202 hS, l_202 hS, k_203 hS, l_203 hS, k_204 hS, l_204 hS, k_205 hS, l_205 hS, k_206 hS, l_206 hS, k_207 hS, l_207 hS, k_208 hS, l_208 hS, k_209 hS, l_209 hS, k_210 hS, l_210 hS, k_211 hS, l_211 hS, k_212 hS, l_212 hS, k_213 hS, l_213 hS, k_214 hS, l_214 hS, k_215 hS, l_215 hS, k_216 hS, l_216 hS, k_217 hS, l_217 hS, k_218 hS, l_218 hS, k_219 hS, l_219 hS, k_220 hS, l_220 hS, r_160_0 hS, r_160_1 hS, r_160_2 hS, r_160_3 hS, r_160_4 hS, r_160_5 hS, r_160_6 hS, r_160_7 hS, r_160_8 hS, r_160_9 hS, r_160_10 hS, r_160_11 hS, r_160_12 hS, r_160_13 hS, r_160_14 hS, r_160_15 hS, r_160_16 hS, r_160_17 hS, r_160_18 hS, r_160_19 hS, r_160_20 hS, r_160_21 hS, r_160_22 hS, r_160_23 hS, r_160_24 hS, r_160_25 hS, r_160_26 hS, r_160_27 hS, r_160_28 hS, r_160_29 hS, r_160_30 hS, r_160_31 hS, r_160_32 hS, r_160_33 hS, r_160_34 hS, r_160_35 hS, r_160_36 hS, r_160_37 hS, r_160_38 hS, r_160_39 hS, r_160_40 hS, r_160_41 hS, r_160_43 hS, r_160_45 hS, r_160_46 hS, r_160_48 hS, r_160_49 hS, r_160_50 hS, r_160_51 hS, r_160_52 hS, r_160_53 hS, r_160_54 hS, r_160_56 hS, r_160_63 hS, r_160_64 hS, r_160_65 hS, r_160_66 hS, r_160_67 hS, r_160_68 hS, r_160_69 hS, ol_s, ol_n, ln_0, ln_1, ln_2, ln_3, ln_4, eq_self, rf_s, rf_n, i01_0, i01_n0, i01_b, b01_0, b01_1, and_self, and_true, true_and, and_false, false_and, if_true, if_false, not_true_eq_false, not_false_eq_true, e10, e00, lt_bg, Nat.reduceLT, Nat.reduceLeDiff, h60, h61, a1, nI_add, ii, ci, e1, h2, nI_1]
theorem c93 (hS : Sh ρ τ) {n : Nat} (hn : n < 240) (h7 : σ 131 7 = nI n) {v : Int32} : AW d 93 0 [.ref 131, .int v] [] σ ρ g τ Q = Q none (am_u (am_u σ 133 n v) 131 7 (nI (n + 1))) ρ g τ := by
  have e : nI 240 = (240 : Int32) := by decide
  have le : ¬ (240 : Int32) ≤ nI n := by rw [← e]; exact nI_ge (by omega) (by omega)
  have ii : am_inb (nI n) 240 = true := inb_n (by omega) (by decide)
  have ci : (nI n).toNatClampNeg = n := nI_clamp (by omega)
  generalize e1 : am_u σ 133 n v = s1
  have h2 : s1 131 7 = nI n := by rw [← e1, u_ne _ _ _ _ (by decide)]; exact h7
  simp only [s93_0, s93_1, s93_4, s93_7, s93_10, s93_11, s93_14, s93_15, s93_18, s93_19, s93_20, s93_21, s93_21r, s93_22, s93_25, s93_26, s93_27, s93_30, k_0 hS, k_1 hS, k_2 hS, l_2 hS, k_3 hS, l_3 hS, k_4 hS, l_4 hS, k_5 hS, l_5 hS, k_6 hS, l_6 hS, k_7 hS, k_8 hS, l_8 hS, k_9 hS, l_9 hS, k_10 hS, k_11 hS, l_11 hS, k_12 hS, k_13 hS, l_13 hS, k_14 hS, k_15 hS, l_15 hS, k_16 hS, k_17 hS, l_17 hS, k_66 hS, k_67 hS, l_67 hS, k_68 hS, l_68 hS, k_69 hS, l_69 hS, k_70 hS, l_70 hS, k_71 hS, l_71 hS, k_72 hS, k_73 hS, l_73 hS, k_74 hS, l_74 hS, k_75 hS, k_76 hS, l_76 hS, k_77 hS, k_78 hS, l_78 hS, k_79 hS, k_80 hS, l_80 hS, k_81 hS, k_82 hS, l_82 hS, k_131 hS, k_132 hS, l_132 hS, k_133 hS, l_133 hS, k_134 hS, l_134 hS, k_135 hS, k_136 hS, l_136 hS, k_137 hS, l_137 hS, k_138 hS, l_138 hS, k_139 hS, l_139 hS, k_140 hS, k_141 hS, l_141 hS, k_142 hS, l_142 hS, k_143 hS, k_144 hS, l_144 hS, k_145 hS, k_146 hS, l_146 hS, k_147 hS, l_147 hS, k_148 hS, l_148 hS, k_153 hS, l_153 hS, k_154 hS, l_154 hS, k_155 hS, l_155 hS, k_156 hS, k_157 hS, l_157 hS, k_158 hS, l_158 hS, k_159 hS, l_159 hS, r_0_0 hS, r_0_1 hS, r_0_3 hS, r_0_4 hS, r_0_5 hS, r_0_6 hS, r_0_7 hS, r_0_8 hS, r_0_9 hS, r_0_10 hS, r_1_2 hS, r_1_3 hS, r_1_4 hS, r_1_5 hS, r_1_7 hS, r_1_9 hS, r_1_10 hS, r_1_12 hS, r_1_13 hS, r_1_14 hS, r_1_15 hS, r_7_1 hS, r_10_2 hS, r_12_2 hS, r_14_2 hS, r_16_2 hS, r_66_2 hS, r_66_3 hS, r_66_4 hS, r_66_5 hS, r_66_7 hS, r_66_9 hS, r_66_10 hS, r_66_12 hS, r_66_13 hS, r_66_14 hS, r_66_15 hS, r_72_1 hS, r_75_2 hS, r_77_2 hS, r_79_2 hS, r_81_2 hS, r_131_0 hS, r_131_6 hS, r_131_8 hS, r_135_0 hS, r_135_1 hS, r_135_2 hS, r_135_3 hS, r_140_0 hS, r_140_1 hS, r_143_2 hS, r_145_0 hS, r_145_1 hS, r_145_2 hS, r_145_3 hS, r_145_4 hS, r_145_5 hS, r_156_5 hS, k_pv hS, k_pvr hS, k_db hS, k_dbr hS, k_sh hS, l_pvr hS, l_dbr hS, l_sh hS, r_5 hS, r_6 hS, r_pv hS, r_db hS, r_148 hS, ol_s, ol_n, ln_0, ln_1, ln_2, ln_3, ln_4, eq_self, rf_s, rf_n, i01_0, i01_n0, i01_b, b01_0, b01_1, and_self, and_true, true_and, and_false, false_and, if_true, if_false, not_true_eq_false, not_false_eq_true, e10, e00, lt_bg, Nat.reduceLT, Nat.reduceLeDiff, h7, le, ii, ci, e1, h2, nI_1]
theorem st_lo : ∀ f : Fin 6, ∀ s : Fin 3, ((0 : Int32) ||| nI f.1 <<< ((4 : Int32) &&& 31)) ||| nI (60 + s.1) <<< ((8 : Int32) &&& 31) = nI (16 * f.1 + 256 * (60 + s.1)) := by decide +kernel
theorem st_or {c n : Nat} (hc : c < 65536) (hn : n ≤ 999) : nI c ||| nI n <<< ((16 : Int32) &&& 31) = nI (c + 65536 * n) := by
  have s : nI n <<< ((16 : Int32) &&& 31) = nI (n * 2 ^ 16) := pk_shlN _ 16 (by decide) (by omega)
  have o : nI c ||| nI (n * 2 ^ 16) = nI (c ||| n * 2 ^ 16) := by
    apply Int32.toBitVec_inj.mp
    show BitVec.ofNat 32 c ||| BitVec.ofNat 32 (n * 2 ^ 16) = BitVec.ofNat 32 (c ||| n * 2 ^ 16)
    apply BitVec.eq_of_toNat_eq
    simp only [BitVec.toNat_or, BitVec.toNat_ofNat]
    have l1 : c % 2 ^ 32 = c := Nat.mod_eq_of_lt (by omega)
    have l2 : n * 2 ^ 16 % 2 ^ 32 = n * 2 ^ 16 := Nat.mod_eq_of_lt (by omega)
    have l3 : (c ||| n * 2 ^ 16) % 2 ^ 32 = c ||| n * 2 ^ 16 := Nat.mod_eq_of_lt (Nat.or_lt_two_pow (by omega) (by omega))
    rw [l1, l2, l3]
  have a : 2 ^ 16 * n + c = 2 ^ 16 * n ||| c := Nat.two_pow_add_eq_or_of_lt (by omega) n
  rw [s, o, Nat.or_comm, Nat.mul_comm n, ← a]
  congr 1
  omega
theorem c51c {f s n : Nat} (hf : f < 6) (hs : s < 3) (hn : n ≤ 999) : AW d 51 0 [.int 0, .int (nI f), .int (nI (60 + s)), .int (nI n)] [] σ ρ g τ Q = Q (some (.int (nI (tk_C (0, f, s, n))))) σ ρ g τ := by
  have a := st_lo ⟨f, hf⟩ ⟨s, hs⟩
  have b := st_or (c := 16 * f + 256 * (60 + s)) (n := n) (by omega) hn
  have e : tk_C (0, f, s, n) = 16 * f + 256 * (60 + s) + 65536 * n := if_pos rfl
  rw [e]
  simp only [s51_0, s51_1, s51_2, s51_3, s51_4, s51_5, s51_6, s51_8, s51_9, s51_10, s51_11, s51_13, s51_14, s51_15, ol_s, ol_n, ln_0, ln_1, ln_2, ln_3, ln_4, eq_self, rf_s, rf_n, i01_0, i01_n0, i01_b, b01_0, b01_1, and_self, and_true, true_and, and_false, false_and, if_true, if_false, not_true_eq_false, not_false_eq_true, e10, e00, lt_bg, Nat.reduceLT, Nat.reduceLeDiff, a, b]
theorem st_so : ∀ s : Fin 3, (((1 : Int32) ||| (0 : Int32) <<< ((4 : Int32) &&& 31)) ||| (0 : Int32) <<< ((8 : Int32) &&& 31)) ||| nI s.1 <<< ((16 : Int32) &&& 31) = nI (tk_C (1, 0, 0, s.1)) := by decide +kernel
theorem c51s {s : Nat} (hs : s < 3) : AW d 51 0 [.int 1, .int 0, .int 0, .int (nI s)] [] σ ρ g τ Q = Q (some (.int (nI (tk_C (1, 0, 0, s))))) σ ρ g τ := by
  have a := st_so ⟨s, hs⟩
  simp only [s51_0, s51_1, s51_2, s51_3, s51_4, s51_5, s51_6, s51_8, s51_9, s51_10, s51_11, s51_13, s51_14, s51_15, ol_s, ol_n, ln_0, ln_1, ln_2, ln_3, ln_4, eq_self, rf_s, rf_n, i01_0, i01_n0, i01_b, b01_0, b01_1, and_self, and_true, true_and, and_false, false_and, if_true, if_false, not_true_eq_false, not_false_eq_true, e10, e00, lt_bg, Nat.reduceLT, Nat.reduceLeDiff, a]
theorem c83n (hS : Sh ρ τ) (hb : Bgd σ τ) {b : Nat → Nat} {l p i N : Nat} (hT : TC b l σ) (hp : p ≤ l) (hc : CT b l p σ) (hi : i < 19) (hN : N = am_BG + (3 + i)) : AW (d + 4) 83 0 [.ref 131, .ref N, am_jk] [] σ ρ g τ Q = Q (some (.int (bI (nm b l p i)))) σ ρ g τ := by
  subst hN
  exact c83 hS (by omega) hT hp hc (nm_bg hb (by omega))
theorem c189n (hS : Sh ρ τ) (hb : Bgd σ τ) {b : Nat → Nat} {l a i N : Nat} (hT : TR b l σ) (ha : a ≤ l) (hc : σ 160 57 = nI a) (hi : i < 19) (hN : N = am_BG + (22 + i)) : AW (d + 4) 189 0 [.ref 160, .ref N, am_jk] [] σ ρ g τ Q = Q (some (.int (bI (nm b l (sk b l a) i)))) (am_u σ 160 57 (nI (nmA b l (sk b l a) i))) ρ g τ := by
  subst hN
  have e : am_BG + (22 + i) = am_BG + (3 + (i + 19)) := by omega
  rw [e]
  exact c189 hS hi hT ha hc (nm_bg hb (by omega)) (by show 160 < 1000000 + (3 + (i + 19)); omega)
end OCW
