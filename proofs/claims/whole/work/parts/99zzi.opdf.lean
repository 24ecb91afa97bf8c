/-! read: a line, the reference -/
section ODF
variable {d : Nat} {σ : am_I} {ρ : am_R} {g : am_J} {τ : am_T} {Q : am_Q}
theorem c199n (hS : Sh ρ τ) (hb : Bgd σ τ) {b : Nat → Nat} {l a p : Nat} (hT : TR b l σ) (ha : a ≤ l) (hc : σ 160 57 = nI a) (hp : sk b l a = p) {x1 x2 : Int32} {x3 : Value} : AW (d + 5) 199 10 [.ref 160, .int x1, .int x2, x3] [] σ ρ g τ Q = AW (d + 5) 199 82 [.ref 160, .int x1, .int x2, .int (rI (lso b l p) 5)] [] (am_u σ 160 57 (nI (if lso b l p < 5 then te b l p else p))) ρ g τ Q := by
  have pl : p ≤ l := by rw [← hp]; exact (sk_b (b := b) ha).2
  have pp : sk b l p = p := by rw [← hp]; exact sk_sk ha
  have N0 := fun (d : Nat) (Q : am_Q) => c189n (d := d) (g := g) (Q := Q) hS hb hT ha hc (i := 0) (N := am_BG + 22) (by decide) rfl
  rw [hp] at N0
  have N1 := fun (d : Nat) (Q : am_Q) => c189p (d := d) (g := g) (Q := Q) hS hb hT pl pp (i := 1) (N := am_BG + 23) (by decide) rfl
  have N2 := fun (d : Nat) (Q : am_Q) => c189p (d := d) (g := g) (Q := Q) hS hb hT pl pp (i := 2) (N := am_BG + 24) (by decide) rfl
  have N3 := fun (d : Nat) (Q : am_Q) => c189p (d := d) (g := g) (Q := Q) hS hb hT pl pp (i := 3) (N := am_BG + 25) (by decide) rfl
  have N4 := fun (d : Nat) (Q : am_Q) => c189p (d := d) (g := g) (Q := Q) hS hb hT pl pp (i := 4) (N := am_BG + 26) (by decide) rfl
  by_cases a0 : nm b l p 0 = true
  · have e : lso b l p = 0 := if_pos a0
    have w := bI_t a0
    have v : rI (lso b l p) 5 = 0 := by rw [e]; rfl
    have x : (if lso b l p < 5 then te b l p else p) = te b l p := if_pos (by omega)
    have y : nmA b l p 0 = te b l p := if_pos a0
    rw [x]
    simp only [s199_10, s199_11, s199_14, s199_17, s199_20, s199_21, s199_24, s199_25, s199_28, s199_31, s199_34, s199_35, s199_38, s199_39, s199_42, s199_45, s199_48, s199_49, s199_52, s199_53, s199_56, s199_59, s199_62, s199_63, s199_66, s199_67, s199_70, s199_73, s199_76, s199_77, s199_80, s199_81, k_160 hS, k_161 hS, l_161 hS, k_162 hS, l_162 hS, k_163 hS, l_163 hS, k_164 hS, l_164 hS, k_165 hS, l_165 hS, k_166 hS, l_166 hS, k_167 hS, l_167 hS, k_168 hS, l_168 hS, k_169 hS, l_169 hS, k_170 hS, l_170 hS, k_171 hS, l_171 hS, k_172 hS, l_172 hS, k_173 hS, l_173 hS, k_174 hS, l_174 hS, k_175 hS, l_175 hS, k_176 hS, l_176 hS, k_177 hS, l_177 hS, k_178 hS, l_178 hS, k_179 hS, l_179 hS, k_180 hS, l_180 hS, k_181 hS, l_181 hS, k_182 hS, l_182 hS, k_183 hS, l_183 hS, k_184 hS, l_184 hS, k_185 hS, l_185 hS, k_186 hS, l_186 hS, k_187 hS, l_187 hS, k_188 hS, l_188 hS, k_189 hS, l_189 hS, k_190 hS, l_190 hS, k_191 hS, l_191 hS, k_192 hS, l_192 hS, k_193 hS, l_193 hS, k_194 hS, l_194 hS, k_195 hS, l_195 hS, k_196 hS, l_196 hS, k_197 hS, l_197 hS, k_198 hS, l_198 hS, k_199 hS, l_199 hS, k_200 hS, l_200 hS, k_201 hS, l_201 hS, k_202 hS, l_202 hS, k_203 hS, l_203 hS, k_204 hS, l_204 hS, k_205 hS, l_205 hS, k_206 hS, l_206 hS, k_207 hS, l_207 hS, k_208 hS, l_208 hS, k_209 hS, l_209 hS, k_210 hS, l_210 hS, k_211 hS, l_211 hS, k_212 hS, l_212 hS, k_213 hS, l_213 hS, k_214 hS, l_214 hS, k_215 hS, l_215 hS, k_216 hS, l_216 hS, k_217 hS, l_217 hS, k_218 hS, l_218 hS, k_219 hS, l_219 hS, k_220 hS, l_220 hS, r_160_0 hS, r_160_1 hS, r_160_2 hS, r_160_3 hS, r_160_4 hS, r_160_5 hS, r_160_6 hS, r_160_7 hS, r_160_8 hS, r_160_9 hS, r_160_10 hS, r_160_11 hS, r_160_12 hS, r_160_13 hS, r_160_14 hS, r_160_15 hS, r_160_16 hS, r_160_17 hS, r_160_18 hS, r_160_19 hS, r_160_20 hS, r_160_21 hS, r_160_22 hS, r_160_23 hS, r_160_24 hS, r_160_25 hS, r_160_26 hS, r_160_27 hS, r_160_28 hS, r_160_29 hS, r_160_30 hS, r_160_31 hS, r_160_32 hS, r_160_33 hS, r_160_34 hS, r_160_35 hS, r_160_36 hS, r_160_37 hS, r_160_38 hS, r_160_39 hS, r_160_40 hS, r_160_41 hS, r_160_43 hS, r_160_45 hS, r_160_46 hS, r_160_48 hS, r_160_49 hS, r_160_50 hS, r_160_51 hS, r_160_52 hS, r_160_53 hS, r_160_54 hS, r_160_56 hS, r_160_63 hS, r_160_64 hS, r_160_65 hS, r_160_66 hS, r_160_67 hS, r_160_68 hS, r_160_69 hS, ol_s, ol_n, ln_0, ln_1, ln_2, ln_3, ln_4, eq_self, rf_s, rf_n, i01_0, i01_n0, i01_b, b01_0, b01_1, and_self, and_true, true_and, and_false, false_and, if_true, if_false, not_true_eq_false, not_false_eq_true, e10, e00, lt_bg, Nat.reduceLT, Nat.reduceLeDiff, N0, w, v, y]
  have f0 : bI (nm b l p 0) = 0 := if_neg a0
  have g0 : nmA b l p 0 = p := if_neg a0
  by_cases a1 : nm b l p 1 = true
  · have e : lso b l p = 1 := by
      unfold lso
      rw [if_neg a0, if_pos a1]
    have w := bI_t a1
    have v : rI (lso b l p) 5 = 1 := by rw [e]; rfl
    have x : (if lso b l p < 5 then te b l p else p) = te b l p := if_pos (by omega)
    have y : nmA b l p 1 = te b l p := if_pos a1
    rw [x]
    simp only [s199_10, s199_11, s199_14, s199_17, s199_20, s199_21, s199_24, s199_25, s199_28, s199_31, s199_34, s199_35, s199_38, s199_39, s199_42, s199_45, s199_48, s199_49, s199_52, s199_53, s199_56, s199_59, s199_62, s199_63, s199_66, s199_67, s199_70, s199_73, s199_76, s199_77, s199_80, s199_81, k_160 hS, k_161 hS, l_161 hS, k_162 hS, l_162 hS, k_163 hS, l_163 hS, k_164 hS, l_164 hS, k_165 hS, l_165 hS, k_166 hS, l_166 hS, k_167 hS, l_167 hS, k_168 hS, l_168 hS, k_169 hS, l_169 hS, k_170 hS, l_170 hS, k_171 hS, l_171 hS, k_172 hS, l_172 hS, k_173 hS, l_173 hS, k_174 hS, l_174 hS, k_175 hS, l_175 hS, k_176 hS, l_176 hS, k_177 hS, l_177 hS, k_178 hS, l_178 hS, k_179 hS, l_179 hS, k_180 hS, l_180 hS, k_181 hS, l_181 hS, k_182 hS, l_182 hS, k_183 hS, l_183 hS, k_184 hS, l_184 hS, k_185 hS, l_185 hS, k_186 hS, l_186 hS, k_187 hS, l_187 hS, k_188 hS, l_188 hS, k_189 hS, l_189 hS, k_190 hS, l_190 hS, k_191 hS, l_191 hS, k_192 hS, l_192 hS, k_193 hS, l_193 hS, k_194 hS, l_194 hS, k_195 hS, l_195 hS, k_196 hS, l_196 hS, k_197 hS, l_197 hS, k_198 hS, l_198 hS, k_199 hS, l_199 hS, k_200 hS, l_200 hS, k_201 hS, l_201 hS, k_202 hS, l_202 hS, k_203 hS, l_203 hS, k_204 hS, l_204 hS, k_205 hS, l_205 hS, k_206 hS, l_206 hS, k_207 hS, l_207 hS, k_208 hS, l_208 hS, k_209 hS, l_209 hS, k_210 hS, l_210 hS, k_211 hS, l_211 hS, k_212 hS, l_212 hS, k_213 hS, l_213 hS, k_214 hS, l_214 hS, k_215 hS, l_215 hS, k_216 hS, l_216 hS, k_217 hS, l_217 hS, k_218 hS, l_218 hS, k_219 hS, l_219 hS, k_220 hS, l_220 hS, r_160_0 hS, r_160_1 hS, r_160_2 hS, r_160_3 hS, r_160_4 hS, r_160_5 hS, r_160_6 hS, r_160_7 hS, r_160_8 hS, r_160_9 hS, r_160_10 hS, r_160_11 hS, r_160_12 hS, r_160_13 hS, r_160_14 hS, r_160_15 hS, r_160_16 hS, r_160_17 hS, r_160_18 hS, r_160_19 hS, r_160_20 hS, r_160_21 hS, r_160_22 hS, r_160_23 hS, r_160_24 hS, r_160_25 hS, r_160_26 hS, r_160_27 hS, r_160_28 hS, r_160_29 hS, r_160_30 hS, r_160_31 hS, r_160_32 hS, r_160_33 hS, r_160_34 hS, r_160_35 hS, r_160_36 hS, r_160_37 hS, r_160_38 hS, r_160_39 hS, r_160_40 hS, r_160_41 hS, r_160_43 hS, r_160_45 hS, r_160_46 hS, r_160_48 hS, r_160_49 hS, r_160_50 hS, r_160_51 hS, r_160_52 hS, r_160_53 hS, r_160_54 hS, r_160_56 hS, r_160_63 hS, r_160_64 hS, r_160_65 hS, r_160_66 hS, r_160_67 hS, r_160_68 hS, r_160_69 hS, ol_s, ol_n, ln_0, ln_1, ln_2, ln_3, ln_4, eq_self, rf_s, rf_n, i01_0, i01_n0, i01_b, b01_0, b01_1, and_self, and_true, true_and, and_false, false_and, if_true, if_false, not_true_eq_false, not_false_eq_true, e10, e00, lt_bg, Nat.reduceLT, Nat.reduceLeDiff, N0, N1, f0, g0, w, v, y]
  have f1 : bI (nm b l p 1) = 0 := if_neg a1
  have g1 : nmA b l p 1 = p := if_neg a1
  by_cases a2 : nm b l p 2 = true
  · have e : lso b l p = 2 := by
      unfold lso
      rw [if_neg a0, if_neg a1, if_pos a2]
    have w := bI_t a2
    have v : rI (lso b l p) 5 = 2 := by rw [e]; rfl
    have x : (if lso b l p < 5 then te b l p else p) = te b l p := if_pos (by omega)
    have y : nmA b l p 2 = te b l p := if_pos a2
    rw [x]
    simp only [s199_10, s199_11, s199_14, s199_17, s199_20, s199_21, s199_24, s199_25, s199_28, s199_31, s199_34, s199_35, s199_38, s199_39, s199_42, s199_45, s199_48, s199_49, s199_52, s199_53, s199_56, s199_59, s199_62, s199_63, s199_66, s199_67, s199_70, s199_73, s199_76, s199_77, s199_80, s199_81, k_160 hS, k_161 hS, l_161 hS, k_162 hS, l_162 hS, k_163 hS, l_163 hS, k_164 hS, l_164 hS, k_165 hS, l_165 hS, k_166 hS, l_166 hS, k_167 hS, l_167 hS, k_168 hS, l_168 hS, k_169 hS, l_169 hS, k_170 hS, l_170 hS, k_171 hS, l_171 hS, k_172 hS, l_172 hS, k_173 hS, l_173 hS, k_174 hS, l_174 hS, k_175 hS, l_175 hS, k_176 hS, l_176 hS, k_177 hS, l_177 hS, k_178 hS, l_178 hS, k_179 hS, l_179 hS, k_180 hS, l_180 hS, k_181 hS, l_181 hS, k_182 hS, l_182 hS, k_183 hS, l_183 hS, k_184 hS, l_184 hS, k_185 hS, l_185 hS, k_186 hS, l_186 hS, k_187 hS, l_187 hS, k_188 hS, l_188 hS, k_189 hS, l_189 hS, k_190 hS, l_190 hS, k_191 hS, l_191 hS, k_192 hS, l_192 hS, k_193 hS, l_193 hS, k_194 hS, l_194 hS, k_195 hS, l_195 hS, k_196 hS, l_196 hS, k_197 hS, l_197 hS, k_198 hS, l_198 hS, k_199 hS, l_199 hS, k_200 hS, l_200 hS, k_201 hS, l_201 hS, k_202 hS, l_202 hS, k_203 hS, l_203 hS, k_204 hS, l_204 hS, k_205 hS, l_205 hS, k_206 hS, l_206 hS, k_207 hS, l_207 hS, k_208 hS, l_208 hS, k_209 hS, l_209 hS, k_210 hS, l_210 hS, k_211 hS, l_211 hS, k_212 hS, l_212 hS, k_213 hS, l_213 hS, k_214 hS, l_214 hS, k_215 hS, l_215 hS, k_216 hS, l_216 hS, k_217 hS, l_217 hS, k_218 hS, l_218 hS, k_219 hS, l_219 hS, k_220 hS, l_220 hS, r_160_0 hS, r_160_1 hS, r_160_2 hS, r_160_3 hS, r_160_4 hS, r_160_5 hS, r_160_6 hS, r_160_7 hS, r_160_8 hS, r_160_9 hS, r_160_10 hS, r_160_11 hS, r_160_12 hS, r_160_13 hS, r_160_14 hS, r_160_15 hS, r_160_16 hS, r_160_17 hS, r_160_18 hS, r_160_19 hS, r_160_20 hS, r_160_21 hS, r_160_22 hS, r_160_23 hS, r_160_24 hS, r_160_25 hS, r_160_26 hS, r_160_27 hS, r_160_28 hS, r_160_29 hS, r_160_30 hS, r_160_31 hS, r_160_32 hS, r_160_33 hS, r_160_34 hS, r_160_35 hS, r_160_36 hS, r_160_37 hS, r_160_38 hS, r_160_39 hS, r_160_40 hS, r_160_41 hS, r_160_43 hS, r_160_45 hS, r_160_46 hS, r_160_48 hS, r_160_49 hS, r_160_50 hS, r_160_51 hS, r_160_52 hS, r_160_53 hS, r_160_54 hS, r_160_56 hS, r_160_63 hS, r_160_64 hS, r_160_65 hS, r_160_66 hS, r_160_67 hS, r_160_68 hS, r_160_69 hS, ol_s, ol_n, ln_0, ln_1, ln_2, ln_3, ln_4, eq_self, rf_s, rf_n, i01_0, i01_n0, i01_b, b01_0, b01_1, and_self, and_true, true_and, and_false, false_and, if_true, if_false, not_true_eq_false, not_false_eq_true, e10, e00, lt_bg, Nat.reduceLT, Nat.reduceLeDiff, N0, N1, N2, f0, g0, f1, g1, w, v, y]
  have f2 : bI (nm b l p 2) = 0 := if_neg a2
  have g2 : nmA b l p 2 = p := if_neg a2
  by_cases a3 : nm b l p 3 = true
  · have e : lso b l p = 3 := by
      unfold lso
      rw [if_neg a0, if_neg a1, if_neg a2, if_pos a3]
    have w := bI_t a3
    have v : rI (lso b l p) 5 = 3 := by rw [e]; rfl
    have x : (if lso b l p < 5 then te b l p else p) = te b l p := if_pos (by omega)
    have y : nmA b l p 3 = te b l p := if_pos a3
    rw [x]
    simp only [s199_10, s199_11, s199_14, s199_17, s199_20, s199_21, s199_24, s199_25, s199_28, s199_31, s199_34, s199_35, s199_38, s199_39, s199_42, s199_45, s199_48, s199_49, s199_52, s199_53, s199_56, s199_59, s199_62, s199_63, s199_66, s199_67, s199_70, s199_73, s199_76, s199_77, s199_80, s199_81, k_160 hS, k_161 hS, l_161 hS, k_162 hS, l_162 hS, k_163 hS, l_163 hS, k_164 hS, l_164 hS, k_165 hS, l_165 hS, k_166 hS, l_166 hS, k_167 hS, l_167 hS, k_168 hS, l_168 hS, k_169 hS, l_169 hS, k_170 hS, l_170 hS, k_171 hS, l_171 hS, k_172 hS, l_172 hS, k_173 hS, l_173 hS, k_174 hS, l_174 hS, k_175 hS, l_175 hS, k_176 hS, l_176 hS, k_177 hS, l_177 hS, k_178 hS, l_178 hS, k_179 hS, l_179 hS, k_180 hS, l_180 hS, k_181 hS, l_181 hS, k_182 hS, l_182 hS, k_183 hS, l_183 hS, k_184 hS, l_184 hS, k_185 hS, l_185 hS, k_186 hS, l_186 hS, k_187 hS, l_187 hS, k_188 hS, l_188 hS, k_189 hS, l_189 hS, k_190 hS, l_190 hS, k_191 hS, l_191 hS, k_192 hS, l_192 hS, k_193 hS, l_193 hS, k_194 hS, l_194 hS, k_195 hS, l_195 hS, k_196 hS, l_196 hS, k_197 hS, l_197 hS, k_198 hS, l_198 hS, k_199 hS, l_199 hS, k_200 hS, l_200 hS, k_201 hS, l_201 hS, k_202 hS, l_202 hS, k_203 hS, l_203 hS, k_204 hS, l_204 hS, k_205 hS, l_205 hS, k_206 hS, l_206 hS, k_207 hS, l_207 hS, k_208 hS, l_208 hS, k_209 hS, l_209 hS, k_210 hS, l_210 hS, k_211 hS, l_211 hS, k_212 hS, l_212 hS, k_213 hS, l_213 hS, k_214 hS, l_214 hS, k_215 hS, l_215 hS, k_216 hS, l_216 hS, k_217 hS, l_217 hS, k_218 hS, l_218 hS, k_219 hS, l_219 hS, k_220 hS, l_220 hS, r_160_0 hS, r_160_1 hS, r_160_2 hS, r_160_3 hS, r_160_4 hS, r_160_5 hS, r_160_6 hS, r_160_7 hS, r_160_8 hS, r_160_9 hS, r_160_10 hS, r_160_11 hS, r_160_12 hS, r_160_13 hS, r_160_14 hS, r_160_15 hS, r_160_16 hS, r_160_17 hS, r_160_18 hS, r_160_19 hS, r_160_20 hS, r_160_21 hS, r_160_22 hS, r_160_23 hS, r_160_24 hS, r_160_25 hS, r_160_26 hS, r_160_27 hS, r_160_28 hS, r_160_29 hS, r_160_30 hS, r_160_31 hS, r_160_32 hS, r_160_33 hS, r_160_34 hS, r_160_35 hS, r_160_36 hS, r_160_37 hS, r_160_38 hS, r_160_39 hS, r_160_40 hS, r_160_41 hS, r_160_43 hS, r_160_45 hS, r_160_46 hS, r_160_48 hS, r_160_49 hS, r_160_50 hS, r_160_51 hS, r_160_52 hS, r_160_53 hS, r_160_54 hS, r_160_56 hS, r_160_63 hS, r_160_64 hS, r_160_65 hS, r_160_66 hS, r_160_67 hS, r_160_68 hS, r_160_69 hS, ol_s, ol_n, ln_0, ln_1, ln_2, ln_3, ln_4, eq_self, rf_s, rf_n, i01_0, i01_n0, i01_b, b01_0, b01_1, and_self, and_true, true_and, and_false, false_and, if_true, if_false, not_true_eq_false, not_false_eq_true, e10, e00, lt_bg, Nat.reduceLT, Nat.reduceLeDiff, N0, N1, N2, N3, f0, g0, f1, g1, f2, g2, w, v, y]
  have f3 : bI (nm b l p 3) = 0 := if_neg a3
  have g3 : nmA b l p 3 = p := if_neg a3
  by_cases a4 : nm b l p 4 = true
  · have e : lso b l p = 4 := by
      unfold lso
      rw [if_neg a0, if_neg a1, if_neg a2, if_neg a3, if_pos a4]
    have w := bI_t a4
    have v : rI (lso b l p) 5 = 4 := by rw [e]; rfl
    have x : (if lso b l p < 5 then te b l p else p) = te b l p := if_pos (by omega)
    have y : nmA b l p 4 = te b l p := if_pos a4
    rw [x]
    simp only [s199_10, s199_11, s199_14, s199_17, s199_20, s199_21, s199_24, s199_25, s199_28, s199_31, s199_34, s199_35, s199_38, s199_39, s199_42, s199_45, s199_48, s199_49, s199_52, s199_53, s199_56, s199_59, s199_62, s199_63, s199_66, s199_67, s199_70, s199_73, s199_76, s199_77, s199_80, s199_81, k_160 hS, k_161 hS, l_161 hS, k_162 hS, l_162 hS, k_163 hS, l_163 hS, k_164 hS, l_164 hS, k_165 hS, l_165 hS, k_166 hS, l_166 hS, k_167 hS, l_167 hS, k_168 hS, l_168 hS, k_169 hS, l_169 hS, k_170 hS, l_170 hS, k_171 hS, l_171 hS, k_172 hS, l_172 hS, k_173 hS, l_173 hS, k_174 hS, l_174 hS, k_175 hS, l_175 hS, k_176 hS, l_176 hS, k_177 hS, l_177 hS, k_178 hS, l_178 hS, k_179 hS, l_179 hS, k_180 hS, l_180 hS, k_181 hS, l_181 hS, k_182 hS, l_182 hS, k_183 hS, l_183 hS, k_184 hS, l_184 hS, k_185 hS, l_185 hS, k_186 hS, l_186 hS, k_187 hS, l_187 hS, k_188 hS, l_188 hS, k_189 hS, l_189 hS, k_190 hS, l_190 hS, k_191 hS, l_191 hS, k_192 hS, l_192 hS, k_193 hS, l_193 hS, k_194 hS, l_194 hS, k_195 hS, l_195 hS, k_196 hS, l_196 hS, k_197 hS, l_197 hS, k_198 hS, l_198 hS, k_199 hS, l_199 hS, k_200 hS, l_200 hS, k_201 hS, l_201 hS, k_202 hS, l_202 hS, k_203 hS, l_203 hS, k_204 hS, l_204 hS, k_205 hS, l_205 hS, k_206 hS, l_206 hS, k_207 hS, l_207 hS, k_208 hS, l_208 hS, k_209 hS, l_209 hS, k_210 hS, l_210 hS, k_211 hS, l_211 hS, k_212 hS, l_212 hS, k_213 hS, l_213 hS, k_214 hS, l_214 hS, k_215 hS, l_215 hS, k_216 hS, l_216 hS, k_217 hS, l_217 hS, k_218 hS, l_218 hS, k_219 hS, l_219 hS, k_220 hS, l_220 hS, r_160_0 hS, r_160_1 hS, r_160_2 hS, r_160_3 hS, r_160_4 hS, r_160_5 hS, r_160_6 hS, r_160_7 hS, r_160_8 hS, r_160_9 hS, r_160_10 hS, r_160_11 hS, r_160_12 hS, r_160_13 hS, r_160_14 hS, r_160_15 hS, r_160_16 hS, r_160_17 hS, r_160_18 hS, r_160_19 hS, r_160_20 hS, r_160_21 hS, r_160_22 hS, r_160_23 hS, r_160_24 hS, r_160_25 hS, r_160_26 hS, r_160_27 hS, r_160_28 hS, r_160_29 hS, r_160_30 hS, r_160_31 hS, r_160_32 hS, r_160_33 hS, r_160_34 hS, r_160_35 hS, r_160_36 hS, r_160_37 hS, r_160_38 hS, r_160_39 hS, r_160_40 hS, r_160_41 hS, r_160_43 hS, r_160_45 hS, r_160_46 hS, r_160_48 hS, r_160_49 hS, r_160_50 hS, r_160_51 hS, r_160_52 hS, r_160_53 hS, r_160_54 hS, r_160_56 hS, r_160_63 hS, r_160_64 hS, r_160_65 hS, r_160_66 hS, r_160_67 hS, r_160_68 hS, r_160_69 hS, ol_s, ol_n, ln_0, ln_1, ln_2, ln_3, ln_4, eq_self, rf_s, rf_n, i01_0, i01_n0, i01_b, b01_0, b01_1, and_self, and_true, true_and, and_false, false_and, if_true, if_false, not_true_eq_false, not_false_eq_true, e10, e00, lt_bg, Nat.reduceLT, Nat.reduceLeDiff, N0, N1, N2, N3, N4, f0, g0, f1, g1, f2, g2, f3, g3, w, v, y]
  have f4 : bI (nm b l p 4) = 0 := if_neg a4
  have g4 : nmA b l p 4 = p := if_neg a4
  have e : lso b l p = 5 := by
    unfold lso
    rw [if_neg a0, if_neg a1, if_neg a2, if_neg a3, if_neg a4]
  have v : rI (lso b l p) 5 = -1 := by rw [e]; rfl
  have x : (if lso b l p < 5 then te b l p else p) = p := if_neg (by omega)
  rw [x]
  simp only [s199_10, s199_11, s199_14, s199_17, s199_20, s199_21, s199_24, s199_25, s199_28, s199_31, s199_34, s199_35, s199_38, s199_39, s199_42, s199_45, s199_48, s199_49, s199_52, s199_53, s199_56, s199_59, s199_62, s199_63, s199_66, s199_67, s199_70, s199_73, s199_76, s199_77, s199_80, s199_81, k_160 hS, k_161 hS, l_161 hS, k_162 hS, l_162 hS, k_163 hS, l_163 hS, k_164 hS, l_164 hS, k_165 hS, l_165 hS, k_166 hS, l_166 hS, k_167 hS, l_167 hS, k_168 hS, l_168 hS, k_169 hS, l_169 hS, k_170 hS, l_170 hS, k_171 hS, l_171 hS, k_172 hS, l_172 hS, k_173 hS, l_173 hS, k_174 hS, l_174 hS, k_175 hS, l_175 hS, k_176 hS, l_176 hS, k_177 hS, l_177 hS, k_178 hS, l_178 hS, k_179 hS, l_179 hS, k_180 hS, l_180 hS, k_181 hS, l_181 hS, k_182 hS, l_182 hS, k_183 hS, l_183 hS, k_184 hS, l_184 hS, k_185 hS, l_185 hS, k_186 hS, l_186 hS, k_187 hS, l_187 hS, k_188 hS, l_188 hS, k_189 hS, l_189 hS, k_190 hS, l_190 hS, k_191 hS, l_191 hS, k_192 hS, l_192 hS, k_193 hS, l_193 hS, k_194 hS, l_194 hS, k_195 hS, l_195 hS, k_196 hS, l_196 hS, k_197 hS, l_197 hS, k_198 hS, l_198 hS, k_199 hS, l_199 hS, k_200 hS, l_200 hS, k_201 hS, l_201 hS, k_202 hS, l_202 hS, k_203 hS, l_203 hS, k_204 hS, l_204 hS, k_205 hS, l_205 hS, k_206 hS, l_206 hS, k_207 hS, l_207 hS, k_208 hS, l_208 hS, k_209 hS, l_209 hS, k_210 hS, l_210 hS, k_211 hS, l_211 hS, k_212 hS, l_212 hS, k_213 hS, l_213 hS, k_214 hS, l_214 hS, k_215 hS, l_215 hS, k_216 hS, l_216 hS, k_217 hS, l_217 hS, k_218 hS, l_218 hS, k_219 hS, l_219 hS, k_220 hS, l_220 hS, r_160_0 hS, r_160_1 hS, r_160_2 hS, r_160_3 hS, r_160_4 hS, r_160_5 hS, r_160_6 hS, r_160_7 hS, r_160_8 hS, r_160_9 hS, r_160_10 hS, r_160_11 hS, r_160_12 hS, r_160_13 hS, r_160_14 hS, r_160_15 hS, r_160_16 hS, r_160_17 hS, r_160_18 hS, r_160_19 hS, r_160_20 hS, r_160_21 hS, r_160_22 hS, r_160_23 hS, r_160_24 hS, r_160_25 hS, r_160_26 hS, r_160_27 hS, r_160_28 hS, r_160_29 hS, r_160_30 hS, r_160_31 hS, r_160_32 hS, r_160_33 hS, r_160_34 hS, r_160_35 hS, r_160_36 hS, r_160_37 hS, r_160_38 hS, r_160_39 hS, r_160_40 hS, r_160_41 hS, r_160_43 hS, r_160_45 hS, r_160_46 hS, r_160_48 hS, r_160_49 hS, r_160_50 hS, r_160_51 hS, r_160_52 hS, r_160_53 hS, r_160_54 hS, r_160_56 hS, r_160_63 hS, r_160_64 hS, r_160_65 hS, r_160_66 hS, r_160_67 hS, r_160_68 hS, r_160_69 hS, ol_s, ol_n, ln_0, ln_1, ln_2, ln_3, ln_4, eq_self, rf_s, rf_n, i01_0, i01_n0, i01_b, b01_0, b01_1, and_self, and_true, true_and, and_false, false_and, if_true, if_false, not_true_eq_false, not_false_eq_true, e10, e00, lt_bg, Nat.reduceLT, Nat.reduceLeDiff, N0, N1, N2, N3, N4, f0, g0, f1, g1, f2, g2, f3, g3, f4, g4, v]
/-- what the reference's reading of a line may change: j is the line's place -/
def RFr (ver j n : Nat) (σ σ' : am_I) : Prop := (∀ z, z ≠ 160 → z < 182 ∨ 187 < z → σ' z = σ z) ∧ (∀ k, k < 57 ∨ 62 < k → σ' 160 k = σ 160 k) ∧ (∀ z, 182 ≤ z → z ≤ 186 → ∀ k, k ≠ j → σ' z k = σ z k) ∧ ∀ k, k < 256 * ver + n → σ' 187 k = σ 187 k
theorem RFr.refl {ver j n : Nat} : RFr ver j n σ σ := ⟨fun _ _ _ => rfl, fun _ _ => rfl, fun _ _ _ _ _ => rfl, fun _ _ => rfl⟩
theorem RFr.tr {ver j n : Nat} {s s2 : am_I} (h : RFr ver j n σ s) (h2 : RFr ver j n s s2) : RFr ver j n σ s2 := ⟨fun z a b => by rw [h2.1 z a b, h.1 z a b], fun k hk => by rw [h2.2.1 k hk, h.2.1 k hk], fun z a b k hk => by rw [h2.2.2.1 z a b k hk, h.2.2.1 z a b k hk], fun k hk => by rw [h2.2.2.2 k hk, h.2.2.2 k hk]⟩
theorem RFr.u {ver j n k : Nat} {v : Int32} (h1 : 57 ≤ k) (h2 : k ≤ 62) : RFr ver j n σ (am_u σ 160 k v) := ⟨fun z a b => u_ne _ _ _ _ a, fun i hi => u_nk _ _ _ _ (by omega), fun z a b i hi => by rw [u_ne _ _ _ _ (by omega)], fun i hi => by rw [u_ne _ _ _ _ (by decide)]⟩
theorem RFr.w {ver j n z : Nat} {v : Int32} (h1 : 182 ≤ z) (h2 : z ≤ 186) : RFr ver j n σ (am_u σ z j v) := ⟨fun y a b => u_ne _ _ _ _ (by omega), fun i hi => by rw [u_ne _ _ _ _ (by omega)], fun y a b i hi => by
  by_cases q : y = z
  · rw [q, u_nk _ _ _ _ hi]
  · rw [u_ne _ _ _ _ q], fun i hi => by rw [u_ne _ _ _ _ (by omega)]⟩
theorem RFr.rr {b : Nat → Nat} {l ver j n o : Nat} {s : am_I} {r : Rs} (h : RR b l ver σ s n o r) : RFr ver j n σ s := ⟨fun z a c => h.1.1 z a (by omega), h.1.2.1, fun z a c k hk => by rw [h.1.1 z (by omega) (by omega)], h.1.2.2.1⟩
theorem RX.mv {b : Nat → Nat} {l p q o ver n a : Nat} (h : RX b l p o ver n σ) (ha : a ≤ l) (hq : sk b l a = q) : RX b l q o ver n (am_u σ 160 57 (nI a)) := by
  obtain ⟨x1, x2, x3, x4, x5, x6⟩ := h
  refine ⟨x1.u (by decide), ⟨a, ha, u_at _ _ _ _, hq⟩, ?_, ?_, ?_, ?_⟩
  · rw [u_nk _ _ _ _ (by decide)]
    exact x3
  · rw [u_nk _ _ _ _ (by decide)]
    exact x4
  · rw [u_nk _ _ _ _ (by decide)]
    exact x5
  · rw [u_nk _ _ _ _ (by decide)]
    exact x6
theorem RX.w {b : Nat → Nat} {l p o ver n z k : Nat} {v : Int32} (h : RX b l p o ver n σ) (h1 : z ≠ 160) (h2 : z ≠ 203) : RX b l p o ver n (am_u σ z k v) := by
  obtain ⟨x1, x2, x3, x4, x5, x6⟩ := h
  have e : am_u σ z k v 160 = σ 160 := u_ne _ _ _ _ (fun q => h1 q.symm)
  unfold RX
  rw [e]
  exact ⟨x1.cg (by rw [e]) (u_ne _ _ _ _ (fun q => h2 q.symm)), x2, x3, x4, x5, x6⟩
theorem RX.n62 {b : Nat → Nat} {l p o ver n : Nat} {v : Int32} (h : RX b l p o ver n σ) : RX b l p o ver n (am_u σ 160 62 v) := by
  obtain ⟨x1, ⟨a, a1, a2, a3⟩, x3, x4, x5, x6⟩ := h
  refine ⟨x1.u (by decide), ⟨a, a1, ?_, a3⟩, ?_, ?_, ?_, ?_⟩
  · rw [u_nk _ _ _ _ (by decide)]
    exact a2
  · rw [u_nk _ _ _ _ (by decide)]
    exact x3
  · rw [u_nk _ _ _ _ (by decide)]
    exact x4
  · rw [u_nk _ _ _ _ (by decide)]
    exact x5
  · rw [u_nk _ _ _ _ (by decide)]
    exact x6
/-- a line's rows, as far as they are told before its condition -/
def L4 (j n : Nat) (s : am_I) (a1 a2 a3 : Int32) : Prop := s 182 j = a1 ∧ s 183 j = a2 ∧ s 184 j = a3 ∧ s 185 j = nI n
theorem L4.u {j n z k : Nat} {s : am_I} {a1 a2 a3 v : Int32} (h : L4 j n s a1 a2 a3) (hz : z < 182 ∨ 185 < z) : L4 j n (am_u s z k v) a1 a2 a3 := by
  unfold L4 at h ⊢
  rw [u_ne _ _ _ _ (by omega), u_ne _ _ _ _ (by omega), u_ne _ _ _ _ (by omega), u_ne _ _ _ _ (by omega)]
  exact h
def LQ (b : Nat → Nat) (l ver j n : Nat) (σ : am_I) (ρ : am_R) (g : am_J) (τ : am_T) (pc : Nat) (ls : List Value) (s1 : am_I) (R : Lr) : Prop :=
  (R.1 = false ∧ ∃ σ' : am_I, RFr ver j n σ σ' ∧ σ' 160 58 = nI R.2.1 ∧ ∀ (d : Nat) (Q : am_Q), AW (d + 28) 199 pc ls [] s1 ρ g τ Q = Q (some (.int 0)) σ' ρ g τ) ∨
  (R.1 = true ∧ ∃ σ' : am_I, RFr ver j n σ σ' ∧ RX b l R.2.1 0 ver (n + R.2.2.2.2.2.length) σ' ∧ L4 j n σ' (nI R.2.2.1) R.2.2.2.1 R.2.2.2.2.1 ∧ σ' 186 j = nI (n + R.2.2.2.2.2.length) ∧ (∀ k, k < R.2.2.2.2.2.length → σ' 187 (256 * ver + n + k) = nI (tk_M (R.2.2.2.2.2.getD k tk_no))) ∧ ∀ (d : Nat) (Q : am_Q), AW (d + 28) 199 pc ls [] s1 ρ g τ Q = Q (some (.int 1)) σ' ρ g τ)
theorem LQ.step {b : Nat → Nat} {l ver j n pc pc' : Nat} {ls ls' : List Value} {s1 s2 : am_I} {R : Lr} (h : LQ b l ver j n σ ρ g τ pc' ls' s2 R) (e : ∀ (d : Nat) (Q : am_Q), AW (d + 28) 199 pc ls [] s1 ρ g τ Q = AW (d + 28) 199 pc' ls' [] s2 ρ g τ Q) : LQ b l ver j n σ ρ g τ pc ls s1 R := by
  rcases h with ⟨h1, σ', h2, h3, h4⟩ | ⟨h1, σ', h2, h3, h4, h5, h6, h7⟩
  · exact Or.inl ⟨h1, σ', h2, h3, fun d Q => (e d Q).trans (h4 d Q)⟩
  · exact Or.inr ⟨h1, σ', h2, h3, h4, h5, h6, fun d Q => (e d Q).trans (h7 d Q)⟩
theorem LQ.bad {b : Nat → Nat} {l ver j n pc q : Nat} {ls : List Value} {s1 s2 : am_I} (h : RFr ver j n σ s2) (h2 : s2 160 58 = nI q) (e : ∀ (d : Nat) (Q : am_Q), AW (d + 28) 199 pc ls [] s1 ρ g τ Q = Q (some (.int 0)) s2 ρ g τ) : LQ b l ver j n σ ρ g τ pc ls s1 (pBad q) := Or.inl ⟨rfl, s2, h, h2, e⟩
/-- the reference's bad() where it looks at q -/
theorem c186x (hS : Sh ρ τ) {b : Nat → Nat} {l q o ver n n' j : Nat} {s : am_I} (hx : RX b l q o ver n' s) (hF : RFr ver j n σ s) : ∃ s2 : am_I, RFr ver j n σ s2 ∧ s2 160 58 = nI q ∧ ∀ (d : Nat) (g : am_J) (Q : am_Q), AW (d + 1) 186 0 [.ref 160] [] s ρ g τ Q = Q (some (.int 0)) s2 ρ g τ := by
  obtain ⟨x1, ⟨a, a1, a2, a3⟩, x3, _⟩ := hx
  refine ⟨_, ?_, ?_, fun d g Q => c186 hS x1 a1 a2 x3⟩
  · exact (hF.tr (RFr.u (by decide) (by decide))).tr (RFr.u (by decide) (by decide))
  · rw [u_at, a3]
theorem c199f (hS : Sh ρ τ) {b : Nat → Nat} {l ver j n i q s : Nat} {num sof : Int32} {ts : List Tk} {s1 : am_I} (hv8 : ver ≤ 8) (hj : j < 90) (hq : q ≤ l) (hF : RFr ver j n σ s1) (hx : RX b l q 0 ver (n + ts.length) s1) (h4 : L4 j n s1 (nI s) num sof) (hc : ∀ k, k < ts.length → s1 187 (256 * ver + n + k) = nI (tk_M (ts.getD k tk_no))) {x3 : Int32} : LQ b l ver j n σ ρ g τ 267 [.ref 160, .int (nI i), .int (nI j), .int x3] s1 (pEnd b l q s num sof ts) := by
  have ij : am_inb (nI j) 90 = true := inb_n hj (by decide)
  have cj : (nI j).toNatClampNeg = j := nI_clamp (by omega)
  have w61 := hx.2.2.2.2.2
  have F2 := hF.tr (RFr.w (ver := ver) (j := j) (n := n) (z := 186) (v := nI (n + ts.length)) (by decide) (by decide))
  have X2 := hx.w (z := 186) (k := j) (v := nI (n + ts.length)) (by decide) (by decide)
  have G2 := h4.u (z := 186) (k := j) (v := nI (n + ts.length)) (Or.inr (by decide))
  have e6 : am_u s1 186 j (nI (n + ts.length)) 186 j = nI (n + ts.length) := u_at _ _ _ _
  have c2 : ∀ k, k < ts.length → am_u s1 186 j (nI (n + ts.length)) 187 (256 * ver + n + k) = nI (tk_M (ts.getD k tk_no)) := fun k hk => by rw [u_ne _ _ _ _ (by decide)]; exact hc k hk
  generalize e2 : am_u s1 186 j (nI (n + ts.length)) = s2 at F2 X2 G2 e6 c2
  obtain ⟨a, a1, a2, a3⟩ := X2.2.1
  have qq : sk b l q = q := by rw [← a3]; exact sk_sk a1
  have O := fun (d : Nat) (g : am_J) (Q : am_Q) => c190 (d := d) (ρ := ρ) (g := g) (Q := Q) hS (c := 59) (by decide) (by decide) (by decide) X2.1 a1 a2 (y := 59) (by decide)
  rw [a3] at O
  unfold pEnd
  by_cases z : ot b l q 59 = true
  rotate_left
  · rw [if_neg z]
    have w : bI (ot b l q 59) = 0 := if_neg z
    have y : otA b l q 59 = q := if_neg z
    rw [y] at O
    have X3 := X2.mv hq qq
    have F3 := F2.tr (RFr.u (σ := s2) (ver := ver) (j := j) (n := n) (k := 57) (v := nI q) (by decide) (by decide))
    obtain ⟨s4, F4, k4, B⟩ := c186x hS X3 F3
    refine LQ.bad F4 k4 (fun d Q => ?_)
    simp only [s199_267, s199_268, s199_271, s199_272, s199_273, s199_276, s199_277, s199_278, s199_280, s199_283, s199_286, s199_287, s199_290, s199_297, s199_298, k_160 hS, k_161 hS, l_161 hS, k_162 hS, l_162 hS, k_163 hS, l_163 hS, k_164 hS, l_164 hS, k_165 hS, l_165 hS, k_166 hS, l_166 hS, k_167 hS, l_167 hS, k_168 hS, l_168 hS, k_169 hS, l_169 hS, k_170 hS, l_170 hS, k_171 hS, l_171 hS, k_172 hS, l_172 hS, k_173 hS, l_173 hS, k_174 hS, l_174 hS, k_175 hS, l_175 hS, k_176 hS, l_176 hS, k_177 hS, l_177 hS, k_178 hS, l_178 hS, k_179 hS, l_179 hS, k_180 hS, l_180 hS, k_181 hS, l_181 hS, k_182 hS, l_182 hS, k_183 hS, l_183 hS, k_184 hS, l_184 hS, k_185 hS, l_185 hS, k_186 hS, l_186 hS, k_187 hS, l_187 hS, k_188 hS, l_188 hS, k_189 hS, l_189 hS, k_190 hS, l_190 hS, k_191 hS, l_191 hS, k_192 hS, l_192 hS, k_193 hS, l_193 hS, k_194 hS, l_194 hS, k_195 hS, l_195 hS, k_196 hS, l_196 hS, k_197 hS, l_197 hS, k_198 hS, l_198 hS, k_199 hS, l_199 hS, k_200 hS, l_200 hS, k_201 hS, l_201 hS, k_202 hS, l_202 hS, k_203 hS, l_203 hS, k_204 hS, l_204 hS, k_205 hS, l_205 hS, k_206 hS, l_206 hS, k_207 hS, l_207 hS, k_208 hS, l_208 hS, k_209 hS, l_209 hS, k_210 hS, l_210 hS, k_211 hS, l_211 hS, k_212 hS, l_212 hS, k_213 hS, l_213 hS, k_214 hS, l_214 hS, k_215 hS, l_215 hS, k_216 hS, l_216 hS, k_217 hS, l_217 hS, k_218 hS, l_218 hS, k_219 hS, l_219 hS, k_220 hS, l_220 hS, r_160_0 hS, r_160_1 hS, r_160_2 hS, r_160_3 hS, r_160_4 hS, r_160_5 hS, r_160_6 hS, r_160_7 hS, r_160_8 hS, r_160_9 hS, r_160_10 hS, r_160_11 hS, r_160_12 hS, r_160_13 hS, r_160_14 hS, r_160_15 hS, r_160_16 hS, r_160_17 hS, r_160_18 hS, r_160_19 hS, r_160_20 hS, r_160_21 hS, r_160_22 hS, r_160_23 hS, r_160_24 hS, r_160_25 hS, r_160_26 hS, r_160_27 hS, r_160_28 hS, r_160_29 hS, r_160_30 hS, r_160_31 hS, r_160_32 hS, r_160_33 hS, r_160_34 hS, r_160_35 hS, r_160_36 hS, r_160_37 hS, r_160_38 hS, r_160_39 hS, r_160_40 hS, r_160_41 hS, r_160_43 hS, r_160_45 hS, r_160_46 hS, r_160_48 hS, r_160_49 hS, r_160_50 hS, r_160_51 hS, r_160_52 hS, r_160_53 hS, r_160_54 hS, r_160_56 hS, r_160_63 hS, r_160_64 hS, r_160_65 hS, r_160_66 hS, r_160_67 hS, r_160_68 hS, r_160_69 hS, ol_s, ol_n, ln_0, ln_1, ln_2, ln_3, ln_4, eq_self, rf_s, rf_n, i01_0, i01_n0, i01_b, b01_0, b01_1, and_self, and_true, true_and, and_false, false_and, if_true, if_false, not_true_eq_false, not_false_eq_true, e10, e00, lt_bg, Nat.reduceLT, Nat.reduceLeDiff, w61, ij, cj, e2, O, w, B]
  rw [if_pos z]
  have w := bI_t z
  have y : otA b l q 59 = te b l q := if_pos z
  rw [y] at O
  have X3 := X2.mv (a := te b l q) (q := nx b l q) (te_b (b := b) hq).2.1 rfl
  have F3 := F2.tr (RFr.u (σ := s2) (ver := ver) (j := j) (n := n) (k := 57) (v := nI (te b l q)) (by decide) (by decide))
  refine Or.inr ⟨rfl, _, F3, X3, G2.u (Or.inl (by decide)), ?_, fun k hk => ?_, fun d Q => ?_⟩
  · rw [u_ne _ _ _ _ (by decide)]
    exact e6
  · rw [u_ne _ _ _ _ (by decide)]
    exact c2 k hk
  · simp only [s199_267, s199_268, s199_271, s199_272, s199_273, s199_276, s199_277, s199_278, s199_280, s199_283, s199_293, s199_294, s199_297, s199_298, k_160 hS, k_161 hS, l_161 hS, k_162 hS, l_162 hS, k_163 hS, l_163 hS, k_164 hS, l_164 hS, k_165 hS, l_165 hS, k_166 hS, l_166 hS, k_167 hS, l_167 hS, k_168 hS, l_168 hS, k_169 hS, l_169 hS, k_170 hS, l_170 hS, k_171 hS, l_171 hS, k_172 hS, l_172 hS, k_173 hS, l_173 hS, k_174 hS, l_174 hS, k_175 hS, l_175 hS, k_176 hS, l_176 hS, k_177 hS, l_177 hS, k_178 hS, l_178 hS, k_179 hS, l_179 hS, k_180 hS, l_180 hS, k_181 hS, l_181 hS, k_182 hS, l_182 hS, k_183 hS, l_183 hS, k_184 hS, l_184 hS, k_185 hS, l_185 hS, k_186 hS, l_186 hS, k_187 hS, l_187 hS, k_188 hS, l_188 hS, k_189 hS, l_189 hS, k_190 hS, l_190 hS, k_191 hS, l_191 hS, k_192 hS, l_192 hS, k_193 hS, l_193 hS, k_194 hS, l_194 hS, k_195 hS, l_195 hS, k_196 hS, l_196 hS, k_197 hS, l_197 hS, k_198 hS, l_198 hS, k_199 hS, l_199 hS, k_200 hS, l_200 hS, k_201 hS, l_201 hS, k_202 hS, l_202 hS, k_203 hS, l_203 hS, k_204 hS, l_204 hS, k_205 hS, l_205 hS, k_206 hS, l_206 hS, k_207 hS, l_207 hS, k_208 hS, l_208 hS, k_209 hS, l_209 hS, k_210 hS, l_210 hS, k_211 hS, l_211 hS, k_212 hS, l_212 hS, k_213 hS, l_213 hS, k_214 hS, l_214 hS, k_215 hS, l_215 hS, k_216 hS, l_216 hS, k_217 hS, l_217 hS, k_218 hS, l_218 hS, k_219 hS, l_219 hS, k_220 hS, l_220 hS, r_160_0 hS, r_160_1 hS, r_160_2 hS, r_160_3 hS, r_160_4 hS, r_160_5 hS, r_160_6 hS, r_160_7 hS, r_160_8 hS, r_160_9 hS, r_160_10 hS, r_160_11 hS, r_160_12 hS, r_160_13 hS, r_160_14 hS, r_160_15 hS, r_160_16 hS, r_160_17 hS, r_160_18 hS, r_160_19 hS, r_160_20 hS, r_160_21 hS, r_160_22 hS, r_160_23 hS, r_160_24 hS, r_160_25 hS, r_160_26 hS, r_160_27 hS, r_160_28 hS, r_160_29 hS, r_160_30 hS, r_160_31 hS, r_160_32 hS, r_160_33 hS, r_160_34 hS, r_160_35 hS, r_160_36 hS, r_160_37 hS, r_160_38 hS, r_160_39 hS, r_160_40 hS, r_160_41 hS, r_160_43 hS, r_160_45 hS, r_160_46 hS, r_160_48 hS, r_160_49 hS, r_160_50 hS, r_160_51 hS, r_160_52 hS, r_160_53 hS, r_160_54 hS, r_160_56 hS, r_160_63 hS, r_160_64 hS, r_160_65 hS, r_160_66 hS, r_160_67 hS, r_160_68 hS, r_160_69 hS, ol_s, ol_n, ln_0, ln_1, ln_2, ln_3, ln_4, eq_self, rf_s, rf_n, i01_0, i01_n0, i01_b, b01_0, b01_1, and_self, and_true, true_and, and_false, false_and, if_true, if_false, not_true_eq_false, not_false_eq_true, e10, e00, lt_bg, Nat.reduceLT, Nat.reduceLeDiff, w61, ij, cj, e2, O, w]
/-- a condition, then the end -/
theorem c199c (hS : Sh ρ τ) (hb : Bgd σ τ) {b : Nat → Nat} {l ver j n i q s : Nat} {num : Int32} {s1 : am_I} (hv8 : ver ≤ 8) (hj : j < 90) (hq : q ≤ l) (hn : n < q) (hF : RFr ver j n σ s1) (hb1 : Bgd s1 τ) (hx : RX b l q 0 ver n s1) (h4 : L4 j n s1 (nI s) num (-9)) {x3 : Int32} {pc : Nat} (e : ∀ (s2 : am_I) (r : Int32), (∀ (d : Nat) (g : am_J) (Q : am_Q), AW (d + 27) 195 0 [.ref 160] [] s1 ρ g τ Q = Q (some (.int r)) s2 ρ g τ) → ∀ (d : Nat) (Q : am_Q), AW (d + 28) 199 pc [.ref 160, .int (nI i), .int (nI j), .int x3] [] s1 ρ g τ Q = if r = 0 then Q (some (.int 0)) s2 ρ g τ else AW (d + 28) 199 267 [.ref 160, .int (nI i), .int (nI j), .int x3] [] s2 ρ g τ Q) : LQ b l ver j n σ ρ g τ pc [.ref 160, .int (nI i), .int (nI j), .int x3] s1 (if (pcC b l 4 q).1 = true then pEnd b l (pcC b l 4 q).2.1 s num (-9) (pcC b l 4 q).2.2 else pBad (pcC b l 4 q).2.1) := by
  obtain ⟨s2, K2, R2⟩ := c195k hS (b := b) (l := l) hv8 q n s1 hq hn hx hb1
  have R2' : ∀ (d : Nat) (g : am_J) (Q : am_Q), AW (d + 27) 195 0 [.ref 160] [] s1 ρ g τ Q = Q (some (.int (bI (pcC b l 4 q).1))) s2 ρ g τ := fun d g Q => R2 d g Q
  have E := e s2 _ R2'
  obtain ⟨w1, w2, w3⟩ := pcC_wf (b := b) (k := 4) hq
  have F2 := hF.tr (RFr.rr (j := j) K2)
  generalize pcC b l 4 q = r at K2 E w1 w2 w3
  by_cases c : r.1 = true
  rotate_left
  · rw [if_neg c]
    have rb : bI r.1 = 0 := if_neg c
    have cf : r.1 = false := by
      cases z : r.1
      · rfl
      · exact absurd z c
    exact LQ.bad F2 (K2.2.2 cf) (fun d Q => (E d Q).trans (if_pos rb))
  rw [if_pos c]
  have rb : ¬ bI r.1 = 0 := by rw [bI_t c]; decide
  have X2 := K2.rx c hx
  obtain ⟨y1, y2, y3, y4, y5⟩ := K2.2.1 c
  have G2 : L4 j n s2 (nI s) num (-9) := by
    unfold L4 at h4 ⊢
    rw [K2.1.1 182 (by decide) (by decide), K2.1.1 183 (by decide) (by decide), K2.1.1 184 (by decide) (by decide), K2.1.1 185 (by decide) (by decide)]
    exact h4
  exact (c199f hS hv8 hj w2 F2 X2 G2 y5).step (fun d Q => (E d Q).trans (if_neg rb))
theorem c199m (hS : Sh ρ τ) (hb : Bgd σ τ) {b : Nat → Nat} {l ver j n i q s : Nat} {num : Int32} {s1 : am_I} (hv8 : ver ≤ 8) (hj : j < 90) (hs : s < 5) (hq : q ≤ l) (hn : n < q) (hF : RFr ver j n σ s1) (hb1 : Bgd s1 τ) (hx : RX b l q 0 ver n s1) (h4 : L4 j n s1 (nI s) num (-9)) : LQ b l ver j n σ ρ g τ 170 [.ref 160, .int (nI i), .int (nI j), .int (nI s)] s1 (pCnd b l q s num) := by
  have E3 := nI_eqp (a := s) (b := 3) (by omega) (by decide)
  have e3 : nI 3 = (3 : Int32) := by decide
  rw [e3] at E3
  have E2 := nI_eqp (a := s) (b := 2) (by omega) (by decide)
  have e2 : nI 2 = (2 : Int32) := by decide
  rw [e2] at E2
  obtain ⟨n1, n2, n3⟩ := nx_b (b := b) hq
  obtain ⟨m1, m2, m3⟩ := nx_b (b := b) n2
  obtain ⟨t1, t2, _⟩ := te_b (b := b) hq
  obtain ⟨a, a1, a2, a3⟩ := hx.2.1
  have qq : sk b l q = q := by rw [← a3]; exact sk_sk a1
  have ij : am_inb (nI j) 90 = true := inb_n hj (by decide)
  have cj : (nI j).toNatClampNeg = j := nI_clamp (by omega)
  have FQ := hF.tr (RFr.u (σ := s1) (ver := ver) (j := j) (n := n) (k := 57) (v := nI q) (by decide) (by decide))
  have XQ := hx.mv hq qq
  have GQ := h4.u (z := 160) (k := 57) (v := nI q) (Or.inl (by decide))
  have FT := hF.tr (RFr.u (σ := s1) (ver := ver) (j := j) (n := n) (k := 57) (v := nI (te b l q)) (by decide) (by decide))
  have XT := hx.mv (a := te b l q) (q := nx b l q) t2 rfl
  have GT := h4.u (z := 160) (k := 57) (v := nI (te b l q)) (Or.inl (by decide))
  have bT : Bgd (am_u s1 160 57 (nI (te b l q))) τ := hb1.u
  by_cases y : s = 3
  · have E3 := E3.trans (eq_true y)
    have N := fun (d : Nat) (g : am_J) (Q : am_Q) => c189n (d := d) (g := g) (Q := Q) hS hb1 hx.1 a1 a2 (i := 5) (N := am_BG + 27) (by decide) rfl
    rw [a3] at N
    unfold pCnd
    rw [if_pos y]
    by_cases c : nm b l q 5 = true
    rotate_left
    · rw [if_neg c]
      have w : bI (nm b l q 5) = 0 := if_neg c
      have v : nmA b l q 5 = q := if_neg c
      rw [v] at N
      obtain ⟨s4, F4, k4, B⟩ := c186x hS XQ FQ
      refine LQ.bad F4 k4 (fun d Q => ?_)
      simp only [s199_170, s199_171, s199_172, s199_175, s199_176, s199_179, s199_182, s199_185, s199_186, s199_189, k_160 hS, k_161 hS, l_161 hS, k_162 hS, l_162 hS, k_163 hS, l_163 hS, k_164 hS, l_164 hS, k_165 hS, l_165 hS, k_166 hS, l_166 hS, k_167 hS, l_167 hS, k_168 hS, l_168 hS, k_169 hS, l_169 hS, k_170 hS, l_170 hS, k_171 hS, l_171 hS, k_172 hS, l_172 hS, k_173 hS, l_173 hS, k_174 hS, l_174 hS, k_175 hS, l_175 hS, k_176 hS, l_176 hS, k_177 hS, l_177 hS, k_178 hS, l_178 hS, k_179 hS, l_179 hS, k_180 hS, l_180 hS, k_181 hS, l_181 hS, k_182 hS, l_182 hS, k_183 hS, l_183 hS, k_184 hS, l_184 hS, k_185 hS, l_185 hS, k_186 hS, l_186 hS, k_187 hS, l_187 hS, k_188 hS, l_188 hS, k_189 hS, l_189 hS, k_190 hS, l_190 hS, k_191 hS, l_191 hS, k_192 hS, l_192 hS, k_193 hS, l_193 hS, k_194 hS, l_194 hS, k_195 hS, l_195 hS, k_196 hS, l_196 hS, k_197 hS, l_197 hS, k_198 hS, l_198 hS, k_199 hS, l_199 hS, k_200 hS, l_200 hS, k_201 hS, l_201 hS, k_202 hS, l_202 hS, k_203 hS, l_203 hS, k_204 hS, l_204 hS, k_205 hS, l_205 hS, k_206 hS, l_206 hS, k_207 hS, l_207 hS, k_208 hS, l_208 hS, k_209 hS, l_209 hS, k_210 hS, l_210 hS, k_211 hS, l_211 hS, k_212 hS, l_212 hS, k_213 hS, l_213 hS, k_214 hS, l_214 hS, k_215 hS, l_215 hS, k_216 hS, l_216 hS, k_217 hS, l_217 hS, k_218 hS, l_218 hS, k_219 hS, l_219 hS, k_220 hS, l_220 hS, r_160_0 hS, r_160_1 hS, r_160_2 hS, r_160_3 hS, r_160_4 hS, r_160_5 hS, r_160_6 hS, r_160_7 hS, r_160_8 hS, r_160_9 hS, r_160_10 hS, r_160_11 hS, r_160_12 hS, r_160_13 hS, r_160_14 hS, r_160_15 hS, r_160_16 hS, r_160_17 hS, r_160_18 hS, r_160_19 hS, r_160_20 hS, r_160_21 hS, r_160_22 hS, r_160_23 hS, r_160_24 hS, r_160_25 hS, r_160_26 hS, r_160_27 hS, r_160_28 hS, r_160_29 hS, r_160_30 hS, r_160_31 hS, r_160_32 hS, r_160_33 hS, r_160_34 hS, r_160_35 hS, r_160_36 hS, r_160_37 hS, r_160_38 hS, r_160_39 hS, r_160_40 hS, r_160_41 hS, r_160_43 hS, r_160_45 hS, r_160_46 hS, r_160_48 hS, r_160_49 hS, r_160_50 hS, r_160_51 hS, r_160_52 hS, r_160_53 hS, r_160_54 hS, r_160_56 hS, r_160_63 hS, r_160_64 hS, r_160_65 hS, r_160_66 hS, r_160_67 hS, r_160_68 hS, r_160_69 hS, ol_s, ol_n, ln_0, ln_1, ln_2, ln_3, ln_4, eq_self, rf_s, rf_n, i01_0, i01_n0, i01_b, b01_0, b01_1, and_self, and_true, true_and, and_false, false_and, if_true, if_false, not_true_eq_false, not_false_eq_true, e10, e00, lt_bg, Nat.reduceLT, Nat.reduceLeDiff, E3, N, w, B]
    rw [if_pos c]
    have w := bI_t c
    have v : nmA b l q 5 = te b l q := if_pos c
    rw [v] at N
    have n3 := n3 (nm_kd c)
    have S := fun (d : Nat) (g : am_J) (Q : am_Q) => c193 (d := d) (g := g) (Q := Q) hS bT XT.1 t2 (u_at _ _ _ _) (p := nx b l q) rfl
    have nn : sk b l (nx b l q) = nx b l q := sk_sk t2
    generalize am_u s1 160 57 (nI (te b l q)) = s2 at N S FT XT GT bT
    by_cases f : srt b l (nx b l q) < 3
    rotate_left
    · rw [if_neg f]
      rw [if_neg f] at S
      have r : rI (srt b l (nx b l q)) 3 = -1 := if_neg f
      rw [r] at S
      have lt : ((0 : Int32) ≤ -1) = False := by decide
      have F3 := FT.tr (RFr.u (σ := s2) (ver := ver) (j := j) (n := n) (k := 57) (v := nI (nx b l q)) (by decide) (by decide))
      have X3 := XT.mv n2 nn
      generalize am_u s2 160 57 (nI (nx b l q)) = s3 at S F3 X3
      have F4 := F3.tr (RFr.w (σ := s3) (ver := ver) (j := j) (n := n) (z := 184) (v := -1) (by decide) (by decide))
      have X4 := X3.w (z := 184) (k := j) (v := -1) (by decide) (by decide)
      have e4 : am_u s3 184 j (-1) 184 j = -1 := u_at _ _ _ _
      generalize e5 : am_u s3 184 j (-1) = s4 at F4 X4 e4
      obtain ⟨s5, F5, k5, B⟩ := c186x hS X4 F4
      refine LQ.bad F5 k5 (fun d Q => ?_)
      simp only [s199_170, s199_171, s199_172, s199_175, s199_176, s199_179, s199_182, s199_190, s199_191, s199_194, s199_195, s199_196, s199_199, s199_200, s199_201, s199_204, s199_205, s199_206, s199_209, s199_210, s199_213, k_160 hS, k_161 hS, l_161 hS, k_162 hS, l_162 hS, k_163 hS, l_163 hS, k_164 hS, l_164 hS, k_165 hS, l_165 hS, k_166 hS, l_166 hS, k_167 hS, l_167 hS, k_168 hS, l_168 hS, k_169 hS, l_169 hS, k_170 hS, l_170 hS, k_171 hS, l_171 hS, k_172 hS, l_172 hS, k_173 hS, l_173 hS, k_174 hS, l_174 hS, k_175 hS, l_175 hS, k_176 hS, l_176 hS, k_177 hS, l_177 hS, k_178 hS, l_178 hS, k_179 hS, l_179 hS, k_180 hS, l_180 hS, k_181 hS, l_181 hS, k_182 hS, l_182 hS, k_183 hS, l_183 hS, k_184 hS, l_184 hS, k_185 hS, l_185 hS, k_186 hS, l_186 hS, k_187 hS, l_187 hS, k_188 hS, l_188 hS, k_189 hS, l_189 hS, k_190 hS, l_190 hS, k_191 hS, l_191 hS, k_192 hS, l_192 hS, k_193 hS, l_193 hS, k_194 hS, l_194 hS, k_195 hS, l_195 hS, k_196 hS, l_196 hS, k_197 hS, l_197 hS, k_198 hS, l_198 hS, k_199 hS, l_199 hS, k_200 hS, l_200 hS, k_201 hS, l_201 hS, k_202 hS, l_202 hS, k_203 hS, l_203 hS, k_204 hS, l_204 hS, k_205 hS, l_205 hS, k_206 hS, l_206 hS, k_207 hS, l_207 hS, k_208 hS, l_208 hS, k_209 hS, l_209 hS, k_210 hS, l_210 hS, k_211 hS, l_211 hS, k_212 hS, l_212 hS, k_213 hS, l_213 hS, k_214 hS, l_214 hS, k_215 hS, l_215 hS, k_216 hS, l_216 hS, k_217 hS, l_217 hS, k_218 hS, l_218 hS, k_219 hS, l_219 hS, k_220 hS, l_220 hS, r_160_0 hS, r_160_1 hS, r_160_2 hS, r_160_3 hS, r_160_4 hS, r_160_5 hS, r_160_6 hS, r_160_7 hS, r_160_8 hS, r_160_9 hS, r_160_10 hS, r_160_11 hS, r_160_12 hS, r_160_13 hS, r_160_14 hS, r_160_15 hS, r_160_16 hS, r_160_17 hS, r_160_18 hS, r_160_19 hS, r_160_20 hS, r_160_21 hS, r_160_22 hS, r_160_23 hS, r_160_24 hS, r_160_25 hS, r_160_26 hS, r_160_27 hS, r_160_28 hS, r_160_29 hS, r_160_30 hS, r_160_31 hS, r_160_32 hS, r_160_33 hS, r_160_34 hS, r_160_35 hS, r_160_36 hS, r_160_37 hS, r_160_38 hS, r_160_39 hS, r_160_40 hS, r_160_41 hS, r_160_43 hS, r_160_45 hS, r_160_46 hS, r_160_48 hS, r_160_49 hS, r_160_50 hS, r_160_51 hS, r_160_52 hS, r_160_53 hS, r_160_54 hS, r_160_56 hS, r_160_63 hS, r_160_64 hS, r_160_65 hS, r_160_66 hS, r_160_67 hS, r_160_68 hS, r_160_69 hS, ol_s, ol_n, ln_0, ln_1, ln_2, ln_3, ln_4, eq_self, rf_s, rf_n, i01_0, i01_n0, i01_b, b01_0, b01_1, and_self, and_true, true_and, and_false, false_and, if_true, if_false, not_true_eq_false, not_false_eq_true, e10, e00, lt_bg, Nat.reduceLT, Nat.reduceLeDiff, E3, N, w, S, ij, cj, e5, e4, lt, B]
    rw [if_pos f]
    rw [if_pos f] at S
    have r : rI (srt b l (nx b l q)) 3 = nI (srt b l (nx b l q)) := if_pos f
    rw [r] at S
    have ge : 0 ≤ nI (srt b l (nx b l q)) := nI_le (a := 0) (Nat.zero_le _) (by omega)
    have t4 := (te_b (b := b) n2).2.1
    have F3 := FT.tr (RFr.u (σ := s2) (ver := ver) (j := j) (n := n) (k := 57) (v := nI (te b l (nx b l q))) (by decide) (by decide))
    have X3 := XT.mv (a := te b l (nx b l q)) (q := nx b l (nx b l q)) t4 rfl
    have G3 := GT.u (z := 160) (k := 57) (v := nI (te b l (nx b l q))) (Or.inl (by decide))
    generalize am_u s2 160 57 (nI (te b l (nx b l q))) = s3 at S F3 X3 G3
    have F4 := F3.tr (RFr.w (σ := s3) (ver := ver) (j := j) (n := n) (z := 184) (v := nI (srt b l (nx b l q))) (by decide) (by decide))
    have X4 := X3.w (z := 184) (k := j) (v := nI (srt b l (nx b l q))) (by decide) (by decide)
    have G4 : L4 j n (am_u s3 184 j (nI (srt b l (nx b l q)))) (nI s) num (nI (srt b l (nx b l q))) := by
      unfold L4 at G3 ⊢
      rw [u_ne _ _ _ _ (by decide), u_ne _ _ _ _ (by decide), u_at, u_ne _ _ _ _ (by decide)]
      exact ⟨G3.1, G3.2.1, rfl, G3.2.2.2⟩
    have e4 : am_u s3 184 j (nI (srt b l (nx b l q))) 184 j = nI (srt b l (nx b l q)) := u_at _ _ _ _
    generalize e5 : am_u s3 184 j (nI (srt b l (nx b l q))) = s4 at F4 X4 e4 G4
    refine (c199f (ts := []) (i := i) (x3 := nI s) hS hv8 hj m2 F4 X4 G4 (fun k hk => absurd hk (Nat.not_lt_zero _))).step (fun d Q => ?_)
    simp only [s199_170, s199_171, s199_172, s199_175, s199_176, s199_179, s199_182, s199_190, s199_191, s199_194, s199_195, s199_196, s199_199, s199_200, s199_201, s199_204, s199_205, s199_206, k_160 hS, k_161 hS, l_161 hS, k_162 hS, l_162 hS, k_163 hS, l_163 hS, k_164 hS, l_164 hS, k_165 hS, l_165 hS, k_166 hS, l_166 hS, k_167 hS, l_167 hS, k_168 hS, l_168 hS, k_169 hS, l_169 hS, k_170 hS, l_170 hS, k_171 hS, l_171 hS, k_172 hS, l_172 hS, k_173 hS, l_173 hS, k_174 hS, l_174 hS, k_175 hS, l_175 hS, k_176 hS, l_176 hS, k_177 hS, l_177 hS, k_178 hS, l_178 hS, k_179 hS, l_179 hS, k_180 hS, l_180 hS, k_181 hS, l_181 hS, k_182 hS, l_182 hS, k_183 hS, l_183 hS, k_184 hS, l_184 hS, k_185 hS, l_185 hS, k_186 hS, l_186 hS, k_187 hS, l_187 hS, k_188 hS, l_188 hS, k_189 hS, l_189 hS, k_190 hS, l_190 hS, k_191 hS, l_191 hS, k_192 hS, l_192 hS, k_193 hS, l_193 hS, k_194 hS, l_194 hS, k_195 hS, l_195 hS, k_196 hS, l_196 hS, k_197 hS, l_197 hS, k_198 hS, l_198 hS, k_199 hS, l_199 hS, k_200 hS, l_200 hS, k_201 hS, l_201 hS, k_202 hS, l_202 hS, k_203 hS, l_203 hS, k_204 hS, l_204 hS, k_205 hS, l_205 hS, k_206 hS, l_206 hS, k_207 hS, l_207 hS, k_208 hS, l_208 hS, k_209 hS, l_209 hS, k_210 hS, l_210 hS, k_211 hS, l_211 hS, k_212 hS, l_212 hS, k_213 hS, l_213 hS, k_214 hS, l_214 hS, k_215 hS, l_215 hS, k_216 hS, l_216 hS, k_217 hS, l_217 hS, k_218 hS, l_218 hS, k_219 hS, l_219 hS, k_220 hS, l_220 hS, r_160_0 hS, r_160_1 hS, r_160_2 hS, r_160_3 hS, r_160_4 hS, r_160_5 hS, r_160_6 hS, r_160_7 hS, r_160_8 hS, r_160_9 hS, r_160_10 hS, r_160_11 hS, r_160_12 hS, r_160_13 hS, r_160_14 hS, r_160_15 hS, r_160_16 hS, r_160_17 hS, r_160_18 hS, r_160_19 hS, r_160_20 hS, r_160_21 hS, r_160_22 hS, r_160_23 hS, r_160_24 hS, r_160_25 hS, r_160_26 hS, r_160_27 hS, r_160_28 hS, r_160_29 hS, r_160_30 hS, r_160_31 hS, r_160_32 hS, r_160_33 hS, r_160_34 hS, r_160_35 hS, r_160_36 hS, r_160_37 hS, r_160_38 hS, r_160_39 hS, r_160_40 hS, r_160_41 hS, r_160_43 hS, r_160_45 hS, r_160_46 hS, r_160_48 hS, r_160_49 hS, r_160_50 hS, r_160_51 hS, r_160_52 hS, r_160_53 hS, r_160_54 hS, r_160_56 hS, r_160_63 hS, r_160_64 hS, r_160_65 hS, r_160_66 hS, r_160_67 hS, r_160_68 hS, r_160_69 hS, ol_s, ol_n, ln_0, ln_1, ln_2, ln_3, ln_4, eq_self, rf_s, rf_n, i01_0, i01_n0, i01_b, b01_0, b01_1, and_self, and_true, true_and, and_false, false_and, if_true, if_false, not_true_eq_false, not_false_eq_true, e10, e00, lt_bg, Nat.reduceLT, Nat.reduceLeDiff, E3, N, w, S, ij, cj, e5, e4, ge]
  have E3 := E3.trans (eq_false y)
  have N := fun (d : Nat) (g : am_J) (Q : am_Q) => c189n (d := d) (g := g) (Q := Q) hS hb1 hx.1 a1 a2 (i := 9) (N := am_BG + 31) (by decide) rfl
  rw [a3] at N
  unfold pCnd
  rw [if_neg y]
  by_cases s4 : s = 4
  · rw [if_neg (fun z => z.1 s4), if_neg (by omega)]
    have E2 := E2.trans (eq_false (by omega))
    have ge : (2 : Int32) ≤ nI s := by rw [← e2]; exact nI_le (by omega) (by omega)
    refine (c199f (ts := []) (i := i) (x3 := nI s) hS hv8 hj hq hF hx h4 (fun k hk => absurd hk (Nat.not_lt_zero _))).step (fun d Q => ?_)
    simp only [s199_170, s199_171, s199_172, s199_214, s199_215, s199_216, s199_243, s199_244, s199_245, k_160 hS, k_161 hS, l_161 hS, k_162 hS, l_162 hS, k_163 hS, l_163 hS, k_164 hS, l_164 hS, k_165 hS, l_165 hS, k_166 hS, l_166 hS, k_167 hS, l_167 hS, k_168 hS, l_168 hS, k_169 hS, l_169 hS, k_170 hS, l_170 hS, k_171 hS, l_171 hS, k_172 hS, l_172 hS, k_173 hS, l_173 hS, k_174 hS, l_174 hS, k_175 hS, l_175 hS, k_176 hS, l_176 hS, k_177 hS, l_177 hS, k_178 hS, l_178 hS, k_179 hS, l_179 hS, k_180 hS, l_180 hS, k_181 hS, l_181 hS, k_182 hS, l_182 hS, k_183 hS, l_183 hS, k_184 hS, l_184 hS, k_185 hS, l_185 hS, k_186 hS, l_186 hS, k_187 hS, l_187 hS, k_188 hS, l_188 hS, k_189 hS, l_189 hS, k_190 hS, l_190 hS, k_191 hS, l_191 hS, k_192 hS, l_192 hS, k_193 hS, l_193 hS, k_194 hS, l_194 hS, k_195 hS, l_195 hS, k_196 hS, l_196 hS, k_197 hS, l_197 hS, k_198 hS, l_198 hS, k_199 hS, l_199 hS, k_200 hS, l_200 hS, k_201 hS, l_201 hS, k_202 hS, l_202 hS, k_203 hS, l_203 hS, k_204 hS, l_204 hS, k_205 hS, l_205 hS, k_206 hS, l_206 hS, k_207 hS, l_207 hS, k_208 hS, l_208 hS, k_209 hS, l_209 hS, k_210 hS, l_210 hS, k_211 hS, l_211 hS, k_212 hS, l_212 hS, k_213 hS, l_213 hS, k_214 hS, l_214 hS, k_215 hS, l_215 hS, k_216 hS, l_216 hS, k_217 hS, l_217 hS, k_218 hS, l_218 hS, k_219 hS, l_219 hS, k_220 hS, l_220 hS, r_160_0 hS, r_160_1 hS, r_160_2 hS, r_160_3 hS, r_160_4 hS, r_160_5 hS, r_160_6 hS, r_160_7 hS, r_160_8 hS, r_160_9 hS, r_160_10 hS, r_160_11 hS, r_160_12 hS, r_160_13 hS, r_160_14 hS, r_160_15 hS, r_160_16 hS, r_160_17 hS, r_160_18 hS, r_160_19 hS, r_160_20 hS, r_160_21 hS, r_160_22 hS, r_160_23 hS, r_160_24 hS, r_160_25 hS, r_160_26 hS, r_160_27 hS, r_160_28 hS, r_160_29 hS, r_160_30 hS, r_160_31 hS, r_160_32 hS, r_160_33 hS, r_160_34 hS, r_160_35 hS, r_160_36 hS, r_160_37 hS, r_160_38 hS, r_160_39 hS, r_160_40 hS, r_160_41 hS, r_160_43 hS, r_160_45 hS, r_160_46 hS, r_160_48 hS, r_160_49 hS, r_160_50 hS, r_160_51 hS, r_160_52 hS, r_160_53 hS, r_160_54 hS, r_160_56 hS, r_160_63 hS, r_160_64 hS, r_160_65 hS, r_160_66 hS, r_160_67 hS, r_160_68 hS, r_160_69 hS, ol_s, ol_n, ln_0, ln_1, ln_2, ln_3, ln_4, eq_self, rf_s, rf_n, i01_0, i01_n0, i01_b, b01_0, b01_1, and_self, and_true, true_and, and_false, false_and, if_true, if_false, not_true_eq_false, not_false_eq_true, e10, e00, lt_bg, Nat.reduceLT, Nat.reduceLeDiff, E3, E2, ge]
  by_cases c : nm b l q 9 = true
  rotate_left
  · rw [if_neg (fun z => c z.2)]
    have w : bI (nm b l q 9) = 0 := if_neg c
    have v : nmA b l q 9 = q := if_neg c
    rw [v] at N
    by_cases f : s = 2
    · rw [if_pos f]
      have E2 := E2.trans (eq_true f)
      obtain ⟨s4, F4, k4, B⟩ := c186x hS XQ FQ
      refine LQ.bad F4 k4 (fun d Q => ?_)
      simp only [s199_170, s199_171, s199_172, s199_214, s199_215, s199_216, s199_219, s199_220, s199_223, s199_226, s199_229, s199_230, s199_233, k_160 hS, k_161 hS, l_161 hS, k_162 hS, l_162 hS, k_163 hS, l_163 hS, k_164 hS, l_164 hS, k_165 hS, l_165 hS, k_166 hS, l_166 hS, k_167 hS, l_167 hS, k_168 hS, l_168 hS, k_169 hS, l_169 hS, k_170 hS, l_170 hS, k_171 hS, l_171 hS, k_172 hS, l_172 hS, k_173 hS, l_173 hS, k_174 hS, l_174 hS, k_175 hS, l_175 hS, k_176 hS, l_176 hS, k_177 hS, l_177 hS, k_178 hS, l_178 hS, k_179 hS, l_179 hS, k_180 hS, l_180 hS, k_181 hS, l_181 hS, k_182 hS, l_182 hS, k_183 hS, l_183 hS, k_184 hS, l_184 hS, k_185 hS, l_185 hS, k_186 hS, l_186 hS, k_187 hS, l_187 hS, k_188 hS, l_188 hS, k_189 hS, l_189 hS, k_190 hS, l_190 hS, k_191 hS, l_191 hS, k_192 hS, l_192 hS, k_193 hS, l_193 hS, k_194 hS, l_194 hS, k_195 hS, l_195 hS, k_196 hS, l_196 hS, k_197 hS, l_197 hS, k_198 hS, l_198 hS, k_199 hS, l_199 hS, k_200 hS, l_200 hS, k_201 hS, l_201 hS, k_202 hS, l_202 hS, k_203 hS, l_203 hS, k_204 hS, l_204 hS, k_205 hS, l_205 hS, k_206 hS, l_206 hS, k_207 hS, l_207 hS, k_208 hS, l_208 hS, k_209 hS, l_209 hS, k_210 hS, l_210 hS, k_211 hS, l_211 hS, k_212 hS, l_212 hS, k_213 hS, l_213 hS, k_214 hS, l_214 hS, k_215 hS, l_215 hS, k_216 hS, l_216 hS, k_217 hS, l_217 hS, k_218 hS, l_218 hS, k_219 hS, l_219 hS, k_220 hS, l_220 hS, r_160_0 hS, r_160_1 hS, r_160_2 hS, r_160_3 hS, r_160_4 hS, r_160_5 hS, r_160_6 hS, r_160_7 hS, r_160_8 hS, r_160_9 hS, r_160_10 hS, r_160_11 hS, r_160_12 hS, r_160_13 hS, r_160_14 hS, r_160_15 hS, r_160_16 hS, r_160_17 hS, r_160_18 hS, r_160_19 hS, r_160_20 hS, r_160_21 hS, r_160_22 hS, r_160_23 hS, r_160_24 hS, r_160_25 hS, r_160_26 hS, r_160_27 hS, r_160_28 hS, r_160_29 hS, r_160_30 hS, r_160_31 hS, r_160_32 hS, r_160_33 hS, r_160_34 hS, r_160_35 hS, r_160_36 hS, r_160_37 hS, r_160_38 hS, r_160_39 hS, r_160_40 hS, r_160_41 hS, r_160_43 hS, r_160_45 hS, r_160_46 hS, r_160_48 hS, r_160_49 hS, r_160_50 hS, r_160_51 hS, r_160_52 hS, r_160_53 hS, r_160_54 hS, r_160_56 hS, r_160_63 hS, r_160_64 hS, r_160_65 hS, r_160_66 hS, r_160_67 hS, r_160_68 hS, r_160_69 hS, ol_s, ol_n, ln_0, ln_1, ln_2, ln_3, ln_4, eq_self, rf_s, rf_n, i01_0, i01_n0, i01_b, b01_0, b01_1, and_self, and_true, true_and, and_false, false_and, if_true, if_false, not_true_eq_false, not_false_eq_true, e10, e00, lt_bg, Nat.reduceLT, Nat.reduceLeDiff, E3, E2, N, w, B]
    · rw [if_neg f]
      have E2 := E2.trans (eq_false f)
      have lt : ¬ (2 : Int32) ≤ nI s := by rw [← e2]; exact nI_ge (by omega) (by omega)
      refine (c199f (ts := []) (i := i) (x3 := nI s) hS hv8 hj hq FQ XQ GQ (fun k hk => absurd hk (Nat.not_lt_zero _))).step (fun d Q => ?_)
      simp only [s199_170, s199_171, s199_172, s199_214, s199_215, s199_216, s199_243, s199_244, s199_245, s199_248, s199_249, s199_252, s199_255, k_160 hS, k_161 hS, l_161 hS, k_162 hS, l_162 hS, k_163 hS, l_163 hS, k_164 hS, l_164 hS, k_165 hS, l_165 hS, k_166 hS, l_166 hS, k_167 hS, l_167 hS, k_168 hS, l_168 hS, k_169 hS, l_169 hS, k_170 hS, l_170 hS, k_171 hS, l_171 hS, k_172 hS, l_172 hS, k_173 hS, l_173 hS, k_174 hS, l_174 hS, k_175 hS, l_175 hS, k_176 hS, l_176 hS, k_177 hS, l_177 hS, k_178 hS, l_178 hS, k_179 hS, l_179 hS, k_180 hS, l_180 hS, k_181 hS, l_181 hS, k_182 hS, l_182 hS, k_183 hS, l_183 hS, k_184 hS, l_184 hS, k_185 hS, l_185 hS, k_186 hS, l_186 hS, k_187 hS, l_187 hS, k_188 hS, l_188 hS, k_189 hS, l_189 hS, k_190 hS, l_190 hS, k_191 hS, l_191 hS, k_192 hS, l_192 hS, k_193 hS, l_193 hS, k_194 hS, l_194 hS, k_195 hS, l_195 hS, k_196 hS, l_196 hS, k_197 hS, l_197 hS, k_198 hS, l_198 hS, k_199 hS, l_199 hS, k_200 hS, l_200 hS, k_201 hS, l_201 hS, k_202 hS, l_202 hS, k_203 hS, l_203 hS, k_204 hS, l_204 hS, k_205 hS, l_205 hS, k_206 hS, l_206 hS, k_207 hS, l_207 hS, k_208 hS, l_208 hS, k_209 hS, l_209 hS, k_210 hS, l_210 hS, k_211 hS, l_211 hS, k_212 hS, l_212 hS, k_213 hS, l_213 hS, k_214 hS, l_214 hS, k_215 hS, l_215 hS, k_216 hS, l_216 hS, k_217 hS, l_217 hS, k_218 hS, l_218 hS, k_219 hS, l_219 hS, k_220 hS, l_220 hS, r_160_0 hS, r_160_1 hS, r_160_2 hS, r_160_3 hS, r_160_4 hS, r_160_5 hS, r_160_6 hS, r_160_7 hS, r_160_8 hS, r_160_9 hS, r_160_10 hS, r_160_11 hS, r_160_12 hS, r_160_13 hS, r_160_14 hS, r_160_15 hS, r_160_16 hS, r_160_17 hS, r_160_18 hS, r_160_19 hS, r_160_20 hS, r_160_21 hS, r_160_22 hS, r_160_23 hS, r_160_24 hS, r_160_25 hS, r_160_26 hS, r_160_27 hS, r_160_28 hS, r_160_29 hS, r_160_30 hS, r_160_31 hS, r_160_32 hS, r_160_33 hS, r_160_34 hS, r_160_35 hS, r_160_36 hS, r_160_37 hS, r_160_38 hS, r_160_39 hS, r_160_40 hS, r_160_41 hS, r_160_43 hS, r_160_45 hS, r_160_46 hS, r_160_48 hS, r_160_49 hS, r_160_50 hS, r_160_51 hS, r_160_52 hS, r_160_53 hS, r_160_54 hS, r_160_56 hS, r_160_63 hS, r_160_64 hS, r_160_65 hS, r_160_66 hS, r_160_67 hS, r_160_68 hS, r_160_69 hS, ol_s, ol_n, ln_0, ln_1, ln_2, ln_3, ln_4, eq_self, rf_s, rf_n, i01_0, i01_n0, i01_b, b01_0, b01_1, and_self, and_true, true_and, and_false, false_and, if_true, if_false, not_true_eq_false, not_false_eq_true, e10, e00, lt_bg, Nat.reduceLT, Nat.reduceLeDiff, E3, E2, lt, N, w]
  rw [if_pos ⟨s4, c⟩]
  have w := bI_t c
  have v : nmA b l q 9 = te b l q := if_pos c
  rw [v] at N
  have n3 := n3 (nm_kd c)
  by_cases f : s = 2
  · have E2 := E2.trans (eq_true f)
    refine (c199c (i := i) (x3 := nI s) (pc := 234) hS hb hv8 hj n2 (by omega) FT bT XT GT (fun s2 r H d Q => ?_)).step (fun d Q => ?_)
    · by_cases z : r = 0
      · rw [if_pos z]
        simp only [s199_234, s199_235, s199_238, s199_241, s199_242, k_160 hS, k_161 hS, l_161 hS, k_162 hS, l_162 hS, k_163 hS, l_163 hS, k_164 hS, l_164 hS, k_165 hS, l_165 hS, k_166 hS, l_166 hS, k_167 hS, l_167 hS, k_168 hS, l_168 hS, k_169 hS, l_169 hS, k_170 hS, l_170 hS, k_171 hS, l_171 hS, k_172 hS, l_172 hS, k_173 hS, l_173 hS, k_174 hS, l_174 hS, k_175 hS, l_175 hS, k_176 hS, l_176 hS, k_177 hS, l_177 hS, k_178 hS, l_178 hS, k_179 hS, l_179 hS, k_180 hS, l_180 hS, k_181 hS, l_181 hS, k_182 hS, l_182 hS, k_183 hS, l_183 hS, k_184 hS, l_184 hS, k_185 hS, l_185 hS, k_186 hS, l_186 hS, k_187 hS, l_187 hS, k_188 hS, l_188 hS, k_189 hS, l_189 hS, k_190 hS, l_190 hS, k_191 hS, l_191 hS, k_192 hS, l_192 hS, k_193 hS, l_193 hS, k_194 hS, l_194 hS, k_195 hS, l_195 hS, k_196 hS, l_196 hS, k_197 hS, l_197 hS, k_198 hS, l_198 hS, k_199 hS, l_199 hS, k_200 hS, l_200 hS, k_201 hS, l_201 hS, k_202 hS, l_202 hS, k_203 hS, l_203 hS, k_204 hS, l_204 hS, k_205 hS, l_205 hS, k_206 hS, l_206 hS, k_207 hS, l_207 hS, k_208 hS, l_208 hS, k_209 hS, l_209 hS, k_210 hS, l_210 hS, k_211 hS, l_211 hS, k_212 hS, l_212 hS, k_213 hS, l_213 hS, k_214 hS, l_214 hS, k_215 hS, l_215 hS, k_216 hS, l_216 hS, k_217 hS, l_217 hS, k_218 hS, l_218 hS, k_219 hS, l_219 hS, k_220 hS, l_220 hS, r_160_0 hS, r_160_1 hS, r_160_2 hS, r_160_3 hS, r_160_4 hS, r_160_5 hS, r_160_6 hS, r_160_7 hS, r_160_8 hS, r_160_9 hS, r_160_10 hS, r_160_11 hS, r_160_12 hS, r_160_13 hS, r_160_14 hS, r_160_15 hS, r_160_16 hS, r_160_17 hS, r_160_18 hS, r_160_19 hS, r_160_20 hS, r_160_21 hS, r_160_22 hS, r_160_23 hS, r_160_24 hS, r_160_25 hS, r_160_26 hS, r_160_27 hS, r_160_28 hS, r_160_29 hS, r_160_30 hS, r_160_31 hS, r_160_32 hS, r_160_33 hS, r_160_34 hS, r_160_35 hS, r_160_36 hS, r_160_37 hS, r_160_38 hS, r_160_39 hS, r_160_40 hS, r_160_41 hS, r_160_43 hS, r_160_45 hS, r_160_46 hS, r_160_48 hS, r_160_49 hS, r_160_50 hS, r_160_51 hS, r_160_52 hS, r_160_53 hS, r_160_54 hS, r_160_56 hS, r_160_63 hS, r_160_64 hS, r_160_65 hS, r_160_66 hS, r_160_67 hS, r_160_68 hS, r_160_69 hS, ol_s, ol_n, ln_0, ln_1, ln_2, ln_3, ln_4, eq_self, rf_s, rf_n, i01_0, i01_n0, i01_b, b01_0, b01_1, and_self, and_true, true_and, and_false, false_and, if_true, if_false, not_true_eq_false, not_false_eq_true, e10, e00, lt_bg, Nat.reduceLT, Nat.reduceLeDiff, H, z]
      · rw [if_neg z]
        simp only [s199_234, s199_235, s199_238, k_160 hS, k_161 hS, l_161 hS, k_162 hS, l_162 hS, k_163 hS, l_163 hS, k_164 hS, l_164 hS, k_165 hS, l_165 hS, k_166 hS, l_166 hS, k_167 hS, l_167 hS, k_168 hS, l_168 hS, k_169 hS, l_169 hS, k_170 hS, l_170 hS, k_171 hS, l_171 hS, k_172 hS, l_172 hS, k_173 hS, l_173 hS, k_174 hS, l_174 hS, k_175 hS, l_175 hS, k_176 hS, l_176 hS, k_177 hS, l_177 hS, k_178 hS, l_178 hS, k_179 hS, l_179 hS, k_180 hS, l_180 hS, k_181 hS, l_181 hS, k_182 hS, l_182 hS, k_183 hS, l_183 hS, k_184 hS, l_184 hS, k_185 hS, l_185 hS, k_186 hS, l_186 hS, k_187 hS, l_187 hS, k_188 hS, l_188 hS, k_189 hS, l_189 hS, k_190 hS, l_190 hS, k_191 hS, l_191 hS, k_192 hS, l_192 hS, k_193 hS, l_193 hS, k_194 hS, l_194 hS, k_195 hS, l_195 hS, k_196 hS, l_196 hS, k_197 hS, l_197 hS, k_198 hS, l_198 hS, k_199 hS, l_199 hS, k_200 hS, l_200 hS, k_201 hS, l_201 hS, k_202 hS, l_202 hS, k_203 hS, l_203 hS, k_204 hS, l_204 hS, k_205 hS, l_205 hS, k_206 hS, l_206 hS, k_207 hS, l_207 hS, k_208 hS, l_208 hS, k_209 hS, l_209 hS, k_210 hS, l_210 hS, k_211 hS, l_211 hS, k_212 hS, l_212 hS, k_213 hS, l_213 hS, k_214 hS, l_214 hS, k_215 hS, l_215 hS, k_216 hS, l_216 hS, k_217 hS, l_217 hS, k_218 hS, l_218 hS, k_219 hS, l_219 hS, k_220 hS, l_220 hS, r_160_0 hS, r_160_1 hS, r_160_2 hS, r_160_3 hS, r_160_4 hS, r_160_5 hS, r_160_6 hS, r_160_7 hS, r_160_8 hS, r_160_9 hS, r_160_10 hS, r_160_11 hS, r_160_12 hS, r_160_13 hS, r_160_14 hS, r_160_15 hS, r_160_16 hS, r_160_17 hS, r_160_18 hS, r_160_19 hS, r_160_20 hS, r_160_21 hS, r_160_22 hS, r_160_23 hS, r_160_24 hS, r_160_25 hS, r_160_26 hS, r_160_27 hS, r_160_28 hS, r_160_29 hS, r_160_30 hS, r_160_31 hS, r_160_32 hS, r_160_33 hS, r_160_34 hS, r_160_35 hS, r_160_36 hS, r_160_37 hS, r_160_38 hS, r_160_39 hS, r_160_40 hS, r_160_41 hS, r_160_43 hS, r_160_45 hS, r_160_46 hS, r_160_48 hS, r_160_49 hS, r_160_50 hS, r_160_51 hS, r_160_52 hS, r_160_53 hS, r_160_54 hS, r_160_56 hS, r_160_63 hS, r_160_64 hS, r_160_65 hS, r_160_66 hS, r_160_67 hS, r_160_68 hS, r_160_69 hS, ol_s, ol_n, ln_0, ln_1, ln_2, ln_3, ln_4, eq_self, rf_s, rf_n, i01_0, i01_n0, i01_b, b01_0, b01_1, and_self, and_true, true_and, and_false, false_and, if_true, if_false, not_true_eq_false, not_false_eq_true, e10, e00, lt_bg, Nat.reduceLT, Nat.reduceLeDiff, H, z]
    · simp only [s199_170, s199_171, s199_172, s199_214, s199_215, s199_216, s199_219, s199_220, s199_223, s199_226, k_160 hS, k_161 hS, l_161 hS, k_162 hS, l_162 hS, k_163 hS, l_163 hS, k_164 hS, l_164 hS, k_165 hS, l_165 hS, k_166 hS, l_166 hS, k_167 hS, l_167 hS, k_168 hS, l_168 hS, k_169 hS, l_169 hS, k_170 hS, l_170 hS, k_171 hS, l_171 hS, k_172 hS, l_172 hS, k_173 hS, l_173 hS, k_174 hS, l_174 hS, k_175 hS, l_175 hS, k_176 hS, l_176 hS, k_177 hS, l_177 hS, k_178 hS, l_178 hS, k_179 hS, l_179 hS, k_180 hS, l_180 hS, k_181 hS, l_181 hS, k_182 hS, l_182 hS, k_183 hS, l_183 hS, k_184 hS, l_184 hS, k_185 hS, l_185 hS, k_186 hS, l_186 hS, k_187 hS, l_187 hS, k_188 hS, l_188 hS, k_189 hS, l_189 hS, k_190 hS, l_190 hS, k_191 hS, l_191 hS, k_192 hS, l_192 hS, k_193 hS, l_193 hS, k_194 hS, l_194 hS, k_195 hS, l_195 hS, k_196 hS, l_196 hS, k_197 hS, l_197 hS, k_198 hS, l_198 hS, k_199 hS, l_199 hS, k_200 hS, l_200 hS, k_201 hS, l_201 hS, k_202 hS, l_202 hS, k_203 hS, l_203 hS, k_204 hS, l_204 hS, k_205 hS, l_205 hS, k_206 hS, l_206 hS, k_207 hS, l_207 hS, k_208 hS, l_208 hS, k_209 hS, l_209 hS, k_210 hS, l_210 hS, k_211 hS, l_211 hS, k_212 hS, l_212 hS, k_213 hS, l_213 hS, k_214 hS, l_214 hS, k_215 hS, l_215 hS, k_216 hS, l_216 hS, k_217 hS, l_217 hS, k_218 hS, l_218 hS, k_219 hS, l_219 hS, k_220 hS, l_220 hS, r_160_0 hS, r_160_1 hS, r_160_2 hS, r_160_3 hS, r_160_4 hS, r_160_5 hS, r_160_6 hS, r_160_7 hS, r_160_8 hS, r_160_9 hS, r_160_10 hS, r_160_11 hS, r_160_12 hS, r_160_13 hS, r_160_14 hS, r_160_15 hS, r_160_16 hS, r_160_17 hS, r_160_18 hS, r_160_19 hS, r_160_20 hS, r_160_21 hS, r_160_22 hS, r_160_23 hS, r_160_24 hS, r_160_25 hS, r_160_26 hS, r_160_27 hS, r_160_28 hS, r_160_29 hS, r_160_30 hS, r_160_31 hS, r_160_32 hS, r_160_33 hS, r_160_34 hS, r_160_35 hS, r_160_36 hS, r_160_37 hS, r_160_38 hS, r_160_39 hS, r_160_40 hS, r_160_41 hS, r_160_43 hS, r_160_45 hS, r_160_46 hS, r_160_48 hS, r_160_49 hS, r_160_50 hS, r_160_51 hS, r_160_52 hS, r_160_53 hS, r_160_54 hS, r_160_56 hS, r_160_63 hS, r_160_64 hS, r_160_65 hS, r_160_66 hS, r_160_67 hS, r_160_68 hS, r_160_69 hS, ol_s, ol_n, ln_0, ln_1, ln_2, ln_3, ln_4, eq_self, rf_s, rf_n, i01_0, i01_n0, i01_b, b01_0, b01_1, and_self, and_true, true_and, and_false, false_and, if_true, if_false, not_true_eq_false, not_false_eq_true, e10, e00, lt_bg, Nat.reduceLT, Nat.reduceLeDiff, E3, E2, N, w]
  · have E2 := E2.trans (eq_false f)
    have lt : ¬ (2 : Int32) ≤ nI s := by rw [← e2]; exact nI_ge (by omega) (by omega)
    refine (c199c (i := i) (x3 := nI s) (pc := 258) hS hb hv8 hj n2 (by omega) FT bT XT GT (fun s2 r H d Q => ?_)).step (fun d Q => ?_)
    · by_cases z : r = 0
      · rw [if_pos z]
        simp only [s199_258, s199_259, s199_262, s199_265, s199_266, k_160 hS, k_161 hS, l_161 hS, k_162 hS, l_162 hS, k_163 hS, l_163 hS, k_164 hS, l_164 hS, k_165 hS, l_165 hS, k_166 hS, l_166 hS, k_167 hS, l_167 hS, k_168 hS, l_168 hS, k_169 hS, l_169 hS, k_170 hS, l_170 hS, k_171 hS, l_171 hS, k_172 hS, l_172 hS, k_173 hS, l_173 hS, k_174 hS, l_174 hS, k_175 hS, l_175 hS, k_176 hS, l_176 hS, k_177 hS, l_177 hS, k_178 hS, l_178 hS, k_179 hS, l_179 hS, k_180 hS, l_180 hS, k_181 hS, l_181 hS, k_182 hS, l_182 hS, k_183 hS, l_183 hS, k_184 hS, l_184 hS, k_185 hS, l_185 hS, k_186 hS, l_186 hS, k_187 hS, l_187 hS, k_188 hS, l_188 hS, k_189 hS, l_189 hS, k_190 hS, l_190 hS, k_191 hS, l_191 hS, k_192 hS, l_192 hS, k_193 hS, l_193 hS, k_194 hS, l_194 hS, k_195 hS, l_195 hS, k_196 hS, l_196 hS, k_197 hS, l_197 hS, k_198 hS, l_198 hS, k_199 hS, l_199 hS, k_200 hS, l_200 hS, k_201 hS, l_201 hS, k_202 hS, l_202 hS, k_203 hS, l_203 hS, k_204 hS, l_204 hS, k_205 hS, l_205 hS, k_206 hS, l_206 hS, k_207 hS, l_207 hS, k_208 hS, l_208 hS, k_209 hS, l_209 hS, k_210 hS, l_210 hS, k_211 hS, l_211 hS, k_212 hS, l_212 hS, k_213 hS, l_213 hS, k_214 hS, l_214 hS, k_215 hS, l_215 hS, k_216 hS, l_216 hS, k_217 hS, l_217 hS, k_218 hS, l_218 hS, k_219 hS, l_219 hS, k_220 hS, l_220 hS, r_160_0 hS, r_160_1 hS, r_160_2 hS, r_160_3 hS, r_160_4 hS, r_160_5 hS, r_160_6 hS, r_160_7 hS, r_160_8 hS, r_160_9 hS, r_160_10 hS, r_160_11 hS, r_160_12 hS, r_160_13 hS, r_160_14 hS, r_160_15 hS, r_160_16 hS, r_160_17 hS, r_160_18 hS, r_160_19 hS, r_160_20 hS, r_160_21 hS, r_160_22 hS, r_160_23 hS, r_160_24 hS, r_160_25 hS, r_160_26 hS, r_160_27 hS, r_160_28 hS, r_160_29 hS, r_160_30 hS, r_160_31 hS, r_160_32 hS, r_160_33 hS, r_160_34 hS, r_160_35 hS, r_160_36 hS, r_160_37 hS, r_160_38 hS, r_160_39 hS, r_160_40 hS, r_160_41 hS, r_160_43 hS, r_160_45 hS, r_160_46 hS, r_160_48 hS, r_160_49 hS, r_160_50 hS, r_160_51 hS, r_160_52 hS, r_160_53 hS, r_160_54 hS, r_160_56 hS, r_160_63 hS, r_160_64 hS, r_160_65 hS, r_160_66 hS, r_160_67 hS, r_160_68 hS, r_160_69 hS, ol_s, ol_n, ln_0, ln_1, ln_2, ln_3, ln_4, eq_self, rf_s, rf_n, i01_0, i01_n0, i01_b, b01_0, b01_1, and_self, and_true, true_and, and_false, false_and, if_true, if_false, not_true_eq_false, not_false_eq_true, e10, e00, lt_bg, Nat.reduceLT, Nat.reduceLeDiff, H, z]
      · rw [if_neg z]
        simp only [s199_258, s199_259, s199_262, k_160 hS, k_161 hS, l_161 hS, k_162 hS, l_162 hS, k_163 hS, l_163 hS, k_164 hS, l_164 hS, k_165 hS, l_165 hS, k_166 hS, l_166 hS, k_167 hS, l_167 hS, k_168 hS, l_168 hS, k_169 hS, l_169 hS, k_170 hS, l_170 hS, k_171 hS, l_171 hS, k_172 hS, l_172 hS, k_173 hS, l_173 hS, k_174 hS, l_174 hS, k_175 hS, l_175 hS, k_176 hS, l_176 hS, k_177 hS, l_177 hS, k_178 hS, l_178 hS, k_179 hS, l_179 hS, k_180 hS, l_180 hS, k_181 hS, l_181 hS, k_182 hS, l_182 hS, k_183 hS, l_183 hS, k_184 hS, l_184 hS, k_185 hS, l_185 hS, k_186 hS, l_186 hS, k_187 hS, l_187 hS, k_188 hS, l_188 hS, k_189 hS, l_189 hS, k_190 hS, l_190 hS, k_191 hS, l_191 hS, k_192 hS, l_192 hS, k_193 hS, l_193 hS, k_194 hS, l_194 hS, k_195 hS, l_195 hS, k_196 hS, l_196 hS, k_197 hS, l_197 hS, k_198 hS, l_198 hS, k_199 hS, l_199 hS, k_200 hS, l_200 hS, k_201 hS, l_201 hS, k_202 hS, l_202 hS, k_203 hS, l_203 hS, k_204 hS, l_204 hS, k_205 hS, l_205 hS, k_206 hS, l_206 hS, k_207 hS, l_207 hS, k_208 hS, l_208 hS, k_209 hS, l_209 hS, k_210 hS, l_210 hS, k_211 hS, l_211 hS, k_212 hS, l_212 hS, k_213 hS, l_213 hS, k_214 hS, l_214 hS, k_215 hS, l_215 hS, k_216 hS, l_216 hS, k_217 hS, l_217 hS, k_218 hS, l_218 hS, k_219 hS, l_219 hS, k_220 hS, l_220 hS, r_160_0 hS, r_160_1 hS, r_160_2 hS, r_160_3 hS, r_160_4 hS, r_160_5 hS, r_160_6 hS, r_160_7 hS, r_160_8 hS, r_160_9 hS, r_160_10 hS, r_160_11 hS, r_160_12 hS, r_160_13 hS, r_160_14 hS, r_160_15 hS, r_160_16 hS, r_160_17 hS, r_160_18 hS, r_160_19 hS, r_160_20 hS, r_160_21 hS, r_160_22 hS, r_160_23 hS, r_160_24 hS, r_160_25 hS, r_160_26 hS, r_160_27 hS, r_160_28 hS, r_160_29 hS, r_160_30 hS, r_160_31 hS, r_160_32 hS, r_160_33 hS, r_160_34 hS, r_160_35 hS, r_160_36 hS, r_160_37 hS, r_160_38 hS, r_160_39 hS, r_160_40 hS, r_160_41 hS, r_160_43 hS, r_160_45 hS, r_160_46 hS, r_160_48 hS, r_160_49 hS, r_160_50 hS, r_160_51 hS, r_160_52 hS, r_160_53 hS, r_160_54 hS, r_160_56 hS, r_160_63 hS, r_160_64 hS, r_160_65 hS, r_160_66 hS, r_160_67 hS, r_160_68 hS, r_160_69 hS, ol_s, ol_n, ln_0, ln_1, ln_2, ln_3, ln_4, eq_self, rf_s, rf_n, i01_0, i01_n0, i01_b, b01_0, b01_1, and_self, and_true, true_and, and_false, false_and, if_true, if_false, not_true_eq_false, not_false_eq_true, e10, e00, lt_bg, Nat.reduceLT, Nat.reduceLeDiff, H, z]
    · simp only [s199_170, s199_171, s199_172, s199_214, s199_215, s199_216, s199_243, s199_244, s199_245, s199_248, s199_249, s199_252, s199_255, k_160 hS, k_161 hS, l_161 hS, k_162 hS, l_162 hS, k_163 hS, l_163 hS, k_164 hS, l_164 hS, k_165 hS, l_165 hS, k_166 hS, l_166 hS, k_167 hS, l_167 hS, k_168 hS, l_168 hS, k_169 hS, l_169 hS, k_170 hS, l_170 hS, k_171 hS, l_171 hS, k_172 hS, l_172 hS, k_173 hS, l_173 hS, k_174 hS, l_174 hS, k_175 hS, l_175 hS, k_176 hS, l_176 hS, k_177 hS, l_177 hS, k_178 hS, l_178 hS, k_179 hS, l_179 hS, k_180 hS, l_180 hS, k_181 hS, l_181 hS, k_182 hS, l_182 hS, k_183 hS, l_183 hS, k_184 hS, l_184 hS, k_185 hS, l_185 hS, k_186 hS, l_186 hS, k_187 hS, l_187 hS, k_188 hS, l_188 hS, k_189 hS, l_189 hS, k_190 hS, l_190 hS, k_191 hS, l_191 hS, k_192 hS, l_192 hS, k_193 hS, l_193 hS, k_194 hS, l_194 hS, k_195 hS, l_195 hS, k_196 hS, l_196 hS, k_197 hS, l_197 hS, k_198 hS, l_198 hS, k_199 hS, l_199 hS, k_200 hS, l_200 hS, k_201 hS, l_201 hS, k_202 hS, l_202 hS, k_203 hS, l_203 hS, k_204 hS, l_204 hS, k_205 hS, l_205 hS, k_206 hS, l_206 hS, k_207 hS, l_207 hS, k_208 hS, l_208 hS, k_209 hS, l_209 hS, k_210 hS, l_210 hS, k_211 hS, l_211 hS, k_212 hS, l_212 hS, k_213 hS, l_213 hS, k_214 hS, l_214 hS, k_215 hS, l_215 hS, k_216 hS, l_216 hS, k_217 hS, l_217 hS, k_218 hS, l_218 hS, k_219 hS, l_219 hS, k_220 hS, l_220 hS, r_160_0 hS, r_160_1 hS, r_160_2 hS, r_160_3 hS, r_160_4 hS, r_160_5 hS, r_160_6 hS, r_160_7 hS, r_160_8 hS, r_160_9 hS, r_160_10 hS, r_160_11 hS, r_160_12 hS, r_160_13 hS, r_160_14 hS, r_160_15 hS, r_160_16 hS, r_160_17 hS, r_160_18 hS, r_160_19 hS, r_160_20 hS, r_160_21 hS, r_160_22 hS, r_160_23 hS, r_160_24 hS, r_160_25 hS, r_160_26 hS, r_160_27 hS, r_160_28 hS, r_160_29 hS, r_160_30 hS, r_160_31 hS, r_160_32 hS, r_160_33 hS, r_160_34 hS, r_160_35 hS, r_160_36 hS, r_160_37 hS, r_160_38 hS, r_160_39 hS, r_160_40 hS, r_160_41 hS, r_160_43 hS, r_160_45 hS, r_160_46 hS, r_160_48 hS, r_160_49 hS, r_160_50 hS, r_160_51 hS, r_160_52 hS, r_160_53 hS, r_160_54 hS, r_160_56 hS, r_160_63 hS, r_160_64 hS, r_160_65 hS, r_160_66 hS, r_160_67 hS, r_160_68 hS, r_160_69 hS, ol_s, ol_n, ln_0, ln_1, ln_2, ln_3, ln_4, eq_self, rf_s, rf_n, i01_0, i01_n0, i01_b, b01_0, b01_1, and_self, and_true, true_and, and_false, false_and, if_true, if_false, not_true_eq_false, not_false_eq_true, e10, e00, lt_bg, Nat.reduceLT, Nat.reduceLeDiff, E3, E2, lt, N, w]
theorem c199 (hS : Sh ρ τ) (hb : Bgd σ τ) {b : Nat → Nat} {l ver n i p : Nat} (hv8 : ver ≤ 8) (hi : i < 10) (hp : p ≤ l) (hn : n ≤ p) (hx : RX b l p 0 ver n σ) : LQ b l ver (10 * ver + i) n σ ρ g τ 0 [.ref 160, .int (nI i), am_jk, am_jk] σ (pLn b l p) := by
  have hl := hx.1.1
  obtain ⟨n1, n2, n3⟩ := nx_b (b := b) hp
  obtain ⟨m1, m2, m3⟩ := nx_b (b := b) n2
  obtain ⟨t1, t2, _⟩ := te_b (b := b) hp
  obtain ⟨a, a1, a2, a3⟩ := hx.2.1
  have pp : sk b l p = p := by rw [← a3]; exact sk_sk a1
  have h60 := hx.2.2.2.2.1
  have ml : (10 : Int32) * nI ver = nI (10 * ver) := nI_mulL 10 _
  have R0 : ∀ (d : Nat) (Q : am_Q), AW (d + 28) 199 0 [.ref 160, .int (nI i), am_jk, am_jk] [] σ ρ g τ Q = AW (d + 28) 199 82 [.ref 160, .int (nI i), .int (nI (10 * ver + i)), .int (rI (lso b l p) 5)] [] (am_u σ 160 57 (nI (if lso b l p < 5 then te b l p else p))) ρ g τ Q := fun d Q => by
    simp only [s199_0, s199_2, s199_3, s199_6, s199_7, s199_8, s199_9, k_160 hS, k_161 hS, l_161 hS, k_162 hS, l_162 hS, k_163 hS, l_163 hS, k_164 hS, l_164 hS, k_165 hS, l_165 hS, k_166 hS, l_166 hS, k_167 hS, l_167 hS, k_168 hS, l_168 hS, k_169 hS, l_169 hS, k_170 hS, l_170 hS, k_171 hS, l_171 hS, k_172 hS, l_172 hS, k_173 hS, l_173 hS, k_174 hS, l_174 hS, k_175 hS, l_175 hS, k_176 hS, l_176 hS, k_177 hS, l_177 hS, k_178 hS, l_178 hS, k_179 hS, l_179 hS, k_180 hS, l_180 hS, k_181 hS, l_181 hS, k_182 hS, l_182 hS, k_183 hS, l_183 hS, k_184 hS, l_184 hS, k_185 hS, l_185 hS, k_186 hS, l_186 hS, k_187 hS, l_187 hS, k_188 hS, l_188 hS, k_189 hS, l_189 hS, k_190 hS, l_190 hS, k_191 hS, l_191 hS, k_192 hS, l_192 hS, k_193 hS, l_193 hS, k_194 hS, l_194 hS, k_195 hS, l_195 hS, k_196 hS, l_196 hS, k_197 hS, l_197 hS, k_198 hS, l_198 hS, k_199 hS, l_199 hS, k_200 hS, l_200 hS, k_201 hS, l_201 hS, k_202 hS, l_202 hS, k_203 hS, l_203 hS, k_204 hS, l_204 hS, k_205 hS, l_205 hS, k_206 hS, l_206 hS, k_207 hS, l_207 hS, k_208 hS, l_208 hS, k_209 hS, l_209 hS, k_210 hS, l_210 hS, k_211 hS, l_211 hS, k_212 hS, l_212 hS, k_213 hS, l_213 hS, k_214 hS, l_214 hS, k_215 hS, l_215 hS, k_216 hS, l_216 hS, k_217 hS, l_217 hS, k_218 hS, l_218 hS, k_219 hS, l_219 hS, k_220 hS, l_220 hS, r_160_0 hS, r_160_1 hS, r_160_2 hS, r_160_3 hS, r_160_4 hS, r_160_5 hS, r_160_6 hS, r_160_7 hS, r_160_8 hS, r_160_9 hS, r_160_10 hS, r_160_11 hS, r_160_12 hS, r_160_13 hS, r_160_14 hS, r_160_15 hS, r_160_16 hS, r_160_17 hS, r_160_18 hS, r_160_19 hS, r_160_20 hS, r_160_21 hS, r_160_22 hS, r_160_23 hS, r_160_24 hS, r_160_25 hS, r_160_26 hS, r_160_27 hS, r_160_28 hS, r_160_29 hS, r_160_30 hS, r_160_31 hS, r_160_32 hS, r_160_33 hS, r_160_34 hS, r_160_35 hS, r_160_36 hS, r_160_37 hS, r_160_38 hS, r_160_39 hS, r_160_40 hS, r_160_41 hS, r_160_43 hS, r_160_45 hS, r_160_46 hS, r_160_48 hS, r_160_49 hS, r_160_50 hS, r_160_51 hS, r_160_52 hS, r_160_53 hS, r_160_54 hS, r_160_56 hS, r_160_63 hS, r_160_64 hS, r_160_65 hS, r_160_66 hS, r_160_67 hS, r_160_68 hS, r_160_69 hS, ol_s, ol_n, ln_0, ln_1, ln_2, ln_3, ln_4, eq_self, rf_s, rf_n, i01_0, i01_n0, i01_b, b01_0, b01_1, and_self, and_true, true_and, and_false, false_and, if_true, if_false, not_true_eq_false, not_false_eq_true, e10, e00, lt_bg, Nat.reduceLT, Nat.reduceLeDiff, h60, ml, nI_add]
    exact c199n (d := d + 23) hS hb hx.1 a1 a2 a3
  have hj : 10 * ver + i < 90 := by omega
  generalize 10 * ver + i = j at R0 hj
  have ij : am_inb (nI j) 90 = true := inb_n hj (by decide)
  have cj : (nI j).toNatClampNeg = j := nI_clamp (by omega)
  unfold pLn
  by_cases a : lso b l p < 5
  rotate_left
  · rw [if_neg a]
    rw [if_neg a] at R0
    have v : rI (lso b l p) 5 = -1 := if_neg a
    rw [v] at R0
    have lt : ((0 : Int32) ≤ -1) = False := by decide
    obtain ⟨s4, F4, k4, B⟩ := c186x (σ := σ) (ver := ver) (j := j) (n := n) hS (hx.mv hp pp) (RFr.u (by decide) (by decide))
    refine LQ.bad F4 k4 (fun d Q => ?_)
    rw [R0]
    simp only [s199_82, s199_83, s199_86, s199_87, s199_90, k_160 hS, k_161 hS, l_161 hS, k_162 hS, l_162 hS, k_163 hS, l_163 hS, k_164 hS, l_164 hS, k_165 hS, l_165 hS, k_166 hS, l_166 hS, k_167 hS, l_167 hS, k_168 hS, l_168 hS, k_169 hS, l_169 hS, k_170 hS, l_170 hS, k_171 hS, l_171 hS, k_172 hS, l_172 hS, k_173 hS, l_173 hS, k_174 hS, l_174 hS, k_175 hS, l_175 hS, k_176 hS, l_176 hS, k_177 hS, l_177 hS, k_178 hS, l_178 hS, k_179 hS, l_179 hS, k_180 hS, l_180 hS, k_181 hS, l_181 hS, k_182 hS, l_182 hS, k_183 hS, l_183 hS, k_184 hS, l_184 hS, k_185 hS, l_185 hS, k_186 hS, l_186 hS, k_187 hS, l_187 hS, k_188 hS, l_188 hS, k_189 hS, l_189 hS, k_190 hS, l_190 hS, k_191 hS, l_191 hS, k_192 hS, l_192 hS, k_193 hS, l_193 hS, k_194 hS, l_194 hS, k_195 hS, l_195 hS, k_196 hS, l_196 hS, k_197 hS, l_197 hS, k_198 hS, l_198 hS, k_199 hS, l_199 hS, k_200 hS, l_200 hS, k_201 hS, l_201 hS, k_202 hS, l_202 hS, k_203 hS, l_203 hS, k_204 hS, l_204 hS, k_205 hS, l_205 hS, k_206 hS, l_206 hS, k_207 hS, l_207 hS, k_208 hS, l_208 hS, k_209 hS, l_209 hS, k_210 hS, l_210 hS, k_211 hS, l_211 hS, k_212 hS, l_212 hS, k_213 hS, l_213 hS, k_214 hS, l_214 hS, k_215 hS, l_215 hS, k_216 hS, l_216 hS, k_217 hS, l_217 hS, k_218 hS, l_218 hS, k_219 hS, l_219 hS, k_220 hS, l_220 hS, r_160_0 hS, r_160_1 hS, r_160_2 hS, r_160_3 hS, r_160_4 hS, r_160_5 hS, r_160_6 hS, r_160_7 hS, r_160_8 hS, r_160_9 hS, r_160_10 hS, r_160_11 hS, r_160_12 hS, r_160_13 hS, r_160_14 hS, r_160_15 hS, r_160_16 hS, r_160_17 hS, r_160_18 hS, r_160_19 hS, r_160_20 hS, r_160_21 hS, r_160_22 hS, r_160_23 hS, r_160_24 hS, r_160_25 hS, r_160_26 hS, r_160_27 hS, r_160_28 hS, r_160_29 hS, r_160_30 hS, r_160_31 hS, r_160_32 hS, r_160_33 hS, r_160_34 hS, r_160_35 hS, r_160_36 hS, r_160_37 hS, r_160_38 hS, r_160_39 hS, r_160_40 hS, r_160_41 hS, r_160_43 hS, r_160_45 hS, r_160_46 hS, r_160_48 hS, r_160_49 hS, r_160_50 hS, r_160_51 hS, r_160_52 hS, r_160_53 hS, r_160_54 hS, r_160_56 hS, r_160_63 hS, r_160_64 hS, r_160_65 hS, r_160_66 hS, r_160_67 hS, r_160_68 hS, r_160_69 hS, ol_s, ol_n, ln_0, ln_1, ln_2, ln_3, ln_4, eq_self, rf_s, rf_n, i01_0, i01_n0, i01_b, b01_0, b01_1, and_self, and_true, true_and, and_false, false_and, if_true, if_false, not_true_eq_false, not_false_eq_true, e10, e00, lt_bg, Nat.reduceLT, Nat.reduceLeDiff, lt, B]
  rw [if_pos a]
  rw [if_pos a] at R0
  have n3 := n3 (lso_kd a)
  have v : rI (lso b l p) 5 = nI (lso b l p) := if_pos a
  rw [v] at R0
  generalize lso b l p = s at a R0
  have ge : 0 ≤ nI s := nI_le (a := 0) (Nat.zero_le _) (by omega)
  have F1 : RFr ver j n σ (am_u σ 160 57 (nI (te b l p))) := RFr.u (by decide) (by decide)
  have X1 := hx.mv (a := te b l p) (q := nx b l p) t2 rfl
  have b1 : Bgd (am_u σ 160 57 (nI (te b l p))) τ := hb.u
  generalize am_u σ 160 57 (nI (te b l p)) = s1 at R0 F1 X1 b1
  have h61 := X1.2.2.2.2.2
  have F2 := (((F1.tr (RFr.w (σ := s1) (ver := ver) (j := j) (n := n) (z := 182) (v := nI s) (by decide) (by decide))).tr (RFr.w (z := 183) (v := -9) (by decide) (by decide))).tr (RFr.w (z := 184) (v := -9) (by decide) (by decide))).tr (RFr.w (z := 185) (v := nI n) (by decide) (by decide))
  have X2 := (((X1.w (z := 182) (k := j) (v := nI s) (by decide) (by decide)).w (z := 183) (k := j) (v := -9) (by decide) (by decide)).w (z := 184) (k := j) (v := -9) (by decide) (by decide)).w (z := 185) (k := j) (v := nI n) (by decide) (by decide)
  have G2 : L4 j n (am_u (am_u (am_u (am_u s1 182 j (nI s)) 183 j (-9)) 184 j (-9)) 185 j (nI n)) (nI s) (-9) (-9) := by
    refine ⟨?_, ?_, ?_, u_at _ _ _ _⟩
    · rw [u_ne _ _ _ _ (by decide), u_ne _ _ _ _ (by decide), u_ne _ _ _ _ (by decide), u_at]
    · rw [u_ne _ _ _ _ (by decide), u_ne _ _ _ _ (by decide), u_at]
    · rw [u_ne _ _ _ _ (by decide), u_at]
  have b2 : Bgd (am_u (am_u (am_u (am_u s1 182 j (nI s)) 183 j (-9)) 184 j (-9)) 185 j (nI n)) τ := b1.cg (fun y hy => by rw [u_ne _ _ _ _ (by omega), u_ne _ _ _ _ (by omega), u_ne _ _ _ _ (by omega), u_ne _ _ _ _ (by omega)])
  have h61' : am_u (am_u (am_u s1 182 j (nI s)) 183 j (-9)) 184 j (-9) 160 61 = nI n := by
    rw [u_ne _ _ _ _ (by decide), u_ne _ _ _ _ (by decide), u_ne _ _ _ _ (by decide)]
    exact h61
  have R1 : ∀ (d : Nat) (Q : am_Q), AW (d + 28) 199 82 [.ref 160, .int (nI i), .int (nI j), .int (nI s)] [] s1 ρ g τ Q = AW (d + 28) 199 124 [.ref 160, .int (nI i), .int (nI j), .int (nI s)] [] (am_u (am_u (am_u (am_u s1 182 j (nI s)) 183 j (-9)) 184 j (-9)) 185 j (nI n)) ρ g τ Q := fun d Q => by
    simp only [s199_82, s199_83, s199_91, s199_92, s199_95, s199_96, s199_97, s199_98, s199_99, s199_102, s199_103, s199_105, s199_106, s199_107, s199_110, s199_111, s199_113, s199_114, s199_115, s199_118, s199_119, s199_120, s199_123, k_160 hS, k_161 hS, l_161 hS, k_162 hS, l_162 hS, k_163 hS, l_163 hS, k_164 hS, l_164 hS, k_165 hS, l_165 hS, k_166 hS, l_166 hS, k_167 hS, l_167 hS, k_168 hS, l_168 hS, k_169 hS, l_169 hS, k_170 hS, l_170 hS, k_171 hS, l_171 hS, k_172 hS, l_172 hS, k_173 hS, l_173 hS, k_174 hS, l_174 hS, k_175 hS, l_175 hS, k_176 hS, l_176 hS, k_177 hS, l_177 hS, k_178 hS, l_178 hS, k_179 hS, l_179 hS, k_180 hS, l_180 hS, k_181 hS, l_181 hS, k_182 hS, l_182 hS, k_183 hS, l_183 hS, k_184 hS, l_184 hS, k_185 hS, l_185 hS, k_186 hS, l_186 hS, k_187 hS, l_187 hS, k_188 hS, l_188 hS, k_189 hS, l_189 hS, k_190 hS, l_190 hS, k_191 hS, l_191 hS, k_192 hS, l_192 hS, k_193 hS, l_193 hS, k_194 hS, l_194 hS, k_195 hS, l_195 hS, k_196 hS, l_196 hS, k_197 hS, l_197 hS, k_198 hS, l_198 hS, k_199 hS, l_199 hS, k_200 hS, l_200 hS, k_201 hS, l_201 hS, k_202 hS, l_202 hS, k_203 hS, l_203 hS, k_204 hS, l_204 hS, k_205 hS, l_205 hS, k_206 hS, l_206 hS, k_207 hS, l_207 hS, k_208 hS, l_208 hS, k_209 hS, l_209 hS, k_210 hS, l_210 hS, k_211 hS, l_211 hS, k_212 hS, l_212 hS, k_213 hS, l_213 hS, k_214 hS, l_214 hS, k_215 hS, l_215 hS, k_216 hS, l_216 hS, k_217 hS, l_217 hS, k_218 hS, l_218 hS, k_219 hS, l_219 hS, k_220 hS, l_220 hS, r_160_0 hS, r_160_1 hS, r_160_2 hS, r_160_3 hS, r_160_4 hS, r_160_5 hS, r_160_6 hS, r_160_7 hS, r_160_8 hS, r_160_9 hS, r_160_10 hS, r_160_11 hS, r_160_12 hS, r_160_13 hS, r_160_14 hS, r_160_15 hS, r_160_16 hS, r_160_17 hS, r_160_18 hS, r_160_19 hS, r_160_20 hS, r_160_21 hS, r_160_22 hS, r_160_23 hS, r_160_24 hS, r_160_25 hS, r_160_26 hS, r_160_27 hS, r_160_28 hS, r_160_29 hS, r_160_30 hS, r_160_31 hS, r_160_32 hS, r_160_33 hS, r_160_34 hS, r_160_35 hS, r_160_36 hS, r_160_37 hS, r_160_38 hS, r_160_39 hS, r_160_40 hS, r_160_41 hS, r_160_43 hS, r_160_45 hS, r_160_46 hS, r_160_48 hS, r_160_49 hS, r_160_50 hS, r_160_51 hS, r_160_52 hS, r_160_53 hS, r_160_54 hS, r_160_56 hS, r_160_63 hS, r_160_64 hS, r_160_65 hS, r_160_66 hS, r_160_67 hS, r_160_68 hS, r_160_69 hS, ol_s, ol_n, ln_0, ln_1, ln_2, ln_3, ln_4, eq_self, rf_s, rf_n, i01_0, i01_n0, i01_b, b01_0, b01_1, and_self, and_true, true_and, and_false, false_and, if_true, if_false, not_true_eq_false, not_false_eq_true, e10, e00, lt_bg, Nat.reduceLT, Nat.reduceLeDiff, ge, ij, cj, h61']
  generalize am_u (am_u (am_u (am_u s1 182 j (nI s)) 183 j (-9)) 184 j (-9)) 185 j (nI n) = s2 at F2 X2 G2 b2 R1
  have E2 := nI_eqp (a := s) (b := 2) (by omega) (by decide)
  have e2 : nI 2 = (2 : Int32) := by decide
  rw [e2] at E2
  by_cases y : s = 2
  · rw [if_pos y]
    have E2 := E2.trans (eq_true y)
    have G := c199m (g := g) (i := i) hS hb hv8 hj a n2 (by omega) F2 b2 X2 G2
    have ep : pCnd b l (nx b l p) s (-9) = pCnd b l (nx b l p) 2 (-9) := by rw [y]
    rw [ep] at G
    refine G.step (fun d Q => ?_)
    rw [R0, R1]
    simp only [s199_124, s199_125, s199_126, ol_s, ol_n, ln_0, ln_1, ln_2, ln_3, ln_4, eq_self, rf_s, rf_n, i01_0, i01_n0, i01_b, b01_0, b01_1, and_self, and_true, true_and, and_false, false_and, if_true, if_false, not_true_eq_false, not_false_eq_true, e10, e00, lt_bg, Nat.reduceLT, Nat.reduceLeDiff, E2]
  rw [if_neg y]
  have E2 := E2.trans (eq_false y)
  have mb9 : mst s ≤ 999 := by
    unfold mst
    split
    · decide
    · split <;> decide
  have R2 : ∀ (d : Nat) (Q : am_Q), AW (d + 28) 199 124 [.ref 160, .int (nI i), .int (nI j), .int (nI s)] [] s2 ρ g τ Q = AW (d + 28) 199 152 [.ref 160, .int (nI i), .int (nI j), .int (nI s)] [.int (nI (mst s)), .ref 160] s2 ρ g τ Q := fun d Q => by
    have E0 := nI_eq0 (a := s) (by omega)
    have E3 := nI_eqp (a := s) (b := 3) (by omega) (by decide)
    have e3 : nI 3 = (3 : Int32) := by decide
    rw [e3] at E3
    by_cases x0 : s = 0
    · have E0 := E0.trans (eq_true x0)
      have e : nI (mst s) = 9 := by rw [x0]; rfl
      rw [e]
      simp only [s199_124, s199_125, s199_126, s199_129, s199_130, s199_131, s199_134, s199_136, ol_s, ol_n, ln_0, ln_1, ln_2, ln_3, ln_4, eq_self, rf_s, rf_n, i01_0, i01_n0, i01_b, b01_0, b01_1, and_self, and_true, true_and, and_false, false_and, if_true, if_false, not_true_eq_false, not_false_eq_true, e10, e00, lt_bg, Nat.reduceLT, Nat.reduceLeDiff, E2, E0]
    · have E0 := E0.trans (eq_false x0)
      by_cases x3 : s = 3
      · have E3 := E3.trans (eq_true x3)
        have e : nI (mst s) = 999 := by rw [x3]; rfl
        rw [e]
        simp only [s199_124, s199_125, s199_126, s199_129, s199_130, s199_131, s199_134, s199_136, s199_139, s199_140, s199_141, s199_144, s199_147, ol_s, ol_n, ln_0, ln_1, ln_2, ln_3, ln_4, eq_self, rf_s, rf_n, i01_0, i01_n0, i01_b, b01_0, b01_1, and_self, and_true, true_and, and_false, false_and, if_true, if_false, not_true_eq_false, not_false_eq_true, e10, e00, lt_bg, Nat.reduceLT, Nat.reduceLeDiff, E2, E0, E3]
      · have E3 := E3.trans (eq_false x3)
        have e : nI (mst s) = 100 := by
          unfold mst
          rw [if_neg x0, if_neg x3]
          rfl
        rw [e]
        simp only [s199_124, s199_125, s199_126, s199_129, s199_130, s199_131, s199_134, s199_136, s199_139, s199_140, s199_141, s199_144, s199_147, s199_150, ol_s, ol_n, ln_0, ln_1, ln_2, ln_3, ln_4, eq_self, rf_s, rf_n, i01_0, i01_n0, i01_b, b01_0, b01_1, and_self, and_true, true_and, and_false, false_and, if_true, if_false, not_true_eq_false, not_false_eq_true, e10, e00, lt_bg, Nat.reduceLT, Nat.reduceLeDiff, E2, E0, E3]
  obtain ⟨c, c1, c2, c3⟩ := X2.2.1
  have U := fun (d : Nat) (Q : am_Q) => c191 (d := d) (ρ := ρ) (g := g) (Q := Q) hS mb9 X2.1 c1 c2 X2.2.2.1 (y := nI (mst s)) rfl
  rw [c3] at U
  by_cases f : nu b l (nx b l p) (mst s) = true
  rotate_left
  · rw [if_neg f]
    have w : bI (nu b l (nx b l p) (mst s)) = 0 := if_neg f
    have z : nuS b l s2 (nx b l p) (mst s) = am_u (am_u s2 160 57 (nI (nx b l p))) 160 58 (nI (nx b l p)) := if_neg f
    rw [z] at U
    refine LQ.bad ((F2.tr (RFr.u (k := 57) (v := nI (nx b l p)) (by decide) (by decide))).tr (RFr.u (k := 58) (v := nI (nx b l p)) (by decide) (by decide))) (u_at _ _ _ _) (fun d Q => ?_)
    rw [R0, R1, R2]
    simp only [s199_152, s199_155, s199_158, s199_159, k_160 hS, k_161 hS, l_161 hS, k_162 hS, l_162 hS, k_163 hS, l_163 hS, k_164 hS, l_164 hS, k_165 hS, l_165 hS, k_166 hS, l_166 hS, k_167 hS, l_167 hS, k_168 hS, l_168 hS, k_169 hS, l_169 hS, k_170 hS, l_170 hS, k_171 hS, l_171 hS, k_172 hS, l_172 hS, k_173 hS, l_173 hS, k_174 hS, l_174 hS, k_175 hS, l_175 hS, k_176 hS, l_176 hS, k_177 hS, l_177 hS, k_178 hS, l_178 hS, k_179 hS, l_179 hS, k_180 hS, l_180 hS, k_181 hS, l_181 hS, k_182 hS, l_182 hS, k_183 hS, l_183 hS, k_184 hS, l_184 hS, k_185 hS, l_185 hS, k_186 hS, l_186 hS, k_187 hS, l_187 hS, k_188 hS, l_188 hS, k_189 hS, l_189 hS, k_190 hS, l_190 hS, k_191 hS, l_191 hS, k_192 hS, l_192 hS, k_193 hS, l_193 hS, k_194 hS, l_194 hS, k_195 hS, l_195 hS, k_196 hS, l_196 hS, k_197 hS, l_197 hS, k_198 hS, l_198 hS, k_199 hS, l_199 hS, k_200 hS, l_200 hS, k_201 hS, l_201 hS, k_202 hS, l_202 hS, k_203 hS, l_203 hS, k_204 hS, l_204 hS, k_205 hS, l_205 hS, k_206 hS, l_206 hS, k_207 hS, l_207 hS, k_208 hS, l_208 hS, k_209 hS, l_209 hS, k_210 hS, l_210 hS, k_211 hS, l_211 hS, k_212 hS, l_212 hS, k_213 hS, l_213 hS, k_214 hS, l_214 hS, k_215 hS, l_215 hS, k_216 hS, l_216 hS, k_217 hS, l_217 hS, k_218 hS, l_218 hS, k_219 hS, l_219 hS, k_220 hS, l_220 hS, r_160_0 hS, r_160_1 hS, r_160_2 hS, r_160_3 hS, r_160_4 hS, r_160_5 hS, r_160_6 hS, r_160_7 hS, r_160_8 hS, r_160_9 hS, r_160_10 hS, r_160_11 hS, r_160_12 hS, r_160_13 hS, r_160_14 hS, r_160_15 hS, r_160_16 hS, r_160_17 hS, r_160_18 hS, r_160_19 hS, r_160_20 hS, r_160_21 hS, r_160_22 hS, r_160_23 hS, r_160_24 hS, r_160_25 hS, r_160_26 hS, r_160_27 hS, r_160_28 hS, r_160_29 hS, r_160_30 hS, r_160_31 hS, r_160_32 hS, r_160_33 hS, r_160_34 hS, r_160_35 hS, r_160_36 hS, r_160_37 hS, r_160_38 hS, r_160_39 hS, r_160_40 hS, r_160_41 hS, r_160_43 hS, r_160_45 hS, r_160_46 hS, r_160_48 hS, r_160_49 hS, r_160_50 hS, r_160_51 hS, r_160_52 hS, r_160_53 hS, r_160_54 hS, r_160_56 hS, r_160_63 hS, r_160_64 hS, r_160_65 hS, r_160_66 hS, r_160_67 hS, r_160_68 hS, r_160_69 hS, ol_s, ol_n, ln_0, ln_1, ln_2, ln_3, ln_4, eq_self, rf_s, rf_n, i01_0, i01_n0, i01_b, b01_0, b01_1, and_self, and_true, true_and, and_false, false_and, if_true, if_false, not_true_eq_false, not_false_eq_true, e10, e00, lt_bg, Nat.reduceLT, Nat.reduceLeDiff, U, w]
  rw [if_pos f]
  have w := bI_t f
  have z : nuS b l s2 (nx b l p) (mst s) = am_u (am_u s2 160 57 (nI (te b l (nx b l p)))) 160 62 (nI (vl b l (nx b l p))) := if_pos f
  rw [z] at U
  have t4 := (te_b (b := b) n2).2.1
  have F3 := (F2.tr (RFr.u (k := 57) (v := nI (te b l (nx b l p))) (by decide) (by decide))).tr (RFr.u (k := 62) (v := nI (vl b l (nx b l p))) (by decide) (by decide))
  have X3 := (X2.mv (a := te b l (nx b l p)) (q := nx b l (nx b l p)) t4 rfl).n62 (v := nI (vl b l (nx b l p)))
  have G3 := (G2.u (z := 160) (k := 57) (v := nI (te b l (nx b l p))) (Or.inl (by decide))).u (z := 160) (k := 62) (v := nI (vl b l (nx b l p))) (Or.inl (by decide))
  have h62 : am_u (am_u s2 160 57 (nI (te b l (nx b l p)))) 160 62 (nI (vl b l (nx b l p))) 160 62 = nI (vl b l (nx b l p)) := u_at _ _ _ _
  have b3 : Bgd (am_u (am_u s2 160 57 (nI (te b l (nx b l p)))) 160 62 (nI (vl b l (nx b l p)))) τ := (b2.u).u
  generalize am_u (am_u s2 160 57 (nI (te b l (nx b l p)))) 160 62 (nI (vl b l (nx b l p))) = s3 at U F3 X3 G3 h62 b3
  have F4 := F3.tr (RFr.w (σ := s3) (ver := ver) (j := j) (n := n) (z := 183) (v := nI (vl b l (nx b l p))) (by decide) (by decide))
  have X4 := X3.w (z := 183) (k := j) (v := nI (vl b l (nx b l p))) (by decide) (by decide)
  have G4 : L4 j n (am_u s3 183 j (nI (vl b l (nx b l p)))) (nI s) (nI (vl b l (nx b l p))) (-9) := by
    unfold L4 at G3 ⊢
    rw [u_ne _ _ _ _ (by decide), u_at, u_ne _ _ _ _ (by decide), u_ne _ _ _ _ (by decide)]
    exact ⟨G3.1, rfl, G3.2.2.1, G3.2.2.2⟩
  have b4 : Bgd (am_u s3 183 j (nI (vl b l (nx b l p)))) τ := b3.cg (fun y hy => u_ne _ _ _ _ (by omega))
  have G := c199m (g := g) (i := i) hS hb hv8 hj a m2 (by omega) F4 b4 X4 G4
  refine G.step (fun d Q => ?_)
  rw [R0, R1, R2]
  simp only [s199_152, s199_155, s199_160, s199_161, s199_164, s199_165, s199_166, s199_169, k_160 hS, k_161 hS, l_161 hS, k_162 hS, l_162 hS, k_163 hS, l_163 hS, k_164 hS, l_164 hS, k_165 hS, l_165 hS, k_166 hS, l_166 hS, k_167 hS, l_167 hS, k_168 hS, l_168 hS, k_169 hS, l_169 hS, k_170 hS, l_170 hS, k_171 hS, l_171 hS, k_172 hS, l_172 hS, k_173 hS, l_173 hS, k_174 hS, l_174 hS, k_175 hS, l_175 hS, k_176 hS, l_176 hS, k_177 hS, l_177 hS, k_178 hS, l_178 hS, k_179 hS, l_179 hS, k_180 hS, l_180 hS, k_181 hS, l_181 hS, k_182 hS, l_182 hS, k_183 hS, l_183 hS, k_184 hS, l_184 hS, k_185 hS, l_185 hS, k_186 hS, l_186 hS, k_187 hS, l_187 hS, k_188 hS, l_188 hS, k_189 hS, l_189 hS, k_190 hS, l_190 hS, k_191 hS, l_191 hS, k_192 hS, l_192 hS, k_193 hS, l_193 hS, k_194 hS, l_194 hS, k_195 hS, l_195 hS, k_196 hS, l_196 hS, k_197 hS, l_197 hS, k_198 hS, l_198 hS, k_199 hS, l_199 hS, k_200 hS, l_200 hS, k_201 hS, l_201 hS, k_202 hS, l_202 hS, k_203 hS, l_203 hS, k_204 hS, l_204 hS, k_205 hS, l_205 hS, k_206 hS, l_206 hS, k_207 hS, l_207 hS, k_208 hS, l_208 hS, k_209 hS, l_209 hS, k_210 hS, l_210 hS, k_211 hS, l_211 hS, k_212 hS, l_212 hS, k_213 hS, l_213 hS, k_214 hS, l_214 hS, k_215 hS, l_215 hS, k_216 hS, l_216 hS, k_217 hS, l_217 hS, k_218 hS, l_218 hS, k_219 hS, l_219 hS, k_220 hS, l_220 hS, r_160_0 hS, r_160_1 hS, r_160_2 hS, r_160_3 hS, r_160_4 hS, r_160_5 hS, r_160_6 hS, r_160_7 hS, r_160_8 hS, r_160_9 hS, r_160_10 hS, r_160_11 hS, r_160_12 hS, r_160_13 hS, r_160_14 hS, r_160_15 hS, r_160_16 hS, r_160_17 hS, r_160_18 hS, r_160_19 hS, r_160_20 hS, r_160_21 hS, r_160_22 hS, r_160_23 hS, r_160_24 hS, r_160_25 hS, r_160_26 hS, r_160_27 hS, r_160_28 hS, r_160_29 hS, r_160_30 hS, r_160_31 hS, r_160_32 hS, r_160_33 hS, r_160_34 hS, r_160_35 hS, r_160_36 hS, r_160_37 hS, r_160_38 hS, r_160_39 hS, r_160_40 hS, r_160_41 hS, r_160_43 hS, r_160_45 hS, r_160_46 hS, r_160_48 hS, r_160_49 hS, r_160_50 hS, r_160_51 hS, r_160_52 hS, r_160_53 hS, r_160_54 hS, r_160_56 hS, r_160_63 hS, r_160_64 hS, r_160_65 hS, r_160_66 hS, r_160_67 hS, r_160_68 hS, r_160_69 hS, ol_s, ol_n, ln_0, ln_1, ln_2, ln_3, ln_4, eq_self, rf_s, rf_n, i01_0, i01_n0, i01_b, b01_0, b01_1, and_self, and_true, true_and, and_false, false_and, if_true, if_false, not_true_eq_false, not_false_eq_true, e10, e00, lt_bg, Nat.reduceLT, Nat.reduceLeDiff, U, w, h62, ij, cj]
end ODF
