/-! provinces -/
section OB
variable {d : Nat} {σ : am_I} {ρ : am_R} {g : am_J} {τ : am_T} {Q : am_Q}
theorem c173 (hS : Sh ρ τ) {P : Nat} (hP : σ 161 1 = nI P) (hP8 : P ≤ 8) {p s v : Int32} : AW (d + 3) 173 0 [.ref 160, .int p, .int s, .int v, am_jk] [] σ ρ g τ Q = if (0 ≤ p ∧ p ≤ nI P - 1) ∧ (0 ≤ s ∧ s ≤ 2) ∧ (0 ≤ v ∧ v ≤ 999) then Q (some (.int (σ 165 (3 * p.toNatClampNeg + s.toNatClampNeg)))) (am_u σ 165 (3 * p.toNatClampNeg + s.toNatClampNeg) v) ρ g τ else Q (some (.int (-1))) σ ρ g τ := by
  have w : am_inb 1 9 = true := by decide
  by_cases h1 : 0 ≤ p ∧ p ≤ nI P - 1
  · obtain ⟨j, hj, rfl⟩ := cnt_rng (by omega) h1.1 h1.2
    by_cases h3 : 0 ≤ s ∧ s ≤ 2
    · obtain ⟨i, hi, rfl⟩ := i_rng (n := 2) (by decide) h3.1 h3.2
      have hin : am_inb (nI (3 * j + i)) 24 = true := inb_n (by omega) (by decide)
      have hcl : (nI (3 * j + i)).toNatClampNeg = 3 * j + i := nI_clamp (by omega)
      have hcj : (nI j).toNatClampNeg = j := nI_clamp (by omega)
      have hci : (nI i).toNatClampNeg = i := nI_clamp (by omega)
      by_cases h2 : 0 ≤ v ∧ v ≤ 999
      · simp only [s173_0, s173_1, s173_2, s173_3, s173_6, s173_9, s173_10, s173_11, s173_12, s173_15, s173_18, s173_19, s173_20, s173_23, s173_26, s173_29, s173_30, s173_31, s173_32, s173_35, s173_36, s173_37, s173_38, s173_39, s173_40, s173_41, s173_43, s173_44, s173_47, s173_48, s173_49, s173_50, s173_51, s173_52, s173_53, s173_54, s173_56, k_160 hS, k_161 hS, l_161 hS, k_162 hS, l_162 hS, k_163 hS, l_163 hS, k_164 hS, l_164 hS, k_165 hS, l_165 hS, k_166 hS, l_166 hS, k_167 hS, l_167 hS, k_168 hS, l_168 hS, k_169 hS, l_169 hS, k_170 hS, l_170 hS, k_171 hS, l_171 hS, k_172 hS, l_172 hS, k_173 hS, l_173 hS, k_174 hS, l_174 hS, k_175 hS, l_175 hS, k_176 hS, l_176 hS, k_177 hS, l_177 hS, k_178 hS, l_178 hS, k_179 hS, l_179 hS, k_180 hS, l_180 hS, k_181 hS, l_181 hS, k_182 hS, l_182 hS, k_183 hS, l_183 hS, k_184 hS, l_184 hS, k_185 hS, l_185 hS, k_186 hS, l_186 hS, k_187 hS, l_187 hS, k_188 hS, l_188 hS, k_189 hS, l_189 hS, k_190 hS, l_190 hS, k_191 hS, l_191 hS, k_192 hS, l_192 hS, k_193 hS, l_193 hS, k_194 hS, l_194 hS, k_195 hS, l_195 hS, k_196 hS, l_196 hS, k_197 hS, l_197 hS, k_198 hS, l_198 hS, k_199 hS, l_199 hS, k_200 hS, l_200 hS, k_201 hS, l_201 hS, k_202 hS, l_202 hS, k_203 hS, l_203 hS, k_204 hS, l_204 hS, k_205 hS, l_205 hS, k_206 hS, l_206 hS, k_207 hS, l_207 hS, k_208 hS, l_208 hS, k_209 hS, l_209 hS, k_210 hS, l_210 hS, k_211 hS, l_211 hS, k_212 hS, l_212 hS, k_213 hS, l_213 hS, k_214 hS, l_214 hS, k_215 hS, l_215 hS, k_216 hS, l_216 hS, k_217 hS, l_217 hS, k_218 hS, l_218 hS, k_219 hS, l_219 hS, k_220 hS, l_220 hS, r_160_0 hS, r_160_1 hS, r_160_2 hS, r_160_3 hS, r_160_4 hS, r_160_5 hS, r_160_6 hS, r_160_7 hS, r_160_8 hS, r_160_9 hS, r_160_10 hS, r_160_11 hS, r_160_12 hS, r_160_13 hS, r_160_14 hS, r_160_15 hS, r_160_16 hS, r_160_17 hS, r_160_18 hS, r_160_19 hS, r_160_20 hS, r_160_21 hS, r_160_22 hS, r_160_23 hS, r_160_24 hS, r_160_25 hS, r_160_26 hS, r_160_27 hS, r_160_28 hS, r_160_29 hS, r_160_30 hS, r_160_31 hS, r_160_32 hS, r_160_33 hS, r_160_34 hS, r_160_35 hS, r_160_36 hS, r_160_37 hS, r_160_38 hS, r_160_39 hS, r_160_40 hS, r_160_41 hS, r_160_43 hS, r_160_45 hS, r_160_46 hS, r_160_48 hS, r_160_49 hS, r_160_50 hS, r_160_51 hS, r_160_52 hS, r_160_53 hS, r_160_54 hS, r_160_56 hS, r_160_63 hS, r_160_64 hS, r_160_65 hS, r_160_66 hS, r_160_67 hS, r_160_68 hS, r_160_69 hS, c167 hS w, z1, c165, ol_s, ol_n, ln_0, ln_1, ln_2, ln_3, ln_4, eq_self, rf_s, rf_n, i01_0, i01_n0, i01_b, b01_0, b01_1, and_self, and_true, true_and, and_false, false_and, if_true, if_false, not_true_eq_false, not_false_eq_true, e10, e00, lt_bg, Nat.reduceLT, Nat.reduceLeDiff, hP, h1, h2, h3, hin, hcl, hcj, hci, mul3, nI_add]
      · simp only [s173_0, s173_1, s173_2, s173_3, s173_6, s173_9, s173_10, s173_11, s173_12, s173_15, s173_18, s173_19, s173_20, s173_23, s173_26, s173_29, s173_30, s173_31, s173_32, s173_35, s173_36, s173_37, s173_38, s173_39, s173_40, s173_41, s173_43, s173_44, s173_47, s173_48, s173_49, s173_50, s173_51, s173_52, s173_53, s173_54, s173_56, k_160 hS, k_161 hS, l_161 hS, k_162 hS, l_162 hS, k_163 hS, l_163 hS, k_164 hS, l_164 hS, k_165 hS, l_165 hS, k_166 hS, l_166 hS, k_167 hS, l_167 hS, k_168 hS, l_168 hS, k_169 hS, l_169 hS, k_170 hS, l_170 hS, k_171 hS, l_171 hS, k_172 hS, l_172 hS, k_173 hS, l_173 hS, k_174 hS, l_174 hS, k_175 hS, l_175 hS, k_176 hS, l_176 hS, k_177 hS, l_177 hS, k_178 hS, l_178 hS, k_179 hS, l_179 hS, k_180 hS, l_180 hS, k_181 hS, l_181 hS, k_182 hS, l_182 hS, k_183 hS, l_183 hS, k_184 hS, l_184 hS, k_185 hS, l_185 hS, k_186 hS, l_186 hS, k_187 hS, l_187 hS, k_188 hS, l_188 hS, k_189 hS, l_189 hS, k_190 hS, l_190 hS, k_191 hS, l_191 hS, k_192 hS, l_192 hS, k_193 hS, l_193 hS, k_194 hS, l_194 hS, k_195 hS, l_195 hS, k_196 hS, l_196 hS, k_197 hS, l_197 hS, k_198 hS, l_198 hS, k_199 hS, l_199 hS, k_200 hS, l_200 hS, k_201 hS, l_201 hS, k_202 hS, l_202 hS, k_203 hS, l_203 hS, k_204 hS, l_204 hS, k_205 hS, l_205 hS, k_206 hS, l_206 hS, k_207 hS, l_207 hS, k_208 hS, l_208 hS, k_209 hS, l_209 hS, k_210 hS, l_210 hS, k_211 hS, l_211 hS, k_212 hS, l_212 hS, k_213 hS, l_213 hS, k_214 hS, l_214 hS, k_215 hS, l_215 hS, k_216 hS, l_216 hS, k_217 hS, l_217 hS, k_218 hS, l_218 hS, k_219 hS, l_219 hS, k_220 hS, l_220 hS, r_160_0 hS, r_160_1 hS, r_160_2 hS, r_160_3 hS, r_160_4 hS, r_160_5 hS, r_160_6 hS, r_160_7 hS, r_160_8 hS, r_160_9 hS, r_160_10 hS, r_160_11 hS, r_160_12 hS, r_160_13 hS, r_160_14 hS, r_160_15 hS, r_160_16 hS, r_160_17 hS, r_160_18 hS, r_160_19 hS, r_160_20 hS, r_160_21 hS, r_160_22 hS, r_160_23 hS, r_160_24 hS, r_160_25 hS, r_160_26 hS, r_160_27 hS, r_160_28 hS, r_160_29 hS, r_160_30 hS, r_160_31 hS, r_160_32 hS, r_160_33 hS, r_160_34 hS, r_160_35 hS, r_160_36 hS, r_160_37 hS, r_160_38 hS, r_160_39 hS, r_160_40 hS, r_160_41 hS, r_160_43 hS, r_160_45 hS, r_160_46 hS, r_160_48 hS, r_160_49 hS, r_160_50 hS, r_160_51 hS, r_160_52 hS, r_160_53 hS, r_160_54 hS, r_160_56 hS, r_160_63 hS, r_160_64 hS, r_160_65 hS, r_160_66 hS, r_160_67 hS, r_160_68 hS, r_160_69 hS, c167 hS w, z1, c165, ol_s, ol_n, ln_0, ln_1, ln_2, ln_3, ln_4, eq_self, rf_s, rf_n, i01_0, i01_n0, i01_b, b01_0, b01_1, and_self, and_true, true_and, and_false, false_and, if_true, if_false, not_true_eq_false, not_false_eq_true, e10, e00, lt_bg, Nat.reduceLT, Nat.reduceLeDiff, hP, h1, h2, h3]
    · simp only [s173_0, s173_1, s173_2, s173_3, s173_6, s173_9, s173_10, s173_11, s173_12, s173_15, s173_18, s173_19, s173_20, s173_23, s173_26, s173_29, s173_30, s173_31, s173_32, s173_35, s173_36, s173_37, s173_38, s173_39, s173_40, s173_41, s173_43, s173_44, s173_47, s173_48, s173_49, s173_50, s173_51, s173_52, s173_53, s173_54, s173_56, k_160 hS, k_161 hS, l_161 hS, k_162 hS, l_162 hS, k_163 hS, l_163 hS, k_164 hS, l_164 hS, k_165 hS, l_165 hS, k_166 hS, l_166 hS, k_167 hS, l_167 hS, k_168 hS, l_168 hS, k_169 hS, l_169 hS, k_170 hS, l_170 hS, k_171 hS, l_171 hS, k_172 hS, l_172 hS, k_173 hS, l_173 hS, k_174 hS, l_174 hS, k_175 hS, l_175 hS, k_176 hS, l_176 hS, k_177 hS, l_177 hS, k_178 hS, l_178 hS, k_179 hS, l_179 hS, k_180 hS, l_180 hS, k_181 hS, l_181 hS, k_182 hS, l_182 hS, k_183 hS, l_183 hS, k_184 hS, l_184 hS, k_185 hS, l_185 hS, k_186 hS, l_186 hS, k_187 hS, l_187 hS, k_188 hS, l_188 hS, k_189 hS, l_189 hS, k_190 hS, l_190 hS, k_191 hS, l_191 hS, k_192 hS, l_192 hS, k_193 hS, l_193 hS, k_194 hS, l_194 hS, k_195 hS, l_195 hS, k_196 hS, l_196 hS, k_197 hS, l_197 hS, k_198 hS, l_198 hS, k_199 hS, l_199 hS, k_200 hS, l_200 hS, k_201 hS, l_201 hS, k_202 hS, l_202 hS, k_203 hS, l_203 hS, k_204 hS, l_204 hS, k_205 hS, l_205 hS, k_206 hS, l_206 hS, k_207 hS, l_207 hS, k_208 hS, l_208 hS, k_209 hS, l_209 hS, k_210 hS, l_210 hS, k_211 hS, l_211 hS, k_212 hS, l_212 hS, k_213 hS, l_213 hS, k_214 hS, l_214 hS, k_215 hS, l_215 hS, k_216 hS, l_216 hS, k_217 hS, l_217 hS, k_218 hS, l_218 hS, k_219 hS, l_219 hS, k_220 hS, l_220 hS, r_160_0 hS, r_160_1 hS, r_160_2 hS, r_160_3 hS, r_160_4 hS, r_160_5 hS, r_160_6 hS, r_160_7 hS, r_160_8 hS, r_160_9 hS, r_160_10 hS, r_160_11 hS, r_160_12 hS, r_160_13 hS, r_160_14 hS, r_160_15 hS, r_160_16 hS, r_160_17 hS, r_160_18 hS, r_160_19 hS, r_160_20 hS, r_160_21 hS, r_160_22 hS, r_160_23 hS, r_160_24 hS, r_160_25 hS, r_160_26 hS, r_160_27 hS, r_160_28 hS, r_160_29 hS, r_160_30 hS, r_160_31 hS, r_160_32 hS, r_160_33 hS, r_160_34 hS, r_160_35 hS, r_160_36 hS, r_160_37 hS, r_160_38 hS, r_160_39 hS, r_160_40 hS, r_160_41 hS, r_160_43 hS, r_160_45 hS, r_160_46 hS, r_160_48 hS, r_160_49 hS, r_160_50 hS, r_160_51 hS, r_160_52 hS, r_160_53 hS, r_160_54 hS, r_160_56 hS, r_160_63 hS, r_160_64 hS, r_160_65 hS, r_160_66 hS, r_160_67 hS, r_160_68 hS, r_160_69 hS, c167 hS w, z1, c165, ol_s, ol_n, ln_0, ln_1, ln_2, ln_3, ln_4, eq_self, rf_s, rf_n, i01_0, i01_n0, i01_b, b01_0, b01_1, and_self, and_true, true_and, and_false, false_and, if_true, if_false, not_true_eq_false, not_false_eq_true, e10, e00, lt_bg, Nat.reduceLT, Nat.reduceLeDiff, hP, h1, h3]
  · simp only [s173_0, s173_1, s173_2, s173_3, s173_6, s173_9, s173_10, s173_11, s173_12, s173_15, s173_18, s173_19, s173_20, s173_23, s173_26, s173_29, s173_30, s173_31, s173_32, s173_35, s173_36, s173_37, s173_38, s173_39, s173_40, s173_41, s173_43, s173_44, s173_47, s173_48, s173_49, s173_50, s173_51, s173_52, s173_53, s173_54, s173_56, k_160 hS, k_161 hS, l_161 hS, k_162 hS, l_162 hS, k_163 hS, l_163 hS, k_164 hS, l_164 hS, k_165 hS, l_165 hS, k_166 hS, l_166 hS, k_167 hS, l_167 hS, k_168 hS, l_168 hS, k_169 hS, l_169 hS, k_170 hS, l_170 hS, k_171 hS, l_171 hS, k_172 hS, l_172 hS, k_173 hS, l_173 hS, k_174 hS, l_174 hS, k_175 hS, l_175 hS, k_176 hS, l_176 hS, k_177 hS, l_177 hS, k_178 hS, l_178 hS, k_179 hS, l_179 hS, k_180 hS, l_180 hS, k_181 hS, l_181 hS, k_182 hS, l_182 hS, k_183 hS, l_183 hS, k_184 hS, l_184 hS, k_185 hS, l_185 hS, k_186 hS, l_186 hS, k_187 hS, l_187 hS, k_188 hS, l_188 hS, k_189 hS, l_189 hS, k_190 hS, l_190 hS, k_191 hS, l_191 hS, k_192 hS, l_192 hS, k_193 hS, l_193 hS, k_194 hS, l_194 hS, k_195 hS, l_195 hS, k_196 hS, l_196 hS, k_197 hS, l_197 hS, k_198 hS, l_198 hS, k_199 hS, l_199 hS, k_200 hS, l_200 hS, k_201 hS, l_201 hS, k_202 hS, l_202 hS, k_203 hS, l_203 hS, k_204 hS, l_204 hS, k_205 hS, l_205 hS, k_206 hS, l_206 hS, k_207 hS, l_207 hS, k_208 hS, l_208 hS, k_209 hS, l_209 hS, k_210 hS, l_210 hS, k_211 hS, l_211 hS, k_212 hS, l_212 hS, k_213 hS, l_213 hS, k_214 hS, l_214 hS, k_215 hS, l_215 hS, k_216 hS, l_216 hS, k_217 hS, l_217 hS, k_218 hS, l_218 hS, k_219 hS, l_219 hS, k_220 hS, l_220 hS, r_160_0 hS, r_160_1 hS, r_160_2 hS, r_160_3 hS, r_160_4 hS, r_160_5 hS, r_160_6 hS, r_160_7 hS, r_160_8 hS, r_160_9 hS, r_160_10 hS, r_160_11 hS, r_160_12 hS, r_160_13 hS, r_160_14 hS, r_160_15 hS, r_160_16 hS, r_160_17 hS, r_160_18 hS, r_160_19 hS, r_160_20 hS, r_160_21 hS, r_160_22 hS, r_160_23 hS, r_160_24 hS, r_160_25 hS, r_160_26 hS, r_160_27 hS, r_160_28 hS, r_160_29 hS, r_160_30 hS, r_160_31 hS, r_160_32 hS, r_160_33 hS, r_160_34 hS, r_160_35 hS, r_160_36 hS, r_160_37 hS, r_160_38 hS, r_160_39 hS, r_160_40 hS, r_160_41 hS, r_160_43 hS, r_160_45 hS, r_160_46 hS, r_160_48 hS, r_160_49 hS, r_160_50 hS, r_160_51 hS, r_160_52 hS, r_160_53 hS, r_160_54 hS, r_160_56 hS, r_160_63 hS, r_160_64 hS, r_160_65 hS, r_160_66 hS, r_160_67 hS, r_160_68 hS, r_160_69 hS, c167 hS w, z1, c165, ol_s, ol_n, ln_0, ln_1, ln_2, ln_3, ln_4, eq_self, rf_s, rf_n, i01_0, i01_n0, i01_b, b01_0, b01_1, and_self, and_true, true_and, and_false, false_and, if_true, if_false, not_true_eq_false, not_false_eq_true, e10, e00, lt_bg, Nat.reduceLT, Nat.reduceLeDiff, hP, h1]
theorem o_guards (h : INV σ ρ g τ) {p v : Int32} : AW (d + 2) 113 0 [.ref 0, .int p, .int v, am_jk] [] σ ρ g τ (fun r σ1 ρ1 g1 τ1 => AW (d + 2) 175 0 [.ref 160, .int p, .int v, am_jk] [] σ1 ρ1 g1 τ1 (Same τ r)) := by
  obtain ⟨c, hc⟩ := h.cur
  have b := hc.bn
  unfold Bn at b
  rw [c113 h.sh hc.sc.2.1.1 (by omega)]
  by_cases q : (0 ≤ p ∧ p ≤ nI (c 1) - 1) ∧ (0 ≤ v ∧ v ≤ 9)
  · rw [if_pos q]
    obtain ⟨⟨q1, q2⟩, q3, q4⟩ := id q
    obtain ⟨j, hj, rfl⟩ := cnt_rng (by omega) q1 q2
    obtain ⟨n, hn, rfl⟩ := i_rng (n := 9) (by decide) q3 q4
    rw [nI_clamp (by omega)]
    have e1 : am_u σ (18 + 2 * j) 3 (nI n) 161 1 = nI (c 1) := by
      simp (disch := omega) only [Nat.reduceAdd, Nat.add_zero, u_ne, ur_ne, u_at, u_nk, ur_at]
      exact hc.sc.2.1.2
    rw [c175 h.sh e1 (by omega), if_pos q, nI_clamp (by omega)]
    have hp := hc.pr j hj
    refine Same.of ?_ (h.fr ⟨c, hc.bn, hc.sc.cg ?_ ?_ ?_ ?_ ?_ ?_, hc.rh.cg ?_ ?_, ?a, hc.db.cg (by omega) ?_ ?_, hc.st.cg ?_ ?_, hc.rw.cg ?_ ?_, hc.pa.cg ?_ ?_, hc.tk.cg ?_ ?_, hc.ch.cg ?_ ?_⟩ (h.ld.1.cg ?_ ?_ ?_ ?_) ?_ ?_ ?_ ?_ ?_ ?_ ?_ ?_ ?_ ?_ ?_)
    case a =>
      intro p hp
      have := hc.pr p hp
      by_cases e : p = j
      · subst e
        simp (disch := omega) only [Nat.reduceAdd, Nat.add_zero, u_ne, ur_ne, u_at, u_nk, ur_at] at this ⊢
        exact ⟨this.1, this.2.1, this.2.2.1, EQ.of hn, this.2.2.2.2⟩
      · simp (disch := omega) only [Nat.reduceAdd, Nat.add_zero, u_ne, ur_ne, u_at, u_nk, ur_at] at this ⊢
        exact this
    · rw [u_ne _ _ _ _ (by omega)]
      exact hp.2.2.2.1.eq
    all_goals (intros; simp (disch := omega) only [u_ne, ur_ne])
  · rw [if_neg q, c175 h.sh hc.sc.2.1.2 (by omega), if_neg q]
    exact Same.of rfl h
theorem o_yield1 (h : INV σ ρ g τ) {p s v : Int32} : AW (d + 3) 111 0 [.ref 0, .int p, .int s, .int v, am_jk, am_jk] [] σ ρ g τ (fun r σ1 ρ1 g1 τ1 => AW (d + 3) 173 0 [.ref 160, .int p, .int s, .int v, am_jk] [] σ1 ρ1 g1 τ1 (Same τ r)) := by
  obtain ⟨c, hc⟩ := h.cur
  have b := hc.bn
  unfold Bn at b
  rw [c111 h.sh hc.sc.2.1.1 (by omega)]
  by_cases q : (0 ≤ p ∧ p ≤ nI (c 1) - 1) ∧ (0 ≤ s ∧ s ≤ 2) ∧ (0 ≤ v ∧ v ≤ 999)
  · rw [if_pos q]
    obtain ⟨⟨q1, q2⟩, ⟨q5, q6⟩, q3, q4⟩ := id q
    obtain ⟨j, hj, rfl⟩ := cnt_rng (by omega) q1 q2
    obtain ⟨i, hi, rfl⟩ := i_rng (n := 2) (by decide) q5 q6
    obtain ⟨n, hn, rfl⟩ := i_rng (n := 999) (by decide) q3 q4
    rw [nI_clamp (by omega), nI_clamp (by omega)]
    have e1 : am_u σ (19 + 2 * j) i (nI n) 161 1 = nI (c 1) := by
      simp (disch := omega) only [Nat.reduceAdd, Nat.add_zero, u_ne, ur_ne, u_at, u_nk, ur_at]
      exact hc.sc.2.1.2
    rw [c173 h.sh e1 (by omega), if_pos q, nI_clamp (by omega), nI_clamp (by omega)]
    have hp := hc.pr j hj
    refine Same.of ?_ (h.fr ⟨c, hc.bn, hc.sc.cg ?_ ?_ ?_ ?_ ?_ ?_, hc.rh.cg ?_ ?_, ?a, hc.db.cg (by omega) ?_ ?_, hc.st.cg ?_ ?_, hc.rw.cg ?_ ?_, hc.pa.cg ?_ ?_, hc.tk.cg ?_ ?_, hc.ch.cg ?_ ?_⟩ (h.ld.1.cg ?_ ?_ ?_ ?_) ?_ ?_ ?_ ?_ ?_ ?_ ?_ ?_ ?_ ?_ ?_)
    case a =>
      intro p hp
      obtain ⟨t1, t2, t3, t4, t5⟩ := hc.pr p hp
      by_cases e : p = j
      · subst e
        simp (disch := omega) only [Nat.reduceAdd, Nat.add_zero, u_ne, ur_ne, u_at, u_nk, ur_at] at t1 t2 t3 t4 ⊢
        refine ⟨t1, t2, t3, t4, fun s hs => ?_⟩
        have t6 := t5 s hs
        by_cases e : s = i
        · subst e
          simp (disch := omega) only [Nat.reduceAdd, Nat.add_zero, u_ne, ur_ne, u_at, u_nk, ur_at] at t6 ⊢
          exact EQ.of hn
        · simp (disch := omega) only [Nat.reduceAdd, Nat.add_zero, u_ne, ur_ne, u_at, u_nk, ur_at] at t6 ⊢
          exact t6
      · simp (disch := omega) only [Nat.reduceAdd, Nat.add_zero, u_ne, ur_ne, u_at, u_nk, ur_at] at t1 t2 t3 t4 ⊢
        refine ⟨t1, t2, t3, t4, fun s hs => ?_⟩
        have t6 := t5 s hs
        simp (disch := omega) only [Nat.reduceAdd, Nat.add_zero, u_ne, ur_ne, u_at, u_nk, ur_at] at t6 ⊢
        exact t6
    · rw [u_ne _ _ _ _ (by omega)]
      exact (hp.2.2.2.2 i (by omega)).eq
    all_goals (intros; simp (disch := omega) only [u_ne, ur_ne])
  · rw [if_neg q, c173 h.sh hc.sc.2.1.2 (by omega), if_neg q]
    exact Same.of rfl h
end OB
