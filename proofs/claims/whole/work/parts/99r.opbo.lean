/-! a month: prices of the reference; both lands after garrisons and prices -/
section OBO
variable {d : Nat} {σ : am_I} {ρ : am_R} {g : am_J} {τ : am_T} {Q : am_Q}
theorem c222p (hS : Sh ρ τ) {D : Nat} (hD : σ 161 2 = nI D) (hD16 : D ≤ 16) {x1 : Int32} {x4 x5 : Value} : ∀ (n i : Nat) (x3 : Value), i + n = D → AW d 222 250 [.ref 160, .int x1, .int (nI i), x3, x4, x5] [] (f_mvM σ i) ρ g τ Q = Q none (f_mvM σ D) ρ g τ
  | 0, i, x3, h => by
    have e : i = D := by omega
    subst e
    have hle : nI i ≤ nI i := Int32.le_refl _
    have k2 : am_inb 2 9 = true := by decide
    have e0 : f_mvM σ i 161 2 = nI i := by rw [mvM_ne (by decide)]; exact hD
    simp only [s222_250, s222_251, s222_252, s222_255, s222_256, s222_257, s222_379, k_160 hS, k_161 hS, l_161 hS, k_162 hS, l_162 hS, k_163 hS, l_163 hS, k_164 hS, l_164 hS, k_165 hS, l_165 hS, k_166 hS, l_166 hS, k_167 hS, l_167 hS, k_168 hS, l_168 hS, k_169 hS, l_169 hS, k_170 hS, l_170 hS, k_171 hS, l_171 hS, k_172 hS, l_172 hS, k_173 hS, l_173 hS, k_174 hS, l_174 hS, k_175 hS, l_175 hS, k_176 hS, l_176 hS, k_177 hS, l_177 hS, k_178 hS, l_178 hS, k_179 hS, l_179 hS, k_180 hS, l_180 hS, k_181 hS, l_181 hS, k_182 hS, l_182 hS, k_183 hS, l_183 hS, k_184 hS, l_184 hS, k_185 hS, l_185 hS, k_186 hS, l_186 hS, k_187 hS, l_187 hS, k_188 hS, l_188 hS, k_189 hS, l_189 hS, k_190 hS, l_190 hS, k_191 hS, l_191 hS, k_192 hS, l_192 hS, k_193 hS, l_193 hS, k_194 hS, l_194 hS, k_195 hS, l_195 hS, k_196 hS, l_196 hS, k_197 hS, l_197 hS, k_198 hS, l_198 hS, k_199 hS, l_199 hS, k_200 hS, l_200 hS, k_201 hS, l_201 hS, k_202 hS, l_202 hS, k_203 hS, l_203 hS, k_204 hS, l_204 hS, k_205 hS, l_205 hS, k_206 hS, l_206 hS, k_207 hS, l_207 hS, k_208 hS, l_208 hS, k_209 hS, l_209 hS, k_210 hS, l_210 hS, k_211 hS, l_211 hS, k_212 hS, l_212 hS, k_213 hS, l_213 hS, k_214 hS, l_214 hS, k_215 hS, l_215 hS, k_216 hS, l_216 hS, k_217 hS, l_217 hS, k_218 hS, l_218 hS, k_219 hS, l_219 hS, k_220 hS, l_220 hS, r_160_0 hS, r_160_1 hS, r_160_2 hS, r_160_3 hS, r_160_4 hS, r_160_5 hS, r_160_6 hS, r_160_7 hS, r_160_8 hS, r_160_9 hS, r_160_10 hS, r_160_11 hS, r_160_12 hS, r_160_13 hS, r_160_14 hS, r_160_15 hS, r_160_16 hS, r_160_17 hS, r_160_18 hS, r_160_19 hS, r_160_20 hS, r_160_21 hS, r_160_22 hS, r_160_23 hS, r_160_24 hS, r_160_25 hS, r_160_26 hS, r_160_27 hS, r_160_28 hS, r_160_29 hS, r_160_30 hS, r_160_31 hS, r_160_32 hS, r_160_33 hS, r_160_34 hS, r_160_35 hS, r_160_36 hS, r_160_37 hS, r_160_38 hS, r_160_39 hS, r_160_40 hS, r_160_41 hS, r_160_43 hS, r_160_45 hS, r_160_46 hS, r_160_48 hS, r_160_49 hS, r_160_50 hS, r_160_51 hS, r_160_52 hS, r_160_53 hS, r_160_54 hS, r_160_56 hS, r_160_63 hS, r_160_64 hS, r_160_65 hS, r_160_66 hS, r_160_67 hS, r_160_68 hS, r_160_69 hS, ol_s, ol_n, ln_0, ln_1, ln_2, ln_3, ln_4, eq_self, rf_s, rf_n, i01_0, i01_n0, i01_b, b01_0, b01_1, and_self, and_true, true_and, and_false, false_and, if_true, if_false, not_true_eq_false, not_false_eq_true, e10, e00, lt_bg, Nat.reduceLT, Nat.reduceLeDiff, k2, z2, e0, hle]
  | n + 1, i, x3, h => by
    have hlt : ¬ nI D ≤ nI i := nI_ge (by omega) (by omega)
    have k2 : am_inb 2 9 = true := by decide
    have hi : am_inb (nI i) 16 = true := inb_n (by omega) (by decide)
    have hc : (nI i).toNatClampNeg = i := nI_clamp (by omega)
    have e0 : f_mvM σ i 161 2 = nI D := by rw [mvM_ne (by decide)]; exact hD
    have m7 : (7 : Int32) * nI i = nI (7 * i) := nI_mulL 7 i
    have p0 : nI (7 * i) = nI (7 * i + 0) := rfl
    have i0 : am_inb (nI (7 * i + 0)) 112 = true := inb_n (by omega) (by decide)
    have j0 : (nI (7 * i + 0)).toNatClampNeg = 7 * i + 0 := nI_clamp (by omega)
    have i1 : am_inb (nI (7 * i + 1)) 112 = true := inb_n (by omega) (by decide)
    have j1 : (nI (7 * i + 1)).toNatClampNeg = 7 * i + 1 := nI_clamp (by omega)
    have q1 : nI (7 * i) + 1 = nI (7 * i + 1) := nI_add _ 1
    have r1 : nI (7 * i + 1) - 1 = nI (7 * i + 0) := nI_pred _
    have i2 : am_inb (nI (7 * i + 2)) 112 = true := inb_n (by omega) (by decide)
    have j2 : (nI (7 * i + 2)).toNatClampNeg = 7 * i + 2 := nI_clamp (by omega)
    have q2 : nI (7 * i) + 2 = nI (7 * i + 2) := nI_add _ 2
    have r2 : nI (7 * i + 2) - 1 = nI (7 * i + 1) := nI_pred _
    have i3 : am_inb (nI (7 * i + 3)) 112 = true := inb_n (by omega) (by decide)
    have j3 : (nI (7 * i + 3)).toNatClampNeg = 7 * i + 3 := nI_clamp (by omega)
    have q3 : nI (7 * i) + 3 = nI (7 * i + 3) := nI_add _ 3
    have r3 : nI (7 * i + 3) - 1 = nI (7 * i + 2) := nI_pred _
    have i4 : am_inb (nI (7 * i + 4)) 112 = true := inb_n (by omega) (by decide)
    have j4 : (nI (7 * i + 4)).toNatClampNeg = 7 * i + 4 := nI_clamp (by omega)
    have q4 : nI (7 * i) + 4 = nI (7 * i + 4) := nI_add _ 4
    have r4 : nI (7 * i + 4) - 1 = nI (7 * i + 3) := nI_pred _
    have i5 : am_inb (nI (7 * i + 5)) 112 = true := inb_n (by omega) (by decide)
    have j5 : (nI (7 * i + 5)).toNatClampNeg = 7 * i + 5 := nI_clamp (by omega)
    have q5 : nI (7 * i) + 5 = nI (7 * i + 5) := nI_add _ 5
    have r5 : nI (7 * i + 5) - 1 = nI (7 * i + 4) := nI_pred _
    have i6 : am_inb (nI (7 * i + 6)) 112 = true := inb_n (by omega) (by decide)
    have j6 : (nI (7 * i + 6)).toNatClampNeg = 7 * i + 6 := nI_clamp (by omega)
    have q6 : nI (7 * i) + 6 = nI (7 * i + 6) := nI_add _ 6
    have r6 : nI (7 * i + 6) - 1 = nI (7 * i + 5) := nI_pred _
    have ne67 : ∀ {f : am_I} {v : Int32} {a b : Nat}, b ≠ a → am_u f 179 a v 179 b = f 179 b := fun h => u_nk _ _ _ _ h
    have L : ∀ Q, AW d 222 250 [.ref 160, .int x1, .int (nI i), x3, x4, x5] [] (f_mvM σ i) ρ g τ Q = AW d 222 297 [.ref 160, .int x1, .int (nI i), .int 0, x4, x5] [] (f_sh (f_mvM σ i) 179 (7 * i)) ρ g τ Q := by
      intro Q
      unfold f_sh
      generalize f_mvM σ i = s at e0
      have s0 : ∀ (f : am_I) (k : Nat) (v : Int32), am_u f 179 k v 161 2 = f 161 2 := fun f k v => by rw [u_ne _ _ _ _ (by decide)]
      rw [s222_250]
      simp (decide := true) only [s222_251, s222_252, s222_255, s222_256, s222_257, s222_260, s222_262, s222_263, s222_264, s222_267, s222_268, s222_271, s222_273, s222_274, s222_275, s222_276, s222_277, s222_278, s222_281, s222_283, s222_284, s222_285, s222_286, s222_287, s222_288, s222_289, s222_290, s222_291, s222_294, k_160 hS, k_161 hS, l_161 hS, k_162 hS, l_162 hS, k_163 hS, l_163 hS, k_164 hS, l_164 hS, k_165 hS, l_165 hS, k_166 hS, l_166 hS, k_167 hS, l_167 hS, k_168 hS, l_168 hS, k_169 hS, l_169 hS, k_170 hS, l_170 hS, k_171 hS, l_171 hS, k_172 hS, l_172 hS, k_173 hS, l_173 hS, k_174 hS, l_174 hS, k_175 hS, l_175 hS, k_176 hS, l_176 hS, k_177 hS, l_177 hS, k_178 hS, l_178 hS, k_179 hS, l_179 hS, k_180 hS, l_180 hS, k_181 hS, l_181 hS, k_182 hS, l_182 hS, k_183 hS, l_183 hS, k_184 hS, l_184 hS, k_185 hS, l_185 hS, k_186 hS, l_186 hS, k_187 hS, l_187 hS, k_188 hS, l_188 hS, k_189 hS, l_189 hS, k_190 hS, l_190 hS, k_191 hS, l_191 hS, k_192 hS, l_192 hS, k_193 hS, l_193 hS, k_194 hS, l_194 hS, k_195 hS, l_195 hS, k_196 hS, l_196 hS, k_197 hS, l_197 hS, k_198 hS, l_198 hS, k_199 hS, l_199 hS, k_200 hS, l_200 hS, k_201 hS, l_201 hS, k_202 hS, l_202 hS, k_203 hS, l_203 hS, k_204 hS, l_204 hS, k_205 hS, l_205 hS, k_206 hS, l_206 hS, k_207 hS, l_207 hS, k_208 hS, l_208 hS, k_209 hS, l_209 hS, k_210 hS, l_210 hS, k_211 hS, l_211 hS, k_212 hS, l_212 hS, k_213 hS, l_213 hS, k_214 hS, l_214 hS, k_215 hS, l_215 hS, k_216 hS, l_216 hS, k_217 hS, l_217 hS, k_218 hS, l_218 hS, k_219 hS, l_219 hS, k_220 hS, l_220 hS, r_160_0 hS, r_160_1 hS, r_160_2 hS, r_160_3 hS, r_160_4 hS, r_160_5 hS, r_160_6 hS, r_160_7 hS, r_160_8 hS, r_160_9 hS, r_160_10 hS, r_160_11 hS, r_160_12 hS, r_160_13 hS, r_160_14 hS, r_160_15 hS, r_160_16 hS, r_160_17 hS, r_160_18 hS, r_160_19 hS, r_160_20 hS, r_160_21 hS, r_160_22 hS, r_160_23 hS, r_160_24 hS, r_160_25 hS, r_160_26 hS, r_160_27 hS, r_160_28 hS, r_160_29 hS, r_160_30 hS, r_160_31 hS, r_160_32 hS, r_160_33 hS, r_160_34 hS, r_160_35 hS, r_160_36 hS, r_160_37 hS, r_160_38 hS, r_160_39 hS, r_160_40 hS, r_160_41 hS, r_160_43 hS, r_160_45 hS, r_160_46 hS, r_160_48 hS, r_160_49 hS, r_160_50 hS, r_160_51 hS, r_160_52 hS, r_160_53 hS, r_160_54 hS, r_160_56 hS, r_160_63 hS, r_160_64 hS, r_160_65 hS, r_160_66 hS, r_160_67 hS, r_160_68 hS, r_160_69 hS, ol_s, ol_n, ln_0, ln_1, ln_2, ln_3, ln_4, eq_self, rf_s, rf_n, i01_0, i01_n0, i01_b, b01_0, b01_1, and_self, and_true, true_and, and_false, false_and, if_true, if_false, not_true_eq_false, not_false_eq_true, e10, e00, lt_bg, Nat.reduceLT, Nat.reduceLeDiff, k2, z2, e0, hlt, m7, i0, j0, i1, j1, i2, j2, i3, j3, i4, j4, i5, j5, i6, j6, q1, r1, q2, r2, q3, r3, q4, r4, q5, r5, q6, r6, Int32.reduceAdd]
      simp (disch := omega) only [u_nk]
    have un : f_mvM σ (i + 1) = if f_mvM σ i 170 i = 0 ∧ ¬ f_mvM σ i 177 i = 1 then am_u (f_sh (f_mvM σ i) 179 (7 * i)) 179 (7 * i) (f_npM (f_mvM σ i 176 i) (f_mvM σ i 179 (7 * i))) else f_sh (f_mvM σ i) 179 (7 * i) := rfl
    have ih := fun (y : Value) => c222p hS hD hD16 (x1 := x1) (x4 := x4) (x5 := x5) n (i + 1) y (by omega)
    rw [un] at ih
    rw [L]
    have f0 : ∀ y, y ≠ 179 → f_sh (f_mvM σ i) 179 (7 * i) y = f_mvM σ i y := fun y hy => sh_ne hy
    have g0 : f_sh (f_mvM σ i) 179 (7 * i) 170 i = f_mvM σ i 170 i := by rw [f0 _ (by decide)]
    have g7 : f_sh (f_mvM σ i) 179 (7 * i) 177 i = f_mvM σ i 177 i := by rw [f0 _ (by decide)]
    have g6 : f_sh (f_mvM σ i) 179 (7 * i) 176 i = f_mvM σ i 176 i := by rw [f0 _ (by decide)]
    have g9 : f_sh (f_mvM σ i) 179 (7 * i) 179 (7 * i) = f_mvM σ i 179 (7 * i) := sh_0
    have hi7 : am_inb (nI (7 * i)) 112 = true := inb_n (by omega) (by decide)
    have hc7 : (nI (7 * i)).toNatClampNeg = 7 * i := nI_clamp (by omega)
    by_cases q : f_mvM σ i 170 i = 0
    · by_cases z : f_mvM σ i 177 i = 1
      · rw [if_neg (fun h => h.2 z)] at ih
        simp only [s222_297, s222_298, s222_301, s222_302, s222_303, s222_306, s222_307, s222_310, s222_311, s222_312, s222_313, s222_316, s222_319, s222_320, s222_323, s222_324, s222_325, s222_328, s222_329, s222_332, s222_334, s222_335, s222_336, s222_337, s222_338, s222_339, s222_342, s222_343, s222_346, s222_348, s222_349, s222_350, s222_351, s222_352, s222_353, s222_354, s222_355, s222_358, s222_360, s222_361, s222_362, s222_363, s222_365, s222_366, s222_369, s222_372, s222_373, s222_376, k_160 hS, k_161 hS, l_161 hS, k_162 hS, l_162 hS, k_163 hS, l_163 hS, k_164 hS, l_164 hS, k_165 hS, l_165 hS, k_166 hS, l_166 hS, k_167 hS, l_167 hS, k_168 hS, l_168 hS, k_169 hS, l_169 hS, k_170 hS, l_170 hS, k_171 hS, l_171 hS, k_172 hS, l_172 hS, k_173 hS, l_173 hS, k_174 hS, l_174 hS, k_175 hS, l_175 hS, k_176 hS, l_176 hS, k_177 hS, l_177 hS, k_178 hS, l_178 hS, k_179 hS, l_179 hS, k_180 hS, l_180 hS, k_181 hS, l_181 hS, k_182 hS, l_182 hS, k_183 hS, l_183 hS, k_184 hS, l_184 hS, k_185 hS, l_185 hS, k_186 hS, l_186 hS, k_187 hS, l_187 hS, k_188 hS, l_188 hS, k_189 hS, l_189 hS, k_190 hS, l_190 hS, k_191 hS, l_191 hS, k_192 hS, l_192 hS, k_193 hS, l_193 hS, k_194 hS, l_194 hS, k_195 hS, l_195 hS, k_196 hS, l_196 hS, k_197 hS, l_197 hS, k_198 hS, l_198 hS, k_199 hS, l_199 hS, k_200 hS, l_200 hS, k_201 hS, l_201 hS, k_202 hS, l_202 hS, k_203 hS, l_203 hS, k_204 hS, l_204 hS, k_205 hS, l_205 hS, k_206 hS, l_206 hS, k_207 hS, l_207 hS, k_208 hS, l_208 hS, k_209 hS, l_209 hS, k_210 hS, l_210 hS, k_211 hS, l_211 hS, k_212 hS, l_212 hS, k_213 hS, l_213 hS, k_214 hS, l_214 hS, k_215 hS, l_215 hS, k_216 hS, l_216 hS, k_217 hS, l_217 hS, k_218 hS, l_218 hS, k_219 hS, l_219 hS, k_220 hS, l_220 hS, r_160_0 hS, r_160_1 hS, r_160_2 hS, r_160_3 hS, r_160_4 hS, r_160_5 hS, r_160_6 hS, r_160_7 hS, r_160_8 hS, r_160_9 hS, r_160_10 hS, r_160_11 hS, r_160_12 hS, r_160_13 hS, r_160_14 hS, r_160_15 hS, r_160_16 hS, r_160_17 hS, r_160_18 hS, r_160_19 hS, r_160_20 hS, r_160_21 hS, r_160_22 hS, r_160_23 hS, r_160_24 hS, r_160_25 hS, r_160_26 hS, r_160_27 hS, r_160_28 hS, r_160_29 hS, r_160_30 hS, r_160_31 hS, r_160_32 hS, r_160_33 hS, r_160_34 hS, r_160_35 hS, r_160_36 hS, r_160_37 hS, r_160_38 hS, r_160_39 hS, r_160_40 hS, r_160_41 hS, r_160_43 hS, r_160_45 hS, r_160_46 hS, r_160_48 hS, r_160_49 hS, r_160_50 hS, r_160_51 hS, r_160_52 hS, r_160_53 hS, r_160_54 hS, r_160_56 hS, r_160_63 hS, r_160_64 hS, r_160_65 hS, r_160_66 hS, r_160_67 hS, r_160_68 hS, r_160_69 hS, ol_s, ol_n, ln_0, ln_1, ln_2, ln_3, ln_4, eq_self, rf_s, rf_n, i01_0, i01_n0, i01_b, b01_0, b01_1, and_self, and_true, true_and, and_false, false_and, if_true, if_false, not_true_eq_false, not_false_eq_true, e10, e00, lt_bg, Nat.reduceLT, Nat.reduceLeDiff, hi, hc, g0, g7, q, z, nI_1]
        exact ih _
      · rw [if_pos ⟨q, z⟩] at ih
        unfold f_npM at ih
        by_cases o : f_mvM σ i 176 i = 0
        · simp only [if_pos o] at ih
          simp only [s222_297, s222_298, s222_301, s222_302, s222_303, s222_306, s222_307, s222_310, s222_311, s222_312, s222_313, s222_316, s222_319, s222_320, s222_323, s222_324, s222_325, s222_328, s222_329, s222_332, s222_334, s222_335, s222_336, s222_337, s222_338, s222_339, s222_342, s222_343, s222_346, s222_348, s222_349, s222_350, s222_351, s222_352, s222_353, s222_354, s222_355, s222_358, s222_360, s222_361, s222_362, s222_363, s222_365, s222_366, s222_369, s222_372, s222_373, s222_376, k_160 hS, k_161 hS, l_161 hS, k_162 hS, l_162 hS, k_163 hS, l_163 hS, k_164 hS, l_164 hS, k_165 hS, l_165 hS, k_166 hS, l_166 hS, k_167 hS, l_167 hS, k_168 hS, l_168 hS, k_169 hS, l_169 hS, k_170 hS, l_170 hS, k_171 hS, l_171 hS, k_172 hS, l_172 hS, k_173 hS, l_173 hS, k_174 hS, l_174 hS, k_175 hS, l_175 hS, k_176 hS, l_176 hS, k_177 hS, l_177 hS, k_178 hS, l_178 hS, k_179 hS, l_179 hS, k_180 hS, l_180 hS, k_181 hS, l_181 hS, k_182 hS, l_182 hS, k_183 hS, l_183 hS, k_184 hS, l_184 hS, k_185 hS, l_185 hS, k_186 hS, l_186 hS, k_187 hS, l_187 hS, k_188 hS, l_188 hS, k_189 hS, l_189 hS, k_190 hS, l_190 hS, k_191 hS, l_191 hS, k_192 hS, l_192 hS, k_193 hS, l_193 hS, k_194 hS, l_194 hS, k_195 hS, l_195 hS, k_196 hS, l_196 hS, k_197 hS, l_197 hS, k_198 hS, l_198 hS, k_199 hS, l_199 hS, k_200 hS, l_200 hS, k_201 hS, l_201 hS, k_202 hS, l_202 hS, k_203 hS, l_203 hS, k_204 hS, l_204 hS, k_205 hS, l_205 hS, k_206 hS, l_206 hS, k_207 hS, l_207 hS, k_208 hS, l_208 hS, k_209 hS, l_209 hS, k_210 hS, l_210 hS, k_211 hS, l_211 hS, k_212 hS, l_212 hS, k_213 hS, l_213 hS, k_214 hS, l_214 hS, k_215 hS, l_215 hS, k_216 hS, l_216 hS, k_217 hS, l_217 hS, k_218 hS, l_218 hS, k_219 hS, l_219 hS, k_220 hS, l_220 hS, r_160_0 hS, r_160_1 hS, r_160_2 hS, r_160_3 hS, r_160_4 hS, r_160_5 hS, r_160_6 hS, r_160_7 hS, r_160_8 hS, r_160_9 hS, r_160_10 hS, r_160_11 hS, r_160_12 hS, r_160_13 hS, r_160_14 hS, r_160_15 hS, r_160_16 hS, r_160_17 hS, r_160_18 hS, r_160_19 hS, r_160_20 hS, r_160_21 hS, r_160_22 hS, r_160_23 hS, r_160_24 hS, r_160_25 hS, r_160_26 hS, r_160_27 hS, r_160_28 hS, r_160_29 hS, r_160_30 hS, r_160_31 hS, r_160_32 hS, r_160_33 hS, r_160_34 hS, r_160_35 hS, r_160_36 hS, r_160_37 hS, r_160_38 hS, r_160_39 hS, r_160_40 hS, r_160_41 hS, r_160_43 hS, r_160_45 hS, r_160_46 hS, r_160_48 hS, r_160_49 hS, r_160_50 hS, r_160_51 hS, r_160_52 hS, r_160_53 hS, r_160_54 hS, r_160_56 hS, r_160_63 hS, r_160_64 hS, r_160_65 hS, r_160_66 hS, r_160_67 hS, r_160_68 hS, r_160_69 hS, ol_s, ol_n, ln_0, ln_1, ln_2, ln_3, ln_4, eq_self, rf_s, rf_n, i01_0, i01_n0, i01_b, b01_0, b01_1, and_self, and_true, true_and, and_false, false_and, if_true, if_false, not_true_eq_false, not_false_eq_true, e10, e00, lt_bg, Nat.reduceLT, Nat.reduceLeDiff, hi, hc, m7, hi7, hc7, g0, g7, g6, g9, q, z, o, nI_1]
          exact ih _
        · simp only [if_neg o] at ih
          simp only [s222_297, s222_298, s222_301, s222_302, s222_303, s222_306, s222_307, s222_310, s222_311, s222_312, s222_313, s222_316, s222_319, s222_320, s222_323, s222_324, s222_325, s222_328, s222_329, s222_332, s222_334, s222_335, s222_336, s222_337, s222_338, s222_339, s222_342, s222_343, s222_346, s222_348, s222_349, s222_350, s222_351, s222_352, s222_353, s222_354, s222_355, s222_358, s222_360, s222_361, s222_362, s222_363, s222_365, s222_366, s222_369, s222_372, s222_373, s222_376, k_160 hS, k_161 hS, l_161 hS, k_162 hS, l_162 hS, k_163 hS, l_163 hS, k_164 hS, l_164 hS, k_165 hS, l_165 hS, k_166 hS, l_166 hS, k_167 hS, l_167 hS, k_168 hS, l_168 hS, k_169 hS, l_169 hS, k_170 hS, l_170 hS, k_171 hS, l_171 hS, k_172 hS, l_172 hS, k_173 hS, l_173 hS, k_174 hS, l_174 hS, k_175 hS, l_175 hS, k_176 hS, l_176 hS, k_177 hS, l_177 hS, k_178 hS, l_178 hS, k_179 hS, l_179 hS, k_180 hS, l_180 hS, k_181 hS, l_181 hS, k_182 hS, l_182 hS, k_183 hS, l_183 hS, k_184 hS, l_184 hS, k_185 hS, l_185 hS, k_186 hS, l_186 hS, k_187 hS, l_187 hS, k_188 hS, l_188 hS, k_189 hS, l_189 hS, k_190 hS, l_190 hS, k_191 hS, l_191 hS, k_192 hS, l_192 hS, k_193 hS, l_193 hS, k_194 hS, l_194 hS, k_195 hS, l_195 hS, k_196 hS, l_196 hS, k_197 hS, l_197 hS, k_198 hS, l_198 hS, k_199 hS, l_199 hS, k_200 hS, l_200 hS, k_201 hS, l_201 hS, k_202 hS, l_202 hS, k_203 hS, l_203 hS, k_204 hS, l_204 hS, k_205 hS, l_205 hS, k_206 hS, l_206 hS, k_207 hS, l_207 hS, k_208 hS, l_208 hS, k_209 hS, l_209 hS, k_210 hS, l_210 hS, k_211 hS, l_211 hS, k_212 hS, l_212 hS, k_213 hS, l_213 hS, k_214 hS, l_214 hS, k_215 hS, l_215 hS, k_216 hS, l_216 hS, k_217 hS, l_217 hS, k_218 hS, l_218 hS, k_219 hS, l_219 hS, k_220 hS, l_220 hS, r_160_0 hS, r_160_1 hS, r_160_2 hS, r_160_3 hS, r_160_4 hS, r_160_5 hS, r_160_6 hS, r_160_7 hS, r_160_8 hS, r_160_9 hS, r_160_10 hS, r_160_11 hS, r_160_12 hS, r_160_13 hS, r_160_14 hS, r_160_15 hS, r_160_16 hS, r_160_17 hS, r_160_18 hS, r_160_19 hS, r_160_20 hS, r_160_21 hS, r_160_22 hS, r_160_23 hS, r_160_24 hS, r_160_25 hS, r_160_26 hS, r_160_27 hS, r_160_28 hS, r_160_29 hS, r_160_30 hS, r_160_31 hS, r_160_32 hS, r_160_33 hS, r_160_34 hS, r_160_35 hS, r_160_36 hS, r_160_37 hS, r_160_38 hS, r_160_39 hS, r_160_40 hS, r_160_41 hS, r_160_43 hS, r_160_45 hS, r_160_46 hS, r_160_48 hS, r_160_49 hS, r_160_50 hS, r_160_51 hS, r_160_52 hS, r_160_53 hS, r_160_54 hS, r_160_56 hS, r_160_63 hS, r_160_64 hS, r_160_65 hS, r_160_66 hS, r_160_67 hS, r_160_68 hS, r_160_69 hS, ol_s, ol_n, ln_0, ln_1, ln_2, ln_3, ln_4, eq_self, rf_s, rf_n, i01_0, i01_n0, i01_b, b01_0, b01_1, and_self, and_true, true_and, and_false, false_and, if_true, if_false, not_true_eq_false, not_false_eq_true, e10, e00, lt_bg, Nat.reduceLT, Nat.reduceLeDiff, hi, hc, m7, hi7, hc7, g0, g7, g6, g9, q, z, o, nI_1]
          exact ih _
    · rw [if_neg (fun h => q h.1)] at ih
      simp only [s222_297, s222_298, s222_301, s222_302, s222_303, s222_306, s222_307, s222_310, s222_311, s222_312, s222_313, s222_316, s222_319, s222_320, s222_323, s222_324, s222_325, s222_328, s222_329, s222_332, s222_334, s222_335, s222_336, s222_337, s222_338, s222_339, s222_342, s222_343, s222_346, s222_348, s222_349, s222_350, s222_351, s222_352, s222_353, s222_354, s222_355, s222_358, s222_360, s222_361, s222_362, s222_363, s222_365, s222_366, s222_369, s222_372, s222_373, s222_376, k_160 hS, k_161 hS, l_161 hS, k_162 hS, l_162 hS, k_163 hS, l_163 hS, k_164 hS, l_164 hS, k_165 hS, l_165 hS, k_166 hS, l_166 hS, k_167 hS, l_167 hS, k_168 hS, l_168 hS, k_169 hS, l_169 hS, k_170 hS, l_170 hS, k_171 hS, l_171 hS, k_172 hS, l_172 hS, k_173 hS, l_173 hS, k_174 hS, l_174 hS, k_175 hS, l_175 hS, k_176 hS, l_176 hS, k_177 hS, l_177 hS, k_178 hS, l_178 hS, k_179 hS, l_179 hS, k_180 hS, l_180 hS, k_181 hS, l_181 hS, k_182 hS, l_182 hS, k_183 hS, l_183 hS, k_184 hS, l_184 hS, k_185 hS, l_185 hS, k_186 hS, l_186 hS, k_187 hS, l_187 hS, k_188 hS, l_188 hS, k_189 hS, l_189 hS, k_190 hS, l_190 hS, k_191 hS, l_191 hS, k_192 hS, l_192 hS, k_193 hS, l_193 hS, k_194 hS, l_194 hS, k_195 hS, l_195 hS, k_196 hS, l_196 hS, k_197 hS, l_197 hS, k_198 hS, l_198 hS, k_199 hS, l_199 hS, k_200 hS, l_200 hS, k_201 hS, l_201 hS, k_202 hS, l_202 hS, k_203 hS, l_203 hS, k_204 hS, l_204 hS, k_205 hS, l_205 hS, k_206 hS, l_206 hS, k_207 hS, l_207 hS, k_208 hS, l_208 hS, k_209 hS, l_209 hS, k_210 hS, l_210 hS, k_211 hS, l_211 hS, k_212 hS, l_212 hS, k_213 hS, l_213 hS, k_214 hS, l_214 hS, k_215 hS, l_215 hS, k_216 hS, l_216 hS, k_217 hS, l_217 hS, k_218 hS, l_218 hS, k_219 hS, l_219 hS, k_220 hS, l_220 hS, r_160_0 hS, r_160_1 hS, r_160_2 hS, r_160_3 hS, r_160_4 hS, r_160_5 hS, r_160_6 hS, r_160_7 hS, r_160_8 hS, r_160_9 hS, r_160_10 hS, r_160_11 hS, r_160_12 hS, r_160_13 hS, r_160_14 hS, r_160_15 hS, r_160_16 hS, r_160_17 hS, r_160_18 hS, r_160_19 hS, r_160_20 hS, r_160_21 hS, r_160_22 hS, r_160_23 hS, r_160_24 hS, r_160_25 hS, r_160_26 hS, r_160_27 hS, r_160_28 hS, r_160_29 hS, r_160_30 hS, r_160_31 hS, r_160_32 hS, r_160_33 hS, r_160_34 hS, r_160_35 hS, r_160_36 hS, r_160_37 hS, r_160_38 hS, r_160_39 hS, r_160_40 hS, r_160_41 hS, r_160_43 hS, r_160_45 hS, r_160_46 hS, r_160_48 hS, r_160_49 hS, r_160_50 hS, r_160_51 hS, r_160_52 hS, r_160_53 hS, r_160_54 hS, r_160_56 hS, r_160_63 hS, r_160_64 hS, r_160_65 hS, r_160_66 hS, r_160_67 hS, r_160_68 hS, r_160_69 hS, ol_s, ol_n, ln_0, ln_1, ln_2, ln_3, ln_4, eq_self, rf_s, rf_n, i01_0, i01_n0, i01_b, b01_0, b01_1, and_self, and_true, true_and, and_false, false_and, if_true, if_false, not_true_eq_false, not_false_eq_true, e10, e00, lt_bg, Nat.reduceLT, Nat.reduceLeDiff, hi, hc, g0, q, nI_1]
      exact ih _
/-- the prices of a bond stay alike -/
theorem mv_rel {c : Cn} (hc : Rld 1 161 c σ ρ τ) : ∀ n, n ≤ c 2 → ∀ i, i < c 2 → σ 170 i = 0 → ∀ k, k < 7 → EQ 100 (f_mvC σ n (35 + 2 * i) k) (f_mvM σ n 179 (7 * i + k))
  | 0, _, i, hi, h0, k, hk => (hc.db i hi).2.2.2.2.2.2.2.2.2 h0 k hk
  | n + 1, h, i, hi, h0, k, hk => by
    have b := hc.bn
    unfold Bn at b
    have ih := mv_rel hc n (by omega) i hi h0
    obtain ⟨ho, fo, so, sm, ev, cm, ow, vo, ⟨q1, q2, q3, q4, q5, q6, q7, q8, q9⟩, ⟨a0, a1, a2, a3, a4, a5, a6, a8⟩, ⟨e0, e1, e2, e3, e4, e5, e6, e8⟩⟩ := debt_n (hc.db n (by omega))
    have cn : ∀ y, 1 ≤ y → (∀ j, j < n → y ≠ 35 + 2 * j) → f_mvC σ n y = σ y := fun y _ hy => mvC_ne n hy
    have c34 : f_mvC σ n (34 + 2 * n) = σ (34 + 2 * n) := mvC_ne n (fun j hj => by omega)
    have mm : ∀ y, y ≠ 179 → f_mvM σ n y = σ y := fun y hy => mvM_ne hy n
    unfold f_mvC f_mvM
    rw [c34, mm 170 (by decide), mm 177 (by decide), mm 176 (by decide)]
    unfold f_mpC
    rw [c34]
    by_cases e : i = n
    · subst e
      have f0 : σ (34 + 2 * i) 1 = 0 := by
        rw [a1, ← e1]
        exact h0
      rw [if_pos f0]
      have hvo : vo = 0 ∨ vo = 1 := by omega
      rcases hvo with v0 | v0
      · subst v0
        rw [if_pos (show σ (34 + 2 * i) 8 = 0 by rw [a8]; rfl), if_pos ⟨h0, by rw [e8]; decide⟩]
        cases k with
        | zero =>
          obtain ⟨p, hp, p1, p2⟩ := ih 0 (by decide)
          rw [u_at, Nat.add_zero, u_at, p1]
          have p2 : f_mvM σ i 179 (7 * i) = nI p := p2
          rw [p2, a6, e6]
          obtain ⟨n1, q, n2, n3⟩ := np_eq (o := nI ow) hp
          rw [← n1, n3]
          exact EQ.of n2
        | succ k =>
          have s1 := sh_k (σ := f_mvC σ i) (a := 35 + 2 * i) (b := 0) (k := k) (by omega)
          have s2 := sh_k (σ := f_mvM σ i) (a := 179) (b := 7 * i) (k := k) (by omega)
          rw [Nat.zero_add, Nat.zero_add] at s1
          rw [u_nk _ _ _ _ (by omega), u_nk _ _ _ _ (by omega), s1, s2]
          exact ih k (by omega)
      · subst v0
        rw [if_neg (show ¬ σ (34 + 2 * i) 8 = 0 by rw [a8]; decide), if_neg (fun h => h.2 (by rw [e8]; rfl))]
        cases k with
        | zero =>
          rw [sh_0, Nat.add_zero, sh_0]
          exact ih 0 (by decide)
        | succ k =>
          have s1 := sh_k (σ := f_mvC σ i) (a := 35 + 2 * i) (b := 0) (k := k) (by omega)
          have s2 := sh_k (σ := f_mvM σ i) (a := 179) (b := 7 * i) (k := k) (by omega)
          rw [Nat.zero_add, Nat.zero_add] at s1
          rw [s1, s2]
          exact ih k (by omega)
    · have x1 : ∀ (s : am_I) (v : Int32), am_u (f_sh s (35 + 2 * n) 0) (35 + 2 * n) 0 v (35 + 2 * i) k = s (35 + 2 * i) k := fun s v => by rw [u_ne _ _ _ _ (by omega), sh_ne (by omega)]
      have x2 : ∀ (s : am_I), f_sh s (35 + 2 * n) 0 (35 + 2 * i) k = s (35 + 2 * i) k := fun s => by rw [sh_ne (by omega)]
      have x3 : ∀ (s : am_I), f_sh s 179 (7 * n) 179 (7 * i + k) = s 179 (7 * i + k) := fun s => sh_out (by omega)
      have x4 : ∀ (s : am_I) (v : Int32), am_u (f_sh s 179 (7 * n)) 179 (7 * n) v 179 (7 * i + k) = s 179 (7 * i + k) := fun s v => by rw [u_nk _ _ _ _ (by omega), x3]
      have r := ih k hk
      split
      · split
        · split
          · rw [x1, x4]; exact r
          · rw [x1, x3]; exact r
        · split
          · rw [x2, x4]; exact r
          · rw [x2, x3]; exact r
      · split
        · rw [x4]; exact r
        · rw [x3]; exact r
end OBO