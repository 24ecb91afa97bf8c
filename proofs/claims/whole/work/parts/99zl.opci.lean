/-! least: the most guards that a province has, both sides -/
section OCI
variable {d : Nat} {σ : am_I} {ρ : am_R} {g : am_J} {τ : am_T} {Q : am_Q}
theorem c121 (hS : Sh ρ τ) {σ0 : am_I} {f m k cur : Nat} (hf : f ≤ 7) (hk : k ≤ 40) {W1 pv : Nat → Nat} (hW : ∀ j, j ≤ 9 → WR m σ0 ρ τ f j (W1 j)) (hE : EqC σ0 σ) (hpv : ∀ t, pv t ≤ 1000000) (hv : ∀ t, t < 41 → σ 158 (41 * f + 41 + t) = nI (pv t)) (hc : σ 158 (41 * f + k) = nI cur) (hcu : cur ≤ 1000000) : ∀ (d : Nat) (g : am_J) (Q : am_Q), AW (d + 2) 121 0 [.ref 0, .int (nI f), .int (nI k), .int (nI m), am_jk, am_jk, am_jk] [] σ ρ g τ Q = Q (some (.int (nI (lsM W1 pv cur k (min 9 k))))) σ ρ g τ := by
  intro d g Q
  have e9 : nI 9 = (9 : Int32) := by decide
  have e41 : nI 41 = (41 : Int32) := by decide
  have ml : nI f * 41 = nI (41 * f) := by rw [← e41, nI_mulL, Nat.mul_comm]
  have mn : (if (9 : Int32) < nI k then (9 : Int32) else nI k) = nI (min 9 k) := by
    rw [← e9]
    by_cases z : 9 < k
    · rw [if_pos (Int32.not_le.mp (nI_ge (by omega) (by omega))), Nat.min_eq_left (by omega)]
    · rw [if_neg (Int32.not_lt.mpr (nI_le (by omega) (by omega))), Nat.min_eq_right (by omega)]
  have mn2 : (if nI k < (9 : Int32) then nI k else (9 : Int32)) = nI (min 9 k) := by
    rw [← e9]
    by_cases z : k < 9
    · rw [if_pos (Int32.not_le.mp (nI_ge (by omega) (by omega))), Nat.min_eq_right (by omega)]
    · rw [if_neg (Int32.not_lt.mpr (nI_le (by omega) (by omega))), Nat.min_eq_left (by omega)]
  have L := c121L hS hf hk hW hE hpv hv hc hcu (min 9 k) am_jk (Nat.min_le_left _ _) (Nat.min_le_right _ _) d g Q
  simp only [s121_0, s121_1, s121_3, s121_4, s121_6, s121_8, s121_9, s121_12, ol_s, ol_n, ln_0, ln_1, ln_2, ln_3, ln_4, eq_self, rf_s, rf_n, i01_0, i01_n0, i01_b, b01_0, b01_1, and_self, and_true, true_and, and_false, false_and, if_true, if_false, not_true_eq_false, not_false_eq_true, e10, e00, lt_bg, Nat.reduceLT, Nat.reduceLeDiff, ml, mn, mn2]
  exact L
theorem c183x {x1 x2 x5 : Value} {x3 : Int32} : AW d 183 64 [.ref 160, x1, x2, .int x3, .int 0, x5] [] σ ρ g τ Q = Q (some (.int 0)) σ ρ g τ := by
  have e : (0 : Int32) + (-1) = -1 := by decide
  have l : ((-1 : Int32) < 0) = True := by decide
  simp only [s183_8, s183_10, s183_64, s183_67, s183_70, s183_71, ol_s, ol_n, ln_0, ln_1, ln_2, ln_3, ln_4, eq_self, rf_s, rf_n, i01_0, i01_n0, i01_b, b01_0, b01_1, and_self, and_true, true_and, and_false, false_and, if_true, if_false, not_true_eq_false, not_false_eq_true, e10, e00, lt_bg, Nat.reduceLT, Nat.reduceLeDiff, e, l]
theorem c183L (hS : Sh ρ τ) {σ0 : am_I} {f m k cur : Nat} (hf : f ≤ 7) (hk : k ≤ 40) {W1 pv : Nat → Nat} (hW : ∀ j, j ≤ 9 → WR m σ0 ρ τ f j (W1 j)) (hE : EqM σ0 σ) (hpv : ∀ t, pv t < 1000000 → pv t ≤ 50000) (hv : ∀ t, t ≤ k → σ 213 (41 * f + 41 + t) = mI (pv t)) (hcu : cur < 1000000) (hc : σ 213 (41 * f + k) = nI cur) : ∀ (h : Nat) (x5 : Value), h ≤ 9 → h ≤ k → ∀ (d : Nat) (g : am_J) (Q : am_Q), AW (d + 3) 183 8 [.ref 160, .int (nI f), .int (nI k), .int (nI m), .int (nI h), x5] [] σ ρ g τ Q = Q (some (.int (nI (lsM W1 pv cur k h)))) σ ρ g τ := by
  intro h
  have e41 : nI 41 = (41 : Int32) := by decide
  have z0' : nI 0 = (0 : Int32) := rfl
  have a1 : (41 : Int32) * nI (f + 1) = nI (41 * f + 41) := by
    rw [← e41, nI_mulL]
    congr 1
  have a2 : (41 : Int32) * nI f = nI (41 * f) := by rw [← e41, nI_mulL]
  have bi : am_inb (nI (41 * f + k)) 369 = true := inb_n (by omega) (by decide)
  have ci : (nI (41 * f + k)).toNatClampNeg = 41 * f + k := nI_clamp (by omega)
  induction h with
  | zero =>
    intro x5 _ _ d g Q
    have u : lsM W1 pv cur k 0 = 0 := rfl
    rw [u]
    have hlt : ((0 : Int32) < 0) = False := by decide
    have p2 : nI (41 * f + 41 + k) - 0 = nI (41 * f + 41 + k) := Int32.sub_zero _
    have bj : am_inb (nI (41 * f + 41 + k)) 369 = true := inb_n (by omega) (by decide)
    have cj : (nI (41 * f + 41 + k)).toNatClampNeg = 41 * f + 41 + k := nI_clamp (by omega)
    have r1 := hv k (Nat.le_refl _)
    obtain ⟨w1, _, w2⟩ := hW 0 (by omega)
    have w2 := w2 σ hE
    rw [z0'] at w2 ⊢
    rw [s183_8]
    by_cases z : pv k < 1000000
    · have b := hpv _ z
      have r1 : σ 213 (41 * f + 41 + k) = nI (pv k) := r1.trans (if_pos z)
      have n0 : ¬ nI (pv k) < 0 := Int32.not_lt.mpr (nI_le (a := 0) (Nat.zero_le _) (by omega))
      by_cases q : pv k + W1 0 = cur
      · simp only [s183_10, s183_13, s183_14, s183_17, s183_19, s183_20, s183_21, s183_22, s183_23, s183_24, s183_25, s183_27, s183_28, s183_29, s183_31, s183_33, s183_36, s183_38, s183_39, s183_40, s183_41, s183_43, s183_46, s183_47, s183_48, s183_51, s183_53, s183_54, s183_55, s183_56, s183_57, s183_58, s183_61, s183_63, k_160 hS, k_161 hS, l_161 hS, k_162 hS, l_162 hS, k_163 hS, l_163 hS, k_164 hS, l_164 hS, k_165 hS, l_165 hS, k_166 hS, l_166 hS, k_167 hS, l_167 hS, k_168 hS, l_168 hS, k_169 hS, l_169 hS, k_170 hS, l_170 hS, k_171 hS, l_171 hS, k_172 hS, l_172 hS, k_173 hS, l_173 hS, k_174 hS, l_174 hS, k_175 hS, l_175 hS, k_176 hS, l_176 hS, k_177 hS, l_177 hS, k_178 hS, l_178 hS, k_179 hS, l_179 hS, k_180 hS, l_180 hS, k_181 hS, l_181 hS, k_182 hS, l_182 hS, k_183 hS, l_183 hS, k_184 hS, l_184 hS, k_185 hS, l_185 hS, k_186 hS, l_186 hS, k_187 hS, l_187 hS, k_188 hS, l_188 hS, k_189 hS, l_189 hS, k_190 hS, l_190 hS, k_191 hS, l_191 hS, k_192 hS, l_192 hS, k_193 hS, l_193 hS, k_194 hS, l_194 hS, k_195 hS, l_195 hS, k_196 hS, l_196 hS, k_197 hS, l_197 hS, k_198 hS, l_198 hS, k_199 hS, l_199 hS, k_200 hS, l_200 hS, k_201 hS, l_201 hS, k_202 hS, l_202 hS, k_203 hS, l_203 hS, k_204 hS, l_204 hS, k_205 hS, l_205 hS, k_206 hS, l_206 hS, k_207 hS, l_207 hS, k_208 hS, l_208 hS, k_209 hS, l_209 hS, k_210 hS, l_210 hS, k_211 hS, l_211 hS, k_212 hS, l_212 hS, k_213 hS, l_213 hS, k_214 hS, l_214 hS, k_215 hS, l_215 hS, k_216 hS, l_216 hS, k_217 hS, l_217 hS, k_218 hS, l_218 hS, k_219 hS, l_219 hS, k_220 hS, l_220 hS, r_160_0 hS, r_160_1 hS, r_160_2 hS, r_160_3 hS, r_160_4 hS, r_160_5 hS, r_160_6 hS, r_160_7 hS, r_160_8 hS, r_160_9 hS, r_160_10 hS, r_160_11 hS, r_160_12 hS, r_160_13 hS, r_160_14 hS, r_160_15 hS, r_160_16 hS, r_160_17 hS, r_160_18 hS, r_160_19 hS, r_160_20 hS, r_160_21 hS, r_160_22 hS, r_160_23 hS, r_160_24 hS, r_160_25 hS, r_160_26 hS, r_160_27 hS, r_160_28 hS, r_160_29 hS, r_160_30 hS, r_160_31 hS, r_160_32 hS, r_160_33 hS, r_160_34 hS, r_160_35 hS, r_160_36 hS, r_160_37 hS, r_160_38 hS, r_160_39 hS, r_160_40 hS, r_160_41 hS, r_160_43 hS, r_160_45 hS, r_160_46 hS, r_160_48 hS, r_160_49 hS, r_160_50 hS, r_160_51 hS, r_160_52 hS, r_160_53 hS, r_160_54 hS, r_160_56 hS, r_160_63 hS, r_160_64 hS, r_160_65 hS, r_160_66 hS, r_160_67 hS, r_160_68 hS, r_160_69 hS, ol_s, ol_n, ln_0, ln_1, ln_2, ln_3, ln_4, eq_self, rf_s, rf_n, i01_0, i01_n0, i01_b, b01_0, b01_1, and_self, and_true, true_and, and_false, false_and, if_true, if_false, not_true_eq_false, not_false_eq_true, e10, e00, lt_bg, Nat.reduceLT, Nat.reduceLeDiff, hlt, nI_1, a1, a2, nI_add, p2, bi, ci, bj, cj, r1, hc, n0, w2, q]
      · have ne : ¬ nI (pv k + W1 0) = nI cur := nI_nj q (by omega) (by omega)
        simp only [s183_10, s183_13, s183_14, s183_17, s183_19, s183_20, s183_21, s183_22, s183_23, s183_24, s183_25, s183_27, s183_28, s183_29, s183_31, s183_33, s183_36, s183_38, s183_39, s183_40, s183_41, s183_43, s183_46, s183_47, s183_48, s183_51, s183_53, s183_54, s183_55, s183_56, s183_57, s183_58, k_160 hS, k_161 hS, l_161 hS, k_162 hS, l_162 hS, k_163 hS, l_163 hS, k_164 hS, l_164 hS, k_165 hS, l_165 hS, k_166 hS, l_166 hS, k_167 hS, l_167 hS, k_168 hS, l_168 hS, k_169 hS, l_169 hS, k_170 hS, l_170 hS, k_171 hS, l_171 hS, k_172 hS, l_172 hS, k_173 hS, l_173 hS, k_174 hS, l_174 hS, k_175 hS, l_175 hS, k_176 hS, l_176 hS, k_177 hS, l_177 hS, k_178 hS, l_178 hS, k_179 hS, l_179 hS, k_180 hS, l_180 hS, k_181 hS, l_181 hS, k_182 hS, l_182 hS, k_183 hS, l_183 hS, k_184 hS, l_184 hS, k_185 hS, l_185 hS, k_186 hS, l_186 hS, k_187 hS, l_187 hS, k_188 hS, l_188 hS, k_189 hS, l_189 hS, k_190 hS, l_190 hS, k_191 hS, l_191 hS, k_192 hS, l_192 hS, k_193 hS, l_193 hS, k_194 hS, l_194 hS, k_195 hS, l_195 hS, k_196 hS, l_196 hS, k_197 hS, l_197 hS, k_198 hS, l_198 hS, k_199 hS, l_199 hS, k_200 hS, l_200 hS, k_201 hS, l_201 hS, k_202 hS, l_202 hS, k_203 hS, l_203 hS, k_204 hS, l_204 hS, k_205 hS, l_205 hS, k_206 hS, l_206 hS, k_207 hS, l_207 hS, k_208 hS, l_208 hS, k_209 hS, l_209 hS, k_210 hS, l_210 hS, k_211 hS, l_211 hS, k_212 hS, l_212 hS, k_213 hS, l_213 hS, k_214 hS, l_214 hS, k_215 hS, l_215 hS, k_216 hS, l_216 hS, k_217 hS, l_217 hS, k_218 hS, l_218 hS, k_219 hS, l_219 hS, k_220 hS, l_220 hS, r_160_0 hS, r_160_1 hS, r_160_2 hS, r_160_3 hS, r_160_4 hS, r_160_5 hS, r_160_6 hS, r_160_7 hS, r_160_8 hS, r_160_9 hS, r_160_10 hS, r_160_11 hS, r_160_12 hS, r_160_13 hS, r_160_14 hS, r_160_15 hS, r_160_16 hS, r_160_17 hS, r_160_18 hS, r_160_19 hS, r_160_20 hS, r_160_21 hS, r_160_22 hS, r_160_23 hS, r_160_24 hS, r_160_25 hS, r_160_26 hS, r_160_27 hS, r_160_28 hS, r_160_29 hS, r_160_30 hS, r_160_31 hS, r_160_32 hS, r_160_33 hS, r_160_34 hS, r_160_35 hS, r_160_36 hS, r_160_37 hS, r_160_38 hS, r_160_39 hS, r_160_40 hS, r_160_41 hS, r_160_43 hS, r_160_45 hS, r_160_46 hS, r_160_48 hS, r_160_49 hS, r_160_50 hS, r_160_51 hS, r_160_52 hS, r_160_53 hS, r_160_54 hS, r_160_56 hS, r_160_63 hS, r_160_64 hS, r_160_65 hS, r_160_66 hS, r_160_67 hS, r_160_68 hS, r_160_69 hS, ol_s, ol_n, ln_0, ln_1, ln_2, ln_3, ln_4, eq_self, rf_s, rf_n, i01_0, i01_n0, i01_b, b01_0, b01_1, and_self, and_true, true_and, and_false, false_and, if_true, if_false, not_true_eq_false, not_false_eq_true, e10, e00, lt_bg, Nat.reduceLT, Nat.reduceLeDiff, hlt, nI_1, a1, a2, nI_add, p2, bi, ci, bj, cj, r1, hc, n0, w2, ne]
        exact c183x
    · have r1 : σ 213 (41 * f + 41 + k) = -1 := r1.trans (if_neg z)
      have n0 : ((-1 : Int32) < 0) = True := by decide
      simp only [s183_10, s183_13, s183_14, s183_17, s183_19, s183_20, s183_21, s183_22, s183_23, s183_24, s183_25, s183_27, s183_28, s183_29, s183_31, s183_33, s183_36, s183_38, s183_39, s183_40, s183_41, s183_43, s183_46, s183_47, s183_48, s183_51, s183_53, s183_54, s183_55, s183_56, s183_57, s183_58, k_160 hS, k_161 hS, l_161 hS, k_162 hS, l_162 hS, k_163 hS, l_163 hS, k_164 hS, l_164 hS, k_165 hS, l_165 hS, k_166 hS, l_166 hS, k_167 hS, l_167 hS, k_168 hS, l_168 hS, k_169 hS, l_169 hS, k_170 hS, l_170 hS, k_171 hS, l_171 hS, k_172 hS, l_172 hS, k_173 hS, l_173 hS, k_174 hS, l_174 hS, k_175 hS, l_175 hS, k_176 hS, l_176 hS, k_177 hS, l_177 hS, k_178 hS, l_178 hS, k_179 hS, l_179 hS, k_180 hS, l_180 hS, k_181 hS, l_181 hS, k_182 hS, l_182 hS, k_183 hS, l_183 hS, k_184 hS, l_184 hS, k_185 hS, l_185 hS, k_186 hS, l_186 hS, k_187 hS, l_187 hS, k_188 hS, l_188 hS, k_189 hS, l_189 hS, k_190 hS, l_190 hS, k_191 hS, l_191 hS, k_192 hS, l_192 hS, k_193 hS, l_193 hS, k_194 hS, l_194 hS, k_195 hS, l_195 hS, k_196 hS, l_196 hS, k_197 hS, l_197 hS, k_198 hS, l_198 hS, k_199 hS, l_199 hS, k_200 hS, l_200 hS, k_201 hS, l_201 hS, k_202 hS, l_202 hS, k_203 hS, l_203 hS, k_204 hS, l_204 hS, k_205 hS, l_205 hS, k_206 hS, l_206 hS, k_207 hS, l_207 hS, k_208 hS, l_208 hS, k_209 hS, l_209 hS, k_210 hS, l_210 hS, k_211 hS, l_211 hS, k_212 hS, l_212 hS, k_213 hS, l_213 hS, k_214 hS, l_214 hS, k_215 hS, l_215 hS, k_216 hS, l_216 hS, k_217 hS, l_217 hS, k_218 hS, l_218 hS, k_219 hS, l_219 hS, k_220 hS, l_220 hS, r_160_0 hS, r_160_1 hS, r_160_2 hS, r_160_3 hS, r_160_4 hS, r_160_5 hS, r_160_6 hS, r_160_7 hS, r_160_8 hS, r_160_9 hS, r_160_10 hS, r_160_11 hS, r_160_12 hS, r_160_13 hS, r_160_14 hS, r_160_15 hS, r_160_16 hS, r_160_17 hS, r_160_18 hS, r_160_19 hS, r_160_20 hS, r_160_21 hS, r_160_22 hS, r_160_23 hS, r_160_24 hS, r_160_25 hS, r_160_26 hS, r_160_27 hS, r_160_28 hS, r_160_29 hS, r_160_30 hS, r_160_31 hS, r_160_32 hS, r_160_33 hS, r_160_34 hS, r_160_35 hS, r_160_36 hS, r_160_37 hS, r_160_38 hS, r_160_39 hS, r_160_40 hS, r_160_41 hS, r_160_43 hS, r_160_45 hS, r_160_46 hS, r_160_48 hS, r_160_49 hS, r_160_50 hS, r_160_51 hS, r_160_52 hS, r_160_53 hS, r_160_54 hS, r_160_56 hS, r_160_63 hS, r_160_64 hS, r_160_65 hS, r_160_66 hS, r_160_67 hS, r_160_68 hS, r_160_69 hS, ol_s, ol_n, ln_0, ln_1, ln_2, ln_3, ln_4, eq_self, rf_s, rf_n, i01_0, i01_n0, i01_b, b01_0, b01_1, and_self, and_true, true_and, and_false, false_and, if_true, if_false, not_true_eq_false, not_false_eq_true, e10, e00, lt_bg, Nat.reduceLT, Nat.reduceLeDiff, hlt, nI_1, a1, a2, nI_add, p2, bi, ci, bj, cj, r1, n0]
      exact c183x
  | succ h ih =>
    intro x5 h9 hk2 d g Q
    have hlt : ¬ nI (h + 1) < 0 := Int32.not_lt.mpr (nI_le (a := 0) (Nat.zero_le _) (by omega))
    have pm : nI (h + 1) + (-1) = nI h := by rw [← nI_pred h, Int32.sub_eq_add_neg]
    have p2 : nI (41 * f + 41 + k) - nI (h + 1) = nI (41 * f + 41 + (k - (h + 1))) := by
      rw [pk_sub (by omega)]
      congr 1
      omega
    have bj : am_inb (nI (41 * f + 41 + (k - (h + 1)))) 369 = true := inb_n (by omega) (by decide)
    have cj : (nI (41 * f + 41 + (k - (h + 1)))).toNatClampNeg = 41 * f + 41 + (k - (h + 1)) := nI_clamp (by omega)
    have r1 := hv (k - (h + 1)) (by omega)
    obtain ⟨w1, _, w2⟩ := hW (h + 1) (by omega)
    have w2 := w2 σ hE
    have ih := fun (x5 : Value) => ih x5 (by omega) (by omega) d g Q
    rw [s183_8]
    by_cases z : pv (k - (h + 1)) < 1000000
    · have b := hpv _ z
      have r1 : σ 213 (41 * f + 41 + (k - (h + 1))) = nI (pv (k - (h + 1))) := r1.trans (if_pos z)
      have n0 : ¬ nI (pv (k - (h + 1))) < 0 := Int32.not_lt.mpr (nI_le (a := 0) (Nat.zero_le _) (by omega))
      by_cases q : pv (k - (h + 1)) + W1 (h + 1) = cur
      · have u : lsM W1 pv cur k (h + 1) = h + 1 := if_pos q
        rw [u]
        simp only [s183_10, s183_13, s183_14, s183_17, s183_19, s183_20, s183_21, s183_22, s183_23, s183_24, s183_25, s183_27, s183_28, s183_29, s183_31, s183_33, s183_36, s183_38, s183_39, s183_40, s183_41, s183_43, s183_46, s183_47, s183_48, s183_51, s183_53, s183_54, s183_55, s183_56, s183_57, s183_58, s183_61, s183_63, k_160 hS, k_161 hS, l_161 hS, k_162 hS, l_162 hS, k_163 hS, l_163 hS, k_164 hS, l_164 hS, k_165 hS, l_165 hS, k_166 hS, l_166 hS, k_167 hS, l_167 hS, k_168 hS, l_168 hS, k_169 hS, l_169 hS, k_170 hS, l_170 hS, k_171 hS, l_171 hS, k_172 hS, l_172 hS, k_173 hS, l_173 hS, k_174 hS, l_174 hS, k_175 hS, l_175 hS, k_176 hS, l_176 hS, k_177 hS, l_177 hS, k_178 hS, l_178 hS, k_179 hS, l_179 hS, k_180 hS, l_180 hS, k_181 hS, l_181 hS, k_182 hS, l_182 hS, k_183 hS, l_183 hS, k_184 hS, l_184 hS, k_185 hS, l_185 hS, k_186 hS, l_186 hS, k_187 hS, l_187 hS, k_188 hS, l_188 hS, k_189 hS, l_189 hS, k_190 hS, l_190 hS, k_191 hS, l_191 hS, k_192 hS, l_192 hS, k_193 hS, l_193 hS, k_194 hS, l_194 hS, k_195 hS, l_195 hS, k_196 hS, l_196 hS, k_197 hS, l_197 hS, k_198 hS, l_198 hS, k_199 hS, l_199 hS, k_200 hS, l_200 hS, k_201 hS, l_201 hS, k_202 hS, l_202 hS, k_203 hS, l_203 hS, k_204 hS, l_204 hS, k_205 hS, l_205 hS, k_206 hS, l_206 hS, k_207 hS, l_207 hS, k_208 hS, l_208 hS, k_209 hS, l_209 hS, k_210 hS, l_210 hS, k_211 hS, l_211 hS, k_212 hS, l_212 hS, k_213 hS, l_213 hS, k_214 hS, l_214 hS, k_215 hS, l_215 hS, k_216 hS, l_216 hS, k_217 hS, l_217 hS, k_218 hS, l_218 hS, k_219 hS, l_219 hS, k_220 hS, l_220 hS, r_160_0 hS, r_160_1 hS, r_160_2 hS, r_160_3 hS, r_160_4 hS, r_160_5 hS, r_160_6 hS, r_160_7 hS, r_160_8 hS, r_160_9 hS, r_160_10 hS, r_160_11 hS, r_160_12 hS, r_160_13 hS, r_160_14 hS, r_160_15 hS, r_160_16 hS, r_160_17 hS, r_160_18 hS, r_160_19 hS, r_160_20 hS, r_160_21 hS, r_160_22 hS, r_160_23 hS, r_160_24 hS, r_160_25 hS, r_160_26 hS, r_160_27 hS, r_160_28 hS, r_160_29 hS, r_160_30 hS, r_160_31 hS, r_160_32 hS, r_160_33 hS, r_160_34 hS, r_160_35 hS, r_160_36 hS, r_160_37 hS, r_160_38 hS, r_160_39 hS, r_160_40 hS, r_160_41 hS, r_160_43 hS, r_160_45 hS, r_160_46 hS, r_160_48 hS, r_160_49 hS, r_160_50 hS, r_160_51 hS, r_160_52 hS, r_160_53 hS, r_160_54 hS, r_160_56 hS, r_160_63 hS, r_160_64 hS, r_160_65 hS, r_160_66 hS, r_160_67 hS, r_160_68 hS, r_160_69 hS, ol_s, ol_n, ln_0, ln_1, ln_2, ln_3, ln_4, eq_self, rf_s, rf_n, i01_0, i01_n0, i01_b, b01_0, b01_1, and_self, and_true, true_and, and_false, false_and, if_true, if_false, not_true_eq_false, not_false_eq_true, e10, e00, lt_bg, Nat.reduceLT, Nat.reduceLeDiff, hlt, nI_1, a1, a2, nI_add, p2, bi, ci, bj, cj, r1, hc, n0, w2, q]
      · have u : lsM W1 pv cur k (h + 1) = lsM W1 pv cur k h := if_neg q
        have ne : ¬ nI (pv (k - (h + 1)) + W1 (h + 1)) = nI cur := nI_nj q (by omega) (by omega)
        rw [u]
        simp only [s183_10, s183_13, s183_14, s183_17, s183_19, s183_20, s183_21, s183_22, s183_23, s183_24, s183_25, s183_27, s183_28, s183_29, s183_31, s183_33, s183_36, s183_38, s183_39, s183_40, s183_41, s183_43, s183_46, s183_47, s183_48, s183_51, s183_53, s183_54, s183_55, s183_56, s183_57, s183_58, s183_64, s183_67, k_160 hS, k_161 hS, l_161 hS, k_162 hS, l_162 hS, k_163 hS, l_163 hS, k_164 hS, l_164 hS, k_165 hS, l_165 hS, k_166 hS, l_166 hS, k_167 hS, l_167 hS, k_168 hS, l_168 hS, k_169 hS, l_169 hS, k_170 hS, l_170 hS, k_171 hS, l_171 hS, k_172 hS, l_172 hS, k_173 hS, l_173 hS, k_174 hS, l_174 hS, k_175 hS, l_175 hS, k_176 hS, l_176 hS, k_177 hS, l_177 hS, k_178 hS, l_178 hS, k_179 hS, l_179 hS, k_180 hS, l_180 hS, k_181 hS, l_181 hS, k_182 hS, l_182 hS, k_183 hS, l_183 hS, k_184 hS, l_184 hS, k_185 hS, l_185 hS, k_186 hS, l_186 hS, k_187 hS, l_187 hS, k_188 hS, l_188 hS, k_189 hS, l_189 hS, k_190 hS, l_190 hS, k_191 hS, l_191 hS, k_192 hS, l_192 hS, k_193 hS, l_193 hS, k_194 hS, l_194 hS, k_195 hS, l_195 hS, k_196 hS, l_196 hS, k_197 hS, l_197 hS, k_198 hS, l_198 hS, k_199 hS, l_199 hS, k_200 hS, l_200 hS, k_201 hS, l_201 hS, k_202 hS, l_202 hS, k_203 hS, l_203 hS, k_204 hS, l_204 hS, k_205 hS, l_205 hS, k_206 hS, l_206 hS, k_207 hS, l_207 hS, k_208 hS, l_208 hS, k_209 hS, l_209 hS, k_210 hS, l_210 hS, k_211 hS, l_211 hS, k_212 hS, l_212 hS, k_213 hS, l_213 hS, k_214 hS, l_214 hS, k_215 hS, l_215 hS, k_216 hS, l_216 hS, k_217 hS, l_217 hS, k_218 hS, l_218 hS, k_219 hS, l_219 hS, k_220 hS, l_220 hS, r_160_0 hS, r_160_1 hS, r_160_2 hS, r_160_3 hS, r_160_4 hS, r_160_5 hS, r_160_6 hS, r_160_7 hS, r_160_8 hS, r_160_9 hS, r_160_10 hS, r_160_11 hS, r_160_12 hS, r_160_13 hS, r_160_14 hS, r_160_15 hS, r_160_16 hS, r_160_17 hS, r_160_18 hS, r_160_19 hS, r_160_20 hS, r_160_21 hS, r_160_22 hS, r_160_23 hS, r_160_24 hS, r_160_25 hS, r_160_26 hS, r_160_27 hS, r_160_28 hS, r_160_29 hS, r_160_30 hS, r_160_31 hS, r_160_32 hS, r_160_33 hS, r_160_34 hS, r_160_35 hS, r_160_36 hS, r_160_37 hS, r_160_38 hS, r_160_39 hS, r_160_40 hS, r_160_41 hS, r_160_43 hS, r_160_45 hS, r_160_46 hS, r_160_48 hS, r_160_49 hS, r_160_50 hS, r_160_51 hS, r_160_52 hS, r_160_53 hS, r_160_54 hS, r_160_56 hS, r_160_63 hS, r_160_64 hS, r_160_65 hS, r_160_66 hS, r_160_67 hS, r_160_68 hS, r_160_69 hS, ol_s, ol_n, ln_0, ln_1, ln_2, ln_3, ln_4, eq_self, rf_s, rf_n, i01_0, i01_n0, i01_b, b01_0, b01_1, and_self, and_true, true_and, and_false, false_and, if_true, if_false, not_true_eq_false, not_false_eq_true, e10, e00, lt_bg, Nat.reduceLT, Nat.reduceLeDiff, hlt, nI_1, a1, a2, nI_add, p2, bi, ci, bj, cj, r1, hc, n0, w2, ne, pm]
        exact ih _
    · have r1 : σ 213 (41 * f + 41 + (k - (h + 1))) = -1 := r1.trans (if_neg z)
      have n0 : ((-1 : Int32) < 0) = True := by decide
      have u : lsM W1 pv cur k (h + 1) = lsM W1 pv cur k h := if_neg (by omega)
      rw [u]
      simp only [s183_10, s183_13, s183_14, s183_17, s183_19, s183_20, s183_21, s183_22, s183_23, s183_24, s183_25, s183_27, s183_28, s183_29, s183_31, s183_33, s183_36, s183_38, s183_39, s183_40, s183_41, s183_43, s183_46, s183_47, s183_48, s183_51, s183_53, s183_54, s183_55, s183_56, s183_57, s183_58, s183_64, s183_67, k_160 hS, k_161 hS, l_161 hS, k_162 hS, l_162 hS, k_163 hS, l_163 hS, k_164 hS, l_164 hS, k_165 hS, l_165 hS, k_166 hS, l_166 hS, k_167 hS, l_167 hS, k_168 hS, l_168 hS, k_169 hS, l_169 hS, k_170 hS, l_170 hS, k_171 hS, l_171 hS, k_172 hS, l_172 hS, k_173 hS, l_173 hS, k_174 hS, l_174 hS, k_175 hS, l_175 hS, k_176 hS, l_176 hS, k_177 hS, l_177 hS, k_178 hS, l_178 hS, k_179 hS, l_179 hS, k_180 hS, l_180 hS, k_181 hS, l_181 hS, k_182 hS, l_182 hS, k_183 hS, l_183 hS, k_184 hS, l_184 hS, k_185 hS, l_185 hS, k_186 hS, l_186 hS, k_187 hS, l_187 hS, k_188 hS, l_188 hS, k_189 hS, l_189 hS, k_190 hS, l_190 hS, k_191 hS, l_191 hS, k_192 hS, l_192 hS, k_193 hS, l_193 hS, k_194 hS, l_194 hS, k_195 hS, l_195 hS, k_196 hS, l_196 hS, k_197 hS, l_197 hS, k_198 hS, l_198 hS, k_199 hS, l_199 hS, k_200 hS, l_200 hS, k_201 hS, l_201 hS, k_202 hS, l_202 hS, k_203 hS, l_203 hS, k_204 hS, l_204 hS, k_205 hS, l_205 hS, k_206 hS, l_206 hS, k_207 hS, l_207 hS, k_208 hS, l_208 hS, k_209 hS, l_209 hS, k_210 hS, l_210 hS, k_211 hS, l_211 hS, k_212 hS, l_212 hS, k_213 hS, l_213 hS, k_214 hS, l_214 hS, k_215 hS, l_215 hS, k_216 hS, l_216 hS, k_217 hS, l_217 hS, k_218 hS, l_218 hS, k_219 hS, l_219 hS, k_220 hS, l_220 hS, r_160_0 hS, r_160_1 hS, r_160_2 hS, r_160_3 hS, r_160_4 hS, r_160_5 hS, r_160_6 hS, r_160_7 hS, r_160_8 hS, r_160_9 hS, r_160_10 hS, r_160_11 hS, r_160_12 hS, r_160_13 hS, r_160_14 hS, r_160_15 hS, r_160_16 hS, r_160_17 hS, r_160_18 hS, r_160_19 hS, r_160_20 hS, r_160_21 hS, r_160_22 hS, r_160_23 hS, r_160_24 hS, r_160_25 hS, r_160_26 hS, r_160_27 hS, r_160_28 hS, r_160_29 hS, r_160_30 hS, r_160_31 hS, r_160_32 hS, r_160_33 hS, r_160_34 hS, r_160_35 hS, r_160_36 hS, r_160_37 hS, r_160_38 hS, r_160_39 hS, r_160_40 hS, r_160_41 hS, r_160_43 hS, r_160_45 hS, r_160_46 hS, r_160_48 hS, r_160_49 hS, r_160_50 hS, r_160_51 hS, r_160_52 hS, r_160_53 hS, r_160_54 hS, r_160_56 hS, r_160_63 hS, r_160_64 hS, r_160_65 hS, r_160_66 hS, r_160_67 hS, r_160_68 hS, r_160_69 hS, ol_s, ol_n, ln_0, ln_1, ln_2, ln_3, ln_4, eq_self, rf_s, rf_n, i01_0, i01_n0, i01_b, b01_0, b01_1, and_self, and_true, true_and, and_false, false_and, if_true, if_false, not_true_eq_false, not_false_eq_true, e10, e00, lt_bg, Nat.reduceLT, Nat.reduceLeDiff, hlt, nI_1, a1, a2, nI_add, p2, bi, ci, bj, cj, r1, n0, pm]
      exact ih _
theorem c183 (hS : Sh ρ τ) {σ0 : am_I} {f m k cur : Nat} (hf : f ≤ 7) (hk : k ≤ 40) {W1 pv : Nat → Nat} (hW : ∀ j, j ≤ 9 → WR m σ0 ρ τ f j (W1 j)) (hE : EqM σ0 σ) (hpv : ∀ t, pv t < 1000000 → pv t ≤ 50000) (hv : ∀ t, t ≤ k → σ 213 (41 * f + 41 + t) = mI (pv t)) (hcu : cur < 1000000) (hc : σ 213 (41 * f + k) = nI cur) : ∀ (d : Nat) (g : am_J) (Q : am_Q), AW (d + 3) 183 0 [.ref 160, .int (nI f), .int (nI k), .int (nI m), am_jk, am_jk] [] σ ρ g τ Q = Q (some (.int (nI (lsM W1 pv cur k (min 9 k))))) σ ρ g τ := by
  intro d g Q
  have e9 : nI 9 = (9 : Int32) := by decide
  have mn : (if (9 : Int32) < nI k then (9 : Int32) else nI k) = nI (min 9 k) := by
    rw [← e9]
    by_cases z : 9 < k
    · rw [if_pos (Int32.not_le.mp (nI_ge (by omega) (by omega))), Nat.min_eq_left (by omega)]
    · rw [if_neg (Int32.not_lt.mpr (nI_le (by omega) (by omega))), Nat.min_eq_right (by omega)]
  have mn2 : (if nI k < (9 : Int32) then nI k else (9 : Int32)) = nI (min 9 k) := by
    rw [← e9]
    by_cases z : k < 9
    · rw [if_pos (Int32.not_le.mp (nI_ge (by omega) (by omega))), Nat.min_eq_right (by omega)]
    · rw [if_neg (Int32.not_lt.mpr (nI_le (by omega) (by omega))), Nat.min_eq_left (by omega)]
  have L := c183L hS hf hk hW hE hpv hv hcu hc (min 9 k) am_jk (Nat.min_le_left _ _) (Nat.min_le_right _ _) d g Q
  simp only [s183_0, s183_2, s183_3, s183_6, ol_s, ol_n, ln_0, ln_1, ln_2, ln_3, ln_4, eq_self, rf_s, rf_n, i01_0, i01_n0, i01_b, b01_0, b01_1, and_self, and_true, true_and, and_false, false_and, if_true, if_false, not_true_eq_false, not_false_eq_true, e10, e00, lt_bg, Nat.reduceLT, Nat.reduceLeDiff, mn, mn2]
  exact L
/-- how many are left from a province on -/
def lsK (W : Nat → Nat → Nat) (P k : Nat) : Nat → Nat
  | 0 => k
  | p + 1 => lsK W P k p - lsM (W p) (lsT W P (P - p - 1)) (lsT W P (P - p) (lsK W P k p)) (lsK W P k p) (min 9 (lsK W P k p))
theorem lsK_le {W : Nat → Nat → Nat} {P k : Nat} : ∀ p, lsK W P k p ≤ k
  | 0 => Nat.le_refl _
  | p + 1 => by
    have i := lsK_le (W := W) (P := P) (k := k) p
    have u : lsK W P k (p + 1) = lsK W P k p - lsM (W p) (lsT W P (P - p - 1)) (lsT W P (P - p) (lsK W P k p)) (lsK W P k p) (min 9 (lsK W P k p)) := rfl
    omega
theorem lsK_ok {W : Nat → Nat → Nat} {P k : Nat} (h : lsT W P P k < 1000000) : ∀ p, p ≤ P → lsT W P (P - p) (lsK W P k p) < 1000000
  | 0, _ => h
  | p + 1, hp => by
    have i := lsK_ok h p (by omega)
    have u : lsK W P k (p + 1) = lsK W P k p - lsM (W p) (lsT W P (P - p - 1)) (lsT W P (P - p) (lsK W P k p)) (lsK W P k p) (min 9 (lsK W P k p)) := rfl
    have e : P - p = P - p - 1 + 1 := by omega
    have e2 : P - (P - p - 1 + 1) = p := by omega
    have un : lsT W P (P - p - 1 + 1) (lsK W P k p) = lsF (W (P - (P - p - 1 + 1))) (lsT W P (P - p - 1)) (lsK W P k p) 10 := rfl
    rw [e2, ← e] at un
    have i2 := i
    rw [un] at i2
    obtain ⟨j, j1, j2, j3⟩ := lsF_at 10 i2
    rw [← un] at j3
    have a := lsM_at (W := W p) (pv := lsT W P (P - p - 1)) (cur := lsT W P (P - p) (lsK W P k p)) (k := lsK W P k p) (min 9 (lsK W P k p)) ⟨j, by omega, j3.symm⟩
    rw [← u] at a
    rw [show P - (p + 1) = P - p - 1 by omega]
    omega
end OCI
