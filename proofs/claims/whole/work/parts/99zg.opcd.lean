/-! least: a row of the reference's table -/
section OCD
variable {d : Nat} {σ : am_I} {ρ : am_R} {g : am_J} {τ : am_T} {Q : am_Q}
theorem nI_nj {a b : Nat} (h : a ≠ b) (ha : a < 2 ^ 31) (hb : b < 2 ^ 31) : ¬ nI a = nI b := fun e => by
  have t := congrArg Int32.toNatClampNeg e
  rw [nI_clamp ha, nI_clamp hb] at t
  exact h t
theorem c181r (hS : Sh ρ τ) {σ0 : am_I} {P m N f : Nat} (hP : P ≤ 8) (hN : N ≤ 40) {W : Nat → Nat → Nat} (hW : ∀ p k, p < P → k ≤ 9 → WR m σ0 ρ τ p k (W p k)) (hf : f ≤ P) {x3 : Int32} : ∀ (n k : Nat) (σ : am_I), k + n = N + 1 → EqM σ0 σ → (f < P → ∀ t, t ≤ N → σ 213 (41 * f + 41 + t) = mI (lsT W P (P - f - 1) t)) → ∃ σ' : am_I, (∀ z, z ≠ 213 → σ' z = σ z) ∧ (∀ t, t < 41 * f + k ∨ 41 * f + 41 ≤ t → σ' 213 t = σ 213 t) ∧ (∀ t, k ≤ t → t ≤ N → σ' 213 (41 * f + t) = mI (lsT W P (P - f) t)) ∧ ∀ (d : Nat) (g : am_J) (Q : am_Q), AW (d + 4) 181 53 [.ref 160, .int (nI N), .int (nI m), .int x3, .int (nI P), .int (nI f), .int (nI k)] [] σ ρ g τ Q = AW (d + 4) 181 107 [.ref 160, .int (nI N), .int (nI m), .int x3, .int (nI P), .int (nI f), .int (nI (N + 1))] [] σ' ρ g τ Q
  | 0, k, σ, e, hE, hv => by
    have e : k = N + 1 := by omega
    subst e
    have hlt : nI N < nI (N + 1) := Int32.not_le.mp (nI_ge (by omega) (by omega))
    refine ⟨σ, fun _ _ => rfl, fun _ _ => rfl, fun t h1 h2 => absurd h2 (by omega), fun d g Q => ?_⟩
    simp only [s181_53, s181_55, s181_56, ol_s, ol_n, ln_0, ln_1, ln_2, ln_3, ln_4, eq_self, rf_s, rf_n, i01_0, i01_n0, i01_b, b01_0, b01_1, and_self, and_true, true_and, and_false, false_and, if_true, if_false, not_true_eq_false, not_false_eq_true, e10, e00, lt_bg, Nat.reduceLT, Nat.reduceLeDiff, hlt]
  | n + 1, k, σ, e, hE, hv => by
    have e41 : nI 41 = (41 : Int32) := by decide
    have hlt : ¬ nI N < nI k := Int32.not_lt.mpr (nI_le (by omega) (by omega))
    have ml : (41 : Int32) * nI f = nI (41 * f) := by rw [← e41, nI_mulL]
    have bi : am_inb (nI (41 * f + k)) 369 = true := inb_n (by omega) (by decide)
    have ci : (nI (41 * f + k)).toNatClampNeg = 41 * f + k := nI_clamp (by omega)
    generalize e1 : am_u σ 213 (41 * f + k) (mI (lsT W P (P - f) k)) = s
    have F1 : ∀ z, z ≠ 213 → s z = σ z := fun z hz => by rw [← e1, u_ne _ _ _ _ hz]
    have N1 : ∀ t, t ≠ 41 * f + k → s 213 t = σ 213 t := fun t ht => by rw [← e1, u_nk _ _ _ _ ht]
    obtain ⟨s2, F2, G2, H2, R2⟩ := c181r hS hP hN hW hf (x3 := x3) n (k + 1) s (by omega) (fun y h1 h2 => by rw [F1 y (by omega)]; exact hE y h1 h2) (fun q t ht => by rw [N1 _ (by omega)]; exact hv q t ht)
    refine ⟨s2, fun z hz => by rw [F2 z hz, F1 z hz], fun t ht => by rw [G2 t (by omega), N1 t (by omega)], fun t h1 h2 => ?_, fun d g Q => ?_⟩
    · by_cases z : t = k
      · subst z
        rw [G2 _ (by omega), ← e1, u_at]
      · exact H2 t (by omega) h2
    · rw [s181_53]
      by_cases q : f < P
      · have ne : ¬ nI f = nI P := nI_nj (by omega) (by omega) (by omega)
        have C := fun (d : Nat) (Q : am_Q) => c182 (d := d) (σ := σ) (g := g) (Q := Q) hS (f := f) (m := m) (k := k) (by omega) (by omega) (W1 := W f) (pv := lsT W P (P - f - 1)) (fun j hj => hW f j q hj) hE (fun t ht => Nat.le_trans (lsT_b (fun p k h1 h2 => (hW p k h1 h2).1) (P - f - 1) (by omega) t ht) (by omega)) (fun t ht => hv q t (by omega))
        have u : lsF (W f) (lsT W P (P - f - 1)) k 10 = lsT W P (P - f) k := by
          have u1 : P - f = P - f - 1 + 1 := by omega
          have u2 : P - (P - f - 1 + 1) = f := by omega
          have u3 : lsT W P (P - f - 1 + 1) k = lsF (W (P - (P - f - 1 + 1))) (lsT W P (P - f - 1)) k 10 := rfl
          rw [u2] at u3
          rw [← u3, ← u1]
        rw [u] at C
        simp only [s181_55, s181_56, s181_59, s181_60, s181_63, s181_65, s181_67, s181_68, s181_70, s181_71, s181_73, s181_75, s181_78, s181_80, s181_83, s181_84, s181_87, s181_88, s181_91, s181_92, s181_94, s181_96, s181_97, s181_100, s181_101, s181_104, k_160 hS, k_161 hS, l_161 hS, k_162 hS, l_162 hS, k_163 hS, l_163 hS, k_164 hS, l_164 hS, k_165 hS, l_165 hS, k_166 hS, l_166 hS, k_167 hS, l_167 hS, k_168 hS, l_168 hS, k_169 hS, l_169 hS, k_170 hS, l_170 hS, k_171 hS, l_171 hS, k_172 hS, l_172 hS, k_173 hS, l_173 hS, k_174 hS, l_174 hS, k_175 hS, l_175 hS, k_176 hS, l_176 hS, k_177 hS, l_177 hS, k_178 hS, l_178 hS, k_179 hS, l_179 hS, k_180 hS, l_180 hS, k_181 hS, l_181 hS, k_182 hS, l_182 hS, k_183 hS, l_183 hS, k_184 hS, l_184 hS, k_185 hS, l_185 hS, k_186 hS, l_186 hS, k_187 hS, l_187 hS, k_188 hS, l_188 hS, k_189 hS, l_189 hS, k_190 hS, l_190 hS, k_191 hS, l_191 hS, k_192 hS, l_192 hS, k_193 hS, l_193 hS, k_194 hS, l_194 hS, k_195 hS, l_195 hS, k_196 hS, l_196 hS, k_197 hS, l_197 hS, k_198 hS, l_198 hS, k_199 hS, l_199 hS, k_200 hS, l_200 hS, k_201 hS, l_201 hS, k_202 hS, l_202 hS, k_203 hS, l_203 hS, k_204 hS, l_204 hS, k_205 hS, l_205 hS, k_206 hS, l_206 hS, k_207 hS, l_207 hS, k_208 hS, l_208 hS, k_209 hS, l_209 hS, k_210 hS, l_210 hS, k_211 hS, l_211 hS, k_212 hS, l_212 hS, k_213 hS, l_213 hS, k_214 hS, l_214 hS, k_215 hS, l_215 hS, k_216 hS, l_216 hS, k_217 hS, l_217 hS, k_218 hS, l_218 hS, k_219 hS, l_219 hS, k_220 hS, l_220 hS, r_160_0 hS, r_160_1 hS, r_160_2 hS, r_160_3 hS, r_160_4 hS, r_160_5 hS, r_160_6 hS, r_160_7 hS, r_160_8 hS, r_160_9 hS, r_160_10 hS, r_160_11 hS, r_160_12 hS, r_160_13 hS, r_160_14 hS, r_160_15 hS, r_160_16 hS, r_160_17 hS, r_160_18 hS, r_160_19 hS, r_160_20 hS, r_160_21 hS, r_160_22 hS, r_160_23 hS, r_160_24 hS, r_160_25 hS, r_160_26 hS, r_160_27 hS, r_160_28 hS, r_160_29 hS, r_160_30 hS, r_160_31 hS, r_160_32 hS, r_160_33 hS, r_160_34 hS, r_160_35 hS, r_160_36 hS, r_160_37 hS, r_160_38 hS, r_160_39 hS, r_160_40 hS, r_160_41 hS, r_160_43 hS, r_160_45 hS, r_160_46 hS, r_160_48 hS, r_160_49 hS, r_160_50 hS, r_160_51 hS, r_160_52 hS, r_160_53 hS, r_160_54 hS, r_160_56 hS, r_160_63 hS, r_160_64 hS, r_160_65 hS, r_160_66 hS, r_160_67 hS, r_160_68 hS, r_160_69 hS, ol_s, ol_n, ln_0, ln_1, ln_2, ln_3, ln_4, eq_self, rf_s, rf_n, i01_0, i01_n0, i01_b, b01_0, b01_1, and_self, and_true, true_and, and_false, false_and, if_true, if_false, not_true_eq_false, not_false_eq_true, e10, e00, lt_bg, Nat.reduceLT, Nat.reduceLeDiff, hlt, ml, nI_add, bi, ci, ne, C, e1, nI_1]
        exact R2 d g Q
      · have ef : f = P := by omega
        have e2 : mI (lsT W P (P - f) k) = if k = 0 then 0 else -1 := by
          have u : lsT W P 0 k = if k = 0 then 0 else 1000000 := rfl
          rw [ef, Nat.sub_self, u]
          by_cases z : k = 0
          · rw [if_pos z, if_pos z]; rfl
          · rw [if_neg z, if_neg z]; rfl
        have eP : nI f = nI P := by rw [ef]
        by_cases z : k = 0
        · have z0' : (nI k = 0) = True := eq_true (by rw [z]; rfl)
          rw [e2, if_pos z] at e1
          rw [← eP] at R2 ⊢
          simp only [s181_55, s181_56, s181_59, s181_60, s181_63, s181_65, s181_67, s181_68, s181_70, s181_71, s181_73, s181_75, s181_78, s181_80, s181_83, s181_84, s181_87, s181_88, s181_91, s181_92, s181_94, s181_96, s181_97, s181_100, s181_101, s181_104, k_160 hS, k_161 hS, l_161 hS, k_162 hS, l_162 hS, k_163 hS, l_163 hS, k_164 hS, l_164 hS, k_165 hS, l_165 hS, k_166 hS, l_166 hS, k_167 hS, l_167 hS, k_168 hS, l_168 hS, k_169 hS, l_169 hS, k_170 hS, l_170 hS, k_171 hS, l_171 hS, k_172 hS, l_172 hS, k_173 hS, l_173 hS, k_174 hS, l_174 hS, k_175 hS, l_175 hS, k_176 hS, l_176 hS, k_177 hS, l_177 hS, k_178 hS, l_178 hS, k_179 hS, l_179 hS, k_180 hS, l_180 hS, k_181 hS, l_181 hS, k_182 hS, l_182 hS, k_183 hS, l_183 hS, k_184 hS, l_184 hS, k_185 hS, l_185 hS, k_186 hS, l_186 hS, k_187 hS, l_187 hS, k_188 hS, l_188 hS, k_189 hS, l_189 hS, k_190 hS, l_190 hS, k_191 hS, l_191 hS, k_192 hS, l_192 hS, k_193 hS, l_193 hS, k_194 hS, l_194 hS, k_195 hS, l_195 hS, k_196 hS, l_196 hS, k_197 hS, l_197 hS, k_198 hS, l_198 hS, k_199 hS, l_199 hS, k_200 hS, l_200 hS, k_201 hS, l_201 hS, k_202 hS, l_202 hS, k_203 hS, l_203 hS, k_204 hS, l_204 hS, k_205 hS, l_205 hS, k_206 hS, l_206 hS, k_207 hS, l_207 hS, k_208 hS, l_208 hS, k_209 hS, l_209 hS, k_210 hS, l_210 hS, k_211 hS, l_211 hS, k_212 hS, l_212 hS, k_213 hS, l_213 hS, k_214 hS, l_214 hS, k_215 hS, l_215 hS, k_216 hS, l_216 hS, k_217 hS, l_217 hS, k_218 hS, l_218 hS, k_219 hS, l_219 hS, k_220 hS, l_220 hS, r_160_0 hS, r_160_1 hS, r_160_2 hS, r_160_3 hS, r_160_4 hS, r_160_5 hS, r_160_6 hS, r_160_7 hS, r_160_8 hS, r_160_9 hS, r_160_10 hS, r_160_11 hS, r_160_12 hS, r_160_13 hS, r_160_14 hS, r_160_15 hS, r_160_16 hS, r_160_17 hS, r_160_18 hS, r_160_19 hS, r_160_20 hS, r_160_21 hS, r_160_22 hS, r_160_23 hS, r_160_24 hS, r_160_25 hS, r_160_26 hS, r_160_27 hS, r_160_28 hS, r_160_29 hS, r_160_30 hS, r_160_31 hS, r_160_32 hS, r_160_33 hS, r_160_34 hS, r_160_35 hS, r_160_36 hS, r_160_37 hS, r_160_38 hS, r_160_39 hS, r_160_40 hS, r_160_41 hS, r_160_43 hS, r_160_45 hS, r_160_46 hS, r_160_48 hS, r_160_49 hS, r_160_50 hS, r_160_51 hS, r_160_52 hS, r_160_53 hS, r_160_54 hS, r_160_56 hS, r_160_63 hS, r_160_64 hS, r_160_65 hS, r_160_66 hS, r_160_67 hS, r_160_68 hS, r_160_69 hS, ol_s, ol_n, ln_0, ln_1, ln_2, ln_3, ln_4, eq_self, rf_s, rf_n, i01_0, i01_n0, i01_b, b01_0, b01_1, and_self, and_true, true_and, and_false, false_and, if_true, if_false, not_true_eq_false, not_false_eq_true, e10, e00, lt_bg, Nat.reduceLT, Nat.reduceLeDiff, hlt, ml, nI_add, bi, ci, z0', e1, nI_1]
          exact R2 d g Q
        · have nz : ¬ nI k = 0 := nI_nj (b := 0) z (by omega) (by omega)
          rw [e2, if_neg z] at e1
          rw [← eP] at R2 ⊢
          simp only [s181_55, s181_56, s181_59, s181_60, s181_63, s181_65, s181_67, s181_68, s181_70, s181_71, s181_73, s181_75, s181_78, s181_80, s181_83, s181_84, s181_87, s181_88, s181_91, s181_92, s181_94, s181_96, s181_97, s181_100, s181_101, s181_104, k_160 hS, k_161 hS, l_161 hS, k_162 hS, l_162 hS, k_163 hS, l_163 hS, k_164 hS, l_164 hS, k_165 hS, l_165 hS, k_166 hS, l_166 hS, k_167 hS, l_167 hS, k_168 hS, l_168 hS, k_169 hS, l_169 hS, k_170 hS, l_170 hS, k_171 hS, l_171 hS, k_172 hS, l_172 hS, k_173 hS, l_173 hS, k_174 hS, l_174 hS, k_175 hS, l_175 hS, k_176 hS, l_176 hS, k_177 hS, l_177 hS, k_178 hS, l_178 hS, k_179 hS, l_179 hS, k_180 hS, l_180 hS, k_181 hS, l_181 hS, k_182 hS, l_182 hS, k_183 hS, l_183 hS, k_184 hS, l_184 hS, k_185 hS, l_185 hS, k_186 hS, l_186 hS, k_187 hS, l_187 hS, k_188 hS, l_188 hS, k_189 hS, l_189 hS, k_190 hS, l_190 hS, k_191 hS, l_191 hS, k_192 hS, l_192 hS, k_193 hS, l_193 hS, k_194 hS, l_194 hS, k_195 hS, l_195 hS, k_196 hS, l_196 hS, k_197 hS, l_197 hS, k_198 hS, l_198 hS, k_199 hS, l_199 hS, k_200 hS, l_200 hS, k_201 hS, l_201 hS, k_202 hS, l_202 hS, k_203 hS, l_203 hS, k_204 hS, l_204 hS, k_205 hS, l_205 hS, k_206 hS, l_206 hS, k_207 hS, l_207 hS, k_208 hS, l_208 hS, k_209 hS, l_209 hS, k_210 hS, l_210 hS, k_211 hS, l_211 hS, k_212 hS, l_212 hS, k_213 hS, l_213 hS, k_214 hS, l_214 hS, k_215 hS, l_215 hS, k_216 hS, l_216 hS, k_217 hS, l_217 hS, k_218 hS, l_218 hS, k_219 hS, l_219 hS, k_220 hS, l_220 hS, r_160_0 hS, r_160_1 hS, r_160_2 hS, r_160_3 hS, r_160_4 hS, r_160_5 hS, r_160_6 hS, r_160_7 hS, r_160_8 hS, r_160_9 hS, r_160_10 hS, r_160_11 hS, r_160_12 hS, r_160_13 hS, r_160_14 hS, r_160_15 hS, r_160_16 hS, r_160_17 hS, r_160_18 hS, r_160_19 hS, r_160_20 hS, r_160_21 hS, r_160_22 hS, r_160_23 hS, r_160_24 hS, r_160_25 hS, r_160_26 hS, r_160_27 hS, r_160_28 hS, r_160_29 hS, r_160_30 hS, r_160_31 hS, r_160_32 hS, r_160_33 hS, r_160_34 hS, r_160_35 hS, r_160_36 hS, r_160_37 hS, r_160_38 hS, r_160_39 hS, r_160_40 hS, r_160_41 hS, r_160_43 hS, r_160_45 hS, r_160_46 hS, r_160_48 hS, r_160_49 hS, r_160_50 hS, r_160_51 hS, r_160_52 hS, r_160_53 hS, r_160_54 hS, r_160_56 hS, r_160_63 hS, r_160_64 hS, r_160_65 hS, r_160_66 hS, r_160_67 hS, r_160_68 hS, r_160_69 hS, ol_s, ol_n, ln_0, ln_1, ln_2, ln_3, ln_4, eq_self, rf_s, rf_n, i01_0, i01_n0, i01_b, b01_0, b01_1, and_self, and_true, true_and, and_false, false_and, if_true, if_false, not_true_eq_false, not_false_eq_true, e10, e00, lt_bg, Nat.reduceLT, Nat.reduceLeDiff, hlt, ml, nI_add, bi, ci, nz, e1, nI_1]
          exact R2 d g Q
end OCD
