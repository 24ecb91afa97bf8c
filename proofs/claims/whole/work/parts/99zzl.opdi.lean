/-! read: the reference's call; what stays -/
section ODI
variable {d : Nat} {σ : am_I} {ρ : am_R} {g : am_J} {τ : am_T} {Q : am_Q}
/-- what the reference's read leaves, whatever it answers -/
def RDr (ver : Nat) (σ σ' : am_I) : Prop := (∀ z, z ≠ 160 → z ≠ 161 → z < 180 ∨ 187 < z → σ' z = σ z) ∧ (∀ k, k < 57 ∨ 62 < k → k ≠ 44 → σ' 160 k = σ 160 k) ∧ σ' 160 44 = 0 ∧ (∀ k, k ≠ 3 → σ' 161 k = σ 161 k) ∧ (∀ z, z = 180 ∨ z = 181 → ∀ k, k < ver → σ' z k = σ z k) ∧ (∀ z, 182 ≤ z → z ≤ 186 → ∀ k, k < 10 * ver → σ' z k = σ z k) ∧ ∀ k, k < 256 * ver → σ' 187 k = σ 187 k
theorem c201 (hS : Sh ρ τ) (hb : Bgd σ τ) {b : Nat → Nat} {l ver : Nat} (hv8 : ver ≤ 8) (hT : TR b l σ) (h3 : σ 161 3 = nI ver) : ∃ σ' : am_I, RDr ver σ σ' ∧ (((pTx b l 10 (sk b l 0)).1 = false ∧ σ' 161 3 = nI ver ∧ ∀ (d : Nat) (Q : am_Q), AW (d + 30) 201 0 [.ref 160, am_jk] [] σ ρ g τ Q = Q (some (.int (-100 - nI (pTx b l 10 (sk b l 0)).2.1))) σ' ρ g τ) ∨ ((pTx b l 10 (sk b l 0)).1 = true ∧ ver = 8 ∧ σ' 161 3 = nI ver ∧ ∀ (d : Nat) (Q : am_Q), AW (d + 30) 201 0 [.ref 160, am_jk] [] σ ρ g τ Q = Q (some (.int (-2))) σ' ρ g τ) ∨ ((pTx b l 10 (sk b l 0)).1 = true ∧ ver < 8 ∧ σ' 161 3 = nI (ver + 1) ∧ σ' 181 ver = nI (pTx b l 10 (sk b l 0)).2.2.length ∧ σ' 180 ver = σ 161 0 ∧ (∀ k, k < (pTx b l 10 (sk b l 0)).2.2.length → ∃ f, LnQ ver (10 * ver + k) f σ' ((pTx b l 10 (sk b l 0)).2.2.getD k lr0)) ∧ ∀ (d : Nat) (Q : am_Q), AW (d + 30) 201 0 [.ref 160, am_jk] [] σ ρ g τ Q = Q (some (.int (nI ver))) σ' ρ g τ)) := by
  obtain ⟨_, pl⟩ := sk_b (b := b) (l := l) (i := 0) (Nat.zero_le _)
  have i3 : am_inb (3 : Int32) 9 = true := by decide
  have i0 : am_inb (0 : Int32) 9 = true := by decide
  have hl := hT.1
  have v3 : am_u (am_u (am_u (am_u σ 160 57 0) 160 58 (-1)) 160 59 0) 160 61 0 161 3 = nI ver := by
    rw [u_ne _ _ _ _ (by decide), u_ne _ _ _ _ (by decide), u_ne _ _ _ _ (by decide), u_ne _ _ _ _ (by decide)]
    exact h3
  have R0 : ∀ (d : Nat) (Q : am_Q), AW (d + 30) 201 0 [.ref 160, am_jk] [] σ ρ g τ Q = AW (d + 30) 201 32 [.ref 160, .int 0] [] (am_u (am_u (am_u (am_u (am_u σ 160 57 0) 160 58 (-1)) 160 59 0) 160 61 0) 160 60 (nI ver)) ρ g τ Q := fun d Q => by
    simp only [s201_0, s201_1, s201_2, s201_5, s201_6, s201_7, s201_10, s201_11, s201_12, s201_15, s201_16, s201_17, s201_20, s201_21, s201_22, s201_25, s201_26, s201_27, s201_30, s201_31r, k_160 hS, k_161 hS, l_161 hS, k_162 hS, l_162 hS, k_163 hS, l_163 hS, k_164 hS, l_164 hS, k_165 hS, l_165 hS, k_166 hS, l_166 hS, k_167 hS, l_167 hS, k_168 hS, l_168 hS, k_169 hS, l_169 hS, k_170 hS, l_170 hS, k_171 hS, l_171 hS, k_172 hS, l_172 hS, k_173 hS, l_173 hS, k_174 hS, l_174 hS, k_175 hS, l_175 hS, k_176 hS, l_176 hS, k_177 hS, l_177 hS, k_178 hS, l_178 hS, k_179 hS, l_179 hS, k_180 hS, l_180 hS, k_181 hS, l_181 hS, k_182 hS, l_182 hS, k_183 hS, l_183 hS, k_184 hS, l_184 hS, k_185 hS, l_185 hS, k_186 hS, l_186 hS, k_187 hS, l_187 hS, k_188 hS, l_188 hS, k_189 hS, l_189 hS, k_190 hS, l_190 hS, k_191 hS, l_191 hS, k_192 hS, l_192 hS, k_193 hS, l_193 hS, k_194 hS, l_194 hS, k_195 hS, l_195 hS, k_196 hS, l_196 hS, k_197 hS, l_197 hS, k_198 hS, l_198 hS, k_199 hS, l_199 hS, k_200 hS, l_200 hS, k_201 hS, l_201 hS, k_202 hS, l_202 hS, k_203 hS, l_203 hS, k_204 hS, l_204 hS, k_205 hS, l_205 hS, k_206 hS, l_206 hS, k_207 hS, l_207 hS, k_208 hS, l_208 hS, k_209 hS, l_209 hS, k_210 hS, l_210 hS, k_211 hS, l_211 hS, k_212 hS, l_212 hS, k_213 hS, l_213 hS, k_214 hS, l_214 hS, k_215 hS, l_215 hS, k_216 hS, l_216 hS, k_217 hS, l_217 hS, k_218 hS, l_218 hS, k_219 hS, l_219 hS, k_220 hS, l_220 hS, r_160_0 hS, r_160_1 hS, r_160_2 hS, r_160_3 hS, r_160_4 hS, r_160_5 hS, r_160_6 hS, r_160_7 hS, r_160_8 hS, r_160_9 hS, r_160_10 hS, r_160_11 hS, r_160_12 hS, r_160_13 hS, r_160_14 hS, r_160_15 hS, r_160_16 hS, r_160_17 hS, r_160_18 hS, r_160_19 hS, r_160_20 hS, r_160_21 hS, r_160_22 hS, r_160_23 hS, r_160_24 hS, r_160_25 hS, r_160_26 hS, r_160_27 hS, r_160_28 hS, r_160_29 hS, r_160_30 hS, r_160_31 hS, r_160_32 hS, r_160_33 hS, r_160_34 hS, r_160_35 hS, r_160_36 hS, r_160_37 hS, r_160_38 hS, r_160_39 hS, r_160_40 hS, r_160_41 hS, r_160_43 hS, r_160_45 hS, r_160_46 hS, r_160_48 hS, r_160_49 hS, r_160_50 hS, r_160_51 hS, r_160_52 hS, r_160_53 hS, r_160_54 hS, r_160_56 hS, r_160_63 hS, r_160_64 hS, r_160_65 hS, r_160_66 hS, r_160_67 hS, r_160_68 hS, r_160_69 hS, ol_s, ol_n, ln_0, ln_1, ln_2, ln_3, ln_4, eq_self, rf_s, rf_n, i01_0, i01_n0, i01_b, b01_0, b01_1, and_self, and_true, true_and, and_false, false_and, if_true, if_false, not_true_eq_false, not_false_eq_true, e10, e00, lt_bg, Nat.reduceLT, Nat.reduceLeDiff, i3, z3, v3]
  have n0 : ∀ z, z ≠ 160 → am_u (am_u (am_u (am_u (am_u σ 160 57 0) 160 58 (-1)) 160 59 0) 160 61 0) 160 60 (nI ver) z = σ z := fun z hz => by rw [u_ne _ _ _ _ hz, u_ne _ _ _ _ hz, u_ne _ _ _ _ hz, u_ne _ _ _ _ hz, u_ne _ _ _ _ hz]
  have m0 : ∀ k, k < 57 ∨ 62 < k → am_u (am_u (am_u (am_u (am_u σ 160 57 0) 160 58 (-1)) 160 59 0) 160 61 0) 160 60 (nI ver) 160 k = σ 160 k := fun k hk => by rw [u_nk _ _ _ _ (by omega), u_nk _ _ _ _ (by omega), u_nk _ _ _ _ (by omega), u_nk _ _ _ _ (by omega), u_nk _ _ _ _ (by omega)]
  have X0 : RX b l (sk b l 0) 0 ver 0 (am_u (am_u (am_u (am_u (am_u σ 160 57 0) 160 58 (-1)) 160 59 0) 160 61 0) 160 60 (nI ver)) := by
    refine ⟨hT.cg (m0 44 (by omega)) (n0 203 (by decide)), ⟨0, Nat.zero_le _, ?_, rfl⟩, ?_, ?_, u_at _ _ _ _, ?_⟩
    · rw [u_nk _ _ _ _ (by decide), u_nk _ _ _ _ (by decide), u_nk _ _ _ _ (by decide), u_nk _ _ _ _ (by decide), u_at]
      rfl
    · rw [u_nk _ _ _ _ (by decide), u_nk _ _ _ _ (by decide), u_nk _ _ _ _ (by decide), u_at]
    · rw [u_nk _ _ _ _ (by decide), u_nk _ _ _ _ (by decide), u_at]
      rfl
    · rw [u_nk _ _ _ _ (by decide), u_at]
      rfl
  generalize am_u (am_u (am_u (am_u (am_u σ 160 57 0) 160 58 (-1)) 160 59 0) 160 61 0) 160 60 (nI ver) = s0 at R0 n0 m0 X0
  have b0 : Bgd s0 τ := hb.cg (fun y hy => n0 y (by omega))
  obtain ⟨s1, ⟨a1, a2, a3, a4, a5⟩, k1, k2, R1⟩ := c201L (g := g) hS (b := b) (l := l) hv8 10 0 (sk b l 0) 0 s0 (by omega) pl (Nat.zero_le _) b0 X0
  have pb := pTx_b (b := b) (l := l) 10 (sk b l 0) pl
  rw [nI_0, Nat.zero_add] at R1
  generalize pTx b l 10 (sk b l 0) = P at a5 k1 k2 R1 pb
  have R1' := fun (d : Nat) (Q : am_Q) => R1 (d + 1) Q
  have c3 : s1 161 3 = nI ver := by rw [a1 161 (by decide) (by omega), n0 161 (by decide)]; exact h3
  have w3 : am_u s1 160 44 0 161 3 = nI ver := by rw [u_ne _ _ _ _ (by decide)]; exact c3
  have F2 : RDr ver σ (am_u s1 160 44 0) := by
    refine ⟨fun z z1 z2 z3 => ?_, fun k hk h4 => ?_, u_at _ _ _ _, fun k hk => ?_, fun z hz k hk => ?_, fun z z1 z2 k hk => ?_, fun k hk => ?_⟩
    · rw [u_ne _ _ _ _ z1, a1 z z1 (by omega), n0 z z1]
    · rw [u_nk _ _ _ _ h4, a2 k hk, m0 k hk]
    · rw [u_ne _ _ _ _ (by decide), a1 161 (by decide) (by omega), n0 161 (by decide)]
    · rw [u_ne _ _ _ _ (by omega), a1 z (by omega) (by omega), n0 z (by omega)]
    · rw [u_ne _ _ _ _ (by omega), a3 z z1 z2 k (by omega), n0 z (by omega)]
    · rw [u_ne _ _ _ _ (by decide), a4 k (by omega), n0 187 (by decide)]
  cases hP : P.1
  · have f58 : am_u s1 160 44 0 160 58 = nI P.2.1 := by rw [u_nk _ _ _ _ (by decide)]; exact k2 hP
    have ge : ¬ nI P.2.1 < 0 := Int32.not_lt.mpr (nI_le (a := 0) (Nat.zero_le _) (by omega))
    refine ⟨am_u s1 160 44 0, F2, Or.inl ⟨rfl, w3, fun d Q => ?_⟩⟩
    rw [R0, R1']
    simp only [s201_74, s201_75, s201_76, s201_79, s201_80, s201_83, s201_86, s201_88, s201_89, s201_92, s201_93, k_160 hS, k_161 hS, l_161 hS, k_162 hS, l_162 hS, k_163 hS, l_163 hS, k_164 hS, l_164 hS, k_165 hS, l_165 hS, k_166 hS, l_166 hS, k_167 hS, l_167 hS, k_168 hS, l_168 hS, k_169 hS, l_169 hS, k_170 hS, l_170 hS, k_171 hS, l_171 hS, k_172 hS, l_172 hS, k_173 hS, l_173 hS, k_174 hS, l_174 hS, k_175 hS, l_175 hS, k_176 hS, l_176 hS, k_177 hS, l_177 hS, k_178 hS, l_178 hS, k_179 hS, l_179 hS, k_180 hS, l_180 hS, k_181 hS, l_181 hS, k_182 hS, l_182 hS, k_183 hS, l_183 hS, k_184 hS, l_184 hS, k_185 hS, l_185 hS, k_186 hS, l_186 hS, k_187 hS, l_187 hS, k_188 hS, l_188 hS, k_189 hS, l_189 hS, k_190 hS, l_190 hS, k_191 hS, l_191 hS, k_192 hS, l_192 hS, k_193 hS, l_193 hS, k_194 hS, l_194 hS, k_195 hS, l_195 hS, k_196 hS, l_196 hS, k_197 hS, l_197 hS, k_198 hS, l_198 hS, k_199 hS, l_199 hS, k_200 hS, l_200 hS, k_201 hS, l_201 hS, k_202 hS, l_202 hS, k_203 hS, l_203 hS, k_204 hS, l_204 hS, k_205 hS, l_205 hS, k_206 hS, l_206 hS, k_207 hS, l_207 hS, k_208 hS, l_208 hS, k_209 hS, l_209 hS, k_210 hS, l_210 hS, k_211 hS, l_211 hS, k_212 hS, l_212 hS, k_213 hS, l_213 hS, k_214 hS, l_214 hS, k_215 hS, l_215 hS, k_216 hS, l_216 hS, k_217 hS, l_217 hS, k_218 hS, l_218 hS, k_219 hS, l_219 hS, k_220 hS, l_220 hS, r_160_0 hS, r_160_1 hS, r_160_2 hS, r_160_3 hS, r_160_4 hS, r_160_5 hS, r_160_6 hS, r_160_7 hS, r_160_8 hS, r_160_9 hS, r_160_10 hS, r_160_11 hS, r_160_12 hS, r_160_13 hS, r_160_14 hS, r_160_15 hS, r_160_16 hS, r_160_17 hS, r_160_18 hS, r_160_19 hS, r_160_20 hS, r_160_21 hS, r_160_22 hS, r_160_23 hS, r_160_24 hS, r_160_25 hS, r_160_26 hS, r_160_27 hS, r_160_28 hS, r_160_29 hS, r_160_30 hS, r_160_31 hS, r_160_32 hS, r_160_33 hS, r_160_34 hS, r_160_35 hS, r_160_36 hS, r_160_37 hS, r_160_38 hS, r_160_39 hS, r_160_40 hS, r_160_41 hS, r_160_43 hS, r_160_45 hS, r_160_46 hS, r_160_48 hS, r_160_49 hS, r_160_50 hS, r_160_51 hS, r_160_52 hS, r_160_53 hS, r_160_54 hS, r_160_56 hS, r_160_63 hS, r_160_64 hS, r_160_65 hS, r_160_66 hS, r_160_67 hS, r_160_68 hS, r_160_69 hS, ol_s, ol_n, ln_0, ln_1, ln_2, ln_3, ln_4, eq_self, rf_s, rf_n, i01_0, i01_n0, i01_b, b01_0, b01_1, and_self, and_true, true_and, and_false, false_and, if_true, if_false, not_true_eq_false, not_false_eq_true, e10, e00, lt_bg, Nat.reduceLT, Nat.reduceLeDiff, f58, ge]
  · obtain ⟨f58, f60⟩ := k1 hP
    have f58 : am_u s1 160 44 0 160 58 = -1 := by rw [u_nk _ _ _ _ (by decide)]; exact f58
    have f60 : am_u s1 160 44 0 160 60 = nI ver := by rw [u_nk _ _ _ _ (by decide)]; exact f60
    have lt : ((-1 : Int32) < 0) = True := by decide
    have e8 : nI 8 = (8 : Int32) := by decide
    by_cases q : ver = 8
    · have E : (nI ver = 8) = True := eq_true (by rw [q]; rfl)
      refine ⟨am_u s1 160 44 0, F2, Or.inr (Or.inl ⟨rfl, q, w3, fun d Q => ?_⟩)⟩
      rw [R0, R1']
      simp only [s201_74, s201_75, s201_76, s201_79, s201_80, s201_83, s201_94, s201_95, s201_98, s201_99, s201_100, s201_102, s201_105, s201_107, k_160 hS, k_161 hS, l_161 hS, k_162 hS, l_162 hS, k_163 hS, l_163 hS, k_164 hS, l_164 hS, k_165 hS, l_165 hS, k_166 hS, l_166 hS, k_167 hS, l_167 hS, k_168 hS, l_168 hS, k_169 hS, l_169 hS, k_170 hS, l_170 hS, k_171 hS, l_171 hS, k_172 hS, l_172 hS, k_173 hS, l_173 hS, k_174 hS, l_174 hS, k_175 hS, l_175 hS, k_176 hS, l_176 hS, k_177 hS, l_177 hS, k_178 hS, l_178 hS, k_179 hS, l_179 hS, k_180 hS, l_180 hS, k_181 hS, l_181 hS, k_182 hS, l_182 hS, k_183 hS, l_183 hS, k_184 hS, l_184 hS, k_185 hS, l_185 hS, k_186 hS, l_186 hS, k_187 hS, l_187 hS, k_188 hS, l_188 hS, k_189 hS, l_189 hS, k_190 hS, l_190 hS, k_191 hS, l_191 hS, k_192 hS, l_192 hS, k_193 hS, l_193 hS, k_194 hS, l_194 hS, k_195 hS, l_195 hS, k_196 hS, l_196 hS, k_197 hS, l_197 hS, k_198 hS, l_198 hS, k_199 hS, l_199 hS, k_200 hS, l_200 hS, k_201 hS, l_201 hS, k_202 hS, l_202 hS, k_203 hS, l_203 hS, k_204 hS, l_204 hS, k_205 hS, l_205 hS, k_206 hS, l_206 hS, k_207 hS, l_207 hS, k_208 hS, l_208 hS, k_209 hS, l_209 hS, k_210 hS, l_210 hS, k_211 hS, l_211 hS, k_212 hS, l_212 hS, k_213 hS, l_213 hS, k_214 hS, l_214 hS, k_215 hS, l_215 hS, k_216 hS, l_216 hS, k_217 hS, l_217 hS, k_218 hS, l_218 hS, k_219 hS, l_219 hS, k_220 hS, l_220 hS, r_160_0 hS, r_160_1 hS, r_160_2 hS, r_160_3 hS, r_160_4 hS, r_160_5 hS, r_160_6 hS, r_160_7 hS, r_160_8 hS, r_160_9 hS, r_160_10 hS, r_160_11 hS, r_160_12 hS, r_160_13 hS, r_160_14 hS, r_160_15 hS, r_160_16 hS, r_160_17 hS, r_160_18 hS, r_160_19 hS, r_160_20 hS, r_160_21 hS, r_160_22 hS, r_160_23 hS, r_160_24 hS, r_160_25 hS, r_160_26 hS, r_160_27 hS, r_160_28 hS, r_160_29 hS, r_160_30 hS, r_160_31 hS, r_160_32 hS, r_160_33 hS, r_160_34 hS, r_160_35 hS, r_160_36 hS, r_160_37 hS, r_160_38 hS, r_160_39 hS, r_160_40 hS, r_160_41 hS, r_160_43 hS, r_160_45 hS, r_160_46 hS, r_160_48 hS, r_160_49 hS, r_160_50 hS, r_160_51 hS, r_160_52 hS, r_160_53 hS, r_160_54 hS, r_160_56 hS, r_160_63 hS, r_160_64 hS, r_160_65 hS, r_160_66 hS, r_160_67 hS, r_160_68 hS, r_160_69 hS, ol_s, ol_n, ln_0, ln_1, ln_2, ln_3, ln_4, eq_self, rf_s, rf_n, i01_0, i01_n0, i01_b, b01_0, b01_1, and_self, and_true, true_and, and_false, false_and, if_true, if_false, not_true_eq_false, not_false_eq_true, e10, e00, lt_bg, Nat.reduceLT, Nat.reduceLeDiff, f58, lt, i3, z3, w3, E]
    · have E : ¬ nI ver = (8 : Int32) := by rw [← e8]; exact nI_nj q (by omega) (by omega)
      have iv : am_inb (nI ver) 9 = true := inb_n (by omega) (by decide)
      have cv : (nI ver).toNatClampNeg = ver := nI_clamp (by omega)
      generalize e2 : am_u s1 160 44 0 = s2 at F2 w3 f58 f60
      have a5' : ∀ k, k < P.2.2.length → ∃ f, LnQ ver (10 * ver + k) f s2 (P.2.2.getD k lr0) := fun k hk => by
        obtain ⟨f, y1, ⟨y2, y3, y4, y5⟩, y6, y7⟩ := a5 k hk
        rw [Nat.add_zero] at y2 y3 y4 y5 y6
        refine ⟨f, y1, ⟨?_, ?_, ?_, ?_⟩, ?_, fun i hi => ?_⟩
        · rw [← e2, u_ne _ _ _ _ (by decide)]; exact y2
        · rw [← e2, u_ne _ _ _ _ (by decide)]; exact y3
        · rw [← e2, u_ne _ _ _ _ (by decide)]; exact y4
        · rw [← e2, u_ne _ _ _ _ (by decide)]; exact y5
        · rw [← e2, u_ne _ _ _ _ (by decide)]; exact y6
        · rw [← e2, u_ne _ _ _ _ (by decide)]; exact y7 i hi
      have w0 : s2 161 0 = σ 161 0 := F2.2.2.2.1 0 (by decide)
      generalize e3 : am_u s2 181 ver (nI P.2.2.length) = s3
      have x60 : s3 160 60 = nI ver := by rw [← e3, u_ne _ _ _ _ (by decide)]; exact f60
      have x0 : s3 161 0 = σ 161 0 := by rw [← e3, u_ne _ _ _ _ (by decide)]; exact w0
      generalize e4 : am_u s3 180 ver (σ 161 0) = s4
      have x3 : s4 161 3 = nI ver := by rw [← e4, u_ne _ _ _ _ (by decide), ← e3, u_ne _ _ _ _ (by decide)]; exact w3
      have y60 : am_u s4 161 3 (nI (ver + 1)) 160 60 = nI ver := by rw [u_ne _ _ _ _ (by decide), ← e4, u_ne _ _ _ _ (by decide)]; exact x60
      obtain ⟨g1, g2, g3, g4, g5, g6, g7⟩ := F2
      have nn : ∀ z, z ≠ 161 → z ≠ 180 → z ≠ 181 → am_u s4 161 3 (nI (ver + 1)) z = s2 z := fun z h1 h2 h3 => by rw [u_ne _ _ _ _ h1, ← e4, u_ne _ _ _ _ h2, ← e3, u_ne _ _ _ _ h3]
      refine ⟨am_u s4 161 3 (nI (ver + 1)), ⟨fun z z1 z2 z3 => ?_, fun k hk h4 => ?_, ?_, fun k hk => ?_, fun z hz k hk => ?_, fun z z1 z2 k hk => ?_, fun k hk => ?_⟩, Or.inr (Or.inr ⟨rfl, by omega, u_at _ _ _ _, ?_, ?_, fun k hk => ?_, fun d Q => ?_⟩)⟩
      · rw [nn z z2 (by omega) (by omega)]
        exact g1 z z1 z2 z3
      · rw [nn 160 (by decide) (by decide) (by decide)]
        exact g2 k hk h4
      · rw [nn 160 (by decide) (by decide) (by decide)]
        exact g3
      · rw [u_nk _ _ _ _ hk, ← e4, u_ne _ _ _ _ (by decide), ← e3, u_ne _ _ _ _ (by decide)]
        exact g4 k hk
      · rw [u_ne _ _ _ _ (by omega), ← e4, ← e3]
        rcases hz with hz | hz
        · subst hz
          rw [u_nk _ _ _ _ (by omega), u_ne _ _ _ _ (by decide)]
          exact g5 _ (Or.inl rfl) k hk
        · subst hz
          rw [u_ne _ _ _ _ (by decide), u_nk _ _ _ _ (by omega)]
          exact g5 _ (Or.inr rfl) k hk
      · rw [nn z (by omega) (by omega) (by omega)]
        exact g6 z z1 z2 k hk
      · rw [nn 187 (by decide) (by decide) (by decide)]
        exact g7 k hk
      · rw [u_ne _ _ _ _ (by decide), ← e4, u_ne _ _ _ _ (by decide), ← e3, u_at]
      · rw [u_ne _ _ _ _ (by decide), ← e4, u_at]
      · obtain ⟨f, y1, ⟨y2, y3, y4, y5⟩, y6, y7⟩ := a5' k hk
        refine ⟨f, y1, ⟨?_, ?_, ?_, ?_⟩, ?_, fun i hi => ?_⟩
        · rw [nn 182 (by decide) (by decide) (by decide)]; exact y2
        · rw [nn 183 (by decide) (by decide) (by decide)]; exact y3
        · rw [nn 184 (by decide) (by decide) (by decide)]; exact y4
        · rw [nn 185 (by decide) (by decide) (by decide)]; exact y5
        · rw [nn 186 (by decide) (by decide) (by decide)]; exact y6
        · rw [nn 187 (by decide) (by decide) (by decide)]; exact y7 i hi
      · rw [R0, R1']
        simp only [s201_74, s201_75, s201_76, s201_79, s201_80, s201_83, s201_94, s201_95, s201_98, s201_99, s201_100, s201_102, s201_108, s201_109, s201_112, s201_113, s201_116, s201_117, s201_118, s201_119, s201_122, s201_123, s201_126, s201_127, s201_130, s201_131, s201_132, s201_133, s201_134, s201_137, s201_138, s201_139, s201_140, s201_141, s201_142, s201_143, s201_144, s201_147, k_160 hS, k_161 hS, l_161 hS, k_162 hS, l_162 hS, k_163 hS, l_163 hS, k_164 hS, l_164 hS, k_165 hS, l_165 hS, k_166 hS, l_166 hS, k_167 hS, l_167 hS, k_168 hS, l_168 hS, k_169 hS, l_169 hS, k_170 hS, l_170 hS, k_171 hS, l_171 hS, k_172 hS, l_172 hS, k_173 hS, l_173 hS, k_174 hS, l_174 hS, k_175 hS, l_175 hS, k_176 hS, l_176 hS, k_177 hS, l_177 hS, k_178 hS, l_178 hS, k_179 hS, l_179 hS, k_180 hS, l_180 hS, k_181 hS, l_181 hS, k_182 hS, l_182 hS, k_183 hS, l_183 hS, k_184 hS, l_184 hS, k_185 hS, l_185 hS, k_186 hS, l_186 hS, k_187 hS, l_187 hS, k_188 hS, l_188 hS, k_189 hS, l_189 hS, k_190 hS, l_190 hS, k_191 hS, l_191 hS, k_192 hS, l_192 hS, k_193 hS, l_193 hS, k_194 hS, l_194 hS, k_195 hS, l_195 hS, k_196 hS, l_196 hS, k_197 hS, l_197 hS, k_198 hS, l_198 hS, k_199 hS, l_199 hS, k_200 hS, l_200 hS, k_201 hS, l_201 hS, k_202 hS, l_202 hS, k_203 hS, l_203 hS, k_204 hS, l_204 hS, k_205 hS, l_205 hS, k_206 hS, l_206 hS, k_207 hS, l_207 hS, k_208 hS, l_208 hS, k_209 hS, l_209 hS, k_210 hS, l_210 hS, k_211 hS, l_211 hS, k_212 hS, l_212 hS, k_213 hS, l_213 hS, k_214 hS, l_214 hS, k_215 hS, l_215 hS, k_216 hS, l_216 hS, k_217 hS, l_217 hS, k_218 hS, l_218 hS, k_219 hS, l_219 hS, k_220 hS, l_220 hS, r_160_0 hS, r_160_1 hS, r_160_2 hS, r_160_3 hS, r_160_4 hS, r_160_5 hS, r_160_6 hS, r_160_7 hS, r_160_8 hS, r_160_9 hS, r_160_10 hS, r_160_11 hS, r_160_12 hS, r_160_13 hS, r_160_14 hS, r_160_15 hS, r_160_16 hS, r_160_17 hS, r_160_18 hS, r_160_19 hS, r_160_20 hS, r_160_21 hS, r_160_22 hS, r_160_23 hS, r_160_24 hS, r_160_25 hS, r_160_26 hS, r_160_27 hS, r_160_28 hS, r_160_29 hS, r_160_30 hS, r_160_31 hS, r_160_32 hS, r_160_33 hS, r_160_34 hS, r_160_35 hS, r_160_36 hS, r_160_37 hS, r_160_38 hS, r_160_39 hS, r_160_40 hS, r_160_41 hS, r_160_43 hS, r_160_45 hS, r_160_46 hS, r_160_48 hS, r_160_49 hS, r_160_50 hS, r_160_51 hS, r_160_52 hS, r_160_53 hS, r_160_54 hS, r_160_56 hS, r_160_63 hS, r_160_64 hS, r_160_65 hS, r_160_66 hS, r_160_67 hS, r_160_68 hS, r_160_69 hS, ol_s, ol_n, ln_0, ln_1, ln_2, ln_3, ln_4, eq_self, rf_s, rf_n, i01_0, i01_n0, i01_b, b01_0, b01_1, and_self, and_true, true_and, and_false, false_and, if_true, if_false, not_true_eq_false, not_false_eq_true, e10, e00, lt_bg, Nat.reduceLT, Nat.reduceLeDiff, e2, f58, f60, lt, i3, i0, z3, z0, w3, E, iv, cv, e3, x60, x0, e4, x3, nI_1, y60]
theorem Stats.ex {a B V : Nat} {σ' : am_I} {ρ' : am_R} {τ' : am_T} (h : Stats a B V σ ρ τ) (e1 : ∀ z, 261 ≤ z → z < τ.2.2.1 → σ' z = σ z ∧ ρ' z = ρ z ∧ τ'.1 z = τ.1 z ∧ τ'.2.1 z = τ.2.1 z) (e2 : τ.2.2.1 ≤ τ'.2.2.1) (e3 : ∀ v, v < V → ρ' (a + 8) v = ρ (a + 8) v) (e4 : ∀ v, v < V → σ' (B + 19) v = σ (B + 19) v ∧ σ' (B + 20) v = σ (B + 20) v) (e5 : ∀ z, B + 21 ≤ z → z ≤ B + 25 → ∀ k, k < 10 * V → σ' z k = σ z k) (e6 : ∀ k, k < 256 * V → σ' (B + 26) k = σ (B + 26) k) : Stats a B V σ' ρ' τ' := by
  intro v hv
  obtain ⟨s, la, n, h1, h2, h3, h4, h5, h6, h7, h8, h9, h10, h11, h12, h13⟩ := h v hv
  obtain ⟨p1, p2, p3, p4⟩ := e1 s h2 h3
  obtain ⟨q1, q2, q3, q4⟩ := e1 la h7 h8
  refine ⟨s, la, n, (e3 v hv).trans h1, h2, by omega, p3.trans h4, ?_, by rw [p2]; exact h6, h7, by omega, q3.trans h9, q4.trans h10, h11, by rw [(e4 v hv).2]; exact h12, fun i hi => ?_⟩
  · rw [p1, (e4 v hv).1]
    exact h5
  obtain ⟨l, g1, g2, g3, g4⟩ := h13 i hi
  obtain ⟨r1, r2, r3, r4⟩ := e1 l g2 g3
  refine ⟨l, by rw [q2]; exact g1, g2, by omega, ?_⟩
  obtain ⟨k1, k2, k3, k4, k5, k6, ts, f, k7, k8, k9, k10, k11, k12⟩ := g4
  have j : 10 * v + i < 10 * V := by omega
  refine ⟨r3.trans k1, ?_, ?_, ?_, ?_, ?_, ts, f, k7, k8, ?_, ?_, fun k hk => ?_, ?_⟩
  · rw [r1, e5 (B + 21) (by omega) (by omega) _ j]; exact k2
  · rw [r1, e5 (B + 22) (by omega) (by omega) _ j]; exact k3
  · rw [r1, e5 (B + 22) (by omega) (by omega) _ j, e5 (B + 21) (by omega) (by omega) _ j]; exact k4
  · rw [r1, e5 (B + 23) (by omega) (by omega) _ j]; exact k5
  · rw [r1, e5 (B + 21) (by omega) (by omega) _ j]; exact k6
  · rw [e5 (B + 24) (by omega) (by omega) _ j]; exact k9
  · rw [e5 (B + 25) (by omega) (by omega) _ j]; exact k10
  · rw [e6 _ (by omega)]; exact k11 k hk
  · rw [r2]
    rcases k12 with y | ⟨y1, y2, cd, y3, y4, y5, y6, y7, y8⟩
    · exact Or.inl y
    · obtain ⟨z1, z2, z3, z4⟩ := e1 cd y7 y4
      exact Or.inr ⟨y1, y2, cd, y3, by omega, z3.trans y5, z4.trans y6, y7, fun k hk => by rw [z1]; exact y8 k hk⟩
/-- the records of a text are well made -/
theorem pTx_r {b : Nat → Nat} {l : Nat} : ∀ n p, p ≤ l → ∀ k, k < (pTx b l n p).2.2.length → ∃ q, q ≤ l ∧ Lw l q ((pTx b l n p).2.2.getD k lr0) ∧ ((pTx b l n p).2.2.getD k lr0).1 = true
  | 0, p, _, k, hk => absurd hk (Nat.not_lt_zero _)
  | n + 1, p, hp, k, hk => by
    have W := pLn_w (b := b) hp
    by_cases a : kd b l p = 0
    · have u : pTx b l (n + 1) p = (true, p, []) := if_pos a
      rw [u] at hk
      exact absurd hk (Nat.not_lt_zero _)
    by_cases c : (pLn b l p).1 = true
    · have u : pTx b l (n + 1) p = ((pTx b l n (pLn b l p).2.1).1, (pTx b l n (pLn b l p).2.1).2.1, pLn b l p :: (pTx b l n (pLn b l p).2.1).2.2) := by
        show (if kd b l p = 0 then _ else _) = _
        rw [if_neg a, if_pos c]
      rw [u] at hk ⊢
      by_cases z : k = 0
      · subst z
        exact ⟨p, hp, W, c⟩
      · obtain ⟨k', e⟩ : ∃ k', k = k' + 1 := ⟨k - 1, by omega⟩
        subst e
        have hk : k' + 1 < (pTx b l n (pLn b l p).2.1).2.2.length + 1 := hk
        exact pTx_r n (pLn b l p).2.1 W.2.1 k' (by omega)
    · have u : pTx b l (n + 1) p = (false, (pLn b l p).2.1, []) := by
        show (if kd b l p = 0 then _ else _) = _
        rw [if_neg a, if_neg c]
      rw [u] at hk
      exact absurd hk (Nat.not_lt_zero _)
theorem lmx_n {s : Nat} (h : s ≤ 4) : lmx (nI s) = mst s := by
  unfold lmx mst
  have e3 : nI 3 = (3 : Int32) := by decide
  by_cases a : s = 0
  · rw [if_pos a, if_pos (by rw [a]; rfl)]
  · have e0 : nI 0 = (0 : Int32) := by decide
    rw [if_neg a, if_neg (by rw [← e0]; exact nI_nj a (by omega) (by omega))]
    by_cases c : s = 3
    · rw [if_pos c, if_pos (by rw [c]; rfl)]
    · rw [if_neg c, if_neg (by rw [← e3]; exact nI_nj c (by omega) (by omega))]
end ODI
