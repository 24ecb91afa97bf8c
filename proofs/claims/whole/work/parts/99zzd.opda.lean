/-! read: a condition's plain pieces, the reference -/
section ODA
variable {d : Nat} {σ : am_I} {ρ : am_R} {g : am_J} {τ : am_T} {Q : am_Q}
theorem Bgd.u {k : Nat} {v : Int32} (hb : Bgd σ τ) : Bgd (am_u σ 160 k v) τ := hb.cg (fun y hy => u_ne _ _ _ _ (by omega))
theorem c189p (hS : Sh ρ τ) (hb : Bgd σ τ) {b : Nat → Nat} {l p i N : Nat} (hT : TR b l σ) (pl : p ≤ l) (pp : sk b l p = p) (hi : i < 19) (hN : N = am_BG + (22 + i)) : AW (d + 4) 189 0 [.ref 160, .ref N, am_jk] [] (am_u σ 160 57 (nI p)) ρ g τ Q = Q (some (.int (bI (nm b l p i)))) (am_u σ 160 57 (nI (nmA b l p i))) ρ g τ := by
  have L := c189n (d := d) (g := g) (Q := Q) hS (hb.u (k := 57) (v := nI p)) (hT.u (k := 57) (v := nI p) (by decide)) pl (u_at _ _ _ _) hi hN
  rw [pp, u_uu] at L
  exact L
theorem c190p (hS : Sh ρ τ) {b : Nat → Nat} {l p c : Nat} (hcl : isL c = false) (hcd : isD c = false) (hc1 : c < 128) (hT : TR b l σ) (pl : p ≤ l) (pp : sk b l p = p) {y : Int32} (hy : y = nI c) : AW (d + 1) 190 0 [.ref 160, .int y] [] (am_u σ 160 57 (nI p)) ρ g τ Q = Q (some (.int (bI (ot b l p c)))) (am_u σ 160 57 (nI (otA b l p c))) ρ g τ := by
  have L := c190 (d := d) (g := g) (Q := Q) hS hcl hcd hc1 (hT.u (k := 57) (v := nI p) (by decide)) pl (u_at _ _ _ _) hy
  rw [pp, u_uu] at L
  exact L
theorem hv_ot {b : Nat → Nat} {l p c : Nat} (hT : TR b l σ) (hcl : isL c = false) (hcd : isD c = false) (hc1 : c < 128) : (hv b l p = nI c) = (ot b l p c = true) := by
  refine propext ⟨fun z => ?_, fun z => ?_⟩
  · by_cases y : p < l
    · have v : hv b l p = nI (b p) := if_pos y
      rw [v] at z
      obtain ⟨b1, _⟩ := hT.2.2 p y
      have e : b p = c := by
        by_cases x : b p = c
        · exact x
        · exact absurd z (nI_nj x (by omega) (by omega))
      exact decide_eq_true ⟨kd_3 y (by rw [e]; exact hcl) (by rw [e]; exact hcd), e⟩
    · have v : hv b l p = -1 := if_neg y
      rw [v] at z
      have lt : (-1 : Int32) < 0 := by decide
      rw [z] at lt
      exact absurd lt (Int32.not_lt.mpr (nI_le (a := 0) (Nat.zero_le _) (by omega)))
  · have z := of_decide_eq_true z
    have y : p < l := by
      rcases kd_c b l p with h | h | h | h <;> omega
    rw [← z.2]
    exact if_pos y
theorem c193 (hS : Sh ρ τ) (hb : Bgd σ τ) {b : Nat → Nat} {l a p : Nat} (hT : TR b l σ) (ha : a ≤ l) (hc : σ 160 57 = nI a) (hp : sk b l a = p) : AW (d + 5) 193 0 [.ref 160] [] σ ρ g τ Q = Q (some (.int (rI (srt b l p) 3))) (am_u σ 160 57 (nI (if srt b l p < 3 then te b l p else p))) ρ g τ := by
  have pl : p ≤ l := by rw [← hp]; exact (sk_b (b := b) ha).2
  have pp : sk b l p = p := by rw [← hp]; exact sk_sk ha
  have N0 := fun (d : Nat) (Q : am_Q) => c189n (d := d) (g := g) (Q := Q) hS hb hT ha hc (i := 6) (N := am_BG + 28) (by decide) rfl
  rw [hp] at N0
  have N1 := fun (d : Nat) (Q : am_Q) => c189p (d := d) (g := g) (Q := Q) hS hb hT pl pp (i := 7) (N := am_BG + 29) (by decide) rfl
  have N2 := fun (d : Nat) (Q : am_Q) => c189p (d := d) (g := g) (Q := Q) hS hb hT pl pp (i := 8) (N := am_BG + 30) (by decide) rfl
  by_cases a0 : nm b l p 6 = true
  · have e : srt b l p = 0 := if_pos a0
    have w := bI_t a0
    have v : rI (srt b l p) 3 = 0 := by rw [e]; rfl
    have x : (if srt b l p < 3 then te b l p else p) = te b l p := if_pos (by omega)
    have y : nmA b l p 6 = te b l p := if_pos a0
    rw [x]
    simp only [s193_0, s193_1, s193_4, s193_7, s193_10, s193_11, s193_14, s193_15, s193_18, s193_21, s193_24, s193_25, s193_28, s193_29, s193_32, s193_35, s193_38, s193_39, s193_42, s193_43, k_160 hS, k_161 hS, l_161 hS, k_162 hS, l_162 hS, k_163 hS, l_163 hS, k_164 hS, l_164 hS, k_165 hS, l_165 hS, k_166 hS, l_166 hS, k_167 hS, l_167 hS, k_168 hS, l_168 hS, k_169 hS, l_169 hS, k_170 hS, l_170 hS, k_171 hS, l_171 hS, k_172 hS, l_172 hS, k_173 hS, l_173 hS, k_174 hS, l_174 hS, k_175 hS, l_175 hS, k_176 hS, l_176 hS, k_177 hS, l_177 hS, k_178 hS, l_178 hS, k_179 hS, l_179 hS, k_180 hS, l_180 hS, k_181 hS, l_181 hS, k_182 hS, l_182 hS, k_183 hS, l_183 hS, k_184 hS, l_184 hS, k_185 hS, l_185 hS, k_186 hS, l_186 hS, k_187 hS, l_187 hS, k_188 hS, l_188 hS, k_189 hS, l_189 hS, k_190 hS, l_190 hS, k_191 hS, l_191 hS, k_192 hS, l_192 hS, k_193 hS, l_193 hS, k_194 hS, l_194 hS, k_195 hS, l_195 hS, k_196 hS, l_196 hS, k_197 hS, l_197 hS, k_198 hS, l_198 hS, k_199 hS, l_199 hS, k_200 hS, l_200 hS, k_201 hS, l_201 hS, k_202 hS, l_202 hS, k_203 hS, l_203 hS, k_204 hS, l_204 hS, k_205 hS, l_205 hS, k_206 hS, l_206 hS, k_207 hS, l_207 hS, k_208 hS, l_208 hS, k_209 hS, l_209 hS, k_210 hS, l_210 hS, k_211 hS, l_211 hS, k_212 hS, l_212 hS, k_213 hS, l_213 hS, k_214 hS, l_214 hS, k_215 hS, l_215 hS, k_216 hS, l_216 hS, k_217 hS, l_217 hS, k_218 hS, l_218 hS, k_219 hS, l_219 hS, k_220 hS, l_220 hS, r_160_0 hS, r_160_1 hS, r_160_2 hS, r_160_3 hS, r_160_4 hS, r_160_5 hS, r_160_6 hS, r_160_7 hS, r_160_8 hS, r_160_9 hS, r_160_10 hS, r_160_11 hS, r_160_12 hS, r_160_13 hS, r_160_14 hS, r_160_15 hS, r_160_16 hS, r_160_17 hS, r_160_18 hS, r_160_19 hS, r_160_20 hS, r_160_21 hS, r_160_22 hS, r_160_23 hS, r_160_24 hS, r_160_25 hS, r_160_26 hS, r_160_27 hS, r_160_28 hS, r_160_29 hS, r_160_30 hS, r_160_31 hS, r_160_32 hS, r_160_33 hS, r_160_34 hS, r_160_35 hS, r_160_36 hS, r_160_37 hS, r_160_38 hS, r_160_39 hS, r_160_40 hS, r_160_41 hS, r_160_43 hS, r_160_45 hS, r_160_46 hS, r_160_48 hS, r_160_49 hS, r_160_50 hS, r_160_51 hS, r_160_52 hS, r_160_53 hS, r_160_54 hS, r_160_56 hS, r_160_63 hS, r_160_64 hS, r_160_65 hS, r_160_66 hS, r_160_67 hS, r_160_68 hS, r_160_69 hS, ol_s, ol_n, ln_0, ln_1, ln_2, ln_3, ln_4, eq_self, rf_s, rf_n, i01_0, i01_n0, i01_b, b01_0, b01_1, and_self, and_true, true_and, and_false, false_and, if_true, if_false, not_true_eq_false, not_false_eq_true, e10, e00, lt_bg, Nat.reduceLT, Nat.reduceLeDiff, N0, w, v, y]
  have f0 : bI (nm b l p 6) = 0 := if_neg a0
  have g0 : nmA b l p 6 = p := if_neg a0
  by_cases a1 : nm b l p 7 = true
  · have e : srt b l p = 1 := by
      unfold srt
      rw [if_neg a0, if_pos a1]
    have w := bI_t a1
    have v : rI (srt b l p) 3 = 1 := by rw [e]; rfl
    have x : (if srt b l p < 3 then te b l p else p) = te b l p := if_pos (by omega)
    have y : nmA b l p 7 = te b l p := if_pos a1
    rw [x]
    simp only [s193_0, s193_1, s193_4, s193_7, s193_10, s193_11, s193_14, s193_15, s193_18, s193_21, s193_24, s193_25, s193_28, s193_29, s193_32, s193_35, s193_38, s193_39, s193_42, s193_43, k_160 hS, k_161 hS, l_161 hS, k_162 hS, l_162 hS, k_163 hS, l_163 hS, k_164 hS, l_164 hS, k_165 hS, l_165 hS, k_166 hS, l_166 hS, k_167 hS, l_167 hS, k_168 hS, l_168 hS, k_169 hS, l_169 hS, k_170 hS, l_170 hS, k_171 hS, l_171 hS, k_172 hS, l_172 hS, k_173 hS, l_173 hS, k_174 hS, l_174 hS, k_175 hS, l_175 hS, k_176 hS, l_176 hS, k_177 hS, l_177 hS, k_178 hS, l_178 hS, k_179 hS, l_179 hS, k_180 hS, l_180 hS, k_181 hS, l_181 hS, k_182 hS, l_182 hS, k_183 hS, l_183 hS, k_184 hS, l_184 hS, k_185 hS, l_185 hS, k_186 hS, l_186 hS, k_187 hS, l_187 hS, k_188 hS, l_188 hS, k_189 hS, l_189 hS, k_190 hS, l_190 hS, k_191 hS, l_191 hS, k_192 hS, l_192 hS, k_193 hS, l_193 hS, k_194 hS, l_194 hS, k_195 hS, l_195 hS, k_196 hS, l_196 hS, k_197 hS, l_197 hS, k_198 hS, l_198 hS, k_199 hS, l_199 hS, k_200 hS, l_200 hS, k_201 hS, l_201 hS, k_202 hS, l_202 hS, k_203 hS, l_203 hS, k_204 hS, l_204 hS, k_205 hS, l_205 hS, k_206 hS, l_206 hS, k_207 hS, l_207 hS, k_208 hS, l_208 hS, k_209 hS, l_209 hS, k_210 hS, l_210 hS, k_211 hS, l_211 hS, k_212 hS, l_212 hS, k_213 hS, l_213 hS, k_214 hS, l_214 hS, k_215 hS, l_215 hS, k_216 hS, l_216 hS, k_217 hS, l_217 hS, k_218 hS, l_218 hS, k_219 hS, l_219 hS, k_220 hS, l_220 hS, r_160_0 hS, r_160_1 hS, r_160_2 hS, r_160_3 hS, r_160_4 hS, r_160_5 hS, r_160_6 hS, r_160_7 hS, r_160_8 hS, r_160_9 hS, r_160_10 hS, r_160_11 hS, r_160_12 hS, r_160_13 hS, r_160_14 hS, r_160_15 hS, r_160_16 hS, r_160_17 hS, r_160_18 hS, r_160_19 hS, r_160_20 hS, r_160_21 hS, r_160_22 hS, r_160_23 hS, r_160_24 hS, r_160_25 hS, r_160_26 hS, r_160_27 hS, r_160_28 hS, r_160_29 hS, r_160_30 hS, r_160_31 hS, r_160_32 hS, r_160_33 hS, r_160_34 hS, r_160_35 hS, r_160_36 hS, r_160_37 hS, r_160_38 hS, r_160_39 hS, r_160_40 hS, r_160_41 hS, r_160_43 hS, r_160_45 hS, r_160_46 hS, r_160_48 hS, r_160_49 hS, r_160_50 hS, r_160_51 hS, r_160_52 hS, r_160_53 hS, r_160_54 hS, r_160_56 hS, r_160_63 hS, r_160_64 hS, r_160_65 hS, r_160_66 hS, r_160_67 hS, r_160_68 hS, r_160_69 hS, ol_s, ol_n, ln_0, ln_1, ln_2, ln_3, ln_4, eq_self, rf_s, rf_n, i01_0, i01_n0, i01_b, b01_0, b01_1, and_self, and_true, true_and, and_false, false_and, if_true, if_false, not_true_eq_false, not_false_eq_true, e10, e00, lt_bg, Nat.reduceLT, Nat.reduceLeDiff, N0, N1, f0, g0, w, v, y]
  have f1 : bI (nm b l p 7) = 0 := if_neg a1
  have g1 : nmA b l p 7 = p := if_neg a1
  by_cases a2 : nm b l p 8 = true
  · have e : srt b l p = 2 := by
      unfold srt
      rw [if_neg a0, if_neg a1, if_pos a2]
    have w := bI_t a2
    have v : rI (srt b l p) 3 = 2 := by rw [e]; rfl
    have x : (if srt b l p < 3 then te b l p else p) = te b l p := if_pos (by omega)
    have y : nmA b l p 8 = te b l p := if_pos a2
    rw [x]
    simp only [s193_0, s193_1, s193_4, s193_7, s193_10, s193_11, s193_14, s193_15, s193_18, s193_21, s193_24, s193_25, s193_28, s193_29, s193_32, s193_35, s193_38, s193_39, s193_42, s193_43, k_160 hS, k_161 hS, l_161 hS, k_162 hS, l_162 hS, k_163 hS, l_163 hS, k_164 hS, l_164 hS, k_165 hS, l_165 hS, k_166 hS, l_166 hS, k_167 hS, l_167 hS, k_168 hS, l_168 hS, k_169 hS, l_169 hS, k_170 hS, l_170 hS, k_171 hS, l_171 hS, k_172 hS, l_172 hS, k_173 hS, l_173 hS, k_174 hS, l_174 hS, k_175 hS, l_175 hS, k_176 hS, l_176 hS, k_177 hS, l_177 hS, k_178 hS, l_178 hS, k_179 hS, l_179 hS, k_180 hS, l_180 hS, k_181 hS, l_181 hS, k_182 hS, l_182 hS, k_183 hS, l_183 hS, k_184 hS, l_184 hS, k_185 hS, l_185 hS, k_186 hS, l_186 hS, k_187 hS, l_187 hS, k_188 hS, l_188 hS, k_189 hS, l_189 hS, k_190 hS, l_190 hS, k_191 hS, l_191 hS, k_192 hS, l_192 hS, k_193 hS, l_193 hS, k_194 hS, l_194 hS, k_195 hS, l_195 hS, k_196 hS, l_196 hS, k_197 hS, l_197 hS, k_198 hS, l_198 hS, k_199 hS, l_199 hS, k_200 hS, l_200 hS, k_201 hS, l_201 hS, k_202 hS, l_202 hS, k_203 hS, l_203 hS, k_204 hS, l_204 hS, k_205 hS, l_205 hS, k_206 hS, l_206 hS, k_207 hS, l_207 hS, k_208 hS, l_208 hS, k_209 hS, l_209 hS, k_210 hS, l_210 hS, k_211 hS, l_211 hS, k_212 hS, l_212 hS, k_213 hS, l_213 hS, k_214 hS, l_214 hS, k_215 hS, l_215 hS, k_216 hS, l_216 hS, k_217 hS, l_217 hS, k_218 hS, l_218 hS, k_219 hS, l_219 hS, k_220 hS, l_220 hS, r_160_0 hS, r_160_1 hS, r_160_2 hS, r_160_3 hS, r_160_4 hS, r_160_5 hS, r_160_6 hS, r_160_7 hS, r_160_8 hS, r_160_9 hS, r_160_10 hS, r_160_11 hS, r_160_12 hS, r_160_13 hS, r_160_14 hS, r_160_15 hS, r_160_16 hS, r_160_17 hS, r_160_18 hS, r_160_19 hS, r_160_20 hS, r_160_21 hS, r_160_22 hS, r_160_23 hS, r_160_24 hS, r_160_25 hS, r_160_26 hS, r_160_27 hS, r_160_28 hS, r_160_29 hS, r_160_30 hS, r_160_31 hS, r_160_32 hS, r_160_33 hS, r_160_34 hS, r_160_35 hS, r_160_36 hS, r_160_37 hS, r_160_38 hS, r_160_39 hS, r_160_40 hS, r_160_41 hS, r_160_43 hS, r_160_45 hS, r_160_46 hS, r_160_48 hS, r_160_49 hS, r_160_50 hS, r_160_51 hS, r_160_52 hS, r_160_53 hS, r_160_54 hS, r_160_56 hS, r_160_63 hS, r_160_64 hS, r_160_65 hS, r_160_66 hS, r_160_67 hS, r_160_68 hS, r_160_69 hS, ol_s, ol_n, ln_0, ln_1, ln_2, ln_3, ln_4, eq_self, rf_s, rf_n, i01_0, i01_n0, i01_b, b01_0, b01_1, and_self, and_true, true_and, and_false, false_and, if_true, if_false, not_true_eq_false, not_false_eq_true, e10, e00, lt_bg, Nat.reduceLT, Nat.reduceLeDiff, N0, N1, N2, f0, g0, f1, g1, w, v, y]
  have f2 : bI (nm b l p 8) = 0 := if_neg a2
  have g2 : nmA b l p 8 = p := if_neg a2
  have e : srt b l p = 3 := by
    unfold srt
    rw [if_neg a0, if_neg a1, if_neg a2]
  have v : rI (srt b l p) 3 = -1 := by rw [e]; rfl
  have x : (if srt b l p < 3 then te b l p else p) = p := if_neg (by omega)
  rw [x]
  simp only [s193_0, s193_1, s193_4, s193_7, s193_10, s193_11, s193_14, s193_15, s193_18, s193_21, s193_24, s193_25, s193_28, s193_29, s193_32, s193_35, s193_38, s193_39, s193_42, s193_43, k_160 hS, k_161 hS, l_161 hS, k_162 hS, l_162 hS, k_163 hS, l_163 hS, k_164 hS, l_164 hS, k_165 hS, l_165 hS, k_166 hS, l_166 hS, k_167 hS, l_167 hS, k_168 hS, l_168 hS, k_169 hS, l_169 hS, k_170 hS, l_170 hS, k_171 hS, l_171 hS, k_172 hS, l_172 hS, k_173 hS, l_173 hS, k_174 hS, l_174 hS, k_175 hS, l_175 hS, k_176 hS, l_176 hS, k_177 hS, l_177 hS, k_178 hS, l_178 hS, k_179 hS, l_179 hS, k_180 hS, l_180 hS, k_181 hS, l_181 hS, k_182 hS, l_182 hS, k_183 hS, l_183 hS, k_184 hS, l_184 hS, k_185 hS, l_185 hS, k_186 hS, l_186 hS, k_187 hS, l_187 hS, k_188 hS, l_188 hS, k_189 hS, l_189 hS, k_190 hS, l_190 hS, k_191 hS, l_191 hS, k_192 hS, l_192 hS, k_193 hS, l_193 hS, k_194 hS, l_194 hS, k_195 hS, l_195 hS, k_196 hS, l_196 hS, k_197 hS, l_197 hS, k_198 hS, l_198 hS, k_199 hS, l_199 hS, k_200 hS, l_200 hS, k_201 hS, l_201 hS, k_202 hS, l_202 hS, k_203 hS, l_203 hS, k_204 hS, l_204 hS, k_205 hS, l_205 hS, k_206 hS, l_206 hS, k_207 hS, l_207 hS, k_208 hS, l_208 hS, k_209 hS, l_209 hS, k_210 hS, l_210 hS, k_211 hS, l_211 hS, k_212 hS, l_212 hS, k_213 hS, l_213 hS, k_214 hS, l_214 hS, k_215 hS, l_215 hS, k_216 hS, l_216 hS, k_217 hS, l_217 hS, k_218 hS, l_218 hS, k_219 hS, l_219 hS, k_220 hS, l_220 hS, r_160_0 hS, r_160_1 hS, r_160_2 hS, r_160_3 hS, r_160_4 hS, r_160_5 hS, r_160_6 hS, r_160_7 hS, r_160_8 hS, r_160_9 hS, r_160_10 hS, r_160_11 hS, r_160_12 hS, r_160_13 hS, r_160_14 hS, r_160_15 hS, r_160_16 hS, r_160_17 hS, r_160_18 hS, r_160_19 hS, r_160_20 hS, r_160_21 hS, r_160_22 hS, r_160_23 hS, r_160_24 hS, r_160_25 hS, r_160_26 hS, r_160_27 hS, r_160_28 hS, r_160_29 hS, r_160_30 hS, r_160_31 hS, r_160_32 hS, r_160_33 hS, r_160_34 hS, r_160_35 hS, r_160_36 hS, r_160_37 hS, r_160_38 hS, r_160_39 hS, r_160_40 hS, r_160_41 hS, r_160_43 hS, r_160_45 hS, r_160_46 hS, r_160_48 hS, r_160_49 hS, r_160_50 hS, r_160_51 hS, r_160_52 hS, r_160_53 hS, r_160_54 hS, r_160_56 hS, r_160_63 hS, r_160_64 hS, r_160_65 hS, r_160_66 hS, r_160_67 hS, r_160_68 hS, r_160_69 hS, ol_s, ol_n, ln_0, ln_1, ln_2, ln_3, ln_4, eq_self, rf_s, rf_n, i01_0, i01_n0, i01_b, b01_0, b01_1, and_self, and_true, true_and, and_false, false_and, if_true, if_false, not_true_eq_false, not_false_eq_true, e10, e00, lt_bg, Nat.reduceLT, Nat.reduceLeDiff, N0, N1, N2, f0, g0, f1, g1, f2, g2, v]
theorem c194 (hS : Sh ρ τ) (hb : Bgd σ τ) {b : Nat → Nat} {l a p : Nat} (hT : TR b l σ) (ha : a ≤ l) (hc : σ 160 57 = nI a) (hp : sk b l a = p) : AW (d + 5) 194 0 [.ref 160] [] σ ρ g τ Q = Q (some (.int (rI (fct b l p) 6))) (am_u σ 160 57 (nI (if fct b l p < 6 then te b l p else p))) ρ g τ := by
  have pl : p ≤ l := by rw [← hp]; exact (sk_b (b := b) ha).2
  have pp : sk b l p = p := by rw [← hp]; exact sk_sk ha
  have N0 := fun (d : Nat) (Q : am_Q) => c189n (d := d) (g := g) (Q := Q) hS hb hT ha hc (i := 11) (N := am_BG + 33) (by decide) rfl
  rw [hp] at N0
  have N1 := fun (d : Nat) (Q : am_Q) => c189p (d := d) (g := g) (Q := Q) hS hb hT pl pp (i := 12) (N := am_BG + 34) (by decide) rfl
  have N2 := fun (d : Nat) (Q : am_Q) => c189p (d := d) (g := g) (Q := Q) hS hb hT pl pp (i := 13) (N := am_BG + 35) (by decide) rfl
  have N3 := fun (d : Nat) (Q : am_Q) => c189p (d := d) (g := g) (Q := Q) hS hb hT pl pp (i := 14) (N := am_BG + 36) (by decide) rfl
  have N4 := fun (d : Nat) (Q : am_Q) => c189p (d := d) (g := g) (Q := Q) hS hb hT pl pp (i := 15) (N := am_BG + 37) (by decide) rfl
  have N5 := fun (d : Nat) (Q : am_Q) => c189p (d := d) (g := g) (Q := Q) hS hb hT pl pp (i := 16) (N := am_BG + 38) (by decide) rfl
  by_cases a0 : nm b l p 11 = true
  · have e : fct b l p = 0 := if_pos a0
    have w := bI_t a0
    have v : rI (fct b l p) 6 = 0 := by rw [e]; rfl
    have x : (if fct b l p < 6 then te b l p else p) = te b l p := if_pos (by omega)
    have y : nmA b l p 11 = te b l p := if_pos a0
    rw [x]
    simp only [s194_0, s194_1, s194_4, s194_7, s194_10, s194_11, s194_14, s194_15, s194_18, s194_21, s194_24, s194_25, s194_28, s194_29, s194_32, s194_35, s194_38, s194_39, s194_42, s194_43, s194_46, s194_49, s194_52, s194_53, s194_56, s194_57, s194_60, s194_63, s194_66, s194_67, s194_70, s194_71, s194_74, s194_77, s194_80, s194_81, s194_84, s194_85, k_160 hS, k_161 hS, l_161 hS, k_162 hS, l_162 hS, k_163 hS, l_163 hS, k_164 hS, l_164 hS, k_165 hS, l_165 hS, k_166 hS, l_166 hS, k_167 hS, l_167 hS, k_168 hS, l_168 hS, k_169 hS, l_169 hS, k_170 hS, l_170 hS, k_171 hS, l_171 hS, k_172 hS, l_172 hS, k_173 hS, l_173 hS, k_174 hS, l_174 hS, k_175 hS, l_175 hS, k_176 hS, l_176 hS, k_177 hS, l_177 hS, k_178 hS, l_178 hS, k_179 hS, l_179 hS, k_180 hS, l_180 hS, k_181 hS, l_181 hS, k_182 hS, l_182 hS, k_183 hS, l_183 hS, k_184 hS, l_184 hS, k_185 hS, l_185 hS, k_186 hS, l_186 hS, k_187 hS, l_187 hS, k_188 hS, l_188 hS, k_189 hS, l_189 hS, k_190 hS, l_190 hS, k_191 hS, l_191 hS, k_192 hS, l_192 hS, k_193 hS, l_193 hS, k_194 hS, l_194 hS, k_195 hS, l_195 hS, k_196 hS, l_196 hS, k_197 hS, l_197 hS, k_198 hS, l_198 hS, k_199 hS, l_199 hS, k_200 hS, l_200 hS, k_201 hS, l_201 hS, k_202 hS, l_202 hS, k_203 hS, l_203 hS, k_204 hS, l_204 hS, k_205 hS, l_205 hS, k_206 hS, l_206 hS, k_207 hS, l_207 hS, k_208 hS, l_208 hS, k_209 hS, l_209 hS, k_210 hS, l_210 hS, k_211 hS, l_211 hS, k_212 hS, l_212 hS, k_213 hS, l_213 hS, k_214 hS, l_214 hS, k_215 hS, l_215 hS, k_216 hS, l_216 hS, k_217 hS, l_217 hS, k_218 hS, l_218 hS, k_219 hS, l_219 hS, k_220 hS, l_220 hS, r_160_0 hS, r_160_1 hS, r_160_2 hS, r_160_3 hS, r_160_4 hS, r_160_5 hS, r_160_6 hS, r_160_7 hS, r_160_8 hS, r_160_9 hS, r_160_10 hS, r_160_11 hS, r_160_12 hS, r_160_13 hS, r_160_14 hS, r_160_15 hS, r_160_16 hS, r_160_17 hS, r_160_18 hS, r_160_19 hS, r_160_20 hS, r_160_21 hS, r_160_22 hS, r_160_23 hS, r_160_24 hS, r_160_25 hS, r_160_26 hS, r_160_27 hS, r_160_28 hS, r_160_29 hS, r_160_30 hS, r_160_31 hS, r_160_32 hS, r_160_33 hS, r_160_34 hS, r_160_35 hS, r_160_36 hS, r_160_37 hS, r_160_38 hS, r_160_39 hS, r_160_40 hS, r_160_41 hS, r_160_43 hS, r_160_45 hS, r_160_46 hS, r_160_48 hS, r_160_49 hS, r_160_50 hS, r_160_51 hS, r_160_52 hS, r_160_53 hS, r_160_54 hS, r_160_56 hS, r_160_63 hS, r_160_64 hS, r_160_65 hS, r_160_66 hS, r_160_67 hS, r_160_68 hS, r_160_69 hS, ol_s, ol_n, ln_0, ln_1, ln_2, ln_3, ln_4, eq_self, rf_s, rf_n, i01_0, i01_n0, i01_b, b01_0, b01_1, and_self, and_true, true_and, and_false, false_and, if_true, if_false, not_true_eq_false, not_false_eq_true, e10, e00, lt_bg, Nat.reduceLT, Nat.reduceLeDiff, N0, w, v, y]
  have f0 : bI (nm b l p 11) = 0 := if_neg a0
  have g0 : nmA b l p 11 = p := if_neg a0
  by_cases a1 : nm b l p 12 = true
  · have e : fct b l p = 1 := by
      unfold fct
      rw [if_neg a0, if_pos a1]
    have w := bI_t a1
    have v : rI (fct b l p) 6 = 1 := by rw [e]; rfl
    have x : (if fct b l p < 6 then te b l p else p) = te b l p := if_pos (by omega)
    have y : nmA b l p 12 = te b l p := if_pos a1
    rw [x]
    simp only [s194_0, s194_1, s194_4, s194_7, s194_10, s194_11, s194_14, s194_15, s194_18, s194_21, s194_24, s194_25, s194_28, s194_29, s194_32, s194_35, s194_38, s194_39, s194_42, s194_43, s194_46, s194_49, s194_52, s194_53, s194_56, s194_57, s194_60, s194_63, s194_66, s194_67, s194_70, s194_71, s194_74, s194_77, s194_80, s194_81, s194_84, s194_85, k_160 hS, k_161 hS, l_161 hS, k_162 hS, l_162 hS, k_163 hS, l_163 hS, k_164 hS, l_164 hS, k_165 hS, l_165 hS, k_166 hS, l_166 hS, k_167 hS, l_167 hS, k_168 hS, l_168 hS, k_169 hS, l_169 hS, k_170 hS, l_170 hS, k_171 hS, l_171 hS, k_172 hS, l_172 hS, k_173 hS, l_173 hS, k_174 hS, l_174 hS, k_175 hS, l_175 hS, k_176 hS, l_176 hS, k_177 hS, l_177 hS, k_178 hS, l_178 hS, k_179 hS, l_179 hS, k_180 hS, l_180 hS, k_181 hS, l_181 hS, k_182 hS, l_182 hS, k_183 hS, l_183 hS, k_184 hS, l_184 hS, k_185 hS, l_185 hS, k_186 hS, l_186 hS, k_187 hS, l_187 hS, k_188 hS, l_188 hS, k_189 hS, l_189 hS, k_190 hS, l_190 hS, k_191 hS, l_191 hS, k_192 hS, l_192 hS, k_193 hS, l_193 hS, k_194 hS, l_194 hS, k_195 hS, l_195 hS, k_196 hS, l_196 hS, k_197 hS, l_197 hS, k_198 hS, l_198 hS, k_199 hS, l_199 hS, k_200 hS, l_200 hS, k_201 hS, l_201 hS, k_202 hS, l_202 hS, k_203 hS, l_203 hS, k_204 hS, l_204 hS, k_205 hS, l_205 hS, k_206 hS, l_206 hS, k_207 hS, l_207 hS, k_208 hS, l_208 hS, k_209 hS, l_209 hS, k_210 hS, l_210 hS, k_211 hS, l_211 hS, k_212 hS, l_212 hS, k_213 hS, l_213 hS, k_214 hS, l_214 hS, k_215 hS, l_215 hS, k_216 hS, l_216 hS, k_217 hS, l_217 hS, k_218 hS, l_218 hS, k_219 hS, l_219 hS, k_220 hS, l_220 hS, r_160_0 hS, r_160_1 hS, r_160_2 hS, r_160_3 hS, r_160_4 hS, r_160_5 hS, r_160_6 hS, r_160_7 hS, r_160_8 hS, r_160_9 hS, r_160_10 hS, r_160_11 hS, r_160_12 hS, r_160_13 hS, r_160_14 hS, r_160_15 hS, r_160_16 hS, r_160_17 hS, r_160_18 hS, r_160_19 hS, r_160_20 hS, r_160_21 hS, r_160_22 hS, r_160_23 hS, r_160_24 hS, r_160_25 hS, r_160_26 hS, r_160_27 hS, r_160_28 hS, r_160_29 hS, r_160_30 hS, r_160_31 hS, r_160_32 hS, r_160_33 hS, r_160_34 hS, r_160_35 hS, r_160_36 hS, r_160_37 hS, r_160_38 hS, r_160_39 hS, r_160_40 hS, r_160_41 hS, r_160_43 hS, r_160_45 hS, r_160_46 hS, r_160_48 hS, r_160_49 hS, r_160_50 hS, r_160_51 hS, r_160_52 hS, r_160_53 hS, r_160_54 hS, r_160_56 hS, r_160_63 hS, r_160_64 hS, r_160_65 hS, r_160_66 hS, r_160_67 hS, r_160_68 hS, r_160_69 hS, ol_s, ol_n, ln_0, ln_1, ln_2, ln_3, ln_4, eq_self, rf_s, rf_n, i01_0, i01_n0, i01_b, b01_0, b01_1, and_self, and_true, true_and, and_false, false_and, if_true, if_false, not_true_eq_false, not_false_eq_true, e10, e00, lt_bg, Nat.reduceLT, Nat.reduceLeDiff, N0, N1, f0, g0, w, v, y]
  have f1 : bI (nm b l p 12) = 0 := if_neg a1
  have g1 : nmA b l p 12 = p := if_neg a1
  by_cases a2 : nm b l p 13 = true
  · have e : fct b l p = 2 := by
      unfold fct
      rw [if_neg a0, if_neg a1, if_pos a2]
    have w := bI_t a2
    have v : rI (fct b l p) 6 = 2 := by rw [e]; rfl
    have x : (if fct b l p < 6 then te b l p else p) = te b l p := if_pos (by omega)
    have y : nmA b l p 13 = te b l p := if_pos a2
    rw [x]
    simp only [s194_0, s194_1, s194_4, s194_7, s194_10, s194_11, s194_14, s194_15, s194_18, s194_21, s194_24, s194_25, s194_28, s194_29, s194_32, s194_35, s194_38, s194_39, s194_42, s194_43, s194_46, s194_49, s194_52, s194_53, s194_56, s194_57, s194_60, s194_63, s194_66, s194_67, s194_70, s194_71, s194_74, s194_77, s194_80, s194_81, s194_84, s194_85, k_160 hS, k_161 hS, l_161 hS, k_162 hS, l_162 hS, k_163 hS, l_163 hS, k_164 hS, l_164 hS, k_165 hS, l_165 hS, k_166 hS, l_166 hS, k_167 hS, l_167 hS, k_168 hS, l_168 hS, k_169 hS, l_169 hS, k_170 hS, l_170 hS, k_171 hS, l_171 hS, k_172 hS, l_172 hS, k_173 hS, l_173 hS, k_174 hS, l_174 hS, k_175 hS, l_175 hS, k_176 hS, l_176 hS, k_177 hS, l_177 hS, k_178 hS, l_178 hS, k_179 hS, l_179 hS, k_180 hS, l_180 hS, k_181 hS, l_181 hS, k_182 hS, l_182 hS, k_183 hS, l_183 hS, k_184 hS, l_184 hS, k_185 hS, l_185 hS, k_186 hS, l_186 hS, k_187 hS, l_187 hS, k_188 hS, l_188 hS, k_189 hS, l_189 hS, k_190 hS, l_190 hS, k_191 hS, l_191 hS, k_192 hS, l_192 hS, k_193 hS, l_193 hS, k_194 hS, l_194 hS, k_195 hS, l_195 hS, k_196 hS, l_196 hS, k_197 hS, l_197 hS, k_198 hS, l_198 hS, k_199 hS, l_199 hS, k_200 hS, l_200 hS, k_201 hS, l_201 hS, k_202 hS, l_202 hS, k_203 hS, l_203 hS, k_204 hS, l_204 hS, k_205 hS, l_205 hS, k_206 hS, l_206 hS, k_207 hS, l_207 hS, k_208 hS, l_208 hS, k_209 hS, l_209 hS, k_210 hS, l_210 hS, k_211 hS, l_211 hS, k_212 hS, l_212 hS, k_213 hS, l_213 hS, k_214 hS, l_214 hS, k_215 hS, l_215 hS, k_216 hS, l_216 hS, k_217 hS, l_217 hS, k_218 hS, l_218 hS, k_219 hS, l_219 hS, k_220 hS, l_220 hS, r_160_0 hS, r_160_1 hS, r_160_2 hS, r_160_3 hS, r_160_4 hS, r_160_5 hS, r_160_6 hS, r_160_7 hS, r_160_8 hS, r_160_9 hS, r_160_10 hS, r_160_11 hS, r_160_12 hS, r_160_13 hS, r_160_14 hS, r_160_15 hS, r_160_16 hS, r_160_17 hS, r_160_18 hS, r_160_19 hS, r_160_20 hS, r_160_21 hS, r_160_22 hS, r_160_23 hS, r_160_24 hS, r_160_25 hS, r_160_26 hS, r_160_27 hS, r_160_28 hS, r_160_29 hS, r_160_30 hS, r_160_31 hS, r_160_32 hS, r_160_33 hS, r_160_34 hS, r_160_35 hS, r_160_36 hS, r_160_37 hS, r_160_38 hS, r_160_39 hS, r_160_40 hS, r_160_41 hS, r_160_43 hS, r_160_45 hS, r_160_46 hS, r_160_48 hS, r_160_49 hS, r_160_50 hS, r_160_51 hS, r_160_52 hS, r_160_53 hS, r_160_54 hS, r_160_56 hS, r_160_63 hS, r_160_64 hS, r_160_65 hS, r_160_66 hS, r_160_67 hS, r_160_68 hS, r_160_69 hS, ol_s, ol_n, ln_0, ln_1, ln_2, ln_3, ln_4, eq_self, rf_s, rf_n, i01_0, i01_n0, i01_b, b01_0, b01_1, and_self, and_true, true_and, and_false, false_and, if_true, if_false, not_true_eq_false, not_false_eq_true, e10, e00, lt_bg, Nat.reduceLT, Nat.reduceLeDiff, N0, N1, N2, f0, g0, f1, g1, w, v, y]
  have f2 : bI (nm b l p 13) = 0 := if_neg a2
  have g2 : nmA b l p 13 = p := if_neg a2
  by_cases a3 : nm b l p 14 = true
  · have e : fct b l p = 3 := by
      unfold fct
      rw [if_neg a0, if_neg a1, if_neg a2, if_pos a3]
    have w := bI_t a3
    have v : rI (fct b l p) 6 = 3 := by rw [e]; rfl
    have x : (if fct b l p < 6 then te b l p else p) = te b l p := if_pos (by omega)
    have y : nmA b l p 14 = te b l p := if_pos a3
    rw [x]
    simp only [s194_0, s194_1, s194_4, s194_7, s194_10, s194_11, s194_14, s194_15, s194_18, s194_21, s194_24, s194_25, s194_28, s194_29, s194_32, s194_35, s194_38, s194_39, s194_42, s194_43, s194_46, s194_49, s194_52, s194_53, s194_56, s194_57, s194_60, s194_63, s194_66, s194_67, s194_70, s194_71, s194_74, s194_77, s194_80, s194_81, s194_84, s194_85, k_160 hS, k_161 hS, l_161 hS, k_162 hS, l_162 hS, k_163 hS, l_163 hS, k_164 hS, l_164 hS, k_165 hS, l_165 hS, k_166 hS, l_166 hS, k_167 hS, l_167 hS, k_168 hS, l_168 hS, k_169 hS, l_169 hS, k_170 hS, l_170 hS, k_171 hS, l_171 hS, k_172 hS, l_172 hS, k_173 hS, l_173 hS, k_174 hS, l_174 hS, k_175 hS, l_175 hS, k_176 hS, l_176 hS, k_177 hS, l_177 hS, k_178 hS, l_178 hS, k_179 hS, l_179 hS, k_180 hS, l_180 hS, k_181 hS, l_181 hS, k_182 hS, l_182 hS, k_183 hS, l_183 hS, k_184 hS, l_184 hS, k_185 hS, l_185 hS, k_186 hS, l_186 hS, k_187 hS, l_187 hS, k_188 hS, l_188 hS, k_189 hS, l_189 hS, k_190 hS, l_190 hS, k_191 hS, l_191 hS, k_192 hS, l_192 hS, k_193 hS, l_193 hS, k_194 hS, l_194 hS, k_195 hS, l_195 hS, k_196 hS, l_196 hS, k_197 hS, l_197 hS, k_198 hS, l_198 hS, k_199 hS, l_199 hS, k_200 hS, l_200 hS, k_201 hS, l_201 hS, k_202 hS, l_202 hS, k_203 hS, l_203 hS, k_204 hS, l_204 hS, k_205 hS, l_205 hS, k_206 hS, l_206 hS, k_207 hS, l_207 hS, k_208 hS, l_208 hS, k_209 hS, l_209 hS, k_210 hS, l_210 hS, k_211 hS, l_211 hS, k_212 hS, l_212 hS, k_213 hS, l_213 hS, k_214 hS, l_214 hS, k_215 hS, l_215 hS, k_216 hS, l_216 hS, k_217 hS, l_217 hS, k_218 hS, l_218 hS, k_219 hS, l_219 hS, k_220 hS, l_220 hS, r_160_0 hS, r_160_1 hS, r_160_2 hS, r_160_3 hS, r_160_4 hS, r_160_5 hS, r_160_6 hS, r_160_7 hS, r_160_8 hS, r_160_9 hS, r_160_10 hS, r_160_11 hS, r_160_12 hS, r_160_13 hS, r_160_14 hS, r_160_15 hS, r_160_16 hS, r_160_17 hS, r_160_18 hS, r_160_19 hS, r_160_20 hS, r_160_21 hS, r_160_22 hS, r_160_23 hS, r_160_24 hS, r_160_25 hS, r_160_26 hS, r_160_27 hS, r_160_28 hS, r_160_29 hS, r_160_30 hS, r_160_31 hS, r_160_32 hS, r_160_33 hS, r_160_34 hS, r_160_35 hS, r_160_36 hS, r_160_37 hS, r_160_38 hS, r_160_39 hS, r_160_40 hS, r_160_41 hS, r_160_43 hS, r_160_45 hS, r_160_46 hS, r_160_48 hS, r_160_49 hS, r_160_50 hS, r_160_51 hS, r_160_52 hS, r_160_53 hS, r_160_54 hS, r_160_56 hS, r_160_63 hS, r_160_64 hS, r_160_65 hS, r_160_66 hS, r_160_67 hS, r_160_68 hS, r_160_69 hS, ol_s, ol_n, ln_0, ln_1, ln_2, ln_3, ln_4, eq_self, rf_s, rf_n, i01_0, i01_n0, i01_b, b01_0, b01_1, and_self, and_true, true_and, and_false, false_and, if_true, if_false, not_true_eq_false, not_false_eq_true, e10, e00, lt_bg, Nat.reduceLT, Nat.reduceLeDiff, N0, N1, N2, N3, f0, g0, f1, g1, f2, g2, w, v, y]
  have f3 : bI (nm b l p 14) = 0 := if_neg a3
  have g3 : nmA b l p 14 = p := if_neg a3
  by_cases a4 : nm b l p 15 = true
  · have e : fct b l p = 4 := by
      unfold fct
      rw [if_neg a0, if_neg a1, if_neg a2, if_neg a3, if_pos a4]
    have w := bI_t a4
    have v : rI (fct b l p) 6 = 4 := by rw [e]; rfl
    have x : (if fct b l p < 6 then te b l p else p) = te b l p := if_pos (by omega)
    have y : nmA b l p 15 = te b l p := if_pos a4
    rw [x]
    simp only [s194_0, s194_1, s194_4, s194_7, s194_10, s194_11, s194_14, s194_15, s194_18, s194_21, s194_24, s194_25, s194_28, s194_29, s194_32, s194_35, s194_38, s194_39, s194_42, s194_43, s194_46, s194_49, s194_52, s194_53, s194_56, s194_57, s194_60, s194_63, s194_66, s194_67, s194_70, s194_71, s194_74, s194_77, s194_80, s194_81, s194_84, s194_85, k_160 hS, k_161 hS, l_161 hS, k_162 hS, l_162 hS, k_163 hS, l_163 hS, k_164 hS, l_164 hS, k_165 hS, l_165 hS, k_166 hS, l_166 hS, k_167 hS, l_167 hS, k_168 hS, l_168 hS, k_169 hS, l_169 hS, k_170 hS, l_170 hS, k_171 hS, l_171 hS, k_172 hS, l_172 hS, k_173 hS, l_173 hS, k_174 hS, l_174 hS, k_175 hS, l_175 hS, k_176 hS, l_176 hS, k_177 hS, l_177 hS, k_178 hS, l_178 hS, k_179 hS, l_179 hS, k_180 hS, l_180 hS, k_181 hS, l_181 hS, k_182 hS, l_182 hS, k_183 hS, l_183 hS, k_184 hS, l_184 hS, k_185 hS, l_185 hS, k_186 hS, l_186 hS, k_187 hS, l_187 hS, k_188 hS, l_188 hS, k_189 hS, l_189 hS, k_190 hS, l_190 hS, k_191 hS, l_191 hS, k_192 hS, l_192 hS, k_193 hS, l_193 hS, k_194 hS, l_194 hS, k_195 hS, l_195 hS, k_196 hS, l_196 hS, k_197 hS, l_197 hS, k_198 hS, l_198 hS, k_199 hS, l_199 hS, k_200 hS, l_200 hS, k_201 hS, l_201 hS, k_202 hS, l_202 hS, k_203 hS, l_203 hS, k_204 hS, l_204 hS, k_205 hS, l_205 hS, k_206 hS, l_206 hS, k_207 hS, l_207 hS, k_208 hS, l_208 hS, k_209 hS, l_209 hS, k_210 hS, l_210 hS, k_211 hS, l_211 hS, k_212 hS, l_212 hS, k_213 hS, l_213 hS, k_214 hS, l_214 hS, k_215 hS, l_215 hS, k_216 hS, l_216 hS, k_217 hS, l_217 hS, k_218 hS, l_218 hS, k_219 hS, l_219 hS, k_220 hS, l_220 hS, r_160_0 hS, r_160_1 hS, r_160_2 hS, r_160_3 hS, r_160_4 hS, r_160_5 hS, r_160_6 hS, r_160_7 hS, r_160_8 hS, r_160_9 hS, r_160_10 hS, r_160_11 hS, r_160_12 hS, r_160_13 hS, r_160_14 hS, r_160_15 hS, r_160_16 hS, r_160_17 hS, r_160_18 hS, r_160_19 hS, r_160_20 hS, r_160_21 hS, r_160_22 hS, r_160_23 hS, r_160_24 hS, r_160_25 hS, r_160_26 hS, r_160_27 hS, r_160_28 hS, r_160_29 hS, r_160_30 hS, r_160_31 hS, r_160_32 hS, r_160_33 hS, r_160_34 hS, r_160_35 hS, r_160_36 hS, r_160_37 hS, r_160_38 hS, r_160_39 hS, r_160_40 hS, r_160_41 hS, r_160_43 hS, r_160_45 hS, r_160_46 hS, r_160_48 hS, r_160_49 hS, r_160_50 hS, r_160_51 hS, r_160_52 hS, r_160_53 hS, r_160_54 hS, r_160_56 hS, r_160_63 hS, r_160_64 hS, r_160_65 hS, r_160_66 hS, r_160_67 hS, r_160_68 hS, r_160_69 hS, ol_s, ol_n, ln_0, ln_1, ln_2, ln_3, ln_4, eq_self, rf_s, rf_n, i01_0, i01_n0, i01_b, b01_0, b01_1, and_self, and_true, true_and, and_false, false_and, if_true, if_false, not_true_eq_false, not_false_eq_true, e10, e00, lt_bg, Nat.reduceLT, Nat.reduceLeDiff, N0, N1, N2, N3, N4, f0, g0, f1, g1, f2, g2, f3, g3, w, v, y]
  have f4 : bI (nm b l p 15) = 0 := if_neg a4
  have g4 : nmA b l p 15 = p := if_neg a4
  by_cases a5 : nm b l p 16 = true
  · have e : fct b l p = 5 := by
      unfold fct
      rw [if_neg a0, if_neg a1, if_neg a2, if_neg a3, if_neg a4, if_pos a5]
    have w := bI_t a5
    have v : rI (fct b l p) 6 = 5 := by rw [e]; rfl
    have x : (if fct b l p < 6 then te b l p else p) = te b l p := if_pos (by omega)
    have y : nmA b l p 16 = te b l p := if_pos a5
    rw [x]
    simp only [s194_0, s194_1, s194_4, s194_7, s194_10, s194_11, s194_14, s194_15, s194_18, s194_21, s194_24, s194_25, s194_28, s194_29, s194_32, s194_35, s194_38, s194_39, s194_42, s194_43, s194_46, s194_49, s194_52, s194_53, s194_56, s194_57, s194_60, s194_63, s194_66, s194_67, s194_70, s194_71, s194_74, s194_77, s194_80, s194_81, s194_84, s194_85, k_160 hS, k_161 hS, l_161 hS, k_162 hS, l_162 hS, k_163 hS, l_163 hS, k_164 hS, l_164 hS, k_165 hS, l_165 hS, k_166 hS, l_166 hS, k_167 hS, l_167 hS, k_168 hS, l_168 hS, k_169 hS, l_169 hS, k_170 hS, l_170 hS, k_171 hS, l_171 hS, k_172 hS, l_172 hS, k_173 hS, l_173 hS, k_174 hS, l_174 hS, k_175 hS, l_175 hS, k_176 hS, l_176 hS, k_177 hS, l_177 hS, k_178 hS, l_178 hS, k_179 hS, l_179 hS, k_180 hS, l_180 hS, k_181 hS, l_181 hS, k_182 hS, l_182 hS, k_183 hS, l_183 hS, k_184 hS, l_184 hS, k_185 hS, l_185 hS, k_186 hS, l_186 hS, k_187 hS, l_187 hS, k_188 hS, l_188 hS, k_189 hS, l_189 hS, k_190 hS, l_190 hS, k_191 hS, l_191 hS, k_192 hS, l_192 hS, k_193 hS, l_193 hS, k_194 hS, l_194 hS, k_195 hS, l_195 hS, k_196 hS, l_196 hS, k_197 hS, l_197 hS, k_198 hS, l_198 hS, k_199 hS, l_199 hS, k_200 hS, l_200 hS, k_201 hS, l_201 hS, k_202 hS, l_202 hS, k_203 hS, l_203 hS, k_204 hS, l_204 hS, k_205 hS, l_205 hS, k_206 hS, l_206 hS, k_207 hS, l_207 hS, k_208 hS, l_208 hS, k_209 hS, l_209 hS, k_210 hS, l_210 hS, k_211 hS, l_211 hS, k_212 hS, l_212 hS, k_213 hS, l_213 hS, k_214 hS, l_214 hS, k_215 hS, l_215 hS, k_216 hS, l_216 hS, k_217 hS, l_217 hS, k_218 hS, l_218 hS, k_219 hS, l_219 hS, k_220 hS, l_220 hS, r_160_0 hS, r_160_1 hS, r_160_2 hS, r_160_3 hS, r_160_4 hS, r_160_5 hS, r_160_6 hS, r_160_7 hS, r_160_8 hS, r_160_9 hS, r_160_10 hS, r_160_11 hS, r_160_12 hS, r_160_13 hS, r_160_14 hS, r_160_15 hS, r_160_16 hS, r_160_17 hS, r_160_18 hS, r_160_19 hS, r_160_20 hS, r_160_21 hS, r_160_22 hS, r_160_23 hS, r_160_24 hS, r_160_25 hS, r_160_26 hS, r_160_27 hS, r_160_28 hS, r_160_29 hS, r_160_30 hS, r_160_31 hS, r_160_32 hS, r_160_33 hS, r_160_34 hS, r_160_35 hS, r_160_36 hS, r_160_37 hS, r_160_38 hS, r_160_39 hS, r_160_40 hS, r_160_41 hS, r_160_43 hS, r_160_45 hS, r_160_46 hS, r_160_48 hS, r_160_49 hS, r_160_50 hS, r_160_51 hS, r_160_52 hS, r_160_53 hS, r_160_54 hS, r_160_56 hS, r_160_63 hS, r_160_64 hS, r_160_65 hS, r_160_66 hS, r_160_67 hS, r_160_68 hS, r_160_69 hS, ol_s, ol_n, ln_0, ln_1, ln_2, ln_3, ln_4, eq_self, rf_s, rf_n, i01_0, i01_n0, i01_b, b01_0, b01_1, and_self, and_true, true_and, and_false, false_and, if_true, if_false, not_true_eq_false, not_false_eq_true, e10, e00, lt_bg, Nat.reduceLT, Nat.reduceLeDiff, N0, N1, N2, N3, N4, N5, f0, g0, f1, g1, f2, g2, f3, g3, f4, g4, w, v, y]
  have f5 : bI (nm b l p 16) = 0 := if_neg a5
  have g5 : nmA b l p 16 = p := if_neg a5
  have e : fct b l p = 6 := by
    unfold fct
    rw [if_neg a0, if_neg a1, if_neg a2, if_neg a3, if_neg a4, if_neg a5]
  have v : rI (fct b l p) 6 = -1 := by rw [e]; rfl
  have x : (if fct b l p < 6 then te b l p else p) = p := if_neg (by omega)
  rw [x]
  simp only [s194_0, s194_1, s194_4, s194_7, s194_10, s194_11, s194_14, s194_15, s194_18, s194_21, s194_24, s194_25, s194_28, s194_29, s194_32, s194_35, s194_38, s194_39, s194_42, s194_43, s194_46, s194_49, s194_52, s194_53, s194_56, s194_57, s194_60, s194_63, s194_66, s194_67, s194_70, s194_71, s194_74, s194_77, s194_80, s194_81, s194_84, s194_85, k_160 hS, k_161 hS, l_161 hS, k_162 hS, l_162 hS, k_163 hS, l_163 hS, k_164 hS, l_164 hS, k_165 hS, l_165 hS, k_166 hS, l_166 hS, k_167 hS, l_167 hS, k_168 hS, l_168 hS, k_169 hS, l_169 hS, k_170 hS, l_170 hS, k_171 hS, l_171 hS, k_172 hS, l_172 hS, k_173 hS, l_173 hS, k_174 hS, l_174 hS, k_175 hS, l_175 hS, k_176 hS, l_176 hS, k_177 hS, l_177 hS, k_178 hS, l_178 hS, k_179 hS, l_179 hS, k_180 hS, l_180 hS, k_181 hS, l_181 hS, k_182 hS, l_182 hS, k_183 hS, l_183 hS, k_184 hS, l_184 hS, k_185 hS, l_185 hS, k_186 hS, l_186 hS, k_187 hS, l_187 hS, k_188 hS, l_188 hS, k_189 hS, l_189 hS, k_190 hS, l_190 hS, k_191 hS, l_191 hS, k_192 hS, l_192 hS, k_193 hS, l_193 hS, k_194 hS, l_194 hS, k_195 hS, l_195 hS, k_196 hS, l_196 hS, k_197 hS, l_197 hS, k_198 hS, l_198 hS, k_199 hS, l_199 hS, k_200 hS, l_200 hS, k_201 hS, l_201 hS, k_202 hS, l_202 hS, k_203 hS, l_203 hS, k_204 hS, l_204 hS, k_205 hS, l_205 hS, k_206 hS, l_206 hS, k_207 hS, l_207 hS, k_208 hS, l_208 hS, k_209 hS, l_209 hS, k_210 hS, l_210 hS, k_211 hS, l_211 hS, k_212 hS, l_212 hS, k_213 hS, l_213 hS, k_214 hS, l_214 hS, k_215 hS, l_215 hS, k_216 hS, l_216 hS, k_217 hS, l_217 hS, k_218 hS, l_218 hS, k_219 hS, l_219 hS, k_220 hS, l_220 hS, r_160_0 hS, r_160_1 hS, r_160_2 hS, r_160_3 hS, r_160_4 hS, r_160_5 hS, r_160_6 hS, r_160_7 hS, r_160_8 hS, r_160_9 hS, r_160_10 hS, r_160_11 hS, r_160_12 hS, r_160_13 hS, r_160_14 hS, r_160_15 hS, r_160_16 hS, r_160_17 hS, r_160_18 hS, r_160_19 hS, r_160_20 hS, r_160_21 hS, r_160_22 hS, r_160_23 hS, r_160_24 hS, r_160_25 hS, r_160_26 hS, r_160_27 hS, r_160_28 hS, r_160_29 hS, r_160_30 hS, r_160_31 hS, r_160_32 hS, r_160_33 hS, r_160_34 hS, r_160_35 hS, r_160_36 hS, r_160_37 hS, r_160_38 hS, r_160_39 hS, r_160_40 hS, r_160_41 hS, r_160_43 hS, r_160_45 hS, r_160_46 hS, r_160_48 hS, r_160_49 hS, r_160_50 hS, r_160_51 hS, r_160_52 hS, r_160_53 hS, r_160_54 hS, r_160_56 hS, r_160_63 hS, r_160_64 hS, r_160_65 hS, r_160_66 hS, r_160_67 hS, r_160_68 hS, r_160_69 hS, ol_s, ol_n, ln_0, ln_1, ln_2, ln_3, ln_4, eq_self, rf_s, rf_n, i01_0, i01_n0, i01_b, b01_0, b01_1, and_self, and_true, true_and, and_false, false_and, if_true, if_false, not_true_eq_false, not_false_eq_true, e10, e00, lt_bg, Nat.reduceLT, Nat.reduceLeDiff, N0, N1, N2, N3, N4, N5, f0, g0, f1, g1, f2, g2, f3, g3, f4, g4, f5, g5, v]
/-- the reference looks at the token at p, with o brackets open and n words written -/
def RX (b : Nat → Nat) (l p o ver n : Nat) (σ : am_I) : Prop := TR b l σ ∧ (∃ a, a ≤ l ∧ σ 160 57 = nI a ∧ sk b l a = p) ∧ σ 160 58 = -1 ∧ σ 160 59 = nI o ∧ σ 160 60 = nI ver ∧ σ 160 61 = nI n
/-- what the reference's reading of a piece leaves -/
def RR (b : Nat → Nat) (l ver : Nat) (σ σ' : am_I) (n o : Nat) (r : Rs) : Prop :=
  ((∀ z, z ≠ 160 → z ≠ 187 → σ' z = σ z) ∧ (∀ k, k < 57 ∨ 62 < k → σ' 160 k = σ 160 k) ∧ (∀ k, k < 256 * ver + n → σ' 187 k = σ 187 k) ∧ σ' 160 60 = nI ver) ∧
  (r.1 = true → (∃ a, a ≤ l ∧ σ' 160 57 = nI a ∧ sk b l a = r.2.1) ∧ σ' 160 58 = -1 ∧ σ' 160 59 = nI o ∧ σ' 160 61 = nI (n + r.2.2.length) ∧ ∀ k, k < r.2.2.length → σ' 187 (256 * ver + n + k) = nI (tk_M (r.2.2.getD k tk_no))) ∧
  (r.1 = false → σ' 160 58 = nI r.2.1)
theorem RR.tr {b : Nat → Nat} {l ver n o : Nat} {σ' : am_I} {r : Rs} (h : RR b l ver σ σ' n o r) (hT : TR b l σ) : TR b l σ' := hT.cg (h.1.2.1 44 (Or.inl (by decide))) (h.1.1 203 (by decide) (by decide))
theorem RR.bg {b : Nat → Nat} {l ver n o : Nat} {σ' : am_I} {r : Rs} (h : RR b l ver σ σ' n o r) (hb : Bgd σ τ) : Bgd σ' τ := hb.cg (fun y hy => h.1.1 y (by omega) (by omega))
theorem RR.rx {b : Nat → Nat} {l ver n o p : Nat} {σ' : am_I} {r : Rs} (h : RR b l ver σ σ' n o r) (hr : r.1 = true) (hx : RX b l p o ver n σ) : RX b l r.2.1 o ver (n + r.2.2.length) σ' := by
  obtain ⟨y1, y2, y3, y4, y5⟩ := h.2.1 hr
  exact ⟨h.tr hx.1, y1, y2, y3, h.1.2.2.2, y4⟩
theorem RR.refl {b : Nat → Nat} {l ver n o p : Nat} (hx : RX b l p o ver n σ) : RR b l ver σ σ n o (true, p, []) := by
  obtain ⟨x1, x2, x3, x4, x5, x6⟩ := hx
  exact ⟨⟨fun _ _ _ => rfl, fun _ _ => rfl, fun _ _ => rfl, x5⟩, fun _ => ⟨x2, x3, x4, x6, fun k hk => absurd hk (Nat.not_lt_zero _)⟩, fun z => absurd z (by show ¬ (true = false); decide)⟩
theorem RR.fail {b : Nat → Nat} {l ver n o : Nat} {σ' : am_I} {r : Rs} (h : RR b l ver σ σ' n o r) (hr : ¬ r.1 = true) : RR b l ver σ σ' n o (false, r.2.1, []) := by
  refine ⟨h.1, fun z => absurd z (by show ¬ (false = true); decide), fun _ => h.2.2 ?_⟩
  cases z : r.1
  · rfl
  · exact absurd z hr
theorem RR.mv {b : Nat → Nat} {l ver n o a p : Nat} {σ' : am_I} {r : Rs} (h : RR b l ver σ σ' n o r) (hr : r.1 = true) (ha : a ≤ l) (hp : sk b l a = p) : RR b l ver σ (am_u σ' 160 57 (nI a)) n o (true, p, r.2.2) := by
  obtain ⟨⟨h1, h2, h3, h4⟩, h5, _⟩ := h
  obtain ⟨y1, y2, y3, y4, y5⟩ := h5 hr
  refine ⟨⟨fun z z1 z2 => ?_, fun k hk => ?_, fun k hk => ?_, ?_⟩, fun _ => ⟨⟨a, ha, u_at _ _ _ _, hp⟩, ?_, ?_, ?_, fun k hk => ?_⟩, fun z => absurd z (by show ¬ (true = false); decide)⟩
  · rw [u_ne _ _ _ _ z1]
    exact h1 z z1 z2
  · rw [u_nk _ _ _ _ (by omega)]
    exact h2 k hk
  · rw [u_ne _ _ _ _ (by decide)]
    exact h3 k hk
  · rw [u_nk _ _ _ _ (by decide)]
    exact h4
  · rw [u_nk _ _ _ _ (by decide)]
    exact y2
  · rw [u_nk _ _ _ _ (by decide)]
    exact y3
  · rw [u_nk _ _ _ _ (by decide)]
    exact y4
  · rw [u_ne _ _ _ _ (by decide)]
    exact y5 k hk
theorem RR.op {b : Nat → Nat} {l ver n o o' : Nat} {σ' : am_I} {r : Rs} (h : RR b l ver σ σ' n o r) (hr : r.1 = true) : RR b l ver σ (am_u σ' 160 59 (nI o')) n o' r := by
  obtain ⟨⟨h1, h2, h3, h4⟩, h5, _⟩ := h
  obtain ⟨⟨a, a1, a2, a3⟩, y2, y3, y4, y5⟩ := h5 hr
  refine ⟨⟨fun z z1 z2 => ?_, fun k hk => ?_, fun k hk => ?_, ?_⟩, fun _ => ⟨⟨a, a1, ?_, a3⟩, ?_, u_at _ _ _ _, ?_, fun k hk => ?_⟩, fun z => absurd (hr.symm.trans z) (by decide)⟩
  · rw [u_ne _ _ _ _ z1]
    exact h1 z z1 z2
  · rw [u_nk _ _ _ _ (by omega)]
    exact h2 k hk
  · rw [u_ne _ _ _ _ (by decide)]
    exact h3 k hk
  · rw [u_nk _ _ _ _ (by decide)]
    exact h4
  · rw [u_nk _ _ _ _ (by decide)]
    exact a2
  · rw [u_nk _ _ _ _ (by decide)]
    exact y2
  · rw [u_nk _ _ _ _ (by decide)]
    exact y4
  · rw [u_ne _ _ _ _ (by decide)]
    exact y5 k hk
theorem RR.num {b : Nat → Nat} {l ver n o : Nat} {v : Int32} {σ' : am_I} {r : Rs} (h : RR b l ver σ σ' n o r) (hr : r.1 = true) : RR b l ver σ (am_u σ' 160 62 v) n o r := by
  obtain ⟨⟨h1, h2, h3, h4⟩, h5, _⟩ := h
  obtain ⟨⟨a, a1, a2, a3⟩, y2, y3, y4, y5⟩ := h5 hr
  refine ⟨⟨fun z z1 z2 => ?_, fun k hk => ?_, fun k hk => ?_, ?_⟩, fun _ => ⟨⟨a, a1, ?_, a3⟩, ?_, ?_, ?_, fun k hk => ?_⟩, fun z => absurd (hr.symm.trans z) (by decide)⟩
  · rw [u_ne _ _ _ _ z1]
    exact h1 z z1 z2
  · rw [u_nk _ _ _ _ (by omega)]
    exact h2 k hk
  · rw [u_ne _ _ _ _ (by decide)]
    exact h3 k hk
  · rw [u_nk _ _ _ _ (by decide)]
    exact h4
  · rw [u_nk _ _ _ _ (by decide)]
    exact a2
  · rw [u_nk _ _ _ _ (by decide)]
    exact y2
  · rw [u_nk _ _ _ _ (by decide)]
    exact y3
  · rw [u_nk _ _ _ _ (by decide)]
    exact y4
  · rw [u_ne _ _ _ _ (by decide)]
    exact y5 k hk
theorem RR.bad {b : Nat → Nat} {l ver n o q : Nat} {x : Int32} {σ' : am_I} {r : Rs} (h : RR b l ver σ σ' n o r) : RR b l ver σ (am_u (am_u σ' 160 57 x) 160 58 (nI q)) n o (false, q, []) := by
  obtain ⟨⟨h1, h2, h3, h4⟩, _, _⟩ := h
  refine ⟨⟨fun z z1 z2 => ?_, fun k hk => ?_, fun k hk => ?_, ?_⟩, fun z => absurd z (by show ¬ (false = true); decide), fun _ => u_at _ _ _ _⟩
  · rw [u_ne _ _ _ _ z1, u_ne _ _ _ _ z1]
    exact h1 z z1 z2
  · rw [u_nk _ _ _ _ (by omega), u_nk _ _ _ _ (by omega)]
    exact h2 k hk
  · rw [u_ne _ _ _ _ (by decide), u_ne _ _ _ _ (by decide)]
    exact h3 k hk
  · rw [u_nk _ _ _ _ (by decide), u_nk _ _ _ _ (by decide)]
    exact h4
theorem RR.push {b : Nat → Nat} {l ver n o : Nat} {σ' : am_I} {r : Rs} {t : Tk} (h : RR b l ver σ σ' n o r) (hr : r.1 = true) : RR b l ver σ (am_u (am_u σ' 187 (256 * ver + (n + r.2.2.length)) (nI (tk_M t))) 160 61 (nI (n + r.2.2.length + 1))) n o (true, r.2.1, r.2.2 ++ [t]) := by
  obtain ⟨⟨h1, h2, h3, h4⟩, h5, _⟩ := h
  obtain ⟨⟨a, a1, a2, a3⟩, y2, y3, y4, y5⟩ := h5 hr
  refine ⟨⟨fun z z1 z2 => ?_, fun k hk => ?_, fun k hk => ?_, ?_⟩, fun _ => ⟨⟨a, a1, ?_, a3⟩, ?_, ?_, ?_, fun k hk => ?_⟩, fun z => absurd z (by show ¬ (true = false); decide)⟩
  · rw [u_ne _ _ _ _ z1, u_ne _ _ _ _ z2]
    exact h1 z z1 z2
  · rw [u_nk _ _ _ _ (by omega), u_ne _ _ _ _ (by decide)]
    exact h2 k hk
  · rw [u_ne _ _ _ _ (by decide), u_nk _ _ _ _ (by omega)]
    exact h3 k hk
  · rw [u_nk _ _ _ _ (by decide), u_ne _ _ _ _ (by decide)]
    exact h4
  · rw [u_nk _ _ _ _ (by decide), u_ne _ _ _ _ (by decide)]
    exact a2
  · rw [u_nk _ _ _ _ (by decide), u_ne _ _ _ _ (by decide)]
    exact y2
  · rw [u_nk _ _ _ _ (by decide), u_ne _ _ _ _ (by decide)]
    exact y3
  · rw [u_at]
    show _ = nI (n + (r.2.2 ++ [t]).length)
    rw [List.length_append]
    rfl
  · have hk : k < (r.2.2 ++ [t]).length := hk
    rw [List.length_append] at hk
    have hk : k < r.2.2.length + 1 := hk
    show am_u (am_u σ' 187 (256 * ver + (n + r.2.2.length)) (nI (tk_M t))) 160 61 (nI (n + r.2.2.length + 1)) 187 (256 * ver + n + k) = nI (tk_M ((r.2.2 ++ [t]).getD k tk_no))
    rw [u_ne _ _ _ _ (by decide)]
    by_cases q : k = r.2.2.length
    · rw [q, show 256 * ver + n + r.2.2.length = 256 * ver + (n + r.2.2.length) by omega, u_at, gD_r (Nat.le_refl _), Nat.sub_self]
      rfl
    · rw [u_nk _ _ _ _ (by omega), gD_l (by omega)]
      exact y5 k (by omega)
theorem RR.seq {b : Nat → Nat} {l ver n o o1 : Nat} {s s2 : am_I} {r r2 : Rs} (h : RR b l ver σ s n o1 r) (hr : r.1 = true) (h2 : RR b l ver s s2 (n + r.2.2.length) o r2) : RR b l ver σ s2 n o (r2.1, r2.2.1, r.2.2 ++ r2.2.2) := by
  obtain ⟨⟨h1, h2', h3, h4⟩, h5, _⟩ := h
  obtain ⟨y1, y2, y3, y4, y5⟩ := h5 hr
  obtain ⟨⟨k1, k2, k3, k4⟩, k5, k6⟩ := h2
  refine ⟨⟨fun z z1 z2 => by rw [k1 z z1 z2, h1 z z1 z2], fun k hk => by rw [k2 k hk, h2' k hk], fun k hk => by rw [k3 k (by omega), h3 k hk], k4⟩, fun q => ?_, k6⟩
  obtain ⟨x1, x2, x3, x4, x5⟩ := k5 q
  refine ⟨x1, x2, x3, ?_, fun k hk => ?_⟩
  · rw [x4]
    show _ = nI (n + (r.2.2 ++ r2.2.2).length)
    rw [List.length_append, Nat.add_assoc]
  · have hk : k < (r.2.2 ++ r2.2.2).length := hk
    rw [List.length_append] at hk
    show s2 187 (256 * ver + n + k) = nI (tk_M ((r.2.2 ++ r2.2.2).getD k tk_no))
    by_cases q : k < r.2.2.length
    · rw [k3 _ (by omega), gD_l q]
      exact y5 k q
    · rw [gD_r (by omega)]
      have x := x5 (k - r.2.2.length) (by omega)
      rw [show 256 * ver + (n + r.2.2.length) + (k - r.2.2.length) = 256 * ver + n + k by omega] at x
      exact x
end ODA
