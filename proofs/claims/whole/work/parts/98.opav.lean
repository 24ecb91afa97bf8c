/-! statutes: the first line that holds -/
section OAV
variable {d : Nat} {σ : am_I} {ρ : am_R} {g : am_J} {τ : am_T} {Q : am_Q}
theorem firstL (hS : Sh ρ τ) {c : Cn} (hc : Rld 1 161 c σ ρ τ) {m : Nat} (hm : m ≤ 599) {n s la N : Nat} (S : SV σ ρ τ n s la N) (hn : 0 < n) {i : Nat} (hi : i < c 2) {k : Nat} (hk : k ≤ 2) : ∀ q x, x + q = N → ∃ r : Int32, (r = -1 ∨ ∃ y, y < N ∧ r = nI y ∧ σ 182 (10 * (n - 1) + y) = nI k) ∧
    (∀ (σ1 : am_I) (d : Nat) (g : am_J) (Q : am_Q), EqC σ σ1 → AW (d + 2) 69 3 [.ref s, .int (nI k), .ref (34 + 2 * i), .int (nI m), .int (nI x)] [] σ1 ρ g τ Q = Q (some (.int r)) σ1 ρ g τ) ∧
    (∀ (σ1 : am_I) (p : Nat → Int32) (x6 : Value), EqM σ σ1 → ∃ p', ∀ (d : Nat) (g : am_J) (Q : am_Q), AW (d + 2) 206 17 [.ref 160, .int (nI k), .int (nI i), .int (nI m), .int (nI (n - 1)), .int (nI x), x6] [] (am_ur σ1 214 p) ρ g τ Q = Q (some (.int r)) (am_ur σ1 214 p') ρ g τ)
  | 0, x, h => by
    obtain ⟨s1, s2, s3, s4, s5, s6, s7, s8⟩ := S
    obtain ⟨s8, s9⟩ := s8 hn
    have e : x = N := by omega
    subst e
    have ra : 14 ≤ τ.1 la ∧ τ.1 la ≤ 22 := by omega
    have hle : nI x ≤ nI x := Int32.le_refl _
    have hi9 : am_inb (nI (n - 1)) 9 = true := inb_n (by omega) (by decide)
    have hcn : (nI (n - 1)).toNatClampNeg = n - 1 := nI_clamp (by omega)
    refine ⟨-1, Or.inl rfl, fun σ1 d g Q E => ?_, fun σ1 p x6 E => ⟨p, fun d g Q => ?_⟩⟩
    · simp only [s69_3, s69_5, s69_6, s69_9, s69_10, s69_51, s69_52, ol_s, ol_n, ln_0, ln_1, ln_2, ln_3, ln_4, eq_self, rf_s, rf_n, i01_0, i01_n0, i01_b, b01_0, b01_1, and_self, and_true, true_and, and_false, false_and, if_true, if_false, not_true_eq_false, not_false_eq_true, e10, e00, lt_bg, Nat.reduceLT, Nat.reduceLeDiff, s1, s2, s4, ra, hle]
    · have e1 : am_ur σ1 214 p 181 (n - 1) = nI x := by rw [ur_ne _ _ _ (by decide), (E 181 (by omega) (by omega)).1 (by decide)]; exact s8
      simp only [s206_17, s206_19, s206_20, s206_23, s206_25, s206_26, s206_72, s206_73, k_160 hS, k_161 hS, l_161 hS, k_162 hS, l_162 hS, k_163 hS, l_163 hS, k_164 hS, l_164 hS, k_165 hS, l_165 hS, k_166 hS, l_166 hS, k_167 hS, l_167 hS, k_168 hS, l_168 hS, k_169 hS, l_169 hS, k_170 hS, l_170 hS, k_171 hS, l_171 hS, k_172 hS, l_172 hS, k_173 hS, l_173 hS, k_174 hS, l_174 hS, k_175 hS, l_175 hS, k_176 hS, l_176 hS, k_177 hS, l_177 hS, k_178 hS, l_178 hS, k_179 hS, l_179 hS, k_180 hS, l_180 hS, k_181 hS, l_181 hS, k_182 hS, l_182 hS, k_183 hS, l_183 hS, k_184 hS, l_184 hS, k_185 hS, l_185 hS, k_186 hS, l_186 hS, k_187 hS, l_187 hS, k_188 hS, l_188 hS, k_189 hS, l_189 hS, k_190 hS, l_190 hS, k_191 hS, l_191 hS, k_192 hS, l_192 hS, k_193 hS, l_193 hS, k_194 hS, l_194 hS, k_195 hS, l_195 hS, k_196 hS, l_196 hS, k_197 hS, l_197 hS, k_198 hS, l_198 hS, k_199 hS, l_199 hS, k_200 hS, l_200 hS, k_201 hS, l_201 hS, k_202 hS, l_202 hS, k_203 hS, l_203 hS, k_204 hS, l_204 hS, k_205 hS, l_205 hS, k_206 hS, l_206 hS, k_207 hS, l_207 hS, k_208 hS, l_208 hS, k_209 hS, l_209 hS, k_210 hS, l_210 hS, k_211 hS, l_211 hS, k_212 hS, l_212 hS, k_213 hS, l_213 hS, k_214 hS, l_214 hS, k_215 hS, l_215 hS, k_216 hS, l_216 hS, k_217 hS, l_217 hS, k_218 hS, l_218 hS, k_219 hS, l_219 hS, k_220 hS, l_220 hS, r_160_0 hS, r_160_1 hS, r_160_2 hS, r_160_3 hS, r_160_4 hS, r_160_5 hS, r_160_6 hS, r_160_7 hS, r_160_8 hS, r_160_9 hS, r_160_10 hS, r_160_11 hS, r_160_12 hS, r_160_13 hS, r_160_14 hS, r_160_15 hS, r_160_16 hS, r_160_17 hS, r_160_18 hS, r_160_19 hS, r_160_20 hS, r_160_21 hS, r_160_22 hS, r_160_23 hS, r_160_24 hS, r_160_25 hS, r_160_26 hS, r_160_27 hS, r_160_28 hS, r_160_29 hS, r_160_30 hS, r_160_31 hS, r_160_32 hS, r_160_33 hS, r_160_34 hS, r_160_35 hS, r_160_36 hS, r_160_37 hS, r_160_38 hS, r_160_39 hS, r_160_40 hS, r_160_41 hS, r_160_43 hS, r_160_45 hS, r_160_46 hS, r_160_48 hS, r_160_49 hS, r_160_50 hS, r_160_51 hS, r_160_52 hS, r_160_53 hS, r_160_54 hS, r_160_56 hS, r_160_63 hS, r_160_64 hS, r_160_65 hS, r_160_66 hS, r_160_67 hS, r_160_68 hS, r_160_69 hS, ol_s, ol_n, ln_0, ln_1, ln_2, ln_3, ln_4, eq_self, rf_s, rf_n, i01_0, i01_n0, i01_b, b01_0, b01_1, and_self, and_true, true_and, and_false, false_and, if_true, if_false, not_true_eq_false, not_false_eq_true, e10, e00, lt_bg, Nat.reduceLT, Nat.reduceLeDiff, hi9, hcn, e1, hle]
  | q + 1, x, h => by
    obtain ⟨r, R1, R2, R3⟩ := firstL hS hc hm S hn hi hk q (x + 1) (by omega)
    obtain ⟨s1, s2, s3, s4, s5, s6, s7, s8⟩ := S
    obtain ⟨s8, s9⟩ := s8 hn
    obtain ⟨l, w1, w2, w3⟩ := s9 x (by omega)
    have b := hc.bn
    unfold Bn at b
    have ra : 14 ≤ τ.1 la ∧ τ.1 la ≤ 22 := by omega
    have rb : 18 ≤ τ.1 la ∧ τ.1 la ≤ 22 := by omega
    have hlt : ¬ nI N ≤ nI x := nI_ge (by omega) (by omega)
    have hi9 : am_inb (nI (n - 1)) 9 = true := inb_n (by omega) (by decide)
    have hcn : (nI (n - 1)).toNatClampNeg = n - 1 := nI_clamp (by omega)
    have hix : am_inb (nI x) N = true := inb_n (by omega) (by omega)
    have hcx : (nI x).toNatClampNeg = x := nI_clamp (by omega)
    have hij : am_inb (nI (10 * (n - 1) + x)) 90 = true := inb_n (by omega) (by decide)
    have hcj : (nI (10 * (n - 1) + x)).toNatClampNeg = 10 * (n - 1) + x := nI_clamp (by omega)
    have m10 : (10 : Int32) * nI (n - 1) = nI (10 * (n - 1)) := nI_mulL 10 (n - 1)
    have tl : τ.1 l = 5 := w3.1
    obtain ⟨so, hso, o1, o2⟩ := w3.2.1
    have o2 : σ 182 (10 * (n - 1) + x) = nI so := o2
    have k_db' : τ.1 (34 + 2 * i) = 1 := k_db hS (by omega)
    by_cases z : so = k
    · subst z
      obtain ⟨t, T1, T2⟩ := hold_of hS w3 w2 (by omega) (by omega) (by omega) (hc.db i hi) hm
      cases t
      · have y0 : b2i false = 0 := by decide
        rw [y0] at T1 T2
        refine ⟨r, R1, fun σ1 d g Q E => ?_, fun σ1 p x6 E => ?_⟩
        · have e0 : σ1 l 0 = nI so := by rw [E l (Or.inr w2)]; exact o1
          rw [s69_3]
          simp only [s69_5, s69_6, s69_9, s69_10, s69_13, s69_14, s69_17, s69_19, s69_20, s69_23, s69_24, s69_27, s69_28, s69_31, s69_33, s69_34, s69_35, s69_36, s69_39, s69_42, s69_44, s69_45, s69_48, ol_s, ol_n, ln_0, ln_1, ln_2, ln_3, ln_4, eq_self, rf_s, rf_n, i01_0, i01_n0, i01_b, b01_0, b01_1, and_self, and_true, true_and, and_false, false_and, if_true, if_false, not_true_eq_false, not_false_eq_true, e10, e00, lt_bg, Nat.reduceLT, Nat.reduceLeDiff, s1, s2, s3, s4, ra, rb, hlt, hix, hcx, w1, tl, e0, T1 σ1 _ _ _ E, nI_1]
          exact R2 σ1 d g Q E
        · obtain ⟨p1, P1⟩ := T2 σ1 p E
          obtain ⟨p2, P2⟩ := R3 σ1 p1 (.int (nI (10 * (n - 1) + x))) E
          refine ⟨p2, fun d g Q => ?_⟩
          have e1 : am_ur σ1 214 p 181 (n - 1) = nI N := by rw [ur_ne _ _ _ (by decide), (E 181 (by omega) (by omega)).1 (by decide)]; exact s8
          have e2 : am_ur σ1 214 p 182 (10 * (n - 1) + x) = nI so := by rw [ur_ne _ _ _ (by decide), (E 182 (by omega) (by omega)).1 (by decide)]; exact o2
          rw [s206_17]
          simp only [s206_19, s206_20, s206_23, s206_25, s206_26, s206_29, s206_31, s206_33, s206_34, s206_36, s206_37, s206_39, s206_40, s206_43, s206_45, s206_46, s206_47, s206_50, s206_51, s206_53, s206_55, s206_56, s206_57, s206_60, s206_63, s206_65, s206_66, s206_69, k_160 hS, k_161 hS, l_161 hS, k_162 hS, l_162 hS, k_163 hS, l_163 hS, k_164 hS, l_164 hS, k_165 hS, l_165 hS, k_166 hS, l_166 hS, k_167 hS, l_167 hS, k_168 hS, l_168 hS, k_169 hS, l_169 hS, k_170 hS, l_170 hS, k_171 hS, l_171 hS, k_172 hS, l_172 hS, k_173 hS, l_173 hS, k_174 hS, l_174 hS, k_175 hS, l_175 hS, k_176 hS, l_176 hS, k_177 hS, l_177 hS, k_178 hS, l_178 hS, k_179 hS, l_179 hS, k_180 hS, l_180 hS, k_181 hS, l_181 hS, k_182 hS, l_182 hS, k_183 hS, l_183 hS, k_184 hS, l_184 hS, k_185 hS, l_185 hS, k_186 hS, l_186 hS, k_187 hS, l_187 hS, k_188 hS, l_188 hS, k_189 hS, l_189 hS, k_190 hS, l_190 hS, k_191 hS, l_191 hS, k_192 hS, l_192 hS, k_193 hS, l_193 hS, k_194 hS, l_194 hS, k_195 hS, l_195 hS, k_196 hS, l_196 hS, k_197 hS, l_197 hS, k_198 hS, l_198 hS, k_199 hS, l_199 hS, k_200 hS, l_200 hS, k_201 hS, l_201 hS, k_202 hS, l_202 hS, k_203 hS, l_203 hS, k_204 hS, l_204 hS, k_205 hS, l_205 hS, k_206 hS, l_206 hS, k_207 hS, l_207 hS, k_208 hS, l_208 hS, k_209 hS, l_209 hS, k_210 hS, l_210 hS, k_211 hS, l_211 hS, k_212 hS, l_212 hS, k_213 hS, l_213 hS, k_214 hS, l_214 hS, k_215 hS, l_215 hS, k_216 hS, l_216 hS, k_217 hS, l_217 hS, k_218 hS, l_218 hS, k_219 hS, l_219 hS, k_220 hS, l_220 hS, r_160_0 hS, r_160_1 hS, r_160_2 hS, r_160_3 hS, r_160_4 hS, r_160_5 hS, r_160_6 hS, r_160_7 hS, r_160_8 hS, r_160_9 hS, r_160_10 hS, r_160_11 hS, r_160_12 hS, r_160_13 hS, r_160_14 hS, r_160_15 hS, r_160_16 hS, r_160_17 hS, r_160_18 hS, r_160_19 hS, r_160_20 hS, r_160_21 hS, r_160_22 hS, r_160_23 hS, r_160_24 hS, r_160_25 hS, r_160_26 hS, r_160_27 hS, r_160_28 hS, r_160_29 hS, r_160_30 hS, r_160_31 hS, r_160_32 hS, r_160_33 hS, r_160_34 hS, r_160_35 hS, r_160_36 hS, r_160_37 hS, r_160_38 hS, r_160_39 hS, r_160_40 hS, r_160_41 hS, r_160_43 hS, r_160_45 hS, r_160_46 hS, r_160_48 hS, r_160_49 hS, r_160_50 hS, r_160_51 hS, r_160_52 hS, r_160_53 hS, r_160_54 hS, r_160_56 hS, r_160_63 hS, r_160_64 hS, r_160_65 hS, r_160_66 hS, r_160_67 hS, r_160_68 hS, r_160_69 hS, ol_s, ol_n, ln_0, ln_1, ln_2, ln_3, ln_4, eq_self, rf_s, rf_n, i01_0, i01_n0, i01_b, b01_0, b01_1, and_self, and_true, true_and, and_false, false_and, if_true, if_false, not_true_eq_false, not_false_eq_true, e10, e00, lt_bg, Nat.reduceLT, Nat.reduceLeDiff, hi9, hcn, e1, hlt, m10, nI_add, hij, hcj, e2, P1, nI_1]
          exact P2 d g Q
      · have y0 : b2i true = 1 := by decide
        rw [y0] at T1 T2
        refine ⟨nI x, Or.inr ⟨x, by omega, rfl, o2⟩, fun σ1 d g Q E => ?_, fun σ1 p x6 E => ?_⟩
        · have e0 : σ1 l 0 = nI so := by rw [E l (Or.inr w2)]; exact o1
          rw [s69_3]
          simp only [s69_5, s69_6, s69_9, s69_10, s69_13, s69_14, s69_17, s69_19, s69_20, s69_23, s69_24, s69_27, s69_28, s69_31, s69_33, s69_34, s69_35, s69_36, s69_39, s69_42, s69_44, s69_45, s69_48, ol_s, ol_n, ln_0, ln_1, ln_2, ln_3, ln_4, eq_self, rf_s, rf_n, i01_0, i01_n0, i01_b, b01_0, b01_1, and_self, and_true, true_and, and_false, false_and, if_true, if_false, not_true_eq_false, not_false_eq_true, e10, e00, lt_bg, Nat.reduceLT, Nat.reduceLeDiff, s1, s2, s3, s4, ra, rb, hlt, hix, hcx, w1, tl, e0, T1 σ1 _ _ _ E]
        · obtain ⟨p1, P1⟩ := T2 σ1 p E
          refine ⟨p1, fun d g Q => ?_⟩
          have e1 : am_ur σ1 214 p 181 (n - 1) = nI N := by rw [ur_ne _ _ _ (by decide), (E 181 (by omega) (by omega)).1 (by decide)]; exact s8
          have e2 : am_ur σ1 214 p 182 (10 * (n - 1) + x) = nI so := by rw [ur_ne _ _ _ (by decide), (E 182 (by omega) (by omega)).1 (by decide)]; exact o2
          rw [s206_17]
          simp only [s206_19, s206_20, s206_23, s206_25, s206_26, s206_29, s206_31, s206_33, s206_34, s206_36, s206_37, s206_39, s206_40, s206_43, s206_45, s206_46, s206_47, s206_50, s206_51, s206_53, s206_55, s206_56, s206_57, s206_60, s206_63, s206_65, s206_66, s206_69, k_160 hS, k_161 hS, l_161 hS, k_162 hS, l_162 hS, k_163 hS, l_163 hS, k_164 hS, l_164 hS, k_165 hS, l_165 hS, k_166 hS, l_166 hS, k_167 hS, l_167 hS, k_168 hS, l_168 hS, k_169 hS, l_169 hS, k_170 hS, l_170 hS, k_171 hS, l_171 hS, k_172 hS, l_172 hS, k_173 hS, l_173 hS, k_174 hS, l_174 hS, k_175 hS, l_175 hS, k_176 hS, l_176 hS, k_177 hS, l_177 hS, k_178 hS, l_178 hS, k_179 hS, l_179 hS, k_180 hS, l_180 hS, k_181 hS, l_181 hS, k_182 hS, l_182 hS, k_183 hS, l_183 hS, k_184 hS, l_184 hS, k_185 hS, l_185 hS, k_186 hS, l_186 hS, k_187 hS, l_187 hS, k_188 hS, l_188 hS, k_189 hS, l_189 hS, k_190 hS, l_190 hS, k_191 hS, l_191 hS, k_192 hS, l_192 hS, k_193 hS, l_193 hS, k_194 hS, l_194 hS, k_195 hS, l_195 hS, k_196 hS, l_196 hS, k_197 hS, l_197 hS, k_198 hS, l_198 hS, k_199 hS, l_199 hS, k_200 hS, l_200 hS, k_201 hS, l_201 hS, k_202 hS, l_202 hS, k_203 hS, l_203 hS, k_204 hS, l_204 hS, k_205 hS, l_205 hS, k_206 hS, l_206 hS, k_207 hS, l_207 hS, k_208 hS, l_208 hS, k_209 hS, l_209 hS, k_210 hS, l_210 hS, k_211 hS, l_211 hS, k_212 hS, l_212 hS, k_213 hS, l_213 hS, k_214 hS, l_214 hS, k_215 hS, l_215 hS, k_216 hS, l_216 hS, k_217 hS, l_217 hS, k_218 hS, l_218 hS, k_219 hS, l_219 hS, k_220 hS, l_220 hS, r_160_0 hS, r_160_1 hS, r_160_2 hS, r_160_3 hS, r_160_4 hS, r_160_5 hS, r_160_6 hS, r_160_7 hS, r_160_8 hS, r_160_9 hS, r_160_10 hS, r_160_11 hS, r_160_12 hS, r_160_13 hS, r_160_14 hS, r_160_15 hS, r_160_16 hS, r_160_17 hS, r_160_18 hS, r_160_19 hS, r_160_20 hS, r_160_21 hS, r_160_22 hS, r_160_23 hS, r_160_24 hS, r_160_25 hS, r_160_26 hS, r_160_27 hS, r_160_28 hS, r_160_29 hS, r_160_30 hS, r_160_31 hS, r_160_32 hS, r_160_33 hS, r_160_34 hS, r_160_35 hS, r_160_36 hS, r_160_37 hS, r_160_38 hS, r_160_39 hS, r_160_40 hS, r_160_41 hS, r_160_43 hS, r_160_45 hS, r_160_46 hS, r_160_48 hS, r_160_49 hS, r_160_50 hS, r_160_51 hS, r_160_52 hS, r_160_53 hS, r_160_54 hS, r_160_56 hS, r_160_63 hS, r_160_64 hS, r_160_65 hS, r_160_66 hS, r_160_67 hS, r_160_68 hS, r_160_69 hS, ol_s, ol_n, ln_0, ln_1, ln_2, ln_3, ln_4, eq_self, rf_s, rf_n, i01_0, i01_n0, i01_b, b01_0, b01_1, and_self, and_true, true_and, and_false, false_and, if_true, if_false, not_true_eq_false, not_false_eq_true, e10, e00, lt_bg, Nat.reduceLT, Nat.reduceLeDiff, hi9, hcn, e1, hlt, m10, nI_add, hij, hcj, e2, P1]
    · have z2 : ¬ nI so = nI k := fun e => z ((nI_eq (by omega) (by omega)).mp e)
      refine ⟨r, R1, fun σ1 d g Q E => ?_, fun σ1 p x6 E => ?_⟩
      · have e0 : σ1 l 0 = nI so := by rw [E l (Or.inr w2)]; exact o1
        rw [s69_3]
        simp only [s69_5, s69_6, s69_9, s69_10, s69_13, s69_14, s69_17, s69_19, s69_20, s69_23, s69_24, s69_27, s69_28, s69_31, s69_33, s69_34, s69_35, s69_36, s69_39, s69_42, s69_44, s69_45, s69_48, ol_s, ol_n, ln_0, ln_1, ln_2, ln_3, ln_4, eq_self, rf_s, rf_n, i01_0, i01_n0, i01_b, b01_0, b01_1, and_self, and_true, true_and, and_false, false_and, if_true, if_false, not_true_eq_false, not_false_eq_true, e10, e00, lt_bg, Nat.reduceLT, Nat.reduceLeDiff, s1, s2, s3, s4, ra, rb, hlt, hix, hcx, w1, tl, e0, z2, nI_1]
        exact R2 σ1 d g Q E
      · obtain ⟨p2, P2⟩ := R3 σ1 p (.int (nI (10 * (n - 1) + x))) E
        refine ⟨p2, fun d g Q => ?_⟩
        have e1 : am_ur σ1 214 p 181 (n - 1) = nI N := by rw [ur_ne _ _ _ (by decide), (E 181 (by omega) (by omega)).1 (by decide)]; exact s8
        have e2 : am_ur σ1 214 p 182 (10 * (n - 1) + x) = nI so := by rw [ur_ne _ _ _ (by decide), (E 182 (by omega) (by omega)).1 (by decide)]; exact o2
        rw [s206_17]
        simp only [s206_19, s206_20, s206_23, s206_25, s206_26, s206_29, s206_31, s206_33, s206_34, s206_36, s206_37, s206_39, s206_40, s206_43, s206_45, s206_46, s206_47, s206_50, s206_51, s206_53, s206_55, s206_56, s206_57, s206_60, s206_63, s206_65, s206_66, s206_69, k_160 hS, k_161 hS, l_161 hS, k_162 hS, l_162 hS, k_163 hS, l_163 hS, k_164 hS, l_164 hS, k_165 hS, l_165 hS, k_166 hS, l_166 hS, k_167 hS, l_167 hS, k_168 hS, l_168 hS, k_169 hS, l_169 hS, k_170 hS, l_170 hS, k_171 hS, l_171 hS, k_172 hS, l_172 hS, k_173 hS, l_173 hS, k_174 hS, l_174 hS, k_175 hS, l_175 hS, k_176 hS, l_176 hS, k_177 hS, l_177 hS, k_178 hS, l_178 hS, k_179 hS, l_179 hS, k_180 hS, l_180 hS, k_181 hS, l_181 hS, k_182 hS, l_182 hS, k_183 hS, l_183 hS, k_184 hS, l_184 hS, k_185 hS, l_185 hS, k_186 hS, l_186 hS, k_187 hS, l_187 hS, k_188 hS, l_188 hS, k_189 hS, l_189 hS, k_190 hS, l_190 hS, k_191 hS, l_191 hS, k_192 hS, l_192 hS, k_193 hS, l_193 hS, k_194 hS, l_194 hS, k_195 hS, l_195 hS, k_196 hS, l_196 hS, k_197 hS, l_197 hS, k_198 hS, l_198 hS, k_199 hS, l_199 hS, k_200 hS, l_200 hS, k_201 hS, l_201 hS, k_202 hS, l_202 hS, k_203 hS, l_203 hS, k_204 hS, l_204 hS, k_205 hS, l_205 hS, k_206 hS, l_206 hS, k_207 hS, l_207 hS, k_208 hS, l_208 hS, k_209 hS, l_209 hS, k_210 hS, l_210 hS, k_211 hS, l_211 hS, k_212 hS, l_212 hS, k_213 hS, l_213 hS, k_214 hS, l_214 hS, k_215 hS, l_215 hS, k_216 hS, l_216 hS, k_217 hS, l_217 hS, k_218 hS, l_218 hS, k_219 hS, l_219 hS, k_220 hS, l_220 hS, r_160_0 hS, r_160_1 hS, r_160_2 hS, r_160_3 hS, r_160_4 hS, r_160_5 hS, r_160_6 hS, r_160_7 hS, r_160_8 hS, r_160_9 hS, r_160_10 hS, r_160_11 hS, r_160_12 hS, r_160_13 hS, r_160_14 hS, r_160_15 hS, r_160_16 hS, r_160_17 hS, r_160_18 hS, r_160_19 hS, r_160_20 hS, r_160_21 hS, r_160_22 hS, r_160_23 hS, r_160_24 hS, r_160_25 hS, r_160_26 hS, r_160_27 hS, r_160_28 hS, r_160_29 hS, r_160_30 hS, r_160_31 hS, r_160_32 hS, r_160_33 hS, r_160_34 hS, r_160_35 hS, r_160_36 hS, r_160_37 hS, r_160_38 hS, r_160_39 hS, r_160_40 hS, r_160_41 hS, r_160_43 hS, r_160_45 hS, r_160_46 hS, r_160_48 hS, r_160_49 hS, r_160_50 hS, r_160_51 hS, r_160_52 hS, r_160_53 hS, r_160_54 hS, r_160_56 hS, r_160_63 hS, r_160_64 hS, r_160_65 hS, r_160_66 hS, r_160_67 hS, r_160_68 hS, r_160_69 hS, ol_s, ol_n, ln_0, ln_1, ln_2, ln_3, ln_4, eq_self, rf_s, rf_n, i01_0, i01_n0, i01_b, b01_0, b01_1, and_self, and_true, true_and, and_false, false_and, if_true, if_false, not_true_eq_false, not_false_eq_true, e10, e00, lt_bg, Nat.reduceLT, Nat.reduceLeDiff, hi9, hcn, e1, hlt, m10, nI_add, hij, hcj, e2, z2, nI_1]
        exact P2 d g Q
def SM (σ : am_I) (ρ : am_R) (τ : am_T) (m n : Nat) : Prop := ∀ (σ1 : am_I) (d : Nat) (g : am_J) (Q : am_Q), EqM σ σ1 → AW d 203 0 [.ref 160, .int (nI m), am_jk] [] σ1 ρ g τ Q = Q (some (.int (nI n - 1))) σ1 ρ g τ
theorem EqM.p {σ1 : am_I} (E : EqM σ σ1) (p : Nat → Int32) : EqM σ (am_ur σ1 214 p) := fun y h1 h2 => by rw [ur_ne _ _ _ (by omega)]; exact E y h1 h2
/-- the first line of a kind that holds of a debt, on both sides -/
theorem first_of (hS : Sh ρ τ) {c : Cn} (hc : Rld 1 161 c σ ρ τ) {m : Nat} (hm : m ≤ 599) {n s la N : Nat} (S : SV σ ρ τ n s la N) (M : SM σ ρ τ m n) {i : Nat} (hi : i < c 2) {k : Nat} (hk : k ≤ 2) : ∃ r : Int32, (r = -1 ∨ ∃ y, y < N ∧ r = nI y ∧ 0 < n ∧ σ 182 (10 * (n - 1) + y) = nI k) ∧
    (∀ (σ1 : am_I) (d : Nat) (g : am_J) (Q : am_Q), EqC σ σ1 → AW (d + 2) 69 0 [.ref s, .int (nI k), .ref (34 + 2 * i), .int (nI m), am_jk] [] σ1 ρ g τ Q = Q (some (.int r)) σ1 ρ g τ) ∧
    (∀ (σ1 : am_I) (p : Nat → Int32), EqM σ σ1 → ∃ p', ∀ (d : Nat) (g : am_J) (Q : am_Q), AW (d + 2) 206 0 [.ref 160, .int (nI k), .int (nI i), .int (nI m), am_jk, am_jk, am_jk] [] (am_ur σ1 214 p) ρ g τ Q = Q (some (.int r)) (am_ur σ1 214 p') ρ g τ) := by
  by_cases hn : 0 < n
  · obtain ⟨r, R1, R2, R3⟩ := firstL hS hc hm S hn hi hk N 0 (by omega)
    have hn8 : n ≤ 8 := S.2.2.2.2.2.1
    have e0 : nI n - 1 = nI (n - 1) := by
      obtain ⟨n', rfl⟩ : ∃ n', n = n' + 1 := ⟨n - 1, by omega⟩
      exact nI_pred n'
    have l0 : 0 ≤ nI (n - 1) := nI_pos' (by omega)
    refine ⟨r, ?_, fun σ1 d g Q E => ?_, fun σ1 p E => ?_⟩
    · rcases R1 with q | ⟨y, h1, h2, h3⟩
      · exact Or.inl q
      · exact Or.inr ⟨y, h1, h2, hn, h3⟩
    · have R2 := R2 σ1 d g Q E
      rw [nI_0] at R2
      simp only [s69_0, s69_1, R2]
    · obtain ⟨p', P⟩ := R3 σ1 p am_jk E
      refine ⟨p', fun d g Q => ?_⟩
      have P := P d g Q
      rw [nI_0] at P
      simp only [s206_0, s206_1, s206_2, s206_5, s206_7, s206_9, s206_12, s206_13, s206_14, s206_15, k_160 hS, k_161 hS, l_161 hS, k_162 hS, l_162 hS, k_163 hS, l_163 hS, k_164 hS, l_164 hS, k_165 hS, l_165 hS, k_166 hS, l_166 hS, k_167 hS, l_167 hS, k_168 hS, l_168 hS, k_169 hS, l_169 hS, k_170 hS, l_170 hS, k_171 hS, l_171 hS, k_172 hS, l_172 hS, k_173 hS, l_173 hS, k_174 hS, l_174 hS, k_175 hS, l_175 hS, k_176 hS, l_176 hS, k_177 hS, l_177 hS, k_178 hS, l_178 hS, k_179 hS, l_179 hS, k_180 hS, l_180 hS, k_181 hS, l_181 hS, k_182 hS, l_182 hS, k_183 hS, l_183 hS, k_184 hS, l_184 hS, k_185 hS, l_185 hS, k_186 hS, l_186 hS, k_187 hS, l_187 hS, k_188 hS, l_188 hS, k_189 hS, l_189 hS, k_190 hS, l_190 hS, k_191 hS, l_191 hS, k_192 hS, l_192 hS, k_193 hS, l_193 hS, k_194 hS, l_194 hS, k_195 hS, l_195 hS, k_196 hS, l_196 hS, k_197 hS, l_197 hS, k_198 hS, l_198 hS, k_199 hS, l_199 hS, k_200 hS, l_200 hS, k_201 hS, l_201 hS, k_202 hS, l_202 hS, k_203 hS, l_203 hS, k_204 hS, l_204 hS, k_205 hS, l_205 hS, k_206 hS, l_206 hS, k_207 hS, l_207 hS, k_208 hS, l_208 hS, k_209 hS, l_209 hS, k_210 hS, l_210 hS, k_211 hS, l_211 hS, k_212 hS, l_212 hS, k_213 hS, l_213 hS, k_214 hS, l_214 hS, k_215 hS, l_215 hS, k_216 hS, l_216 hS, k_217 hS, l_217 hS, k_218 hS, l_218 hS, k_219 hS, l_219 hS, k_220 hS, l_220 hS, r_160_0 hS, r_160_1 hS, r_160_2 hS, r_160_3 hS, r_160_4 hS, r_160_5 hS, r_160_6 hS, r_160_7 hS, r_160_8 hS, r_160_9 hS, r_160_10 hS, r_160_11 hS, r_160_12 hS, r_160_13 hS, r_160_14 hS, r_160_15 hS, r_160_16 hS, r_160_17 hS, r_160_18 hS, r_160_19 hS, r_160_20 hS, r_160_21 hS, r_160_22 hS, r_160_23 hS, r_160_24 hS, r_160_25 hS, r_160_26 hS, r_160_27 hS, r_160_28 hS, r_160_29 hS, r_160_30 hS, r_160_31 hS, r_160_32 hS, r_160_33 hS, r_160_34 hS, r_160_35 hS, r_160_36 hS, r_160_37 hS, r_160_38 hS, r_160_39 hS, r_160_40 hS, r_160_41 hS, r_160_43 hS, r_160_45 hS, r_160_46 hS, r_160_48 hS, r_160_49 hS, r_160_50 hS, r_160_51 hS, r_160_52 hS, r_160_53 hS, r_160_54 hS, r_160_56 hS, r_160_63 hS, r_160_64 hS, r_160_65 hS, r_160_66 hS, r_160_67 hS, r_160_68 hS, r_160_69 hS, ol_s, ol_n, ln_0, ln_1, ln_2, ln_3, ln_4, eq_self, rf_s, rf_n, i01_0, i01_n0, i01_b, b01_0, b01_1, and_self, and_true, true_and, and_false, false_and, if_true, if_false, not_true_eq_false, not_false_eq_true, e10, e00, lt_bg, Nat.reduceLT, Nat.reduceLeDiff, M _ _ _ _ (E.p p), e0, l0, P]
  · have hn0 : n = 0 := by omega
    obtain ⟨s1, s2, s3, s4, s5, s6, s7, s8⟩ := S
    have hN := s7 hn0
    subst hN
    subst hn0
    have ra : 14 ≤ τ.1 la ∧ τ.1 la ≤ 22 := by omega
    have hle : nI 0 ≤ 0 := by decide
    have e0 : nI 0 - 1 = (-1 : Int32) := by decide
    have l0 : ((0 : Int32) ≤ -1) = False := by decide
    refine ⟨-1, Or.inl rfl, fun σ1 d g Q E => ?_, fun σ1 p E => ⟨p, fun d g Q => ?_⟩⟩
    · simp only [s69_0, s69_1, s69_3, s69_5, s69_6, s69_9, s69_10, s69_51, s69_52, ol_s, ol_n, ln_0, ln_1, ln_2, ln_3, ln_4, eq_self, rf_s, rf_n, i01_0, i01_n0, i01_b, b01_0, b01_1, and_self, and_true, true_and, and_false, false_and, if_true, if_false, not_true_eq_false, not_false_eq_true, e10, e00, lt_bg, Nat.reduceLT, Nat.reduceLeDiff, s1, s2, s4, ra, hle]
    · simp only [s206_0, s206_1, s206_2, s206_5, s206_7, s206_9, s206_12, s206_13, s206_14, s206_15, k_160 hS, k_161 hS, l_161 hS, k_162 hS, l_162 hS, k_163 hS, l_163 hS, k_164 hS, l_164 hS, k_165 hS, l_165 hS, k_166 hS, l_166 hS, k_167 hS, l_167 hS, k_168 hS, l_168 hS, k_169 hS, l_169 hS, k_170 hS, l_170 hS, k_171 hS, l_171 hS, k_172 hS, l_172 hS, k_173 hS, l_173 hS, k_174 hS, l_174 hS, k_175 hS, l_175 hS, k_176 hS, l_176 hS, k_177 hS, l_177 hS, k_178 hS, l_178 hS, k_179 hS, l_179 hS, k_180 hS, l_180 hS, k_181 hS, l_181 hS, k_182 hS, l_182 hS, k_183 hS, l_183 hS, k_184 hS, l_184 hS, k_185 hS, l_185 hS, k_186 hS, l_186 hS, k_187 hS, l_187 hS, k_188 hS, l_188 hS, k_189 hS, l_189 hS, k_190 hS, l_190 hS, k_191 hS, l_191 hS, k_192 hS, l_192 hS, k_193 hS, l_193 hS, k_194 hS, l_194 hS, k_195 hS, l_195 hS, k_196 hS, l_196 hS, k_197 hS, l_197 hS, k_198 hS, l_198 hS, k_199 hS, l_199 hS, k_200 hS, l_200 hS, k_201 hS, l_201 hS, k_202 hS, l_202 hS, k_203 hS, l_203 hS, k_204 hS, l_204 hS, k_205 hS, l_205 hS, k_206 hS, l_206 hS, k_207 hS, l_207 hS, k_208 hS, l_208 hS, k_209 hS, l_209 hS, k_210 hS, l_210 hS, k_211 hS, l_211 hS, k_212 hS, l_212 hS, k_213 hS, l_213 hS, k_214 hS, l_214 hS, k_215 hS, l_215 hS, k_216 hS, l_216 hS, k_217 hS, l_217 hS, k_218 hS, l_218 hS, k_219 hS, l_219 hS, k_220 hS, l_220 hS, r_160_0 hS, r_160_1 hS, r_160_2 hS, r_160_3 hS, r_160_4 hS, r_160_5 hS, r_160_6 hS, r_160_7 hS, r_160_8 hS, r_160_9 hS, r_160_10 hS, r_160_11 hS, r_160_12 hS, r_160_13 hS, r_160_14 hS, r_160_15 hS, r_160_16 hS, r_160_17 hS, r_160_18 hS, r_160_19 hS, r_160_20 hS, r_160_21 hS, r_160_22 hS, r_160_23 hS, r_160_24 hS, r_160_25 hS, r_160_26 hS, r_160_27 hS, r_160_28 hS, r_160_29 hS, r_160_30 hS, r_160_31 hS, r_160_32 hS, r_160_33 hS, r_160_34 hS, r_160_35 hS, r_160_36 hS, r_160_37 hS, r_160_38 hS, r_160_39 hS, r_160_40 hS, r_160_41 hS, r_160_43 hS, r_160_45 hS, r_160_46 hS, r_160_48 hS, r_160_49 hS, r_160_50 hS, r_160_51 hS, r_160_52 hS, r_160_53 hS, r_160_54 hS, r_160_56 hS, r_160_63 hS, r_160_64 hS, r_160_65 hS, r_160_66 hS, r_160_67 hS, r_160_68 hS, r_160_69 hS, ol_s, ol_n, ln_0, ln_1, ln_2, ln_3, ln_4, eq_self, rf_s, rf_n, i01_0, i01_n0, i01_b, b01_0, b01_1, and_self, and_true, true_and, and_false, false_and, if_true, if_false, not_true_eq_false, not_false_eq_true, e10, e00, lt_bg, Nat.reduceLT, Nat.reduceLeDiff, M _ _ _ _ (E.p p), e0, l0]
end OAV
