/-! choose, both sides -/
section OAP
variable {d : Nat} {σ : am_I} {ρ : am_R} {g : am_J} {τ : am_T} {Q : am_Q}
theorem bit01 (x : Int32) : x &&& 1 = 0 ∨ x &&& 1 = 1 := by
  obtain ⟨j, hj, e⟩ := pk_andE x (m := 1) 1 (by decide)
  rw [e]
  have : j = 0 ∨ j = 1 := by omega
  rcases this with rfl | rfl
  · exact Or.inl rfl
  · exact Or.inr rfl
theorem ly_cg {σ1 : am_I} (e : σ1 199 = σ 199) (b : Int32) (B : Nat) : f_ly σ1 b B = f_ly σ b B := by
  unfold f_ly f_sM
  rw [e]
theorem sk_cg {σ1 : am_I} (e : σ1 200 = σ 200) (b : Int32) (B : Nat) : f_sk σ1 b B = f_sk σ b B := by
  unfold f_sk f_kM
  rw [e]
def f_stM (σ : am_I) (k : Nat) (u v : Nat → Int32) : am_I := am_u (am_ur (am_ur σ 204 u) 205 v) 160 47 (nI k)
theorem c244R (hS : Sh ρ τ) {C : Nat} (hc : σ 161 7 = nI C) (hC : C ≤ 8) {need b : Int32} : ∀ (n i k : Nat) (u v : Nat → Int32) (x4 x5 : Value), i + n = C →
    RI (f_ly σ b) (f_ls b i) k u v →
    (∀ (k : Nat) (u v : Nat → Int32), RI (f_ly σ b) (f_ls b C) k u v → Q (some (.int b)) (f_stM σ k u v) ρ g τ) →
    AW (d + 1) 244 122 [.ref 160, .int need, .int b, .int (nI i), x4, x5] [] (f_stM σ k u v) ρ g τ Q
  | 0, i, k, u, v, x4, x5, h, hR, kk => by
    have e : i = C := by omega
    subst e
    have k7 : am_inb 7 9 = true := by decide
    have a1 : f_stM σ k u v 161 7 = nI i := by unfold f_stM; rw [u_ne _ _ _ _ (by decide), ur_ne _ _ _ (by decide), ur_ne _ _ _ (by decide)]; exact hc
    have hle : nI i ≤ nI i := Int32.le_refl _
    simp only [s244_122, s244_123, s244_124, s244_127, s244_129, s244_130, s244_187, s244_188, k_160 hS, k_161 hS, l_161 hS, k_162 hS, l_162 hS, k_163 hS, l_163 hS, k_164 hS, l_164 hS, k_165 hS, l_165 hS, k_166 hS, l_166 hS, k_167 hS, l_167 hS, k_168 hS, l_168 hS, k_169 hS, l_169 hS, k_170 hS, l_170 hS, k_171 hS, l_171 hS, k_172 hS, l_172 hS, k_173 hS, l_173 hS, k_174 hS, l_174 hS, k_175 hS, l_175 hS, k_176 hS, l_176 hS, k_177 hS, l_177 hS, k_178 hS, l_178 hS, k_179 hS, l_179 hS, k_180 hS, l_180 hS, k_181 hS, l_181 hS, k_182 hS, l_182 hS, k_183 hS, l_183 hS, k_184 hS, l_184 hS, k_185 hS, l_185 hS, k_186 hS, l_186 hS, k_187 hS, l_187 hS, k_188 hS, l_188 hS, k_189 hS, l_189 hS, k_190 hS, l_190 hS, k_191 hS, l_191 hS, k_192 hS, l_192 hS, k_193 hS, l_193 hS, k_194 hS, l_194 hS, k_195 hS, l_195 hS, k_196 hS, l_196 hS, k_197 hS, l_197 hS, k_198 hS, l_198 hS, k_199 hS, l_199 hS, k_200 hS, l_200 hS, k_201 hS, l_201 hS, k_202 hS, l_202 hS, k_203 hS, l_203 hS, k_204 hS, l_204 hS, k_205 hS, l_205 hS, k_206 hS, l_206 hS, k_207 hS, l_207 hS, k_208 hS, l_208 hS, k_209 hS, l_209 hS, k_210 hS, l_210 hS, k_211 hS, l_211 hS, k_212 hS, l_212 hS, k_213 hS, l_213 hS, k_214 hS, l_214 hS, k_215 hS, l_215 hS, k_216 hS, l_216 hS, k_217 hS, l_217 hS, k_218 hS, l_218 hS, k_219 hS, l_219 hS, k_220 hS, l_220 hS, r_160_0 hS, r_160_1 hS, r_160_2 hS, r_160_3 hS, r_160_4 hS, r_160_5 hS, r_160_6 hS, r_160_7 hS, r_160_8 hS, r_160_9 hS, r_160_10 hS, r_160_11 hS, r_160_12 hS, r_160_13 hS, r_160_14 hS, r_160_15 hS, r_160_16 hS, r_160_17 hS, r_160_18 hS, r_160_19 hS, r_160_20 hS, r_160_21 hS, r_160_22 hS, r_160_23 hS, r_160_24 hS, r_160_25 hS, r_160_26 hS, r_160_27 hS, r_160_28 hS, r_160_29 hS, r_160_30 hS, r_160_31 hS, r_160_32 hS, r_160_33 hS, r_160_34 hS, r_160_35 hS, r_160_36 hS, r_160_37 hS, r_160_38 hS, r_160_39 hS, r_160_40 hS, r_160_41 hS, r_160_43 hS, r_160_45 hS, r_160_46 hS, r_160_48 hS, r_160_49 hS, r_160_50 hS, r_160_51 hS, r_160_52 hS, r_160_53 hS, r_160_54 hS, r_160_56 hS, r_160_63 hS, r_160_64 hS, r_160_65 hS, r_160_66 hS, r_160_67 hS, r_160_68 hS, r_160_69 hS, ol_s, ol_n, ln_0, ln_1, ln_2, ln_3, ln_4, eq_self, rf_s, rf_n, i01_0, i01_n0, i01_b, b01_0, b01_1, and_self, and_true, true_and, and_false, false_and, if_true, if_false, not_true_eq_false, not_false_eq_true, e10, e00, lt_bg, Nat.reduceLT, Nat.reduceLeDiff, k7, z7, a1, hle]
    exact kk k u v hR
  | n + 1, i, k, u, v, x4, x5, h, hR, kk => by
    have k7 : am_inb 7 9 = true := by decide
    have a0 : ∀ k u v y, y ≠ 160 → y ≠ 204 → y ≠ 205 → f_stM σ k u v y = σ y := fun k u v y q1 q2 q3 => by unfold f_stM; rw [u_ne _ _ _ _ q1, ur_ne _ _ _ q3, ur_ne _ _ _ q2]
    have a1 : f_stM σ k u v 161 7 = nI C := by rw [a0 _ _ _ _ (by decide) (by decide) (by decide)]; exact hc
    have hlt : ¬ nI C ≤ nI i := nI_ge (by omega) (by omega)
    have hkl := ls_len b i
    have hk8 : k < 8 := by
      have := hR.1
      omega
    have hi : am_inb (nI k) 16 = true := inb_n (by omega) (by decide)
    have hci : (nI k).toNatClampNeg = k := nI_clamp (by omega)
    rw [s244_122]
    by_cases q : f_bt b i
    · have q0 : ¬ (b >>> (nI i &&& 31) &&& 1 = 0) := fun e => by
        have q1 : b >>> (nI i &&& 31) &&& 1 = 1 := q
        rw [e] at q1
        exact absurd q1 (by decide)
      have b1 : ∀ k u v, f_stM σ k u v 160 47 = nI k := fun k u v => by unfold f_stM; rw [u_at]
      have u1 : ∀ k u v k', am_u (f_stM σ k u v) 160 47 (nI k') = f_stM σ k' u v := fun k u v k' => by
        funext y j
        unfold f_stM am_u am_ur
        by_cases y1 : y = 160
        · subst y1; by_cases j1 : j = 47 <;> simp [j1]
        · simp [y1]
      have u2 : ∀ k u v j x, am_u (f_stM σ k u v) 204 j x = f_stM σ k (fun z => if z = j then x else u z) v := fun k u v j x => by
        funext y z
        unfold f_stM am_u am_ur
        by_cases y1 : y = 204
        · subst y1; by_cases j1 : z = j <;> simp [j1]
        · by_cases y2 : y = 205
          · simp [y2]
          · simp [y1, y2]
      have u3 : ∀ k u v j x, am_u (f_stM σ k u v) 205 j x = f_stM σ k u (fun z => if z = j then x else v z) := fun k u v j x => by
        funext y z
        unfold f_stM am_u am_ur
        by_cases y1 : y = 205
        · subst y1; by_cases j1 : z = j <;> simp [j1]
        · simp [y1]
      have L : ∀ k u v, f_ly (f_stM σ k u v) b (i + 1) = f_ly σ b (i + 1) := fun k u v => ly_cg (a0 _ _ _ _ (by decide) (by decide) (by decide)) _ _
      have M := fun (k : Nat) (u v : Nat → Int32) (Q : am_Q) => c242 (d := d) (σ := f_stM σ k u v) (g := g) (Q := Q) (b := b) hS (show i + 1 ≤ 8 by omega)
      simp only [L] at M
      simp only [s244_123, s244_124, s244_127, s244_129, s244_130, s244_133, s244_134, s244_135, s244_136, s244_137, s244_138, s244_141, s244_144, s244_145, s244_148, s244_149, s244_152, s244_153, s244_154, s244_155, s244_158, s244_159, s244_162, s244_163, s244_164, s244_165, s244_166, s244_167, s244_170, s244_171, s244_172, s244_172r, s244_173, s244_176, s244_177, s244_178, s244_181, s244_184, k_160 hS, k_161 hS, l_161 hS, k_162 hS, l_162 hS, k_163 hS, l_163 hS, k_164 hS, l_164 hS, k_165 hS, l_165 hS, k_166 hS, l_166 hS, k_167 hS, l_167 hS, k_168 hS, l_168 hS, k_169 hS, l_169 hS, k_170 hS, l_170 hS, k_171 hS, l_171 hS, k_172 hS, l_172 hS, k_173 hS, l_173 hS, k_174 hS, l_174 hS, k_175 hS, l_175 hS, k_176 hS, l_176 hS, k_177 hS, l_177 hS, k_178 hS, l_178 hS, k_179 hS, l_179 hS, k_180 hS, l_180 hS, k_181 hS, l_181 hS, k_182 hS, l_182 hS, k_183 hS, l_183 hS, k_184 hS, l_184 hS, k_185 hS, l_185 hS, k_186 hS, l_186 hS, k_187 hS, l_187 hS, k_188 hS, l_188 hS, k_189 hS, l_189 hS, k_190 hS, l_190 hS, k_191 hS, l_191 hS, k_192 hS, l_192 hS, k_193 hS, l_193 hS, k_194 hS, l_194 hS, k_195 hS, l_195 hS, k_196 hS, l_196 hS, k_197 hS, l_197 hS, k_198 hS, l_198 hS, k_199 hS, l_199 hS, k_200 hS, l_200 hS, k_201 hS, l_201 hS, k_202 hS, l_202 hS, k_203 hS, l_203 hS, k_204 hS, l_204 hS, k_205 hS, l_205 hS, k_206 hS, l_206 hS, k_207 hS, l_207 hS, k_208 hS, l_208 hS, k_209 hS, l_209 hS, k_210 hS, l_210 hS, k_211 hS, l_211 hS, k_212 hS, l_212 hS, k_213 hS, l_213 hS, k_214 hS, l_214 hS, k_215 hS, l_215 hS, k_216 hS, l_216 hS, k_217 hS, l_217 hS, k_218 hS, l_218 hS, k_219 hS, l_219 hS, k_220 hS, l_220 hS, r_160_0 hS, r_160_1 hS, r_160_2 hS, r_160_3 hS, r_160_4 hS, r_160_5 hS, r_160_6 hS, r_160_7 hS, r_160_8 hS, r_160_9 hS, r_160_10 hS, r_160_11 hS, r_160_12 hS, r_160_13 hS, r_160_14 hS, r_160_15 hS, r_160_16 hS, r_160_17 hS, r_160_18 hS, r_160_19 hS, r_160_20 hS, r_160_21 hS, r_160_22 hS, r_160_23 hS, r_160_24 hS, r_160_25 hS, r_160_26 hS, r_160_27 hS, r_160_28 hS, r_160_29 hS, r_160_30 hS, r_160_31 hS, r_160_32 hS, r_160_33 hS, r_160_34 hS, r_160_35 hS, r_160_36 hS, r_160_37 hS, r_160_38 hS, r_160_39 hS, r_160_40 hS, r_160_41 hS, r_160_43 hS, r_160_45 hS, r_160_46 hS, r_160_48 hS, r_160_49 hS, r_160_50 hS, r_160_51 hS, r_160_52 hS, r_160_53 hS, r_160_54 hS, r_160_56 hS, r_160_63 hS, r_160_64 hS, r_160_65 hS, r_160_66 hS, r_160_67 hS, r_160_68 hS, r_160_69 hS, ol_s, ol_n, ln_0, ln_1, ln_2, ln_3, ln_4, eq_self, rf_s, rf_n, i01_0, i01_n0, i01_b, b01_0, b01_1, and_self, and_true, true_and, and_false, false_and, if_true, if_false, not_true_eq_false, not_false_eq_true, e10, e00, lt_bg, Nat.reduceLT, Nat.reduceLeDiff, k7, z7, a1, hlt, q0, b1, hi, hci, u1, u2, u3, M, nI_1]
      refine c244R hS hc hC n (i + 1) (k + 1) _ _ _ _ (by omega) ?_ kk
      have e : f_ls b (i + 1) = f_ls b i ++ [i] := if_pos q
      rw [e]
      refine hR.add i (fun j hj => ⟨?_, ?_⟩) ?_ ?_
      · show (if j = k then _ else u j) = u j
        rw [if_neg (by omega)]
      · show (if j = k then _ else v j) = v j
        rw [if_neg (by omega)]
      · show (if k = k then _ else _) = _
        rw [if_pos rfl]
      · show (if k = k then _ else _) = _
        rw [if_pos rfl]
    · have q0 : b >>> (nI i &&& 31) &&& 1 = 0 := by
        rcases bit01 (b >>> (nI i &&& 31)) with e | e
        · exact e
        · exact absurd e q
      simp only [s244_123, s244_124, s244_127, s244_129, s244_130, s244_133, s244_134, s244_135, s244_136, s244_137, s244_138, s244_141, s244_144, s244_145, s244_148, s244_149, s244_152, s244_153, s244_154, s244_155, s244_158, s244_159, s244_162, s244_163, s244_164, s244_165, s244_166, s244_167, s244_170, s244_171, s244_172, s244_172r, s244_173, s244_176, s244_177, s244_178, s244_181, s244_184, k_160 hS, k_161 hS, l_161 hS, k_162 hS, l_162 hS, k_163 hS, l_163 hS, k_164 hS, l_164 hS, k_165 hS, l_165 hS, k_166 hS, l_166 hS, k_167 hS, l_167 hS, k_168 hS, l_168 hS, k_169 hS, l_169 hS, k_170 hS, l_170 hS, k_171 hS, l_171 hS, k_172 hS, l_172 hS, k_173 hS, l_173 hS, k_174 hS, l_174 hS, k_175 hS, l_175 hS, k_176 hS, l_176 hS, k_177 hS, l_177 hS, k_178 hS, l_178 hS, k_179 hS, l_179 hS, k_180 hS, l_180 hS, k_181 hS, l_181 hS, k_182 hS, l_182 hS, k_183 hS, l_183 hS, k_184 hS, l_184 hS, k_185 hS, l_185 hS, k_186 hS, l_186 hS, k_187 hS, l_187 hS, k_188 hS, l_188 hS, k_189 hS, l_189 hS, k_190 hS, l_190 hS, k_191 hS, l_191 hS, k_192 hS, l_192 hS, k_193 hS, l_193 hS, k_194 hS, l_194 hS, k_195 hS, l_195 hS, k_196 hS, l_196 hS, k_197 hS, l_197 hS, k_198 hS, l_198 hS, k_199 hS, l_199 hS, k_200 hS, l_200 hS, k_201 hS, l_201 hS, k_202 hS, l_202 hS, k_203 hS, l_203 hS, k_204 hS, l_204 hS, k_205 hS, l_205 hS, k_206 hS, l_206 hS, k_207 hS, l_207 hS, k_208 hS, l_208 hS, k_209 hS, l_209 hS, k_210 hS, l_210 hS, k_211 hS, l_211 hS, k_212 hS, l_212 hS, k_213 hS, l_213 hS, k_214 hS, l_214 hS, k_215 hS, l_215 hS, k_216 hS, l_216 hS, k_217 hS, l_217 hS, k_218 hS, l_218 hS, k_219 hS, l_219 hS, k_220 hS, l_220 hS, r_160_0 hS, r_160_1 hS, r_160_2 hS, r_160_3 hS, r_160_4 hS, r_160_5 hS, r_160_6 hS, r_160_7 hS, r_160_8 hS, r_160_9 hS, r_160_10 hS, r_160_11 hS, r_160_12 hS, r_160_13 hS, r_160_14 hS, r_160_15 hS, r_160_16 hS, r_160_17 hS, r_160_18 hS, r_160_19 hS, r_160_20 hS, r_160_21 hS, r_160_22 hS, r_160_23 hS, r_160_24 hS, r_160_25 hS, r_160_26 hS, r_160_27 hS, r_160_28 hS, r_160_29 hS, r_160_30 hS, r_160_31 hS, r_160_32 hS, r_160_33 hS, r_160_34 hS, r_160_35 hS, r_160_36 hS, r_160_37 hS, r_160_38 hS, r_160_39 hS, r_160_40 hS, r_160_41 hS, r_160_43 hS, r_160_45 hS, r_160_46 hS, r_160_48 hS, r_160_49 hS, r_160_50 hS, r_160_51 hS, r_160_52 hS, r_160_53 hS, r_160_54 hS, r_160_56 hS, r_160_63 hS, r_160_64 hS, r_160_65 hS, r_160_66 hS, r_160_67 hS, r_160_68 hS, r_160_69 hS, ol_s, ol_n, ln_0, ln_1, ln_2, ln_3, ln_4, eq_self, rf_s, rf_n, i01_0, i01_n0, i01_b, b01_0, b01_1, and_self, and_true, true_and, and_false, false_and, if_true, if_false, not_true_eq_false, not_false_eq_true, e10, e00, lt_bg, Nat.reduceLT, Nat.reduceLeDiff, k7, z7, a1, hlt, q0, nI_1]
      refine c244R hS hc hC n (i + 1) k u v _ _ (by omega) ?_ kk
      have e : f_ls b (i + 1) = f_ls b i := if_neg q
      rw [e]
      exact hR
theorem inv_159 (h : INV σ ρ g τ) (r : Nat → Int32) : INV (am_ur σ 159 r) ρ g τ := by
  refine h.scr ?_ ?_ ?_ ?_ ?_ ?_ ?_ ?_ ?_ ?_
  all_goals (intros; rw [ur_ne _ _ _ (by omega)])
theorem o_choose (h : INV σ ρ g τ) {w : Int32} : AW (d + 6) 144 0 [.ref 0, .int w, am_jk, am_jk, am_jk, am_jk, am_jk, am_jk] [] σ ρ g τ (fun r σ1 ρ1 g1 τ1 => AW (d + 6) 244 0 [.ref 160, .int w, am_jk, am_jk, am_jk, am_jk] [] σ1 ρ1 g1 τ1 (Same τ r)) := by
  obtain ⟨c, hc⟩ := h.cur
  have b := hc.bn
  unfold Bn at b
  have hS := h.sh
  have hC8 : c 7 ≤ 8 := b.2.2.2.2.2.2.2
  have hP : σ 16 3 = nI (c 7) := hc.sc.2.2.2.2.2.2.2.1.1
  have hP2 : σ 161 7 = nI (c 7) := hc.sc.2.2.2.2.2.2.2.1.2
  have hw4 : σ 16 1 = nI 4 := h.ld.1.2.2.2.2
  obtain ⟨l0, l1, _⟩ := h.row
  have hch : Cho 1 161 (c 7) σ := hc.ch
  by_cases h1 : 0 ≤ w ∧ w ≤ 9999
  rotate_left
  · simp only [s144_0, s144_1, s144_2, s144_5, s144_8, s144_11, s144_12, s144_13, s144_15, s144_16, s144_17, s144_18, s144_19, s144_21, s144_22, s244_0, s244_1, s244_2, s244_5, s244_8, s244_11, s244_12, s244_13, s244_14, s244_15, s244_16, k_0 hS, k_1 hS, k_2 hS, l_2 hS, k_3 hS, l_3 hS, k_4 hS, l_4 hS, k_5 hS, l_5 hS, k_6 hS, l_6 hS, k_7 hS, k_8 hS, l_8 hS, k_9 hS, l_9 hS, k_10 hS, k_11 hS, l_11 hS, k_12 hS, k_13 hS, l_13 hS, k_14 hS, k_15 hS, l_15 hS, k_16 hS, k_17 hS, l_17 hS, k_66 hS, k_67 hS, l_67 hS, k_68 hS, l_68 hS, k_69 hS, l_69 hS, k_70 hS, l_70 hS, k_71 hS, l_71 hS, k_72 hS, k_73 hS, l_73 hS, k_74 hS, l_74 hS, k_75 hS, k_76 hS, l_76 hS, k_77 hS, k_78 hS, l_78 hS, k_79 hS, k_80 hS, l_80 hS, k_81 hS, k_82 hS, l_82 hS, k_131 hS, k_132 hS, l_132 hS, k_133 hS, l_133 hS, k_134 hS, l_134 hS, k_135 hS, k_136 hS, l_136 hS, k_137 hS, l_137 hS, k_138 hS, l_138 hS, k_139 hS, l_139 hS, k_140 hS, k_141 hS, l_141 hS, k_142 hS, l_142 hS, k_143 hS, k_144 hS, l_144 hS, k_145 hS, k_146 hS, l_146 hS, k_147 hS, l_147 hS, k_148 hS, l_148 hS, k_153 hS, l_153 hS, k_154 hS, l_154 hS, k_155 hS, l_155 hS, k_156 hS, k_157 hS, l_157 hS, k_158 hS, l_158 hS, k_159 hS, l_159 hS, r_0_0 hS, r_0_1 hS, r_0_3 hS, r_0_4 hS, r_0_5 hS, r_0_6 hS, r_0_7 hS, r_0_8 hS, r_0_9 hS, r_0_10 hS, r_1_2 hS, r_1_3 hS, r_1_4 hS, r_1_5 hS, r_1_7 hS, r_1_9 hS, r_1_10 hS, r_1_12 hS, r_1_13 hS, r_1_14 hS, r_1_15 hS, r_7_1 hS, r_10_2 hS, r_12_2 hS, r_14_2 hS, r_16_2 hS, r_66_2 hS, r_66_3 hS, r_66_4 hS, r_66_5 hS, r_66_7 hS, r_66_9 hS, r_66_10 hS, r_66_12 hS, r_66_13 hS, r_66_14 hS, r_66_15 hS, r_72_1 hS, r_75_2 hS, r_77_2 hS, r_79_2 hS, r_81_2 hS, r_131_0 hS, r_131_6 hS, r_131_8 hS, r_135_0 hS, r_135_1 hS, r_135_2 hS, r_135_3 hS, r_140_0 hS, r_140_1 hS, r_143_2 hS, r_145_0 hS, r_145_1 hS, r_145_2 hS, r_145_3 hS, r_145_4 hS, r_145_5 hS, r_156_5 hS, k_pv hS, k_pvr hS, k_db hS, k_dbr hS, k_sh hS, l_pvr hS, l_dbr hS, l_sh hS, r_5 hS, r_6 hS, r_pv hS, r_db hS, r_148 hS, k_160 hS, k_161 hS, l_161 hS, k_162 hS, l_162 hS, k_163 hS, l_163 hS, k_164 hS, l_164 hS, k_165 hS, l_165 hS, k_166 hS, l_166 hS, k_167 hS, l_167 hS, k_168 hS, l_168 hS, k_169 hS, l_169 hS, k_170 hS, l_170 hS, k_171 hS, l_171 hS, k_172 hS, l_172 hS, k_173 hS, l_173 hS, k_174 hS, l_174 hS, k_175 hS, l_175 hS, k_176 hS, l_176 hS, k_177 hS, l_177 hS, k_178 hS, l_178 hS, k_179 hS, l_179 hS, k_180 hS, l_180 hS, k_181 hS, l_181 hS, k_182 hS, l_182 hS, k_183 hS, l_183 hS, k_184 hS, l_184 hS, k_185 hS, l_185 hS, k_186 hS, l_186 hS, k_187 hS, l_187 hS, k_188 hS, l_188 hS, k_189 hS, l_189 hS, k_190 hS, l_190 hS, k_191 hS, l_191 hS, k_192 hS, l_192 hS, k_193 hS, l_193 hS, k_194 hS, l_194 hS, k_195 hS, l_195 hS, k_196 hS, l_196 hS, k_197 hS, l_197 hS, k_198 hS, l_198 hS, k_199 hS, l_199 hS, k_200 hS, l_200 hS, k_201 hS, l_201 hS, k_202 hS, l_202 hS, k_203 hS, l_203 hS, k_204 hS, l_204 hS, k_205 hS, l_205 hS, k_206 hS, l_206 hS, k_207 hS, l_207 hS, k_208 hS, l_208 hS, k_209 hS, l_209 hS, k_210 hS, l_210 hS, k_211 hS, l_211 hS, k_212 hS, l_212 hS, k_213 hS, l_213 hS, k_214 hS, l_214 hS, k_215 hS, l_215 hS, k_216 hS, l_216 hS, k_217 hS, l_217 hS, k_218 hS, l_218 hS, k_219 hS, l_219 hS, k_220 hS, l_220 hS, r_160_0 hS, r_160_1 hS, r_160_2 hS, r_160_3 hS, r_160_4 hS, r_160_5 hS, r_160_6 hS, r_160_7 hS, r_160_8 hS, r_160_9 hS, r_160_10 hS, r_160_11 hS, r_160_12 hS, r_160_13 hS, r_160_14 hS, r_160_15 hS, r_160_16 hS, r_160_17 hS, r_160_18 hS, r_160_19 hS, r_160_20 hS, r_160_21 hS, r_160_22 hS, r_160_23 hS, r_160_24 hS, r_160_25 hS, r_160_26 hS, r_160_27 hS, r_160_28 hS, r_160_29 hS, r_160_30 hS, r_160_31 hS, r_160_32 hS, r_160_33 hS, r_160_34 hS, r_160_35 hS, r_160_36 hS, r_160_37 hS, r_160_38 hS, r_160_39 hS, r_160_40 hS, r_160_41 hS, r_160_43 hS, r_160_45 hS, r_160_46 hS, r_160_48 hS, r_160_49 hS, r_160_50 hS, r_160_51 hS, r_160_52 hS, r_160_53 hS, r_160_54 hS, r_160_56 hS, r_160_63 hS, r_160_64 hS, r_160_65 hS, r_160_66 hS, r_160_67 hS, r_160_68 hS, r_160_69 hS, c100, c165, ol_s, ol_n, ln_0, ln_1, ln_2, ln_3, ln_4, eq_self, rf_s, rf_n, i01_0, i01_n0, i01_b, b01_0, b01_1, and_self, and_true, true_and, and_false, false_and, if_true, if_false, not_true_eq_false, not_false_eq_true, e10, e00, lt_bg, Nat.reduceLT, Nat.reduceLeDiff, h1]
    exact Same.of rfl h
  simp only [s144_0, s144_1, s144_2, s144_5, s144_8, s144_11, s144_12, s144_13, s144_15, s144_16, s144_17, s144_18, s144_19, s144_21, s144_22, k_0 hS, k_1 hS, k_2 hS, l_2 hS, k_3 hS, l_3 hS, k_4 hS, l_4 hS, k_5 hS, l_5 hS, k_6 hS, l_6 hS, k_7 hS, k_8 hS, l_8 hS, k_9 hS, l_9 hS, k_10 hS, k_11 hS, l_11 hS, k_12 hS, k_13 hS, l_13 hS, k_14 hS, k_15 hS, l_15 hS, k_16 hS, k_17 hS, l_17 hS, k_66 hS, k_67 hS, l_67 hS, k_68 hS, l_68 hS, k_69 hS, l_69 hS, k_70 hS, l_70 hS, k_71 hS, l_71 hS, k_72 hS, k_73 hS, l_73 hS, k_74 hS, l_74 hS, k_75 hS, k_76 hS, l_76 hS, k_77 hS, k_78 hS, l_78 hS, k_79 hS, k_80 hS, l_80 hS, k_81 hS, k_82 hS, l_82 hS, k_131 hS, k_132 hS, l_132 hS, k_133 hS, l_133 hS, k_134 hS, l_134 hS, k_135 hS, k_136 hS, l_136 hS, k_137 hS, l_137 hS, k_138 hS, l_138 hS, k_139 hS, l_139 hS, k_140 hS, k_141 hS, l_141 hS, k_142 hS, l_142 hS, k_143 hS, k_144 hS, l_144 hS, k_145 hS, k_146 hS, l_146 hS, k_147 hS, l_147 hS, k_148 hS, l_148 hS, k_153 hS, l_153 hS, k_154 hS, l_154 hS, k_155 hS, l_155 hS, k_156 hS, k_157 hS, l_157 hS, k_158 hS, l_158 hS, k_159 hS, l_159 hS, r_0_0 hS, r_0_1 hS, r_0_3 hS, r_0_4 hS, r_0_5 hS, r_0_6 hS, r_0_7 hS, r_0_8 hS, r_0_9 hS, r_0_10 hS, r_1_2 hS, r_1_3 hS, r_1_4 hS, r_1_5 hS, r_1_7 hS, r_1_9 hS, r_1_10 hS, r_1_12 hS, r_1_13 hS, r_1_14 hS, r_1_15 hS, r_7_1 hS, r_10_2 hS, r_12_2 hS, r_14_2 hS, r_16_2 hS, r_66_2 hS, r_66_3 hS, r_66_4 hS, r_66_5 hS, r_66_7 hS, r_66_9 hS, r_66_10 hS, r_66_12 hS, r_66_13 hS, r_66_14 hS, r_66_15 hS, r_72_1 hS, r_75_2 hS, r_77_2 hS, r_79_2 hS, r_81_2 hS, r_131_0 hS, r_131_6 hS, r_131_8 hS, r_135_0 hS, r_135_1 hS, r_135_2 hS, r_135_3 hS, r_140_0 hS, r_140_1 hS, r_143_2 hS, r_145_0 hS, r_145_1 hS, r_145_2 hS, r_145_3 hS, r_145_4 hS, r_145_5 hS, r_156_5 hS, k_pv hS, k_pvr hS, k_db hS, k_dbr hS, k_sh hS, l_pvr hS, l_dbr hS, l_sh hS, r_5 hS, r_6 hS, r_pv hS, r_db hS, r_148 hS, c100, ol_s, ol_n, ln_0, ln_1, ln_2, ln_3, ln_4, eq_self, rf_s, rf_n, i01_0, i01_n0, i01_b, b01_0, b01_1, and_self, and_true, true_and, and_false, false_and, if_true, if_false, not_true_eq_false, not_false_eq_true, e10, e00, lt_bg, Nat.reduceLT, Nat.reduceLeDiff, h1]
  have s0 : (0 : Int32) = nI 0 := by decide
  have I0 : ∀ (Q : am_Q) (x6 x7 : Value), (∀ (r : Nat → Int32), AW (d + 6) 144 24 [.ref 0, .int w, .int (f_bC (-1)), .int (f_bS (fun b => f_sk σ b (c 7)) (-1)), .int (f_bS (fun b => f_ly σ b (c 7)) (-1)), .int (nI 0), x6, x7] [] (am_ur σ 159 r) ρ g τ Q) → AW (d + 6) 144 24 [.ref 0, .int w, .int (-3), .int 0, .int 0, .int 0, x6, x7] [] σ ρ g τ Q := fun Q x6 x7 q => by
    have q := q (σ 159)
    rw [ur_self] at q
    exact q
  refine I0 _ _ _ (fun r0 => ?_)
  refine c144L (d := d + 1) hS hP hw4 hC8 hch (2 ^ c 7) 0 (-1) r0 _ _ (by omega) (fun r x6 x7 => ?_)
  generalize eF : f_bst w (fun b => f_ly σ b (c 7)) (fun b => f_sk σ b (c 7)) (2 ^ c 7) 0 (-1) = F
  -- the reference's search, from any heap with the same choices
  have R : ∀ (σ1 : am_I) (Q : am_Q), σ1 161 7 = nI (c 7) → σ1 199 = σ 199 → σ1 200 = σ 200 → σ1 17 = σ 17 → (∀ (x4 x5 : Value), AW (d + 6) 244 108 [.ref 160, .int w, .int F, .int (nI (2 ^ c 7)), x4, x5] [] σ1 ρ g τ Q) → AW (d + 6) 244 0 [.ref 160, .int w, am_jk, am_jk, am_jk, am_jk] [] σ1 ρ g τ Q := fun σ1 Q e1 e2 e3 e4 k => by
    have hch1 : Cho 1 161 (c 7) σ1 := hch.cg e4 (fun y y1 y2 => by
      have : y = 199 ∨ y = 200 := by omega
      rcases this with rfl | rfl
      · exact e2
      · exact e3)
    have eL : (fun b => f_ly σ1 b (c 7)) = (fun b => f_ly σ b (c 7)) := funext (fun b => ly_cg e2 _ _)
    have eK : (fun b => f_sk σ1 b (c 7)) = (fun b => f_sk σ b (c 7)) := funext (fun b => sk_cg e3 _ _)
    have L := c244L (d := d + 5) (ρ := ρ) (g := g) (Q := Q) hS e1 hC8 hch1 (need := w) (2 ^ c 7) 0 (-1) am_jk am_jk (by omega) (by rw [eL, eK, eF]; exact k)
    rw [nI_0] at L
    simp only [s244_0, s244_1, s244_2, s244_5, s244_8, s244_11, s244_12, s244_13, s244_14, s244_15, s244_16, k_160 hS, k_161 hS, l_161 hS, k_162 hS, l_162 hS, k_163 hS, l_163 hS, k_164 hS, l_164 hS, k_165 hS, l_165 hS, k_166 hS, l_166 hS, k_167 hS, l_167 hS, k_168 hS, l_168 hS, k_169 hS, l_169 hS, k_170 hS, l_170 hS, k_171 hS, l_171 hS, k_172 hS, l_172 hS, k_173 hS, l_173 hS, k_174 hS, l_174 hS, k_175 hS, l_175 hS, k_176 hS, l_176 hS, k_177 hS, l_177 hS, k_178 hS, l_178 hS, k_179 hS, l_179 hS, k_180 hS, l_180 hS, k_181 hS, l_181 hS, k_182 hS, l_182 hS, k_183 hS, l_183 hS, k_184 hS, l_184 hS, k_185 hS, l_185 hS, k_186 hS, l_186 hS, k_187 hS, l_187 hS, k_188 hS, l_188 hS, k_189 hS, l_189 hS, k_190 hS, l_190 hS, k_191 hS, l_191 hS, k_192 hS, l_192 hS, k_193 hS, l_193 hS, k_194 hS, l_194 hS, k_195 hS, l_195 hS, k_196 hS, l_196 hS, k_197 hS, l_197 hS, k_198 hS, l_198 hS, k_199 hS, l_199 hS, k_200 hS, l_200 hS, k_201 hS, l_201 hS, k_202 hS, l_202 hS, k_203 hS, l_203 hS, k_204 hS, l_204 hS, k_205 hS, l_205 hS, k_206 hS, l_206 hS, k_207 hS, l_207 hS, k_208 hS, l_208 hS, k_209 hS, l_209 hS, k_210 hS, l_210 hS, k_211 hS, l_211 hS, k_212 hS, l_212 hS, k_213 hS, l_213 hS, k_214 hS, l_214 hS, k_215 hS, l_215 hS, k_216 hS, l_216 hS, k_217 hS, l_217 hS, k_218 hS, l_218 hS, k_219 hS, l_219 hS, k_220 hS, l_220 hS, r_160_0 hS, r_160_1 hS, r_160_2 hS, r_160_3 hS, r_160_4 hS, r_160_5 hS, r_160_6 hS, r_160_7 hS, r_160_8 hS, r_160_9 hS, r_160_10 hS, r_160_11 hS, r_160_12 hS, r_160_13 hS, r_160_14 hS, r_160_15 hS, r_160_16 hS, r_160_17 hS, r_160_18 hS, r_160_19 hS, r_160_20 hS, r_160_21 hS, r_160_22 hS, r_160_23 hS, r_160_24 hS, r_160_25 hS, r_160_26 hS, r_160_27 hS, r_160_28 hS, r_160_29 hS, r_160_30 hS, r_160_31 hS, r_160_32 hS, r_160_33 hS, r_160_34 hS, r_160_35 hS, r_160_36 hS, r_160_37 hS, r_160_38 hS, r_160_39 hS, r_160_40 hS, r_160_41 hS, r_160_43 hS, r_160_45 hS, r_160_46 hS, r_160_48 hS, r_160_49 hS, r_160_50 hS, r_160_51 hS, r_160_52 hS, r_160_53 hS, r_160_54 hS, r_160_56 hS, r_160_63 hS, r_160_64 hS, r_160_65 hS, r_160_66 hS, r_160_67 hS, r_160_68 hS, r_160_69 hS, c165, ol_s, ol_n, ln_0, ln_1, ln_2, ln_3, ln_4, eq_self, rf_s, rf_n, i01_0, i01_n0, i01_b, b01_0, b01_1, and_self, and_true, true_and, and_false, false_and, if_true, if_false, not_true_eq_false, not_false_eq_true, e10, e00, lt_bg, Nat.reduceLT, Nat.reduceLeDiff, h1]
    exact L
  by_cases hF : F < 0
  · have e1 : f_bC F = -3 := if_pos hF
    have e2 : ((-3 : Int32) < 0) = True := by decide
    simp only [s144_102, s144_103, s144_111, s144_112, ol_s, ol_n, ln_0, ln_1, ln_2, ln_3, ln_4, eq_self, rf_s, rf_n, i01_0, i01_n0, i01_b, b01_0, b01_1, and_self, and_true, true_and, and_false, false_and, if_true, if_false, not_true_eq_false, not_false_eq_true, e10, e00, lt_bg, Nat.reduceLT, Nat.reduceLeDiff, e1, e2]
    refine R _ _ ?_ ?_ ?_ ?_ (fun x4 x5 => ?_)
    · rw [ur_ne _ _ _ (by decide)]; exact hP2
    · rw [ur_ne _ _ _ (by decide)]
    · rw [ur_ne _ _ _ (by decide)]
    · rw [ur_ne _ _ _ (by decide)]
    have hF2 : ¬ 0 ≤ F := Int32.not_le.mpr hF
    simp only [s244_108, s244_109, s244_112, s244_114, ol_s, ol_n, ln_0, ln_1, ln_2, ln_3, ln_4, eq_self, rf_s, rf_n, i01_0, i01_n0, i01_b, b01_0, b01_1, and_self, and_true, true_and, and_false, false_and, if_true, if_false, not_true_eq_false, not_false_eq_true, e10, e00, lt_bg, Nat.reduceLT, Nat.reduceLeDiff, hF2]
    exact Same.of rfl (inv_159 h r)
  have e1 : f_bC F = F := if_neg hF
  have f0 : ∀ r, am_ur (am_u (am_ur σ 159 r) 143 3 0) 159 (f_fill 0 3 (am_u (am_ur σ 159 r) 143 3 0 159)) = f_stC σ 0 (σ 144) (f_fill 0 3 r) := fun r => by
    rw [u_ne _ _ _ _ (by decide), ur_at]
    funext y j
    unfold f_stC am_u am_ur
    by_cases y1 : y = 159
    · simp [y1]
    · by_cases y2 : y = 144
      · simp [y2]
      · simp [y1, y2]
        intros
        rfl
  simp only [s144_102, s144_103, s144_106, s144_107, s144_108, s144_111, s144_112, s148_0, s148_1, s148_4, s148_5, s148_8, s148_9, s148_12, s148_13, s148_16, s148_17, k_0 hS, k_1 hS, k_2 hS, l_2 hS, k_3 hS, l_3 hS, k_4 hS, l_4 hS, k_5 hS, l_5 hS, k_6 hS, l_6 hS, k_7 hS, k_8 hS, l_8 hS, k_9 hS, l_9 hS, k_10 hS, k_11 hS, l_11 hS, k_12 hS, k_13 hS, l_13 hS, k_14 hS, k_15 hS, l_15 hS, k_16 hS, k_17 hS, l_17 hS, k_66 hS, k_67 hS, l_67 hS, k_68 hS, l_68 hS, k_69 hS, l_69 hS, k_70 hS, l_70 hS, k_71 hS, l_71 hS, k_72 hS, k_73 hS, l_73 hS, k_74 hS, l_74 hS, k_75 hS, k_76 hS, l_76 hS, k_77 hS, k_78 hS, l_78 hS, k_79 hS, k_80 hS, l_80 hS, k_81 hS, k_82 hS, l_82 hS, k_131 hS, k_132 hS, l_132 hS, k_133 hS, l_133 hS, k_134 hS, l_134 hS, k_135 hS, k_136 hS, l_136 hS, k_137 hS, l_137 hS, k_138 hS, l_138 hS, k_139 hS, l_139 hS, k_140 hS, k_141 hS, l_141 hS, k_142 hS, l_142 hS, k_143 hS, k_144 hS, l_144 hS, k_145 hS, k_146 hS, l_146 hS, k_147 hS, l_147 hS, k_148 hS, l_148 hS, k_153 hS, l_153 hS, k_154 hS, l_154 hS, k_155 hS, l_155 hS, k_156 hS, k_157 hS, l_157 hS, k_158 hS, l_158 hS, k_159 hS, l_159 hS, r_0_0 hS, r_0_1 hS, r_0_3 hS, r_0_4 hS, r_0_5 hS, r_0_6 hS, r_0_7 hS, r_0_8 hS, r_0_9 hS, r_0_10 hS, r_1_2 hS, r_1_3 hS, r_1_4 hS, r_1_5 hS, r_1_7 hS, r_1_9 hS, r_1_10 hS, r_1_12 hS, r_1_13 hS, r_1_14 hS, r_1_15 hS, r_7_1 hS, r_10_2 hS, r_12_2 hS, r_14_2 hS, r_16_2 hS, r_66_2 hS, r_66_3 hS, r_66_4 hS, r_66_5 hS, r_66_7 hS, r_66_9 hS, r_66_10 hS, r_66_12 hS, r_66_13 hS, r_66_14 hS, r_66_15 hS, r_72_1 hS, r_75_2 hS, r_77_2 hS, r_79_2 hS, r_81_2 hS, r_131_0 hS, r_131_6 hS, r_131_8 hS, r_135_0 hS, r_135_1 hS, r_135_2 hS, r_135_3 hS, r_140_0 hS, r_140_1 hS, r_143_2 hS, r_145_0 hS, r_145_1 hS, r_145_2 hS, r_145_3 hS, r_145_4 hS, r_145_5 hS, r_156_5 hS, k_pv hS, k_pvr hS, k_db hS, k_dbr hS, k_sh hS, l_pvr hS, l_dbr hS, l_sh hS, r_5 hS, r_6 hS, r_pv hS, r_db hS, r_148 hS, c275 (a := 159) (n := 3) (k_159 hS) (l_159 hS) (by decide) (by decide), f0, ol_s, ol_n, ln_0, ln_1, ln_2, ln_3, ln_4, eq_self, rf_s, rf_n, i01_0, i01_n0, i01_b, b01_0, b01_1, and_self, and_true, true_and, and_false, false_and, if_true, if_false, not_true_eq_false, not_false_eq_true, e10, e00, lt_bg, Nat.reduceLT, Nat.reduceLeDiff, e1, hF]
  have LC := fun Q => c148L (d := d + 1) (ρ := ρ) (g := g) (τ := τ) (Q := Q) hS hP hw4 hC8 hch l0 l1 (b := F) (c 7) 0 0 (σ 144) (f_fill 0 3 r) am_jk (by omega) (fun y hy => fill_at hy) ⟨rfl, fun j hj => absurd hj (Nat.not_lt_zero _)⟩
  rw [nI_0] at LC
  refine LC _ (fun k u r1 hR => ?_)
  simp only [s144_111, s144_112, ol_s, ol_n, ln_0, ln_1, ln_2, ln_3, ln_4, eq_self, rf_s, rf_n, i01_0, i01_n0, i01_b, b01_0, b01_1, and_self, and_true, true_and, and_false, false_and, if_true, if_false, not_true_eq_false, not_false_eq_true, e10, e00, lt_bg, Nat.reduceLT, Nat.reduceLeDiff]
  have a0 : ∀ y, y ≠ 143 → y ≠ 144 → y ≠ 159 → f_stC σ k u r1 y = σ y := fun y q1 q2 q3 => by unfold f_stC; rw [ur_ne _ _ _ q3, ur_ne _ _ _ q2, u_ne _ _ _ _ q1]
  refine R _ _ (by rw [a0 _ (by decide) (by decide) (by decide)]; exact hP2) (a0 _ (by decide) (by decide) (by decide)) (a0 _ (by decide) (by decide) (by decide)) (a0 _ (by decide) (by decide) (by decide)) (fun x4 x5 => ?_)
  have hF2 : 0 ≤ F := Int32.not_lt.mp hF
  generalize e3 : f_stC σ k u r1 = σ1 at a0
  have g0 : am_u σ1 160 47 0 = f_stM σ1 0 (σ1 204) (σ1 205) := by
    funext y j
    unfold f_stM am_u am_ur
    by_cases y1 : y = 160
    · subst y1; by_cases j1 : j = 47 <;> simp [j1]
      rfl
    · by_cases y2 : y = 204
      · simp [y2]
      · by_cases y3 : y = 205
        · simp [y3]
        · simp [y1, y2, y3]
  simp only [s244_108, s244_109, s244_112, s244_114, s244_115, s244_116, s244_117, s244_120, s244_121, k_160 hS, k_161 hS, l_161 hS, k_162 hS, l_162 hS, k_163 hS, l_163 hS, k_164 hS, l_164 hS, k_165 hS, l_165 hS, k_166 hS, l_166 hS, k_167 hS, l_167 hS, k_168 hS, l_168 hS, k_169 hS, l_169 hS, k_170 hS, l_170 hS, k_171 hS, l_171 hS, k_172 hS, l_172 hS, k_173 hS, l_173 hS, k_174 hS, l_174 hS, k_175 hS, l_175 hS, k_176 hS, l_176 hS, k_177 hS, l_177 hS, k_178 hS, l_178 hS, k_179 hS, l_179 hS, k_180 hS, l_180 hS, k_181 hS, l_181 hS, k_182 hS, l_182 hS, k_183 hS, l_183 hS, k_184 hS, l_184 hS, k_185 hS, l_185 hS, k_186 hS, l_186 hS, k_187 hS, l_187 hS, k_188 hS, l_188 hS, k_189 hS, l_189 hS, k_190 hS, l_190 hS, k_191 hS, l_191 hS, k_192 hS, l_192 hS, k_193 hS, l_193 hS, k_194 hS, l_194 hS, k_195 hS, l_195 hS, k_196 hS, l_196 hS, k_197 hS, l_197 hS, k_198 hS, l_198 hS, k_199 hS, l_199 hS, k_200 hS, l_200 hS, k_201 hS, l_201 hS, k_202 hS, l_202 hS, k_203 hS, l_203 hS, k_204 hS, l_204 hS, k_205 hS, l_205 hS, k_206 hS, l_206 hS, k_207 hS, l_207 hS, k_208 hS, l_208 hS, k_209 hS, l_209 hS, k_210 hS, l_210 hS, k_211 hS, l_211 hS, k_212 hS, l_212 hS, k_213 hS, l_213 hS, k_214 hS, l_214 hS, k_215 hS, l_215 hS, k_216 hS, l_216 hS, k_217 hS, l_217 hS, k_218 hS, l_218 hS, k_219 hS, l_219 hS, k_220 hS, l_220 hS, r_160_0 hS, r_160_1 hS, r_160_2 hS, r_160_3 hS, r_160_4 hS, r_160_5 hS, r_160_6 hS, r_160_7 hS, r_160_8 hS, r_160_9 hS, r_160_10 hS, r_160_11 hS, r_160_12 hS, r_160_13 hS, r_160_14 hS, r_160_15 hS, r_160_16 hS, r_160_17 hS, r_160_18 hS, r_160_19 hS, r_160_20 hS, r_160_21 hS, r_160_22 hS, r_160_23 hS, r_160_24 hS, r_160_25 hS, r_160_26 hS, r_160_27 hS, r_160_28 hS, r_160_29 hS, r_160_30 hS, r_160_31 hS, r_160_32 hS, r_160_33 hS, r_160_34 hS, r_160_35 hS, r_160_36 hS, r_160_37 hS, r_160_38 hS, r_160_39 hS, r_160_40 hS, r_160_41 hS, r_160_43 hS, r_160_45 hS, r_160_46 hS, r_160_48 hS, r_160_49 hS, r_160_50 hS, r_160_51 hS, r_160_52 hS, r_160_53 hS, r_160_54 hS, r_160_56 hS, r_160_63 hS, r_160_64 hS, r_160_65 hS, r_160_66 hS, r_160_67 hS, r_160_68 hS, r_160_69 hS, ol_s, ol_n, ln_0, ln_1, ln_2, ln_3, ln_4, eq_self, rf_s, rf_n, i01_0, i01_n0, i01_b, b01_0, b01_1, and_self, and_true, true_and, and_false, false_and, if_true, if_false, not_true_eq_false, not_false_eq_true, e10, e00, lt_bg, Nat.reduceLT, Nat.reduceLeDiff, hF2, g0]
  have hP3 : σ1 161 7 = nI (c 7) := by rw [a0 _ (by decide) (by decide) (by decide)]; exact hP2
  have LM := fun Q => c244R (d := d + 5) (ρ := ρ) (g := g) (τ := τ) (Q := Q) hS hP3 hC8 (need := w) (b := F) (c 7) 0 0 (σ1 204) (σ1 205) x4 x5 (by omega) ⟨rfl, fun j hj => absurd hj (Nat.not_lt_zero _)⟩
  rw [nI_0] at LM
  refine LM _ (fun k2 u2 v2 hR2 => ?_)
  have eL : f_ly σ1 F = f_ly σ F := funext (fun B => ly_cg (a0 _ (by decide) (by decide) (by decide)) _ _)
  rw [eL] at hR2
  obtain ⟨r1e, r1q⟩ := hR
  obtain ⟨r2e, r2q⟩ := hR2
  have hkk : k2 = k := by rw [r1e, r2e]
  subst hkk
  have hk8 : k2 ≤ 8 := by
    have := ls_len F (c 7)
    omega
  have m0 : ∀ y, y ≠ 160 → y ≠ 204 → y ≠ 205 → f_stM σ1 k2 u2 v2 y = σ1 y := fun y q1 q2 q3 => by unfold f_stM; rw [u_ne _ _ _ _ q1, ur_ne _ _ _ q3, ur_ne _ _ _ q2]
  have m1 : ∀ j, j ≠ 47 → f_stM σ1 k2 u2 v2 160 j = σ1 160 j := fun j hj => by unfold f_stM; rw [u_nk _ _ _ _ hj, ur_ne _ _ _ (by decide), ur_ne _ _ _ (by decide)]
  have all : ∀ y, y ≠ 143 → y ≠ 144 → y ≠ 159 → y ≠ 160 → y ≠ 204 → y ≠ 205 → f_stM σ1 k2 u2 v2 y = σ y := fun y q1 q2 q3 q4 q5 q6 => by rw [m0 y q4 q5 q6, a0 y q1 q2 q3]
  have s160 : σ1 160 = σ 160 := a0 _ (by decide) (by decide) (by decide)
  have t1 : f_stM σ1 k2 u2 v2 143 3 = nI k2 := by rw [m0 _ (by decide) (by decide) (by decide), ← e3]; unfold f_stC; rw [ur_ne _ _ _ (by decide), ur_ne _ _ _ (by decide), u_at]
  have t2 : f_stM σ1 k2 u2 v2 143 0 = nI 8 := by rw [m0 _ (by decide) (by decide) (by decide), ← e3]; unfold f_stC; rw [ur_ne _ _ _ (by decide), ur_ne _ _ _ (by decide), u_nk _ _ _ _ (by decide)]; exact l0
  have t3 : f_stM σ1 k2 u2 v2 143 1 = nI 2 := by rw [m0 _ (by decide) (by decide) (by decide), ← e3]; unfold f_stC; rw [ur_ne _ _ _ (by decide), ur_ne _ _ _ (by decide), u_nk _ _ _ _ (by decide)]; exact l1
  have t4 : f_stM σ1 k2 u2 v2 144 = u := by rw [m0 _ (by decide) (by decide) (by decide), ← e3]; unfold f_stC; rw [ur_ne _ _ _ (by decide), ur_at]
  have t5 : f_stM σ1 k2 u2 v2 204 = u2 := by unfold f_stM; rw [u_ne _ _ _ _ (by decide), ur_ne _ _ _ (by decide), ur_at]
  have t6 : f_stM σ1 k2 u2 v2 205 = v2 := by unfold f_stM; rw [u_ne _ _ _ _ (by decide), ur_at]
  have t7 : f_stM σ1 k2 u2 v2 160 47 = nI k2 := by unfold f_stM; rw [u_at]
  refine Same.of rfl (h.fx (fun y hy => all y (by omega) (by omega) (by omega) (by omega) (by omega) (by omega)) (fun y y1 y2 => all y (by omega) (by omega) (by omega) (by omega) (by omega) (by omega)) (fun y hy => all y (by omega) (by omega) (by omega) (by omega) (by omega) (by omega)) (by rw [m1 _ (by decide), s160]) (h.tap.cg ?_ ?_ ?_ ?_) ⟨t2, t3, k2, hk8, t1, t7, fun i hi => ?_⟩ (h.she.cg (fun y y1 y2 => all y (by omega) (by omega) (by omega) (by omega) (by omega) (by omega)) ?_ ?_ rfl) (h.slv.cg (fun y y1 y2 => all y (by omega) (by omega) (by omega) (by omega) (by omega) (by omega)) (fun y y1 y2 => all y (by omega) (by omega) (by omega) (by omega) (by omega) (by omega))) (h.tra.cg ?_ ?_ ?_ ?_))
  case refine_5 =>
    rw [t4, t5, t6, (r2q i hi).1, (r2q i hi).2]
    exact r1q i hi
  all_goals first
    | exact all _ (by decide) (by decide) (by decide) (by decide) (by decide) (by decide)
    | (rw [m1 _ (by decide), s160])
    | (rw [all _ (by decide) (by decide) (by decide) (by decide) (by decide) (by decide)])
end OAP
