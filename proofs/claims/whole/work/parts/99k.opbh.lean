/-! gets -/
section OBH
variable {d : Nat} {σ : am_I} {ρ : am_R} {g : am_J} {τ : am_T} {Q : am_Q}
def f_r3 (σ : am_I) (a b c : Nat → Int32) : am_I := am_ur (am_ur (am_ur σ 215 a) 216 b) 217 c
theorem r3_ne {a b c : Nat → Int32} {y : Nat} (h1 : y ≠ 215) (h2 : y ≠ 216) (h3 : y ≠ 217) : f_r3 σ a b c y = σ y := by
  unfold f_r3
  rw [ur_ne _ _ _ h3, ur_ne _ _ _ h2, ur_ne _ _ _ h1]
theorem r3_a (a b c p : Nat → Int32) (i : Nat) (x : Int32) : am_u (am_ur (f_r3 σ a b c) 214 p) 215 i x = am_ur (f_r3 σ (fun j => if j = i then x else a j) b c) 214 p := by
  funext y j
  unfold f_r3 am_u am_ur
  by_cases e : y = 215
  · subst e; by_cases q : j = i <;> simp [q]
  · by_cases e9 : y = 214
    · simp [e9]
    · by_cases e8 : y = 217
      · simp [e8]
      · by_cases e7 : y = 216
        · simp [e7]
        · simp [e, e7, e8, e9]
theorem r3_b (a b c p : Nat → Int32) (i : Nat) (x : Int32) : am_u (am_ur (f_r3 σ a b c) 214 p) 216 i x = am_ur (f_r3 σ a (fun j => if j = i then x else b j) c) 214 p := by
  funext y j
  unfold f_r3 am_u am_ur
  by_cases e : y = 216
  · subst e; by_cases q : j = i <;> simp [q]
  · by_cases e9 : y = 214
    · simp [e9]
    · by_cases e8 : y = 217
      · simp [e8]
      · simp [e, e8, e9]
theorem r3_c (a b c p : Nat → Int32) (i : Nat) (x : Int32) : am_u (am_ur (f_r3 σ a b c) 214 p) 217 i x = am_ur (f_r3 σ a b (fun j => if j = i then x else c j)) 214 p := by
  funext y j
  unfold f_r3 am_u am_ur
  by_cases e : y = 217
  · subst e; by_cases q : j = i <;> simp [q]
  · by_cases e9 : y = 214
    · simp [e9]
    · simp [e, e9]
/-- the rows below a place -/
def TM (σ : am_I) (D so m : Nat) (f : Nat → Nat × Nat × Bool) (i : Nat) (a b c : Nat → Int32) : Prop := ∀ j, j < i → a j = nI (shW σ D so m f j) ∧ b j = 0 ∧ c j = (if shB σ D so f j = true then nI (f j).1 else -1)
theorem TM.s {D so m : Nat} {f : Nat → Nat × Nat × Bool} {i : Nat} {a b c : Nat → Int32} (h : TM σ D so m f i a b c) {x1 x2 x3 : Int32} (e1 : x1 = nI (shW σ D so m f i)) (e2 : x2 = 0) (e3 : x3 = (if shB σ D so f i = true then nI (f i).1 else -1)) : TM σ D so m f (i + 1) (fun j => if j = i then x1 else a j) (fun j => if j = i then x2 else b j) (fun j => if j = i then x3 else c j) := by
  intro j hj
  show (if j = i then x1 else a j) = _ ∧ (if j = i then x2 else b j) = 0 ∧ (if j = i then x3 else c j) = _
  by_cases e : j = i
  · subst e
    rw [if_pos rfl, if_pos rfl, if_pos rfl]
    exact ⟨e1, e2, e3⟩
  · rw [if_neg e, if_neg e, if_neg e]
    exact h j (by omega)
theorem c216A (hS : Sh ρ τ) {c : Cn} (hc : Rld 1 161 c σ ρ τ) {m so s : Nat} (hso : so ≤ 2) {f : Nat → Nat × Nat × Bool} (hf : ∀ i, i < c 2 → SY σ ρ τ m s i (f i)) {σb : am_I} (hE : EqM σ σb) {x3 x4 : Int32} : ∀ (n i : Nat) (ra rb rc p : Nat → Int32) (x6 x7 : Value), i + n = c 2 → TM σ (c 2) so m f i ra rb rc → ∃ ra' rb' rc' p' y6, TM σ (c 2) so m f (c 2) ra' rb' rc' ∧ ∀ (d : Nat) (g : am_J) (Q : am_Q),
    AW (d + 5) 216 6 [.ref 160, .int (nI so), .int (nI m), .int x3, .int x4, .int (nI i), x6, x7] [] (am_ur (f_r3 σb ra rb rc) 214 p) ρ g τ Q = AW (d + 5) 216 116 [.ref 160, .int (nI so), .int (nI m), .int x3, .int x4, .int (nI (c 2)), y6, x7] [] (am_ur (f_r3 σb ra' rb' rc') 214 p') ρ g τ Q
  | 0, i, ra, rb, rc, p, x6, x7, h, hT => by
    have e : i = c 2 := by omega
    subst e
    refine ⟨ra, rb, rc, p, x6, hT, fun d g Q => ?_⟩
    have hP2 : σ 161 2 = nI (c 2) := hc.sc.2.2.1.2
    have k2 : am_inb 2 9 = true := by decide
    have e0 : am_ur (f_r3 σb ra rb rc) 214 p 161 2 = nI (c 2) := by rw [ur_ne _ _ _ (by decide), r3_ne (by decide) (by decide) (by decide), (hE 161 (by omega) (by omega)).2 2 (by decide)]; exact hP2
    have hle : nI (c 2) ≤ nI (c 2) := Int32.le_refl _
    simp only [s216_6, s216_8, s216_9, s216_12, s216_13, s216_14, k_160 hS, k_161 hS, l_161 hS, k_162 hS, l_162 hS, k_163 hS, l_163 hS, k_164 hS, l_164 hS, k_165 hS, l_165 hS, k_166 hS, l_166 hS, k_167 hS, l_167 hS, k_168 hS, l_168 hS, k_169 hS, l_169 hS, k_170 hS, l_170 hS, k_171 hS, l_171 hS, k_172 hS, l_172 hS, k_173 hS, l_173 hS, k_174 hS, l_174 hS, k_175 hS, l_175 hS, k_176 hS, l_176 hS, k_177 hS, l_177 hS, k_178 hS, l_178 hS, k_179 hS, l_179 hS, k_180 hS, l_180 hS, k_181 hS, l_181 hS, k_182 hS, l_182 hS, k_183 hS, l_183 hS, k_184 hS, l_184 hS, k_185 hS, l_185 hS, k_186 hS, l_186 hS, k_187 hS, l_187 hS, k_188 hS, l_188 hS, k_189 hS, l_189 hS, k_190 hS, l_190 hS, k_191 hS, l_191 hS, k_192 hS, l_192 hS, k_193 hS, l_193 hS, k_194 hS, l_194 hS, k_195 hS, l_195 hS, k_196 hS, l_196 hS, k_197 hS, l_197 hS, k_198 hS, l_198 hS, k_199 hS, l_199 hS, k_200 hS, l_200 hS, k_201 hS, l_201 hS, k_202 hS, l_202 hS, k_203 hS, l_203 hS, k_204 hS, l_204 hS, k_205 hS, l_205 hS, k_206 hS, l_206 hS, k_207 hS, l_207 hS, k_208 hS, l_208 hS, k_209 hS, l_209 hS, k_210 hS, l_210 hS, k_211 hS, l_211 hS, k_212 hS, l_212 hS, k_213 hS, l_213 hS, k_214 hS, l_214 hS, k_215 hS, l_215 hS, k_216 hS, l_216 hS, k_217 hS, l_217 hS, k_218 hS, l_218 hS, k_219 hS, l_219 hS, k_220 hS, l_220 hS, r_160_0 hS, r_160_1 hS, r_160_2 hS, r_160_3 hS, r_160_4 hS, r_160_5 hS, r_160_6 hS, r_160_7 hS, r_160_8 hS, r_160_9 hS, r_160_10 hS, r_160_11 hS, r_160_12 hS, r_160_13 hS, r_160_14 hS, r_160_15 hS, r_160_16 hS, r_160_17 hS, r_160_18 hS, r_160_19 hS, r_160_20 hS, r_160_21 hS, r_160_22 hS, r_160_23 hS, r_160_24 hS, r_160_25 hS, r_160_26 hS, r_160_27 hS, r_160_28 hS, r_160_29 hS, r_160_30 hS, r_160_31 hS, r_160_32 hS, r_160_33 hS, r_160_34 hS, r_160_35 hS, r_160_36 hS, r_160_37 hS, r_160_38 hS, r_160_39 hS, r_160_40 hS, r_160_41 hS, r_160_43 hS, r_160_45 hS, r_160_46 hS, r_160_48 hS, r_160_49 hS, r_160_50 hS, r_160_51 hS, r_160_52 hS, r_160_53 hS, r_160_54 hS, r_160_56 hS, r_160_63 hS, r_160_64 hS, r_160_65 hS, r_160_66 hS, r_160_67 hS, r_160_68 hS, r_160_69 hS, ol_s, ol_n, ln_0, ln_1, ln_2, ln_3, ln_4, eq_self, rf_s, rf_n, i01_0, i01_n0, i01_b, b01_0, b01_1, and_self, and_true, true_and, and_false, false_and, if_true, if_false, not_true_eq_false, not_false_eq_true, e10, e00, lt_bg, Nat.reduceLT, Nat.reduceLeDiff, k2, z2, e0, hle]
  | n + 1, i, ra, rb, rc, p, x6, x7, h, hT => by
    have b := hc.bn
    unfold Bn at b
    have hP2 : σ 161 2 = nI (c 2) := hc.sc.2.2.1.2
    have k2 : am_inb 2 9 = true := by decide
    have t0 : ∀ a b c p y, 162 ≤ y → y < 201 → am_ur (f_r3 σb a b c) 214 p y = σ y := fun a b c p y h1 h2 => by rw [ur_ne _ _ _ (by omega), r3_ne (by omega) (by omega) (by omega), (hE y (by omega) h2).1 (by omega)]
    have tE : ∀ a b c, EqM σ (f_r3 σb a b c) := fun a b c y h1 h2 => by rw [r3_ne (by omega) (by omega) (by omega)]; exact hE y h1 h2
    have e0 : ∀ a b c' p, am_ur (f_r3 σb a b c') 214 p 161 2 = nI (c 2) := fun a b c' p => by rw [ur_ne _ _ _ (by decide), r3_ne (by decide) (by decide) (by decide), (hE 161 (by omega) (by omega)).2 2 (by decide)]; exact hP2
    have hlt : ¬ nI (c 2) ≤ nI i := nI_ge (by omega) (by omega)
    have hD : i < c 2 := by omega
    have hi : am_inb (nI i) 16 = true := inb_n (by omega) (by decide)
    have hci : (nI i).toNatClampNeg = i := nI_clamp (by omega)
    obtain ⟨⟨q1, q2, q3, q4, q5, q6, q7⟩, _, ⟨a1, a2, a3, a4, a5, a6⟩⟩ := dN (hc.db i hD)
    obtain ⟨s1, s2, s3, s4, s5, s6, s7, s8⟩ := hf i hD
    have u1 : ∀ a b c p, am_ur (f_r3 σb a b c) 214 p 172 i = nI (dSo σ i) := fun a b c p => by rw [t0 _ _ _ _ _ (by omega) (by omega)]; exact a1
    have u6 : ∀ a b c p, am_ur (f_r3 σb a b c) 214 p 176 i = nI (dOw σ i) := fun a b c p => by rw [t0 _ _ _ _ _ (by omega) (by omega)]; exact a5
    have y1 : b2i true = 1 := by decide
    have y0 : b2i false = 0 := by decide
    have nn : ((1 : Int32) = 0) = False := by decide
    by_cases sh : shB σ (c 2) so f i = true
    · have sh2 := sh
      unfold shB at sh2
      simp only [Bool.and_eq_true, decide_eq_true_eq, Bool.not_eq_true'] at sh2
      obtain ⟨⟨_, z1⟩, z2'⟩ := sh2
      have z1' : nI (dSo σ i) = nI so := by rw [z1]
      rw [z2'] at s7 s8
      rw [y0] at s7
      simp only [Bool.false_eq_true, if_false] at s8
      obtain ⟨p1, P1⟩ := s7 (f_r3 σb ra rb rc) p (tE _ _ _)
      obtain ⟨p2, P2⟩ := s8 (f_r3 σb ra rb rc) p1 (tE _ _ _)
      have w1 : nI (shW σ (c 2) so m f i) = nI (f_cs (dSm σ i) (dEv σ i) (dCm σ i) m (f i).2.1 + dOw σ i) := by unfold shW; rw [if_pos sh]
      obtain ⟨p3, P3⟩ := s6 (f_r3 σb (fun j => if j = i then nI (f_cs (dSm σ i) (dEv σ i) (dCm σ i) m (f i).2.1 + dOw σ i) else ra j) (fun j => if j = i then 0 else rb j) rc) p2 (tE _ _ _)
      obtain ⟨ra', rb', rc', p', y6, R1, R2⟩ := c216A hS hc hso hf hE (x3 := x3) (x4 := x4) n (i + 1) _ _ _ p3 (.int 1) x7 (by omega) (hT.s (x1 := nI (f_cs (dSm σ i) (dEv σ i) (dCm σ i) m (f i).2.1 + dOw σ i)) (x2 := 0) (x3 := nI (f i).1) w1.symm rfl (by rw [if_pos sh]))
      refine ⟨ra', rb', rc', p', y6, R1, fun d g Q => ?_⟩
      have R2 := R2 d g Q
      rw [s216_6]
      simp only [s216_8, s216_9, s216_12, s216_13, s216_14, s216_17, s216_18, s216_21, s216_23, s216_24, s216_25, s216_28, s216_29, s216_31, s216_32, s216_35, s216_38, s216_39, s216_42, s216_43, s216_45, s216_46, s216_49, s216_51, s216_53, s216_56, s216_57, s216_59, s216_60, s216_63, s216_64, s216_67, s216_69, s216_70, s216_71, s216_74, s216_75, s216_76, s216_77, s216_80, s216_82, s216_83, s216_84, s216_85, s216_88, s216_90, s216_92, s216_95, s216_96, s216_97, s216_99, s216_100, s216_102, s216_105, s216_108, s216_109, s216_110, s216_113, k_160 hS, k_161 hS, l_161 hS, k_162 hS, l_162 hS, k_163 hS, l_163 hS, k_164 hS, l_164 hS, k_165 hS, l_165 hS, k_166 hS, l_166 hS, k_167 hS, l_167 hS, k_168 hS, l_168 hS, k_169 hS, l_169 hS, k_170 hS, l_170 hS, k_171 hS, l_171 hS, k_172 hS, l_172 hS, k_173 hS, l_173 hS, k_174 hS, l_174 hS, k_175 hS, l_175 hS, k_176 hS, l_176 hS, k_177 hS, l_177 hS, k_178 hS, l_178 hS, k_179 hS, l_179 hS, k_180 hS, l_180 hS, k_181 hS, l_181 hS, k_182 hS, l_182 hS, k_183 hS, l_183 hS, k_184 hS, l_184 hS, k_185 hS, l_185 hS, k_186 hS, l_186 hS, k_187 hS, l_187 hS, k_188 hS, l_188 hS, k_189 hS, l_189 hS, k_190 hS, l_190 hS, k_191 hS, l_191 hS, k_192 hS, l_192 hS, k_193 hS, l_193 hS, k_194 hS, l_194 hS, k_195 hS, l_195 hS, k_196 hS, l_196 hS, k_197 hS, l_197 hS, k_198 hS, l_198 hS, k_199 hS, l_199 hS, k_200 hS, l_200 hS, k_201 hS, l_201 hS, k_202 hS, l_202 hS, k_203 hS, l_203 hS, k_204 hS, l_204 hS, k_205 hS, l_205 hS, k_206 hS, l_206 hS, k_207 hS, l_207 hS, k_208 hS, l_208 hS, k_209 hS, l_209 hS, k_210 hS, l_210 hS, k_211 hS, l_211 hS, k_212 hS, l_212 hS, k_213 hS, l_213 hS, k_214 hS, l_214 hS, k_215 hS, l_215 hS, k_216 hS, l_216 hS, k_217 hS, l_217 hS, k_218 hS, l_218 hS, k_219 hS, l_219 hS, k_220 hS, l_220 hS, r_160_0 hS, r_160_1 hS, r_160_2 hS, r_160_3 hS, r_160_4 hS, r_160_5 hS, r_160_6 hS, r_160_7 hS, r_160_8 hS, r_160_9 hS, r_160_10 hS, r_160_11 hS, r_160_12 hS, r_160_13 hS, r_160_14 hS, r_160_15 hS, r_160_16 hS, r_160_17 hS, r_160_18 hS, r_160_19 hS, r_160_20 hS, r_160_21 hS, r_160_22 hS, r_160_23 hS, r_160_24 hS, r_160_25 hS, r_160_26 hS, r_160_27 hS, r_160_28 hS, r_160_29 hS, r_160_30 hS, r_160_31 hS, r_160_32 hS, r_160_33 hS, r_160_34 hS, r_160_35 hS, r_160_36 hS, r_160_37 hS, r_160_38 hS, r_160_39 hS, r_160_40 hS, r_160_41 hS, r_160_43 hS, r_160_45 hS, r_160_46 hS, r_160_48 hS, r_160_49 hS, r_160_50 hS, r_160_51 hS, r_160_52 hS, r_160_53 hS, r_160_54 hS, r_160_56 hS, r_160_63 hS, r_160_64 hS, r_160_65 hS, r_160_66 hS, r_160_67 hS, r_160_68 hS, r_160_69 hS, ol_s, ol_n, ln_0, ln_1, ln_2, ln_3, ln_4, eq_self, rf_s, rf_n, i01_0, i01_n0, i01_b, b01_0, b01_1, and_self, and_true, true_and, and_false, false_and, if_true, if_false, not_true_eq_false, not_false_eq_true, e10, e00, lt_bg, Nat.reduceLT, Nat.reduceLeDiff, k2, z2, e0, hlt, hi, hci, u1, z1', P1, P2, u6, nI_add, r3_a, r3_b, P3, r3_c, nI_1]
      exact R2
    · have sh2 : shB σ (c 2) so f i = false := by
        cases hh : shB σ (c 2) so f i
        · rfl
        · exact absurd hh sh
      have w0 : (0 : Int32) = nI (shW σ (c 2) so m f i) := by unfold shW; rw [if_neg sh]; rfl
      by_cases z1 : dSo σ i = so
      · have z1' : nI (dSo σ i) = nI so := by rw [z1]
        have o : (decide (dVo σ i = 1) || (f i).2.2) = true := by
          unfold shB at sh2
          simp only [hD, z1, decide_true, Bool.true_and, Bool.not_eq_false'] at sh2
          exact sh2
        rw [o, y1] at s7
        obtain ⟨p1, P1⟩ := s7 (f_r3 σb ra rb rc) p (tE _ _ _)
        obtain ⟨ra', rb', rc', p', y6, R1, R2⟩ := c216A hS hc hso hf hE (x3 := x3) (x4 := x4) n (i + 1) _ _ _ p1 (.int 0) x7 (by omega) (hT.s (x1 := 0) (x2 := 0) (x3 := -1) w0 rfl (by rw [if_neg sh]))
        refine ⟨ra', rb', rc', p', y6, R1, fun d g Q => ?_⟩
        have R2 := R2 d g Q
        rw [s216_6]
        simp only [s216_8, s216_9, s216_12, s216_13, s216_14, s216_17, s216_18, s216_21, s216_23, s216_24, s216_25, s216_28, s216_29, s216_31, s216_32, s216_35, s216_38, s216_39, s216_42, s216_43, s216_45, s216_46, s216_49, s216_51, s216_53, s216_56, s216_57, s216_59, s216_60, s216_63, s216_64, s216_67, s216_69, s216_70, s216_71, s216_74, s216_75, s216_76, s216_77, s216_80, s216_82, s216_83, s216_84, s216_85, s216_88, s216_90, s216_92, s216_95, s216_96, s216_97, s216_99, s216_100, s216_102, s216_105, s216_108, s216_109, s216_110, s216_113, k_160 hS, k_161 hS, l_161 hS, k_162 hS, l_162 hS, k_163 hS, l_163 hS, k_164 hS, l_164 hS, k_165 hS, l_165 hS, k_166 hS, l_166 hS, k_167 hS, l_167 hS, k_168 hS, l_168 hS, k_169 hS, l_169 hS, k_170 hS, l_170 hS, k_171 hS, l_171 hS, k_172 hS, l_172 hS, k_173 hS, l_173 hS, k_174 hS, l_174 hS, k_175 hS, l_175 hS, k_176 hS, l_176 hS, k_177 hS, l_177 hS, k_178 hS, l_178 hS, k_179 hS, l_179 hS, k_180 hS, l_180 hS, k_181 hS, l_181 hS, k_182 hS, l_182 hS, k_183 hS, l_183 hS, k_184 hS, l_184 hS, k_185 hS, l_185 hS, k_186 hS, l_186 hS, k_187 hS, l_187 hS, k_188 hS, l_188 hS, k_189 hS, l_189 hS, k_190 hS, l_190 hS, k_191 hS, l_191 hS, k_192 hS, l_192 hS, k_193 hS, l_193 hS, k_194 hS, l_194 hS, k_195 hS, l_195 hS, k_196 hS, l_196 hS, k_197 hS, l_197 hS, k_198 hS, l_198 hS, k_199 hS, l_199 hS, k_200 hS, l_200 hS, k_201 hS, l_201 hS, k_202 hS, l_202 hS, k_203 hS, l_203 hS, k_204 hS, l_204 hS, k_205 hS, l_205 hS, k_206 hS, l_206 hS, k_207 hS, l_207 hS, k_208 hS, l_208 hS, k_209 hS, l_209 hS, k_210 hS, l_210 hS, k_211 hS, l_211 hS, k_212 hS, l_212 hS, k_213 hS, l_213 hS, k_214 hS, l_214 hS, k_215 hS, l_215 hS, k_216 hS, l_216 hS, k_217 hS, l_217 hS, k_218 hS, l_218 hS, k_219 hS, l_219 hS, k_220 hS, l_220 hS, r_160_0 hS, r_160_1 hS, r_160_2 hS, r_160_3 hS, r_160_4 hS, r_160_5 hS, r_160_6 hS, r_160_7 hS, r_160_8 hS, r_160_9 hS, r_160_10 hS, r_160_11 hS, r_160_12 hS, r_160_13 hS, r_160_14 hS, r_160_15 hS, r_160_16 hS, r_160_17 hS, r_160_18 hS, r_160_19 hS, r_160_20 hS, r_160_21 hS, r_160_22 hS, r_160_23 hS, r_160_24 hS, r_160_25 hS, r_160_26 hS, r_160_27 hS, r_160_28 hS, r_160_29 hS, r_160_30 hS, r_160_31 hS, r_160_32 hS, r_160_33 hS, r_160_34 hS, r_160_35 hS, r_160_36 hS, r_160_37 hS, r_160_38 hS, r_160_39 hS, r_160_40 hS, r_160_41 hS, r_160_43 hS, r_160_45 hS, r_160_46 hS, r_160_48 hS, r_160_49 hS, r_160_50 hS, r_160_51 hS, r_160_52 hS, r_160_53 hS, r_160_54 hS, r_160_56 hS, r_160_63 hS, r_160_64 hS, r_160_65 hS, r_160_66 hS, r_160_67 hS, r_160_68 hS, r_160_69 hS, ol_s, ol_n, ln_0, ln_1, ln_2, ln_3, ln_4, eq_self, rf_s, rf_n, i01_0, i01_n0, i01_b, b01_0, b01_1, and_self, and_true, true_and, and_false, false_and, if_true, if_false, not_true_eq_false, not_false_eq_true, e10, e00, lt_bg, Nat.reduceLT, Nat.reduceLeDiff, k2, z2, e0, hlt, hi, hci, u1, z1', P1, r3_a, r3_b, r3_c, nI_1]
        exact R2
      · have z1' : ¬ nI (dSo σ i) = nI so := fun e => z1 ((nI_eq (by omega) (by omega)).mp e)
        obtain ⟨ra', rb', rc', p', y6, R1, R2⟩ := c216A hS hc hso hf hE (x3 := x3) (x4 := x4) n (i + 1) _ _ _ p (.int 0) x7 (by omega) (hT.s (x1 := 0) (x2 := 0) (x3 := -1) w0 rfl (by rw [if_neg sh]))
        refine ⟨ra', rb', rc', p', y6, R1, fun d g Q => ?_⟩
        have R2 := R2 d g Q
        rw [s216_6]
        simp only [s216_8, s216_9, s216_12, s216_13, s216_14, s216_17, s216_18, s216_21, s216_23, s216_24, s216_25, s216_28, s216_29, s216_31, s216_32, s216_35, s216_38, s216_39, s216_42, s216_43, s216_45, s216_46, s216_49, s216_51, s216_53, s216_56, s216_57, s216_59, s216_60, s216_63, s216_64, s216_67, s216_69, s216_70, s216_71, s216_74, s216_75, s216_76, s216_77, s216_80, s216_82, s216_83, s216_84, s216_85, s216_88, s216_90, s216_92, s216_95, s216_96, s216_97, s216_99, s216_100, s216_102, s216_105, s216_108, s216_109, s216_110, s216_113, k_160 hS, k_161 hS, l_161 hS, k_162 hS, l_162 hS, k_163 hS, l_163 hS, k_164 hS, l_164 hS, k_165 hS, l_165 hS, k_166 hS, l_166 hS, k_167 hS, l_167 hS, k_168 hS, l_168 hS, k_169 hS, l_169 hS, k_170 hS, l_170 hS, k_171 hS, l_171 hS, k_172 hS, l_172 hS, k_173 hS, l_173 hS, k_174 hS, l_174 hS, k_175 hS, l_175 hS, k_176 hS, l_176 hS, k_177 hS, l_177 hS, k_178 hS, l_178 hS, k_179 hS, l_179 hS, k_180 hS, l_180 hS, k_181 hS, l_181 hS, k_182 hS, l_182 hS, k_183 hS, l_183 hS, k_184 hS, l_184 hS, k_185 hS, l_185 hS, k_186 hS, l_186 hS, k_187 hS, l_187 hS, k_188 hS, l_188 hS, k_189 hS, l_189 hS, k_190 hS, l_190 hS, k_191 hS, l_191 hS, k_192 hS, l_192 hS, k_193 hS, l_193 hS, k_194 hS, l_194 hS, k_195 hS, l_195 hS, k_196 hS, l_196 hS, k_197 hS, l_197 hS, k_198 hS, l_198 hS, k_199 hS, l_199 hS, k_200 hS, l_200 hS, k_201 hS, l_201 hS, k_202 hS, l_202 hS, k_203 hS, l_203 hS, k_204 hS, l_204 hS, k_205 hS, l_205 hS, k_206 hS, l_206 hS, k_207 hS, l_207 hS, k_208 hS, l_208 hS, k_209 hS, l_209 hS, k_210 hS, l_210 hS, k_211 hS, l_211 hS, k_212 hS, l_212 hS, k_213 hS, l_213 hS, k_214 hS, l_214 hS, k_215 hS, l_215 hS, k_216 hS, l_216 hS, k_217 hS, l_217 hS, k_218 hS, l_218 hS, k_219 hS, l_219 hS, k_220 hS, l_220 hS, r_160_0 hS, r_160_1 hS, r_160_2 hS, r_160_3 hS, r_160_4 hS, r_160_5 hS, r_160_6 hS, r_160_7 hS, r_160_8 hS, r_160_9 hS, r_160_10 hS, r_160_11 hS, r_160_12 hS, r_160_13 hS, r_160_14 hS, r_160_15 hS, r_160_16 hS, r_160_17 hS, r_160_18 hS, r_160_19 hS, r_160_20 hS, r_160_21 hS, r_160_22 hS, r_160_23 hS, r_160_24 hS, r_160_25 hS, r_160_26 hS, r_160_27 hS, r_160_28 hS, r_160_29 hS, r_160_30 hS, r_160_31 hS, r_160_32 hS, r_160_33 hS, r_160_34 hS, r_160_35 hS, r_160_36 hS, r_160_37 hS, r_160_38 hS, r_160_39 hS, r_160_40 hS, r_160_41 hS, r_160_43 hS, r_160_45 hS, r_160_46 hS, r_160_48 hS, r_160_49 hS, r_160_50 hS, r_160_51 hS, r_160_52 hS, r_160_53 hS, r_160_54 hS, r_160_56 hS, r_160_63 hS, r_160_64 hS, r_160_65 hS, r_160_66 hS, r_160_67 hS, r_160_68 hS, r_160_69 hS, ol_s, ol_n, ln_0, ln_1, ln_2, ln_3, ln_4, eq_self, rf_s, rf_n, i01_0, i01_n0, i01_b, b01_0, b01_1, and_self, and_true, true_and, and_false, false_and, if_true, if_false, not_true_eq_false, not_false_eq_true, e10, e00, lt_bg, Nat.reduceLT, Nat.reduceLeDiff, k2, z2, e0, hlt, hi, hci, u1, z1', r3_a, r3_b, r3_c, nI_1]
        exact R2
/-- a pot shared: the numbers of both sides -/
theorem shW_le {c : Cn} (hc : Rld 1 161 c σ ρ τ) {so m : Nat} {f : Nat → Nat × Nat × Bool} (i : Nat) : shW σ (c 2) so m f i ≤ 10998 := by
  unfold shW
  split
  · rename_i h
    have hD : i < c 2 := by
      unfold shB at h
      simp only [Bool.and_eq_true, decide_eq_true_eq] at h
      exact h.1.1
    obtain ⟨⟨_, q2, _, _, _, q6, _⟩, _⟩ := dN (hc.db i hD)
    have := cs_le (sm := dSm σ i) (ev := dEv σ i) (cm := dCm σ i) (m := m) (ct := (f i).2.1)
    omega
  · omega
theorem c216 (hS : Sh ρ τ) {c : Cn} (hc : Rld 1 161 c σ ρ τ) {m so s : Nat} (hso : so ≤ 2) {f : Nat → Nat × Nat × Bool} (hf : ∀ i, i < c 2 → SY σ ρ τ m s i (f i)) {σb : am_I} (hE : EqM σ σb) {R : Nat} (hR : R ≤ 15984) : ∃ ra rb rc p, (∀ j, j < c 2 → ra j = nI (shW σ (c 2) so m f j) ∧ rb j = nI ((shIt (shW σ (c 2) so m f) (shK σ (c 2) so f) 10 0 R (fun _ => 0)).2 j) ∧ rc j = (if shB σ (c 2) so f j = true then nI (f j).1 else -1)) ∧ ∀ (d : Nat) (g : am_J) (Q : am_Q),
    AW (d + 5) 216 0 [.ref 160, .int (nI so), .int (nI m), .int (nI R), am_jk, am_jk, am_jk, am_jk] [] σb ρ g τ Q = Q (some (.int (nI (shIt (shW σ (c 2) so m f) (shK σ (c 2) so f) 10 0 R (fun _ => 0)).1))) (am_ur (f_r3 σb ra rb rc) 214 p) ρ g τ := by
  have b := hc.bn
  unfold Bn at b
  have z0' : nI 0 = (0 : Int32) := rfl
  obtain ⟨ra, rb, rc, p, y6, T1, T2⟩ := c216A hS hc hso hf hE (x3 := nI R) (x4 := nI R) (c 2) 0 (σb 215) (σb 216) (σb 217) (σb 214) am_jk am_jk (by omega) (fun j hj => absurd hj (Nat.not_lt_zero _))
  have s0 : am_ur (f_r3 σb (σb 215) (σb 216) (σb 217)) 214 (σb 214) = σb := by
    funext y
    unfold f_r3 am_ur
    by_cases e : y = 214
    · rw [if_pos e, e]
    · rw [if_neg e]
      by_cases e7 : y = 217
      · rw [if_pos e7, e7]
      · rw [if_neg e7]
        by_cases e6 : y = 216
        · rw [if_pos e6, e6]
        · rw [if_neg e6]
          by_cases e5 : y = 215
          · rw [if_pos e5, e5]
          · rw [if_neg e5]
  rw [s0, z0'] at T2
  -- the same heap with the gives told last
  have s1 : ∀ w, am_ur (f_r3 σb ra w rc) 214 p = am_ur (am_ur (am_ur (am_ur σb 215 ra) 217 rc) 214 p) 216 w := fun w => by
    funext y
    unfold f_r3 am_ur
    by_cases e : y = 216
    · simp [e]
    · by_cases e4 : y = 214
      · simp [e4]
      · by_cases e7 : y = 217
        · simp [e7]
        · simp [e, e4, e7]
  have kB : ∀ i, shB σ (c 2) so f i = true → i < c 2 := fun i h => by
    unfold shB at h
    simp only [Bool.and_eq_true, decide_eq_true_eq] at h
    exact h.1.1
  have hK : KM (am_ur (am_ur (am_ur σb 215 ra) 217 rc) 214 p) (shW σ (c 2) so m f) (shK σ (c 2) so f) (c 2) := by
    refine ⟨fun i hi => ?_, fun i hi => ⟨shW_le hc i, ?_⟩, fun i hi => ?_, by omega, ?_⟩
    · have e : am_ur (am_ur (am_ur σb 215 ra) 217 rc) 214 p 217 i = rc i := by rw [ur_ne _ _ _ (by decide), ur_at]
      rw [e, (T1 i hi).2.2]
      unfold shK shW
      by_cases sh : shB σ (c 2) so f i = true
      · rw [if_pos sh, if_pos sh]
        exact Or.inl ⟨(hf i hi).1, rfl⟩
      · rw [if_neg sh, if_neg sh, if_neg sh]
        exact Or.inr ⟨rfl, rfl, rfl⟩
    · rw [ur_ne _ _ _ (by decide), ur_ne _ _ _ (by decide), ur_at]
      exact (T1 i hi).1
    · unfold shK
      rw [if_neg (fun h => absurd (kB i h) (by omega))]
    · rw [ur_ne _ _ _ (by decide), ur_ne _ _ _ (by decide), ur_ne _ _ _ (by decide), (hE 161 (by omega) (by omega)).2 2 (by decide)]
      exact hc.sc.2.2.1.2
  obtain ⟨w', P1, P2⟩ := c216L hS hK (x1 := nI so) (x2 := nI m) (x3 := nI R) 10 0 R (fun _ => 0) rb y6 am_jk (by omega) hR (fun j hj => (T1 j hj).2.1) (fun _ _ _ => rfl) (fun _ => Nat.zero_le _)
  refine ⟨ra, w', rc, p, fun j hj => ⟨(T1 j hj).1, P1 j hj, (T1 j hj).2.2⟩, fun d g Q => ?_⟩
  have T2 := T2 d g Q
  have P2 := P2 (d + 4) g Q
  rw [← s1, ← s1, z0'] at P2
  simp only [s216_0, s216_1, s216_3, s216_4, T2]
  simp only [s216_116, s216_117]
  exact P2
end OBH
