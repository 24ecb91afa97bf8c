/-! a month: what is owed and got, on both sides -/
section OBJ
variable {d : Nat} {σ : am_I} {ρ : am_R} {g : am_J} {τ : am_T} {Q : am_Q}
/-- settle: the class's debts -/
def f_seC (B : Nat → Bool) (W G : Nat → Nat) (σ : am_I) : Nat → am_I
  | 0 => σ
  | i + 1 => if B i = true then am_u (am_u (f_seC B W G σ i) (34 + 2 * i) 6 (nI (min 9999 (W i - G i)))) (34 + 2 * i) 7 (f_seC B W G σ i (34 + 2 * i) 7 + nI (G i)) else f_seC B W G σ i
/-- the reference's -/
def f_seM (B : Nat → Bool) (W G : Nat → Nat) (σ : am_I) : Nat → am_I
  | 0 => σ
  | i + 1 => if B i = true then am_u (am_u (f_seM B W G σ i) 178 i (f_seM B W G σ i 178 i + nI (G i))) 176 i (nI (min 9999 (W i - G i))) else f_seM B W G σ i
theorem seC_ne {B : Nat → Bool} {W G : Nat → Nat} {y : Nat} : ∀ n, (∀ i, i < n → y ≠ 34 + 2 * i) → f_seC B W G σ n y = σ y
  | 0, _ => rfl
  | n + 1, h => by
    unfold f_seC
    by_cases q : B n = true
    · rw [if_pos q, u_ne _ _ _ _ (h n (by omega)), u_ne _ _ _ _ (h n (by omega))]
      exact seC_ne n (fun i hi => h i (by omega))
    · rw [if_neg q]
      exact seC_ne n (fun i hi => h i (by omega))
theorem seC_k {B : Nat → Bool} {W G : Nat → Nat} {y k : Nat} (hk : k ≠ 6) (hk2 : k ≠ 7) : ∀ n, f_seC B W G σ n y k = σ y k
  | 0 => rfl
  | n + 1 => by
    unfold f_seC
    by_cases q : B n = true
    · rw [if_pos q]
      by_cases e : y = 34 + 2 * n
      · subst e
        rw [u_nk _ _ _ _ hk2, u_nk _ _ _ _ hk]
        exact seC_k hk hk2 n
      · rw [u_ne _ _ _ _ e, u_ne _ _ _ _ e]
        exact seC_k hk hk2 n
    · rw [if_neg q]
      exact seC_k hk hk2 n
theorem seC_at {B : Nat → Bool} {W G : Nat → Nat} {i : Nat} : ∀ n, f_seC B W G σ n (34 + 2 * i) 6 = (if i < n ∧ B i = true then nI (min 9999 (W i - G i)) else σ (34 + 2 * i) 6) ∧ f_seC B W G σ n (34 + 2 * i) 7 = (if i < n ∧ B i = true then σ (34 + 2 * i) 7 + nI (G i) else σ (34 + 2 * i) 7)
  | 0 => by
    rw [if_neg (fun h => absurd h.1 (Nat.not_lt_zero _)), if_neg (fun h => absurd h.1 (Nat.not_lt_zero _))]
    exact ⟨rfl, rfl⟩
  | n + 1 => by
    obtain ⟨a, b⟩ := seC_at (B := B) (W := W) (G := G) (i := i) n
    unfold f_seC
    by_cases e : i = n
    · subst e
      rw [if_neg (fun h => absurd h.1 (Nat.lt_irrefl _))] at a b
      by_cases q : B i = true
      · rw [if_pos q, if_pos ⟨by omega, q⟩, if_pos ⟨by omega, q⟩]
        refine ⟨?_, ?_⟩
        · rw [u_nk _ _ _ _ (by decide), u_at]
        · rw [u_at, b]
      · rw [if_neg q, if_neg (fun h => q h.2), if_neg (fun h => q h.2)]
        exact ⟨a, b⟩
    · have e2 : (i < n + 1 ∧ B i = true) = (i < n ∧ B i = true) := propext ⟨fun h => ⟨by omega, h.2⟩, fun h => ⟨by omega, h.2⟩⟩
      simp only [e2]
      by_cases q : B n = true
      · rw [if_pos q, u_ne _ _ _ _ (by omega), u_ne _ _ _ _ (by omega)]
        exact ⟨a, b⟩
      · rw [if_neg q]
        exact ⟨a, b⟩
theorem seM_ne {B : Nat → Bool} {W G : Nat → Nat} {y : Nat} (h1 : y ≠ 176) (h2 : y ≠ 178) : ∀ n, f_seM B W G σ n y = σ y
  | 0 => rfl
  | n + 1 => by
    unfold f_seM
    by_cases q : B n = true
    · rw [if_pos q, u_ne _ _ _ _ h1, u_ne _ _ _ _ h2]
      exact seM_ne h1 h2 n
    · rw [if_neg q]
      exact seM_ne h1 h2 n
theorem seM_at {B : Nat → Bool} {W G : Nat → Nat} {i : Nat} : ∀ n, f_seM B W G σ n 176 i = (if i < n ∧ B i = true then nI (min 9999 (W i - G i)) else σ 176 i) ∧ f_seM B W G σ n 178 i = (if i < n ∧ B i = true then σ 178 i + nI (G i) else σ 178 i)
  | 0 => by
    rw [if_neg (fun h => absurd h.1 (Nat.not_lt_zero _)), if_neg (fun h => absurd h.1 (Nat.not_lt_zero _))]
    exact ⟨rfl, rfl⟩
  | n + 1 => by
    obtain ⟨a, b⟩ := seM_at (B := B) (W := W) (G := G) (i := i) n
    unfold f_seM
    by_cases e : i = n
    · subst e
      rw [if_neg (fun h => absurd h.1 (Nat.lt_irrefl _))] at a b
      by_cases q : B i = true
      · rw [if_pos q, if_pos ⟨by omega, q⟩, if_pos ⟨by omega, q⟩]
        refine ⟨?_, ?_⟩
        · rw [u_at]
        · rw [u_ne _ _ _ _ (by decide), u_at, b]
      · rw [if_neg q, if_neg (fun h => q h.2), if_neg (fun h => q h.2)]
        exact ⟨a, b⟩
    · have e2 : (i < n + 1 ∧ B i = true) = (i < n ∧ B i = true) := propext ⟨fun h => ⟨by omega, h.2⟩, fun h => ⟨by omega, h.2⟩⟩
      simp only [e2]
      by_cases q : B n = true
      · rw [if_pos q]
        refine ⟨?_, ?_⟩
        · rw [u_nk _ _ _ _ e, u_ne _ _ _ _ (by decide)]
          exact a
        · rw [u_ne _ _ _ _ (by decide), u_nk _ _ _ _ e]
          exact b
      · rw [if_neg q]
        exact ⟨a, b⟩
/-- the same update of heaps that agree -/
theorem seC_eq {B : Nat → Bool} {W G : Nat → Nat} {σ1 : am_I} (E : EqC σ σ1) : ∀ n, n ≤ 16 → EqC (f_seC B W G σ n) (f_seC B W G σ1 n)
  | 0, _ => E
  | n + 1, h => by
    have ih := seC_eq (B := B) (W := W) (G := G) E n (by omega)
    unfold f_seC
    by_cases q : B n = true
    · rw [if_pos q, if_pos q]
      intro y hy
      have e := ih (34 + 2 * n) (Or.inl (by omega))
      funext k
      simp only [u_eq, e, ih y hy]
    · rw [if_neg q, if_neg q]
      exact ih
theorem seM_eq {B : Nat → Bool} {W G : Nat → Nat} {σ1 : am_I} (E : EqM σ σ1) : ∀ n, EqM (f_seM B W G σ n) (f_seM B W G σ1 n)
  | 0 => E
  | n + 1 => by
    have ih := seM_eq (B := B) (W := W) (G := G) E n
    unfold f_seM
    by_cases q : B n = true
    · rw [if_pos q, if_pos q]
      intro y h1 h2
      have e := (ih 178 (by omega) (by omega)).1 (by decide)
      refine ⟨fun hy => ?_, fun k hk => ?_⟩
      · funext k
        simp only [u_eq, e, (ih y h1 h2).1 hy]
      · simp only [u_eq, e, (ih y h1 h2).2 k hk]
    · rw [if_neg q, if_neg q]
      exact ih
theorem min_n {a b : Nat} (ha : a < 2 ^ 30) (hb : b < 2 ^ 30) : (if nI b < nI a then nI b else nI a) = nI (min a b) := by
  by_cases q : b < a
  · rw [if_pos (nI_lt q (by omega)), Nat.min_eq_right (by omega)]
  · rw [if_neg (nI_nlt (by omega) (by omega)), Nat.min_eq_left (by omega)]
/-- Land.addToTreasury -/
theorem c31 (hS : Sh ρ τ) {t x : Nat} (ht : σ 1 1 = nI t) (ht2 : t ≤ 99999) (hx : x ≤ 99999) : AW d 31 0 [.ref 1, .int (nI x)] [] σ ρ g τ Q = Q none (am_u σ 1 1 (nI (min 99999 (t + x)))) ρ g τ := by
  have m := min_n (a := 99999) (b := t + x) (by omega) (by omega)
  have e : nI 99999 = 99999 := by decide
  rw [e] at m
  simp only [s31_0, s31_1, s31_3, s31_4, s31_7, s31_8, s31_9, s31_12, s31_15, k_0 hS, k_1 hS, k_2 hS, l_2 hS, k_3 hS, l_3 hS, k_4 hS, l_4 hS, k_5 hS, l_5 hS, k_6 hS, l_6 hS, k_7 hS, k_8 hS, l_8 hS, k_9 hS, l_9 hS, k_10 hS, k_11 hS, l_11 hS, k_12 hS, k_13 hS, l_13 hS, k_14 hS, k_15 hS, l_15 hS, k_16 hS, k_17 hS, l_17 hS, k_66 hS, k_67 hS, l_67 hS, k_68 hS, l_68 hS, k_69 hS, l_69 hS, k_70 hS, l_70 hS, k_71 hS, l_71 hS, k_72 hS, k_73 hS, l_73 hS, k_74 hS, l_74 hS, k_75 hS, k_76 hS, l_76 hS, k_77 hS, k_78 hS, l_78 hS, k_79 hS, k_80 hS, l_80 hS, k_81 hS, k_82 hS, l_82 hS, k_131 hS, k_132 hS, l_132 hS, k_133 hS, l_133 hS, k_134 hS, l_134 hS, k_135 hS, k_136 hS, l_136 hS, k_137 hS, l_137 hS, k_138 hS, l_138 hS, k_139 hS, l_139 hS, k_140 hS, k_141 hS, l_141 hS, k_142 hS, l_142 hS, k_143 hS, k_144 hS, l_144 hS, k_145 hS, k_146 hS, l_146 hS, k_147 hS, l_147 hS, k_148 hS, l_148 hS, k_153 hS, l_153 hS, k_154 hS, l_154 hS, k_155 hS, l_155 hS, k_156 hS, k_157 hS, l_157 hS, k_158 hS, l_158 hS, k_159 hS, l_159 hS, r_0_0 hS, r_0_1 hS, r_0_3 hS, r_0_4 hS, r_0_5 hS, r_0_6 hS, r_0_7 hS, r_0_8 hS, r_0_9 hS, r_0_10 hS, r_1_2 hS, r_1_3 hS, r_1_4 hS, r_1_5 hS, r_1_7 hS, r_1_9 hS, r_1_10 hS, r_1_12 hS, r_1_13 hS, r_1_14 hS, r_1_15 hS, r_7_1 hS, r_10_2 hS, r_12_2 hS, r_14_2 hS, r_16_2 hS, r_66_2 hS, r_66_3 hS, r_66_4 hS, r_66_5 hS, r_66_7 hS, r_66_9 hS, r_66_10 hS, r_66_12 hS, r_66_13 hS, r_66_14 hS, r_66_15 hS, r_72_1 hS, r_75_2 hS, r_77_2 hS, r_79_2 hS, r_81_2 hS, r_131_0 hS, r_131_6 hS, r_131_8 hS, r_135_0 hS, r_135_1 hS, r_135_2 hS, r_135_3 hS, r_140_0 hS, r_140_1 hS, r_143_2 hS, r_145_0 hS, r_145_1 hS, r_145_2 hS, r_145_3 hS, r_145_4 hS, r_145_5 hS, r_156_5 hS, k_pv hS, k_pvr hS, k_db hS, k_dbr hS, k_sh hS, l_pvr hS, l_dbr hS, l_sh hS, r_5 hS, r_6 hS, r_pv hS, r_db hS, r_148 hS, ol_s, ol_n, ln_0, ln_1, ln_2, ln_3, ln_4, eq_self, rf_s, rf_n, i01_0, i01_n0, i01_b, b01_0, b01_1, and_self, and_true, true_and, and_false, false_and, if_true, if_false, not_true_eq_false, not_false_eq_true, e10, e00, lt_bg, Nat.reduceLT, Nat.reduceLeDiff, ht, nI_add, m]
theorem c220 (hS : Sh ρ τ) {t x : Nat} (ht : σ 161 8 = nI t) (ht2 : t ≤ 99999) (hx : x ≤ 99999) : AW d 220 0 [.ref 160, .int (nI x)] [] σ ρ g τ Q = Q none (am_u σ 161 8 (nI (min 99999 (t + x)))) ρ g τ := by
  have m := min_n (a := 99999) (b := t + x) (by omega) (by omega)
  have e : nI 99999 = 99999 := by decide
  have k8 : am_inb 8 9 = true := by decide
  rw [e] at m
  simp only [s220_0, s220_1, s220_4, s220_6, s220_9, s220_10, s220_13, s220_15, s220_16, s220_17, s220_18, s220_21, s220_22, k_160 hS, k_161 hS, l_161 hS, k_162 hS, l_162 hS, k_163 hS, l_163 hS, k_164 hS, l_164 hS, k_165 hS, l_165 hS, k_166 hS, l_166 hS, k_167 hS, l_167 hS, k_168 hS, l_168 hS, k_169 hS, l_169 hS, k_170 hS, l_170 hS, k_171 hS, l_171 hS, k_172 hS, l_172 hS, k_173 hS, l_173 hS, k_174 hS, l_174 hS, k_175 hS, l_175 hS, k_176 hS, l_176 hS, k_177 hS, l_177 hS, k_178 hS, l_178 hS, k_179 hS, l_179 hS, k_180 hS, l_180 hS, k_181 hS, l_181 hS, k_182 hS, l_182 hS, k_183 hS, l_183 hS, k_184 hS, l_184 hS, k_185 hS, l_185 hS, k_186 hS, l_186 hS, k_187 hS, l_187 hS, k_188 hS, l_188 hS, k_189 hS, l_189 hS, k_190 hS, l_190 hS, k_191 hS, l_191 hS, k_192 hS, l_192 hS, k_193 hS, l_193 hS, k_194 hS, l_194 hS, k_195 hS, l_195 hS, k_196 hS, l_196 hS, k_197 hS, l_197 hS, k_198 hS, l_198 hS, k_199 hS, l_199 hS, k_200 hS, l_200 hS, k_201 hS, l_201 hS, k_202 hS, l_202 hS, k_203 hS, l_203 hS, k_204 hS, l_204 hS, k_205 hS, l_205 hS, k_206 hS, l_206 hS, k_207 hS, l_207 hS, k_208 hS, l_208 hS, k_209 hS, l_209 hS, k_210 hS, l_210 hS, k_211 hS, l_211 hS, k_212 hS, l_212 hS, k_213 hS, l_213 hS, k_214 hS, l_214 hS, k_215 hS, l_215 hS, k_216 hS, l_216 hS, k_217 hS, l_217 hS, k_218 hS, l_218 hS, k_219 hS, l_219 hS, k_220 hS, l_220 hS, r_160_0 hS, r_160_1 hS, r_160_2 hS, r_160_3 hS, r_160_4 hS, r_160_5 hS, r_160_6 hS, r_160_7 hS, r_160_8 hS, r_160_9 hS, r_160_10 hS, r_160_11 hS, r_160_12 hS, r_160_13 hS, r_160_14 hS, r_160_15 hS, r_160_16 hS, r_160_17 hS, r_160_18 hS, r_160_19 hS, r_160_20 hS, r_160_21 hS, r_160_22 hS, r_160_23 hS, r_160_24 hS, r_160_25 hS, r_160_26 hS, r_160_27 hS, r_160_28 hS, r_160_29 hS, r_160_30 hS, r_160_31 hS, r_160_32 hS, r_160_33 hS, r_160_34 hS, r_160_35 hS, r_160_36 hS, r_160_37 hS, r_160_38 hS, r_160_39 hS, r_160_40 hS, r_160_41 hS, r_160_43 hS, r_160_45 hS, r_160_46 hS, r_160_48 hS, r_160_49 hS, r_160_50 hS, r_160_51 hS, r_160_52 hS, r_160_53 hS, r_160_54 hS, r_160_56 hS, r_160_63 hS, r_160_64 hS, r_160_65 hS, r_160_66 hS, r_160_67 hS, r_160_68 hS, r_160_69 hS, ol_s, ol_n, ln_0, ln_1, ln_2, ln_3, ln_4, eq_self, rf_s, rf_n, i01_0, i01_n0, i01_b, b01_0, b01_1, and_self, and_true, true_and, and_false, false_and, if_true, if_false, not_true_eq_false, not_false_eq_true, e10, e00, lt_bg, Nat.reduceLT, Nat.reduceLeDiff, k8, z8, ht, nI_add, m]
theorem c67L (hS : Sh ρ τ) {B : Nat → Bool} {W G : Nat → Nat} {t l : Nat} (hB : ∀ i, i < 16 → σ 136 i = b2i (B i)) (hW : ∀ i, i < 16 → W i ≤ 10998 ∧ σ 138 i = nI (W i)) (hG : ∀ i, i < 16 → G i ≤ W i ∧ σ 139 i = nI (G i)) (ht : σ 1 1 = nI t) (ht2 : t ≤ 99999) (hl : σ 135 5 = nI l) (hl2 : l ≤ 99999) : ∀ (n i : Nat), i + n = 16 → AW (d + 1) 67 2 [.ref 135, .ref 1, .int (nI i)] [] (f_seC B W G σ i) ρ g τ Q = Q none (am_u (f_seC B W G σ 16) 1 1 (nI (min 99999 (t + l)))) ρ g τ
  | 0, i, h => by
    have e : i = 16 := by omega
    subst e
    have hle : (16 : Int32) ≤ nI 16 := by decide
    have e1 : f_seC B W G σ 16 135 5 = nI l := by rw [seC_ne 16 (fun i hi => by omega)]; exact hl
    have e2 : f_seC B W G σ 16 1 1 = nI t := by rw [seC_ne 16 (fun i hi => by omega)]; exact ht
    simp only [s67_2, s67_3, s67_5, s67_71, s67_72, s67_73, s67_76, s67_79, k_0 hS, k_1 hS, k_2 hS, l_2 hS, k_3 hS, l_3 hS, k_4 hS, l_4 hS, k_5 hS, l_5 hS, k_6 hS, l_6 hS, k_7 hS, k_8 hS, l_8 hS, k_9 hS, l_9 hS, k_10 hS, k_11 hS, l_11 hS, k_12 hS, k_13 hS, l_13 hS, k_14 hS, k_15 hS, l_15 hS, k_16 hS, k_17 hS, l_17 hS, k_66 hS, k_67 hS, l_67 hS, k_68 hS, l_68 hS, k_69 hS, l_69 hS, k_70 hS, l_70 hS, k_71 hS, l_71 hS, k_72 hS, k_73 hS, l_73 hS, k_74 hS, l_74 hS, k_75 hS, k_76 hS, l_76 hS, k_77 hS, k_78 hS, l_78 hS, k_79 hS, k_80 hS, l_80 hS, k_81 hS, k_82 hS, l_82 hS, k_131 hS, k_132 hS, l_132 hS, k_133 hS, l_133 hS, k_134 hS, l_134 hS, k_135 hS, k_136 hS, l_136 hS, k_137 hS, l_137 hS, k_138 hS, l_138 hS, k_139 hS, l_139 hS, k_140 hS, k_141 hS, l_141 hS, k_142 hS, l_142 hS, k_143 hS, k_144 hS, l_144 hS, k_145 hS, k_146 hS, l_146 hS, k_147 hS, l_147 hS, k_148 hS, l_148 hS, k_153 hS, l_153 hS, k_154 hS, l_154 hS, k_155 hS, l_155 hS, k_156 hS, k_157 hS, l_157 hS, k_158 hS, l_158 hS, k_159 hS, l_159 hS, r_0_0 hS, r_0_1 hS, r_0_3 hS, r_0_4 hS, r_0_5 hS, r_0_6 hS, r_0_7 hS, r_0_8 hS, r_0_9 hS, r_0_10 hS, r_1_2 hS, r_1_3 hS, r_1_4 hS, r_1_5 hS, r_1_7 hS, r_1_9 hS, r_1_10 hS, r_1_12 hS, r_1_13 hS, r_1_14 hS, r_1_15 hS, r_7_1 hS, r_10_2 hS, r_12_2 hS, r_14_2 hS, r_16_2 hS, r_66_2 hS, r_66_3 hS, r_66_4 hS, r_66_5 hS, r_66_7 hS, r_66_9 hS, r_66_10 hS, r_66_12 hS, r_66_13 hS, r_66_14 hS, r_66_15 hS, r_72_1 hS, r_75_2 hS, r_77_2 hS, r_79_2 hS, r_81_2 hS, r_131_0 hS, r_131_6 hS, r_131_8 hS, r_135_0 hS, r_135_1 hS, r_135_2 hS, r_135_3 hS, r_140_0 hS, r_140_1 hS, r_143_2 hS, r_145_0 hS, r_145_1 hS, r_145_2 hS, r_145_3 hS, r_145_4 hS, r_145_5 hS, r_156_5 hS, k_pv hS, k_pvr hS, k_db hS, k_dbr hS, k_sh hS, l_pvr hS, l_dbr hS, l_sh hS, r_5 hS, r_6 hS, r_pv hS, r_db hS, r_148 hS, ol_s, ol_n, ln_0, ln_1, ln_2, ln_3, ln_4, eq_self, rf_s, rf_n, i01_0, i01_n0, i01_b, b01_0, b01_1, and_self, and_true, true_and, and_false, false_and, if_true, if_false, not_true_eq_false, not_false_eq_true, e10, e00, lt_bg, Nat.reduceLT, Nat.reduceLeDiff, hle, e1, c31 hS e2 ht2 hl2]
  | n + 1, i, h => by
    have hlt : ¬ 16 ≤ nI i := nI_ge (b := 16) (by omega) (by omega)
    have hi : am_inb (nI i) 16 = true := inb_n (by omega) (by decide)
    have hc : (nI i).toNatClampNeg = i := nI_clamp (by omega)
    have hi16 : i < 16 := by omega
    have k17 : τ.1 136 = 14 ∨ τ.1 136 = 17 := Or.inr (k_136 hS)
    have f0 : ∀ y, 66 ≤ y → f_seC B W G σ i y = σ y := fun y hy => seC_ne i (fun j hj => by omega)
    have e1 : f_seC B W G σ i 136 i = b2i (B i) := by rw [f0 _ (by decide)]; exact hB i hi16
    have e2 : f_seC B W G σ i 138 i = nI (W i) := by rw [f0 _ (by decide)]; exact (hW i hi16).2
    have e3 : f_seC B W G σ i 139 i = nI (G i) := by rw [f0 _ (by decide)]; exact (hG i hi16).2
    have ih := c67L hS hB hW hG ht ht2 hl hl2 n (i + 1) (by omega)
    have un : f_seC B W G σ (i + 1) = if B i = true then am_u (am_u (f_seC B W G σ i) (34 + 2 * i) 6 (nI (min 9999 (W i - G i)))) (34 + 2 * i) 7 (f_seC B W G σ i (34 + 2 * i) 7 + nI (G i)) else f_seC B W G σ i := rfl
    rw [un] at ih
    rw [s67_2]
    cases hb : B i
    · rw [hb] at ih e1
      have y0 : b2i false = 0 := by decide
      rw [y0] at e1
      simp only [s67_3, s67_5, s67_8, s67_9, s67_12, s67_13, s67_14, s67_17, s67_18, s67_21, s67_22, s67_23, s67_26, s67_27, s67_30, s67_31, s67_32, s67_33, s67_36, s67_37, s67_38, s67_39, s67_42, s67_45, s67_46, s67_49, s67_50, s67_51, s67_51r, s67_52, s67_55, s67_56, s67_59, s67_60, s67_61, s67_62, s67_65r, s67_68, k_0 hS, k_1 hS, k_2 hS, l_2 hS, k_3 hS, l_3 hS, k_4 hS, l_4 hS, k_5 hS, l_5 hS, k_6 hS, l_6 hS, k_7 hS, k_8 hS, l_8 hS, k_9 hS, l_9 hS, k_10 hS, k_11 hS, l_11 hS, k_12 hS, k_13 hS, l_13 hS, k_14 hS, k_15 hS, l_15 hS, k_16 hS, k_17 hS, l_17 hS, k_66 hS, k_67 hS, l_67 hS, k_68 hS, l_68 hS, k_69 hS, l_69 hS, k_70 hS, l_70 hS, k_71 hS, l_71 hS, k_72 hS, k_73 hS, l_73 hS, k_74 hS, l_74 hS, k_75 hS, k_76 hS, l_76 hS, k_77 hS, k_78 hS, l_78 hS, k_79 hS, k_80 hS, l_80 hS, k_81 hS, k_82 hS, l_82 hS, k_131 hS, k_132 hS, l_132 hS, k_133 hS, l_133 hS, k_134 hS, l_134 hS, k_135 hS, k_136 hS, l_136 hS, k_137 hS, l_137 hS, k_138 hS, l_138 hS, k_139 hS, l_139 hS, k_140 hS, k_141 hS, l_141 hS, k_142 hS, l_142 hS, k_143 hS, k_144 hS, l_144 hS, k_145 hS, k_146 hS, l_146 hS, k_147 hS, l_147 hS, k_148 hS, l_148 hS, k_153 hS, l_153 hS, k_154 hS, l_154 hS, k_155 hS, l_155 hS, k_156 hS, k_157 hS, l_157 hS, k_158 hS, l_158 hS, k_159 hS, l_159 hS, r_0_0 hS, r_0_1 hS, r_0_3 hS, r_0_4 hS, r_0_5 hS, r_0_6 hS, r_0_7 hS, r_0_8 hS, r_0_9 hS, r_0_10 hS, r_1_2 hS, r_1_3 hS, r_1_4 hS, r_1_5 hS, r_1_7 hS, r_1_9 hS, r_1_10 hS, r_1_12 hS, r_1_13 hS, r_1_14 hS, r_1_15 hS, r_7_1 hS, r_10_2 hS, r_12_2 hS, r_14_2 hS, r_16_2 hS, r_66_2 hS, r_66_3 hS, r_66_4 hS, r_66_5 hS, r_66_7 hS, r_66_9 hS, r_66_10 hS, r_66_12 hS, r_66_13 hS, r_66_14 hS, r_66_15 hS, r_72_1 hS, r_75_2 hS, r_77_2 hS, r_79_2 hS, r_81_2 hS, r_131_0 hS, r_131_6 hS, r_131_8 hS, r_135_0 hS, r_135_1 hS, r_135_2 hS, r_135_3 hS, r_140_0 hS, r_140_1 hS, r_143_2 hS, r_145_0 hS, r_145_1 hS, r_145_2 hS, r_145_3 hS, r_145_4 hS, r_145_5 hS, r_156_5 hS, k_pv hS, k_pvr hS, k_db hS, k_dbr hS, k_sh hS, l_pvr hS, l_dbr hS, l_sh hS, r_5 hS, r_6 hS, r_pv hS, r_db hS, r_148 hS, ol_s, ol_n, ln_0, ln_1, ln_2, ln_3, ln_4, eq_self, rf_s, rf_n, i01_0, i01_n0, i01_b, b01_0, b01_1, and_self, and_true, true_and, and_false, false_and, if_true, if_false, not_true_eq_false, not_false_eq_true, e10, e00, lt_bg, Nat.reduceLT, Nat.reduceLeDiff, or_true, hlt, hi, hc, e1, nI_1]
      exact ih
    · rw [hb] at ih e1
      have y0 : b2i true = 1 := by decide
      rw [y0] at e1
      have w1 := (hW i hi16).1
      have w2 := (hG i hi16).1
      have sb : nI (W i) - nI (G i) = nI (W i - G i) := pk_sub w2
      have m := min_n (a := 9999) (b := W i - G i) (by omega) (by omega)
      have e9 : nI 9999 = 9999 := by decide
      rw [e9] at m
      have e4 : am_u (f_seC B W G σ i) (34 + 2 * i) 6 (nI (min 9999 (W i - G i))) (34 + 2 * i) 7 = f_seC B W G σ i (34 + 2 * i) 7 := u_nk _ _ _ _ (by decide)
      have e5 : am_u (f_seC B W G σ i) (34 + 2 * i) 6 (nI (min 9999 (W i - G i))) 139 i = nI (G i) := by rw [u_ne _ _ _ _ (by omega)]; exact e3
      have hbg : 34 + 2 * i < 1000000 := by omega
      rw [if_pos rfl] at ih
      simp only [s67_3, s67_5, s67_8, s67_9, s67_12, s67_13, s67_14, s67_17, s67_18, s67_21, s67_22, s67_23, s67_26, s67_27, s67_30, s67_31, s67_32, s67_33, s67_36, s67_37, s67_38, s67_39, s67_42, s67_45, s67_46, s67_49, s67_50, s67_51, s67_51r, s67_52, s67_55, s67_56, s67_59, s67_60, s67_61, s67_62, s67_65r, s67_68, k_0 hS, k_1 hS, k_2 hS, l_2 hS, k_3 hS, l_3 hS, k_4 hS, l_4 hS, k_5 hS, l_5 hS, k_6 hS, l_6 hS, k_7 hS, k_8 hS, l_8 hS, k_9 hS, l_9 hS, k_10 hS, k_11 hS, l_11 hS, k_12 hS, k_13 hS, l_13 hS, k_14 hS, k_15 hS, l_15 hS, k_16 hS, k_17 hS, l_17 hS, k_66 hS, k_67 hS, l_67 hS, k_68 hS, l_68 hS, k_69 hS, l_69 hS, k_70 hS, l_70 hS, k_71 hS, l_71 hS, k_72 hS, k_73 hS, l_73 hS, k_74 hS, l_74 hS, k_75 hS, k_76 hS, l_76 hS, k_77 hS, k_78 hS, l_78 hS, k_79 hS, k_80 hS, l_80 hS, k_81 hS, k_82 hS, l_82 hS, k_131 hS, k_132 hS, l_132 hS, k_133 hS, l_133 hS, k_134 hS, l_134 hS, k_135 hS, k_136 hS, l_136 hS, k_137 hS, l_137 hS, k_138 hS, l_138 hS, k_139 hS, l_139 hS, k_140 hS, k_141 hS, l_141 hS, k_142 hS, l_142 hS, k_143 hS, k_144 hS, l_144 hS, k_145 hS, k_146 hS, l_146 hS, k_147 hS, l_147 hS, k_148 hS, l_148 hS, k_153 hS, l_153 hS, k_154 hS, l_154 hS, k_155 hS, l_155 hS, k_156 hS, k_157 hS, l_157 hS, k_158 hS, l_158 hS, k_159 hS, l_159 hS, r_0_0 hS, r_0_1 hS, r_0_3 hS, r_0_4 hS, r_0_5 hS, r_0_6 hS, r_0_7 hS, r_0_8 hS, r_0_9 hS, r_0_10 hS, r_1_2 hS, r_1_3 hS, r_1_4 hS, r_1_5 hS, r_1_7 hS, r_1_9 hS, r_1_10 hS, r_1_12 hS, r_1_13 hS, r_1_14 hS, r_1_15 hS, r_7_1 hS, r_10_2 hS, r_12_2 hS, r_14_2 hS, r_16_2 hS, r_66_2 hS, r_66_3 hS, r_66_4 hS, r_66_5 hS, r_66_7 hS, r_66_9 hS, r_66_10 hS, r_66_12 hS, r_66_13 hS, r_66_14 hS, r_66_15 hS, r_72_1 hS, r_75_2 hS, r_77_2 hS, r_79_2 hS, r_81_2 hS, r_131_0 hS, r_131_6 hS, r_131_8 hS, r_135_0 hS, r_135_1 hS, r_135_2 hS, r_135_3 hS, r_140_0 hS, r_140_1 hS, r_143_2 hS, r_145_0 hS, r_145_1 hS, r_145_2 hS, r_145_3 hS, r_145_4 hS, r_145_5 hS, r_156_5 hS, k_pv hS, k_pvr hS, k_db hS, k_dbr hS, k_sh hS, l_pvr hS, l_dbr hS, l_sh hS, r_5 hS, r_6 hS, r_pv hS, r_db hS, r_148 hS, ol_s, ol_n, ln_0, ln_1, ln_2, ln_3, ln_4, eq_self, rf_s, rf_n, i01_0, i01_n0, i01_b, b01_0, b01_1, and_self, and_true, true_and, and_false, false_and, if_true, if_false, not_true_eq_false, not_false_eq_true, e10, e00, lt_bg, Nat.reduceLT, Nat.reduceLeDiff, or_true, hlt, hi, hc, hi16, hbg, e1, e2, e3, sb, m, e4, e5, nI_1]
      exact ih
theorem c222d (hS : Sh ρ τ) {B : Nat → Bool} {W G : Nat → Nat} {D : Nat} (hD : D ≤ 16) (hn : σ 161 2 = nI D) (hB : ∀ i, i < D → (B i = true ∧ 0 ≤ σ 217 i) ∨ (B i = false ∧ σ 217 i < 0)) (hW : ∀ i, i < D → W i ≤ 10998 ∧ σ 215 i = nI (W i)) (hG : ∀ i, i < D → G i ≤ W i ∧ σ 216 i = nI (G i)) {x1 x2 x3 x4 : Int32} : ∀ (n i : Nat), i + n = D → AW d 222 91 [.ref 160, .int x1, .int x2, .int x3, .int x4, .int (nI i)] [] (f_seM B W G σ i) ρ g τ Q = AW d 222 166 [.ref 160, .int x1, .int x2, .int x3, .int x4, .int (nI D)] [] (f_seM B W G σ D) ρ g τ Q
  | 0, i, h => by
    have e : i = D := by omega
    subst e
    have hle : nI i ≤ nI i := Int32.le_refl _
    have k2 : am_inb 2 9 = true := by decide
    have e0 : f_seM B W G σ i 161 2 = nI i := by rw [seM_ne (by decide) (by decide)]; exact hn
    simp only [s222_91, s222_93, s222_94, s222_97, s222_98, s222_99, k_160 hS, k_161 hS, l_161 hS, k_162 hS, l_162 hS, k_163 hS, l_163 hS, k_164 hS, l_164 hS, k_165 hS, l_165 hS, k_166 hS, l_166 hS, k_167 hS, l_167 hS, k_168 hS, l_168 hS, k_169 hS, l_169 hS, k_170 hS, l_170 hS, k_171 hS, l_171 hS, k_172 hS, l_172 hS, k_173 hS, l_173 hS, k_174 hS, l_174 hS, k_175 hS, l_175 hS, k_176 hS, l_176 hS, k_177 hS, l_177 hS, k_178 hS, l_178 hS, k_179 hS, l_179 hS, k_180 hS, l_180 hS, k_181 hS, l_181 hS, k_182 hS, l_182 hS, k_183 hS, l_183 hS, k_184 hS, l_184 hS, k_185 hS, l_185 hS, k_186 hS, l_186 hS, k_187 hS, l_187 hS, k_188 hS, l_188 hS, k_189 hS, l_189 hS, k_190 hS, l_190 hS, k_191 hS, l_191 hS, k_192 hS, l_192 hS, k_193 hS, l_193 hS, k_194 hS, l_194 hS, k_195 hS, l_195 hS, k_196 hS, l_196 hS, k_197 hS, l_197 hS, k_198 hS, l_198 hS, k_199 hS, l_199 hS, k_200 hS, l_200 hS, k_201 hS, l_201 hS, k_202 hS, l_202 hS, k_203 hS, l_203 hS, k_204 hS, l_204 hS, k_205 hS, l_205 hS, k_206 hS, l_206 hS, k_207 hS, l_207 hS, k_208 hS, l_208 hS, k_209 hS, l_209 hS, k_210 hS, l_210 hS, k_211 hS, l_211 hS, k_212 hS, l_212 hS, k_213 hS, l_213 hS, k_214 hS, l_214 hS, k_215 hS, l_215 hS, k_216 hS, l_216 hS, k_217 hS, l_217 hS, k_218 hS, l_218 hS, k_219 hS, l_219 hS, k_220 hS, l_220 hS, r_160_0 hS, r_160_1 hS, r_160_2 hS, r_160_3 hS, r_160_4 hS, r_160_5 hS, r_160_6 hS, r_160_7 hS, r_160_8 hS, r_160_9 hS, r_160_10 hS, r_160_11 hS, r_160_12 hS, r_160_13 hS, r_160_14 hS, r_160_15 hS, r_160_16 hS, r_160_17 hS, r_160_18 hS, r_160_19 hS, r_160_20 hS, r_160_21 hS, r_160_22 hS, r_160_23 hS, r_160_24 hS, r_160_25 hS, r_160_26 hS, r_160_27 hS, r_160_28 hS, r_160_29 hS, r_160_30 hS, r_160_31 hS, r_160_32 hS, r_160_33 hS, r_160_34 hS, r_160_35 hS, r_160_36 hS, r_160_37 hS, r_160_38 hS, r_160_39 hS, r_160_40 hS, r_160_41 hS, r_160_43 hS, r_160_45 hS, r_160_46 hS, r_160_48 hS, r_160_49 hS, r_160_50 hS, r_160_51 hS, r_160_52 hS, r_160_53 hS, r_160_54 hS, r_160_56 hS, r_160_63 hS, r_160_64 hS, r_160_65 hS, r_160_66 hS, r_160_67 hS, r_160_68 hS, r_160_69 hS, ol_s, ol_n, ln_0, ln_1, ln_2, ln_3, ln_4, eq_self, rf_s, rf_n, i01_0, i01_n0, i01_b, b01_0, b01_1, and_self, and_true, true_and, and_false, false_and, if_true, if_false, not_true_eq_false, not_false_eq_true, e10, e00, lt_bg, Nat.reduceLT, Nat.reduceLeDiff, k2, z2, e0, hle]
  | n + 1, i, h => by
    have hlt : ¬ nI D ≤ nI i := nI_ge (by omega) (by omega)
    have k2 : am_inb 2 9 = true := by decide
    have hi : am_inb (nI i) 16 = true := inb_n (by omega) (by decide)
    have hc : (nI i).toNatClampNeg = i := nI_clamp (by omega)
    have hiD : i < D := by omega
    have f0 : ∀ y, y ≠ 176 → y ≠ 178 → f_seM B W G σ i y = σ y := fun y h1 h2 => seM_ne h1 h2 i
    have e0 : f_seM B W G σ i 161 2 = nI D := by rw [f0 _ (by decide) (by decide)]; exact hn
    have e1 : f_seM B W G σ i 217 i = σ 217 i := by rw [f0 _ (by decide) (by decide)]
    have e2 : f_seM B W G σ i 215 i = nI (W i) := by rw [f0 _ (by decide) (by decide)]; exact (hW i hiD).2
    have e3 : f_seM B W G σ i 216 i = nI (G i) := by rw [f0 _ (by decide) (by decide)]; exact (hG i hiD).2
    have ih := c222d hS hD hn hB hW hG (x1 := x1) (x2 := x2) (x3 := x3) (x4 := x4) n (i + 1) (by omega)
    have un : f_seM B W G σ (i + 1) = if B i = true then am_u (am_u (f_seM B W G σ i) 178 i (f_seM B W G σ i 178 i + nI (G i))) 176 i (nI (min 9999 (W i - G i))) else f_seM B W G σ i := rfl
    rw [un] at ih
    rw [s222_91]
    rcases hB i hiD with ⟨b1, b2⟩ | ⟨b1, b2⟩
    · have w1 := (hW i hiD).1
      have w2 := (hG i hiD).1
      have sb : nI (W i) - nI (G i) = nI (W i - G i) := pk_sub w2
      have m := min_n (a := 9999) (b := W i - G i) (by omega) (by omega)
      have e9 : nI 9999 = 9999 := by decide
      rw [e9] at m
      have e5 : ∀ v, am_u (f_seM B W G σ i) 178 i v 215 i = nI (W i) := fun v => by rw [u_ne _ _ _ _ (by decide)]; exact e2
      have e6 : ∀ v, am_u (f_seM B W G σ i) 178 i v 216 i = nI (G i) := fun v => by rw [u_ne _ _ _ _ (by decide)]; exact e3
      rw [if_pos b1] at ih
      simp only [s222_93, s222_94, s222_97, s222_98, s222_99, s222_102, s222_103, s222_106, s222_108, s222_109, s222_112, s222_115, s222_116, s222_119, s222_121, s222_122, s222_123, s222_124, s222_127, s222_129, s222_130, s222_131, s222_132, s222_133, s222_136, s222_138, s222_141, s222_142, s222_145, s222_147, s222_148, s222_149, s222_152, s222_154, s222_155, s222_156, s222_159, s222_160, s222_163, k_160 hS, k_161 hS, l_161 hS, k_162 hS, l_162 hS, k_163 hS, l_163 hS, k_164 hS, l_164 hS, k_165 hS, l_165 hS, k_166 hS, l_166 hS, k_167 hS, l_167 hS, k_168 hS, l_168 hS, k_169 hS, l_169 hS, k_170 hS, l_170 hS, k_171 hS, l_171 hS, k_172 hS, l_172 hS, k_173 hS, l_173 hS, k_174 hS, l_174 hS, k_175 hS, l_175 hS, k_176 hS, l_176 hS, k_177 hS, l_177 hS, k_178 hS, l_178 hS, k_179 hS, l_179 hS, k_180 hS, l_180 hS, k_181 hS, l_181 hS, k_182 hS, l_182 hS, k_183 hS, l_183 hS, k_184 hS, l_184 hS, k_185 hS, l_185 hS, k_186 hS, l_186 hS, k_187 hS, l_187 hS, k_188 hS, l_188 hS, k_189 hS, l_189 hS, k_190 hS, l_190 hS, k_191 hS, l_191 hS, k_192 hS, l_192 hS, k_193 hS, l_193 hS, k_194 hS, l_194 hS, k_195 hS, l_195 hS, k_196 hS, l_196 hS, k_197 hS, l_197 hS, k_198 hS, l_198 hS, k_199 hS, l_199 hS, k_200 hS, l_200 hS, k_201 hS, l_201 hS, k_202 hS, l_202 hS, k_203 hS, l_203 hS, k_204 hS, l_204 hS, k_205 hS, l_205 hS, k_206 hS, l_206 hS, k_207 hS, l_207 hS, k_208 hS, l_208 hS, k_209 hS, l_209 hS, k_210 hS, l_210 hS, k_211 hS, l_211 hS, k_212 hS, l_212 hS, k_213 hS, l_213 hS, k_214 hS, l_214 hS, k_215 hS, l_215 hS, k_216 hS, l_216 hS, k_217 hS, l_217 hS, k_218 hS, l_218 hS, k_219 hS, l_219 hS, k_220 hS, l_220 hS, r_160_0 hS, r_160_1 hS, r_160_2 hS, r_160_3 hS, r_160_4 hS, r_160_5 hS, r_160_6 hS, r_160_7 hS, r_160_8 hS, r_160_9 hS, r_160_10 hS, r_160_11 hS, r_160_12 hS, r_160_13 hS, r_160_14 hS, r_160_15 hS, r_160_16 hS, r_160_17 hS, r_160_18 hS, r_160_19 hS, r_160_20 hS, r_160_21 hS, r_160_22 hS, r_160_23 hS, r_160_24 hS, r_160_25 hS, r_160_26 hS, r_160_27 hS, r_160_28 hS, r_160_29 hS, r_160_30 hS, r_160_31 hS, r_160_32 hS, r_160_33 hS, r_160_34 hS, r_160_35 hS, r_160_36 hS, r_160_37 hS, r_160_38 hS, r_160_39 hS, r_160_40 hS, r_160_41 hS, r_160_43 hS, r_160_45 hS, r_160_46 hS, r_160_48 hS, r_160_49 hS, r_160_50 hS, r_160_51 hS, r_160_52 hS, r_160_53 hS, r_160_54 hS, r_160_56 hS, r_160_63 hS, r_160_64 hS, r_160_65 hS, r_160_66 hS, r_160_67 hS, r_160_68 hS, r_160_69 hS, ol_s, ol_n, ln_0, ln_1, ln_2, ln_3, ln_4, eq_self, rf_s, rf_n, i01_0, i01_n0, i01_b, b01_0, b01_1, and_self, and_true, true_and, and_false, false_and, if_true, if_false, not_true_eq_false, not_false_eq_true, e10, e00, lt_bg, Nat.reduceLT, Nat.reduceLeDiff, k2, z2, e0, hlt, hi, hc, e1, b2, e3, e5, e6, sb, m, nI_1]
      exact ih
    · have b3 : ¬ 0 ≤ σ 217 i := Int32.not_le.mpr b2
      rw [if_neg (by rw [b1]; decide)] at ih
      simp only [s222_93, s222_94, s222_97, s222_98, s222_99, s222_102, s222_103, s222_106, s222_108, s222_109, s222_112, s222_115, s222_116, s222_119, s222_121, s222_122, s222_123, s222_124, s222_127, s222_129, s222_130, s222_131, s222_132, s222_133, s222_136, s222_138, s222_141, s222_142, s222_145, s222_147, s222_148, s222_149, s222_152, s222_154, s222_155, s222_156, s222_159, s222_160, s222_163, k_160 hS, k_161 hS, l_161 hS, k_162 hS, l_162 hS, k_163 hS, l_163 hS, k_164 hS, l_164 hS, k_165 hS, l_165 hS, k_166 hS, l_166 hS, k_167 hS, l_167 hS, k_168 hS, l_168 hS, k_169 hS, l_169 hS, k_170 hS, l_170 hS, k_171 hS, l_171 hS, k_172 hS, l_172 hS, k_173 hS, l_173 hS, k_174 hS, l_174 hS, k_175 hS, l_175 hS, k_176 hS, l_176 hS, k_177 hS, l_177 hS, k_178 hS, l_178 hS, k_179 hS, l_179 hS, k_180 hS, l_180 hS, k_181 hS, l_181 hS, k_182 hS, l_182 hS, k_183 hS, l_183 hS, k_184 hS, l_184 hS, k_185 hS, l_185 hS, k_186 hS, l_186 hS, k_187 hS, l_187 hS, k_188 hS, l_188 hS, k_189 hS, l_189 hS, k_190 hS, l_190 hS, k_191 hS, l_191 hS, k_192 hS, l_192 hS, k_193 hS, l_193 hS, k_194 hS, l_194 hS, k_195 hS, l_195 hS, k_196 hS, l_196 hS, k_197 hS, l_197 hS, k_198 hS, l_198 hS, k_199 hS, l_199 hS, k_200 hS, l_200 hS, k_201 hS, l_201 hS, k_202 hS, l_202 hS, k_203 hS, l_203 hS, k_204 hS, l_204 hS, k_205 hS, l_205 hS, k_206 hS, l_206 hS, k_207 hS, l_207 hS, k_208 hS, l_208 hS, k_209 hS, l_209 hS, k_210 hS, l_210 hS, k_211 hS, l_211 hS, k_212 hS, l_212 hS, k_213 hS, l_213 hS, k_214 hS, l_214 hS, k_215 hS, l_215 hS, k_216 hS, l_216 hS, k_217 hS, l_217 hS, k_218 hS, l_218 hS, k_219 hS, l_219 hS, k_220 hS, l_220 hS, r_160_0 hS, r_160_1 hS, r_160_2 hS, r_160_3 hS, r_160_4 hS, r_160_5 hS, r_160_6 hS, r_160_7 hS, r_160_8 hS, r_160_9 hS, r_160_10 hS, r_160_11 hS, r_160_12 hS, r_160_13 hS, r_160_14 hS, r_160_15 hS, r_160_16 hS, r_160_17 hS, r_160_18 hS, r_160_19 hS, r_160_20 hS, r_160_21 hS, r_160_22 hS, r_160_23 hS, r_160_24 hS, r_160_25 hS, r_160_26 hS, r_160_27 hS, r_160_28 hS, r_160_29 hS, r_160_30 hS, r_160_31 hS, r_160_32 hS, r_160_33 hS, r_160_34 hS, r_160_35 hS, r_160_36 hS, r_160_37 hS, r_160_38 hS, r_160_39 hS, r_160_40 hS, r_160_41 hS, r_160_43 hS, r_160_45 hS, r_160_46 hS, r_160_48 hS, r_160_49 hS, r_160_50 hS, r_160_51 hS, r_160_52 hS, r_160_53 hS, r_160_54 hS, r_160_56 hS, r_160_63 hS, r_160_64 hS, r_160_65 hS, r_160_66 hS, r_160_67 hS, r_160_68 hS, r_160_69 hS, ol_s, ol_n, ln_0, ln_1, ln_2, ln_3, ln_4, eq_self, rf_s, rf_n, i01_0, i01_n0, i01_b, b01_0, b01_1, and_self, and_true, true_and, and_false, false_and, if_true, if_false, not_true_eq_false, not_false_eq_true, e10, e00, lt_bg, Nat.reduceLT, Nat.reduceLeDiff, k2, z2, e0, hlt, hi, hc, e1, b3, nI_1]
      exact ih
end OBJ
