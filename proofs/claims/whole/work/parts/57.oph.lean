/-! province -/
def cu (c : Cn) (k v : Nat) : Cn := fun j => if j = k then v else c j
theorem cu_at (c : Cn) (k v : Nat) : cu c k v k = v := if_pos rfl
theorem cu_ne (c : Cn) (k v : Nat) {j : Nat} (h : j ≠ k) : cu c k v j = c j := if_neg h
theorem fill_at {v : Int32} {n : Nat} {f : Nat → Int32} {j : Nat} (h : j < n) : f_fill v n f j = v := if_pos h
section OH
variable {d : Nat} {σ : am_I} {ρ : am_R} {g : am_J} {τ : am_T} {Q : am_Q}
/-- Province.begin -/
theorem c60 (hS : Sh ρ τ) {p : Nat} (hp : p < 8) {x y : Int32} : AW (d + 1) 60 0 [.ref (18 + 2 * p), .int x, .int y] [] σ ρ g τ Q = Q none (am_ur (am_u (am_u (am_u (am_u σ (18 + 2 * p) 0 x) (18 + 2 * p) 1 y) (18 + 2 * p) 2 0) (18 + 2 * p) 3 0) (19 + 2 * p) (f_fill 0 3 (am_u (am_u (am_u (am_u σ (18 + 2 * p) 0 x) (18 + 2 * p) 1 y) (18 + 2 * p) 2 0) (18 + 2 * p) 3 0 (19 + 2 * p)))) ρ g τ := by
  have hb : 18 + 2 * p < 1000000 := by omega
  have hb2 : 19 + 2 * p < 1000000 := by omega
  have k1 : τ.1 (19 + 2 * p) = 15 := by
    have := k_pvr hS hp
    exact this
  have k2 : τ.2.1 (19 + 2 * p) = 3 := by
    have := l_pvr hS hp
    exact this
  simp only [s60_0, s60_1, s60_2, s60_5, s60_6, s60_7, s60_10, s60_11, s60_12, s60_15, s60_16, s60_17, s60_20, s60_21, s60_24, s60_25, s60_28, k_0 hS, k_1 hS, k_2 hS, l_2 hS, k_3 hS, l_3 hS, k_4 hS, l_4 hS, k_5 hS, l_5 hS, k_6 hS, l_6 hS, k_7 hS, k_8 hS, l_8 hS, k_9 hS, l_9 hS, k_10 hS, k_11 hS, l_11 hS, k_12 hS, k_13 hS, l_13 hS, k_14 hS, k_15 hS, l_15 hS, k_16 hS, k_17 hS, l_17 hS, k_66 hS, k_67 hS, l_67 hS, k_68 hS, l_68 hS, k_69 hS, l_69 hS, k_70 hS, l_70 hS, k_71 hS, l_71 hS, k_72 hS, k_73 hS, l_73 hS, k_74 hS, l_74 hS, k_75 hS, k_76 hS, l_76 hS, k_77 hS, k_78 hS, l_78 hS, k_79 hS, k_80 hS, l_80 hS, k_81 hS, k_82 hS, l_82 hS, k_131 hS, k_132 hS, l_132 hS, k_133 hS, l_133 hS, k_134 hS, l_134 hS, k_135 hS, k_136 hS, l_136 hS, k_137 hS, l_137 hS, k_138 hS, l_138 hS, k_139 hS, l_139 hS, k_140 hS, k_141 hS, l_141 hS, k_142 hS, l_142 hS, k_143 hS, k_144 hS, l_144 hS, k_145 hS, k_146 hS, l_146 hS, k_147 hS, l_147 hS, k_148 hS, l_148 hS, k_153 hS, l_153 hS, k_154 hS, l_154 hS, k_155 hS, l_155 hS, k_156 hS, k_157 hS, l_157 hS, k_158 hS, l_158 hS, k_159 hS, l_159 hS, r_0_0 hS, r_0_1 hS, r_0_3 hS, r_0_4 hS, r_0_5 hS, r_0_6 hS, r_0_7 hS, r_0_8 hS, r_0_9 hS, r_0_10 hS, r_1_2 hS, r_1_3 hS, r_1_4 hS, r_1_5 hS, r_1_7 hS, r_1_9 hS, r_1_10 hS, r_1_12 hS, r_1_13 hS, r_1_14 hS, r_1_15 hS, r_7_1 hS, r_10_2 hS, r_12_2 hS, r_14_2 hS, r_16_2 hS, r_66_2 hS, r_66_3 hS, r_66_4 hS, r_66_5 hS, r_66_7 hS, r_66_9 hS, r_66_10 hS, r_66_12 hS, r_66_13 hS, r_66_14 hS, r_66_15 hS, r_72_1 hS, r_75_2 hS, r_77_2 hS, r_79_2 hS, r_81_2 hS, r_131_0 hS, r_131_6 hS, r_131_8 hS, r_135_0 hS, r_135_1 hS, r_135_2 hS, r_135_3 hS, r_140_0 hS, r_140_1 hS, r_143_2 hS, r_145_0 hS, r_145_1 hS, r_145_2 hS, r_145_3 hS, r_145_4 hS, r_145_5 hS, r_156_5 hS, k_pv hS, k_pvr hS, k_db hS, k_dbr hS, k_sh hS, l_pvr hS, l_dbr hS, l_sh hS, r_5 hS, r_6 hS, r_pv hS, r_db hS, r_148 hS, ol_s, ol_n, ln_0, ln_1, ln_2, ln_3, ln_4, eq_self, rf_s, rf_n, i01_0, i01_n0, i01_b, b01_0, b01_1, and_self, and_true, true_and, and_false, false_and, if_true, if_false, not_true_eq_false, not_false_eq_true, e10, e00, lt_bg, Nat.reduceLT, Nat.reduceLeDiff, hp, hb, c275 (a := 19 + 2 * p) (n := 3) k1 k2 (by decide) hb2]
/-- the reference's new province -/
theorem c172 (hS : Sh ρ τ) {P : Nat} (hP : σ 161 1 = nI P) (hP8 : P < 8) {x y : Int32} (h1 : 0 ≤ x ∧ x ≤ 99) (h2 : 1 ≤ y ∧ y ≤ 12) : AW (d + 3) 172 0 [.ref 160, .int x, .int y, am_jk, am_jk] [] σ ρ g τ Q = Q (some (.int (nI P))) (am_u (am_u (am_u (am_u (am_u (am_u (am_u (am_u σ 165 (3 * P) 0) 165 (3 * P + 1) 0) 165 (3 * P + 2) 0) 166 P 0) 167 P x) 168 P y) 169 P 0) 161 1 (nI (P + 1))) ρ g τ := by
  have ne : ¬ nI P = 8 := fun e => by
    have := nI_ge (a := P) (b := 8) (by omega) (by omega)
    rw [e] at this
    exact this (by decide)
  have i0 : am_inb (nI (3 * P)) 24 = true := inb_n (by omega) (by decide)
  have i1 : am_inb (nI (3 * P + 1)) 24 = true := inb_n (by omega) (by decide)
  have i2 : am_inb (nI (3 * P + 2)) 24 = true := inb_n (by omega) (by decide)
  have j0 : (nI (3 * P)).toNatClampNeg = 3 * P := nI_clamp (by omega)
  have j1 : (nI (3 * P + 1)).toNatClampNeg = 3 * P + 1 := nI_clamp (by omega)
  have j2 : (nI (3 * P + 2)).toNatClampNeg = 3 * P + 2 := nI_clamp (by omega)
  have a0 : nI (3 * P) + 0 = nI (3 * P) := by rw [← nI_0, nI_add]; rfl
  have a1 : nI (3 * P) + 1 = nI (3 * P + 1) := nI_1 _
  have a2 : nI (3 * P) + 2 = nI (3 * P + 2) := nI_add _ 2
  have hi : am_inb (nI P) 8 = true := inb_n (by omega) (by decide)
  have hcj : (nI P).toNatClampNeg = P := nI_clamp (by omega)
  have b0 : ((3 : Int32) ≤ 0) = False := by decide
  have b1 : ((3 : Int32) ≤ 1) = False := by decide
  have b2 : ((3 : Int32) ≤ 2) = False := by decide
  have b3 : ((3 : Int32) ≤ 3) = True := by decide
  have s0 : (0 : Int32) + 1 = 1 := by decide
  have s1 : (1 : Int32) + 1 = 2 := by decide
  have s2 : (2 : Int32) + 1 = 3 := by decide
  have k1 : am_inb 1 9 = true := by decide
  have q : am_u (am_u (am_u (am_u (am_u (am_u (am_u σ 165 (3 * P) 0) 165 (3 * P + 1) 0) 165 (3 * P + 2) 0) 166 P 0) 167 P x) 168 P y) 169 P 0 161 1 = nI P := by
    simp (disch := omega) only [Nat.reduceAdd, Nat.add_zero, u_ne, ur_ne, u_at, u_nk, ur_at]
    exact hP
  simp only [s172_0, s172_1, s172_2, s172_4, s172_7, s172_10, s172_11, s172_12, s172_14, s172_17, s172_20, s172_21, s172_22, s172_23, s172_26, s172_27, s172_28, s172_30, s172_33, s172_35, s172_36, s172_37, s172_40, s172_41, s172_42, s172_43, s172_44, s172_46, s172_48, s172_49, s172_52, s172_53, s172_56, s172_57, s172_58, s172_59, s172_61, s172_62, s172_63, s172_64, s172_67, s172_70, s172_71, s172_74, s172_75, s172_76, s172_77, s172_78, s172_81, s172_82, s172_83, s172_84, s172_85, s172_88, s172_89, s172_90, s172_91, s172_92, s172_95, s172_96, s172_97, s172_98, s172_99, s172_102, s172_103, s172_104, s172_105, s172_106, s172_107, s172_108, s172_109, k_160 hS, k_161 hS, l_161 hS, k_162 hS, l_162 hS, k_163 hS, l_163 hS, k_164 hS, l_164 hS, k_165 hS, l_165 hS, k_166 hS, l_166 hS, k_167 hS, l_167 hS, k_168 hS, l_168 hS, k_169 hS, l_169 hS, k_170 hS, l_170 hS, k_171 hS, l_171 hS, k_172 hS, l_172 hS, k_173 hS, l_173 hS, k_174 hS, l_174 hS, k_175 hS, l_175 hS, k_176 hS, l_176 hS, k_177 hS, l_177 hS, k_178 hS, l_178 hS, k_179 hS, l_179 hS, k_180 hS, l_180 hS, k_181 hS, l_181 hS, k_182 hS, l_182 hS, k_183 hS, l_183 hS, k_184 hS, l_184 hS, k_185 hS, l_185 hS, k_186 hS, l_186 hS, k_187 hS, l_187 hS, k_188 hS, l_188 hS, k_189 hS, l_189 hS, k_190 hS, l_190 hS, k_191 hS, l_191 hS, k_192 hS, l_192 hS, k_193 hS, l_193 hS, k_194 hS, l_194 hS, k_195 hS, l_195 hS, k_196 hS, l_196 hS, k_197 hS, l_197 hS, k_198 hS, l_198 hS, k_199 hS, l_199 hS, k_200 hS, l_200 hS, k_201 hS, l_201 hS, k_202 hS, l_202 hS, k_203 hS, l_203 hS, k_204 hS, l_204 hS, k_205 hS, l_205 hS, k_206 hS, l_206 hS, k_207 hS, l_207 hS, k_208 hS, l_208 hS, k_209 hS, l_209 hS, k_210 hS, l_210 hS, k_211 hS, l_211 hS, k_212 hS, l_212 hS, k_213 hS, l_213 hS, k_214 hS, l_214 hS, k_215 hS, l_215 hS, k_216 hS, l_216 hS, k_217 hS, l_217 hS, k_218 hS, l_218 hS, k_219 hS, l_219 hS, k_220 hS, l_220 hS, r_160_0 hS, r_160_1 hS, r_160_2 hS, r_160_3 hS, r_160_4 hS, r_160_5 hS, r_160_6 hS, r_160_7 hS, r_160_8 hS, r_160_9 hS, r_160_10 hS, r_160_11 hS, r_160_12 hS, r_160_13 hS, r_160_14 hS, r_160_15 hS, r_160_16 hS, r_160_17 hS, r_160_18 hS, r_160_19 hS, r_160_20 hS, r_160_21 hS, r_160_22 hS, r_160_23 hS, r_160_24 hS, r_160_25 hS, r_160_26 hS, r_160_27 hS, r_160_28 hS, r_160_29 hS, r_160_30 hS, r_160_31 hS, r_160_32 hS, r_160_33 hS, r_160_34 hS, r_160_35 hS, r_160_36 hS, r_160_37 hS, r_160_38 hS, r_160_39 hS, r_160_40 hS, r_160_41 hS, r_160_43 hS, r_160_45 hS, r_160_46 hS, r_160_48 hS, r_160_49 hS, r_160_50 hS, r_160_51 hS, r_160_52 hS, r_160_53 hS, r_160_54 hS, r_160_56 hS, r_160_63 hS, r_160_64 hS, r_160_65 hS, r_160_66 hS, r_160_67 hS, r_160_68 hS, r_160_69 hS, c165, ol_s, ol_n, ln_0, ln_1, ln_2, ln_3, ln_4, eq_self, rf_s, rf_n, i01_0, i01_n0, i01_b, b01_0, b01_1, and_self, and_true, true_and, and_false, false_and, if_true, if_false, not_true_eq_false, not_false_eq_true, e10, e00, lt_bg, Nat.reduceLT, Nat.reduceLeDiff, hP, h1, h2, ne, z1, k1, mul3, a0, a1, a2, i0, i1, i2, j0, j1, j2, hi, hcj, b0, b1, b2, b3, s0, s1, s2, q, nI_1]
end OH
