/-! newDebt -/
section OT
variable {d : Nat} {σ : am_I} {ρ : am_R} {g : am_J} {τ : am_T} {Q : am_Q}
def f_newM (σ : am_I) (D N : Nat) (h f s v e : Int32) : am_I := (am_u (am_u (am_u (am_u (am_u (am_u (am_u (am_u (am_u (am_u (am_u (am_u (am_u (am_u (am_u (am_u σ 171 D h) 170 D f) 172 D s) 173 D v) 174 D e) 175 D (nI N)) 176 D 0) 177 D 0) 178 D 0) 179 (7 * D + 0) 50) 179 (7 * D + 1) 50) 179 (7 * D + 2) 50) 179 (7 * D + 3) 50) 179 (7 * D + 4) 50) 179 (7 * D + 5) 50) 179 (7 * D + 6) 50)
theorem c211 (hS : Sh ρ τ) {D N : Nat} (hD : σ 161 2 = nI D) (hN : σ 161 0 = nI N) (hD16 : D < 16) {h f s v e : Int32} : AW (d + 1) 211 0 [.ref 160, .int h, .int f, .int s, .int v, .int e, am_jk, am_jk] [] σ ρ g τ Q = Q (some (.int (nI D))) (am_u (f_newM σ D N h f s v e) 161 2 (nI (D + 1))) ρ g τ := by
  have hi : am_inb (nI D) 16 = true := inb_n (by omega) (by decide)
  have hc : (nI D).toNatClampNeg = D := nI_clamp (by omega)
  have k0 : am_inb 0 9 = true := by decide
  have k2 : am_inb 2 9 = true := by decide
  have m7 : (7 : Int32) * nI D = nI (7 * D) := nI_mulL 7 D
  have i0 : am_inb (nI (7 * D + 0)) 112 = true := inb_n (by omega) (by decide)
  have j0 : (nI (7 * D + 0)).toNatClampNeg = 7 * D + 0 := nI_clamp (by omega)
  have q0 : nI (7 * D) + 0 = nI (7 * D + 0) := nI_add _ 0
  have b0 : ((7 : Int32) ≤ 0) = False := by decide
  have s0 : (0 : Int32) + 1 = 1 := by decide
  have i1 : am_inb (nI (7 * D + 1)) 112 = true := inb_n (by omega) (by decide)
  have j1 : (nI (7 * D + 1)).toNatClampNeg = 7 * D + 1 := nI_clamp (by omega)
  have q1 : nI (7 * D) + 1 = nI (7 * D + 1) := nI_add _ 1
  have b1 : ((7 : Int32) ≤ 1) = False := by decide
  have s1 : (1 : Int32) + 1 = 2 := by decide
  have i2 : am_inb (nI (7 * D + 2)) 112 = true := inb_n (by omega) (by decide)
  have j2 : (nI (7 * D + 2)).toNatClampNeg = 7 * D + 2 := nI_clamp (by omega)
  have q2 : nI (7 * D) + 2 = nI (7 * D + 2) := nI_add _ 2
  have b2 : ((7 : Int32) ≤ 2) = False := by decide
  have s2 : (2 : Int32) + 1 = 3 := by decide
  have i3 : am_inb (nI (7 * D + 3)) 112 = true := inb_n (by omega) (by decide)
  have j3 : (nI (7 * D + 3)).toNatClampNeg = 7 * D + 3 := nI_clamp (by omega)
  have q3 : nI (7 * D) + 3 = nI (7 * D + 3) := nI_add _ 3
  have b3 : ((7 : Int32) ≤ 3) = False := by decide
  have s3 : (3 : Int32) + 1 = 4 := by decide
  have i4 : am_inb (nI (7 * D + 4)) 112 = true := inb_n (by omega) (by decide)
  have j4 : (nI (7 * D + 4)).toNatClampNeg = 7 * D + 4 := nI_clamp (by omega)
  have q4 : nI (7 * D) + 4 = nI (7 * D + 4) := nI_add _ 4
  have b4 : ((7 : Int32) ≤ 4) = False := by decide
  have s4 : (4 : Int32) + 1 = 5 := by decide
  have i5 : am_inb (nI (7 * D + 5)) 112 = true := inb_n (by omega) (by decide)
  have j5 : (nI (7 * D + 5)).toNatClampNeg = 7 * D + 5 := nI_clamp (by omega)
  have q5 : nI (7 * D) + 5 = nI (7 * D + 5) := nI_add _ 5
  have b5 : ((7 : Int32) ≤ 5) = False := by decide
  have s5 : (5 : Int32) + 1 = 6 := by decide
  have i6 : am_inb (nI (7 * D + 6)) 112 = true := inb_n (by omega) (by decide)
  have j6 : (nI (7 * D + 6)).toNatClampNeg = 7 * D + 6 := nI_clamp (by omega)
  have q6 : nI (7 * D) + 6 = nI (7 * D + 6) := nI_add _ 6
  have b6 : ((7 : Int32) ≤ 6) = False := by decide
  have s6 : (6 : Int32) + 1 = 7 := by decide
  have b7 : ((7 : Int32) ≤ 7) = True := by decide
  have n0 : am_u (am_u (am_u (am_u (am_u σ 171 D h) 170 D f) 172 D s) 173 D v) 174 D e 161 0 = nI N := by
    simp (disch := omega) only [Nat.reduceAdd, Nat.add_zero, u_ne, ur_ne, u_at, u_nk, ur_at]
    exact hN
  have n2 : am_u (am_u (am_u (am_u (am_u (am_u (am_u (am_u (am_u (am_u (am_u (am_u (am_u (am_u (am_u (am_u σ 171 D h) 170 D f) 172 D s) 173 D v) 174 D e) 175 D (nI N)) 176 D 0) 177 D 0) 178 D 0) 179 (7 * D + 0) 50) 179 (7 * D + 1) 50) 179 (7 * D + 2) 50) 179 (7 * D + 3) 50) 179 (7 * D + 4) 50) 179 (7 * D + 5) 50) 179 (7 * D + 6) 50 161 2 = nI D := by
    simp (disch := omega) only [Nat.reduceAdd, Nat.add_zero, u_ne, ur_ne, u_at, u_nk, ur_at]
    exact hD
  unfold f_newM
  simp only [s211_0, s211_1, s211_4, s211_5, s211_6, s211_8, s211_9, s211_12, s211_14, s211_15, s211_16, s211_17, s211_20, s211_22, s211_23, s211_24, s211_25, s211_28, s211_30, s211_31, s211_32, s211_33, s211_36, s211_38, s211_40, s211_41, s211_42, s211_45, s211_47, s211_49, s211_50, s211_51, s211_54, s211_56, s211_57, s211_60, s211_61, s211_62, s211_63, s211_64, s211_67, s211_69, s211_70, s211_71, s211_72, s211_75, s211_77, s211_78, s211_79, s211_80, s211_83, s211_85, s211_86, s211_87, s211_88, s211_90, s211_92, s211_94, s211_97, s211_98, s211_101, s211_103, s211_105, s211_106, s211_108, s211_109, s211_111, s211_112, s211_115, s211_118, s211_119, s211_122, s211_123, s211_124, s211_125, s211_126, s211_127, s211_128, s211_130, k_160 hS, k_161 hS, l_161 hS, k_162 hS, l_162 hS, k_163 hS, l_163 hS, k_164 hS, l_164 hS, k_165 hS, l_165 hS, k_166 hS, l_166 hS, k_167 hS, l_167 hS, k_168 hS, l_168 hS, k_169 hS, l_169 hS, k_170 hS, l_170 hS, k_171 hS, l_171 hS, k_172 hS, l_172 hS, k_173 hS, l_173 hS, k_174 hS, l_174 hS, k_175 hS, l_175 hS, k_176 hS, l_176 hS, k_177 hS, l_177 hS, k_178 hS, l_178 hS, k_179 hS, l_179 hS, k_180 hS, l_180 hS, k_181 hS, l_181 hS, k_182 hS, l_182 hS, k_183 hS, l_183 hS, k_184 hS, l_184 hS, k_185 hS, l_185 hS, k_186 hS, l_186 hS, k_187 hS, l_187 hS, k_188 hS, l_188 hS, k_189 hS, l_189 hS, k_190 hS, l_190 hS, k_191 hS, l_191 hS, k_192 hS, l_192 hS, k_193 hS, l_193 hS, k_194 hS, l_194 hS, k_195 hS, l_195 hS, k_196 hS, l_196 hS, k_197 hS, l_197 hS, k_198 hS, l_198 hS, k_199 hS, l_199 hS, k_200 hS, l_200 hS, k_201 hS, l_201 hS, k_202 hS, l_202 hS, k_203 hS, l_203 hS, k_204 hS, l_204 hS, k_205 hS, l_205 hS, k_206 hS, l_206 hS, k_207 hS, l_207 hS, k_208 hS, l_208 hS, k_209 hS, l_209 hS, k_210 hS, l_210 hS, k_211 hS, l_211 hS, k_212 hS, l_212 hS, k_213 hS, l_213 hS, k_214 hS, l_214 hS, k_215 hS, l_215 hS, k_216 hS, l_216 hS, k_217 hS, l_217 hS, k_218 hS, l_218 hS, k_219 hS, l_219 hS, k_220 hS, l_220 hS, r_160_0 hS, r_160_1 hS, r_160_2 hS, r_160_3 hS, r_160_4 hS, r_160_5 hS, r_160_6 hS, r_160_7 hS, r_160_8 hS, r_160_9 hS, r_160_10 hS, r_160_11 hS, r_160_12 hS, r_160_13 hS, r_160_14 hS, r_160_15 hS, r_160_16 hS, r_160_17 hS, r_160_18 hS, r_160_19 hS, r_160_20 hS, r_160_21 hS, r_160_22 hS, r_160_23 hS, r_160_24 hS, r_160_25 hS, r_160_26 hS, r_160_27 hS, r_160_28 hS, r_160_29 hS, r_160_30 hS, r_160_31 hS, r_160_32 hS, r_160_33 hS, r_160_34 hS, r_160_35 hS, r_160_36 hS, r_160_37 hS, r_160_38 hS, r_160_39 hS, r_160_40 hS, r_160_41 hS, r_160_43 hS, r_160_45 hS, r_160_46 hS, r_160_48 hS, r_160_49 hS, r_160_50 hS, r_160_51 hS, r_160_52 hS, r_160_53 hS, r_160_54 hS, r_160_56 hS, r_160_63 hS, r_160_64 hS, r_160_65 hS, r_160_66 hS, r_160_67 hS, r_160_68 hS, r_160_69 hS, ol_s, ol_n, ln_0, ln_1, ln_2, ln_3, ln_4, eq_self, rf_s, rf_n, i01_0, i01_n0, i01_b, b01_0, b01_1, and_self, and_true, true_and, and_false, false_and, if_true, if_false, not_true_eq_false, not_false_eq_true, e10, e00, lt_bg, Nat.reduceLT, Nat.reduceLeDiff, hD, hi, hc, k0, k2, z0, z2, m7, i0, j0, q0, b0, s0, i1, j1, q1, b1, s1, i2, j2, q2, b2, s2, i3, j3, q3, b3, s3, i4, j4, q4, b4, s4, i5, j5, q5, b5, s5, i6, j6, q6, b6, s6, b7, n0, n2, nI_1]
end OT
