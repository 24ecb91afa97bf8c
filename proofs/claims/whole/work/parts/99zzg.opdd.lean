/-! read: a line is made, the class -/
theorem sh_cg' {ρ : am_R} {τ : am_T} (hS : Sh ρ τ) {ρ' : am_R} (e : ∀ z, z < 261 → ρ' z = ρ z) : Sh ρ' τ := by
  obtain ⟨h1, h2, h3, h4, h5, h6, h7⟩ := hS
  have t : ∀ x ∈ sh_R, x.1 < 261 := by decide
  refine ⟨h1, fun x hx => ?_, fun p hp => ?_, fun p hp => ?_, fun p hp => ?_, fun p hp => ?_, h7⟩
  · rw [e _ (t x hx)]
    exact h2 x hx
  · rw [e _ (by decide), e 70 (by decide), e (18 + 2 * p) (by omega), e (83 + 2 * p) (by omega)]
    exact h3 p hp
  · rw [e _ (by decide), e 71 (by decide), e (34 + 2 * p) (by omega), e (99 + 2 * p) (by omega)]
    exact h4 p hp
  · rw [e _ (by decide)]
    exact h5 p hp
  · rw [e _ (by decide), e 202 (by decide)]
    exact h6 p hp
section ODD
variable {d : Nat} {σ : am_I} {ρ : am_R} {g : am_J} {τ : am_T} {Q : am_Q}
theorem c277 (hS : Sh ρ τ) {n : Nat} (h0 : 0 < n) (hn : n < 240) (hN : τ.2.2.1 < 1000000) : AW d 277 0 [.ref 133, .int (nI n), am_jk] [] σ ρ g τ Q = Q (some (.ref τ.2.2.1)) (am_ur (am_new 15 n σ ρ g τ).1 τ.2.2.1 (va_cpy ((am_new 15 n σ ρ g τ).1 133) ((am_new 15 n σ ρ g τ).1 τ.2.2.1) 0 0 n)) (am_new 15 n σ ρ g τ).2.1 (am_new 15 n σ ρ g τ).2.2.1 (am_new 15 n σ ρ g τ).2.2.2 := by
  have h261 := hS.2.2.2.2.2.2
  have ne : ¬ nI n = nI 240 := nI_nj (by omega) (by omega) (by decide)
  have cn : (nI n).toNatClampNeg = n := nI_clamp (by omega)
  have l0 : ¬ nI n < 0 := Int32.not_lt.mpr (nI_le (a := 0) (Nat.zero_le _) (by omega))
  have le : n ≤ 10000 := by omega
  have k1 : (am_new 15 n σ ρ g τ).2.2.2.1 133 = 15 := by rw [nw_k (by omega)]; exact k_133 hS
  have k2 : (am_new 15 n σ ρ g τ).2.2.2.2.1 133 = 240 := by rw [nw_l (by omega)]; exact l_133 hS
  have k3 : (am_new 15 n σ ρ g τ).2.2.2.1 τ.2.2.1 = 15 := nw_k0
  have k4 : (am_new 15 n σ ρ g τ).2.2.2.2.1 τ.2.2.1 = n := nw_l0
  have mn : (if nI n < nI 240 then nI n else nI 240) = nI n := if_pos (Int32.not_le.mp (nI_ge (by omega) (by omega)))
  have R : AW d 277 0 [.ref 133, .int (nI n), am_jk] [] σ ρ g τ Q = AW d 277 28 [.ref 133, .int (nI n), .ref τ.2.2.1] [.int (nI n), .int 0, .ref τ.2.2.1, .int 0, .ref 133] (am_new 15 n σ ρ g τ).1 (am_new 15 n σ ρ g τ).2.1 (am_new 15 n σ ρ g τ).2.2.1 (am_new 15 n σ ρ g τ).2.2.2 Q := by
    simp only [s277_0, s277_1, s277_2, s277_3, s277_14, s277_15, s277_17, s277_18, s277_19, s277_20, s277_21, s277_22, s277_23, s277_24, s277_25, k_0 hS, k_1 hS, k_2 hS, l_2 hS, k_3 hS, l_3 hS, k_4 hS, l_4 hS, k_5 hS, l_5 hS, k_6 hS, l_6 hS, k_7 hS, k_8 hS, l_8 hS, k_9 hS, l_9 hS, k_10 hS, k_11 hS, l_11 hS, k_12 hS, k_13 hS, l_13 hS, k_14 hS, k_15 hS, l_15 hS, k_16 hS, k_17 hS, l_17 hS, k_66 hS, k_67 hS, l_67 hS, k_68 hS, l_68 hS, k_69 hS, l_69 hS, k_70 hS, l_70 hS, k_71 hS, l_71 hS, k_72 hS, k_73 hS, l_73 hS, k_74 hS, l_74 hS, k_75 hS, k_76 hS, l_76 hS, k_77 hS, k_78 hS, l_78 hS, k_79 hS, k_80 hS, l_80 hS, k_81 hS, k_82 hS, l_82 hS, k_131 hS, k_132 hS, l_132 hS, k_133 hS, l_133 hS, k_134 hS, l_134 hS, k_135 hS, k_136 hS, l_136 hS, k_137 hS, l_137 hS, k_138 hS, l_138 hS, k_139 hS, l_139 hS, k_140 hS, k_141 hS, l_141 hS, k_142 hS, l_142 hS, k_143 hS, k_144 hS, l_144 hS, k_145 hS, k_146 hS, l_146 hS, k_147 hS, l_147 hS, k_148 hS, l_148 hS, k_153 hS, l_153 hS, k_154 hS, l_154 hS, k_155 hS, l_155 hS, k_156 hS, k_157 hS, l_157 hS, k_158 hS, l_158 hS, k_159 hS, l_159 hS, r_0_0 hS, r_0_1 hS, r_0_3 hS, r_0_4 hS, r_0_5 hS, r_0_6 hS, r_0_7 hS, r_0_8 hS, r_0_9 hS, r_0_10 hS, r_1_2 hS, r_1_3 hS, r_1_4 hS, r_1_5 hS, r_1_7 hS, r_1_9 hS, r_1_10 hS, r_1_12 hS, r_1_13 hS, r_1_14 hS, r_1_15 hS, r_7_1 hS, r_10_2 hS, r_12_2 hS, r_14_2 hS, r_16_2 hS, r_66_2 hS, r_66_3 hS, r_66_4 hS, r_66_5 hS, r_66_7 hS, r_66_9 hS, r_66_10 hS, r_66_12 hS, r_66_13 hS, r_66_14 hS, r_66_15 hS, r_72_1 hS, r_75_2 hS, r_77_2 hS, r_79_2 hS, r_81_2 hS, r_131_0 hS, r_131_6 hS, r_131_8 hS, r_135_0 hS, r_135_1 hS, r_135_2 hS, r_135_3 hS, r_140_0 hS, r_140_1 hS, r_143_2 hS, r_145_0 hS, r_145_1 hS, r_145_2 hS, r_145_3 hS, r_145_4 hS, r_145_5 hS, r_156_5 hS, k_pv hS, k_pvr hS, k_db hS, k_dbr hS, k_sh hS, l_pvr hS, l_dbr hS, l_sh hS, r_5 hS, r_6 hS, r_pv hS, r_db hS, r_148 hS, ol_s, ol_n, ln_0, ln_1, ln_2, ln_3, ln_4, eq_self, rf_s, rf_n, i01_0, i01_n0, i01_b, b01_0, b01_1, and_self, and_true, true_and, and_false, false_and, if_true, if_false, not_true_eq_false, not_false_eq_true, e10, e00, lt_bg, Nat.reduceLT, Nat.reduceLeDiff, ne, cn, l0, le, k1, k2, mn]
  rw [R]
  generalize am_new 15 n σ ρ g τ = X at k1 k2 k3 k4
  have c0 : (0 : Int32).toNatClampNeg = 0 := by decide
  rw [s277_28 (by decide) ⟨k1, k3, (by show 133 < 1000000; decide), (by show τ.2.2.1 < 1000000; omega), (by omega), l0, (by decide), (by decide), (by rw [c0, cn, k2]; omega), (by rw [c0, cn, k4]; omega)⟩]
  simp only [s277_31, s277_32, c0, cn]
theorem s86_183z {x0 x1 x2 x3 x4 : Value} {p0 : Nat} {p1 p2 p3 : Int32} {st : List Value} (hs : st.length ≤ 4) : AW (d + 1) 86 183 [x0, x1, x2, x3, x4] (.null :: .int p3 :: .int p2 :: .int p1 :: .ref p0 :: st) σ ρ g τ Q = AW d 50 0 [.ref p0, .int p1, .int p2, .int p3, .null] [] σ ρ g τ (fun r9 σ ρ g τ => AW (d + 1) 86 186 [x0, x1, x2, x3, x4] (r9.toList ++ st) σ ρ g τ Q) := aw_ci m86 d86_183 rfl rfl (am_en_of m50) (am_okc_of m50 rfl) rfl hs
theorem c50n {L : Nat} {a1 a2 a3 : Int32} (hL : τ.1 L = 5) : AW d 50 0 [.ref L, .int a1, .int a2, .int a3, .null] [] σ ρ g τ Q = Q none (am_u (am_u (am_u σ L 0 a1) L 1 a2) L 2 a3) (am_u ρ L 3 none) g τ := by
  simp only [s50_0, s50_0n, s50_1, s50_4, s50_4n, s50_5, s50_6, s50_9, s50_9n, s50_10, s50_11, s50_14, s50_14n, s50_15, s50_16, s50_19, s50_19n, s50_20, s50_20n, s50_22, s50_22n, s50_25, ol_s, ol_n, ln_0, ln_1, ln_2, ln_3, ln_4, eq_self, rf_s, rf_n, i01_0, i01_n0, i01_b, b01_0, b01_1, and_self, and_true, true_and, and_false, false_and, if_true, if_false, not_true_eq_false, not_false_eq_true, e10, e00, lt_bg, Nat.reduceLT, Nat.reduceLeDiff, hL]
theorem c86n (hS : Sh ρ τ) {m : Nat} {sv num sof : Int32} {x4 : Value} (hN : τ.2.2.1 < 1000000) (hm : m < 10) (h9 : σ 131 9 = nI m) : AW (d + 1) 86 164 [.ref 131, .int sv, .int num, .int sof, x4] [.null] σ ρ g τ Q = Q (some (.int 1)) (am_u (am_u (am_u (am_u (am_new 5 4 σ ρ g τ).1 τ.2.2.1 0 sv) τ.2.2.1 1 num) τ.2.2.1 2 sof) 131 9 (nI (m + 1))) (am_u (am_u (am_new 5 4 σ ρ g τ).2.1 τ.2.2.1 3 none) 134 m (some τ.2.2.1)) (am_new 5 4 σ ρ g τ).2.2.1 (am_new 5 4 σ ρ g τ).2.2.2 := by
  have h261 := hS.2.2.2.2.2.2
  have R : AW (d + 1) 86 164 [.ref 131, .int sv, .int num, .int sof, x4] [.null] σ ρ g τ Q = AW (d + 1) 86 177 [.ref 131, .int sv, .int num, .int sof, .null] [.ref τ.2.2.1, .int (nI m), .ref 134] (am_new 5 4 σ ρ g τ).1 (am_new 5 4 σ ρ g τ).2.1 (am_new 5 4 σ ρ g τ).2.2.1 (am_new 5 4 σ ρ g τ).2.2.2 Q := by
    simp only [s86_164, s86_164n, s86_166, s86_166n, s86_167, s86_170, s86_170n, s86_171, s86_174, k_0 hS, k_1 hS, k_2 hS, l_2 hS, k_3 hS, l_3 hS, k_4 hS, l_4 hS, k_5 hS, l_5 hS, k_6 hS, l_6 hS, k_7 hS, k_8 hS, l_8 hS, k_9 hS, l_9 hS, k_10 hS, k_11 hS, l_11 hS, k_12 hS, k_13 hS, l_13 hS, k_14 hS, k_15 hS, l_15 hS, k_16 hS, k_17 hS, l_17 hS, k_66 hS, k_67 hS, l_67 hS, k_68 hS, l_68 hS, k_69 hS, l_69 hS, k_70 hS, l_70 hS, k_71 hS, l_71 hS, k_72 hS, k_73 hS, l_73 hS, k_74 hS, l_74 hS, k_75 hS, k_76 hS, l_76 hS, k_77 hS, k_78 hS, l_78 hS, k_79 hS, k_80 hS, l_80 hS, k_81 hS, k_82 hS, l_82 hS, k_131 hS, k_132 hS, l_132 hS, k_133 hS, l_133 hS, k_134 hS, l_134 hS, k_135 hS, k_136 hS, l_136 hS, k_137 hS, l_137 hS, k_138 hS, l_138 hS, k_139 hS, l_139 hS, k_140 hS, k_141 hS, l_141 hS, k_142 hS, l_142 hS, k_143 hS, k_144 hS, l_144 hS, k_145 hS, k_146 hS, l_146 hS, k_147 hS, l_147 hS, k_148 hS, l_148 hS, k_153 hS, l_153 hS, k_154 hS, l_154 hS, k_155 hS, l_155 hS, k_156 hS, k_157 hS, l_157 hS, k_158 hS, l_158 hS, k_159 hS, l_159 hS, r_0_0 hS, r_0_1 hS, r_0_3 hS, r_0_4 hS, r_0_5 hS, r_0_6 hS, r_0_7 hS, r_0_8 hS, r_0_9 hS, r_0_10 hS, r_1_2 hS, r_1_3 hS, r_1_4 hS, r_1_5 hS, r_1_7 hS, r_1_9 hS, r_1_10 hS, r_1_12 hS, r_1_13 hS, r_1_14 hS, r_1_15 hS, r_7_1 hS, r_10_2 hS, r_12_2 hS, r_14_2 hS, r_16_2 hS, r_66_2 hS, r_66_3 hS, r_66_4 hS, r_66_5 hS, r_66_7 hS, r_66_9 hS, r_66_10 hS, r_66_12 hS, r_66_13 hS, r_66_14 hS, r_66_15 hS, r_72_1 hS, r_75_2 hS, r_77_2 hS, r_79_2 hS, r_81_2 hS, r_131_0 hS, r_131_6 hS, r_131_8 hS, r_135_0 hS, r_135_1 hS, r_135_2 hS, r_135_3 hS, r_140_0 hS, r_140_1 hS, r_143_2 hS, r_145_0 hS, r_145_1 hS, r_145_2 hS, r_145_3 hS, r_145_4 hS, r_145_5 hS, r_156_5 hS, k_pv hS, k_pvr hS, k_db hS, k_dbr hS, k_sh hS, l_pvr hS, l_dbr hS, l_sh hS, r_5 hS, r_6 hS, r_pv hS, r_db hS, r_148 hS, ol_s, ol_n, ln_0, ln_1, ln_2, ln_3, ln_4, eq_self, rf_s, rf_n, i01_0, i01_n0, i01_b, b01_0, b01_1, and_self, and_true, true_and, and_false, false_and, if_true, if_false, not_true_eq_false, not_false_eq_true, e10, e00, lt_bg, Nat.reduceLT, Nat.reduceLeDiff, h9]
  rw [R]
  have hS' : Sh (am_new 5 4 σ ρ g τ).2.1 (am_new 5 4 σ ρ g τ).2.2.2 := sh_nw hS
  have kL : (am_new 5 4 σ ρ g τ).2.2.2.1 τ.2.2.1 = 5 := nw_k0
  have v9 : (am_new 5 4 σ ρ g τ).1 131 9 = nI m := by rw [nw_s (by omega)]; exact h9
  generalize am_new 5 4 σ ρ g τ = X at hS' kL v9
  have hS := hS'
  generalize τ.2.2.1 = L at kL h261 hN
  have im : am_inb (nI m) 10 = true := inb_n hm (by decide)
  have cm : (nI m).toNatClampNeg = m := nI_clamp (by omega)
  have el : am_elK 19 = 5 := rfl
  have w9 : am_u (am_u (am_u X.1 L 0 sv) L 1 num) L 2 sof 131 9 = nI m := by
    rw [u_ne _ _ _ _ (by omega), u_ne _ _ _ _ (by omega), u_ne _ _ _ _ (by omega)]
    exact v9
  simp only [s86_177, s86_177r, s86_178, s86_179, s86_180, s86_181, s86_181n, s86_183, s86_186, s86_187, s86_187n, s86_188, s86_188r, s86_189, s86_192, s86_193, s86_194, s86_197, s86_198, s86_183z, c50n (τ := X.2.2.2) (L := L) kL, k_0 hS, k_1 hS, k_2 hS, l_2 hS, k_3 hS, l_3 hS, k_4 hS, l_4 hS, k_5 hS, l_5 hS, k_6 hS, l_6 hS, k_7 hS, k_8 hS, l_8 hS, k_9 hS, l_9 hS, k_10 hS, k_11 hS, l_11 hS, k_12 hS, k_13 hS, l_13 hS, k_14 hS, k_15 hS, l_15 hS, k_16 hS, k_17 hS, l_17 hS, k_66 hS, k_67 hS, l_67 hS, k_68 hS, l_68 hS, k_69 hS, l_69 hS, k_70 hS, l_70 hS, k_71 hS, l_71 hS, k_72 hS, k_73 hS, l_73 hS, k_74 hS, l_74 hS, k_75 hS, k_76 hS, l_76 hS, k_77 hS, k_78 hS, l_78 hS, k_79 hS, k_80 hS, l_80 hS, k_81 hS, k_82 hS, l_82 hS, k_131 hS, k_132 hS, l_132 hS, k_133 hS, l_133 hS, k_134 hS, l_134 hS, k_135 hS, k_136 hS, l_136 hS, k_137 hS, l_137 hS, k_138 hS, l_138 hS, k_139 hS, l_139 hS, k_140 hS, k_141 hS, l_141 hS, k_142 hS, l_142 hS, k_143 hS, k_144 hS, l_144 hS, k_145 hS, k_146 hS, l_146 hS, k_147 hS, l_147 hS, k_148 hS, l_148 hS, k_153 hS, l_153 hS, k_154 hS, l_154 hS, k_155 hS, l_155 hS, k_156 hS, k_157 hS, l_157 hS, k_158 hS, l_158 hS, k_159 hS, l_159 hS, r_0_0 hS, r_0_1 hS, r_0_3 hS, r_0_4 hS, r_0_5 hS, r_0_6 hS, r_0_7 hS, r_0_8 hS, r_0_9 hS, r_0_10 hS, r_1_2 hS, r_1_3 hS, r_1_4 hS, r_1_5 hS, r_1_7 hS, r_1_9 hS, r_1_10 hS, r_1_12 hS, r_1_13 hS, r_1_14 hS, r_1_15 hS, r_7_1 hS, r_10_2 hS, r_12_2 hS, r_14_2 hS, r_16_2 hS, r_66_2 hS, r_66_3 hS, r_66_4 hS, r_66_5 hS, r_66_7 hS, r_66_9 hS, r_66_10 hS, r_66_12 hS, r_66_13 hS, r_66_14 hS, r_66_15 hS, r_72_1 hS, r_75_2 hS, r_77_2 hS, r_79_2 hS, r_81_2 hS, r_131_0 hS, r_131_6 hS, r_131_8 hS, r_135_0 hS, r_135_1 hS, r_135_2 hS, r_135_3 hS, r_140_0 hS, r_140_1 hS, r_143_2 hS, r_145_0 hS, r_145_1 hS, r_145_2 hS, r_145_3 hS, r_145_4 hS, r_145_5 hS, r_156_5 hS, k_pv hS, k_pvr hS, k_db hS, k_dbr hS, k_sh hS, l_pvr hS, l_dbr hS, l_sh hS, r_5 hS, r_6 hS, r_pv hS, r_db hS, r_148 hS, ol_s, ol_n, ln_0, ln_1, ln_2, ln_3, ln_4, eq_self, rf_s, rf_n, i01_0, i01_n0, i01_b, b01_0, b01_1, and_self, and_true, true_and, and_false, false_and, if_true, if_false, not_true_eq_false, not_false_eq_true, e10, e00, lt_bg, Nat.reduceLT, Nat.reduceLeDiff, kL, im, cm, el, hN, w9, nI_1]
theorem c50r {cd : Nat} {L : Nat} {a1 a2 a3 : Int32} (hL : τ.1 L = 5) : AW d 50 0 [.ref L, .int a1, .int a2, .int a3, .ref cd] [] σ ρ g τ Q = Q none (am_u (am_u (am_u σ L 0 a1) L 1 a2) L 2 a3) (am_u ρ L 3 (some cd)) g τ := by
  simp only [s50_0, s50_0n, s50_1, s50_4, s50_4n, s50_5, s50_6, s50_9, s50_9n, s50_10, s50_11, s50_14, s50_14n, s50_15, s50_16, s50_19, s50_19n, s50_20, s50_20n, s50_22, s50_22n, s50_25, ol_s, ol_n, ln_0, ln_1, ln_2, ln_3, ln_4, eq_self, rf_s, rf_n, i01_0, i01_n0, i01_b, b01_0, b01_1, and_self, and_true, true_and, and_false, false_and, if_true, if_false, not_true_eq_false, not_false_eq_true, e10, e00, lt_bg, Nat.reduceLT, Nat.reduceLeDiff, hL]
theorem c86r (hS : Sh ρ τ) {cd : Nat} {m : Nat} {sv num sof : Int32} {x4 : Value} (hN : τ.2.2.1 < 1000000) (hm : m < 10) (h9 : σ 131 9 = nI m) : AW (d + 1) 86 164 [.ref 131, .int sv, .int num, .int sof, x4] [.ref cd] σ ρ g τ Q = Q (some (.int 1)) (am_u (am_u (am_u (am_u (am_new 5 4 σ ρ g τ).1 τ.2.2.1 0 sv) τ.2.2.1 1 num) τ.2.2.1 2 sof) 131 9 (nI (m + 1))) (am_u (am_u (am_new 5 4 σ ρ g τ).2.1 τ.2.2.1 3 (some cd)) 134 m (some τ.2.2.1)) (am_new 5 4 σ ρ g τ).2.2.1 (am_new 5 4 σ ρ g τ).2.2.2 := by
  have h261 := hS.2.2.2.2.2.2
  have R : AW (d + 1) 86 164 [.ref 131, .int sv, .int num, .int sof, x4] [.ref cd] σ ρ g τ Q = AW (d + 1) 86 177 [.ref 131, .int sv, .int num, .int sof, .ref cd] [.ref τ.2.2.1, .int (nI m), .ref 134] (am_new 5 4 σ ρ g τ).1 (am_new 5 4 σ ρ g τ).2.1 (am_new 5 4 σ ρ g τ).2.2.1 (am_new 5 4 σ ρ g τ).2.2.2 Q := by
    simp only [s86_164, s86_164n, s86_166, s86_166n, s86_167, s86_170, s86_170n, s86_171, s86_174, k_0 hS, k_1 hS, k_2 hS, l_2 hS, k_3 hS, l_3 hS, k_4 hS, l_4 hS, k_5 hS, l_5 hS, k_6 hS, l_6 hS, k_7 hS, k_8 hS, l_8 hS, k_9 hS, l_9 hS, k_10 hS, k_11 hS, l_11 hS, k_12 hS, k_13 hS, l_13 hS, k_14 hS, k_15 hS, l_15 hS, k_16 hS, k_17 hS, l_17 hS, k_66 hS, k_67 hS, l_67 hS, k_68 hS, l_68 hS, k_69 hS, l_69 hS, k_70 hS, l_70 hS, k_71 hS, l_71 hS, k_72 hS, k_73 hS, l_73 hS, k_74 hS, l_74 hS, k_75 hS, k_76 hS, l_76 hS, k_77 hS, k_78 hS, l_78 hS, k_79 hS, k_80 hS, l_80 hS, k_81 hS, k_82 hS, l_82 hS, k_131 hS, k_132 hS, l_132 hS, k_133 hS, l_133 hS, k_134 hS, l_134 hS, k_135 hS, k_136 hS, l_136 hS, k_137 hS, l_137 hS, k_138 hS, l_138 hS, k_139 hS, l_139 hS, k_140 hS, k_141 hS, l_141 hS, k_142 hS, l_142 hS, k_143 hS, k_144 hS, l_144 hS, k_145 hS, k_146 hS, l_146 hS, k_147 hS, l_147 hS, k_148 hS, l_148 hS, k_153 hS, l_153 hS, k_154 hS, l_154 hS, k_155 hS, l_155 hS, k_156 hS, k_157 hS, l_157 hS, k_158 hS, l_158 hS, k_159 hS, l_159 hS, r_0_0 hS, r_0_1 hS, r_0_3 hS, r_0_4 hS, r_0_5 hS, r_0_6 hS, r_0_7 hS, r_0_8 hS, r_0_9 hS, r_0_10 hS, r_1_2 hS, r_1_3 hS, r_1_4 hS, r_1_5 hS, r_1_7 hS, r_1_9 hS, r_1_10 hS, r_1_12 hS, r_1_13 hS, r_1_14 hS, r_1_15 hS, r_7_1 hS, r_10_2 hS, r_12_2 hS, r_14_2 hS, r_16_2 hS, r_66_2 hS, r_66_3 hS, r_66_4 hS, r_66_5 hS, r_66_7 hS, r_66_9 hS, r_66_10 hS, r_66_12 hS, r_66_13 hS, r_66_14 hS, r_66_15 hS, r_72_1 hS, r_75_2 hS, r_77_2 hS, r_79_2 hS, r_81_2 hS, r_131_0 hS, r_131_6 hS, r_131_8 hS, r_135_0 hS, r_135_1 hS, r_135_2 hS, r_135_3 hS, r_140_0 hS, r_140_1 hS, r_143_2 hS, r_145_0 hS, r_145_1 hS, r_145_2 hS, r_145_3 hS, r_145_4 hS, r_145_5 hS, r_156_5 hS, k_pv hS, k_pvr hS, k_db hS, k_dbr hS, k_sh hS, l_pvr hS, l_dbr hS, l_sh hS, r_5 hS, r_6 hS, r_pv hS, r_db hS, r_148 hS, ol_s, ol_n, ln_0, ln_1, ln_2, ln_3, ln_4, eq_self, rf_s, rf_n, i01_0, i01_n0, i01_b, b01_0, b01_1, and_self, and_true, true_and, and_false, false_and, if_true, if_false, not_true_eq_false, not_false_eq_true, e10, e00, lt_bg, Nat.reduceLT, Nat.reduceLeDiff, h9]
  rw [R]
  have hS' : Sh (am_new 5 4 σ ρ g τ).2.1 (am_new 5 4 σ ρ g τ).2.2.2 := sh_nw hS
  have kL : (am_new 5 4 σ ρ g τ).2.2.2.1 τ.2.2.1 = 5 := nw_k0
  have v9 : (am_new 5 4 σ ρ g τ).1 131 9 = nI m := by rw [nw_s (by omega)]; exact h9
  generalize am_new 5 4 σ ρ g τ = X at hS' kL v9
  have hS := hS'
  generalize τ.2.2.1 = L at kL h261 hN
  have im : am_inb (nI m) 10 = true := inb_n hm (by decide)
  have cm : (nI m).toNatClampNeg = m := nI_clamp (by omega)
  have el : am_elK 19 = 5 := rfl
  have w9 : am_u (am_u (am_u X.1 L 0 sv) L 1 num) L 2 sof 131 9 = nI m := by
    rw [u_ne _ _ _ _ (by omega), u_ne _ _ _ _ (by omega), u_ne _ _ _ _ (by omega)]
    exact v9
  simp only [s86_177, s86_177r, s86_178, s86_179, s86_180, s86_181, s86_181n, s86_183, s86_186, s86_187, s86_187n, s86_188, s86_188r, s86_189, s86_192, s86_193, s86_194, s86_197, s86_198, c50r (τ := X.2.2.2) (L := L) kL, k_0 hS, k_1 hS, k_2 hS, l_2 hS, k_3 hS, l_3 hS, k_4 hS, l_4 hS, k_5 hS, l_5 hS, k_6 hS, l_6 hS, k_7 hS, k_8 hS, l_8 hS, k_9 hS, l_9 hS, k_10 hS, k_11 hS, l_11 hS, k_12 hS, k_13 hS, l_13 hS, k_14 hS, k_15 hS, l_15 hS, k_16 hS, k_17 hS, l_17 hS, k_66 hS, k_67 hS, l_67 hS, k_68 hS, l_68 hS, k_69 hS, l_69 hS, k_70 hS, l_70 hS, k_71 hS, l_71 hS, k_72 hS, k_73 hS, l_73 hS, k_74 hS, l_74 hS, k_75 hS, k_76 hS, l_76 hS, k_77 hS, k_78 hS, l_78 hS, k_79 hS, k_80 hS, l_80 hS, k_81 hS, k_82 hS, l_82 hS, k_131 hS, k_132 hS, l_132 hS, k_133 hS, l_133 hS, k_134 hS, l_134 hS, k_135 hS, k_136 hS, l_136 hS, k_137 hS, l_137 hS, k_138 hS, l_138 hS, k_139 hS, l_139 hS, k_140 hS, k_141 hS, l_141 hS, k_142 hS, l_142 hS, k_143 hS, k_144 hS, l_144 hS, k_145 hS, k_146 hS, l_146 hS, k_147 hS, l_147 hS, k_148 hS, l_148 hS, k_153 hS, l_153 hS, k_154 hS, l_154 hS, k_155 hS, l_155 hS, k_156 hS, k_157 hS, l_157 hS, k_158 hS, l_158 hS, k_159 hS, l_159 hS, r_0_0 hS, r_0_1 hS, r_0_3 hS, r_0_4 hS, r_0_5 hS, r_0_6 hS, r_0_7 hS, r_0_8 hS, r_0_9 hS, r_0_10 hS, r_1_2 hS, r_1_3 hS, r_1_4 hS, r_1_5 hS, r_1_7 hS, r_1_9 hS, r_1_10 hS, r_1_12 hS, r_1_13 hS, r_1_14 hS, r_1_15 hS, r_7_1 hS, r_10_2 hS, r_12_2 hS, r_14_2 hS, r_16_2 hS, r_66_2 hS, r_66_3 hS, r_66_4 hS, r_66_5 hS, r_66_7 hS, r_66_9 hS, r_66_10 hS, r_66_12 hS, r_66_13 hS, r_66_14 hS, r_66_15 hS, r_72_1 hS, r_75_2 hS, r_77_2 hS, r_79_2 hS, r_81_2 hS, r_131_0 hS, r_131_6 hS, r_131_8 hS, r_135_0 hS, r_135_1 hS, r_135_2 hS, r_135_3 hS, r_140_0 hS, r_140_1 hS, r_143_2 hS, r_145_0 hS, r_145_1 hS, r_145_2 hS, r_145_3 hS, r_145_4 hS, r_145_5 hS, r_156_5 hS, k_pv hS, k_pvr hS, k_db hS, k_dbr hS, k_sh hS, l_pvr hS, l_dbr hS, l_sh hS, r_5 hS, r_6 hS, r_pv hS, r_db hS, r_148 hS, ol_s, ol_n, ln_0, ln_1, ln_2, ln_3, ln_4, eq_self, rf_s, rf_n, i01_0, i01_n0, i01_b, b01_0, b01_1, and_self, and_true, true_and, and_false, false_and, if_true, if_false, not_true_eq_false, not_false_eq_true, e10, e00, lt_bg, Nat.reduceLT, Nat.reduceLeDiff, kL, im, cm, el, hN, w9, nI_1]
/-- the line that lies in cell L -/
def LnC (σ : am_I) (ρ : am_R) (τ : am_T) (N0 L : Nat) (sv num sof : Int32) (ts : List Tk) : Prop := τ.1 L = 5 ∧ σ L 0 = sv ∧ σ L 1 = num ∧ σ L 2 = sof ∧ (ts = [] ∧ ρ L 3 = none ∨ ts ≠ [] ∧ ∃ cd, ρ L 3 = some cd ∧ N0 ≤ cd ∧ cd < τ.2.2.1 ∧ τ.1 cd = 15 ∧ τ.2.1 cd = ts.length ∧ ∀ k, k < ts.length → σ cd k = nI (tk_C (ts.getD k tk_no)))
/-- a line was made -/
def LC (σ : am_I) (ρ : am_R) (g : am_J) (τ : am_T) (σ' : am_I) (ρ' : am_R) (g' : am_J) (τ' : am_T) (m L : Nat) (sv num sof : Int32) (ts : List Tk) : Prop :=
  (τ.2.2.1 ≤ L ∧ L ≤ τ.2.2.1 + 1 ∧ τ'.2.2.1 = L + 1 ∧ τ'.2.2.2 ≤ τ.2.2.2 + 4 + ts.length) ∧
  ((∀ z, z ≠ 131 → z < τ.2.2.1 ∨ L < z → σ' z = σ z) ∧ (∀ k, k ≠ 9 → σ' 131 k = σ 131 k) ∧ σ' 131 9 = nI (m + 1)) ∧
  ((∀ z, z ≠ 134 → z < τ.2.2.1 ∨ L < z → ρ' z = ρ z) ∧ (∀ k, k ≠ m → ρ' 134 k = ρ 134 k) ∧ ρ' 134 m = some L) ∧
  ((∀ z, z < τ.2.2.1 ∨ L < z → g' z = g z) ∧ (∀ z, z < τ.2.2.1 ∨ L < z → τ'.1 z = τ.1 z ∧ τ'.2.1 z = τ.2.1 z) ∧ Sh ρ' τ') ∧
  LnC σ' ρ' τ' τ.2.2.1 L sv num sof ts
theorem sh_u (hS : Sh ρ τ) {k : Nat} {v : Option Nat} : Sh (am_u ρ 134 k v) τ := by
  obtain ⟨h1, h2, h3, h4, h5, h6, h7⟩ := hS
  have t : ∀ x ∈ sh_R, x.1 ≠ 134 := by decide
  refine ⟨h1, fun e he => ?_, fun p hp => ?_, fun p hp => ?_, fun p hp => ?_, fun p hp => ?_, h7⟩
  · rw [u_ne _ _ _ _ (t e he)]
    exact h2 e he
  · rw [u_ne _ _ _ _ (by decide), u_ne _ _ _ _ (by decide), u_ne _ _ _ _ (by omega), u_ne _ _ _ _ (by omega)]
    exact h3 p hp
  · rw [u_ne _ _ _ _ (by decide), u_ne _ _ _ _ (by decide), u_ne _ _ _ _ (by omega), u_ne _ _ _ _ (by omega)]
    exact h4 p hp
  · rw [u_ne _ _ _ _ (by decide)]
    exact h5 p hp
  · rw [u_ne _ _ _ _ (by decide), u_ne _ _ _ _ (by decide)]
    exact h6 p hp
theorem sh_v (hS : Sh ρ τ) {a k : Nat} {v : Option Nat} (ha : 261 ≤ a) : Sh (am_u ρ a k v) τ := sh_cg' hS (fun z hz => u_ne _ _ _ _ (by omega))
/-- the closed state after a line was made, told -/
theorem ln_mk (hS : Sh ρ τ) {m : Nat} {sv num sof : Int32} {cd : Option Nat} (hN : τ.2.2.1 < 1000000) : 
    (am_new 5 4 σ ρ g τ).2.2.2.2.2.1 = τ.2.2.1 + 1 ∧ (am_new 5 4 σ ρ g τ).2.2.2.2.2.2 = τ.2.2.2 + 4 ∧
    (∀ z, z ≠ 131 → z ≠ τ.2.2.1 → am_u (am_u (am_u (am_u (am_new 5 4 σ ρ g τ).1 τ.2.2.1 0 sv) τ.2.2.1 1 num) τ.2.2.1 2 sof) 131 9 (nI (m + 1)) z = σ z) ∧
    (∀ k, k ≠ 9 → am_u (am_u (am_u (am_u (am_new 5 4 σ ρ g τ).1 τ.2.2.1 0 sv) τ.2.2.1 1 num) τ.2.2.1 2 sof) 131 9 (nI (m + 1)) 131 k = σ 131 k) ∧
    (∀ z, z ≠ 134 → z ≠ τ.2.2.1 → am_u (am_u (am_new 5 4 σ ρ g τ).2.1 τ.2.2.1 3 cd) 134 m (some τ.2.2.1) z = ρ z) ∧
    (∀ k, k ≠ m → am_u (am_u (am_new 5 4 σ ρ g τ).2.1 τ.2.2.1 3 cd) 134 m (some τ.2.2.1) 134 k = ρ 134 k) ∧
    Sh (am_u (am_u (am_new 5 4 σ ρ g τ).2.1 τ.2.2.1 3 cd) 134 m (some τ.2.2.1)) (am_new 5 4 σ ρ g τ).2.2.2 ∧
    ((am_new 5 4 σ ρ g τ).2.2.2.1 τ.2.2.1 = 5 ∧ am_u (am_u (am_u (am_u (am_new 5 4 σ ρ g τ).1 τ.2.2.1 0 sv) τ.2.2.1 1 num) τ.2.2.1 2 sof) 131 9 (nI (m + 1)) τ.2.2.1 0 = sv ∧ am_u (am_u (am_u (am_u (am_new 5 4 σ ρ g τ).1 τ.2.2.1 0 sv) τ.2.2.1 1 num) τ.2.2.1 2 sof) 131 9 (nI (m + 1)) τ.2.2.1 1 = num ∧ am_u (am_u (am_u (am_u (am_new 5 4 σ ρ g τ).1 τ.2.2.1 0 sv) τ.2.2.1 1 num) τ.2.2.1 2 sof) 131 9 (nI (m + 1)) τ.2.2.1 2 = sof ∧ am_u (am_u (am_new 5 4 σ ρ g τ).2.1 τ.2.2.1 3 cd) 134 m (some τ.2.2.1) τ.2.2.1 3 = cd) := by
  have h261 := hS.2.2.2.2.2.2
  refine ⟨rfl, rfl, fun z h1 h2 => ?_, fun k h1 => ?_, fun z h1 h2 => ?_, fun k h1 => ?_, sh_u (sh_v (sh_nw hS) h261), nw_k0, ?_, ?_, ?_, ?_⟩
  · rw [u_ne _ _ _ _ h1, u_ne _ _ _ _ h2, u_ne _ _ _ _ h2, u_ne _ _ _ _ h2, nw_s h2]
  · rw [u_nk _ _ _ _ h1, u_ne _ _ _ _ (by omega), u_ne _ _ _ _ (by omega), u_ne _ _ _ _ (by omega), nw_s (by omega)]
  · rw [u_ne _ _ _ _ h1, u_ne _ _ _ _ h2, nw_r h2]
  · rw [u_nk _ _ _ _ h1, u_ne _ _ _ _ (by omega), nw_r (by omega)]
  · rw [u_ne _ _ _ _ (by omega), u_nk _ _ _ _ (by decide), u_nk _ _ _ _ (by decide), u_at]
  · rw [u_ne _ _ _ _ (by omega), u_nk _ _ _ _ (by decide), u_at]
  · rw [u_ne _ _ _ _ (by omega), u_at]
  · rw [u_ne _ _ _ _ (by omega), u_at]
/-- from the sign at a line's end on -/
theorem c86d (hS : Sh ρ τ) {b : Nat → Nat} {l q m : Nat} {sv num sof : Int32} {ts : List Tk} (hT : TC b l σ) (hq : q ≤ l) (hc : CT b l q σ) (hl : ts.length < 240) (h7 : σ 131 7 = nI ts.length) (h133 : ∀ k, k < ts.length → σ 133 k = nI (tk_C (ts.getD k tk_no))) (hm : m < 10) (h9 : σ 131 9 = nI m) (hN : τ.2.2.1 + 2 ≤ 1000000) : ∃ (L : Nat) (σ' : am_I) (ρ' : am_R) (g' : am_J) (τ' : am_T), LC (adv b l σ (nx b l q)) ρ g τ σ' ρ' g' τ' m L sv num sof ts ∧ ∀ (d : Nat) (Q : am_Q), AW (d + 2) 86 138 [.ref 131, .int sv, .int num, .int sof, am_jk] [] σ ρ g τ Q = Q (some (.int 1)) σ' ρ' g' τ' := by
  have h261 := hS.2.2.2.2.2.2
  have V := fun (d : Nat) (g : am_J) (Q : am_Q) => c80 (d := d) (g := g) (Q := Q) hS hT (te_b (b := b) hq).2.1 hc.2.1
  have en : sk b l (te b l q) = nx b l q := rfl
  rw [en] at V
  have a7 : adv b l σ (nx b l q) 131 7 = nI ts.length := by rw [adv_k (by decide) (by decide) (by decide) (by decide)]; exact h7
  have a9 : adv b l σ (nx b l q) 131 9 = nI m := by rw [adv_k (by decide) (by decide) (by decide) (by decide)]; exact h9
  have a133 : ∀ k, k < ts.length → adv b l σ (nx b l q) 133 k = nI (tk_C (ts.getD k tk_no)) := fun k hk => by rw [adv_ne (by decide)]; exact h133 k hk
  generalize adv b l σ (nx b l q) = s at V a7 a9 a133
  by_cases z : ts = []
  · have e0 : nI ts.length = 0 := by rw [z]; rfl
    rw [e0] at a7
    have le : ((0 : Int32) ≤ 0) = True := by decide
    refine ⟨τ.2.2.1, am_u (am_u (am_u (am_u (am_new 5 4 s ρ g τ).1 τ.2.2.1 0 sv) τ.2.2.1 1 num) τ.2.2.1 2 sof) 131 9 (nI (m + 1)), am_u (am_u (am_new 5 4 s ρ g τ).2.1 τ.2.2.1 3 none) 134 m (some τ.2.2.1), (am_new 5 4 s ρ g τ).2.2.1, (am_new 5 4 s ρ g τ).2.2.2, ?_, fun d Q => ?_⟩
    rotate_left
    · have R : AW (d + 2) 86 138 [.ref 131, .int sv, .int num, .int sof, am_jk] [] σ ρ g τ Q = AW (d + 2) 86 164 [.ref 131, .int sv, .int num, .int sof, am_jk] [.null] s ρ g τ Q := by
        simp only [s86_138, s86_138n, s86_139, s86_142, s86_142n, s86_143, s86_146, s86_163, k_0 hS, k_1 hS, k_2 hS, l_2 hS, k_3 hS, l_3 hS, k_4 hS, l_4 hS, k_5 hS, l_5 hS, k_6 hS, l_6 hS, k_7 hS, k_8 hS, l_8 hS, k_9 hS, l_9 hS, k_10 hS, k_11 hS, l_11 hS, k_12 hS, k_13 hS, l_13 hS, k_14 hS, k_15 hS, l_15 hS, k_16 hS, k_17 hS, l_17 hS, k_66 hS, k_67 hS, l_67 hS, k_68 hS, l_68 hS, k_69 hS, l_69 hS, k_70 hS, l_70 hS, k_71 hS, l_71 hS, k_72 hS, k_73 hS, l_73 hS, k_74 hS, l_74 hS, k_75 hS, k_76 hS, l_76 hS, k_77 hS, k_78 hS, l_78 hS, k_79 hS, k_80 hS, l_80 hS, k_81 hS, k_82 hS, l_82 hS, k_131 hS, k_132 hS, l_132 hS, k_133 hS, l_133 hS, k_134 hS, l_134 hS, k_135 hS, k_136 hS, l_136 hS, k_137 hS, l_137 hS, k_138 hS, l_138 hS, k_139 hS, l_139 hS, k_140 hS, k_141 hS, l_141 hS, k_142 hS, l_142 hS, k_143 hS, k_144 hS, l_144 hS, k_145 hS, k_146 hS, l_146 hS, k_147 hS, l_147 hS, k_148 hS, l_148 hS, k_153 hS, l_153 hS, k_154 hS, l_154 hS, k_155 hS, l_155 hS, k_156 hS, k_157 hS, l_157 hS, k_158 hS, l_158 hS, k_159 hS, l_159 hS, r_0_0 hS, r_0_1 hS, r_0_3 hS, r_0_4 hS, r_0_5 hS, r_0_6 hS, r_0_7 hS, r_0_8 hS, r_0_9 hS, r_0_10 hS, r_1_2 hS, r_1_3 hS, r_1_4 hS, r_1_5 hS, r_1_7 hS, r_1_9 hS, r_1_10 hS, r_1_12 hS, r_1_13 hS, r_1_14 hS, r_1_15 hS, r_7_1 hS, r_10_2 hS, r_12_2 hS, r_14_2 hS, r_16_2 hS, r_66_2 hS, r_66_3 hS, r_66_4 hS, r_66_5 hS, r_66_7 hS, r_66_9 hS, r_66_10 hS, r_66_12 hS, r_66_13 hS, r_66_14 hS, r_66_15 hS, r_72_1 hS, r_75_2 hS, r_77_2 hS, r_79_2 hS, r_81_2 hS, r_131_0 hS, r_131_6 hS, r_131_8 hS, r_135_0 hS, r_135_1 hS, r_135_2 hS, r_135_3 hS, r_140_0 hS, r_140_1 hS, r_143_2 hS, r_145_0 hS, r_145_1 hS, r_145_2 hS, r_145_3 hS, r_145_4 hS, r_145_5 hS, r_156_5 hS, k_pv hS, k_pvr hS, k_db hS, k_dbr hS, k_sh hS, l_pvr hS, l_dbr hS, l_sh hS, r_5 hS, r_6 hS, r_pv hS, r_db hS, r_148 hS, ol_s, ol_n, ln_0, ln_1, ln_2, ln_3, ln_4, eq_self, rf_s, rf_n, i01_0, i01_n0, i01_b, b01_0, b01_1, and_self, and_true, true_and, and_false, false_and, if_true, if_false, not_true_eq_false, not_false_eq_true, e10, e00, lt_bg, Nat.reduceLT, Nat.reduceLeDiff, V, a7, le]
      rw [R]
      exact c86n (g := g) hS (m := m) (by omega) hm a9
    · obtain ⟨y1, y2, y3, y4, y5, y6, y7, y8, y9, y10, y11, y12⟩ := ln_mk (σ := s) (ρ := ρ) (g := g) (τ := τ) hS (m := m) (sv := sv) (num := num) (sof := sof) (cd := none) (by omega)
      refine ⟨⟨Nat.le_refl _, by omega, rfl, by show τ.2.2.2 + 4 ≤ _; omega⟩, ⟨fun w h1 h2 => y3 w h1 (by omega), y4, u_at _ _ _ _⟩, ⟨fun w h1 h2 => y5 w h1 (by omega), y6, u_at _ _ _ _⟩, ⟨fun w h1 => nw_g (by omega), fun w h1 => ⟨if_neg (by omega), if_neg (by omega)⟩, y7⟩, y8, y9, y10, y11, Or.inl ⟨z, y12⟩⟩
  · have lp : 0 < ts.length := List.length_pos_iff.mpr z
    have le : ¬ nI ts.length ≤ 0 := nI_ge (a := 0) lp (by omega)
    have C := fun (d : Nat) (g : am_J) (Q : am_Q) => c277 (d := d) (σ := s) (g := g) (Q := Q) hS (n := ts.length) lp hl (by omega)
    -- after the copy
    have F : ∀ g : am_J, (∀ w, w ≠ τ.2.2.1 → am_ur (am_new 15 ts.length s ρ g τ).1 τ.2.2.1 (va_cpy ((am_new 15 ts.length s ρ g τ).1 133) ((am_new 15 ts.length s ρ g τ).1 τ.2.2.1) 0 0 ts.length) w = s w) ∧ ∀ k, k < ts.length → am_ur (am_new 15 ts.length s ρ g τ).1 τ.2.2.1 (va_cpy ((am_new 15 ts.length s ρ g τ).1 133) ((am_new 15 ts.length s ρ g τ).1 τ.2.2.1) 0 0 ts.length) τ.2.2.1 k = nI (tk_C (ts.getD k tk_no)) := fun g => by
      refine ⟨fun w hw => by rw [ur_ne _ _ _ hw, nw_s hw], fun k hk => ?_⟩
      rw [ur_at]
      show (if 0 ≤ k ∧ k < 0 + ts.length then (am_new 15 ts.length s ρ g τ).1 133 (0 + (k - 0)) else _) = _
      rw [if_pos ⟨Nat.zero_le _, by omega⟩, nw_s (by omega), show 0 + (k - 0) = k by omega]
      exact a133 k hk
    refine ⟨τ.2.2.1 + 1, am_u (am_u (am_u (am_u (am_new 5 4 (am_ur (am_new 15 ts.length s ρ g τ).1 τ.2.2.1 (va_cpy ((am_new 15 ts.length s ρ g τ).1 133) ((am_new 15 ts.length s ρ g τ).1 τ.2.2.1) 0 0 ts.length)) (am_new 15 ts.length s ρ g τ).2.1 (am_new 15 ts.length s ρ g τ).2.2.1 (am_new 15 ts.length s ρ g τ).2.2.2).1 (τ.2.2.1 + 1) 0 sv) (τ.2.2.1 + 1) 1 num) (τ.2.2.1 + 1) 2 sof) 131 9 (nI (m + 1)), am_u (am_u (am_new 5 4 (am_ur (am_new 15 ts.length s ρ g τ).1 τ.2.2.1 (va_cpy ((am_new 15 ts.length s ρ g τ).1 133) ((am_new 15 ts.length s ρ g τ).1 τ.2.2.1) 0 0 ts.length)) (am_new 15 ts.length s ρ g τ).2.1 (am_new 15 ts.length s ρ g τ).2.2.1 (am_new 15 ts.length s ρ g τ).2.2.2).2.1 (τ.2.2.1 + 1) 3 (some τ.2.2.1)) 134 m (some (τ.2.2.1 + 1)), (am_new 5 4 (am_ur (am_new 15 ts.length s ρ g τ).1 τ.2.2.1 (va_cpy ((am_new 15 ts.length s ρ g τ).1 133) ((am_new 15 ts.length s ρ g τ).1 τ.2.2.1) 0 0 ts.length)) (am_new 15 ts.length s ρ g τ).2.1 (am_new 15 ts.length s ρ g τ).2.2.1 (am_new 15 ts.length s ρ g τ).2.2.2).2.2.1, (am_new 5 4 (am_ur (am_new 15 ts.length s ρ g τ).1 τ.2.2.1 (va_cpy ((am_new 15 ts.length s ρ g τ).1 133) ((am_new 15 ts.length s ρ g τ).1 τ.2.2.1) 0 0 ts.length)) (am_new 15 ts.length s ρ g τ).2.1 (am_new 15 ts.length s ρ g τ).2.2.1 (am_new 15 ts.length s ρ g τ).2.2.2).2.2.2, ?_, fun d Q => ?_⟩
    rotate_left
    · have R : AW (d + 2) 86 138 [.ref 131, .int sv, .int num, .int sof, am_jk] [] σ ρ g τ Q = AW (d + 2) 86 164 [.ref 131, .int sv, .int num, .int sof, am_jk] [.ref τ.2.2.1] (am_ur (am_new 15 ts.length s ρ g τ).1 τ.2.2.1 (va_cpy ((am_new 15 ts.length s ρ g τ).1 133) ((am_new 15 ts.length s ρ g τ).1 τ.2.2.1) 0 0 ts.length)) (am_new 15 ts.length s ρ g τ).2.1 (am_new 15 ts.length s ρ g τ).2.2.1 (am_new 15 ts.length s ρ g τ).2.2.2 Q := by
        simp only [s86_138, s86_138n, s86_139, s86_142, s86_142n, s86_143, s86_146, s86_149, s86_149n, s86_150, s86_153, s86_153n, s86_154, s86_157, s86_160, k_0 hS, k_1 hS, k_2 hS, l_2 hS, k_3 hS, l_3 hS, k_4 hS, l_4 hS, k_5 hS, l_5 hS, k_6 hS, l_6 hS, k_7 hS, k_8 hS, l_8 hS, k_9 hS, l_9 hS, k_10 hS, k_11 hS, l_11 hS, k_12 hS, k_13 hS, l_13 hS, k_14 hS, k_15 hS, l_15 hS, k_16 hS, k_17 hS, l_17 hS, k_66 hS, k_67 hS, l_67 hS, k_68 hS, l_68 hS, k_69 hS, l_69 hS, k_70 hS, l_70 hS, k_71 hS, l_71 hS, k_72 hS, k_73 hS, l_73 hS, k_74 hS, l_74 hS, k_75 hS, k_76 hS, l_76 hS, k_77 hS, k_78 hS, l_78 hS, k_79 hS, k_80 hS, l_80 hS, k_81 hS, k_82 hS, l_82 hS, k_131 hS, k_132 hS, l_132 hS, k_133 hS, l_133 hS, k_134 hS, l_134 hS, k_135 hS, k_136 hS, l_136 hS, k_137 hS, l_137 hS, k_138 hS, l_138 hS, k_139 hS, l_139 hS, k_140 hS, k_141 hS, l_141 hS, k_142 hS, l_142 hS, k_143 hS, k_144 hS, l_144 hS, k_145 hS, k_146 hS, l_146 hS, k_147 hS, l_147 hS, k_148 hS, l_148 hS, k_153 hS, l_153 hS, k_154 hS, l_154 hS, k_155 hS, l_155 hS, k_156 hS, k_157 hS, l_157 hS, k_158 hS, l_158 hS, k_159 hS, l_159 hS, r_0_0 hS, r_0_1 hS, r_0_3 hS, r_0_4 hS, r_0_5 hS, r_0_6 hS, r_0_7 hS, r_0_8 hS, r_0_9 hS, r_0_10 hS, r_1_2 hS, r_1_3 hS, r_1_4 hS, r_1_5 hS, r_1_7 hS, r_1_9 hS, r_1_10 hS, r_1_12 hS, r_1_13 hS, r_1_14 hS, r_1_15 hS, r_7_1 hS, r_10_2 hS, r_12_2 hS, r_14_2 hS, r_16_2 hS, r_66_2 hS, r_66_3 hS, r_66_4 hS, r_66_5 hS, r_66_7 hS, r_66_9 hS, r_66_10 hS, r_66_12 hS, r_66_13 hS, r_66_14 hS, r_66_15 hS, r_72_1 hS, r_75_2 hS, r_77_2 hS, r_79_2 hS, r_81_2 hS, r_131_0 hS, r_131_6 hS, r_131_8 hS, r_135_0 hS, r_135_1 hS, r_135_2 hS, r_135_3 hS, r_140_0 hS, r_140_1 hS, r_143_2 hS, r_145_0 hS, r_145_1 hS, r_145_2 hS, r_145_3 hS, r_145_4 hS, r_145_5 hS, r_156_5 hS, k_pv hS, k_pvr hS, k_db hS, k_dbr hS, k_sh hS, l_pvr hS, l_dbr hS, l_sh hS, r_5 hS, r_6 hS, r_pv hS, r_db hS, r_148 hS, ol_s, ol_n, ln_0, ln_1, ln_2, ln_3, ln_4, eq_self, rf_s, rf_n, i01_0, i01_n0, i01_b, b01_0, b01_1, and_self, and_true, true_and, and_false, false_and, if_true, if_false, not_true_eq_false, not_false_eq_true, e10, e00, lt_bg, Nat.reduceLT, Nat.reduceLeDiff, V, a7, le, C]
      rw [R]
      have b9 : am_ur (am_new 15 ts.length s ρ g τ).1 τ.2.2.1 (va_cpy ((am_new 15 ts.length s ρ g τ).1 133) ((am_new 15 ts.length s ρ g τ).1 τ.2.2.1) 0 0 ts.length) 131 9 = nI m := by
        rw [(F g).1 131 (by omega)]
        exact a9
      exact c86r (cd := τ.2.2.1) (sh_nw hS) (m := m) (by show τ.2.2.1 + 1 < 1000000; omega) hm b9
    · obtain ⟨f1, f2⟩ := F g
      obtain ⟨y1, y2, y3, y4, y5, y6, y7, y8, y9, y10, y11, y12⟩ := ln_mk (σ := am_ur (am_new 15 ts.length s ρ g τ).1 τ.2.2.1 (va_cpy ((am_new 15 ts.length s ρ g τ).1 133) ((am_new 15 ts.length s ρ g τ).1 τ.2.2.1) 0 0 ts.length)) (ρ := (am_new 15 ts.length s ρ g τ).2.1) (g := (am_new 15 ts.length s ρ g τ).2.2.1) (τ := (am_new 15 ts.length s ρ g τ).2.2.2) (sh_nw hS) (m := m) (sv := sv) (num := num) (sof := sof) (cd := some τ.2.2.1) (by show τ.2.2.1 + 1 < 1000000; omega)
      refine ⟨⟨by omega, Nat.le_refl _, rfl, by show τ.2.2.2 + ts.length + 4 ≤ _; omega⟩, ⟨fun w h1 h2 => (y3 w h1 (by show w ≠ τ.2.2.1 + 1; omega)).trans (f1 w (by omega)), fun k hk => (y4 k hk).trans (by rw [f1 131 (by omega)]), u_at _ _ _ _⟩, ⟨fun w h1 h2 => (y5 w h1 (by show w ≠ τ.2.2.1 + 1; omega)).trans (nw_r (by omega)), fun k hk => (y6 k hk).trans (by rw [nw_r (by omega)]), u_at _ _ _ _⟩, ⟨fun w h1 => (nw_g (by show w ≠ τ.2.2.1 + 1; omega)).trans (nw_g (by omega)), fun w h1 => ⟨?_, ?_⟩, y7⟩, y8, y9, y10, y11, Or.inr ⟨z, τ.2.2.1, y12, Nat.le_refl _, ?_, ?_, ?_, fun k hk => ?_⟩⟩
      · show (if w = τ.2.2.1 + 1 then 5 else if w = τ.2.2.1 then 15 else τ.1 w) = τ.1 w
        rw [if_neg (by omega), if_neg (by omega)]
      · show (if w = τ.2.2.1 + 1 then 4 else if w = τ.2.2.1 then ts.length else τ.2.1 w) = τ.2.1 w
        rw [if_neg (by omega), if_neg (by omega)]
      · show τ.2.2.1 < τ.2.2.1 + 1 + 1
        omega
      · show (if τ.2.2.1 = τ.2.2.1 + 1 then 5 else if τ.2.2.1 = τ.2.2.1 then 15 else τ.1 τ.2.2.1) = 15
        rw [if_neg (by omega), if_pos rfl]
      · show (if τ.2.2.1 = τ.2.2.1 + 1 then 4 else if τ.2.2.1 = τ.2.2.1 then ts.length else τ.2.1 τ.2.2.1) = ts.length
        rw [if_neg (by omega), if_pos rfl]
      · exact (congrFun (y3 τ.2.2.1 (by omega) (by show τ.2.2.1 ≠ τ.2.2.1 + 1; omega)) k).trans (f2 k hk)
end ODD
