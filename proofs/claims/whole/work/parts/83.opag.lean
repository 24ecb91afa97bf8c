/-! dealing: what the class's bodies come to -/
section OAG
variable {d : Nat} {σ : am_I} {ρ : am_R} {g : am_J} {τ : am_T} {Q : am_Q} {k : Nat} {n h s : Int32} {t dp : Nat}
theorem DC.nt (q : DC σ k n h s t) (b : Int32) : DC (am_u (am_u σ 157 t b) 156 6 (nI (t + 1))) k n h s (t + 1) := q.tr [b]
theorem Bgd.nt (q : Bgd σ τ) (t : Nat) (b v : Int32) : Bgd (am_u (am_u σ 157 t b) 156 6 v) τ := q.cg (fun y hy => by rw [u_ne _ _ _ _ (by omega), u_ne _ _ _ _ (by omega)])
def f_pt (n h : Int32) (σ : am_I) : am_I := if h - n = 0 then am_u σ 156 4 1 else σ
theorem c5 (hS : Sh ρ τ) {x y : Int32} : AW d 5 0 [.ref 156, .int x, .int y] [] σ ρ g τ Q = Q (some (.int (if y = 0 then 0 else x / y))) (if y = 0 then am_u σ 156 4 1 else σ) ρ g τ := by
  by_cases q : y = 0
  · subst q
    simp only [s5_0, s5_1, s5_4, s5_5, s5_6, s5_9, s5_10, s5_11, s5_12, s5_13, s5_14, k_0 hS, k_1 hS, k_2 hS, l_2 hS, k_3 hS, l_3 hS, k_4 hS, l_4 hS, k_5 hS, l_5 hS, k_6 hS, l_6 hS, k_7 hS, k_8 hS, l_8 hS, k_9 hS, l_9 hS, k_10 hS, k_11 hS, l_11 hS, k_12 hS, k_13 hS, l_13 hS, k_14 hS, k_15 hS, l_15 hS, k_16 hS, k_17 hS, l_17 hS, k_66 hS, k_67 hS, l_67 hS, k_68 hS, l_68 hS, k_69 hS, l_69 hS, k_70 hS, l_70 hS, k_71 hS, l_71 hS, k_72 hS, k_73 hS, l_73 hS, k_74 hS, l_74 hS, k_75 hS, k_76 hS, l_76 hS, k_77 hS, k_78 hS, l_78 hS, k_79 hS, k_80 hS, l_80 hS, k_81 hS, k_82 hS, l_82 hS, k_131 hS, k_132 hS, l_132 hS, k_133 hS, l_133 hS, k_134 hS, l_134 hS, k_135 hS, k_136 hS, l_136 hS, k_137 hS, l_137 hS, k_138 hS, l_138 hS, k_139 hS, l_139 hS, k_140 hS, k_141 hS, l_141 hS, k_142 hS, l_142 hS, k_143 hS, k_144 hS, l_144 hS, k_145 hS, k_146 hS, l_146 hS, k_147 hS, l_147 hS, k_148 hS, l_148 hS, k_153 hS, l_153 hS, k_154 hS, l_154 hS, k_155 hS, l_155 hS, k_156 hS, k_157 hS, l_157 hS, k_158 hS, l_158 hS, k_159 hS, l_159 hS, r_0_0 hS, r_0_1 hS, r_0_3 hS, r_0_4 hS, r_0_5 hS, r_0_6 hS, r_0_7 hS, r_0_8 hS, r_0_9 hS, r_0_10 hS, r_1_2 hS, r_1_3 hS, r_1_4 hS, r_1_5 hS, r_1_7 hS, r_1_9 hS, r_1_10 hS, r_1_12 hS, r_1_13 hS, r_1_14 hS, r_1_15 hS, r_7_1 hS, r_10_2 hS, r_12_2 hS, r_14_2 hS, r_16_2 hS, r_66_2 hS, r_66_3 hS, r_66_4 hS, r_66_5 hS, r_66_7 hS, r_66_9 hS, r_66_10 hS, r_66_12 hS, r_66_13 hS, r_66_14 hS, r_66_15 hS, r_72_1 hS, r_75_2 hS, r_77_2 hS, r_79_2 hS, r_81_2 hS, r_131_0 hS, r_131_6 hS, r_131_8 hS, r_135_0 hS, r_135_1 hS, r_135_2 hS, r_135_3 hS, r_140_0 hS, r_140_1 hS, r_143_2 hS, r_145_0 hS, r_145_1 hS, r_145_2 hS, r_145_3 hS, r_145_4 hS, r_145_5 hS, r_156_5 hS, k_pv hS, k_pvr hS, k_db hS, k_dbr hS, k_sh hS, l_pvr hS, l_dbr hS, l_sh hS, r_5 hS, r_6 hS, r_pv hS, r_db hS, r_148 hS, ol_s, ol_n, ln_0, ln_1, ln_2, ln_3, ln_4, eq_self, rf_s, rf_n, i01_0, i01_n0, i01_b, b01_0, b01_1, and_self, and_true, true_and, and_false, false_and, if_true, if_false, not_true_eq_false, not_false_eq_true, e10, e00, lt_bg, Nat.reduceLT, Nat.reduceLeDiff]
  · simp only [s5_0, s5_1, s5_4, s5_5, s5_6, s5_9, s5_10, s5_11, s5_12, s5_13, s5_14, k_0 hS, k_1 hS, k_2 hS, l_2 hS, k_3 hS, l_3 hS, k_4 hS, l_4 hS, k_5 hS, l_5 hS, k_6 hS, l_6 hS, k_7 hS, k_8 hS, l_8 hS, k_9 hS, l_9 hS, k_10 hS, k_11 hS, l_11 hS, k_12 hS, k_13 hS, l_13 hS, k_14 hS, k_15 hS, l_15 hS, k_16 hS, k_17 hS, l_17 hS, k_66 hS, k_67 hS, l_67 hS, k_68 hS, l_68 hS, k_69 hS, l_69 hS, k_70 hS, l_70 hS, k_71 hS, l_71 hS, k_72 hS, k_73 hS, l_73 hS, k_74 hS, l_74 hS, k_75 hS, k_76 hS, l_76 hS, k_77 hS, k_78 hS, l_78 hS, k_79 hS, k_80 hS, l_80 hS, k_81 hS, k_82 hS, l_82 hS, k_131 hS, k_132 hS, l_132 hS, k_133 hS, l_133 hS, k_134 hS, l_134 hS, k_135 hS, k_136 hS, l_136 hS, k_137 hS, l_137 hS, k_138 hS, l_138 hS, k_139 hS, l_139 hS, k_140 hS, k_141 hS, l_141 hS, k_142 hS, l_142 hS, k_143 hS, k_144 hS, l_144 hS, k_145 hS, k_146 hS, l_146 hS, k_147 hS, l_147 hS, k_148 hS, l_148 hS, k_153 hS, l_153 hS, k_154 hS, l_154 hS, k_155 hS, l_155 hS, k_156 hS, k_157 hS, l_157 hS, k_158 hS, l_158 hS, k_159 hS, l_159 hS, r_0_0 hS, r_0_1 hS, r_0_3 hS, r_0_4 hS, r_0_5 hS, r_0_6 hS, r_0_7 hS, r_0_8 hS, r_0_9 hS, r_0_10 hS, r_1_2 hS, r_1_3 hS, r_1_4 hS, r_1_5 hS, r_1_7 hS, r_1_9 hS, r_1_10 hS, r_1_12 hS, r_1_13 hS, r_1_14 hS, r_1_15 hS, r_7_1 hS, r_10_2 hS, r_12_2 hS, r_14_2 hS, r_16_2 hS, r_66_2 hS, r_66_3 hS, r_66_4 hS, r_66_5 hS, r_66_7 hS, r_66_9 hS, r_66_10 hS, r_66_12 hS, r_66_13 hS, r_66_14 hS, r_66_15 hS, r_72_1 hS, r_75_2 hS, r_77_2 hS, r_79_2 hS, r_81_2 hS, r_131_0 hS, r_131_6 hS, r_131_8 hS, r_135_0 hS, r_135_1 hS, r_135_2 hS, r_135_3 hS, r_140_0 hS, r_140_1 hS, r_143_2 hS, r_145_0 hS, r_145_1 hS, r_145_2 hS, r_145_3 hS, r_145_4 hS, r_145_5 hS, r_156_5 hS, k_pv hS, k_pvr hS, k_db hS, k_dbr hS, k_sh hS, l_pvr hS, l_dbr hS, l_sh hS, r_5 hS, r_6 hS, r_pv hS, r_db hS, r_148 hS, ol_s, ol_n, ln_0, ln_1, ln_2, ln_3, ln_4, eq_self, rf_s, rf_n, i01_0, i01_n0, i01_b, b01_0, b01_1, and_self, and_true, true_and, and_false, false_and, if_true, if_false, not_true_eq_false, not_false_eq_true, e10, e00, lt_bg, Nat.reduceLT, Nat.reduceLeDiff, q]
theorem rP_0 (hS : Sh ρ τ) (hb : Bgd σ τ) (hd : DC σ k n h s t) (ht : t + 1 ≤ 30) (hp : dp + 1 ≤ 40) {x : Int32} : AW (d + 1) 4 0 [.ref 156, .int 0, .int 0, .int x, .int (nI dp), am_jk, am_jk, am_jk] [] σ ρ g τ Q = Q (some (.int (fP s 0 x))) (f_trC σ t (lP 0)) ρ g τ := by
  rw [en_0_0 hS hb hd.2.2.2.2 (by omega) (by omega)]
  have hb1 := hb.nt t 10 (nI (t + 1))
  obtain ⟨a0, a1, a2, a3, a4, a5, a6, a7, a8⟩ := bgA hb1
  have hd1 := hd.nt 10
  have hdd := hd1
  obtain ⟨q0, q1, q2, q3, q4⟩ := hdd
  have i0 : am_inb 0 7 = true := by decide
  have i1 : am_inb 1 7 = true := by decide
  have i2 : am_inb 2 7 = true := by decide
  have i3 : am_inb 3 7 = true := by decide
  have i4 : am_inb 4 7 = true := by decide
  have i5 : am_inb 5 7 = true := by decide
  have i6 : am_inb 6 7 = true := by decide
  simp only [s4_200, s4_201, s4_202, s4_205, s4_206, k_0 hS, k_1 hS, k_2 hS, l_2 hS, k_3 hS, l_3 hS, k_4 hS, l_4 hS, k_5 hS, l_5 hS, k_6 hS, l_6 hS, k_7 hS, k_8 hS, l_8 hS, k_9 hS, l_9 hS, k_10 hS, k_11 hS, l_11 hS, k_12 hS, k_13 hS, l_13 hS, k_14 hS, k_15 hS, l_15 hS, k_16 hS, k_17 hS, l_17 hS, k_66 hS, k_67 hS, l_67 hS, k_68 hS, l_68 hS, k_69 hS, l_69 hS, k_70 hS, l_70 hS, k_71 hS, l_71 hS, k_72 hS, k_73 hS, l_73 hS, k_74 hS, l_74 hS, k_75 hS, k_76 hS, l_76 hS, k_77 hS, k_78 hS, l_78 hS, k_79 hS, k_80 hS, l_80 hS, k_81 hS, k_82 hS, l_82 hS, k_131 hS, k_132 hS, l_132 hS, k_133 hS, l_133 hS, k_134 hS, l_134 hS, k_135 hS, k_136 hS, l_136 hS, k_137 hS, l_137 hS, k_138 hS, l_138 hS, k_139 hS, l_139 hS, k_140 hS, k_141 hS, l_141 hS, k_142 hS, l_142 hS, k_143 hS, k_144 hS, l_144 hS, k_145 hS, k_146 hS, l_146 hS, k_147 hS, l_147 hS, k_148 hS, l_148 hS, k_153 hS, l_153 hS, k_154 hS, l_154 hS, k_155 hS, l_155 hS, k_156 hS, k_157 hS, l_157 hS, k_158 hS, l_158 hS, k_159 hS, l_159 hS, r_0_0 hS, r_0_1 hS, r_0_3 hS, r_0_4 hS, r_0_5 hS, r_0_6 hS, r_0_7 hS, r_0_8 hS, r_0_9 hS, r_0_10 hS, r_1_2 hS, r_1_3 hS, r_1_4 hS, r_1_5 hS, r_1_7 hS, r_1_9 hS, r_1_10 hS, r_1_12 hS, r_1_13 hS, r_1_14 hS, r_1_15 hS, r_7_1 hS, r_10_2 hS, r_12_2 hS, r_14_2 hS, r_16_2 hS, r_66_2 hS, r_66_3 hS, r_66_4 hS, r_66_5 hS, r_66_7 hS, r_66_9 hS, r_66_10 hS, r_66_12 hS, r_66_13 hS, r_66_14 hS, r_66_15 hS, r_72_1 hS, r_75_2 hS, r_77_2 hS, r_79_2 hS, r_81_2 hS, r_131_0 hS, r_131_6 hS, r_131_8 hS, r_135_0 hS, r_135_1 hS, r_135_2 hS, r_135_3 hS, r_140_0 hS, r_140_1 hS, r_143_2 hS, r_145_0 hS, r_145_1 hS, r_145_2 hS, r_145_3 hS, r_145_4 hS, r_145_5 hS, r_156_5 hS, k_pv hS, k_pvr hS, k_db hS, k_dbr hS, k_sh hS, l_pvr hS, l_dbr hS, l_sh hS, r_5 hS, r_6 hS, r_pv hS, r_db hS, r_148 hS, ol_s, ol_n, ln_0, ln_1, ln_2, ln_3, ln_4, eq_self, rf_s, rf_n, i01_0, i01_n0, i01_b, b01_0, b01_1, and_self, and_true, true_and, and_false, false_and, if_true, if_false, not_true_eq_false, not_false_eq_true, e10, e00, lt_bg, Nat.reduceLT, Nat.reduceLeDiff, q0, q1, q2, q3, q4, a0, a1, a2, a3, a4, a5, a6, a7, a8, z0, z1, z2, z3, z4, z5, z6, i0, i1, i2, i3, i4, i5, i6, nI_1]
  rfl
theorem rP_1 (hS : Sh ρ τ) (hb : Bgd σ τ) (hd : DC σ k n h s t) (ht : t + 1 ≤ 30) (hp : dp + 1 ≤ 40) {x : Int32} : AW (d + 1) 4 0 [.ref 156, .int 1, .int 0, .int x, .int (nI dp), am_jk, am_jk, am_jk] [] σ ρ g τ Q = Q (some (.int (fP s 1 x))) (f_trC σ t (lP 1)) ρ g τ := by
  rw [en_1_0 hS hb hd.2.2.2.2 (by omega) (by omega)]
  have hb1 := hb.nt t 10 (nI (t + 1))
  obtain ⟨a0, a1, a2, a3, a4, a5, a6, a7, a8⟩ := bgA hb1
  have hd1 := hd.nt 10
  have hdd := hd1
  obtain ⟨q0, q1, q2, q3, q4⟩ := hdd
  have i0 : am_inb 0 7 = true := by decide
  have i1 : am_inb 1 7 = true := by decide
  have i2 : am_inb 2 7 = true := by decide
  have i3 : am_inb 3 7 = true := by decide
  have i4 : am_inb 4 7 = true := by decide
  have i5 : am_inb 5 7 = true := by decide
  have i6 : am_inb 6 7 = true := by decide
  simp only [s4_200, s4_201, s4_202, s4_205, s4_206, k_0 hS, k_1 hS, k_2 hS, l_2 hS, k_3 hS, l_3 hS, k_4 hS, l_4 hS, k_5 hS, l_5 hS, k_6 hS, l_6 hS, k_7 hS, k_8 hS, l_8 hS, k_9 hS, l_9 hS, k_10 hS, k_11 hS, l_11 hS, k_12 hS, k_13 hS, l_13 hS, k_14 hS, k_15 hS, l_15 hS, k_16 hS, k_17 hS, l_17 hS, k_66 hS, k_67 hS, l_67 hS, k_68 hS, l_68 hS, k_69 hS, l_69 hS, k_70 hS, l_70 hS, k_71 hS, l_71 hS, k_72 hS, k_73 hS, l_73 hS, k_74 hS, l_74 hS, k_75 hS, k_76 hS, l_76 hS, k_77 hS, k_78 hS, l_78 hS, k_79 hS, k_80 hS, l_80 hS, k_81 hS, k_82 hS, l_82 hS, k_131 hS, k_132 hS, l_132 hS, k_133 hS, l_133 hS, k_134 hS, l_134 hS, k_135 hS, k_136 hS, l_136 hS, k_137 hS, l_137 hS, k_138 hS, l_138 hS, k_139 hS, l_139 hS, k_140 hS, k_141 hS, l_141 hS, k_142 hS, l_142 hS, k_143 hS, k_144 hS, l_144 hS, k_145 hS, k_146 hS, l_146 hS, k_147 hS, l_147 hS, k_148 hS, l_148 hS, k_153 hS, l_153 hS, k_154 hS, l_154 hS, k_155 hS, l_155 hS, k_156 hS, k_157 hS, l_157 hS, k_158 hS, l_158 hS, k_159 hS, l_159 hS, r_0_0 hS, r_0_1 hS, r_0_3 hS, r_0_4 hS, r_0_5 hS, r_0_6 hS, r_0_7 hS, r_0_8 hS, r_0_9 hS, r_0_10 hS, r_1_2 hS, r_1_3 hS, r_1_4 hS, r_1_5 hS, r_1_7 hS, r_1_9 hS, r_1_10 hS, r_1_12 hS, r_1_13 hS, r_1_14 hS, r_1_15 hS, r_7_1 hS, r_10_2 hS, r_12_2 hS, r_14_2 hS, r_16_2 hS, r_66_2 hS, r_66_3 hS, r_66_4 hS, r_66_5 hS, r_66_7 hS, r_66_9 hS, r_66_10 hS, r_66_12 hS, r_66_13 hS, r_66_14 hS, r_66_15 hS, r_72_1 hS, r_75_2 hS, r_77_2 hS, r_79_2 hS, r_81_2 hS, r_131_0 hS, r_131_6 hS, r_131_8 hS, r_135_0 hS, r_135_1 hS, r_135_2 hS, r_135_3 hS, r_140_0 hS, r_140_1 hS, r_143_2 hS, r_145_0 hS, r_145_1 hS, r_145_2 hS, r_145_3 hS, r_145_4 hS, r_145_5 hS, r_156_5 hS, k_pv hS, k_pvr hS, k_db hS, k_dbr hS, k_sh hS, l_pvr hS, l_dbr hS, l_sh hS, r_5 hS, r_6 hS, r_pv hS, r_db hS, r_148 hS, ol_s, ol_n, ln_0, ln_1, ln_2, ln_3, ln_4, eq_self, rf_s, rf_n, i01_0, i01_n0, i01_b, b01_0, b01_1, and_self, and_true, true_and, and_false, false_and, if_true, if_false, not_true_eq_false, not_false_eq_true, e10, e00, lt_bg, Nat.reduceLT, Nat.reduceLeDiff, q0, q1, q2, q3, q4, a0, a1, a2, a3, a4, a5, a6, a7, a8, z0, z1, z2, z3, z4, z5, z6, i0, i1, i2, i3, i4, i5, i6, nI_1]
  rfl
theorem rP_2 (hS : Sh ρ τ) (hb : Bgd σ τ) (hd : DC σ k n h s t) (ht : t + 2 ≤ 30) (hp : dp + 2 ≤ 40) {x : Int32} : AW (d + 2) 4 0 [.ref 156, .int 2, .int 0, .int x, .int (nI dp), am_jk, am_jk, am_jk] [] σ ρ g τ Q = Q (some (.int (fP s 2 x))) (f_trC σ t (lP 2)) ρ g τ := by
  rw [en_2_0 hS hb hd.2.2.2.2 (by omega) (by omega)]
  have hb1 := hb.nt t 30 (nI (t + 1))
  obtain ⟨a0, a1, a2, a3, a4, a5, a6, a7, a8⟩ := bgA hb1
  have hd1 := hd.nt 30
  have hdd := hd1
  obtain ⟨q0, q1, q2, q3, q4⟩ := hdd
  have i0 : am_inb 0 7 = true := by decide
  have i1 : am_inb 1 7 = true := by decide
  have i2 : am_inb 2 7 = true := by decide
  have i3 : am_inb 3 7 = true := by decide
  have i4 : am_inb 4 7 = true := by decide
  have i5 : am_inb 5 7 = true := by decide
  have i6 : am_inb 6 7 = true := by decide
  simp only [s4_275, s4_276, s4_279, s4_281, s4_282, s4_283, s4_284, s4_286, s4_289, s4_290, s4_291, k_0 hS, k_1 hS, k_2 hS, l_2 hS, k_3 hS, l_3 hS, k_4 hS, l_4 hS, k_5 hS, l_5 hS, k_6 hS, l_6 hS, k_7 hS, k_8 hS, l_8 hS, k_9 hS, l_9 hS, k_10 hS, k_11 hS, l_11 hS, k_12 hS, k_13 hS, l_13 hS, k_14 hS, k_15 hS, l_15 hS, k_16 hS, k_17 hS, l_17 hS, k_66 hS, k_67 hS, l_67 hS, k_68 hS, l_68 hS, k_69 hS, l_69 hS, k_70 hS, l_70 hS, k_71 hS, l_71 hS, k_72 hS, k_73 hS, l_73 hS, k_74 hS, l_74 hS, k_75 hS, k_76 hS, l_76 hS, k_77 hS, k_78 hS, l_78 hS, k_79 hS, k_80 hS, l_80 hS, k_81 hS, k_82 hS, l_82 hS, k_131 hS, k_132 hS, l_132 hS, k_133 hS, l_133 hS, k_134 hS, l_134 hS, k_135 hS, k_136 hS, l_136 hS, k_137 hS, l_137 hS, k_138 hS, l_138 hS, k_139 hS, l_139 hS, k_140 hS, k_141 hS, l_141 hS, k_142 hS, l_142 hS, k_143 hS, k_144 hS, l_144 hS, k_145 hS, k_146 hS, l_146 hS, k_147 hS, l_147 hS, k_148 hS, l_148 hS, k_153 hS, l_153 hS, k_154 hS, l_154 hS, k_155 hS, l_155 hS, k_156 hS, k_157 hS, l_157 hS, k_158 hS, l_158 hS, k_159 hS, l_159 hS, r_0_0 hS, r_0_1 hS, r_0_3 hS, r_0_4 hS, r_0_5 hS, r_0_6 hS, r_0_7 hS, r_0_8 hS, r_0_9 hS, r_0_10 hS, r_1_2 hS, r_1_3 hS, r_1_4 hS, r_1_5 hS, r_1_7 hS, r_1_9 hS, r_1_10 hS, r_1_12 hS, r_1_13 hS, r_1_14 hS, r_1_15 hS, r_7_1 hS, r_10_2 hS, r_12_2 hS, r_14_2 hS, r_16_2 hS, r_66_2 hS, r_66_3 hS, r_66_4 hS, r_66_5 hS, r_66_7 hS, r_66_9 hS, r_66_10 hS, r_66_12 hS, r_66_13 hS, r_66_14 hS, r_66_15 hS, r_72_1 hS, r_75_2 hS, r_77_2 hS, r_79_2 hS, r_81_2 hS, r_131_0 hS, r_131_6 hS, r_131_8 hS, r_135_0 hS, r_135_1 hS, r_135_2 hS, r_135_3 hS, r_140_0 hS, r_140_1 hS, r_143_2 hS, r_145_0 hS, r_145_1 hS, r_145_2 hS, r_145_3 hS, r_145_4 hS, r_145_5 hS, r_156_5 hS, k_pv hS, k_pvr hS, k_db hS, k_dbr hS, k_sh hS, l_pvr hS, l_dbr hS, l_sh hS, r_5 hS, r_6 hS, r_pv hS, r_db hS, r_148 hS, ol_s, ol_n, ln_0, ln_1, ln_2, ln_3, ln_4, eq_self, rf_s, rf_n, i01_0, i01_n0, i01_b, b01_0, b01_1, and_self, and_true, true_and, and_false, false_and, if_true, if_false, not_true_eq_false, not_false_eq_true, e10, e00, lt_bg, Nat.reduceLT, Nat.reduceLeDiff, q0, q1, q2, q3, q4, a0, a1, a2, a3, a4, a5, a6, a7, a8, z0, z1, z2, z3, z4, z5, z6, i0, i1, i2, i3, i4, i5, i6, nI_1, rP_1 (dp := dp + 1) hS hb1 hd1 (by omega) (by omega)]
  rfl
theorem rP_3 (hS : Sh ρ τ) (hb : Bgd σ τ) (hd : DC σ k n h s t) (ht : t + 3 ≤ 30) (hp : dp + 3 ≤ 40) {x : Int32} : AW (d + 3) 4 0 [.ref 156, .int 3, .int 0, .int x, .int (nI dp), am_jk, am_jk, am_jk] [] σ ρ g τ Q = Q (some (.int (fP s 3 x))) (f_trC σ t (lP 3)) ρ g τ := by
  rw [en_3_0 hS hb hd.2.2.2.2 (by omega) (by omega)]
  have hb1 := hb.nt t 40 (nI (t + 1))
  obtain ⟨a0, a1, a2, a3, a4, a5, a6, a7, a8⟩ := bgA hb1
  have hd1 := hd.nt 40
  have hdd := hd1
  obtain ⟨q0, q1, q2, q3, q4⟩ := hdd
  have i0 : am_inb 0 7 = true := by decide
  have i1 : am_inb 1 7 = true := by decide
  have i2 : am_inb 2 7 = true := by decide
  have i3 : am_inb 3 7 = true := by decide
  have i4 : am_inb 4 7 = true := by decide
  have i5 : am_inb 5 7 = true := by decide
  have i6 : am_inb 6 7 = true := by decide
  simp only [s4_320, s4_321, s4_322, s4_325, s4_327, s4_328, s4_329, s4_330, s4_332, s4_335, s4_336, k_0 hS, k_1 hS, k_2 hS, l_2 hS, k_3 hS, l_3 hS, k_4 hS, l_4 hS, k_5 hS, l_5 hS, k_6 hS, l_6 hS, k_7 hS, k_8 hS, l_8 hS, k_9 hS, l_9 hS, k_10 hS, k_11 hS, l_11 hS, k_12 hS, k_13 hS, l_13 hS, k_14 hS, k_15 hS, l_15 hS, k_16 hS, k_17 hS, l_17 hS, k_66 hS, k_67 hS, l_67 hS, k_68 hS, l_68 hS, k_69 hS, l_69 hS, k_70 hS, l_70 hS, k_71 hS, l_71 hS, k_72 hS, k_73 hS, l_73 hS, k_74 hS, l_74 hS, k_75 hS, k_76 hS, l_76 hS, k_77 hS, k_78 hS, l_78 hS, k_79 hS, k_80 hS, l_80 hS, k_81 hS, k_82 hS, l_82 hS, k_131 hS, k_132 hS, l_132 hS, k_133 hS, l_133 hS, k_134 hS, l_134 hS, k_135 hS, k_136 hS, l_136 hS, k_137 hS, l_137 hS, k_138 hS, l_138 hS, k_139 hS, l_139 hS, k_140 hS, k_141 hS, l_141 hS, k_142 hS, l_142 hS, k_143 hS, k_144 hS, l_144 hS, k_145 hS, k_146 hS, l_146 hS, k_147 hS, l_147 hS, k_148 hS, l_148 hS, k_153 hS, l_153 hS, k_154 hS, l_154 hS, k_155 hS, l_155 hS, k_156 hS, k_157 hS, l_157 hS, k_158 hS, l_158 hS, k_159 hS, l_159 hS, r_0_0 hS, r_0_1 hS, r_0_3 hS, r_0_4 hS, r_0_5 hS, r_0_6 hS, r_0_7 hS, r_0_8 hS, r_0_9 hS, r_0_10 hS, r_1_2 hS, r_1_3 hS, r_1_4 hS, r_1_5 hS, r_1_7 hS, r_1_9 hS, r_1_10 hS, r_1_12 hS, r_1_13 hS, r_1_14 hS, r_1_15 hS, r_7_1 hS, r_10_2 hS, r_12_2 hS, r_14_2 hS, r_16_2 hS, r_66_2 hS, r_66_3 hS, r_66_4 hS, r_66_5 hS, r_66_7 hS, r_66_9 hS, r_66_10 hS, r_66_12 hS, r_66_13 hS, r_66_14 hS, r_66_15 hS, r_72_1 hS, r_75_2 hS, r_77_2 hS, r_79_2 hS, r_81_2 hS, r_131_0 hS, r_131_6 hS, r_131_8 hS, r_135_0 hS, r_135_1 hS, r_135_2 hS, r_135_3 hS, r_140_0 hS, r_140_1 hS, r_143_2 hS, r_145_0 hS, r_145_1 hS, r_145_2 hS, r_145_3 hS, r_145_4 hS, r_145_5 hS, r_156_5 hS, k_pv hS, k_pvr hS, k_db hS, k_dbr hS, k_sh hS, l_pvr hS, l_dbr hS, l_sh hS, r_5 hS, r_6 hS, r_pv hS, r_db hS, r_148 hS, ol_s, ol_n, ln_0, ln_1, ln_2, ln_3, ln_4, eq_self, rf_s, rf_n, i01_0, i01_n0, i01_b, b01_0, b01_1, and_self, and_true, true_and, and_false, false_and, if_true, if_false, not_true_eq_false, not_false_eq_true, e10, e00, lt_bg, Nat.reduceLT, Nat.reduceLeDiff, q0, q1, q2, q3, q4, a0, a1, a2, a3, a4, a5, a6, a7, a8, z0, z1, z2, z3, z4, z5, z6, i0, i1, i2, i3, i4, i5, i6, nI_1, rP_2 (dp := dp + 1) hS hb1 hd1 (by omega) (by omega)]
  rfl
theorem rP_4 (hS : Sh ρ τ) (hb : Bgd σ τ) (hd : DC σ k n h s t) (ht : t + 1 ≤ 30) (hp : dp + 1 ≤ 40) {x : Int32} : AW (d + 1) 4 0 [.ref 156, .int 4, .int 0, .int x, .int (nI dp), am_jk, am_jk, am_jk] [] σ ρ g τ Q = Q (some (.int (fP s 4 x))) (f_trC σ t (lP 4)) ρ g τ := by
  rw [en_4_0 hS hb hd.2.2.2.2 (by omega) (by omega)]
  have hb1 := hb.nt t 10 (nI (t + 1))
  obtain ⟨a0, a1, a2, a3, a4, a5, a6, a7, a8⟩ := bgA hb1
  have hd1 := hd.nt 10
  have hdd := hd1
  obtain ⟨q0, q1, q2, q3, q4⟩ := hdd
  have i0 : am_inb 0 7 = true := by decide
  have i1 : am_inb 1 7 = true := by decide
  have i2 : am_inb 2 7 = true := by decide
  have i3 : am_inb 3 7 = true := by decide
  have i4 : am_inb 4 7 = true := by decide
  have i5 : am_inb 5 7 = true := by decide
  have i6 : am_inb 6 7 = true := by decide
  simp only [s4_200, s4_201, s4_202, s4_205, s4_206, k_0 hS, k_1 hS, k_2 hS, l_2 hS, k_3 hS, l_3 hS, k_4 hS, l_4 hS, k_5 hS, l_5 hS, k_6 hS, l_6 hS, k_7 hS, k_8 hS, l_8 hS, k_9 hS, l_9 hS, k_10 hS, k_11 hS, l_11 hS, k_12 hS, k_13 hS, l_13 hS, k_14 hS, k_15 hS, l_15 hS, k_16 hS, k_17 hS, l_17 hS, k_66 hS, k_67 hS, l_67 hS, k_68 hS, l_68 hS, k_69 hS, l_69 hS, k_70 hS, l_70 hS, k_71 hS, l_71 hS, k_72 hS, k_73 hS, l_73 hS, k_74 hS, l_74 hS, k_75 hS, k_76 hS, l_76 hS, k_77 hS, k_78 hS, l_78 hS, k_79 hS, k_80 hS, l_80 hS, k_81 hS, k_82 hS, l_82 hS, k_131 hS, k_132 hS, l_132 hS, k_133 hS, l_133 hS, k_134 hS, l_134 hS, k_135 hS, k_136 hS, l_136 hS, k_137 hS, l_137 hS, k_138 hS, l_138 hS, k_139 hS, l_139 hS, k_140 hS, k_141 hS, l_141 hS, k_142 hS, l_142 hS, k_143 hS, k_144 hS, l_144 hS, k_145 hS, k_146 hS, l_146 hS, k_147 hS, l_147 hS, k_148 hS, l_148 hS, k_153 hS, l_153 hS, k_154 hS, l_154 hS, k_155 hS, l_155 hS, k_156 hS, k_157 hS, l_157 hS, k_158 hS, l_158 hS, k_159 hS, l_159 hS, r_0_0 hS, r_0_1 hS, r_0_3 hS, r_0_4 hS, r_0_5 hS, r_0_6 hS, r_0_7 hS, r_0_8 hS, r_0_9 hS, r_0_10 hS, r_1_2 hS, r_1_3 hS, r_1_4 hS, r_1_5 hS, r_1_7 hS, r_1_9 hS, r_1_10 hS, r_1_12 hS, r_1_13 hS, r_1_14 hS, r_1_15 hS, r_7_1 hS, r_10_2 hS, r_12_2 hS, r_14_2 hS, r_16_2 hS, r_66_2 hS, r_66_3 hS, r_66_4 hS, r_66_5 hS, r_66_7 hS, r_66_9 hS, r_66_10 hS, r_66_12 hS, r_66_13 hS, r_66_14 hS, r_66_15 hS, r_72_1 hS, r_75_2 hS, r_77_2 hS, r_79_2 hS, r_81_2 hS, r_131_0 hS, r_131_6 hS, r_131_8 hS, r_135_0 hS, r_135_1 hS, r_135_2 hS, r_135_3 hS, r_140_0 hS, r_140_1 hS, r_143_2 hS, r_145_0 hS, r_145_1 hS, r_145_2 hS, r_145_3 hS, r_145_4 hS, r_145_5 hS, r_156_5 hS, k_pv hS, k_pvr hS, k_db hS, k_dbr hS, k_sh hS, l_pvr hS, l_dbr hS, l_sh hS, r_5 hS, r_6 hS, r_pv hS, r_db hS, r_148 hS, ol_s, ol_n, ln_0, ln_1, ln_2, ln_3, ln_4, eq_self, rf_s, rf_n, i01_0, i01_n0, i01_b, b01_0, b01_1, and_self, and_true, true_and, and_false, false_and, if_true, if_false, not_true_eq_false, not_false_eq_true, e10, e00, lt_bg, Nat.reduceLT, Nat.reduceLeDiff, q0, q1, q2, q3, q4, a0, a1, a2, a3, a4, a5, a6, a7, a8, z0, z1, z2, z3, z4, z5, z6, i0, i1, i2, i3, i4, i5, i6, nI_1]
  rfl
theorem rP_5 (hS : Sh ρ τ) (hb : Bgd σ τ) (hd : DC σ k n h s t) (ht : t + 1 ≤ 30) (hp : dp + 1 ≤ 40) {x : Int32} : AW (d + 1) 4 0 [.ref 156, .int 5, .int 0, .int x, .int (nI dp), am_jk, am_jk, am_jk] [] σ ρ g τ Q = Q (some (.int (fP s 5 x))) (f_trC σ t (lP 5)) ρ g τ := by
  rw [en_5_0 hS hb hd.2.2.2.2 (by omega) (by omega)]
  have hb1 := hb.nt t 10 (nI (t + 1))
  obtain ⟨a0, a1, a2, a3, a4, a5, a6, a7, a8⟩ := bgA hb1
  have hd1 := hd.nt 10
  have hdd := hd1
  obtain ⟨q0, q1, q2, q3, q4⟩ := hdd
  have i0 : am_inb 0 7 = true := by decide
  have i1 : am_inb 1 7 = true := by decide
  have i2 : am_inb 2 7 = true := by decide
  have i3 : am_inb 3 7 = true := by decide
  have i4 : am_inb 4 7 = true := by decide
  have i5 : am_inb 5 7 = true := by decide
  have i6 : am_inb 6 7 = true := by decide
  simp only [s4_200, s4_201, s4_202, s4_205, s4_206, k_0 hS, k_1 hS, k_2 hS, l_2 hS, k_3 hS, l_3 hS, k_4 hS, l_4 hS, k_5 hS, l_5 hS, k_6 hS, l_6 hS, k_7 hS, k_8 hS, l_8 hS, k_9 hS, l_9 hS, k_10 hS, k_11 hS, l_11 hS, k_12 hS, k_13 hS, l_13 hS, k_14 hS, k_15 hS, l_15 hS, k_16 hS, k_17 hS, l_17 hS, k_66 hS, k_67 hS, l_67 hS, k_68 hS, l_68 hS, k_69 hS, l_69 hS, k_70 hS, l_70 hS, k_71 hS, l_71 hS, k_72 hS, k_73 hS, l_73 hS, k_74 hS, l_74 hS, k_75 hS, k_76 hS, l_76 hS, k_77 hS, k_78 hS, l_78 hS, k_79 hS, k_80 hS, l_80 hS, k_81 hS, k_82 hS, l_82 hS, k_131 hS, k_132 hS, l_132 hS, k_133 hS, l_133 hS, k_134 hS, l_134 hS, k_135 hS, k_136 hS, l_136 hS, k_137 hS, l_137 hS, k_138 hS, l_138 hS, k_139 hS, l_139 hS, k_140 hS, k_141 hS, l_141 hS, k_142 hS, l_142 hS, k_143 hS, k_144 hS, l_144 hS, k_145 hS, k_146 hS, l_146 hS, k_147 hS, l_147 hS, k_148 hS, l_148 hS, k_153 hS, l_153 hS, k_154 hS, l_154 hS, k_155 hS, l_155 hS, k_156 hS, k_157 hS, l_157 hS, k_158 hS, l_158 hS, k_159 hS, l_159 hS, r_0_0 hS, r_0_1 hS, r_0_3 hS, r_0_4 hS, r_0_5 hS, r_0_6 hS, r_0_7 hS, r_0_8 hS, r_0_9 hS, r_0_10 hS, r_1_2 hS, r_1_3 hS, r_1_4 hS, r_1_5 hS, r_1_7 hS, r_1_9 hS, r_1_10 hS, r_1_12 hS, r_1_13 hS, r_1_14 hS, r_1_15 hS, r_7_1 hS, r_10_2 hS, r_12_2 hS, r_14_2 hS, r_16_2 hS, r_66_2 hS, r_66_3 hS, r_66_4 hS, r_66_5 hS, r_66_7 hS, r_66_9 hS, r_66_10 hS, r_66_12 hS, r_66_13 hS, r_66_14 hS, r_66_15 hS, r_72_1 hS, r_75_2 hS, r_77_2 hS, r_79_2 hS, r_81_2 hS, r_131_0 hS, r_131_6 hS, r_131_8 hS, r_135_0 hS, r_135_1 hS, r_135_2 hS, r_135_3 hS, r_140_0 hS, r_140_1 hS, r_143_2 hS, r_145_0 hS, r_145_1 hS, r_145_2 hS, r_145_3 hS, r_145_4 hS, r_145_5 hS, r_156_5 hS, k_pv hS, k_pvr hS, k_db hS, k_dbr hS, k_sh hS, l_pvr hS, l_dbr hS, l_sh hS, r_5 hS, r_6 hS, r_pv hS, r_db hS, r_148 hS, ol_s, ol_n, ln_0, ln_1, ln_2, ln_3, ln_4, eq_self, rf_s, rf_n, i01_0, i01_n0, i01_b, b01_0, b01_1, and_self, and_true, true_and, and_false, false_and, if_true, if_false, not_true_eq_false, not_false_eq_true, e10, e00, lt_bg, Nat.reduceLT, Nat.reduceLeDiff, q0, q1, q2, q3, q4, a0, a1, a2, a3, a4, a5, a6, a7, a8, z0, z1, z2, z3, z4, z5, z6, i0, i1, i2, i3, i4, i5, i6, nI_1]
  rfl
theorem rP_6 (hS : Sh ρ τ) (hb : Bgd σ τ) (hd : DC σ k n h s t) (ht : t + 1 ≤ 30) (hp : dp + 1 ≤ 40) {x : Int32} : AW (d + 1) 4 0 [.ref 156, .int 6, .int 0, .int x, .int (nI dp), am_jk, am_jk, am_jk] [] σ ρ g τ Q = Q (some (.int (fP s 6 x))) (f_trC σ t (lP 6)) ρ g τ := by
  rw [en_6_0 hS hb hd.2.2.2.2 (by omega) (by omega)]
  have hb1 := hb.nt t 10 (nI (t + 1))
  obtain ⟨a0, a1, a2, a3, a4, a5, a6, a7, a8⟩ := bgA hb1
  have hd1 := hd.nt 10
  have hdd := hd1
  obtain ⟨q0, q1, q2, q3, q4⟩ := hdd
  have i0 : am_inb 0 7 = true := by decide
  have i1 : am_inb 1 7 = true := by decide
  have i2 : am_inb 2 7 = true := by decide
  have i3 : am_inb 3 7 = true := by decide
  have i4 : am_inb 4 7 = true := by decide
  have i5 : am_inb 5 7 = true := by decide
  have i6 : am_inb 6 7 = true := by decide
  simp only [s4_200, s4_201, s4_202, s4_205, s4_206, k_0 hS, k_1 hS, k_2 hS, l_2 hS, k_3 hS, l_3 hS, k_4 hS, l_4 hS, k_5 hS, l_5 hS, k_6 hS, l_6 hS, k_7 hS, k_8 hS, l_8 hS, k_9 hS, l_9 hS, k_10 hS, k_11 hS, l_11 hS, k_12 hS, k_13 hS, l_13 hS, k_14 hS, k_15 hS, l_15 hS, k_16 hS, k_17 hS, l_17 hS, k_66 hS, k_67 hS, l_67 hS, k_68 hS, l_68 hS, k_69 hS, l_69 hS, k_70 hS, l_70 hS, k_71 hS, l_71 hS, k_72 hS, k_73 hS, l_73 hS, k_74 hS, l_74 hS, k_75 hS, k_76 hS, l_76 hS, k_77 hS, k_78 hS, l_78 hS, k_79 hS, k_80 hS, l_80 hS, k_81 hS, k_82 hS, l_82 hS, k_131 hS, k_132 hS, l_132 hS, k_133 hS, l_133 hS, k_134 hS, l_134 hS, k_135 hS, k_136 hS, l_136 hS, k_137 hS, l_137 hS, k_138 hS, l_138 hS, k_139 hS, l_139 hS, k_140 hS, k_141 hS, l_141 hS, k_142 hS, l_142 hS, k_143 hS, k_144 hS, l_144 hS, k_145 hS, k_146 hS, l_146 hS, k_147 hS, l_147 hS, k_148 hS, l_148 hS, k_153 hS, l_153 hS, k_154 hS, l_154 hS, k_155 hS, l_155 hS, k_156 hS, k_157 hS, l_157 hS, k_158 hS, l_158 hS, k_159 hS, l_159 hS, r_0_0 hS, r_0_1 hS, r_0_3 hS, r_0_4 hS, r_0_5 hS, r_0_6 hS, r_0_7 hS, r_0_8 hS, r_0_9 hS, r_0_10 hS, r_1_2 hS, r_1_3 hS, r_1_4 hS, r_1_5 hS, r_1_7 hS, r_1_9 hS, r_1_10 hS, r_1_12 hS, r_1_13 hS, r_1_14 hS, r_1_15 hS, r_7_1 hS, r_10_2 hS, r_12_2 hS, r_14_2 hS, r_16_2 hS, r_66_2 hS, r_66_3 hS, r_66_4 hS, r_66_5 hS, r_66_7 hS, r_66_9 hS, r_66_10 hS, r_66_12 hS, r_66_13 hS, r_66_14 hS, r_66_15 hS, r_72_1 hS, r_75_2 hS, r_77_2 hS, r_79_2 hS, r_81_2 hS, r_131_0 hS, r_131_6 hS, r_131_8 hS, r_135_0 hS, r_135_1 hS, r_135_2 hS, r_135_3 hS, r_140_0 hS, r_140_1 hS, r_143_2 hS, r_145_0 hS, r_145_1 hS, r_145_2 hS, r_145_3 hS, r_145_4 hS, r_145_5 hS, r_156_5 hS, k_pv hS, k_pvr hS, k_db hS, k_dbr hS, k_sh hS, l_pvr hS, l_dbr hS, l_sh hS, r_5 hS, r_6 hS, r_pv hS, r_db hS, r_148 hS, ol_s, ol_n, ln_0, ln_1, ln_2, ln_3, ln_4, eq_self, rf_s, rf_n, i01_0, i01_n0, i01_b, b01_0, b01_1, and_self, and_true, true_and, and_false, false_and, if_true, if_false, not_true_eq_false, not_false_eq_true, e10, e00, lt_bg, Nat.reduceLT, Nat.reduceLeDiff, q0, q1, q2, q3, q4, a0, a1, a2, a3, a4, a5, a6, a7, a8, z0, z1, z2, z3, z4, z5, z6, i0, i1, i2, i3, i4, i5, i6, nI_1]
  rfl
theorem rP_g (hS : Sh ρ τ) (hb : Bgd σ τ) (hd : DC σ k n h s t) {f : Nat} (hf : f ≤ 6) (ht : t + 3 ≤ 30) (hp : dp + 3 ≤ 40) {x : Int32} : AW (d + 3) 4 0 [.ref 156, .int (nI f), .int 0, .int x, .int (nI dp), am_jk, am_jk, am_jk] [] σ ρ g τ Q = Q (some (.int (fP s f x))) (f_trC σ t (lP f)) ρ g τ := by
  have hff : f = 0 ∨ f = 1 ∨ f = 2 ∨ f = 3 ∨ f = 4 ∨ f = 5 ∨ f = 6 := by omega
  rcases hff with rfl | rfl | rfl | rfl | rfl | rfl | rfl
  · exact rP_0 (d := d + 2) hS hb hd  (by omega) (by omega)
  · exact rP_1 (d := d + 2) hS hb hd  (by omega) (by omega)
  · exact rP_2 (d := d + 1) hS hb hd  (by omega) (by omega)
  · exact rP_3 (d := d + 0) hS hb hd  (by omega) (by omega)
  · exact rP_4 (d := d + 2) hS hb hd  (by omega) (by omega)
  · exact rP_5 (d := d + 2) hS hb hd  (by omega) (by omega)
  · exact rP_6 (d := d + 2) hS hb hd  (by omega) (by omega)
theorem rP (hS : Sh ρ τ) (hb : Bgd σ τ) (hd : DC σ k n h s t) (hk : k ≤ 6) (ht : t + 3 ≤ 30) (hp : dp + 3 ≤ 40) {x : Int32} : AW (d + 3) 4 0 [.ref 156, .int (nI k), .int 0, .int x, .int (nI dp), am_jk, am_jk, am_jk] [] σ ρ g τ Q = Q (some (.int (fP s k x))) (f_trC σ t (lP k)) ρ g τ := rP_g hS hb hd hk ht hp
theorem rR_0 (hS : Sh ρ τ) (hb : Bgd σ τ) (hd : DC σ k n h s t) (hk : k ≤ 6) (ht : t + 4 ≤ 30) (hp : dp + 4 ≤ 40) {x : Int32} : AW (d + 4) 4 0 [.ref 156, .int 0, .int 1, .int x, .int (nI dp), am_jk, am_jk, am_jk] [] σ ρ g τ Q = Q (some (.int (fR n h s k 0 x))) (f_trC σ t (lR k 0)) ρ g τ := by
  rw [en_0_1 hS hb hd.2.2.2.2 (by omega) (by omega)]
  have hb1 := hb.nt t 11 (nI (t + 1))
  obtain ⟨a0, a1, a2, a3, a4, a5, a6, a7, a8⟩ := bgA hb1
  have hd1 := hd.nt 11
  have hdd := hd1
  obtain ⟨q0, q1, q2, q3, q4⟩ := hdd
  have i0 : am_inb 0 7 = true := by decide
  have i1 : am_inb 1 7 = true := by decide
  have i2 : am_inb 2 7 = true := by decide
  have i3 : am_inb 3 7 = true := by decide
  have i4 : am_inb 4 7 = true := by decide
  have i5 : am_inb 5 7 = true := by decide
  have i6 : am_inb 6 7 = true := by decide
  simp only [s4_207, s4_208, s4_209, s4_212, s4_213, s4_214, s4_216, s4_219, s4_220, s4_221, k_0 hS, k_1 hS, k_2 hS, l_2 hS, k_3 hS, l_3 hS, k_4 hS, l_4 hS, k_5 hS, l_5 hS, k_6 hS, l_6 hS, k_7 hS, k_8 hS, l_8 hS, k_9 hS, l_9 hS, k_10 hS, k_11 hS, l_11 hS, k_12 hS, k_13 hS, l_13 hS, k_14 hS, k_15 hS, l_15 hS, k_16 hS, k_17 hS, l_17 hS, k_66 hS, k_67 hS, l_67 hS, k_68 hS, l_68 hS, k_69 hS, l_69 hS, k_70 hS, l_70 hS, k_71 hS, l_71 hS, k_72 hS, k_73 hS, l_73 hS, k_74 hS, l_74 hS, k_75 hS, k_76 hS, l_76 hS, k_77 hS, k_78 hS, l_78 hS, k_79 hS, k_80 hS, l_80 hS, k_81 hS, k_82 hS, l_82 hS, k_131 hS, k_132 hS, l_132 hS, k_133 hS, l_133 hS, k_134 hS, l_134 hS, k_135 hS, k_136 hS, l_136 hS, k_137 hS, l_137 hS, k_138 hS, l_138 hS, k_139 hS, l_139 hS, k_140 hS, k_141 hS, l_141 hS, k_142 hS, l_142 hS, k_143 hS, k_144 hS, l_144 hS, k_145 hS, k_146 hS, l_146 hS, k_147 hS, l_147 hS, k_148 hS, l_148 hS, k_153 hS, l_153 hS, k_154 hS, l_154 hS, k_155 hS, l_155 hS, k_156 hS, k_157 hS, l_157 hS, k_158 hS, l_158 hS, k_159 hS, l_159 hS, r_0_0 hS, r_0_1 hS, r_0_3 hS, r_0_4 hS, r_0_5 hS, r_0_6 hS, r_0_7 hS, r_0_8 hS, r_0_9 hS, r_0_10 hS, r_1_2 hS, r_1_3 hS, r_1_4 hS, r_1_5 hS, r_1_7 hS, r_1_9 hS, r_1_10 hS, r_1_12 hS, r_1_13 hS, r_1_14 hS, r_1_15 hS, r_7_1 hS, r_10_2 hS, r_12_2 hS, r_14_2 hS, r_16_2 hS, r_66_2 hS, r_66_3 hS, r_66_4 hS, r_66_5 hS, r_66_7 hS, r_66_9 hS, r_66_10 hS, r_66_12 hS, r_66_13 hS, r_66_14 hS, r_66_15 hS, r_72_1 hS, r_75_2 hS, r_77_2 hS, r_79_2 hS, r_81_2 hS, r_131_0 hS, r_131_6 hS, r_131_8 hS, r_135_0 hS, r_135_1 hS, r_135_2 hS, r_135_3 hS, r_140_0 hS, r_140_1 hS, r_143_2 hS, r_145_0 hS, r_145_1 hS, r_145_2 hS, r_145_3 hS, r_145_4 hS, r_145_5 hS, r_156_5 hS, k_pv hS, k_pvr hS, k_db hS, k_dbr hS, k_sh hS, l_pvr hS, l_dbr hS, l_sh hS, r_5 hS, r_6 hS, r_pv hS, r_db hS, r_148 hS, ol_s, ol_n, ln_0, ln_1, ln_2, ln_3, ln_4, eq_self, rf_s, rf_n, i01_0, i01_n0, i01_b, b01_0, b01_1, and_self, and_true, true_and, and_false, false_and, if_true, if_false, not_true_eq_false, not_false_eq_true, e10, e00, lt_bg, Nat.reduceLT, Nat.reduceLeDiff, q0, q1, q2, q3, q4, a0, a1, a2, a3, a4, a5, a6, a7, a8, z0, z1, z2, z3, z4, z5, z6, i0, i1, i2, i3, i4, i5, i6, nI_1, rP (dp := dp + 1) hS hb1 hd1 hk (by omega) (by omega)]
  rfl
theorem rR_1 (hS : Sh ρ τ) (hb : Bgd σ τ) (hd : DC σ k n h s t) (hk : k ≤ 6) (ht : t + 5 ≤ 30) (hp : dp + 5 ≤ 40) {x : Int32} : AW (d + 5) 4 0 [.ref 156, .int 1, .int 1, .int x, .int (nI dp), am_jk, am_jk, am_jk] [] σ ρ g τ Q = Q (some (.int (fR n h s k 1 x))) (f_trC σ t (lR k 1)) ρ g τ := by
  rw [en_1_1 hS hb hd.2.2.2.2 (by omega) (by omega)]
  have hb1 := hb.nt t 20 (nI (t + 1))
  obtain ⟨a0, a1, a2, a3, a4, a5, a6, a7, a8⟩ := bgA hb1
  have hd1 := hd.nt 20
  have hdd := hd1
  obtain ⟨q0, q1, q2, q3, q4⟩ := hdd
  have hd2 := hd1.tr (lR k 0)
  have p1 := hd2.2.1
  have i0 : am_inb 0 7 = true := by decide
  have i1 : am_inb 1 7 = true := by decide
  have i2 : am_inb 2 7 = true := by decide
  have i3 : am_inb 3 7 = true := by decide
  have i4 : am_inb 4 7 = true := by decide
  have i5 : am_inb 5 7 = true := by decide
  have i6 : am_inb 6 7 = true := by decide
  simp only [s4_255, s4_256, s4_259, s4_261, s4_262, s4_263, s4_264, s4_266, s4_269, s4_270, s4_273, s4_274, k_0 hS, k_1 hS, k_2 hS, l_2 hS, k_3 hS, l_3 hS, k_4 hS, l_4 hS, k_5 hS, l_5 hS, k_6 hS, l_6 hS, k_7 hS, k_8 hS, l_8 hS, k_9 hS, l_9 hS, k_10 hS, k_11 hS, l_11 hS, k_12 hS, k_13 hS, l_13 hS, k_14 hS, k_15 hS, l_15 hS, k_16 hS, k_17 hS, l_17 hS, k_66 hS, k_67 hS, l_67 hS, k_68 hS, l_68 hS, k_69 hS, l_69 hS, k_70 hS, l_70 hS, k_71 hS, l_71 hS, k_72 hS, k_73 hS, l_73 hS, k_74 hS, l_74 hS, k_75 hS, k_76 hS, l_76 hS, k_77 hS, k_78 hS, l_78 hS, k_79 hS, k_80 hS, l_80 hS, k_81 hS, k_82 hS, l_82 hS, k_131 hS, k_132 hS, l_132 hS, k_133 hS, l_133 hS, k_134 hS, l_134 hS, k_135 hS, k_136 hS, l_136 hS, k_137 hS, l_137 hS, k_138 hS, l_138 hS, k_139 hS, l_139 hS, k_140 hS, k_141 hS, l_141 hS, k_142 hS, l_142 hS, k_143 hS, k_144 hS, l_144 hS, k_145 hS, k_146 hS, l_146 hS, k_147 hS, l_147 hS, k_148 hS, l_148 hS, k_153 hS, l_153 hS, k_154 hS, l_154 hS, k_155 hS, l_155 hS, k_156 hS, k_157 hS, l_157 hS, k_158 hS, l_158 hS, k_159 hS, l_159 hS, r_0_0 hS, r_0_1 hS, r_0_3 hS, r_0_4 hS, r_0_5 hS, r_0_6 hS, r_0_7 hS, r_0_8 hS, r_0_9 hS, r_0_10 hS, r_1_2 hS, r_1_3 hS, r_1_4 hS, r_1_5 hS, r_1_7 hS, r_1_9 hS, r_1_10 hS, r_1_12 hS, r_1_13 hS, r_1_14 hS, r_1_15 hS, r_7_1 hS, r_10_2 hS, r_12_2 hS, r_14_2 hS, r_16_2 hS, r_66_2 hS, r_66_3 hS, r_66_4 hS, r_66_5 hS, r_66_7 hS, r_66_9 hS, r_66_10 hS, r_66_12 hS, r_66_13 hS, r_66_14 hS, r_66_15 hS, r_72_1 hS, r_75_2 hS, r_77_2 hS, r_79_2 hS, r_81_2 hS, r_131_0 hS, r_131_6 hS, r_131_8 hS, r_135_0 hS, r_135_1 hS, r_135_2 hS, r_135_3 hS, r_140_0 hS, r_140_1 hS, r_143_2 hS, r_145_0 hS, r_145_1 hS, r_145_2 hS, r_145_3 hS, r_145_4 hS, r_145_5 hS, r_156_5 hS, k_pv hS, k_pvr hS, k_db hS, k_dbr hS, k_sh hS, l_pvr hS, l_dbr hS, l_sh hS, r_5 hS, r_6 hS, r_pv hS, r_db hS, r_148 hS, ol_s, ol_n, ln_0, ln_1, ln_2, ln_3, ln_4, eq_self, rf_s, rf_n, i01_0, i01_n0, i01_b, b01_0, b01_1, and_self, and_true, true_and, and_false, false_and, if_true, if_false, not_true_eq_false, not_false_eq_true, e10, e00, lt_bg, Nat.reduceLT, Nat.reduceLeDiff, q0, q1, q2, q3, q4, a0, a1, a2, a3, a4, a5, a6, a7, a8, z0, z1, z2, z3, z4, z5, z6, p1, i0, i1, i2, i3, i4, i5, i6, nI_1, rR_0 (dp := dp + 1) hS hb1 hd1 hk (by omega) (by omega)]
  rfl
theorem rR_2 (hS : Sh ρ τ) (hb : Bgd σ τ) (hd : DC σ k n h s t) (hk : k ≤ 6) (ht : t + 5 ≤ 30) (hp : dp + 5 ≤ 40) {x : Int32} : AW (d + 5) 4 0 [.ref 156, .int 2, .int 1, .int x, .int (nI dp), am_jk, am_jk, am_jk] [] σ ρ g τ Q = Q (some (.int (fR n h s k 2 x))) (f_trC σ t (lR k 2)) ρ g τ := by
  rw [en_2_1 hS hb hd.2.2.2.2 (by omega) (by omega)]
  have hb1 := hb.nt t 20 (nI (t + 1))
  obtain ⟨a0, a1, a2, a3, a4, a5, a6, a7, a8⟩ := bgA hb1
  have hd1 := hd.nt 20
  have hdd := hd1
  obtain ⟨q0, q1, q2, q3, q4⟩ := hdd
  have hd2 := hd1.tr (lR k 0)
  have p1 := hd2.2.1
  have i0 : am_inb 0 7 = true := by decide
  have i1 : am_inb 1 7 = true := by decide
  have i2 : am_inb 2 7 = true := by decide
  have i3 : am_inb 3 7 = true := by decide
  have i4 : am_inb 4 7 = true := by decide
  have i5 : am_inb 5 7 = true := by decide
  have i6 : am_inb 6 7 = true := by decide
  simp only [s4_255, s4_256, s4_259, s4_261, s4_262, s4_263, s4_264, s4_266, s4_269, s4_270, s4_273, s4_274, k_0 hS, k_1 hS, k_2 hS, l_2 hS, k_3 hS, l_3 hS, k_4 hS, l_4 hS, k_5 hS, l_5 hS, k_6 hS, l_6 hS, k_7 hS, k_8 hS, l_8 hS, k_9 hS, l_9 hS, k_10 hS, k_11 hS, l_11 hS, k_12 hS, k_13 hS, l_13 hS, k_14 hS, k_15 hS, l_15 hS, k_16 hS, k_17 hS, l_17 hS, k_66 hS, k_67 hS, l_67 hS, k_68 hS, l_68 hS, k_69 hS, l_69 hS, k_70 hS, l_70 hS, k_71 hS, l_71 hS, k_72 hS, k_73 hS, l_73 hS, k_74 hS, l_74 hS, k_75 hS, k_76 hS, l_76 hS, k_77 hS, k_78 hS, l_78 hS, k_79 hS, k_80 hS, l_80 hS, k_81 hS, k_82 hS, l_82 hS, k_131 hS, k_132 hS, l_132 hS, k_133 hS, l_133 hS, k_134 hS, l_134 hS, k_135 hS, k_136 hS, l_136 hS, k_137 hS, l_137 hS, k_138 hS, l_138 hS, k_139 hS, l_139 hS, k_140 hS, k_141 hS, l_141 hS, k_142 hS, l_142 hS, k_143 hS, k_144 hS, l_144 hS, k_145 hS, k_146 hS, l_146 hS, k_147 hS, l_147 hS, k_148 hS, l_148 hS, k_153 hS, l_153 hS, k_154 hS, l_154 hS, k_155 hS, l_155 hS, k_156 hS, k_157 hS, l_157 hS, k_158 hS, l_158 hS, k_159 hS, l_159 hS, r_0_0 hS, r_0_1 hS, r_0_3 hS, r_0_4 hS, r_0_5 hS, r_0_6 hS, r_0_7 hS, r_0_8 hS, r_0_9 hS, r_0_10 hS, r_1_2 hS, r_1_3 hS, r_1_4 hS, r_1_5 hS, r_1_7 hS, r_1_9 hS, r_1_10 hS, r_1_12 hS, r_1_13 hS, r_1_14 hS, r_1_15 hS, r_7_1 hS, r_10_2 hS, r_12_2 hS, r_14_2 hS, r_16_2 hS, r_66_2 hS, r_66_3 hS, r_66_4 hS, r_66_5 hS, r_66_7 hS, r_66_9 hS, r_66_10 hS, r_66_12 hS, r_66_13 hS, r_66_14 hS, r_66_15 hS, r_72_1 hS, r_75_2 hS, r_77_2 hS, r_79_2 hS, r_81_2 hS, r_131_0 hS, r_131_6 hS, r_131_8 hS, r_135_0 hS, r_135_1 hS, r_135_2 hS, r_135_3 hS, r_140_0 hS, r_140_1 hS, r_143_2 hS, r_145_0 hS, r_145_1 hS, r_145_2 hS, r_145_3 hS, r_145_4 hS, r_145_5 hS, r_156_5 hS, k_pv hS, k_pvr hS, k_db hS, k_dbr hS, k_sh hS, l_pvr hS, l_dbr hS, l_sh hS, r_5 hS, r_6 hS, r_pv hS, r_db hS, r_148 hS, ol_s, ol_n, ln_0, ln_1, ln_2, ln_3, ln_4, eq_self, rf_s, rf_n, i01_0, i01_n0, i01_b, b01_0, b01_1, and_self, and_true, true_and, and_false, false_and, if_true, if_false, not_true_eq_false, not_false_eq_true, e10, e00, lt_bg, Nat.reduceLT, Nat.reduceLeDiff, q0, q1, q2, q3, q4, a0, a1, a2, a3, a4, a5, a6, a7, a8, z0, z1, z2, z3, z4, z5, z6, p1, i0, i1, i2, i3, i4, i5, i6, nI_1, rR_0 (dp := dp + 1) hS hb1 hd1 hk (by omega) (by omega)]
  rfl
theorem rR_3 (hS : Sh ρ τ) (hb : Bgd σ τ) (hd : DC σ k n h s t) (hk : k ≤ 6) (ht : t + 5 ≤ 30) (hp : dp + 5 ≤ 40) {x : Int32} : AW (d + 5) 4 0 [.ref 156, .int 3, .int 1, .int x, .int (nI dp), am_jk, am_jk, am_jk] [] σ ρ g τ Q = Q (some (.int (fR n h s k 3 x))) (f_trC σ t (lR k 3)) ρ g τ := by
  rw [en_3_1 hS hb hd.2.2.2.2 (by omega) (by omega)]
  have hb1 := hb.nt t 20 (nI (t + 1))
  obtain ⟨a0, a1, a2, a3, a4, a5, a6, a7, a8⟩ := bgA hb1
  have hd1 := hd.nt 20
  have hdd := hd1
  obtain ⟨q0, q1, q2, q3, q4⟩ := hdd
  have hd2 := hd1.tr (lR k 0)
  have p1 := hd2.2.1
  have i0 : am_inb 0 7 = true := by decide
  have i1 : am_inb 1 7 = true := by decide
  have i2 : am_inb 2 7 = true := by decide
  have i3 : am_inb 3 7 = true := by decide
  have i4 : am_inb 4 7 = true := by decide
  have i5 : am_inb 5 7 = true := by decide
  have i6 : am_inb 6 7 = true := by decide
  simp only [s4_255, s4_256, s4_259, s4_261, s4_262, s4_263, s4_264, s4_266, s4_269, s4_270, s4_273, s4_274, k_0 hS, k_1 hS, k_2 hS, l_2 hS, k_3 hS, l_3 hS, k_4 hS, l_4 hS, k_5 hS, l_5 hS, k_6 hS, l_6 hS, k_7 hS, k_8 hS, l_8 hS, k_9 hS, l_9 hS, k_10 hS, k_11 hS, l_11 hS, k_12 hS, k_13 hS, l_13 hS, k_14 hS, k_15 hS, l_15 hS, k_16 hS, k_17 hS, l_17 hS, k_66 hS, k_67 hS, l_67 hS, k_68 hS, l_68 hS, k_69 hS, l_69 hS, k_70 hS, l_70 hS, k_71 hS, l_71 hS, k_72 hS, k_73 hS, l_73 hS, k_74 hS, l_74 hS, k_75 hS, k_76 hS, l_76 hS, k_77 hS, k_78 hS, l_78 hS, k_79 hS, k_80 hS, l_80 hS, k_81 hS, k_82 hS, l_82 hS, k_131 hS, k_132 hS, l_132 hS, k_133 hS, l_133 hS, k_134 hS, l_134 hS, k_135 hS, k_136 hS, l_136 hS, k_137 hS, l_137 hS, k_138 hS, l_138 hS, k_139 hS, l_139 hS, k_140 hS, k_141 hS, l_141 hS, k_142 hS, l_142 hS, k_143 hS, k_144 hS, l_144 hS, k_145 hS, k_146 hS, l_146 hS, k_147 hS, l_147 hS, k_148 hS, l_148 hS, k_153 hS, l_153 hS, k_154 hS, l_154 hS, k_155 hS, l_155 hS, k_156 hS, k_157 hS, l_157 hS, k_158 hS, l_158 hS, k_159 hS, l_159 hS, r_0_0 hS, r_0_1 hS, r_0_3 hS, r_0_4 hS, r_0_5 hS, r_0_6 hS, r_0_7 hS, r_0_8 hS, r_0_9 hS, r_0_10 hS, r_1_2 hS, r_1_3 hS, r_1_4 hS, r_1_5 hS, r_1_7 hS, r_1_9 hS, r_1_10 hS, r_1_12 hS, r_1_13 hS, r_1_14 hS, r_1_15 hS, r_7_1 hS, r_10_2 hS, r_12_2 hS, r_14_2 hS, r_16_2 hS, r_66_2 hS, r_66_3 hS, r_66_4 hS, r_66_5 hS, r_66_7 hS, r_66_9 hS, r_66_10 hS, r_66_12 hS, r_66_13 hS, r_66_14 hS, r_66_15 hS, r_72_1 hS, r_75_2 hS, r_77_2 hS, r_79_2 hS, r_81_2 hS, r_131_0 hS, r_131_6 hS, r_131_8 hS, r_135_0 hS, r_135_1 hS, r_135_2 hS, r_135_3 hS, r_140_0 hS, r_140_1 hS, r_143_2 hS, r_145_0 hS, r_145_1 hS, r_145_2 hS, r_145_3 hS, r_145_4 hS, r_145_5 hS, r_156_5 hS, k_pv hS, k_pvr hS, k_db hS, k_dbr hS, k_sh hS, l_pvr hS, l_dbr hS, l_sh hS, r_5 hS, r_6 hS, r_pv hS, r_db hS, r_148 hS, ol_s, ol_n, ln_0, ln_1, ln_2, ln_3, ln_4, eq_self, rf_s, rf_n, i01_0, i01_n0, i01_b, b01_0, b01_1, and_self, and_true, true_and, and_false, false_and, if_true, if_false, not_true_eq_false, not_false_eq_true, e10, e00, lt_bg, Nat.reduceLT, Nat.reduceLeDiff, q0, q1, q2, q3, q4, a0, a1, a2, a3, a4, a5, a6, a7, a8, z0, z1, z2, z3, z4, z5, z6, p1, i0, i1, i2, i3, i4, i5, i6, nI_1, rR_0 (dp := dp + 1) hS hb1 hd1 hk (by omega) (by omega)]
  rfl
theorem rR_4 (hS : Sh ρ τ) (hb : Bgd σ τ) (hd : DC σ k n h s t) (hk : k ≤ 6) (ht : t + 5 ≤ 30) (hp : dp + 5 ≤ 40) {x : Int32} : AW (d + 5) 4 0 [.ref 156, .int 4, .int 1, .int x, .int (nI dp), am_jk, am_jk, am_jk] [] σ ρ g τ Q = Q (some (.int (fR n h s k 4 x))) (f_trC σ t (lR k 4)) ρ g τ := by
  rw [en_4_1 hS hb hd.2.2.2.2 (by omega) (by omega)]
  have hb1 := hb.nt t 20 (nI (t + 1))
  obtain ⟨a0, a1, a2, a3, a4, a5, a6, a7, a8⟩ := bgA hb1
  have hd1 := hd.nt 20
  have hdd := hd1
  obtain ⟨q0, q1, q2, q3, q4⟩ := hdd
  have hd2 := hd1.tr (lR k 0)
  have p1 := hd2.2.1
  have i0 : am_inb 0 7 = true := by decide
  have i1 : am_inb 1 7 = true := by decide
  have i2 : am_inb 2 7 = true := by decide
  have i3 : am_inb 3 7 = true := by decide
  have i4 : am_inb 4 7 = true := by decide
  have i5 : am_inb 5 7 = true := by decide
  have i6 : am_inb 6 7 = true := by decide
  simp only [s4_255, s4_256, s4_259, s4_261, s4_262, s4_263, s4_264, s4_266, s4_269, s4_270, s4_273, s4_274, k_0 hS, k_1 hS, k_2 hS, l_2 hS, k_3 hS, l_3 hS, k_4 hS, l_4 hS, k_5 hS, l_5 hS, k_6 hS, l_6 hS, k_7 hS, k_8 hS, l_8 hS, k_9 hS, l_9 hS, k_10 hS, k_11 hS, l_11 hS, k_12 hS, k_13 hS, l_13 hS, k_14 hS, k_15 hS, l_15 hS, k_16 hS, k_17 hS, l_17 hS, k_66 hS, k_67 hS, l_67 hS, k_68 hS, l_68 hS, k_69 hS, l_69 hS, k_70 hS, l_70 hS, k_71 hS, l_71 hS, k_72 hS, k_73 hS, l_73 hS, k_74 hS, l_74 hS, k_75 hS, k_76 hS, l_76 hS, k_77 hS, k_78 hS, l_78 hS, k_79 hS, k_80 hS, l_80 hS, k_81 hS, k_82 hS, l_82 hS, k_131 hS, k_132 hS, l_132 hS, k_133 hS, l_133 hS, k_134 hS, l_134 hS, k_135 hS, k_136 hS, l_136 hS, k_137 hS, l_137 hS, k_138 hS, l_138 hS, k_139 hS, l_139 hS, k_140 hS, k_141 hS, l_141 hS, k_142 hS, l_142 hS, k_143 hS, k_144 hS, l_144 hS, k_145 hS, k_146 hS, l_146 hS, k_147 hS, l_147 hS, k_148 hS, l_148 hS, k_153 hS, l_153 hS, k_154 hS, l_154 hS, k_155 hS, l_155 hS, k_156 hS, k_157 hS, l_157 hS, k_158 hS, l_158 hS, k_159 hS, l_159 hS, r_0_0 hS, r_0_1 hS, r_0_3 hS, r_0_4 hS, r_0_5 hS, r_0_6 hS, r_0_7 hS, r_0_8 hS, r_0_9 hS, r_0_10 hS, r_1_2 hS, r_1_3 hS, r_1_4 hS, r_1_5 hS, r_1_7 hS, r_1_9 hS, r_1_10 hS, r_1_12 hS, r_1_13 hS, r_1_14 hS, r_1_15 hS, r_7_1 hS, r_10_2 hS, r_12_2 hS, r_14_2 hS, r_16_2 hS, r_66_2 hS, r_66_3 hS, r_66_4 hS, r_66_5 hS, r_66_7 hS, r_66_9 hS, r_66_10 hS, r_66_12 hS, r_66_13 hS, r_66_14 hS, r_66_15 hS, r_72_1 hS, r_75_2 hS, r_77_2 hS, r_79_2 hS, r_81_2 hS, r_131_0 hS, r_131_6 hS, r_131_8 hS, r_135_0 hS, r_135_1 hS, r_135_2 hS, r_135_3 hS, r_140_0 hS, r_140_1 hS, r_143_2 hS, r_145_0 hS, r_145_1 hS, r_145_2 hS, r_145_3 hS, r_145_4 hS, r_145_5 hS, r_156_5 hS, k_pv hS, k_pvr hS, k_db hS, k_dbr hS, k_sh hS, l_pvr hS, l_dbr hS, l_sh hS, r_5 hS, r_6 hS, r_pv hS, r_db hS, r_148 hS, ol_s, ol_n, ln_0, ln_1, ln_2, ln_3, ln_4, eq_self, rf_s, rf_n, i01_0, i01_n0, i01_b, b01_0, b01_1, and_self, and_true, true_and, and_false, false_and, if_true, if_false, not_true_eq_false, not_false_eq_true, e10, e00, lt_bg, Nat.reduceLT, Nat.reduceLeDiff, q0, q1, q2, q3, q4, a0, a1, a2, a3, a4, a5, a6, a7, a8, z0, z1, z2, z3, z4, z5, z6, p1, i0, i1, i2, i3, i4, i5, i6, nI_1, rR_0 (dp := dp + 1) hS hb1 hd1 hk (by omega) (by omega)]
  rfl
theorem rR_5 (hS : Sh ρ τ) (hb : Bgd σ τ) (hd : DC σ k n h s t) (hk : k ≤ 6) (ht : t + 6 ≤ 30) (hp : dp + 6 ≤ 40) {x : Int32} : AW (d + 6) 4 0 [.ref 156, .int 5, .int 1, .int x, .int (nI dp), am_jk, am_jk, am_jk] [] σ ρ g τ Q = Q (some (.int (fR n h s k 5 x))) (f_trC σ t (lR k 5)) ρ g τ := by
  rw [en_5_1 hS hb hd.2.2.2.2 (by omega) (by omega)]
  have hb1 := hb.nt t 60 (nI (t + 1))
  obtain ⟨a0, a1, a2, a3, a4, a5, a6, a7, a8⟩ := bgA hb1
  have hd1 := hd.nt 60
  have hdd := hd1
  obtain ⟨q0, q1, q2, q3, q4⟩ := hdd
  have i0 : am_inb 0 7 = true := by decide
  have i1 : am_inb 1 7 = true := by decide
  have i2 : am_inb 2 7 = true := by decide
  have i3 : am_inb 3 7 = true := by decide
  have i4 : am_inb 4 7 = true := by decide
  have i5 : am_inb 5 7 = true := by decide
  have i6 : am_inb 6 7 = true := by decide
  simp only [s4_371, s4_372, s4_375, s4_377, s4_378, s4_379, s4_380, s4_381, s4_384, s4_385, s4_387, s4_390, k_0 hS, k_1 hS, k_2 hS, l_2 hS, k_3 hS, l_3 hS, k_4 hS, l_4 hS, k_5 hS, l_5 hS, k_6 hS, l_6 hS, k_7 hS, k_8 hS, l_8 hS, k_9 hS, l_9 hS, k_10 hS, k_11 hS, l_11 hS, k_12 hS, k_13 hS, l_13 hS, k_14 hS, k_15 hS, l_15 hS, k_16 hS, k_17 hS, l_17 hS, k_66 hS, k_67 hS, l_67 hS, k_68 hS, l_68 hS, k_69 hS, l_69 hS, k_70 hS, l_70 hS, k_71 hS, l_71 hS, k_72 hS, k_73 hS, l_73 hS, k_74 hS, l_74 hS, k_75 hS, k_76 hS, l_76 hS, k_77 hS, k_78 hS, l_78 hS, k_79 hS, k_80 hS, l_80 hS, k_81 hS, k_82 hS, l_82 hS, k_131 hS, k_132 hS, l_132 hS, k_133 hS, l_133 hS, k_134 hS, l_134 hS, k_135 hS, k_136 hS, l_136 hS, k_137 hS, l_137 hS, k_138 hS, l_138 hS, k_139 hS, l_139 hS, k_140 hS, k_141 hS, l_141 hS, k_142 hS, l_142 hS, k_143 hS, k_144 hS, l_144 hS, k_145 hS, k_146 hS, l_146 hS, k_147 hS, l_147 hS, k_148 hS, l_148 hS, k_153 hS, l_153 hS, k_154 hS, l_154 hS, k_155 hS, l_155 hS, k_156 hS, k_157 hS, l_157 hS, k_158 hS, l_158 hS, k_159 hS, l_159 hS, r_0_0 hS, r_0_1 hS, r_0_3 hS, r_0_4 hS, r_0_5 hS, r_0_6 hS, r_0_7 hS, r_0_8 hS, r_0_9 hS, r_0_10 hS, r_1_2 hS, r_1_3 hS, r_1_4 hS, r_1_5 hS, r_1_7 hS, r_1_9 hS, r_1_10 hS, r_1_12 hS, r_1_13 hS, r_1_14 hS, r_1_15 hS, r_7_1 hS, r_10_2 hS, r_12_2 hS, r_14_2 hS, r_16_2 hS, r_66_2 hS, r_66_3 hS, r_66_4 hS, r_66_5 hS, r_66_7 hS, r_66_9 hS, r_66_10 hS, r_66_12 hS, r_66_13 hS, r_66_14 hS, r_66_15 hS, r_72_1 hS, r_75_2 hS, r_77_2 hS, r_79_2 hS, r_81_2 hS, r_131_0 hS, r_131_6 hS, r_131_8 hS, r_135_0 hS, r_135_1 hS, r_135_2 hS, r_135_3 hS, r_140_0 hS, r_140_1 hS, r_143_2 hS, r_145_0 hS, r_145_1 hS, r_145_2 hS, r_145_3 hS, r_145_4 hS, r_145_5 hS, r_156_5 hS, k_pv hS, k_pvr hS, k_db hS, k_dbr hS, k_sh hS, l_pvr hS, l_dbr hS, l_sh hS, r_5 hS, r_6 hS, r_pv hS, r_db hS, r_148 hS, ol_s, ol_n, ln_0, ln_1, ln_2, ln_3, ln_4, eq_self, rf_s, rf_n, i01_0, i01_n0, i01_b, b01_0, b01_1, and_self, and_true, true_and, and_false, false_and, if_true, if_false, not_true_eq_false, not_false_eq_true, e10, e00, lt_bg, Nat.reduceLT, Nat.reduceLeDiff, q0, q1, q2, q3, q4, a0, a1, a2, a3, a4, a5, a6, a7, a8, z0, z1, z2, z3, z4, z5, z6, i0, i1, i2, i3, i4, i5, i6, nI_1, rR_1 (dp := dp + 1) hS hb1 hd1 hk (by omega) (by omega)]
  rfl
theorem rR_6 (hS : Sh ρ τ) (hb : Bgd σ τ) (hd : DC σ k n h s t) (hk : k ≤ 6) (ht : t + 4 ≤ 30) (hp : dp + 4 ≤ 40) {x : Int32} : AW (d + 4) 4 0 [.ref 156, .int 6, .int 1, .int x, .int (nI dp), am_jk, am_jk, am_jk] [] σ ρ g τ Q = Q (some (.int (fR n h s k 6 x))) (f_trC σ t (lR k 6)) ρ g τ := by
  rw [en_6_1 hS hb hd.2.2.2.2 (by omega) (by omega)]
  have hb1 := hb.nt t 11 (nI (t + 1))
  obtain ⟨a0, a1, a2, a3, a4, a5, a6, a7, a8⟩ := bgA hb1
  have hd1 := hd.nt 11
  have hdd := hd1
  obtain ⟨q0, q1, q2, q3, q4⟩ := hdd
  have i0 : am_inb 0 7 = true := by decide
  have i1 : am_inb 1 7 = true := by decide
  have i2 : am_inb 2 7 = true := by decide
  have i3 : am_inb 3 7 = true := by decide
  have i4 : am_inb 4 7 = true := by decide
  have i5 : am_inb 5 7 = true := by decide
  have i6 : am_inb 6 7 = true := by decide
  simp only [s4_207, s4_208, s4_209, s4_212, s4_213, s4_214, s4_216, s4_219, s4_220, s4_221, k_0 hS, k_1 hS, k_2 hS, l_2 hS, k_3 hS, l_3 hS, k_4 hS, l_4 hS, k_5 hS, l_5 hS, k_6 hS, l_6 hS, k_7 hS, k_8 hS, l_8 hS, k_9 hS, l_9 hS, k_10 hS, k_11 hS, l_11 hS, k_12 hS, k_13 hS, l_13 hS, k_14 hS, k_15 hS, l_15 hS, k_16 hS, k_17 hS, l_17 hS, k_66 hS, k_67 hS, l_67 hS, k_68 hS, l_68 hS, k_69 hS, l_69 hS, k_70 hS, l_70 hS, k_71 hS, l_71 hS, k_72 hS, k_73 hS, l_73 hS, k_74 hS, l_74 hS, k_75 hS, k_76 hS, l_76 hS, k_77 hS, k_78 hS, l_78 hS, k_79 hS, k_80 hS, l_80 hS, k_81 hS, k_82 hS, l_82 hS, k_131 hS, k_132 hS, l_132 hS, k_133 hS, l_133 hS, k_134 hS, l_134 hS, k_135 hS, k_136 hS, l_136 hS, k_137 hS, l_137 hS, k_138 hS, l_138 hS, k_139 hS, l_139 hS, k_140 hS, k_141 hS, l_141 hS, k_142 hS, l_142 hS, k_143 hS, k_144 hS, l_144 hS, k_145 hS, k_146 hS, l_146 hS, k_147 hS, l_147 hS, k_148 hS, l_148 hS, k_153 hS, l_153 hS, k_154 hS, l_154 hS, k_155 hS, l_155 hS, k_156 hS, k_157 hS, l_157 hS, k_158 hS, l_158 hS, k_159 hS, l_159 hS, r_0_0 hS, r_0_1 hS, r_0_3 hS, r_0_4 hS, r_0_5 hS, r_0_6 hS, r_0_7 hS, r_0_8 hS, r_0_9 hS, r_0_10 hS, r_1_2 hS, r_1_3 hS, r_1_4 hS, r_1_5 hS, r_1_7 hS, r_1_9 hS, r_1_10 hS, r_1_12 hS, r_1_13 hS, r_1_14 hS, r_1_15 hS, r_7_1 hS, r_10_2 hS, r_12_2 hS, r_14_2 hS, r_16_2 hS, r_66_2 hS, r_66_3 hS, r_66_4 hS, r_66_5 hS, r_66_7 hS, r_66_9 hS, r_66_10 hS, r_66_12 hS, r_66_13 hS, r_66_14 hS, r_66_15 hS, r_72_1 hS, r_75_2 hS, r_77_2 hS, r_79_2 hS, r_81_2 hS, r_131_0 hS, r_131_6 hS, r_131_8 hS, r_135_0 hS, r_135_1 hS, r_135_2 hS, r_135_3 hS, r_140_0 hS, r_140_1 hS, r_143_2 hS, r_145_0 hS, r_145_1 hS, r_145_2 hS, r_145_3 hS, r_145_4 hS, r_145_5 hS, r_156_5 hS, k_pv hS, k_pvr hS, k_db hS, k_dbr hS, k_sh hS, l_pvr hS, l_dbr hS, l_sh hS, r_5 hS, r_6 hS, r_pv hS, r_db hS, r_148 hS, ol_s, ol_n, ln_0, ln_1, ln_2, ln_3, ln_4, eq_self, rf_s, rf_n, i01_0, i01_n0, i01_b, b01_0, b01_1, and_self, and_true, true_and, and_false, false_and, if_true, if_false, not_true_eq_false, not_false_eq_true, e10, e00, lt_bg, Nat.reduceLT, Nat.reduceLeDiff, q0, q1, q2, q3, q4, a0, a1, a2, a3, a4, a5, a6, a7, a8, z0, z1, z2, z3, z4, z5, z6, i0, i1, i2, i3, i4, i5, i6, nI_1, rP (dp := dp + 1) hS hb1 hd1 hk (by omega) (by omega)]
  rfl
theorem rR_g (hS : Sh ρ τ) (hb : Bgd σ τ) (hd : DC σ k n h s t) {f : Nat} (hf : f ≤ 6) (hk : k ≤ 6) (ht : t + 6 ≤ 30) (hp : dp + 6 ≤ 40) {x : Int32} : AW (d + 6) 4 0 [.ref 156, .int (nI f), .int 1, .int x, .int (nI dp), am_jk, am_jk, am_jk] [] σ ρ g τ Q = Q (some (.int (fR n h s k f x))) (f_trC σ t (lR k f)) ρ g τ := by
  have hff : f = 0 ∨ f = 1 ∨ f = 2 ∨ f = 3 ∨ f = 4 ∨ f = 5 ∨ f = 6 := by omega
  rcases hff with rfl | rfl | rfl | rfl | rfl | rfl | rfl
  · exact rR_0 (d := d + 2) hS hb hd hk (by omega) (by omega)
  · exact rR_1 (d := d + 1) hS hb hd hk (by omega) (by omega)
  · exact rR_2 (d := d + 1) hS hb hd hk (by omega) (by omega)
  · exact rR_3 (d := d + 1) hS hb hd hk (by omega) (by omega)
  · exact rR_4 (d := d + 1) hS hb hd hk (by omega) (by omega)
  · exact rR_5 (d := d + 0) hS hb hd hk (by omega) (by omega)
  · exact rR_6 (d := d + 2) hS hb hd hk (by omega) (by omega)
theorem rR (hS : Sh ρ τ) (hb : Bgd σ τ) (hd : DC σ k n h s t) (hk : k ≤ 6) (ht : t + 6 ≤ 30) (hp : dp + 6 ≤ 40) {x : Int32} : AW (d + 6) 4 0 [.ref 156, .int (nI k), .int 1, .int x, .int (nI dp), am_jk, am_jk, am_jk] [] σ ρ g τ Q = Q (some (.int (fR n h s k k x))) (f_trC σ t (lR k k)) ρ g τ := rR_g hS hb hd hk hk ht hp
theorem rF_0 (hS : Sh ρ τ) (hb : Bgd σ τ) (hd : DC σ k n h s t) (hk : k ≤ 6) (ht : t + 7 ≤ 30) (hp : dp + 7 ≤ 40) {x : Int32} : AW (d + 7) 4 0 [.ref 156, .int 0, .int 2, .int x, .int (nI dp), am_jk, am_jk, am_jk] [] σ ρ g τ Q = Q (some (.int (fF n h s k 0 x))) (f_trC σ t (lF k 0)) ρ g τ := by
  rw [en_0_2 hS hb hd.2.2.2.2 (by omega) (by omega)]
  have hb1 := hb.nt t 12 (nI (t + 1))
  obtain ⟨a0, a1, a2, a3, a4, a5, a6, a7, a8⟩ := bgA hb1
  have hd1 := hd.nt 12
  have hdd := hd1
  obtain ⟨q0, q1, q2, q3, q4⟩ := hdd
  have hd2 := hd1.tr (lR k k)
  have p2 := hd2.2.2.1
  have i0 : am_inb 0 7 = true := by decide
  have i1 : am_inb 1 7 = true := by decide
  have i2 : am_inb 2 7 = true := by decide
  have i3 : am_inb 3 7 = true := by decide
  have i4 : am_inb 4 7 = true := by decide
  have i5 : am_inb 5 7 = true := by decide
  have i6 : am_inb 6 7 = true := by decide
  simp only [s4_222, s4_223, s4_224, s4_227, s4_228, s4_229, s4_231, s4_234, s4_235, s4_238, s4_239, k_0 hS, k_1 hS, k_2 hS, l_2 hS, k_3 hS, l_3 hS, k_4 hS, l_4 hS, k_5 hS, l_5 hS, k_6 hS, l_6 hS, k_7 hS, k_8 hS, l_8 hS, k_9 hS, l_9 hS, k_10 hS, k_11 hS, l_11 hS, k_12 hS, k_13 hS, l_13 hS, k_14 hS, k_15 hS, l_15 hS, k_16 hS, k_17 hS, l_17 hS, k_66 hS, k_67 hS, l_67 hS, k_68 hS, l_68 hS, k_69 hS, l_69 hS, k_70 hS, l_70 hS, k_71 hS, l_71 hS, k_72 hS, k_73 hS, l_73 hS, k_74 hS, l_74 hS, k_75 hS, k_76 hS, l_76 hS, k_77 hS, k_78 hS, l_78 hS, k_79 hS, k_80 hS, l_80 hS, k_81 hS, k_82 hS, l_82 hS, k_131 hS, k_132 hS, l_132 hS, k_133 hS, l_133 hS, k_134 hS, l_134 hS, k_135 hS, k_136 hS, l_136 hS, k_137 hS, l_137 hS, k_138 hS, l_138 hS, k_139 hS, l_139 hS, k_140 hS, k_141 hS, l_141 hS, k_142 hS, l_142 hS, k_143 hS, k_144 hS, l_144 hS, k_145 hS, k_146 hS, l_146 hS, k_147 hS, l_147 hS, k_148 hS, l_148 hS, k_153 hS, l_153 hS, k_154 hS, l_154 hS, k_155 hS, l_155 hS, k_156 hS, k_157 hS, l_157 hS, k_158 hS, l_158 hS, k_159 hS, l_159 hS, r_0_0 hS, r_0_1 hS, r_0_3 hS, r_0_4 hS, r_0_5 hS, r_0_6 hS, r_0_7 hS, r_0_8 hS, r_0_9 hS, r_0_10 hS, r_1_2 hS, r_1_3 hS, r_1_4 hS, r_1_5 hS, r_1_7 hS, r_1_9 hS, r_1_10 hS, r_1_12 hS, r_1_13 hS, r_1_14 hS, r_1_15 hS, r_7_1 hS, r_10_2 hS, r_12_2 hS, r_14_2 hS, r_16_2 hS, r_66_2 hS, r_66_3 hS, r_66_4 hS, r_66_5 hS, r_66_7 hS, r_66_9 hS, r_66_10 hS, r_66_12 hS, r_66_13 hS, r_66_14 hS, r_66_15 hS, r_72_1 hS, r_75_2 hS, r_77_2 hS, r_79_2 hS, r_81_2 hS, r_131_0 hS, r_131_6 hS, r_131_8 hS, r_135_0 hS, r_135_1 hS, r_135_2 hS, r_135_3 hS, r_140_0 hS, r_140_1 hS, r_143_2 hS, r_145_0 hS, r_145_1 hS, r_145_2 hS, r_145_3 hS, r_145_4 hS, r_145_5 hS, r_156_5 hS, k_pv hS, k_pvr hS, k_db hS, k_dbr hS, k_sh hS, l_pvr hS, l_dbr hS, l_sh hS, r_5 hS, r_6 hS, r_pv hS, r_db hS, r_148 hS, ol_s, ol_n, ln_0, ln_1, ln_2, ln_3, ln_4, eq_self, rf_s, rf_n, i01_0, i01_n0, i01_b, b01_0, b01_1, and_self, and_true, true_and, and_false, false_and, if_true, if_false, not_true_eq_false, not_false_eq_true, e10, e00, lt_bg, Nat.reduceLT, Nat.reduceLeDiff, q0, q1, q2, q3, q4, a0, a1, a2, a3, a4, a5, a6, a7, a8, z0, z1, z2, z3, z4, z5, z6, p2, i0, i1, i2, i3, i4, i5, i6, nI_1, rR (dp := dp + 1) hS hb1 hd1 hk (by omega) (by omega)]
  rfl
theorem rF_1 (hS : Sh ρ τ) (hb : Bgd σ τ) (hd : DC σ k n h s t) (hk : k ≤ 6) (ht : t + 7 ≤ 30) (hp : dp + 7 ≤ 40) {x : Int32} : AW (d + 7) 4 0 [.ref 156, .int 1, .int 2, .int x, .int (nI dp), am_jk, am_jk, am_jk] [] σ ρ g τ Q = Q (some (.int (fF n h s k 1 x))) (f_trC σ t (lF k 1)) ρ g τ := by
  rw [en_1_2 hS hb hd.2.2.2.2 (by omega) (by omega)]
  have hb1 := hb.nt t 12 (nI (t + 1))
  obtain ⟨a0, a1, a2, a3, a4, a5, a6, a7, a8⟩ := bgA hb1
  have hd1 := hd.nt 12
  have hdd := hd1
  obtain ⟨q0, q1, q2, q3, q4⟩ := hdd
  have hd2 := hd1.tr (lR k k)
  have p2 := hd2.2.2.1
  have i0 : am_inb 0 7 = true := by decide
  have i1 : am_inb 1 7 = true := by decide
  have i2 : am_inb 2 7 = true := by decide
  have i3 : am_inb 3 7 = true := by decide
  have i4 : am_inb 4 7 = true := by decide
  have i5 : am_inb 5 7 = true := by decide
  have i6 : am_inb 6 7 = true := by decide
  simp only [s4_222, s4_223, s4_224, s4_227, s4_228, s4_229, s4_231, s4_234, s4_235, s4_238, s4_239, k_0 hS, k_1 hS, k_2 hS, l_2 hS, k_3 hS, l_3 hS, k_4 hS, l_4 hS, k_5 hS, l_5 hS, k_6 hS, l_6 hS, k_7 hS, k_8 hS, l_8 hS, k_9 hS, l_9 hS, k_10 hS, k_11 hS, l_11 hS, k_12 hS, k_13 hS, l_13 hS, k_14 hS, k_15 hS, l_15 hS, k_16 hS, k_17 hS, l_17 hS, k_66 hS, k_67 hS, l_67 hS, k_68 hS, l_68 hS, k_69 hS, l_69 hS, k_70 hS, l_70 hS, k_71 hS, l_71 hS, k_72 hS, k_73 hS, l_73 hS, k_74 hS, l_74 hS, k_75 hS, k_76 hS, l_76 hS, k_77 hS, k_78 hS, l_78 hS, k_79 hS, k_80 hS, l_80 hS, k_81 hS, k_82 hS, l_82 hS, k_131 hS, k_132 hS, l_132 hS, k_133 hS, l_133 hS, k_134 hS, l_134 hS, k_135 hS, k_136 hS, l_136 hS, k_137 hS, l_137 hS, k_138 hS, l_138 hS, k_139 hS, l_139 hS, k_140 hS, k_141 hS, l_141 hS, k_142 hS, l_142 hS, k_143 hS, k_144 hS, l_144 hS, k_145 hS, k_146 hS, l_146 hS, k_147 hS, l_147 hS, k_148 hS, l_148 hS, k_153 hS, l_153 hS, k_154 hS, l_154 hS, k_155 hS, l_155 hS, k_156 hS, k_157 hS, l_157 hS, k_158 hS, l_158 hS, k_159 hS, l_159 hS, r_0_0 hS, r_0_1 hS, r_0_3 hS, r_0_4 hS, r_0_5 hS, r_0_6 hS, r_0_7 hS, r_0_8 hS, r_0_9 hS, r_0_10 hS, r_1_2 hS, r_1_3 hS, r_1_4 hS, r_1_5 hS, r_1_7 hS, r_1_9 hS, r_1_10 hS, r_1_12 hS, r_1_13 hS, r_1_14 hS, r_1_15 hS, r_7_1 hS, r_10_2 hS, r_12_2 hS, r_14_2 hS, r_16_2 hS, r_66_2 hS, r_66_3 hS, r_66_4 hS, r_66_5 hS, r_66_7 hS, r_66_9 hS, r_66_10 hS, r_66_12 hS, r_66_13 hS, r_66_14 hS, r_66_15 hS, r_72_1 hS, r_75_2 hS, r_77_2 hS, r_79_2 hS, r_81_2 hS, r_131_0 hS, r_131_6 hS, r_131_8 hS, r_135_0 hS, r_135_1 hS, r_135_2 hS, r_135_3 hS, r_140_0 hS, r_140_1 hS, r_143_2 hS, r_145_0 hS, r_145_1 hS, r_145_2 hS, r_145_3 hS, r_145_4 hS, r_145_5 hS, r_156_5 hS, k_pv hS, k_pvr hS, k_db hS, k_dbr hS, k_sh hS, l_pvr hS, l_dbr hS, l_sh hS, r_5 hS, r_6 hS, r_pv hS, r_db hS, r_148 hS, ol_s, ol_n, ln_0, ln_1, ln_2, ln_3, ln_4, eq_self, rf_s, rf_n, i01_0, i01_n0, i01_b, b01_0, b01_1, and_self, and_true, true_and, and_false, false_and, if_true, if_false, not_true_eq_false, not_false_eq_true, e10, e00, lt_bg, Nat.reduceLT, Nat.reduceLeDiff, q0, q1, q2, q3, q4, a0, a1, a2, a3, a4, a5, a6, a7, a8, z0, z1, z2, z3, z4, z5, z6, p2, i0, i1, i2, i3, i4, i5, i6, nI_1, rR (dp := dp + 1) hS hb1 hd1 hk (by omega) (by omega)]
  rfl
theorem rF_2 (hS : Sh ρ τ) (hb : Bgd σ τ) (hd : DC σ k n h s t) (hk : k ≤ 6) (ht : t + 14 ≤ 30) (hp : dp + 8 ≤ 40) {x : Int32} : AW (d + 8) 4 0 [.ref 156, .int 2, .int 2, .int x, .int (nI dp), am_jk, am_jk, am_jk] [] σ ρ g τ Q = Q (some (.int (fF n h s k 2 x))) (f_trC σ t (lF k 2)) ρ g τ := by
  rw [en_2_2 hS hb hd.2.2.2.2 (by omega) (by omega)]
  have hb1 := hb.nt t 31 (nI (t + 1))
  obtain ⟨a0, a1, a2, a3, a4, a5, a6, a7, a8⟩ := bgA hb1
  have hd1 := hd.nt 31
  have hdd := hd1
  obtain ⟨q0, q1, q2, q3, q4⟩ := hdd
  have hd2 := hd1.tr (lF k 1)
  have hb2 := hb1.tr (t + 1) (lF k 1)
  have p0 := hd2.1
  have hl : (lF k 1).length ≤ 7 := by
    have := lR_len k k
    show (12 :: lR k k).length ≤ 7
    simp only [List.length_cons]
    omega
  have i0 : am_inb 0 7 = true := by decide
  have i1 : am_inb 1 7 = true := by decide
  have i2 : am_inb 2 7 = true := by decide
  have i3 : am_inb 3 7 = true := by decide
  have i4 : am_inb 4 7 = true := by decide
  have i5 : am_inb 5 7 = true := by decide
  have i6 : am_inb 6 7 = true := by decide
  simp only [s4_292, s4_293, s4_296, s4_298, s4_299, s4_300, s4_301, s4_303, s4_306, s4_307, s4_308, s4_311, s4_312, s4_313, s4_315, s4_318, s4_319, k_0 hS, k_1 hS, k_2 hS, l_2 hS, k_3 hS, l_3 hS, k_4 hS, l_4 hS, k_5 hS, l_5 hS, k_6 hS, l_6 hS, k_7 hS, k_8 hS, l_8 hS, k_9 hS, l_9 hS, k_10 hS, k_11 hS, l_11 hS, k_12 hS, k_13 hS, l_13 hS, k_14 hS, k_15 hS, l_15 hS, k_16 hS, k_17 hS, l_17 hS, k_66 hS, k_67 hS, l_67 hS, k_68 hS, l_68 hS, k_69 hS, l_69 hS, k_70 hS, l_70 hS, k_71 hS, l_71 hS, k_72 hS, k_73 hS, l_73 hS, k_74 hS, l_74 hS, k_75 hS, k_76 hS, l_76 hS, k_77 hS, k_78 hS, l_78 hS, k_79 hS, k_80 hS, l_80 hS, k_81 hS, k_82 hS, l_82 hS, k_131 hS, k_132 hS, l_132 hS, k_133 hS, l_133 hS, k_134 hS, l_134 hS, k_135 hS, k_136 hS, l_136 hS, k_137 hS, l_137 hS, k_138 hS, l_138 hS, k_139 hS, l_139 hS, k_140 hS, k_141 hS, l_141 hS, k_142 hS, l_142 hS, k_143 hS, k_144 hS, l_144 hS, k_145 hS, k_146 hS, l_146 hS, k_147 hS, l_147 hS, k_148 hS, l_148 hS, k_153 hS, l_153 hS, k_154 hS, l_154 hS, k_155 hS, l_155 hS, k_156 hS, k_157 hS, l_157 hS, k_158 hS, l_158 hS, k_159 hS, l_159 hS, r_0_0 hS, r_0_1 hS, r_0_3 hS, r_0_4 hS, r_0_5 hS, r_0_6 hS, r_0_7 hS, r_0_8 hS, r_0_9 hS, r_0_10 hS, r_1_2 hS, r_1_3 hS, r_1_4 hS, r_1_5 hS, r_1_7 hS, r_1_9 hS, r_1_10 hS, r_1_12 hS, r_1_13 hS, r_1_14 hS, r_1_15 hS, r_7_1 hS, r_10_2 hS, r_12_2 hS, r_14_2 hS, r_16_2 hS, r_66_2 hS, r_66_3 hS, r_66_4 hS, r_66_5 hS, r_66_7 hS, r_66_9 hS, r_66_10 hS, r_66_12 hS, r_66_13 hS, r_66_14 hS, r_66_15 hS, r_72_1 hS, r_75_2 hS, r_77_2 hS, r_79_2 hS, r_81_2 hS, r_131_0 hS, r_131_6 hS, r_131_8 hS, r_135_0 hS, r_135_1 hS, r_135_2 hS, r_135_3 hS, r_140_0 hS, r_140_1 hS, r_143_2 hS, r_145_0 hS, r_145_1 hS, r_145_2 hS, r_145_3 hS, r_145_4 hS, r_145_5 hS, r_156_5 hS, k_pv hS, k_pvr hS, k_db hS, k_dbr hS, k_sh hS, l_pvr hS, l_dbr hS, l_sh hS, r_5 hS, r_6 hS, r_pv hS, r_db hS, r_148 hS, ol_s, ol_n, ln_0, ln_1, ln_2, ln_3, ln_4, eq_self, rf_s, rf_n, i01_0, i01_n0, i01_b, b01_0, b01_1, and_self, and_true, true_and, and_false, false_and, if_true, if_false, not_true_eq_false, not_false_eq_true, e10, e00, lt_bg, Nat.reduceLT, Nat.reduceLeDiff, q0, q1, q2, q3, q4, a0, a1, a2, a3, a4, a5, a6, a7, a8, z0, z1, z2, z3, z4, z5, z6, p0, i0, i1, i2, i3, i4, i5, i6, nI_1, rF_1 (dp := dp + 1) hS hb1 hd1 hk (by omega) (by omega), rR (dp := dp + 1) hS hb2 hd2 hk (by omega) (by omega)]
  rw [show lF k 2 = 31 :: (lF k 1 ++ lR k k) from rfl]
  show _ = Q _ (f_trC (am_u (am_u σ 157 t 31) 156 6 (nI (t + 1))) (t + 1) (lF k 1 ++ lR k k)) ρ g τ
  rw [trC_app]
  rfl
theorem rF_3 (hS : Sh ρ τ) (hb : Bgd σ τ) (hd : DC σ k n h s t) (hk : k ≤ 6) (ht : t + 14 ≤ 30) (hp : dp + 8 ≤ 40) {x : Int32} : AW (d + 8) 4 0 [.ref 156, .int 3, .int 2, .int x, .int (nI dp), am_jk, am_jk, am_jk] [] σ ρ g τ Q = Q (some (.int (fF n h s k 3 x))) (f_trC σ t (lF k 3)) ρ g τ := by
  rw [en_3_2 hS hb hd.2.2.2.2 (by omega) (by omega)]
  have hb1 := hb.nt t 31 (nI (t + 1))
  obtain ⟨a0, a1, a2, a3, a4, a5, a6, a7, a8⟩ := bgA hb1
  have hd1 := hd.nt 31
  have hdd := hd1
  obtain ⟨q0, q1, q2, q3, q4⟩ := hdd
  have hd2 := hd1.tr (lF k 1)
  have hb2 := hb1.tr (t + 1) (lF k 1)
  have p0 := hd2.1
  have hl : (lF k 1).length ≤ 7 := by
    have := lR_len k k
    show (12 :: lR k k).length ≤ 7
    simp only [List.length_cons]
    omega
  have i0 : am_inb 0 7 = true := by decide
  have i1 : am_inb 1 7 = true := by decide
  have i2 : am_inb 2 7 = true := by decide
  have i3 : am_inb 3 7 = true := by decide
  have i4 : am_inb 4 7 = true := by decide
  have i5 : am_inb 5 7 = true := by decide
  have i6 : am_inb 6 7 = true := by decide
  simp only [s4_292, s4_293, s4_296, s4_298, s4_299, s4_300, s4_301, s4_303, s4_306, s4_307, s4_308, s4_311, s4_312, s4_313, s4_315, s4_318, s4_319, k_0 hS, k_1 hS, k_2 hS, l_2 hS, k_3 hS, l_3 hS, k_4 hS, l_4 hS, k_5 hS, l_5 hS, k_6 hS, l_6 hS, k_7 hS, k_8 hS, l_8 hS, k_9 hS, l_9 hS, k_10 hS, k_11 hS, l_11 hS, k_12 hS, k_13 hS, l_13 hS, k_14 hS, k_15 hS, l_15 hS, k_16 hS, k_17 hS, l_17 hS, k_66 hS, k_67 hS, l_67 hS, k_68 hS, l_68 hS, k_69 hS, l_69 hS, k_70 hS, l_70 hS, k_71 hS, l_71 hS, k_72 hS, k_73 hS, l_73 hS, k_74 hS, l_74 hS, k_75 hS, k_76 hS, l_76 hS, k_77 hS, k_78 hS, l_78 hS, k_79 hS, k_80 hS, l_80 hS, k_81 hS, k_82 hS, l_82 hS, k_131 hS, k_132 hS, l_132 hS, k_133 hS, l_133 hS, k_134 hS, l_134 hS, k_135 hS, k_136 hS, l_136 hS, k_137 hS, l_137 hS, k_138 hS, l_138 hS, k_139 hS, l_139 hS, k_140 hS, k_141 hS, l_141 hS, k_142 hS, l_142 hS, k_143 hS, k_144 hS, l_144 hS, k_145 hS, k_146 hS, l_146 hS, k_147 hS, l_147 hS, k_148 hS, l_148 hS, k_153 hS, l_153 hS, k_154 hS, l_154 hS, k_155 hS, l_155 hS, k_156 hS, k_157 hS, l_157 hS, k_158 hS, l_158 hS, k_159 hS, l_159 hS, r_0_0 hS, r_0_1 hS, r_0_3 hS, r_0_4 hS, r_0_5 hS, r_0_6 hS, r_0_7 hS, r_0_8 hS, r_0_9 hS, r_0_10 hS, r_1_2 hS, r_1_3 hS, r_1_4 hS, r_1_5 hS, r_1_7 hS, r_1_9 hS, r_1_10 hS, r_1_12 hS, r_1_13 hS, r_1_14 hS, r_1_15 hS, r_7_1 hS, r_10_2 hS, r_12_2 hS, r_14_2 hS, r_16_2 hS, r_66_2 hS, r_66_3 hS, r_66_4 hS, r_66_5 hS, r_66_7 hS, r_66_9 hS, r_66_10 hS, r_66_12 hS, r_66_13 hS, r_66_14 hS, r_66_15 hS, r_72_1 hS, r_75_2 hS, r_77_2 hS, r_79_2 hS, r_81_2 hS, r_131_0 hS, r_131_6 hS, r_131_8 hS, r_135_0 hS, r_135_1 hS, r_135_2 hS, r_135_3 hS, r_140_0 hS, r_140_1 hS, r_143_2 hS, r_145_0 hS, r_145_1 hS, r_145_2 hS, r_145_3 hS, r_145_4 hS, r_145_5 hS, r_156_5 hS, k_pv hS, k_pvr hS, k_db hS, k_dbr hS, k_sh hS, l_pvr hS, l_dbr hS, l_sh hS, r_5 hS, r_6 hS, r_pv hS, r_db hS, r_148 hS, ol_s, ol_n, ln_0, ln_1, ln_2, ln_3, ln_4, eq_self, rf_s, rf_n, i01_0, i01_n0, i01_b, b01_0, b01_1, and_self, and_true, true_and, and_false, false_and, if_true, if_false, not_true_eq_false, not_false_eq_true, e10, e00, lt_bg, Nat.reduceLT, Nat.reduceLeDiff, q0, q1, q2, q3, q4, a0, a1, a2, a3, a4, a5, a6, a7, a8, z0, z1, z2, z3, z4, z5, z6, p0, i0, i1, i2, i3, i4, i5, i6, nI_1, rF_1 (dp := dp + 1) hS hb1 hd1 hk (by omega) (by omega), rR (dp := dp + 1) hS hb2 hd2 hk (by omega) (by omega)]
  rw [show lF k 3 = 31 :: (lF k 1 ++ lR k k) from rfl]
  show _ = Q _ (f_trC (am_u (am_u σ 157 t 31) 156 6 (nI (t + 1))) (t + 1) (lF k 1 ++ lR k k)) ρ g τ
  rw [trC_app]
  rfl
theorem rF_4 (hS : Sh ρ τ) (hb : Bgd σ τ) (hd : DC σ k n h s t) (hk : k ≤ 6) (ht : t + 8 ≤ 30) (hp : dp + 8 ≤ 40) {x : Int32} : AW (d + 8) 4 0 [.ref 156, .int 4, .int 2, .int x, .int (nI dp), am_jk, am_jk, am_jk] [] σ ρ g τ Q = Q (some (.int (fF n h s k 4 x))) (f_trC σ t (lF k 4)) ρ g τ := by
  rw [en_4_2 hS hb hd.2.2.2.2 (by omega) (by omega)]
  have hb1 := hb.nt t 50 (nI (t + 1))
  obtain ⟨a0, a1, a2, a3, a4, a5, a6, a7, a8⟩ := bgA hb1
  have hd1 := hd.nt 50
  have hdd := hd1
  obtain ⟨q0, q1, q2, q3, q4⟩ := hdd
  have i0 : am_inb 0 7 = true := by decide
  have i1 : am_inb 1 7 = true := by decide
  have i2 : am_inb 2 7 = true := by decide
  have i3 : am_inb 3 7 = true := by decide
  have i4 : am_inb 4 7 = true := by decide
  have i5 : am_inb 5 7 = true := by decide
  have i6 : am_inb 6 7 = true := by decide
  simp only [s4_354, s4_355, s4_358, s4_360, s4_361, s4_362, s4_363, s4_365, s4_368, s4_369, s4_370, k_0 hS, k_1 hS, k_2 hS, l_2 hS, k_3 hS, l_3 hS, k_4 hS, l_4 hS, k_5 hS, l_5 hS, k_6 hS, l_6 hS, k_7 hS, k_8 hS, l_8 hS, k_9 hS, l_9 hS, k_10 hS, k_11 hS, l_11 hS, k_12 hS, k_13 hS, l_13 hS, k_14 hS, k_15 hS, l_15 hS, k_16 hS, k_17 hS, l_17 hS, k_66 hS, k_67 hS, l_67 hS, k_68 hS, l_68 hS, k_69 hS, l_69 hS, k_70 hS, l_70 hS, k_71 hS, l_71 hS, k_72 hS, k_73 hS, l_73 hS, k_74 hS, l_74 hS, k_75 hS, k_76 hS, l_76 hS, k_77 hS, k_78 hS, l_78 hS, k_79 hS, k_80 hS, l_80 hS, k_81 hS, k_82 hS, l_82 hS, k_131 hS, k_132 hS, l_132 hS, k_133 hS, l_133 hS, k_134 hS, l_134 hS, k_135 hS, k_136 hS, l_136 hS, k_137 hS, l_137 hS, k_138 hS, l_138 hS, k_139 hS, l_139 hS, k_140 hS, k_141 hS, l_141 hS, k_142 hS, l_142 hS, k_143 hS, k_144 hS, l_144 hS, k_145 hS, k_146 hS, l_146 hS, k_147 hS, l_147 hS, k_148 hS, l_148 hS, k_153 hS, l_153 hS, k_154 hS, l_154 hS, k_155 hS, l_155 hS, k_156 hS, k_157 hS, l_157 hS, k_158 hS, l_158 hS, k_159 hS, l_159 hS, r_0_0 hS, r_0_1 hS, r_0_3 hS, r_0_4 hS, r_0_5 hS, r_0_6 hS, r_0_7 hS, r_0_8 hS, r_0_9 hS, r_0_10 hS, r_1_2 hS, r_1_3 hS, r_1_4 hS, r_1_5 hS, r_1_7 hS, r_1_9 hS, r_1_10 hS, r_1_12 hS, r_1_13 hS, r_1_14 hS, r_1_15 hS, r_7_1 hS, r_10_2 hS, r_12_2 hS, r_14_2 hS, r_16_2 hS, r_66_2 hS, r_66_3 hS, r_66_4 hS, r_66_5 hS, r_66_7 hS, r_66_9 hS, r_66_10 hS, r_66_12 hS, r_66_13 hS, r_66_14 hS, r_66_15 hS, r_72_1 hS, r_75_2 hS, r_77_2 hS, r_79_2 hS, r_81_2 hS, r_131_0 hS, r_131_6 hS, r_131_8 hS, r_135_0 hS, r_135_1 hS, r_135_2 hS, r_135_3 hS, r_140_0 hS, r_140_1 hS, r_143_2 hS, r_145_0 hS, r_145_1 hS, r_145_2 hS, r_145_3 hS, r_145_4 hS, r_145_5 hS, r_156_5 hS, k_pv hS, k_pvr hS, k_db hS, k_dbr hS, k_sh hS, l_pvr hS, l_dbr hS, l_sh hS, r_5 hS, r_6 hS, r_pv hS, r_db hS, r_148 hS, ol_s, ol_n, ln_0, ln_1, ln_2, ln_3, ln_4, eq_self, rf_s, rf_n, i01_0, i01_n0, i01_b, b01_0, b01_1, and_self, and_true, true_and, and_false, false_and, if_true, if_false, not_true_eq_false, not_false_eq_true, e10, e00, lt_bg, Nat.reduceLT, Nat.reduceLeDiff, q0, q1, q2, q3, q4, a0, a1, a2, a3, a4, a5, a6, a7, a8, z0, z1, z2, z3, z4, z5, z6, i0, i1, i2, i3, i4, i5, i6, nI_1, rF_1 (dp := dp + 1) hS hb1 hd1 hk (by omega) (by omega)]
  rfl
theorem rF_5 (hS : Sh ρ τ) (hb : Bgd σ τ) (hd : DC σ k n h s t) (hk : k ≤ 6) (ht : t + 7 ≤ 30) (hp : dp + 7 ≤ 40) {x : Int32} : AW (d + 7) 4 0 [.ref 156, .int 5, .int 2, .int x, .int (nI dp), am_jk, am_jk, am_jk] [] σ ρ g τ Q = Q (some (.int (fF n h s k 5 x))) (f_trC σ t (lF k 5)) ρ g τ := by
  rw [en_5_2 hS hb hd.2.2.2.2 (by omega) (by omega)]
  have hb1 := hb.nt t 12 (nI (t + 1))
  obtain ⟨a0, a1, a2, a3, a4, a5, a6, a7, a8⟩ := bgA hb1
  have hd1 := hd.nt 12
  have hdd := hd1
  obtain ⟨q0, q1, q2, q3, q4⟩ := hdd
  have hd2 := hd1.tr (lR k k)
  have p2 := hd2.2.2.1
  have i0 : am_inb 0 7 = true := by decide
  have i1 : am_inb 1 7 = true := by decide
  have i2 : am_inb 2 7 = true := by decide
  have i3 : am_inb 3 7 = true := by decide
  have i4 : am_inb 4 7 = true := by decide
  have i5 : am_inb 5 7 = true := by decide
  have i6 : am_inb 6 7 = true := by decide
  simp only [s4_222, s4_223, s4_224, s4_227, s4_228, s4_229, s4_231, s4_234, s4_235, s4_238, s4_239, k_0 hS, k_1 hS, k_2 hS, l_2 hS, k_3 hS, l_3 hS, k_4 hS, l_4 hS, k_5 hS, l_5 hS, k_6 hS, l_6 hS, k_7 hS, k_8 hS, l_8 hS, k_9 hS, l_9 hS, k_10 hS, k_11 hS, l_11 hS, k_12 hS, k_13 hS, l_13 hS, k_14 hS, k_15 hS, l_15 hS, k_16 hS, k_17 hS, l_17 hS, k_66 hS, k_67 hS, l_67 hS, k_68 hS, l_68 hS, k_69 hS, l_69 hS, k_70 hS, l_70 hS, k_71 hS, l_71 hS, k_72 hS, k_73 hS, l_73 hS, k_74 hS, l_74 hS, k_75 hS, k_76 hS, l_76 hS, k_77 hS, k_78 hS, l_78 hS, k_79 hS, k_80 hS, l_80 hS, k_81 hS, k_82 hS, l_82 hS, k_131 hS, k_132 hS, l_132 hS, k_133 hS, l_133 hS, k_134 hS, l_134 hS, k_135 hS, k_136 hS, l_136 hS, k_137 hS, l_137 hS, k_138 hS, l_138 hS, k_139 hS, l_139 hS, k_140 hS, k_141 hS, l_141 hS, k_142 hS, l_142 hS, k_143 hS, k_144 hS, l_144 hS, k_145 hS, k_146 hS, l_146 hS, k_147 hS, l_147 hS, k_148 hS, l_148 hS, k_153 hS, l_153 hS, k_154 hS, l_154 hS, k_155 hS, l_155 hS, k_156 hS, k_157 hS, l_157 hS, k_158 hS, l_158 hS, k_159 hS, l_159 hS, r_0_0 hS, r_0_1 hS, r_0_3 hS, r_0_4 hS, r_0_5 hS, r_0_6 hS, r_0_7 hS, r_0_8 hS, r_0_9 hS, r_0_10 hS, r_1_2 hS, r_1_3 hS, r_1_4 hS, r_1_5 hS, r_1_7 hS, r_1_9 hS, r_1_10 hS, r_1_12 hS, r_1_13 hS, r_1_14 hS, r_1_15 hS, r_7_1 hS, r_10_2 hS, r_12_2 hS, r_14_2 hS, r_16_2 hS, r_66_2 hS, r_66_3 hS, r_66_4 hS, r_66_5 hS, r_66_7 hS, r_66_9 hS, r_66_10 hS, r_66_12 hS, r_66_13 hS, r_66_14 hS, r_66_15 hS, r_72_1 hS, r_75_2 hS, r_77_2 hS, r_79_2 hS, r_81_2 hS, r_131_0 hS, r_131_6 hS, r_131_8 hS, r_135_0 hS, r_135_1 hS, r_135_2 hS, r_135_3 hS, r_140_0 hS, r_140_1 hS, r_143_2 hS, r_145_0 hS, r_145_1 hS, r_145_2 hS, r_145_3 hS, r_145_4 hS, r_145_5 hS, r_156_5 hS, k_pv hS, k_pvr hS, k_db hS, k_dbr hS, k_sh hS, l_pvr hS, l_dbr hS, l_sh hS, r_5 hS, r_6 hS, r_pv hS, r_db hS, r_148 hS, ol_s, ol_n, ln_0, ln_1, ln_2, ln_3, ln_4, eq_self, rf_s, rf_n, i01_0, i01_n0, i01_b, b01_0, b01_1, and_self, and_true, true_and, and_false, false_and, if_true, if_false, not_true_eq_false, not_false_eq_true, e10, e00, lt_bg, Nat.reduceLT, Nat.reduceLeDiff, q0, q1, q2, q3, q4, a0, a1, a2, a3, a4, a5, a6, a7, a8, z0, z1, z2, z3, z4, z5, z6, p2, i0, i1, i2, i3, i4, i5, i6, nI_1, rR (dp := dp + 1) hS hb1 hd1 hk (by omega) (by omega)]
  rfl
theorem rF_6 (hS : Sh ρ τ) (hb : Bgd σ τ) (hd : DC σ k n h s t) (hk : k ≤ 6) (ht : t + 11 ≤ 30) (hp : dp + 8 ≤ 40) {x : Int32} : AW (d + 8) 4 0 [.ref 156, .int 6, .int 2, .int x, .int (nI dp), am_jk, am_jk, am_jk] [] σ ρ g τ Q = Q (some (.int (fF n h s k 6 x))) (f_trC σ t (lF k 6)) ρ g τ := by
  rw [en_6_2 hS hb hd.2.2.2.2 (by omega) (by omega)]
  have hb1 := hb.nt t 70 (nI (t + 1))
  obtain ⟨a0, a1, a2, a3, a4, a5, a6, a7, a8⟩ := bgA hb1
  have hd1 := hd.nt 70
  have hdd := hd1
  obtain ⟨q0, q1, q2, q3, q4⟩ := hdd
  have hd2 := hd1.tr (lF k 0)
  have hb2 := hb1.tr (t + 1) (lF k 0)
  have p0 := hd2.1
  have p1 := hd2.2.1
  have hl : (lF k 0).length ≤ 7 := by
    have := lR_len k k
    show (12 :: lR k k).length ≤ 7
    simp only [List.length_cons]
    omega
  have i0 : am_inb 0 7 = true := by decide
  have i1 : am_inb 1 7 = true := by decide
  have i2 : am_inb 2 7 = true := by decide
  have i3 : am_inb 3 7 = true := by decide
  have i4 : am_inb 4 7 = true := by decide
  have i5 : am_inb 5 7 = true := by decide
  have i6 : am_inb 6 7 = true := by decide
  simp only [s4_411, s4_412, s4_415, s4_417, s4_418, s4_419, s4_420, s4_422, s4_425, s4_426, s4_427, s4_430, s4_431, s4_432, s4_435, s4_437, s4_440, s4_441, k_0 hS, k_1 hS, k_2 hS, l_2 hS, k_3 hS, l_3 hS, k_4 hS, l_4 hS, k_5 hS, l_5 hS, k_6 hS, l_6 hS, k_7 hS, k_8 hS, l_8 hS, k_9 hS, l_9 hS, k_10 hS, k_11 hS, l_11 hS, k_12 hS, k_13 hS, l_13 hS, k_14 hS, k_15 hS, l_15 hS, k_16 hS, k_17 hS, l_17 hS, k_66 hS, k_67 hS, l_67 hS, k_68 hS, l_68 hS, k_69 hS, l_69 hS, k_70 hS, l_70 hS, k_71 hS, l_71 hS, k_72 hS, k_73 hS, l_73 hS, k_74 hS, l_74 hS, k_75 hS, k_76 hS, l_76 hS, k_77 hS, k_78 hS, l_78 hS, k_79 hS, k_80 hS, l_80 hS, k_81 hS, k_82 hS, l_82 hS, k_131 hS, k_132 hS, l_132 hS, k_133 hS, l_133 hS, k_134 hS, l_134 hS, k_135 hS, k_136 hS, l_136 hS, k_137 hS, l_137 hS, k_138 hS, l_138 hS, k_139 hS, l_139 hS, k_140 hS, k_141 hS, l_141 hS, k_142 hS, l_142 hS, k_143 hS, k_144 hS, l_144 hS, k_145 hS, k_146 hS, l_146 hS, k_147 hS, l_147 hS, k_148 hS, l_148 hS, k_153 hS, l_153 hS, k_154 hS, l_154 hS, k_155 hS, l_155 hS, k_156 hS, k_157 hS, l_157 hS, k_158 hS, l_158 hS, k_159 hS, l_159 hS, r_0_0 hS, r_0_1 hS, r_0_3 hS, r_0_4 hS, r_0_5 hS, r_0_6 hS, r_0_7 hS, r_0_8 hS, r_0_9 hS, r_0_10 hS, r_1_2 hS, r_1_3 hS, r_1_4 hS, r_1_5 hS, r_1_7 hS, r_1_9 hS, r_1_10 hS, r_1_12 hS, r_1_13 hS, r_1_14 hS, r_1_15 hS, r_7_1 hS, r_10_2 hS, r_12_2 hS, r_14_2 hS, r_16_2 hS, r_66_2 hS, r_66_3 hS, r_66_4 hS, r_66_5 hS, r_66_7 hS, r_66_9 hS, r_66_10 hS, r_66_12 hS, r_66_13 hS, r_66_14 hS, r_66_15 hS, r_72_1 hS, r_75_2 hS, r_77_2 hS, r_79_2 hS, r_81_2 hS, r_131_0 hS, r_131_6 hS, r_131_8 hS, r_135_0 hS, r_135_1 hS, r_135_2 hS, r_135_3 hS, r_140_0 hS, r_140_1 hS, r_143_2 hS, r_145_0 hS, r_145_1 hS, r_145_2 hS, r_145_3 hS, r_145_4 hS, r_145_5 hS, r_156_5 hS, k_pv hS, k_pvr hS, k_db hS, k_dbr hS, k_sh hS, l_pvr hS, l_dbr hS, l_sh hS, r_5 hS, r_6 hS, r_pv hS, r_db hS, r_148 hS, ol_s, ol_n, ln_0, ln_1, ln_2, ln_3, ln_4, eq_self, rf_s, rf_n, i01_0, i01_n0, i01_b, b01_0, b01_1, and_self, and_true, true_and, and_false, false_and, if_true, if_false, not_true_eq_false, not_false_eq_true, e10, e00, lt_bg, Nat.reduceLT, Nat.reduceLeDiff, q0, q1, q2, q3, q4, a0, a1, a2, a3, a4, a5, a6, a7, a8, z0, z1, z2, z3, z4, z5, z6, p0, p1, i0, i1, i2, i3, i4, i5, i6, nI_1, rF_0 (dp := dp + 1) hS hb1 hd1 hk (by omega) (by omega), rP (dp := dp + 1) hS hb2 hd2 hk (by omega) (by omega)]
  rw [show lF k 6 = 70 :: (lF k 0 ++ lP k) from rfl]
  show _ = Q _ (f_trC (am_u (am_u σ 157 t 70) 156 6 (nI (t + 1))) (t + 1) (lF k 0 ++ lP k)) ρ g τ
  rw [trC_app]
  rfl
theorem rF_g (hS : Sh ρ τ) (hb : Bgd σ τ) (hd : DC σ k n h s t) {f : Nat} (hf : f ≤ 6) (hk : k ≤ 6) (ht : t + 14 ≤ 30) (hp : dp + 8 ≤ 40) {x : Int32} : AW (d + 8) 4 0 [.ref 156, .int (nI f), .int 2, .int x, .int (nI dp), am_jk, am_jk, am_jk] [] σ ρ g τ Q = Q (some (.int (fF n h s k f x))) (f_trC σ t (lF k f)) ρ g τ := by
  have hff : f = 0 ∨ f = 1 ∨ f = 2 ∨ f = 3 ∨ f = 4 ∨ f = 5 ∨ f = 6 := by omega
  rcases hff with rfl | rfl | rfl | rfl | rfl | rfl | rfl
  · exact rF_0 (d := d + 1) hS hb hd hk (by omega) (by omega)
  · exact rF_1 (d := d + 1) hS hb hd hk (by omega) (by omega)
  · exact rF_2 (d := d + 0) hS hb hd hk (by omega) (by omega)
  · exact rF_3 (d := d + 0) hS hb hd hk (by omega) (by omega)
  · exact rF_4 (d := d + 0) hS hb hd hk (by omega) (by omega)
  · exact rF_5 (d := d + 1) hS hb hd hk (by omega) (by omega)
  · exact rF_6 (d := d + 0) hS hb hd hk (by omega) (by omega)
theorem rT_0 (hS : Sh ρ τ) (hb : Bgd σ τ) (hd : DC σ k n h s t) (ht : t + 1 ≤ 30) (hp : dp + 1 ≤ 40) {x : Int32} : AW (d + 1) 4 0 [.ref 156, .int 0, .int 3, .int x, .int (nI dp), am_jk, am_jk, am_jk] [] σ ρ g τ Q = Q (some (.int (fT n h 0 x))) (f_pt n h (f_trC σ t (lT 0))) ρ g τ := by
  rw [en_0_3 hS hb hd.2.2.2.2 (by omega) (by omega)]
  have hb1 := hb.nt t 13 (nI (t + 1))
  obtain ⟨a0, a1, a2, a3, a4, a5, a6, a7, a8⟩ := bgA hb1
  have hd1 := hd.nt 13
  have hdd := hd1
  obtain ⟨q0, q1, q2, q3, q4⟩ := hdd
  have i0 : am_inb 0 7 = true := by decide
  have i1 : am_inb 1 7 = true := by decide
  have i2 : am_inb 2 7 = true := by decide
  have i3 : am_inb 3 7 = true := by decide
  have i4 : am_inb 4 7 = true := by decide
  have i5 : am_inb 5 7 = true := by decide
  have i6 : am_inb 6 7 = true := by decide
  simp only [s4_240, s4_241, s4_242, s4_243, s4_246, s4_247, s4_250, s4_251, s4_254, k_0 hS, k_1 hS, k_2 hS, l_2 hS, k_3 hS, l_3 hS, k_4 hS, l_4 hS, k_5 hS, l_5 hS, k_6 hS, l_6 hS, k_7 hS, k_8 hS, l_8 hS, k_9 hS, l_9 hS, k_10 hS, k_11 hS, l_11 hS, k_12 hS, k_13 hS, l_13 hS, k_14 hS, k_15 hS, l_15 hS, k_16 hS, k_17 hS, l_17 hS, k_66 hS, k_67 hS, l_67 hS, k_68 hS, l_68 hS, k_69 hS, l_69 hS, k_70 hS, l_70 hS, k_71 hS, l_71 hS, k_72 hS, k_73 hS, l_73 hS, k_74 hS, l_74 hS, k_75 hS, k_76 hS, l_76 hS, k_77 hS, k_78 hS, l_78 hS, k_79 hS, k_80 hS, l_80 hS, k_81 hS, k_82 hS, l_82 hS, k_131 hS, k_132 hS, l_132 hS, k_133 hS, l_133 hS, k_134 hS, l_134 hS, k_135 hS, k_136 hS, l_136 hS, k_137 hS, l_137 hS, k_138 hS, l_138 hS, k_139 hS, l_139 hS, k_140 hS, k_141 hS, l_141 hS, k_142 hS, l_142 hS, k_143 hS, k_144 hS, l_144 hS, k_145 hS, k_146 hS, l_146 hS, k_147 hS, l_147 hS, k_148 hS, l_148 hS, k_153 hS, l_153 hS, k_154 hS, l_154 hS, k_155 hS, l_155 hS, k_156 hS, k_157 hS, l_157 hS, k_158 hS, l_158 hS, k_159 hS, l_159 hS, r_0_0 hS, r_0_1 hS, r_0_3 hS, r_0_4 hS, r_0_5 hS, r_0_6 hS, r_0_7 hS, r_0_8 hS, r_0_9 hS, r_0_10 hS, r_1_2 hS, r_1_3 hS, r_1_4 hS, r_1_5 hS, r_1_7 hS, r_1_9 hS, r_1_10 hS, r_1_12 hS, r_1_13 hS, r_1_14 hS, r_1_15 hS, r_7_1 hS, r_10_2 hS, r_12_2 hS, r_14_2 hS, r_16_2 hS, r_66_2 hS, r_66_3 hS, r_66_4 hS, r_66_5 hS, r_66_7 hS, r_66_9 hS, r_66_10 hS, r_66_12 hS, r_66_13 hS, r_66_14 hS, r_66_15 hS, r_72_1 hS, r_75_2 hS, r_77_2 hS, r_79_2 hS, r_81_2 hS, r_131_0 hS, r_131_6 hS, r_131_8 hS, r_135_0 hS, r_135_1 hS, r_135_2 hS, r_135_3 hS, r_140_0 hS, r_140_1 hS, r_143_2 hS, r_145_0 hS, r_145_1 hS, r_145_2 hS, r_145_3 hS, r_145_4 hS, r_145_5 hS, r_156_5 hS, k_pv hS, k_pvr hS, k_db hS, k_dbr hS, k_sh hS, l_pvr hS, l_dbr hS, l_sh hS, r_5 hS, r_6 hS, r_pv hS, r_db hS, r_148 hS, ol_s, ol_n, ln_0, ln_1, ln_2, ln_3, ln_4, eq_self, rf_s, rf_n, i01_0, i01_n0, i01_b, b01_0, b01_1, and_self, and_true, true_and, and_false, false_and, if_true, if_false, not_true_eq_false, not_false_eq_true, e10, e00, lt_bg, Nat.reduceLT, Nat.reduceLeDiff, q0, q1, q2, q3, q4, a0, a1, a2, a3, a4, a5, a6, a7, a8, z0, z1, z2, z3, z4, z5, z6, i0, i1, i2, i3, i4, i5, i6, nI_1, c5 hS]
  rfl
theorem rT_1 (hS : Sh ρ τ) (hb : Bgd σ τ) (hd : DC σ k n h s t) (ht : t + 1 ≤ 30) (hp : dp + 1 ≤ 40) {x : Int32} : AW (d + 1) 4 0 [.ref 156, .int 1, .int 3, .int x, .int (nI dp), am_jk, am_jk, am_jk] [] σ ρ g τ Q = Q (some (.int (fT n h 1 x))) (f_pt n h (f_trC σ t (lT 1))) ρ g τ := by
  rw [en_1_3 hS hb hd.2.2.2.2 (by omega) (by omega)]
  have hb1 := hb.nt t 13 (nI (t + 1))
  obtain ⟨a0, a1, a2, a3, a4, a5, a6, a7, a8⟩ := bgA hb1
  have hd1 := hd.nt 13
  have hdd := hd1
  obtain ⟨q0, q1, q2, q3, q4⟩ := hdd
  have i0 : am_inb 0 7 = true := by decide
  have i1 : am_inb 1 7 = true := by decide
  have i2 : am_inb 2 7 = true := by decide
  have i3 : am_inb 3 7 = true := by decide
  have i4 : am_inb 4 7 = true := by decide
  have i5 : am_inb 5 7 = true := by decide
  have i6 : am_inb 6 7 = true := by decide
  simp only [s4_240, s4_241, s4_242, s4_243, s4_246, s4_247, s4_250, s4_251, s4_254, k_0 hS, k_1 hS, k_2 hS, l_2 hS, k_3 hS, l_3 hS, k_4 hS, l_4 hS, k_5 hS, l_5 hS, k_6 hS, l_6 hS, k_7 hS, k_8 hS, l_8 hS, k_9 hS, l_9 hS, k_10 hS, k_11 hS, l_11 hS, k_12 hS, k_13 hS, l_13 hS, k_14 hS, k_15 hS, l_15 hS, k_16 hS, k_17 hS, l_17 hS, k_66 hS, k_67 hS, l_67 hS, k_68 hS, l_68 hS, k_69 hS, l_69 hS, k_70 hS, l_70 hS, k_71 hS, l_71 hS, k_72 hS, k_73 hS, l_73 hS, k_74 hS, l_74 hS, k_75 hS, k_76 hS, l_76 hS, k_77 hS, k_78 hS, l_78 hS, k_79 hS, k_80 hS, l_80 hS, k_81 hS, k_82 hS, l_82 hS, k_131 hS, k_132 hS, l_132 hS, k_133 hS, l_133 hS, k_134 hS, l_134 hS, k_135 hS, k_136 hS, l_136 hS, k_137 hS, l_137 hS, k_138 hS, l_138 hS, k_139 hS, l_139 hS, k_140 hS, k_141 hS, l_141 hS, k_142 hS, l_142 hS, k_143 hS, k_144 hS, l_144 hS, k_145 hS, k_146 hS, l_146 hS, k_147 hS, l_147 hS, k_148 hS, l_148 hS, k_153 hS, l_153 hS, k_154 hS, l_154 hS, k_155 hS, l_155 hS, k_156 hS, k_157 hS, l_157 hS, k_158 hS, l_158 hS, k_159 hS, l_159 hS, r_0_0 hS, r_0_1 hS, r_0_3 hS, r_0_4 hS, r_0_5 hS, r_0_6 hS, r_0_7 hS, r_0_8 hS, r_0_9 hS, r_0_10 hS, r_1_2 hS, r_1_3 hS, r_1_4 hS, r_1_5 hS, r_1_7 hS, r_1_9 hS, r_1_10 hS, r_1_12 hS, r_1_13 hS, r_1_14 hS, r_1_15 hS, r_7_1 hS, r_10_2 hS, r_12_2 hS, r_14_2 hS, r_16_2 hS, r_66_2 hS, r_66_3 hS, r_66_4 hS, r_66_5 hS, r_66_7 hS, r_66_9 hS, r_66_10 hS, r_66_12 hS, r_66_13 hS, r_66_14 hS, r_66_15 hS, r_72_1 hS, r_75_2 hS, r_77_2 hS, r_79_2 hS, r_81_2 hS, r_131_0 hS, r_131_6 hS, r_131_8 hS, r_135_0 hS, r_135_1 hS, r_135_2 hS, r_135_3 hS, r_140_0 hS, r_140_1 hS, r_143_2 hS, r_145_0 hS, r_145_1 hS, r_145_2 hS, r_145_3 hS, r_145_4 hS, r_145_5 hS, r_156_5 hS, k_pv hS, k_pvr hS, k_db hS, k_dbr hS, k_sh hS, l_pvr hS, l_dbr hS, l_sh hS, r_5 hS, r_6 hS, r_pv hS, r_db hS, r_148 hS, ol_s, ol_n, ln_0, ln_1, ln_2, ln_3, ln_4, eq_self, rf_s, rf_n, i01_0, i01_n0, i01_b, b01_0, b01_1, and_self, and_true, true_and, and_false, false_and, if_true, if_false, not_true_eq_false, not_false_eq_true, e10, e00, lt_bg, Nat.reduceLT, Nat.reduceLeDiff, q0, q1, q2, q3, q4, a0, a1, a2, a3, a4, a5, a6, a7, a8, z0, z1, z2, z3, z4, z5, z6, i0, i1, i2, i3, i4, i5, i6, nI_1, c5 hS]
  rfl
theorem rT_2 (hS : Sh ρ τ) (hb : Bgd σ τ) (hd : DC σ k n h s t) (ht : t + 1 ≤ 30) (hp : dp + 1 ≤ 40) {x : Int32} : AW (d + 1) 4 0 [.ref 156, .int 2, .int 3, .int x, .int (nI dp), am_jk, am_jk, am_jk] [] σ ρ g τ Q = Q (some (.int (fT n h 2 x))) (f_pt n h (f_trC σ t (lT 2))) ρ g τ := by
  rw [en_2_3 hS hb hd.2.2.2.2 (by omega) (by omega)]
  have hb1 := hb.nt t 13 (nI (t + 1))
  obtain ⟨a0, a1, a2, a3, a4, a5, a6, a7, a8⟩ := bgA hb1
  have hd1 := hd.nt 13
  have hdd := hd1
  obtain ⟨q0, q1, q2, q3, q4⟩ := hdd
  have i0 : am_inb 0 7 = true := by decide
  have i1 : am_inb 1 7 = true := by decide
  have i2 : am_inb 2 7 = true := by decide
  have i3 : am_inb 3 7 = true := by decide
  have i4 : am_inb 4 7 = true := by decide
  have i5 : am_inb 5 7 = true := by decide
  have i6 : am_inb 6 7 = true := by decide
  simp only [s4_240, s4_241, s4_242, s4_243, s4_246, s4_247, s4_250, s4_251, s4_254, k_0 hS, k_1 hS, k_2 hS, l_2 hS, k_3 hS, l_3 hS, k_4 hS, l_4 hS, k_5 hS, l_5 hS, k_6 hS, l_6 hS, k_7 hS, k_8 hS, l_8 hS, k_9 hS, l_9 hS, k_10 hS, k_11 hS, l_11 hS, k_12 hS, k_13 hS, l_13 hS, k_14 hS, k_15 hS, l_15 hS, k_16 hS, k_17 hS, l_17 hS, k_66 hS, k_67 hS, l_67 hS, k_68 hS, l_68 hS, k_69 hS, l_69 hS, k_70 hS, l_70 hS, k_71 hS, l_71 hS, k_72 hS, k_73 hS, l_73 hS, k_74 hS, l_74 hS, k_75 hS, k_76 hS, l_76 hS, k_77 hS, k_78 hS, l_78 hS, k_79 hS, k_80 hS, l_80 hS, k_81 hS, k_82 hS, l_82 hS, k_131 hS, k_132 hS, l_132 hS, k_133 hS, l_133 hS, k_134 hS, l_134 hS, k_135 hS, k_136 hS, l_136 hS, k_137 hS, l_137 hS, k_138 hS, l_138 hS, k_139 hS, l_139 hS, k_140 hS, k_141 hS, l_141 hS, k_142 hS, l_142 hS, k_143 hS, k_144 hS, l_144 hS, k_145 hS, k_146 hS, l_146 hS, k_147 hS, l_147 hS, k_148 hS, l_148 hS, k_153 hS, l_153 hS, k_154 hS, l_154 hS, k_155 hS, l_155 hS, k_156 hS, k_157 hS, l_157 hS, k_158 hS, l_158 hS, k_159 hS, l_159 hS, r_0_0 hS, r_0_1 hS, r_0_3 hS, r_0_4 hS, r_0_5 hS, r_0_6 hS, r_0_7 hS, r_0_8 hS, r_0_9 hS, r_0_10 hS, r_1_2 hS, r_1_3 hS, r_1_4 hS, r_1_5 hS, r_1_7 hS, r_1_9 hS, r_1_10 hS, r_1_12 hS, r_1_13 hS, r_1_14 hS, r_1_15 hS, r_7_1 hS, r_10_2 hS, r_12_2 hS, r_14_2 hS, r_16_2 hS, r_66_2 hS, r_66_3 hS, r_66_4 hS, r_66_5 hS, r_66_7 hS, r_66_9 hS, r_66_10 hS, r_66_12 hS, r_66_13 hS, r_66_14 hS, r_66_15 hS, r_72_1 hS, r_75_2 hS, r_77_2 hS, r_79_2 hS, r_81_2 hS, r_131_0 hS, r_131_6 hS, r_131_8 hS, r_135_0 hS, r_135_1 hS, r_135_2 hS, r_135_3 hS, r_140_0 hS, r_140_1 hS, r_143_2 hS, r_145_0 hS, r_145_1 hS, r_145_2 hS, r_145_3 hS, r_145_4 hS, r_145_5 hS, r_156_5 hS, k_pv hS, k_pvr hS, k_db hS, k_dbr hS, k_sh hS, l_pvr hS, l_dbr hS, l_sh hS, r_5 hS, r_6 hS, r_pv hS, r_db hS, r_148 hS, ol_s, ol_n, ln_0, ln_1, ln_2, ln_3, ln_4, eq_self, rf_s, rf_n, i01_0, i01_n0, i01_b, b01_0, b01_1, and_self, and_true, true_and, and_false, false_and, if_true, if_false, not_true_eq_false, not_false_eq_true, e10, e00, lt_bg, Nat.reduceLT, Nat.reduceLeDiff, q0, q1, q2, q3, q4, a0, a1, a2, a3, a4, a5, a6, a7, a8, z0, z1, z2, z3, z4, z5, z6, i0, i1, i2, i3, i4, i5, i6, nI_1, c5 hS]
  rfl
theorem rT_3 (hS : Sh ρ τ) (hb : Bgd σ τ) (hd : DC σ k n h s t) (ht : t + 2 ≤ 30) (hp : dp + 2 ≤ 40) {x : Int32} : AW (d + 2) 4 0 [.ref 156, .int 3, .int 3, .int x, .int (nI dp), am_jk, am_jk, am_jk] [] σ ρ g τ Q = Q (some (.int (fT n h 3 x))) (f_pt n h (f_trC σ t (lT 3))) ρ g τ := by
  rw [en_3_3 hS hb hd.2.2.2.2 (by omega) (by omega)]
  have hb1 := hb.nt t 41 (nI (t + 1))
  obtain ⟨a0, a1, a2, a3, a4, a5, a6, a7, a8⟩ := bgA hb1
  have hd1 := hd.nt 41
  have hdd := hd1
  obtain ⟨q0, q1, q2, q3, q4⟩ := hdd
  have i0 : am_inb 0 7 = true := by decide
  have i1 : am_inb 1 7 = true := by decide
  have i2 : am_inb 2 7 = true := by decide
  have i3 : am_inb 3 7 = true := by decide
  have i4 : am_inb 4 7 = true := by decide
  have i5 : am_inb 5 7 = true := by decide
  have i6 : am_inb 6 7 = true := by decide
  simp only [s4_337, s4_338, s4_341, s4_343, s4_344, s4_345, s4_346, s4_347, s4_348, s4_350, s4_353, k_0 hS, k_1 hS, k_2 hS, l_2 hS, k_3 hS, l_3 hS, k_4 hS, l_4 hS, k_5 hS, l_5 hS, k_6 hS, l_6 hS, k_7 hS, k_8 hS, l_8 hS, k_9 hS, l_9 hS, k_10 hS, k_11 hS, l_11 hS, k_12 hS, k_13 hS, l_13 hS, k_14 hS, k_15 hS, l_15 hS, k_16 hS, k_17 hS, l_17 hS, k_66 hS, k_67 hS, l_67 hS, k_68 hS, l_68 hS, k_69 hS, l_69 hS, k_70 hS, l_70 hS, k_71 hS, l_71 hS, k_72 hS, k_73 hS, l_73 hS, k_74 hS, l_74 hS, k_75 hS, k_76 hS, l_76 hS, k_77 hS, k_78 hS, l_78 hS, k_79 hS, k_80 hS, l_80 hS, k_81 hS, k_82 hS, l_82 hS, k_131 hS, k_132 hS, l_132 hS, k_133 hS, l_133 hS, k_134 hS, l_134 hS, k_135 hS, k_136 hS, l_136 hS, k_137 hS, l_137 hS, k_138 hS, l_138 hS, k_139 hS, l_139 hS, k_140 hS, k_141 hS, l_141 hS, k_142 hS, l_142 hS, k_143 hS, k_144 hS, l_144 hS, k_145 hS, k_146 hS, l_146 hS, k_147 hS, l_147 hS, k_148 hS, l_148 hS, k_153 hS, l_153 hS, k_154 hS, l_154 hS, k_155 hS, l_155 hS, k_156 hS, k_157 hS, l_157 hS, k_158 hS, l_158 hS, k_159 hS, l_159 hS, r_0_0 hS, r_0_1 hS, r_0_3 hS, r_0_4 hS, r_0_5 hS, r_0_6 hS, r_0_7 hS, r_0_8 hS, r_0_9 hS, r_0_10 hS, r_1_2 hS, r_1_3 hS, r_1_4 hS, r_1_5 hS, r_1_7 hS, r_1_9 hS, r_1_10 hS, r_1_12 hS, r_1_13 hS, r_1_14 hS, r_1_15 hS, r_7_1 hS, r_10_2 hS, r_12_2 hS, r_14_2 hS, r_16_2 hS, r_66_2 hS, r_66_3 hS, r_66_4 hS, r_66_5 hS, r_66_7 hS, r_66_9 hS, r_66_10 hS, r_66_12 hS, r_66_13 hS, r_66_14 hS, r_66_15 hS, r_72_1 hS, r_75_2 hS, r_77_2 hS, r_79_2 hS, r_81_2 hS, r_131_0 hS, r_131_6 hS, r_131_8 hS, r_135_0 hS, r_135_1 hS, r_135_2 hS, r_135_3 hS, r_140_0 hS, r_140_1 hS, r_143_2 hS, r_145_0 hS, r_145_1 hS, r_145_2 hS, r_145_3 hS, r_145_4 hS, r_145_5 hS, r_156_5 hS, k_pv hS, k_pvr hS, k_db hS, k_dbr hS, k_sh hS, l_pvr hS, l_dbr hS, l_sh hS, r_5 hS, r_6 hS, r_pv hS, r_db hS, r_148 hS, ol_s, ol_n, ln_0, ln_1, ln_2, ln_3, ln_4, eq_self, rf_s, rf_n, i01_0, i01_n0, i01_b, b01_0, b01_1, and_self, and_true, true_and, and_false, false_and, if_true, if_false, not_true_eq_false, not_false_eq_true, e10, e00, lt_bg, Nat.reduceLT, Nat.reduceLeDiff, q0, q1, q2, q3, q4, a0, a1, a2, a3, a4, a5, a6, a7, a8, z0, z1, z2, z3, z4, z5, z6, i0, i1, i2, i3, i4, i5, i6, nI_1, rT_2 (dp := dp + 1) hS hb1 hd1 (by omega) (by omega)]
  rfl
theorem rT_4 (hS : Sh ρ τ) (hb : Bgd σ τ) (hd : DC σ k n h s t) (ht : t + 1 ≤ 30) (hp : dp + 1 ≤ 40) {x : Int32} : AW (d + 1) 4 0 [.ref 156, .int 4, .int 3, .int x, .int (nI dp), am_jk, am_jk, am_jk] [] σ ρ g τ Q = Q (some (.int (fT n h 4 x))) (f_pt n h (f_trC σ t (lT 4))) ρ g τ := by
  rw [en_4_3 hS hb hd.2.2.2.2 (by omega) (by omega)]
  have hb1 := hb.nt t 13 (nI (t + 1))
  obtain ⟨a0, a1, a2, a3, a4, a5, a6, a7, a8⟩ := bgA hb1
  have hd1 := hd.nt 13
  have hdd := hd1
  obtain ⟨q0, q1, q2, q3, q4⟩ := hdd
  have i0 : am_inb 0 7 = true := by decide
  have i1 : am_inb 1 7 = true := by decide
  have i2 : am_inb 2 7 = true := by decide
  have i3 : am_inb 3 7 = true := by decide
  have i4 : am_inb 4 7 = true := by decide
  have i5 : am_inb 5 7 = true := by decide
  have i6 : am_inb 6 7 = true := by decide
  simp only [s4_240, s4_241, s4_242, s4_243, s4_246, s4_247, s4_250, s4_251, s4_254, k_0 hS, k_1 hS, k_2 hS, l_2 hS, k_3 hS, l_3 hS, k_4 hS, l_4 hS, k_5 hS, l_5 hS, k_6 hS, l_6 hS, k_7 hS, k_8 hS, l_8 hS, k_9 hS, l_9 hS, k_10 hS, k_11 hS, l_11 hS, k_12 hS, k_13 hS, l_13 hS, k_14 hS, k_15 hS, l_15 hS, k_16 hS, k_17 hS, l_17 hS, k_66 hS, k_67 hS, l_67 hS, k_68 hS, l_68 hS, k_69 hS, l_69 hS, k_70 hS, l_70 hS, k_71 hS, l_71 hS, k_72 hS, k_73 hS, l_73 hS, k_74 hS, l_74 hS, k_75 hS, k_76 hS, l_76 hS, k_77 hS, k_78 hS, l_78 hS, k_79 hS, k_80 hS, l_80 hS, k_81 hS, k_82 hS, l_82 hS, k_131 hS, k_132 hS, l_132 hS, k_133 hS, l_133 hS, k_134 hS, l_134 hS, k_135 hS, k_136 hS, l_136 hS, k_137 hS, l_137 hS, k_138 hS, l_138 hS, k_139 hS, l_139 hS, k_140 hS, k_141 hS, l_141 hS, k_142 hS, l_142 hS, k_143 hS, k_144 hS, l_144 hS, k_145 hS, k_146 hS, l_146 hS, k_147 hS, l_147 hS, k_148 hS, l_148 hS, k_153 hS, l_153 hS, k_154 hS, l_154 hS, k_155 hS, l_155 hS, k_156 hS, k_157 hS, l_157 hS, k_158 hS, l_158 hS, k_159 hS, l_159 hS, r_0_0 hS, r_0_1 hS, r_0_3 hS, r_0_4 hS, r_0_5 hS, r_0_6 hS, r_0_7 hS, r_0_8 hS, r_0_9 hS, r_0_10 hS, r_1_2 hS, r_1_3 hS, r_1_4 hS, r_1_5 hS, r_1_7 hS, r_1_9 hS, r_1_10 hS, r_1_12 hS, r_1_13 hS, r_1_14 hS, r_1_15 hS, r_7_1 hS, r_10_2 hS, r_12_2 hS, r_14_2 hS, r_16_2 hS, r_66_2 hS, r_66_3 hS, r_66_4 hS, r_66_5 hS, r_66_7 hS, r_66_9 hS, r_66_10 hS, r_66_12 hS, r_66_13 hS, r_66_14 hS, r_66_15 hS, r_72_1 hS, r_75_2 hS, r_77_2 hS, r_79_2 hS, r_81_2 hS, r_131_0 hS, r_131_6 hS, r_131_8 hS, r_135_0 hS, r_135_1 hS, r_135_2 hS, r_135_3 hS, r_140_0 hS, r_140_1 hS, r_143_2 hS, r_145_0 hS, r_145_1 hS, r_145_2 hS, r_145_3 hS, r_145_4 hS, r_145_5 hS, r_156_5 hS, k_pv hS, k_pvr hS, k_db hS, k_dbr hS, k_sh hS, l_pvr hS, l_dbr hS, l_sh hS, r_5 hS, r_6 hS, r_pv hS, r_db hS, r_148 hS, ol_s, ol_n, ln_0, ln_1, ln_2, ln_3, ln_4, eq_self, rf_s, rf_n, i01_0, i01_n0, i01_b, b01_0, b01_1, and_self, and_true, true_and, and_false, false_and, if_true, if_false, not_true_eq_false, not_false_eq_true, e10, e00, lt_bg, Nat.reduceLT, Nat.reduceLeDiff, q0, q1, q2, q3, q4, a0, a1, a2, a3, a4, a5, a6, a7, a8, z0, z1, z2, z3, z4, z5, z6, i0, i1, i2, i3, i4, i5, i6, nI_1, c5 hS]
  rfl
theorem rT_5 (hS : Sh ρ τ) (hb : Bgd σ τ) (hd : DC σ k n h s t) (ht : t + 2 ≤ 30) (hp : dp + 2 ≤ 40) {x : Int32} : AW (d + 2) 4 0 [.ref 156, .int 5, .int 3, .int x, .int (nI dp), am_jk, am_jk, am_jk] [] σ ρ g τ Q = Q (some (.int (fT n h 5 x))) (f_pt n h (f_trC σ t (lT 5))) ρ g τ := by
  rw [en_5_3 hS hb hd.2.2.2.2 (by omega) (by omega)]
  have hb1 := hb.nt t 61 (nI (t + 1))
  obtain ⟨a0, a1, a2, a3, a4, a5, a6, a7, a8⟩ := bgA hb1
  have hd1 := hd.nt 61
  have hdd := hd1
  obtain ⟨q0, q1, q2, q3, q4⟩ := hdd
  have p1 : f_pt n h (f_trC (am_u (am_u σ 157 t 61) 156 6 (nI (t + 1))) (t + 1) (lT 1)) 156 1 = n := by
    have hd2 := (hd1.tr (lT 1)).2.1
    unfold f_pt
    split
    · rw [u_nk _ _ _ _ (by decide)]; exact hd2
    · exact hd2
  have i0 : am_inb 0 7 = true := by decide
  have i1 : am_inb 1 7 = true := by decide
  have i2 : am_inb 2 7 = true := by decide
  have i3 : am_inb 3 7 = true := by decide
  have i4 : am_inb 4 7 = true := by decide
  have i5 : am_inb 5 7 = true := by decide
  have i6 : am_inb 6 7 = true := by decide
  simp only [s4_391, s4_392, s4_395, s4_397, s4_398, s4_399, s4_400, s4_402, s4_405, s4_406, s4_409, s4_410, k_0 hS, k_1 hS, k_2 hS, l_2 hS, k_3 hS, l_3 hS, k_4 hS, l_4 hS, k_5 hS, l_5 hS, k_6 hS, l_6 hS, k_7 hS, k_8 hS, l_8 hS, k_9 hS, l_9 hS, k_10 hS, k_11 hS, l_11 hS, k_12 hS, k_13 hS, l_13 hS, k_14 hS, k_15 hS, l_15 hS, k_16 hS, k_17 hS, l_17 hS, k_66 hS, k_67 hS, l_67 hS, k_68 hS, l_68 hS, k_69 hS, l_69 hS, k_70 hS, l_70 hS, k_71 hS, l_71 hS, k_72 hS, k_73 hS, l_73 hS, k_74 hS, l_74 hS, k_75 hS, k_76 hS, l_76 hS, k_77 hS, k_78 hS, l_78 hS, k_79 hS, k_80 hS, l_80 hS, k_81 hS, k_82 hS, l_82 hS, k_131 hS, k_132 hS, l_132 hS, k_133 hS, l_133 hS, k_134 hS, l_134 hS, k_135 hS, k_136 hS, l_136 hS, k_137 hS, l_137 hS, k_138 hS, l_138 hS, k_139 hS, l_139 hS, k_140 hS, k_141 hS, l_141 hS, k_142 hS, l_142 hS, k_143 hS, k_144 hS, l_144 hS, k_145 hS, k_146 hS, l_146 hS, k_147 hS, l_147 hS, k_148 hS, l_148 hS, k_153 hS, l_153 hS, k_154 hS, l_154 hS, k_155 hS, l_155 hS, k_156 hS, k_157 hS, l_157 hS, k_158 hS, l_158 hS, k_159 hS, l_159 hS, r_0_0 hS, r_0_1 hS, r_0_3 hS, r_0_4 hS, r_0_5 hS, r_0_6 hS, r_0_7 hS, r_0_8 hS, r_0_9 hS, r_0_10 hS, r_1_2 hS, r_1_3 hS, r_1_4 hS, r_1_5 hS, r_1_7 hS, r_1_9 hS, r_1_10 hS, r_1_12 hS, r_1_13 hS, r_1_14 hS, r_1_15 hS, r_7_1 hS, r_10_2 hS, r_12_2 hS, r_14_2 hS, r_16_2 hS, r_66_2 hS, r_66_3 hS, r_66_4 hS, r_66_5 hS, r_66_7 hS, r_66_9 hS, r_66_10 hS, r_66_12 hS, r_66_13 hS, r_66_14 hS, r_66_15 hS, r_72_1 hS, r_75_2 hS, r_77_2 hS, r_79_2 hS, r_81_2 hS, r_131_0 hS, r_131_6 hS, r_131_8 hS, r_135_0 hS, r_135_1 hS, r_135_2 hS, r_135_3 hS, r_140_0 hS, r_140_1 hS, r_143_2 hS, r_145_0 hS, r_145_1 hS, r_145_2 hS, r_145_3 hS, r_145_4 hS, r_145_5 hS, r_156_5 hS, k_pv hS, k_pvr hS, k_db hS, k_dbr hS, k_sh hS, l_pvr hS, l_dbr hS, l_sh hS, r_5 hS, r_6 hS, r_pv hS, r_db hS, r_148 hS, ol_s, ol_n, ln_0, ln_1, ln_2, ln_3, ln_4, eq_self, rf_s, rf_n, i01_0, i01_n0, i01_b, b01_0, b01_1, and_self, and_true, true_and, and_false, false_and, if_true, if_false, not_true_eq_false, not_false_eq_true, e10, e00, lt_bg, Nat.reduceLT, Nat.reduceLeDiff, q0, q1, q2, q3, q4, a0, a1, a2, a3, a4, a5, a6, a7, a8, z0, z1, z2, z3, z4, z5, z6, p1, i0, i1, i2, i3, i4, i5, i6, nI_1, rT_1 (dp := dp + 1) hS hb1 hd1 (by omega) (by omega)]
  rfl
theorem rT_6 (hS : Sh ρ τ) (hb : Bgd σ τ) (hd : DC σ k n h s t) (ht : t + 1 ≤ 30) (hp : dp + 1 ≤ 40) {x : Int32} : AW (d + 1) 4 0 [.ref 156, .int 6, .int 3, .int x, .int (nI dp), am_jk, am_jk, am_jk] [] σ ρ g τ Q = Q (some (.int (fT n h 6 x))) (f_pt n h (f_trC σ t (lT 6))) ρ g τ := by
  rw [en_6_3 hS hb hd.2.2.2.2 (by omega) (by omega)]
  have hb1 := hb.nt t 13 (nI (t + 1))
  obtain ⟨a0, a1, a2, a3, a4, a5, a6, a7, a8⟩ := bgA hb1
  have hd1 := hd.nt 13
  have hdd := hd1
  obtain ⟨q0, q1, q2, q3, q4⟩ := hdd
  have i0 : am_inb 0 7 = true := by decide
  have i1 : am_inb 1 7 = true := by decide
  have i2 : am_inb 2 7 = true := by decide
  have i3 : am_inb 3 7 = true := by decide
  have i4 : am_inb 4 7 = true := by decide
  have i5 : am_inb 5 7 = true := by decide
  have i6 : am_inb 6 7 = true := by decide
  simp only [s4_240, s4_241, s4_242, s4_243, s4_246, s4_247, s4_250, s4_251, s4_254, k_0 hS, k_1 hS, k_2 hS, l_2 hS, k_3 hS, l_3 hS, k_4 hS, l_4 hS, k_5 hS, l_5 hS, k_6 hS, l_6 hS, k_7 hS, k_8 hS, l_8 hS, k_9 hS, l_9 hS, k_10 hS, k_11 hS, l_11 hS, k_12 hS, k_13 hS, l_13 hS, k_14 hS, k_15 hS, l_15 hS, k_16 hS, k_17 hS, l_17 hS, k_66 hS, k_67 hS, l_67 hS, k_68 hS, l_68 hS, k_69 hS, l_69 hS, k_70 hS, l_70 hS, k_71 hS, l_71 hS, k_72 hS, k_73 hS, l_73 hS, k_74 hS, l_74 hS, k_75 hS, k_76 hS, l_76 hS, k_77 hS, k_78 hS, l_78 hS, k_79 hS, k_80 hS, l_80 hS, k_81 hS, k_82 hS, l_82 hS, k_131 hS, k_132 hS, l_132 hS, k_133 hS, l_133 hS, k_134 hS, l_134 hS, k_135 hS, k_136 hS, l_136 hS, k_137 hS, l_137 hS, k_138 hS, l_138 hS, k_139 hS, l_139 hS, k_140 hS, k_141 hS, l_141 hS, k_142 hS, l_142 hS, k_143 hS, k_144 hS, l_144 hS, k_145 hS, k_146 hS, l_146 hS, k_147 hS, l_147 hS, k_148 hS, l_148 hS, k_153 hS, l_153 hS, k_154 hS, l_154 hS, k_155 hS, l_155 hS, k_156 hS, k_157 hS, l_157 hS, k_158 hS, l_158 hS, k_159 hS, l_159 hS, r_0_0 hS, r_0_1 hS, r_0_3 hS, r_0_4 hS, r_0_5 hS, r_0_6 hS, r_0_7 hS, r_0_8 hS, r_0_9 hS, r_0_10 hS, r_1_2 hS, r_1_3 hS, r_1_4 hS, r_1_5 hS, r_1_7 hS, r_1_9 hS, r_1_10 hS, r_1_12 hS, r_1_13 hS, r_1_14 hS, r_1_15 hS, r_7_1 hS, r_10_2 hS, r_12_2 hS, r_14_2 hS, r_16_2 hS, r_66_2 hS, r_66_3 hS, r_66_4 hS, r_66_5 hS, r_66_7 hS, r_66_9 hS, r_66_10 hS, r_66_12 hS, r_66_13 hS, r_66_14 hS, r_66_15 hS, r_72_1 hS, r_75_2 hS, r_77_2 hS, r_79_2 hS, r_81_2 hS, r_131_0 hS, r_131_6 hS, r_131_8 hS, r_135_0 hS, r_135_1 hS, r_135_2 hS, r_135_3 hS, r_140_0 hS, r_140_1 hS, r_143_2 hS, r_145_0 hS, r_145_1 hS, r_145_2 hS, r_145_3 hS, r_145_4 hS, r_145_5 hS, r_156_5 hS, k_pv hS, k_pvr hS, k_db hS, k_dbr hS, k_sh hS, l_pvr hS, l_dbr hS, l_sh hS, r_5 hS, r_6 hS, r_pv hS, r_db hS, r_148 hS, ol_s, ol_n, ln_0, ln_1, ln_2, ln_3, ln_4, eq_self, rf_s, rf_n, i01_0, i01_n0, i01_b, b01_0, b01_1, and_self, and_true, true_and, and_false, false_and, if_true, if_false, not_true_eq_false, not_false_eq_true, e10, e00, lt_bg, Nat.reduceLT, Nat.reduceLeDiff, q0, q1, q2, q3, q4, a0, a1, a2, a3, a4, a5, a6, a7, a8, z0, z1, z2, z3, z4, z5, z6, i0, i1, i2, i3, i4, i5, i6, nI_1, c5 hS]
  rfl
theorem rT_g (hS : Sh ρ τ) (hb : Bgd σ τ) (hd : DC σ k n h s t) {f : Nat} (hf : f ≤ 6) (ht : t + 2 ≤ 30) (hp : dp + 2 ≤ 40) {x : Int32} : AW (d + 2) 4 0 [.ref 156, .int (nI f), .int 3, .int x, .int (nI dp), am_jk, am_jk, am_jk] [] σ ρ g τ Q = Q (some (.int (fT n h f x))) (f_pt n h (f_trC σ t (lT f))) ρ g τ := by
  have hff : f = 0 ∨ f = 1 ∨ f = 2 ∨ f = 3 ∨ f = 4 ∨ f = 5 ∨ f = 6 := by omega
  rcases hff with rfl | rfl | rfl | rfl | rfl | rfl | rfl
  · exact rT_0 (d := d + 1) hS hb hd  (by omega) (by omega)
  · exact rT_1 (d := d + 1) hS hb hd  (by omega) (by omega)
  · exact rT_2 (d := d + 1) hS hb hd  (by omega) (by omega)
  · exact rT_3 (d := d + 0) hS hb hd  (by omega) (by omega)
  · exact rT_4 (d := d + 1) hS hb hd  (by omega) (by omega)
  · exact rT_5 (d := d + 0) hS hb hd  (by omega) (by omega)
  · exact rT_6 (d := d + 1) hS hb hd  (by omega) (by omega)
end OAG