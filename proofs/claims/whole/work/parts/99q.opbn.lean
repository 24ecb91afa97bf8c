/-! a month: prices -/
section OBN
variable {d : Nat} {σ : am_I} {ρ : am_R} {g : am_J} {τ : am_T} {Q : am_Q}
/-- seven prices move on by a month -/
def f_sh (σ : am_I) (a b : Nat) : am_I := am_u (am_u (am_u (am_u (am_u (am_u σ a (b + 6) (σ a (b + 5))) a (b + 5) (σ a (b + 4))) a (b + 4) (σ a (b + 3))) a (b + 3) (σ a (b + 2))) a (b + 2) (σ a (b + 1))) a (b + 1) (σ a (b + 0))
theorem sh_ne {a b y : Nat} (h : y ≠ a) : f_sh σ a b y = σ y := by
  unfold f_sh
  rw [u_ne _ _ _ _ h, u_ne _ _ _ _ h, u_ne _ _ _ _ h, u_ne _ _ _ _ h, u_ne _ _ _ _ h, u_ne _ _ _ _ h]
theorem sh_0 {a b : Nat} : f_sh σ a b a b = σ a b := by
  unfold f_sh
  simp (disch := omega) only [Nat.reduceAdd, Nat.add_zero, u_ne, ur_ne, u_at, u_nk, ur_at]
theorem sh_k {a b k : Nat} (h : k < 6) : f_sh σ a b a (b + (k + 1)) = σ a (b + k) := by
  unfold f_sh
  have hk : k = 0 ∨ k = 1 ∨ k = 2 ∨ k = 3 ∨ k = 4 ∨ k = 5 := by omega
  rcases hk with rfl | rfl | rfl | rfl | rfl | rfl <;> simp (disch := omega) only [Nat.reduceAdd, Nat.add_zero, u_ne, ur_ne, u_at, u_nk, ur_at]
theorem sh_out {a b k : Nat} (h : k < b ∨ b + 6 < k) : f_sh σ a b a k = σ a k := by
  unfold f_sh
  simp (disch := omega) only [Nat.reduceAdd, Nat.add_zero, u_ne, ur_ne, u_at, u_nk, ur_at]
/-- what a price becomes -/
def f_np (o p : Int32) : Int32 := if o = 0 then (if p + 2 < 100 then p + 2 else 100) else (if 0 < p - 5 then p - 5 else 0)
def f_npM (o p : Int32) : Int32 := if 0 < (if (if o = 0 then p + 2 else p - 5) < 100 then (if o = 0 then p + 2 else p - 5) else 100) then (if (if o = 0 then p + 2 else p - 5) < 100 then (if o = 0 then p + 2 else p - 5) else 100) else 0
theorem np_eq {o : Int32} {p : Nat} (hp : p ≤ 100) : f_np o (nI p) = f_npM o (nI p) ∧ ∃ q, q ≤ 100 ∧ f_np o (nI p) = nI q := by
  unfold f_np f_npM
  by_cases h : o = 0
  · simp only [if_pos h]
    have q : ∀ p, p ≤ 100 → ((if nI p + 2 < 100 then nI p + 2 else (100 : Int32)) = (if 0 < (if nI p + 2 < 100 then nI p + 2 else (100 : Int32)) then (if nI p + 2 < 100 then nI p + 2 else 100) else 0)) ∧ ∃ q, q < 101 ∧ (if nI p + 2 < 100 then nI p + 2 else (100 : Int32)) = nI q := by decide +kernel
    obtain ⟨a, r, b, e⟩ := q p hp
    exact ⟨a, r, by omega, e⟩
  · simp only [if_neg h]
    have q : ∀ p, p ≤ 100 → ((if 0 < nI p - 5 then nI p - 5 else (0 : Int32)) = (if 0 < (if nI p - 5 < 100 then nI p - 5 else (100 : Int32)) then (if nI p - 5 < 100 then nI p - 5 else 100) else 0)) ∧ ∃ q, q < 101 ∧ (if 0 < nI p - 5 then nI p - 5 else (0 : Int32)) = nI q := by decide +kernel
    obtain ⟨a, r, b, e⟩ := q p hp
    exact ⟨a, r, by omega, e⟩
/-- Debt.movePrice -/
def f_mpC (σ : am_I) (i : Nat) : am_I := if σ (34 + 2 * i) 8 = 0 then am_u (f_sh σ (35 + 2 * i) 0) (35 + 2 * i) 0 (f_np (σ (34 + 2 * i) 6) (σ (35 + 2 * i) 0)) else f_sh σ (35 + 2 * i) 0
theorem c12 (hS : Sh ρ τ) {i : Nat} (hi : i < 16) : AW d 12 0 [.ref (34 + 2 * i), am_jk] [] σ ρ g τ Q = Q none (f_mpC σ i) ρ g τ := by
  have i0 : am_inb 0 7 = true := by decide
  have i1 : am_inb 1 7 = true := by decide
  have i2 : am_inb 2 7 = true := by decide
  have i3 : am_inb 3 7 = true := by decide
  have i4 : am_inb 4 7 = true := by decide
  have i5 : am_inb 5 7 = true := by decide
  have i6 : am_inb 6 7 = true := by decide
  have hbg : 35 + 2 * i < 1000000 := by omega
  have L : AW d 12 0 [.ref (34 + 2 * i), am_jk] [] σ ρ g τ Q = AW d 12 27 [.ref (34 + 2 * i), .int 0] [] (f_sh σ (35 + 2 * i) 0) ρ g τ Q := by
    unfold f_sh
    simp (decide := true) only [s12_0, s12_2r, s12_3, s12_4, s12_7, s12_8, s12_11, s12_12, s12_13, s12_16, s12_17, s12_18, s12_19, s12_20, s12_21r, s12_24, k_0 hS, k_1 hS, k_2 hS, l_2 hS, k_3 hS, l_3 hS, k_4 hS, l_4 hS, k_5 hS, l_5 hS, k_6 hS, l_6 hS, k_7 hS, k_8 hS, l_8 hS, k_9 hS, l_9 hS, k_10 hS, k_11 hS, l_11 hS, k_12 hS, k_13 hS, l_13 hS, k_14 hS, k_15 hS, l_15 hS, k_16 hS, k_17 hS, l_17 hS, k_66 hS, k_67 hS, l_67 hS, k_68 hS, l_68 hS, k_69 hS, l_69 hS, k_70 hS, l_70 hS, k_71 hS, l_71 hS, k_72 hS, k_73 hS, l_73 hS, k_74 hS, l_74 hS, k_75 hS, k_76 hS, l_76 hS, k_77 hS, k_78 hS, l_78 hS, k_79 hS, k_80 hS, l_80 hS, k_81 hS, k_82 hS, l_82 hS, k_131 hS, k_132 hS, l_132 hS, k_133 hS, l_133 hS, k_134 hS, l_134 hS, k_135 hS, k_136 hS, l_136 hS, k_137 hS, l_137 hS, k_138 hS, l_138 hS, k_139 hS, l_139 hS, k_140 hS, k_141 hS, l_141 hS, k_142 hS, l_142 hS, k_143 hS, k_144 hS, l_144 hS, k_145 hS, k_146 hS, l_146 hS, k_147 hS, l_147 hS, k_148 hS, l_148 hS, k_153 hS, l_153 hS, k_154 hS, l_154 hS, k_155 hS, l_155 hS, k_156 hS, k_157 hS, l_157 hS, k_158 hS, l_158 hS, k_159 hS, l_159 hS, r_0_0 hS, r_0_1 hS, r_0_3 hS, r_0_4 hS, r_0_5 hS, r_0_6 hS, r_0_7 hS, r_0_8 hS, r_0_9 hS, r_0_10 hS, r_1_2 hS, r_1_3 hS, r_1_4 hS, r_1_5 hS, r_1_7 hS, r_1_9 hS, r_1_10 hS, r_1_12 hS, r_1_13 hS, r_1_14 hS, r_1_15 hS, r_7_1 hS, r_10_2 hS, r_12_2 hS, r_14_2 hS, r_16_2 hS, r_66_2 hS, r_66_3 hS, r_66_4 hS, r_66_5 hS, r_66_7 hS, r_66_9 hS, r_66_10 hS, r_66_12 hS, r_66_13 hS, r_66_14 hS, r_66_15 hS, r_72_1 hS, r_75_2 hS, r_77_2 hS, r_79_2 hS, r_81_2 hS, r_131_0 hS, r_131_6 hS, r_131_8 hS, r_135_0 hS, r_135_1 hS, r_135_2 hS, r_135_3 hS, r_140_0 hS, r_140_1 hS, r_143_2 hS, r_145_0 hS, r_145_1 hS, r_145_2 hS, r_145_3 hS, r_145_4 hS, r_145_5 hS, r_156_5 hS, k_pv hS, k_pvr hS, k_db hS, k_dbr hS, k_sh hS, l_pvr hS, l_dbr hS, l_sh hS, r_5 hS, r_6 hS, r_pv hS, r_db hS, r_148 hS, ol_s, ol_n, ln_0, ln_1, ln_2, ln_3, ln_4, eq_self, rf_s, rf_n, i01_0, i01_n0, i01_b, b01_0, b01_1, and_self, and_true, true_and, and_false, false_and, if_true, if_false, not_true_eq_false, not_false_eq_true, e10, e00, lt_bg, Nat.reduceLT, Nat.reduceLeDiff, hi, hbg, i0, i1, i2, i3, i4, i5, i6, z0, z1, z2, z3, z4, z5, z6, Int32.reduceSub, Int32.reduceAdd, u_nk, Nat.zero_add]
  rw [L]
  have e8 : f_sh σ (35 + 2 * i) 0 (34 + 2 * i) 8 = σ (34 + 2 * i) 8 := by rw [sh_ne (by omega)]
  have e6 : f_sh σ (35 + 2 * i) 0 (34 + 2 * i) 6 = σ (34 + 2 * i) 6 := by rw [sh_ne (by omega)]
  have e0 : f_sh σ (35 + 2 * i) 0 (35 + 2 * i) 0 = σ (35 + 2 * i) 0 := sh_0
  unfold f_mpC f_np
  by_cases q : σ (34 + 2 * i) 8 = 0
  · rw [if_pos q]
    by_cases o : σ (34 + 2 * i) 6 = 0
    · simp only [s12_27, s12_28, s12_31, s12_34, s12_35, s12_38, s12_39, s12_40, s12_43, s12_46, s12_48, s12_49, s12_52, s12_53, s12_54, s12_55, s12_56, s12_59, s12_62, s12_63, s12_64, s12_67, s12_68, s12_69, s12_70, s12_71, s12_74, s12_75, k_0 hS, k_1 hS, k_2 hS, l_2 hS, k_3 hS, l_3 hS, k_4 hS, l_4 hS, k_5 hS, l_5 hS, k_6 hS, l_6 hS, k_7 hS, k_8 hS, l_8 hS, k_9 hS, l_9 hS, k_10 hS, k_11 hS, l_11 hS, k_12 hS, k_13 hS, l_13 hS, k_14 hS, k_15 hS, l_15 hS, k_16 hS, k_17 hS, l_17 hS, k_66 hS, k_67 hS, l_67 hS, k_68 hS, l_68 hS, k_69 hS, l_69 hS, k_70 hS, l_70 hS, k_71 hS, l_71 hS, k_72 hS, k_73 hS, l_73 hS, k_74 hS, l_74 hS, k_75 hS, k_76 hS, l_76 hS, k_77 hS, k_78 hS, l_78 hS, k_79 hS, k_80 hS, l_80 hS, k_81 hS, k_82 hS, l_82 hS, k_131 hS, k_132 hS, l_132 hS, k_133 hS, l_133 hS, k_134 hS, l_134 hS, k_135 hS, k_136 hS, l_136 hS, k_137 hS, l_137 hS, k_138 hS, l_138 hS, k_139 hS, l_139 hS, k_140 hS, k_141 hS, l_141 hS, k_142 hS, l_142 hS, k_143 hS, k_144 hS, l_144 hS, k_145 hS, k_146 hS, l_146 hS, k_147 hS, l_147 hS, k_148 hS, l_148 hS, k_153 hS, l_153 hS, k_154 hS, l_154 hS, k_155 hS, l_155 hS, k_156 hS, k_157 hS, l_157 hS, k_158 hS, l_158 hS, k_159 hS, l_159 hS, r_0_0 hS, r_0_1 hS, r_0_3 hS, r_0_4 hS, r_0_5 hS, r_0_6 hS, r_0_7 hS, r_0_8 hS, r_0_9 hS, r_0_10 hS, r_1_2 hS, r_1_3 hS, r_1_4 hS, r_1_5 hS, r_1_7 hS, r_1_9 hS, r_1_10 hS, r_1_12 hS, r_1_13 hS, r_1_14 hS, r_1_15 hS, r_7_1 hS, r_10_2 hS, r_12_2 hS, r_14_2 hS, r_16_2 hS, r_66_2 hS, r_66_3 hS, r_66_4 hS, r_66_5 hS, r_66_7 hS, r_66_9 hS, r_66_10 hS, r_66_12 hS, r_66_13 hS, r_66_14 hS, r_66_15 hS, r_72_1 hS, r_75_2 hS, r_77_2 hS, r_79_2 hS, r_81_2 hS, r_131_0 hS, r_131_6 hS, r_131_8 hS, r_135_0 hS, r_135_1 hS, r_135_2 hS, r_135_3 hS, r_140_0 hS, r_140_1 hS, r_143_2 hS, r_145_0 hS, r_145_1 hS, r_145_2 hS, r_145_3 hS, r_145_4 hS, r_145_5 hS, r_156_5 hS, k_pv hS, k_pvr hS, k_db hS, k_dbr hS, k_sh hS, l_pvr hS, l_dbr hS, l_sh hS, r_5 hS, r_6 hS, r_pv hS, r_db hS, r_148 hS, ol_s, ol_n, ln_0, ln_1, ln_2, ln_3, ln_4, eq_self, rf_s, rf_n, i01_0, i01_n0, i01_b, b01_0, b01_1, and_self, and_true, true_and, and_false, false_and, if_true, if_false, not_true_eq_false, not_false_eq_true, e10, e00, lt_bg, Nat.reduceLT, Nat.reduceLeDiff, hi, hbg, e8, e6, e0, q, o, i0, z0]
    · simp only [s12_27, s12_28, s12_31, s12_34, s12_35, s12_38, s12_39, s12_40, s12_43, s12_46, s12_48, s12_49, s12_52, s12_53, s12_54, s12_55, s12_56, s12_59, s12_62, s12_63, s12_64, s12_67, s12_68, s12_69, s12_70, s12_71, s12_74, s12_75, k_0 hS, k_1 hS, k_2 hS, l_2 hS, k_3 hS, l_3 hS, k_4 hS, l_4 hS, k_5 hS, l_5 hS, k_6 hS, l_6 hS, k_7 hS, k_8 hS, l_8 hS, k_9 hS, l_9 hS, k_10 hS, k_11 hS, l_11 hS, k_12 hS, k_13 hS, l_13 hS, k_14 hS, k_15 hS, l_15 hS, k_16 hS, k_17 hS, l_17 hS, k_66 hS, k_67 hS, l_67 hS, k_68 hS, l_68 hS, k_69 hS, l_69 hS, k_70 hS, l_70 hS, k_71 hS, l_71 hS, k_72 hS, k_73 hS, l_73 hS, k_74 hS, l_74 hS, k_75 hS, k_76 hS, l_76 hS, k_77 hS, k_78 hS, l_78 hS, k_79 hS, k_80 hS, l_80 hS, k_81 hS, k_82 hS, l_82 hS, k_131 hS, k_132 hS, l_132 hS, k_133 hS, l_133 hS, k_134 hS, l_134 hS, k_135 hS, k_136 hS, l_136 hS, k_137 hS, l_137 hS, k_138 hS, l_138 hS, k_139 hS, l_139 hS, k_140 hS, k_141 hS, l_141 hS, k_142 hS, l_142 hS, k_143 hS, k_144 hS, l_144 hS, k_145 hS, k_146 hS, l_146 hS, k_147 hS, l_147 hS, k_148 hS, l_148 hS, k_153 hS, l_153 hS, k_154 hS, l_154 hS, k_155 hS, l_155 hS, k_156 hS, k_157 hS, l_157 hS, k_158 hS, l_158 hS, k_159 hS, l_159 hS, r_0_0 hS, r_0_1 hS, r_0_3 hS, r_0_4 hS, r_0_5 hS, r_0_6 hS, r_0_7 hS, r_0_8 hS, r_0_9 hS, r_0_10 hS, r_1_2 hS, r_1_3 hS, r_1_4 hS, r_1_5 hS, r_1_7 hS, r_1_9 hS, r_1_10 hS, r_1_12 hS, r_1_13 hS, r_1_14 hS, r_1_15 hS, r_7_1 hS, r_10_2 hS, r_12_2 hS, r_14_2 hS, r_16_2 hS, r_66_2 hS, r_66_3 hS, r_66_4 hS, r_66_5 hS, r_66_7 hS, r_66_9 hS, r_66_10 hS, r_66_12 hS, r_66_13 hS, r_66_14 hS, r_66_15 hS, r_72_1 hS, r_75_2 hS, r_77_2 hS, r_79_2 hS, r_81_2 hS, r_131_0 hS, r_131_6 hS, r_131_8 hS, r_135_0 hS, r_135_1 hS, r_135_2 hS, r_135_3 hS, r_140_0 hS, r_140_1 hS, r_143_2 hS, r_145_0 hS, r_145_1 hS, r_145_2 hS, r_145_3 hS, r_145_4 hS, r_145_5 hS, r_156_5 hS, k_pv hS, k_pvr hS, k_db hS, k_dbr hS, k_sh hS, l_pvr hS, l_dbr hS, l_sh hS, r_5 hS, r_6 hS, r_pv hS, r_db hS, r_148 hS, ol_s, ol_n, ln_0, ln_1, ln_2, ln_3, ln_4, eq_self, rf_s, rf_n, i01_0, i01_n0, i01_b, b01_0, b01_1, and_self, and_true, true_and, and_false, false_and, if_true, if_false, not_true_eq_false, not_false_eq_true, e10, e00, lt_bg, Nat.reduceLT, Nat.reduceLeDiff, hi, hbg, e8, e6, e0, q, o, i0, z0]
  · rw [if_neg q]
    simp only [s12_27, s12_28, s12_31, s12_34, s12_35, s12_38, s12_39, s12_40, s12_43, s12_46, s12_48, s12_49, s12_52, s12_53, s12_54, s12_55, s12_56, s12_59, s12_62, s12_63, s12_64, s12_67, s12_68, s12_69, s12_70, s12_71, s12_74, s12_75, k_0 hS, k_1 hS, k_2 hS, l_2 hS, k_3 hS, l_3 hS, k_4 hS, l_4 hS, k_5 hS, l_5 hS, k_6 hS, l_6 hS, k_7 hS, k_8 hS, l_8 hS, k_9 hS, l_9 hS, k_10 hS, k_11 hS, l_11 hS, k_12 hS, k_13 hS, l_13 hS, k_14 hS, k_15 hS, l_15 hS, k_16 hS, k_17 hS, l_17 hS, k_66 hS, k_67 hS, l_67 hS, k_68 hS, l_68 hS, k_69 hS, l_69 hS, k_70 hS, l_70 hS, k_71 hS, l_71 hS, k_72 hS, k_73 hS, l_73 hS, k_74 hS, l_74 hS, k_75 hS, k_76 hS, l_76 hS, k_77 hS, k_78 hS, l_78 hS, k_79 hS, k_80 hS, l_80 hS, k_81 hS, k_82 hS, l_82 hS, k_131 hS, k_132 hS, l_132 hS, k_133 hS, l_133 hS, k_134 hS, l_134 hS, k_135 hS, k_136 hS, l_136 hS, k_137 hS, l_137 hS, k_138 hS, l_138 hS, k_139 hS, l_139 hS, k_140 hS, k_141 hS, l_141 hS, k_142 hS, l_142 hS, k_143 hS, k_144 hS, l_144 hS, k_145 hS, k_146 hS, l_146 hS, k_147 hS, l_147 hS, k_148 hS, l_148 hS, k_153 hS, l_153 hS, k_154 hS, l_154 hS, k_155 hS, l_155 hS, k_156 hS, k_157 hS, l_157 hS, k_158 hS, l_158 hS, k_159 hS, l_159 hS, r_0_0 hS, r_0_1 hS, r_0_3 hS, r_0_4 hS, r_0_5 hS, r_0_6 hS, r_0_7 hS, r_0_8 hS, r_0_9 hS, r_0_10 hS, r_1_2 hS, r_1_3 hS, r_1_4 hS, r_1_5 hS, r_1_7 hS, r_1_9 hS, r_1_10 hS, r_1_12 hS, r_1_13 hS, r_1_14 hS, r_1_15 hS, r_7_1 hS, r_10_2 hS, r_12_2 hS, r_14_2 hS, r_16_2 hS, r_66_2 hS, r_66_3 hS, r_66_4 hS, r_66_5 hS, r_66_7 hS, r_66_9 hS, r_66_10 hS, r_66_12 hS, r_66_13 hS, r_66_14 hS, r_66_15 hS, r_72_1 hS, r_75_2 hS, r_77_2 hS, r_79_2 hS, r_81_2 hS, r_131_0 hS, r_131_6 hS, r_131_8 hS, r_135_0 hS, r_135_1 hS, r_135_2 hS, r_135_3 hS, r_140_0 hS, r_140_1 hS, r_143_2 hS, r_145_0 hS, r_145_1 hS, r_145_2 hS, r_145_3 hS, r_145_4 hS, r_145_5 hS, r_156_5 hS, k_pv hS, k_pvr hS, k_db hS, k_dbr hS, k_sh hS, l_pvr hS, l_dbr hS, l_sh hS, r_5 hS, r_6 hS, r_pv hS, r_db hS, r_148 hS, ol_s, ol_n, ln_0, ln_1, ln_2, ln_3, ln_4, eq_self, rf_s, rf_n, i01_0, i01_n0, i01_b, b01_0, b01_1, and_self, and_true, true_and, and_false, false_and, if_true, if_false, not_true_eq_false, not_false_eq_true, e10, e00, lt_bg, Nat.reduceLT, Nat.reduceLeDiff, hi, e8, q]
def f_mvC (σ : am_I) : Nat → am_I
  | 0 => σ
  | i + 1 => if f_mvC σ i (34 + 2 * i) 1 = 0 then f_mpC (f_mvC σ i) i else f_mvC σ i
def f_mvM (σ : am_I) : Nat → am_I
  | 0 => σ
  | i + 1 => if f_mvM σ i 170 i = 0 ∧ ¬ f_mvM σ i 177 i = 1 then am_u (f_sh (f_mvM σ i) 179 (7 * i)) 179 (7 * i) (f_npM (f_mvM σ i 176 i) (f_mvM σ i 179 (7 * i))) else f_sh (f_mvM σ i) 179 (7 * i)
theorem mpC_ne {i y : Nat} (h : y ≠ 35 + 2 * i) : f_mpC σ i y = σ y := by
  unfold f_mpC
  split
  · rw [u_ne _ _ _ _ h, sh_ne h]
  · exact sh_ne h
theorem mvC_ne {y : Nat} : ∀ n, (∀ i, i < n → y ≠ 35 + 2 * i) → f_mvC σ n y = σ y
  | 0, _ => rfl
  | n + 1, h => by
    unfold f_mvC
    split
    · rw [mpC_ne (h n (by omega))]
      exact mvC_ne n (fun i hi => h i (by omega))
    · exact mvC_ne n (fun i hi => h i (by omega))
theorem mvM_ne {y : Nat} (h : y ≠ 179) : ∀ n, f_mvM σ n y = σ y
  | 0 => rfl
  | n + 1 => by
    unfold f_mvM
    split
    · rw [u_ne _ _ _ _ h, sh_ne h]
      exact mvM_ne h n
    · rw [sh_ne h]
      exact mvM_ne h n
theorem sh_eq {σ1 : am_I} {a b : Nat} (h : σ1 a = σ a) : f_sh σ1 a b a = f_sh σ a b a := by
  unfold f_sh
  funext k
  simp only [u_eq, h]
theorem mvC_eq {σ1 : am_I} (E : EqC σ σ1) : ∀ n, n ≤ 16 → EqC (f_mvC σ n) (f_mvC σ1 n)
  | 0, _ => E
  | n + 1, h => by
    have ih := mvC_eq E n (by omega)
    have e1 := ih (34 + 2 * n) (Or.inl (by omega))
    have e2 := ih (35 + 2 * n) (Or.inl (by omega))
    intro y hy
    unfold f_mvC
    rw [e1]
    split
    · unfold f_mpC
      rw [e1, e2]
      by_cases ey : y = 35 + 2 * n
      · subst ey
        split
        · funext k
          simp only [u_eq, sh_eq e2]
        · exact sh_eq e2
      · split
        · rw [u_ne _ _ _ _ ey, u_ne _ _ _ _ ey, sh_ne ey, sh_ne ey]
          exact ih y hy
        · rw [sh_ne ey, sh_ne ey]
          exact ih y hy
    · exact ih y hy
theorem mvM_eq {σ1 : am_I} (E : EqT σ σ1) : ∀ n, EqT (f_mvM σ n) (f_mvM σ1 n)
  | 0 => E
  | n + 1 => by
    obtain ⟨ih, it⟩ := mvM_eq E n
    have e0 := (ih 170 (by omega) (by omega)).1 (by decide)
    have e7 := (ih 177 (by omega) (by omega)).1 (by decide)
    have e6 := (ih 176 (by omega) (by omega)).1 (by decide)
    have e9 := (ih 179 (by omega) (by omega)).1 (by decide)
    unfold f_mvM
    rw [e0, e7, e6, e9]
    split
    · refine ⟨fun y h1 h2 => ?_, ?_⟩
      · by_cases ey : y = 179
        · subst ey
          have q : am_u (f_sh (f_mvM σ1 n) 179 (7 * n)) 179 (7 * n) (f_npM (f_mvM σ n 176 n) (f_mvM σ n 179 (7 * n))) 179 = am_u (f_sh (f_mvM σ n) 179 (7 * n)) 179 (7 * n) (f_npM (f_mvM σ n 176 n) (f_mvM σ n 179 (7 * n))) 179 := by
            funext k
            simp only [u_eq, sh_eq e9]
          rw [q]
          exact ⟨fun _ => rfl, fun _ _ => rfl⟩
        · rw [u_ne _ _ _ _ ey, u_ne _ _ _ _ ey, sh_ne ey, sh_ne ey]
          exact ih y h1 h2
      · rw [u_ne _ _ _ _ (by decide), u_ne _ _ _ _ (by decide), sh_ne (by decide), sh_ne (by decide)]
        exact it
    · refine ⟨fun y h1 h2 => ?_, ?_⟩
      · by_cases ey : y = 179
        · subst ey
          rw [sh_eq e9]
          exact ⟨fun _ => rfl, fun _ _ => rfl⟩
        · rw [sh_ne ey, sh_ne ey]
          exact ih y h1 h2
      · rw [sh_ne (by decide), sh_ne (by decide)]
        exact it
theorem c33L (hS : Sh ρ τ) {D : Nat} (hD : σ 1 8 = nI D) (hD16 : D ≤ 16) : ∀ (n i : Nat), i + n = D → AW (d + 1) 33 2 [.ref 1, .int (nI i)] [] (f_mvC σ i) ρ g τ Q = Q none (f_mvC σ D) ρ g τ
  | 0, i, h => by
    have e : i = D := by omega
    subst e
    have hle : nI i ≤ nI i := Int32.le_refl _
    have e0 : f_mvC σ i 1 8 = nI i := by rw [mvC_ne i (fun j hj => by omega)]; exact hD
    simp only [s33_2, s33_3, s33_4, s33_7, s33_37, k_0 hS, k_1 hS, k_2 hS, l_2 hS, k_3 hS, l_3 hS, k_4 hS, l_4 hS, k_5 hS, l_5 hS, k_6 hS, l_6 hS, k_7 hS, k_8 hS, l_8 hS, k_9 hS, l_9 hS, k_10 hS, k_11 hS, l_11 hS, k_12 hS, k_13 hS, l_13 hS, k_14 hS, k_15 hS, l_15 hS, k_16 hS, k_17 hS, l_17 hS, k_66 hS, k_67 hS, l_67 hS, k_68 hS, l_68 hS, k_69 hS, l_69 hS, k_70 hS, l_70 hS, k_71 hS, l_71 hS, k_72 hS, k_73 hS, l_73 hS, k_74 hS, l_74 hS, k_75 hS, k_76 hS, l_76 hS, k_77 hS, k_78 hS, l_78 hS, k_79 hS, k_80 hS, l_80 hS, k_81 hS, k_82 hS, l_82 hS, k_131 hS, k_132 hS, l_132 hS, k_133 hS, l_133 hS, k_134 hS, l_134 hS, k_135 hS, k_136 hS, l_136 hS, k_137 hS, l_137 hS, k_138 hS, l_138 hS, k_139 hS, l_139 hS, k_140 hS, k_141 hS, l_141 hS, k_142 hS, l_142 hS, k_143 hS, k_144 hS, l_144 hS, k_145 hS, k_146 hS, l_146 hS, k_147 hS, l_147 hS, k_148 hS, l_148 hS, k_153 hS, l_153 hS, k_154 hS, l_154 hS, k_155 hS, l_155 hS, k_156 hS, k_157 hS, l_157 hS, k_158 hS, l_158 hS, k_159 hS, l_159 hS, r_0_0 hS, r_0_1 hS, r_0_3 hS, r_0_4 hS, r_0_5 hS, r_0_6 hS, r_0_7 hS, r_0_8 hS, r_0_9 hS, r_0_10 hS, r_1_2 hS, r_1_3 hS, r_1_4 hS, r_1_5 hS, r_1_7 hS, r_1_9 hS, r_1_10 hS, r_1_12 hS, r_1_13 hS, r_1_14 hS, r_1_15 hS, r_7_1 hS, r_10_2 hS, r_12_2 hS, r_14_2 hS, r_16_2 hS, r_66_2 hS, r_66_3 hS, r_66_4 hS, r_66_5 hS, r_66_7 hS, r_66_9 hS, r_66_10 hS, r_66_12 hS, r_66_13 hS, r_66_14 hS, r_66_15 hS, r_72_1 hS, r_75_2 hS, r_77_2 hS, r_79_2 hS, r_81_2 hS, r_131_0 hS, r_131_6 hS, r_131_8 hS, r_135_0 hS, r_135_1 hS, r_135_2 hS, r_135_3 hS, r_140_0 hS, r_140_1 hS, r_143_2 hS, r_145_0 hS, r_145_1 hS, r_145_2 hS, r_145_3 hS, r_145_4 hS, r_145_5 hS, r_156_5 hS, k_pv hS, k_pvr hS, k_db hS, k_dbr hS, k_sh hS, l_pvr hS, l_dbr hS, l_sh hS, r_5 hS, r_6 hS, r_pv hS, r_db hS, r_148 hS, ol_s, ol_n, ln_0, ln_1, ln_2, ln_3, ln_4, eq_self, rf_s, rf_n, i01_0, i01_n0, i01_b, b01_0, b01_1, and_self, and_true, true_and, and_false, false_and, if_true, if_false, not_true_eq_false, not_false_eq_true, e10, e00, lt_bg, Nat.reduceLT, Nat.reduceLeDiff, e0, hle]
  | n + 1, i, h => by
    have hlt : ¬ nI D ≤ nI i := nI_ge (by omega) (by omega)
    have hi : am_inb (nI i) 16 = true := inb_n (by omega) (by decide)
    have hc : (nI i).toNatClampNeg = i := nI_clamp (by omega)
    have hi16 : i < 16 := by omega
    have e0 : f_mvC σ i 1 8 = nI D := by rw [mvC_ne i (fun j hj => by omega)]; exact hD
    have ih := c33L hS hD hD16 n (i + 1) (by omega)
    have un : f_mvC σ (i + 1) = if f_mvC σ i (34 + 2 * i) 1 = 0 then f_mpC (f_mvC σ i) i else f_mvC σ i := rfl
    rw [un] at ih
    rw [s33_2]
    by_cases q : f_mvC σ i (34 + 2 * i) 1 = 0
    · rw [if_pos q] at ih
      simp only [s33_3, s33_4, s33_7, s33_10, s33_11, s33_14, s33_15, s33_16, s33_19, s33_22, s33_23, s33_26, s33_27, s33_28, s33_31r, s33_34, k_0 hS, k_1 hS, k_2 hS, l_2 hS, k_3 hS, l_3 hS, k_4 hS, l_4 hS, k_5 hS, l_5 hS, k_6 hS, l_6 hS, k_7 hS, k_8 hS, l_8 hS, k_9 hS, l_9 hS, k_10 hS, k_11 hS, l_11 hS, k_12 hS, k_13 hS, l_13 hS, k_14 hS, k_15 hS, l_15 hS, k_16 hS, k_17 hS, l_17 hS, k_66 hS, k_67 hS, l_67 hS, k_68 hS, l_68 hS, k_69 hS, l_69 hS, k_70 hS, l_70 hS, k_71 hS, l_71 hS, k_72 hS, k_73 hS, l_73 hS, k_74 hS, l_74 hS, k_75 hS, k_76 hS, l_76 hS, k_77 hS, k_78 hS, l_78 hS, k_79 hS, k_80 hS, l_80 hS, k_81 hS, k_82 hS, l_82 hS, k_131 hS, k_132 hS, l_132 hS, k_133 hS, l_133 hS, k_134 hS, l_134 hS, k_135 hS, k_136 hS, l_136 hS, k_137 hS, l_137 hS, k_138 hS, l_138 hS, k_139 hS, l_139 hS, k_140 hS, k_141 hS, l_141 hS, k_142 hS, l_142 hS, k_143 hS, k_144 hS, l_144 hS, k_145 hS, k_146 hS, l_146 hS, k_147 hS, l_147 hS, k_148 hS, l_148 hS, k_153 hS, l_153 hS, k_154 hS, l_154 hS, k_155 hS, l_155 hS, k_156 hS, k_157 hS, l_157 hS, k_158 hS, l_158 hS, k_159 hS, l_159 hS, r_0_0 hS, r_0_1 hS, r_0_3 hS, r_0_4 hS, r_0_5 hS, r_0_6 hS, r_0_7 hS, r_0_8 hS, r_0_9 hS, r_0_10 hS, r_1_2 hS, r_1_3 hS, r_1_4 hS, r_1_5 hS, r_1_7 hS, r_1_9 hS, r_1_10 hS, r_1_12 hS, r_1_13 hS, r_1_14 hS, r_1_15 hS, r_7_1 hS, r_10_2 hS, r_12_2 hS, r_14_2 hS, r_16_2 hS, r_66_2 hS, r_66_3 hS, r_66_4 hS, r_66_5 hS, r_66_7 hS, r_66_9 hS, r_66_10 hS, r_66_12 hS, r_66_13 hS, r_66_14 hS, r_66_15 hS, r_72_1 hS, r_75_2 hS, r_77_2 hS, r_79_2 hS, r_81_2 hS, r_131_0 hS, r_131_6 hS, r_131_8 hS, r_135_0 hS, r_135_1 hS, r_135_2 hS, r_135_3 hS, r_140_0 hS, r_140_1 hS, r_143_2 hS, r_145_0 hS, r_145_1 hS, r_145_2 hS, r_145_3 hS, r_145_4 hS, r_145_5 hS, r_156_5 hS, k_pv hS, k_pvr hS, k_db hS, k_dbr hS, k_sh hS, l_pvr hS, l_dbr hS, l_sh hS, r_5 hS, r_6 hS, r_pv hS, r_db hS, r_148 hS, ol_s, ol_n, ln_0, ln_1, ln_2, ln_3, ln_4, eq_self, rf_s, rf_n, i01_0, i01_n0, i01_b, b01_0, b01_1, and_self, and_true, true_and, and_false, false_and, if_true, if_false, not_true_eq_false, not_false_eq_true, e10, e00, lt_bg, Nat.reduceLT, Nat.reduceLeDiff, e0, hlt, hi, hc, hi16, q, c12 hS hi16, nI_1]
      exact ih
    · rw [if_neg q] at ih
      simp only [s33_3, s33_4, s33_7, s33_10, s33_11, s33_14, s33_15, s33_16, s33_19, s33_22, s33_23, s33_26, s33_27, s33_28, s33_31r, s33_34, k_0 hS, k_1 hS, k_2 hS, l_2 hS, k_3 hS, l_3 hS, k_4 hS, l_4 hS, k_5 hS, l_5 hS, k_6 hS, l_6 hS, k_7 hS, k_8 hS, l_8 hS, k_9 hS, l_9 hS, k_10 hS, k_11 hS, l_11 hS, k_12 hS, k_13 hS, l_13 hS, k_14 hS, k_15 hS, l_15 hS, k_16 hS, k_17 hS, l_17 hS, k_66 hS, k_67 hS, l_67 hS, k_68 hS, l_68 hS, k_69 hS, l_69 hS, k_70 hS, l_70 hS, k_71 hS, l_71 hS, k_72 hS, k_73 hS, l_73 hS, k_74 hS, l_74 hS, k_75 hS, k_76 hS, l_76 hS, k_77 hS, k_78 hS, l_78 hS, k_79 hS, k_80 hS, l_80 hS, k_81 hS, k_82 hS, l_82 hS, k_131 hS, k_132 hS, l_132 hS, k_133 hS, l_133 hS, k_134 hS, l_134 hS, k_135 hS, k_136 hS, l_136 hS, k_137 hS, l_137 hS, k_138 hS, l_138 hS, k_139 hS, l_139 hS, k_140 hS, k_141 hS, l_141 hS, k_142 hS, l_142 hS, k_143 hS, k_144 hS, l_144 hS, k_145 hS, k_146 hS, l_146 hS, k_147 hS, l_147 hS, k_148 hS, l_148 hS, k_153 hS, l_153 hS, k_154 hS, l_154 hS, k_155 hS, l_155 hS, k_156 hS, k_157 hS, l_157 hS, k_158 hS, l_158 hS, k_159 hS, l_159 hS, r_0_0 hS, r_0_1 hS, r_0_3 hS, r_0_4 hS, r_0_5 hS, r_0_6 hS, r_0_7 hS, r_0_8 hS, r_0_9 hS, r_0_10 hS, r_1_2 hS, r_1_3 hS, r_1_4 hS, r_1_5 hS, r_1_7 hS, r_1_9 hS, r_1_10 hS, r_1_12 hS, r_1_13 hS, r_1_14 hS, r_1_15 hS, r_7_1 hS, r_10_2 hS, r_12_2 hS, r_14_2 hS, r_16_2 hS, r_66_2 hS, r_66_3 hS, r_66_4 hS, r_66_5 hS, r_66_7 hS, r_66_9 hS, r_66_10 hS, r_66_12 hS, r_66_13 hS, r_66_14 hS, r_66_15 hS, r_72_1 hS, r_75_2 hS, r_77_2 hS, r_79_2 hS, r_81_2 hS, r_131_0 hS, r_131_6 hS, r_131_8 hS, r_135_0 hS, r_135_1 hS, r_135_2 hS, r_135_3 hS, r_140_0 hS, r_140_1 hS, r_143_2 hS, r_145_0 hS, r_145_1 hS, r_145_2 hS, r_145_3 hS, r_145_4 hS, r_145_5 hS, r_156_5 hS, k_pv hS, k_pvr hS, k_db hS, k_dbr hS, k_sh hS, l_pvr hS, l_dbr hS, l_sh hS, r_5 hS, r_6 hS, r_pv hS, r_db hS, r_148 hS, ol_s, ol_n, ln_0, ln_1, ln_2, ln_3, ln_4, eq_self, rf_s, rf_n, i01_0, i01_n0, i01_b, b01_0, b01_1, and_self, and_true, true_and, and_false, false_and, if_true, if_false, not_true_eq_false, not_false_eq_true, e10, e00, lt_bg, Nat.reduceLT, Nat.reduceLeDiff, e0, hlt, hi, hc, hi16, q, nI_1]
      exact ih
end OBN
