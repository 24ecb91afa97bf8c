/-! least: the search of the least -/
section OCF
variable {d : Nat} {σ : am_I} {ρ : am_R} {g : am_J} {τ : am_T} {Q : am_Q}
def lsB (T : Nat → Nat) : Nat → Nat
  | 0 => 0
  | n + 1 => if T (n + 1) < T (lsB T n) then n + 1 else lsB T n
theorem lsB_ok {T : Nat → Nat} : ∀ n, lsB T n ≤ n ∧ T (lsB T n) ≤ T 0
  | 0 => ⟨Nat.le_refl _, Nat.le_refl _⟩
  | n + 1 => by
    obtain ⟨i1, i2⟩ := lsB_ok (T := T) n
    by_cases q : T (n + 1) < T (lsB T n)
    · have u : lsB T (n + 1) = n + 1 := if_pos q
      rw [u]
      exact ⟨Nat.le_refl _, by omega⟩
    · have u : lsB T (n + 1) = lsB T n := if_neg q
      rw [u]
      exact ⟨by omega, i2⟩
theorem c118s (hS : Sh ρ τ) {N m : Nat} (hN : N ≤ 40) {T : Nat → Nat} (hT : ∀ t, T t ≤ 1000000) (hv : ∀ t, t < 41 → σ 158 t = nI (T t)) {x3 : Int32} : ∀ (n j : Nat), j + n = N → AW d 118 69 [.ref 0, .int (nI N), .int (nI m), .int x3, .int (nI (lsB T j)), .int (nI (j + 1))] [] σ ρ g τ Q = AW d 118 102 [.ref 0, .int (nI N), .int (nI m), .int x3, .int (nI (lsB T N)), .int (nI (N + 1))] [] σ ρ g τ Q
  | 0, j, e => by
    have e : j = N := by omega
    subst e
    have hlt : nI j < nI (j + 1) := Int32.not_le.mp (nI_ge (by omega) (by omega))
    simp only [s118_69, s118_71, s118_72, ol_s, ol_n, ln_0, ln_1, ln_2, ln_3, ln_4, eq_self, rf_s, rf_n, i01_0, i01_n0, i01_b, b01_0, b01_1, and_self, and_true, true_and, and_false, false_and, if_true, if_false, not_true_eq_false, not_false_eq_true, e10, e00, lt_bg, Nat.reduceLT, Nat.reduceLeDiff, hlt]
  | n + 1, j, e => by
    have hlt : ¬ nI N < nI (j + 1) := Int32.not_lt.mpr (nI_le (by omega) (by omega))
    have ok := (lsB_ok (T := T) j).1
    have bi : am_inb (nI (j + 1)) 369 = true := inb_n (by omega) (by decide)
    have ci : (nI (j + 1)).toNatClampNeg = j + 1 := nI_clamp (by omega)
    have bj : am_inb (nI (lsB T j)) 369 = true := inb_n (by omega) (by decide)
    have cj : (nI (lsB T j)).toNatClampNeg = lsB T j := nI_clamp (by omega)
    have v1 := hv (j + 1) (by omega)
    have v2 := hv (lsB T j) (by omega)
    have t1 := hT (j + 1)
    have t2 := hT (lsB T j)
    have ih := c118s hS (m := m) hN hT hv (x3 := x3) n (j + 1) (by omega)
    rw [s118_69]
    by_cases q : T (j + 1) < T (lsB T j)
    · have u : lsB T (j + 1) = j + 1 := if_pos q
      have l : ¬ nI (T (lsB T j)) ≤ nI (T (j + 1)) := nI_ge (by omega) (by omega)
      rw [u] at ih
      simp only [s118_71, s118_72, s118_75, s118_76, s118_79, s118_81, s118_82, s118_83, s118_86, s118_88, s118_89, s118_92, s118_94, s118_96, s118_99, k_0 hS, k_1 hS, k_2 hS, l_2 hS, k_3 hS, l_3 hS, k_4 hS, l_4 hS, k_5 hS, l_5 hS, k_6 hS, l_6 hS, k_7 hS, k_8 hS, l_8 hS, k_9 hS, l_9 hS, k_10 hS, k_11 hS, l_11 hS, k_12 hS, k_13 hS, l_13 hS, k_14 hS, k_15 hS, l_15 hS, k_16 hS, k_17 hS, l_17 hS, k_66 hS, k_67 hS, l_67 hS, k_68 hS, l_68 hS, k_69 hS, l_69 hS, k_70 hS, l_70 hS, k_71 hS, l_71 hS, k_72 hS, k_73 hS, l_73 hS, k_74 hS, l_74 hS, k_75 hS, k_76 hS, l_76 hS, k_77 hS, k_78 hS, l_78 hS, k_79 hS, k_80 hS, l_80 hS, k_81 hS, k_82 hS, l_82 hS, k_131 hS, k_132 hS, l_132 hS, k_133 hS, l_133 hS, k_134 hS, l_134 hS, k_135 hS, k_136 hS, l_136 hS, k_137 hS, l_137 hS, k_138 hS, l_138 hS, k_139 hS, l_139 hS, k_140 hS, k_141 hS, l_141 hS, k_142 hS, l_142 hS, k_143 hS, k_144 hS, l_144 hS, k_145 hS, k_146 hS, l_146 hS, k_147 hS, l_147 hS, k_148 hS, l_148 hS, k_153 hS, l_153 hS, k_154 hS, l_154 hS, k_155 hS, l_155 hS, k_156 hS, k_157 hS, l_157 hS, k_158 hS, l_158 hS, k_159 hS, l_159 hS, r_0_0 hS, r_0_1 hS, r_0_3 hS, r_0_4 hS, r_0_5 hS, r_0_6 hS, r_0_7 hS, r_0_8 hS, r_0_9 hS, r_0_10 hS, r_1_2 hS, r_1_3 hS, r_1_4 hS, r_1_5 hS, r_1_7 hS, r_1_9 hS, r_1_10 hS, r_1_12 hS, r_1_13 hS, r_1_14 hS, r_1_15 hS, r_7_1 hS, r_10_2 hS, r_12_2 hS, r_14_2 hS, r_16_2 hS, r_66_2 hS, r_66_3 hS, r_66_4 hS, r_66_5 hS, r_66_7 hS, r_66_9 hS, r_66_10 hS, r_66_12 hS, r_66_13 hS, r_66_14 hS, r_66_15 hS, r_72_1 hS, r_75_2 hS, r_77_2 hS, r_79_2 hS, r_81_2 hS, r_131_0 hS, r_131_6 hS, r_131_8 hS, r_135_0 hS, r_135_1 hS, r_135_2 hS, r_135_3 hS, r_140_0 hS, r_140_1 hS, r_143_2 hS, r_145_0 hS, r_145_1 hS, r_145_2 hS, r_145_3 hS, r_145_4 hS, r_145_5 hS, r_156_5 hS, k_pv hS, k_pvr hS, k_db hS, k_dbr hS, k_sh hS, l_pvr hS, l_dbr hS, l_sh hS, r_5 hS, r_6 hS, r_pv hS, r_db hS, r_148 hS, ol_s, ol_n, ln_0, ln_1, ln_2, ln_3, ln_4, eq_self, rf_s, rf_n, i01_0, i01_n0, i01_b, b01_0, b01_1, and_self, and_true, true_and, and_false, false_and, if_true, if_false, not_true_eq_false, not_false_eq_true, e10, e00, lt_bg, Nat.reduceLT, Nat.reduceLeDiff, hlt, bi, ci, bj, cj, v1, v2, l, nI_1]
      exact ih
    · have u : lsB T (j + 1) = lsB T j := if_neg q
      have l : nI (T (lsB T j)) ≤ nI (T (j + 1)) := nI_le (by omega) (by omega)
      rw [u] at ih
      simp only [s118_71, s118_72, s118_75, s118_76, s118_79, s118_81, s118_82, s118_83, s118_86, s118_88, s118_89, s118_92, s118_94, s118_96, s118_99, k_0 hS, k_1 hS, k_2 hS, l_2 hS, k_3 hS, l_3 hS, k_4 hS, l_4 hS, k_5 hS, l_5 hS, k_6 hS, l_6 hS, k_7 hS, k_8 hS, l_8 hS, k_9 hS, l_9 hS, k_10 hS, k_11 hS, l_11 hS, k_12 hS, k_13 hS, l_13 hS, k_14 hS, k_15 hS, l_15 hS, k_16 hS, k_17 hS, l_17 hS, k_66 hS, k_67 hS, l_67 hS, k_68 hS, l_68 hS, k_69 hS, l_69 hS, k_70 hS, l_70 hS, k_71 hS, l_71 hS, k_72 hS, k_73 hS, l_73 hS, k_74 hS, l_74 hS, k_75 hS, k_76 hS, l_76 hS, k_77 hS, k_78 hS, l_78 hS, k_79 hS, k_80 hS, l_80 hS, k_81 hS, k_82 hS, l_82 hS, k_131 hS, k_132 hS, l_132 hS, k_133 hS, l_133 hS, k_134 hS, l_134 hS, k_135 hS, k_136 hS, l_136 hS, k_137 hS, l_137 hS, k_138 hS, l_138 hS, k_139 hS, l_139 hS, k_140 hS, k_141 hS, l_141 hS, k_142 hS, l_142 hS, k_143 hS, k_144 hS, l_144 hS, k_145 hS, k_146 hS, l_146 hS, k_147 hS, l_147 hS, k_148 hS, l_148 hS, k_153 hS, l_153 hS, k_154 hS, l_154 hS, k_155 hS, l_155 hS, k_156 hS, k_157 hS, l_157 hS, k_158 hS, l_158 hS, k_159 hS, l_159 hS, r_0_0 hS, r_0_1 hS, r_0_3 hS, r_0_4 hS, r_0_5 hS, r_0_6 hS, r_0_7 hS, r_0_8 hS, r_0_9 hS, r_0_10 hS, r_1_2 hS, r_1_3 hS, r_1_4 hS, r_1_5 hS, r_1_7 hS, r_1_9 hS, r_1_10 hS, r_1_12 hS, r_1_13 hS, r_1_14 hS, r_1_15 hS, r_7_1 hS, r_10_2 hS, r_12_2 hS, r_14_2 hS, r_16_2 hS, r_66_2 hS, r_66_3 hS, r_66_4 hS, r_66_5 hS, r_66_7 hS, r_66_9 hS, r_66_10 hS, r_66_12 hS, r_66_13 hS, r_66_14 hS, r_66_15 hS, r_72_1 hS, r_75_2 hS, r_77_2 hS, r_79_2 hS, r_81_2 hS, r_131_0 hS, r_131_6 hS, r_131_8 hS, r_135_0 hS, r_135_1 hS, r_135_2 hS, r_135_3 hS, r_140_0 hS, r_140_1 hS, r_143_2 hS, r_145_0 hS, r_145_1 hS, r_145_2 hS, r_145_3 hS, r_145_4 hS, r_145_5 hS, r_156_5 hS, k_pv hS, k_pvr hS, k_db hS, k_dbr hS, k_sh hS, l_pvr hS, l_dbr hS, l_sh hS, r_5 hS, r_6 hS, r_pv hS, r_db hS, r_148 hS, ol_s, ol_n, ln_0, ln_1, ln_2, ln_3, ln_4, eq_self, rf_s, rf_n, i01_0, i01_n0, i01_b, b01_0, b01_1, and_self, and_true, true_and, and_false, false_and, if_true, if_false, not_true_eq_false, not_false_eq_true, e10, e00, lt_bg, Nat.reduceLT, Nat.reduceLeDiff, hlt, bi, ci, bj, cj, v1, v2, l, nI_1]
      exact ih
end OCF
