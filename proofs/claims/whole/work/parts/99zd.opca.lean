/-! least: the class's table, whole -/
section OCA
variable {d : Nat} {σ : am_I} {ρ : am_R} {g : am_J} {τ : am_T} {Q : am_Q}
theorem c118t (hS : Sh ρ τ) {σ0 : am_I} {P m : Nat} (hP : P ≤ 8) (h6 : σ0 1 6 = nI P) {W : Nat → Nat → Nat} (hW : ∀ p k, p < P → k ≤ 9 → WR m σ0 ρ τ p k (W p k)) {x1 x3 : Int32} {x5 : Value} : ∀ (n : Nat) (σ : am_I), n ≤ P + 1 → EqC σ0 σ → (∀ p, n ≤ p → p ≤ P → ∀ t, t < 41 → σ 158 (41 * p + t) = nI (lsT W P (P - p) t)) → ∃ σ' : am_I, (∀ z, z ≠ 158 → σ' z = σ z) ∧ (∀ p, p ≤ P → ∀ t, t < 41 → σ' 158 (41 * p + t) = nI (lsT W P (P - p) t)) ∧ ∀ (d : Nat) (g : am_J) (Q : am_Q), AW (d + 3) 118 45 [.ref 0, .int x1, .int (nI m), .int x3, .int (nI n + (-1)), x5] [] σ ρ g τ Q = AW (d + 3) 118 63 [.ref 0, .int x1, .int (nI m), .int x3, .int (-1), x5] [] σ' ρ g τ Q
  | 0, σ, _, hE, H => by
    have e0 : nI 0 + (-1) = (-1 : Int32) := by decide
    have hlt : ((-1 : Int32) < 0) = True := by decide
    refine ⟨σ, fun _ _ => rfl, fun p hp => H p (Nat.zero_le _) hp, fun d g Q => ?_⟩
    simp only [s118_45, s118_47, ol_s, ol_n, ln_0, ln_1, ln_2, ln_3, ln_4, eq_self, rf_s, rf_n, i01_0, i01_n0, i01_b, b01_0, b01_1, and_self, and_true, true_and, and_false, false_and, if_true, if_false, not_true_eq_false, not_false_eq_true, e10, e00, lt_bg, Nat.reduceLT, Nat.reduceLeDiff, e0, hlt]
  | n + 1, σ, hn, hE, H => by
    have pm : nI (n + 1) + (-1) = nI n := by rw [← nI_pred n, Int32.sub_eq_add_neg]
    have hlt : ¬ nI n < 0 := Int32.not_lt.mpr (nI_le (a := 0) (Nat.zero_le _) (by omega))
    obtain ⟨s, F1, G1, H1, R1⟩ := c119 hS hP h6 hW hE (f := n) (by omega) (fun t q ht => by
      have u := H (n + 1) (Nat.le_refl _) (by omega) t ht
      rw [show 41 * n + 41 + t = 41 * (n + 1) + t by omega, Nat.sub_sub]
      exact u)
    obtain ⟨s2, F2, G2, R2⟩ := c118t hS hP h6 hW (x1 := x1) (x3 := x3) (x5 := x5) n s (by omega) (fun y hy => by rw [F1 y (by omega)]; exact hE y hy) (fun p h1 h2 t ht => by
      by_cases q : p = n
      · subst q
        exact H1 t ht
      · rw [G1 _ (by omega)]
        exact H p (by omega) h2 t ht)
    refine ⟨s2, fun z hz => by rw [F2 z hz, F1 z hz], G2, fun d g Q => ?_⟩
    rw [s118_45]
    simp only [s118_47, s118_50, s118_51, s118_53, s118_54, s118_57, s118_60, k_0 hS, k_1 hS, k_2 hS, l_2 hS, k_3 hS, l_3 hS, k_4 hS, l_4 hS, k_5 hS, l_5 hS, k_6 hS, l_6 hS, k_7 hS, k_8 hS, l_8 hS, k_9 hS, l_9 hS, k_10 hS, k_11 hS, l_11 hS, k_12 hS, k_13 hS, l_13 hS, k_14 hS, k_15 hS, l_15 hS, k_16 hS, k_17 hS, l_17 hS, k_66 hS, k_67 hS, l_67 hS, k_68 hS, l_68 hS, k_69 hS, l_69 hS, k_70 hS, l_70 hS, k_71 hS, l_71 hS, k_72 hS, k_73 hS, l_73 hS, k_74 hS, l_74 hS, k_75 hS, k_76 hS, l_76 hS, k_77 hS, k_78 hS, l_78 hS, k_79 hS, k_80 hS, l_80 hS, k_81 hS, k_82 hS, l_82 hS, k_131 hS, k_132 hS, l_132 hS, k_133 hS, l_133 hS, k_134 hS, l_134 hS, k_135 hS, k_136 hS, l_136 hS, k_137 hS, l_137 hS, k_138 hS, l_138 hS, k_139 hS, l_139 hS, k_140 hS, k_141 hS, l_141 hS, k_142 hS, l_142 hS, k_143 hS, k_144 hS, l_144 hS, k_145 hS, k_146 hS, l_146 hS, k_147 hS, l_147 hS, k_148 hS, l_148 hS, k_153 hS, l_153 hS, k_154 hS, l_154 hS, k_155 hS, l_155 hS, k_156 hS, k_157 hS, l_157 hS, k_158 hS, l_158 hS, k_159 hS, l_159 hS, r_0_0 hS, r_0_1 hS, r_0_3 hS, r_0_4 hS, r_0_5 hS, r_0_6 hS, r_0_7 hS, r_0_8 hS, r_0_9 hS, r_0_10 hS, r_1_2 hS, r_1_3 hS, r_1_4 hS, r_1_5 hS, r_1_7 hS, r_1_9 hS, r_1_10 hS, r_1_12 hS, r_1_13 hS, r_1_14 hS, r_1_15 hS, r_7_1 hS, r_10_2 hS, r_12_2 hS, r_14_2 hS, r_16_2 hS, r_66_2 hS, r_66_3 hS, r_66_4 hS, r_66_5 hS, r_66_7 hS, r_66_9 hS, r_66_10 hS, r_66_12 hS, r_66_13 hS, r_66_14 hS, r_66_15 hS, r_72_1 hS, r_75_2 hS, r_77_2 hS, r_79_2 hS, r_81_2 hS, r_131_0 hS, r_131_6 hS, r_131_8 hS, r_135_0 hS, r_135_1 hS, r_135_2 hS, r_135_3 hS, r_140_0 hS, r_140_1 hS, r_143_2 hS, r_145_0 hS, r_145_1 hS, r_145_2 hS, r_145_3 hS, r_145_4 hS, r_145_5 hS, r_156_5 hS, k_pv hS, k_pvr hS, k_db hS, k_dbr hS, k_sh hS, l_pvr hS, l_dbr hS, l_sh hS, r_5 hS, r_6 hS, r_pv hS, r_db hS, r_148 hS, ol_s, ol_n, ln_0, ln_1, ln_2, ln_3, ln_4, eq_self, rf_s, rf_n, i01_0, i01_n0, i01_b, b01_0, b01_1, and_self, and_true, true_and, and_false, false_and, if_true, if_false, not_true_eq_false, not_false_eq_true, e10, e00, lt_bg, Nat.reduceLT, Nat.reduceLeDiff, pm, hlt, R1]
    exact R2 d g Q
end OCA
