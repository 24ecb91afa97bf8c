/-! least: a row of the class's table -/
section OBZ
variable {d : Nat} {σ : am_I} {ρ : am_R} {g : am_J} {τ : am_T} {Q : am_Q}
theorem c119c (hS : Sh ρ τ) {σ0 : am_I} {f m : Nat} (hf : f ≤ 7) {W1 pv : Nat → Nat} (hW : ∀ k, k ≤ 9 → WR m σ0 ρ τ f k (W1 k)) (hpv : ∀ t, pv t ≤ 1000000) : ∀ (n h : Nat) (σ : am_I) (x5 x6 x7 : Value), h + n = 10 → EqC σ0 σ → (∀ t, t < 41 → σ 158 (41 * f + 41 + t) = nI (pv t)) → (∀ t, t < 41 → σ 158 (41 * f + t) = nI (lsF W1 pv t h)) → ∃ σ' : am_I, (∀ z, z ≠ 158 → σ' z = σ z) ∧ (∀ t, t < 41 * f ∨ 41 * f + 41 ≤ t → σ' 158 t = σ 158 t) ∧ (∀ t, t < 41 → σ' 158 (41 * f + t) = nI (lsF W1 pv t 10)) ∧ ∀ (d : Nat) (g : am_J) (Q : am_Q), AW (d + 2) 119 54 [.ref 0, .int (nI f), .int (nI m), .int (nI (41 * f)), .int (nI h), x5, x6, x7] [] σ ρ g τ Q = Q none σ' ρ g τ
  | 0, h, σ, x5, x6, x7, e, hE, v1, v2 => by
    have e : h = 10 := by omega
    subst e
    have hlt : ((9 : Int32) < nI 10) = True := by decide
    refine ⟨σ, fun _ _ => rfl, fun _ _ => rfl, v2, fun d g Q => ?_⟩
    simp only [s119_54, s119_56, s119_58, s119_142, ol_s, ol_n, ln_0, ln_1, ln_2, ln_3, ln_4, eq_self, rf_s, rf_n, i01_0, i01_n0, i01_b, b01_0, b01_1, and_self, and_true, true_and, and_false, false_and, if_true, if_false, not_true_eq_false, not_false_eq_true, e10, e00, lt_bg, Nat.reduceLT, Nat.reduceLeDiff, hlt]
  | n + 1, h, σ, x5, x6, x7, e, hE, v1, v2 => by
    have e9 : nI 9 = (9 : Int32) := by decide
    have hlt : ¬ (9 : Int32) < nI h := by rw [← e9]; exact Int32.not_lt.mpr (nI_le (by omega) (by omega))
    obtain ⟨w1, w2, _⟩ := hW h (by omega)
    have w2 := w2 σ hE
    obtain ⟨s, y7, F1, G1, H1, R1⟩ := c119b hS (f := f) (h := h) (w := W1 h) hf (by omega) w1 hpv (q := fun t => lsF W1 pv t h) (fun t => lsF_le h) (x1 := .int (nI f)) (x2 := .int (nI m)) (41 - h) h σ x7 (by omega) (Nat.le_refl _) v1 (fun t _ h2 => v2 t h2)
    obtain ⟨s2, F2, G2, H2, R2⟩ := c119c hS hf hW hpv n (h + 1) s (.int (nI (W1 h))) (.int (nI 41)) y7 (by omega) (fun y hy => by rw [F1 y (by omega)]; exact hE y hy) (fun t ht => by rw [G1 _ (by omega)]; exact v1 t ht) (fun t ht => by
      by_cases q : h ≤ t
      · rw [H1 t q ht]
        have u : lsF W1 pv t (h + 1) = min (lsF W1 pv t h) (pv (t - h) + W1 h) := if_pos q
        rw [u]
      · rw [G1 _ (by omega), v2 t ht]
        have u : lsF W1 pv t (h + 1) = lsF W1 pv t h := if_neg q
        rw [u])
    refine ⟨s2, fun z hz => by rw [F2 z hz, F1 z hz], fun t ht => by rw [G2 t ht, G1 t (by omega)], H2, fun d g Q => ?_⟩
    rw [s119_54]
    simp only [s119_56, s119_58, s119_61, s119_62, s119_65, s119_66, s119_67, s119_69, s119_72, s119_74, s119_76, k_0 hS, k_1 hS, k_2 hS, l_2 hS, k_3 hS, l_3 hS, k_4 hS, l_4 hS, k_5 hS, l_5 hS, k_6 hS, l_6 hS, k_7 hS, k_8 hS, l_8 hS, k_9 hS, l_9 hS, k_10 hS, k_11 hS, l_11 hS, k_12 hS, k_13 hS, l_13 hS, k_14 hS, k_15 hS, l_15 hS, k_16 hS, k_17 hS, l_17 hS, k_66 hS, k_67 hS, l_67 hS, k_68 hS, l_68 hS, k_69 hS, l_69 hS, k_70 hS, l_70 hS, k_71 hS, l_71 hS, k_72 hS, k_73 hS, l_73 hS, k_74 hS, l_74 hS, k_75 hS, k_76 hS, l_76 hS, k_77 hS, k_78 hS, l_78 hS, k_79 hS, k_80 hS, l_80 hS, k_81 hS, k_82 hS, l_82 hS, k_131 hS, k_132 hS, l_132 hS, k_133 hS, l_133 hS, k_134 hS, l_134 hS, k_135 hS, k_136 hS, l_136 hS, k_137 hS, l_137 hS, k_138 hS, l_138 hS, k_139 hS, l_139 hS, k_140 hS, k_141 hS, l_141 hS, k_142 hS, l_142 hS, k_143 hS, k_144 hS, l_144 hS, k_145 hS, k_146 hS, l_146 hS, k_147 hS, l_147 hS, k_148 hS, l_148 hS, k_153 hS, l_153 hS, k_154 hS, l_154 hS, k_155 hS, l_155 hS, k_156 hS, k_157 hS, l_157 hS, k_158 hS, l_158 hS, k_159 hS, l_159 hS, r_0_0 hS, r_0_1 hS, r_0_3 hS, r_0_4 hS, r_0_5 hS, r_0_6 hS, r_0_7 hS, r_0_8 hS, r_0_9 hS, r_0_10 hS, r_1_2 hS, r_1_3 hS, r_1_4 hS, r_1_5 hS, r_1_7 hS, r_1_9 hS, r_1_10 hS, r_1_12 hS, r_1_13 hS, r_1_14 hS, r_1_15 hS, r_7_1 hS, r_10_2 hS, r_12_2 hS, r_14_2 hS, r_16_2 hS, r_66_2 hS, r_66_3 hS, r_66_4 hS, r_66_5 hS, r_66_7 hS, r_66_9 hS, r_66_10 hS, r_66_12 hS, r_66_13 hS, r_66_14 hS, r_66_15 hS, r_72_1 hS, r_75_2 hS, r_77_2 hS, r_79_2 hS, r_81_2 hS, r_131_0 hS, r_131_6 hS, r_131_8 hS, r_135_0 hS, r_135_1 hS, r_135_2 hS, r_135_3 hS, r_140_0 hS, r_140_1 hS, r_143_2 hS, r_145_0 hS, r_145_1 hS, r_145_2 hS, r_145_3 hS, r_145_4 hS, r_145_5 hS, r_156_5 hS, k_pv hS, k_pvr hS, k_db hS, k_dbr hS, k_sh hS, l_pvr hS, l_dbr hS, l_sh hS, r_5 hS, r_6 hS, r_pv hS, r_db hS, r_148 hS, ol_s, ol_n, ln_0, ln_1, ln_2, ln_3, ln_4, eq_self, rf_s, rf_n, i01_0, i01_n0, i01_b, b01_0, b01_1, and_self, and_true, true_and, and_false, false_and, if_true, if_false, not_true_eq_false, not_false_eq_true, e10, e00, lt_bg, Nat.reduceLT, Nat.reduceLeDiff, hlt, w2]
    rw [R1]
    simp only [s119_136, s119_139, nI_1]
    exact R2 d g Q
/-- a row of the table -/
theorem c119 (hS : Sh ρ τ) {σ0 : am_I} {P m : Nat} (hP : P ≤ 8) (h6 : σ0 1 6 = nI P) {W : Nat → Nat → Nat} (hW : ∀ p k, p < P → k ≤ 9 → WR m σ0 ρ τ p k (W p k)) {σ : am_I} (hE : EqC σ0 σ) {f : Nat} (hf : f ≤ P) (hb : ∀ t, f < P → t < 41 → σ 158 (41 * f + 41 + t) = nI (lsT W P (P - f - 1) t)) : ∃ σ' : am_I, (∀ z, z ≠ 158 → σ' z = σ z) ∧ (∀ t, t < 41 * f ∨ 41 * f + 41 ≤ t → σ' 158 t = σ 158 t) ∧ (∀ t, t < 41 → σ' 158 (41 * f + t) = nI (lsT W P (P - f) t)) ∧ ∀ (d : Nat) (g : am_J) (Q : am_Q), AW (d + 2) 119 0 [.ref 0, .int (nI f), .int (nI m), am_jk, am_jk, am_jk, am_jk, am_jk] [] σ ρ g τ Q = Q none σ' ρ g τ := by
  have z0' : nI 0 = (0 : Int32) := rfl
  have e41 : nI 41 = (41 : Int32) := by decide
  have ml : nI f * 41 = nI (41 * f) := by rw [← e41, nI_mulL, Nat.mul_comm]
  obtain ⟨s, F1, G1, H1, R1⟩ := c119a hS (f := f) (by omega) (x1 := .int (nI f)) (x2 := .int (nI m)) (x5 := am_jk) (x6 := am_jk) (x7 := am_jk) 41 0 σ (by omega)
  have s6 : s 1 6 = nI P := by rw [F1 1 (by decide), hE 1 (Or.inl (by decide))]; exact h6
  by_cases q : f < P
  · have hlt : nI f < nI P := Int32.not_le.mp (nI_ge (by omega) (by omega))
    obtain ⟨s2, F2, G2, H2, R2⟩ := c119c hS (f := f) (by omega) (W1 := W f) (fun k hk => hW f k q hk) (pv := lsT W P (P - f - 1)) (fun t => lsT_le _ t) 10 0 s am_jk am_jk am_jk (by omega) (fun y hy => by rw [F1 y (by omega)]; exact hE y hy) (fun t ht => by rw [G1 _ (by omega)]; exact hb t q ht) (fun t ht => H1 t (Nat.zero_le _) ht)
    refine ⟨s2, fun z hz => by rw [F2 z hz, F1 z hz], fun t ht => by rw [G2 t ht, G1 t (by omega)], fun t ht => ?_, fun d g Q => ?_⟩
    · rw [H2 t ht]
      have u : P - f = P - f - 1 + 1 := by omega
      have u2 : P - (P - f - 1 + 1) = f := by omega
      rw [u]
      have u3 : lsT W P (P - f - 1 + 1) t = lsF (W (P - (P - f - 1 + 1))) (lsT W P (P - f - 1)) t 10 := rfl
      rw [u3, u2]
      rfl
    · simp only [s119_0, s119_1, s119_3, s119_4, s119_5, s119_6, ol_s, ol_n, ln_0, ln_1, ln_2, ln_3, ln_4, eq_self, rf_s, rf_n, i01_0, i01_n0, i01_b, b01_0, b01_1, and_self, and_true, true_and, and_false, false_and, if_true, if_false, not_true_eq_false, not_false_eq_true, e10, e00, lt_bg, Nat.reduceLT, Nat.reduceLeDiff, ml]
      rw [← z0', R1]
      simp only [s119_32, s119_33, s119_34, s119_37, s119_40, s119_43, s119_44, s119_47, s119_48, s119_49, s119_50, s119_51, s119_52, k_0 hS, k_1 hS, k_2 hS, l_2 hS, k_3 hS, l_3 hS, k_4 hS, l_4 hS, k_5 hS, l_5 hS, k_6 hS, l_6 hS, k_7 hS, k_8 hS, l_8 hS, k_9 hS, l_9 hS, k_10 hS, k_11 hS, l_11 hS, k_12 hS, k_13 hS, l_13 hS, k_14 hS, k_15 hS, l_15 hS, k_16 hS, k_17 hS, l_17 hS, k_66 hS, k_67 hS, l_67 hS, k_68 hS, l_68 hS, k_69 hS, l_69 hS, k_70 hS, l_70 hS, k_71 hS, l_71 hS, k_72 hS, k_73 hS, l_73 hS, k_74 hS, l_74 hS, k_75 hS, k_76 hS, l_76 hS, k_77 hS, k_78 hS, l_78 hS, k_79 hS, k_80 hS, l_80 hS, k_81 hS, k_82 hS, l_82 hS, k_131 hS, k_132 hS, l_132 hS, k_133 hS, l_133 hS, k_134 hS, l_134 hS, k_135 hS, k_136 hS, l_136 hS, k_137 hS, l_137 hS, k_138 hS, l_138 hS, k_139 hS, l_139 hS, k_140 hS, k_141 hS, l_141 hS, k_142 hS, l_142 hS, k_143 hS, k_144 hS, l_144 hS, k_145 hS, k_146 hS, l_146 hS, k_147 hS, l_147 hS, k_148 hS, l_148 hS, k_153 hS, l_153 hS, k_154 hS, l_154 hS, k_155 hS, l_155 hS, k_156 hS, k_157 hS, l_157 hS, k_158 hS, l_158 hS, k_159 hS, l_159 hS, r_0_0 hS, r_0_1 hS, r_0_3 hS, r_0_4 hS, r_0_5 hS, r_0_6 hS, r_0_7 hS, r_0_8 hS, r_0_9 hS, r_0_10 hS, r_1_2 hS, r_1_3 hS, r_1_4 hS, r_1_5 hS, r_1_7 hS, r_1_9 hS, r_1_10 hS, r_1_12 hS, r_1_13 hS, r_1_14 hS, r_1_15 hS, r_7_1 hS, r_10_2 hS, r_12_2 hS, r_14_2 hS, r_16_2 hS, r_66_2 hS, r_66_3 hS, r_66_4 hS, r_66_5 hS, r_66_7 hS, r_66_9 hS, r_66_10 hS, r_66_12 hS, r_66_13 hS, r_66_14 hS, r_66_15 hS, r_72_1 hS, r_75_2 hS, r_77_2 hS, r_79_2 hS, r_81_2 hS, r_131_0 hS, r_131_6 hS, r_131_8 hS, r_135_0 hS, r_135_1 hS, r_135_2 hS, r_135_3 hS, r_140_0 hS, r_140_1 hS, r_143_2 hS, r_145_0 hS, r_145_1 hS, r_145_2 hS, r_145_3 hS, r_145_4 hS, r_145_5 hS, r_156_5 hS, k_pv hS, k_pvr hS, k_db hS, k_dbr hS, k_sh hS, l_pvr hS, l_dbr hS, l_sh hS, r_5 hS, r_6 hS, r_pv hS, r_db hS, r_148 hS, ol_s, ol_n, ln_0, ln_1, ln_2, ln_3, ln_4, eq_self, rf_s, rf_n, i01_0, i01_n0, i01_b, b01_0, b01_1, and_self, and_true, true_and, and_false, false_and, if_true, if_false, not_true_eq_false, not_false_eq_true, e10, e00, lt_bg, Nat.reduceLT, Nat.reduceLeDiff, s6, hlt]
      rw [← z0']
      exact R2 d g Q
  · have e : f = P := by omega
    subst e
    have hlt : ¬ nI f < nI f := Int32.not_lt.mpr (Int32.le_refl _)
    have bi : am_inb (nI (41 * f)) 369 = true := inb_n (by omega) (by decide)
    have ci : (nI (41 * f)).toNatClampNeg = 41 * f := nI_clamp (by omega)
    refine ⟨am_u s 158 (41 * f) 0, fun z hz => by rw [u_ne _ _ _ _ hz, F1 z hz], fun t ht => by rw [u_nk _ _ _ _ (by omega), G1 t (by omega)], fun t ht => ?_, fun d g Q => ?_⟩
    · rw [Nat.sub_self]
      have u : lsT W f 0 t = if t = 0 then 0 else 1000000 := rfl
      rw [u]
      by_cases z : t = 0
      · subst z
        rw [if_pos rfl, Nat.add_zero, u_at]
        rfl
      · rw [if_neg z, u_nk _ _ _ _ (by omega)]
        exact H1 t (Nat.zero_le _) ht
    · simp only [s119_0, s119_1, s119_3, s119_4, s119_5, s119_6, ol_s, ol_n, ln_0, ln_1, ln_2, ln_3, ln_4, eq_self, rf_s, rf_n, i01_0, i01_n0, i01_b, b01_0, b01_1, and_self, and_true, true_and, and_false, false_and, if_true, if_false, not_true_eq_false, not_false_eq_true, e10, e00, lt_bg, Nat.reduceLT, Nat.reduceLeDiff, ml]
      rw [← z0', R1]
      simp only [s119_32, s119_33, s119_34, s119_37, s119_40, s119_43, s119_44, s119_47, s119_48, s119_49, s119_50, k_0 hS, k_1 hS, k_2 hS, l_2 hS, k_3 hS, l_3 hS, k_4 hS, l_4 hS, k_5 hS, l_5 hS, k_6 hS, l_6 hS, k_7 hS, k_8 hS, l_8 hS, k_9 hS, l_9 hS, k_10 hS, k_11 hS, l_11 hS, k_12 hS, k_13 hS, l_13 hS, k_14 hS, k_15 hS, l_15 hS, k_16 hS, k_17 hS, l_17 hS, k_66 hS, k_67 hS, l_67 hS, k_68 hS, l_68 hS, k_69 hS, l_69 hS, k_70 hS, l_70 hS, k_71 hS, l_71 hS, k_72 hS, k_73 hS, l_73 hS, k_74 hS, l_74 hS, k_75 hS, k_76 hS, l_76 hS, k_77 hS, k_78 hS, l_78 hS, k_79 hS, k_80 hS, l_80 hS, k_81 hS, k_82 hS, l_82 hS, k_131 hS, k_132 hS, l_132 hS, k_133 hS, l_133 hS, k_134 hS, l_134 hS, k_135 hS, k_136 hS, l_136 hS, k_137 hS, l_137 hS, k_138 hS, l_138 hS, k_139 hS, l_139 hS, k_140 hS, k_141 hS, l_141 hS, k_142 hS, l_142 hS, k_143 hS, k_144 hS, l_144 hS, k_145 hS, k_146 hS, l_146 hS, k_147 hS, l_147 hS, k_148 hS, l_148 hS, k_153 hS, l_153 hS, k_154 hS, l_154 hS, k_155 hS, l_155 hS, k_156 hS, k_157 hS, l_157 hS, k_158 hS, l_158 hS, k_159 hS, l_159 hS, r_0_0 hS, r_0_1 hS, r_0_3 hS, r_0_4 hS, r_0_5 hS, r_0_6 hS, r_0_7 hS, r_0_8 hS, r_0_9 hS, r_0_10 hS, r_1_2 hS, r_1_3 hS, r_1_4 hS, r_1_5 hS, r_1_7 hS, r_1_9 hS, r_1_10 hS, r_1_12 hS, r_1_13 hS, r_1_14 hS, r_1_15 hS, r_7_1 hS, r_10_2 hS, r_12_2 hS, r_14_2 hS, r_16_2 hS, r_66_2 hS, r_66_3 hS, r_66_4 hS, r_66_5 hS, r_66_7 hS, r_66_9 hS, r_66_10 hS, r_66_12 hS, r_66_13 hS, r_66_14 hS, r_66_15 hS, r_72_1 hS, r_75_2 hS, r_77_2 hS, r_79_2 hS, r_81_2 hS, r_131_0 hS, r_131_6 hS, r_131_8 hS, r_135_0 hS, r_135_1 hS, r_135_2 hS, r_135_3 hS, r_140_0 hS, r_140_1 hS, r_143_2 hS, r_145_0 hS, r_145_1 hS, r_145_2 hS, r_145_3 hS, r_145_4 hS, r_145_5 hS, r_156_5 hS, k_pv hS, k_pvr hS, k_db hS, k_dbr hS, k_sh hS, l_pvr hS, l_dbr hS, l_sh hS, r_5 hS, r_6 hS, r_pv hS, r_db hS, r_148 hS, ol_s, ol_n, ln_0, ln_1, ln_2, ln_3, ln_4, eq_self, rf_s, rf_n, i01_0, i01_n0, i01_b, b01_0, b01_1, and_self, and_true, true_and, and_false, false_and, if_true, if_false, not_true_eq_false, not_false_eq_true, e10, e00, lt_bg, Nat.reduceLT, Nat.reduceLeDiff, s6, hlt, bi, ci, z0']
end OBZ
