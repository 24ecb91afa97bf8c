/-! a month: garrisons -/
section OBM
variable {d : Nat} {σ : am_I} {ρ : am_R} {g : am_J} {τ : am_T} {Q : am_Q}
def f_gvC (σ : am_I) : Nat → am_I
  | 0 => σ
  | i + 1 => if f_gvC σ i (18 + 2 * i) 0 ≤ f_gvC σ i 1 1 then am_u (am_u (f_gvC σ i) 1 1 (f_gvC σ i 1 1 - f_gvC σ i (18 + 2 * i) 0)) (18 + 2 * i) 2 0 else am_u (f_gvC σ i) (18 + 2 * i) 2 (f_gvC σ i (18 + 2 * i) 2 + 1)
def f_gvM (σ : am_I) : Nat → am_I
  | 0 => σ
  | i + 1 => if f_gvM σ i 167 i ≤ f_gvM σ i 161 8 then am_u (am_u (f_gvM σ i) 161 8 (f_gvM σ i 161 8 - f_gvM σ i 167 i)) 169 i 0 else am_u (f_gvM σ i) 169 i (f_gvM σ i 169 i + 1)
theorem gvC_ne {y : Nat} (h1 : y ≠ 1) : ∀ n, (∀ i, i < n → y ≠ 18 + 2 * i) → f_gvC σ n y = σ y
  | 0, _ => rfl
  | n + 1, h => by
    unfold f_gvC
    split
    · rw [u_ne _ _ _ _ (h n (by omega)), u_ne _ _ _ _ h1]
      exact gvC_ne h1 n (fun i hi => h i (by omega))
    · rw [u_ne _ _ _ _ (h n (by omega))]
      exact gvC_ne h1 n (fun i hi => h i (by omega))
theorem gvC_k {y k : Nat} (h1 : k ≠ 1) (h2 : k ≠ 2) : ∀ n, f_gvC σ n y k = σ y k
  | 0 => rfl
  | n + 1 => by
    have ih := gvC_k (y := y) h1 h2 n
    unfold f_gvC
    split
    · by_cases e : y = 18 + 2 * n
      · subst e
        rw [u_nk _ _ _ _ h2, u_ne _ _ _ _ (by omega)]
        exact ih
      · rw [u_ne _ _ _ _ e]
        by_cases e1 : y = 1
        · subst e1
          rw [u_nk _ _ _ _ h1]
          exact ih
        · rw [u_ne _ _ _ _ e1]
          exact ih
    · by_cases e : y = 18 + 2 * n
      · subst e
        rw [u_nk _ _ _ _ h2]
        exact ih
      · rw [u_ne _ _ _ _ e]
        exact ih
theorem gvC_1 {p : Nat} : ∀ n, f_gvC σ n (18 + 2 * p) 1 = σ (18 + 2 * p) 1
  | 0 => rfl
  | n + 1 => by
    have ih := gvC_1 (p := p) n
    unfold f_gvC
    split
    · by_cases e : p = n
      · subst e
        rw [u_nk _ _ _ _ (by decide), u_ne _ _ _ _ (by omega)]
        exact ih
      · rw [u_ne _ _ _ _ (by omega), u_ne _ _ _ _ (by omega)]
        exact ih
    · by_cases e : p = n
      · subst e
        rw [u_nk _ _ _ _ (by decide)]
        exact ih
      · rw [u_ne _ _ _ _ (by omega)]
        exact ih
theorem gvC_12 : ∀ n, f_gvC σ n 1 2 = σ 1 2
  | 0 => rfl
  | n + 1 => by
    have ih := gvC_12 n
    unfold f_gvC
    split
    · rw [u_ne _ _ _ _ (by omega), u_nk _ _ _ _ (by decide)]
      exact ih
    · rw [u_ne _ _ _ _ (by omega)]
      exact ih
theorem gvM_ne {y : Nat} (h1 : y ≠ 161) (h2 : y ≠ 169) : ∀ n, f_gvM σ n y = σ y
  | 0 => rfl
  | n + 1 => by
    unfold f_gvM
    split
    · rw [u_ne _ _ _ _ h2, u_ne _ _ _ _ h1]
      exact gvM_ne h1 h2 n
    · rw [u_ne _ _ _ _ h2]
      exact gvM_ne h1 h2 n
theorem gvM_k {k : Nat} (h : k ≠ 8) : ∀ n, f_gvM σ n 161 k = σ 161 k
  | 0 => rfl
  | n + 1 => by
    unfold f_gvM
    split
    · rw [u_ne _ _ _ _ (by decide), u_nk _ _ _ _ h]
      exact gvM_k h n
    · rw [u_ne _ _ _ _ (by decide)]
      exact gvM_k h n
theorem gvC_eq {σ1 : am_I} (E : EqC σ σ1) : ∀ n, n ≤ 8 → EqC (f_gvC σ n) (f_gvC σ1 n)
  | 0, _ => E
  | n + 1, h => by
    have ih := gvC_eq E n (by omega)
    have e1 := ih 1 (Or.inl (by omega))
    have e2 := ih (18 + 2 * n) (Or.inl (by omega))
    intro y hy
    unfold f_gvC
    rw [e1, e2]
    split
    · funext k
      simp only [u_eq, ih y hy]
    · funext k
      simp only [u_eq, ih y hy]
theorem gvM_eq {σ1 : am_I} (E : EqT σ σ1) : ∀ n, EqT (f_gvM σ n) (f_gvM σ1 n)
  | 0 => E
  | n + 1 => by
    obtain ⟨ih, it⟩ := gvM_eq E n
    have e2 := (ih 167 (by omega) (by omega)).1 (by decide)
    have e3 := (ih 169 (by omega) (by omega)).1 (by decide)
    unfold f_gvM
    rw [e2, it, e3]
    split
    · refine ⟨fun y h1 h2 => ⟨fun hy => ?_, fun k hk => ?_⟩, ?_⟩
      · funext k
        simp only [u_eq, (ih y h1 h2).1 hy]
      · simp only [u_eq, (ih y h1 h2).2 k hk]
      · rw [u_ne _ 169 n 0 (show 161 ≠ 169 by decide), u_ne _ 169 n 0 (show 161 ≠ 169 by decide), u_at, u_at]
    · refine ⟨fun y h1 h2 => ⟨fun hy => ?_, fun k hk => ?_⟩, ?_⟩
      · funext k
        simp only [u_eq, (ih y h1 h2).1 hy]
      · simp only [u_eq, (ih y h1 h2).2 k hk]
      · rw [u_ne _ _ _ _ (by decide), u_ne _ _ _ _ (by decide)]
        exact it
theorem c32L (hS : Sh ρ τ) {P : Nat} (hP : σ 1 6 = nI P) (hP8 : P ≤ 8) : ∀ (n i : Nat), i + n = P → AW d 32 2 [.ref 1, .int (nI i)] [] (f_gvC σ i) ρ g τ Q = Q none (f_gvC σ P) ρ g τ
  | 0, i, h => by
    have e : i = P := by omega
    subst e
    have hle : nI i ≤ nI i := Int32.le_refl _
    have e0 : f_gvC σ i 1 6 = nI i := by rw [gvC_k (by decide) (by decide)]; exact hP
    simp only [s32_2, s32_3, s32_4, s32_7, s32_78, k_0 hS, k_1 hS, k_2 hS, l_2 hS, k_3 hS, l_3 hS, k_4 hS, l_4 hS, k_5 hS, l_5 hS, k_6 hS, l_6 hS, k_7 hS, k_8 hS, l_8 hS, k_9 hS, l_9 hS, k_10 hS, k_11 hS, l_11 hS, k_12 hS, k_13 hS, l_13 hS, k_14 hS, k_15 hS, l_15 hS, k_16 hS, k_17 hS, l_17 hS, k_66 hS, k_67 hS, l_67 hS, k_68 hS, l_68 hS, k_69 hS, l_69 hS, k_70 hS, l_70 hS, k_71 hS, l_71 hS, k_72 hS, k_73 hS, l_73 hS, k_74 hS, l_74 hS, k_75 hS, k_76 hS, l_76 hS, k_77 hS, k_78 hS, l_78 hS, k_79 hS, k_80 hS, l_80 hS, k_81 hS, k_82 hS, l_82 hS, k_131 hS, k_132 hS, l_132 hS, k_133 hS, l_133 hS, k_134 hS, l_134 hS, k_135 hS, k_136 hS, l_136 hS, k_137 hS, l_137 hS, k_138 hS, l_138 hS, k_139 hS, l_139 hS, k_140 hS, k_141 hS, l_141 hS, k_142 hS, l_142 hS, k_143 hS, k_144 hS, l_144 hS, k_145 hS, k_146 hS, l_146 hS, k_147 hS, l_147 hS, k_148 hS, l_148 hS, k_153 hS, l_153 hS, k_154 hS, l_154 hS, k_155 hS, l_155 hS, k_156 hS, k_157 hS, l_157 hS, k_158 hS, l_158 hS, k_159 hS, l_159 hS, r_0_0 hS, r_0_1 hS, r_0_3 hS, r_0_4 hS, r_0_5 hS, r_0_6 hS, r_0_7 hS, r_0_8 hS, r_0_9 hS, r_0_10 hS, r_1_2 hS, r_1_3 hS, r_1_4 hS, r_1_5 hS, r_1_7 hS, r_1_9 hS, r_1_10 hS, r_1_12 hS, r_1_13 hS, r_1_14 hS, r_1_15 hS, r_7_1 hS, r_10_2 hS, r_12_2 hS, r_14_2 hS, r_16_2 hS, r_66_2 hS, r_66_3 hS, r_66_4 hS, r_66_5 hS, r_66_7 hS, r_66_9 hS, r_66_10 hS, r_66_12 hS, r_66_13 hS, r_66_14 hS, r_66_15 hS, r_72_1 hS, r_75_2 hS, r_77_2 hS, r_79_2 hS, r_81_2 hS, r_131_0 hS, r_131_6 hS, r_131_8 hS, r_135_0 hS, r_135_1 hS, r_135_2 hS, r_135_3 hS, r_140_0 hS, r_140_1 hS, r_143_2 hS, r_145_0 hS, r_145_1 hS, r_145_2 hS, r_145_3 hS, r_145_4 hS, r_145_5 hS, r_156_5 hS, k_pv hS, k_pvr hS, k_db hS, k_dbr hS, k_sh hS, l_pvr hS, l_dbr hS, l_sh hS, r_5 hS, r_6 hS, r_pv hS, r_db hS, r_148 hS, ol_s, ol_n, ln_0, ln_1, ln_2, ln_3, ln_4, eq_self, rf_s, rf_n, i01_0, i01_n0, i01_b, b01_0, b01_1, and_self, and_true, true_and, and_false, false_and, if_true, if_false, not_true_eq_false, not_false_eq_true, e10, e00, lt_bg, Nat.reduceLT, Nat.reduceLeDiff, e0, hle]
  | n + 1, i, h => by
    have hlt : ¬ nI P ≤ nI i := nI_ge (by omega) (by omega)
    have hi : am_inb (nI i) 8 = true := inb_n (by omega) (by decide)
    have hc : (nI i).toNatClampNeg = i := nI_clamp (by omega)
    have hi8 : i < 8 := by omega
    have hbg : 18 + 2 * i < 1000000 := by omega
    have e0 : f_gvC σ i 1 6 = nI P := by rw [gvC_k (by decide) (by decide)]; exact hP
    have ih := c32L hS hP hP8 n (i + 1) (by omega)
    have un : f_gvC σ (i + 1) = if f_gvC σ i (18 + 2 * i) 0 ≤ f_gvC σ i 1 1 then am_u (am_u (f_gvC σ i) 1 1 (f_gvC σ i 1 1 - f_gvC σ i (18 + 2 * i) 0)) (18 + 2 * i) 2 0 else am_u (f_gvC σ i) (18 + 2 * i) 2 (f_gvC σ i (18 + 2 * i) 2 + 1) := rfl
    rw [un] at ih
    rw [s32_2]
    by_cases q : f_gvC σ i (18 + 2 * i) 0 ≤ f_gvC σ i 1 1
    · have q2 : ¬ f_gvC σ i 1 1 < f_gvC σ i (18 + 2 * i) 0 := Int32.not_lt.mpr q
      rw [if_pos q] at ih
      simp only [s32_3, s32_4, s32_7, s32_10, s32_11, s32_14, s32_15, s32_18, s32_19, s32_20, s32_23, s32_26, s32_27, s32_27r, s32_28, s32_31, s32_32, s32_35, s32_36, s32_37, s32_40, s32_41, s32_44, s32_45, s32_48, s32_49, s32_50, s32_51, s32_54, s32_57, s32_58, s32_61, s32_62, s32_63, s32_63r, s32_64, s32_67, s32_68, s32_69, s32_72r, s32_75, k_0 hS, k_1 hS, k_2 hS, l_2 hS, k_3 hS, l_3 hS, k_4 hS, l_4 hS, k_5 hS, l_5 hS, k_6 hS, l_6 hS, k_7 hS, k_8 hS, l_8 hS, k_9 hS, l_9 hS, k_10 hS, k_11 hS, l_11 hS, k_12 hS, k_13 hS, l_13 hS, k_14 hS, k_15 hS, l_15 hS, k_16 hS, k_17 hS, l_17 hS, k_66 hS, k_67 hS, l_67 hS, k_68 hS, l_68 hS, k_69 hS, l_69 hS, k_70 hS, l_70 hS, k_71 hS, l_71 hS, k_72 hS, k_73 hS, l_73 hS, k_74 hS, l_74 hS, k_75 hS, k_76 hS, l_76 hS, k_77 hS, k_78 hS, l_78 hS, k_79 hS, k_80 hS, l_80 hS, k_81 hS, k_82 hS, l_82 hS, k_131 hS, k_132 hS, l_132 hS, k_133 hS, l_133 hS, k_134 hS, l_134 hS, k_135 hS, k_136 hS, l_136 hS, k_137 hS, l_137 hS, k_138 hS, l_138 hS, k_139 hS, l_139 hS, k_140 hS, k_141 hS, l_141 hS, k_142 hS, l_142 hS, k_143 hS, k_144 hS, l_144 hS, k_145 hS, k_146 hS, l_146 hS, k_147 hS, l_147 hS, k_148 hS, l_148 hS, k_153 hS, l_153 hS, k_154 hS, l_154 hS, k_155 hS, l_155 hS, k_156 hS, k_157 hS, l_157 hS, k_158 hS, l_158 hS, k_159 hS, l_159 hS, r_0_0 hS, r_0_1 hS, r_0_3 hS, r_0_4 hS, r_0_5 hS, r_0_6 hS, r_0_7 hS, r_0_8 hS, r_0_9 hS, r_0_10 hS, r_1_2 hS, r_1_3 hS, r_1_4 hS, r_1_5 hS, r_1_7 hS, r_1_9 hS, r_1_10 hS, r_1_12 hS, r_1_13 hS, r_1_14 hS, r_1_15 hS, r_7_1 hS, r_10_2 hS, r_12_2 hS, r_14_2 hS, r_16_2 hS, r_66_2 hS, r_66_3 hS, r_66_4 hS, r_66_5 hS, r_66_7 hS, r_66_9 hS, r_66_10 hS, r_66_12 hS, r_66_13 hS, r_66_14 hS, r_66_15 hS, r_72_1 hS, r_75_2 hS, r_77_2 hS, r_79_2 hS, r_81_2 hS, r_131_0 hS, r_131_6 hS, r_131_8 hS, r_135_0 hS, r_135_1 hS, r_135_2 hS, r_135_3 hS, r_140_0 hS, r_140_1 hS, r_143_2 hS, r_145_0 hS, r_145_1 hS, r_145_2 hS, r_145_3 hS, r_145_4 hS, r_145_5 hS, r_156_5 hS, k_pv hS, k_pvr hS, k_db hS, k_dbr hS, k_sh hS, l_pvr hS, l_dbr hS, l_sh hS, r_5 hS, r_6 hS, r_pv hS, r_db hS, r_148 hS, ol_s, ol_n, ln_0, ln_1, ln_2, ln_3, ln_4, eq_self, rf_s, rf_n, i01_0, i01_n0, i01_b, b01_0, b01_1, and_self, and_true, true_and, and_false, false_and, if_true, if_false, not_true_eq_false, not_false_eq_true, e10, e00, lt_bg, Nat.reduceLT, Nat.reduceLeDiff, e0, hlt, hi, hc, hi8, hbg, q2, nI_1]
      exact ih
    · have q2 : f_gvC σ i 1 1 < f_gvC σ i (18 + 2 * i) 0 := Int32.not_le.mp q
      rw [if_neg q] at ih
      simp only [s32_3, s32_4, s32_7, s32_10, s32_11, s32_14, s32_15, s32_18, s32_19, s32_20, s32_23, s32_26, s32_27, s32_27r, s32_28, s32_31, s32_32, s32_35, s32_36, s32_37, s32_40, s32_41, s32_44, s32_45, s32_48, s32_49, s32_50, s32_51, s32_54, s32_57, s32_58, s32_61, s32_62, s32_63, s32_63r, s32_64, s32_67, s32_68, s32_69, s32_72r, s32_75, k_0 hS, k_1 hS, k_2 hS, l_2 hS, k_3 hS, l_3 hS, k_4 hS, l_4 hS, k_5 hS, l_5 hS, k_6 hS, l_6 hS, k_7 hS, k_8 hS, l_8 hS, k_9 hS, l_9 hS, k_10 hS, k_11 hS, l_11 hS, k_12 hS, k_13 hS, l_13 hS, k_14 hS, k_15 hS, l_15 hS, k_16 hS, k_17 hS, l_17 hS, k_66 hS, k_67 hS, l_67 hS, k_68 hS, l_68 hS, k_69 hS, l_69 hS, k_70 hS, l_70 hS, k_71 hS, l_71 hS, k_72 hS, k_73 hS, l_73 hS, k_74 hS, l_74 hS, k_75 hS, k_76 hS, l_76 hS, k_77 hS, k_78 hS, l_78 hS, k_79 hS, k_80 hS, l_80 hS, k_81 hS, k_82 hS, l_82 hS, k_131 hS, k_132 hS, l_132 hS, k_133 hS, l_133 hS, k_134 hS, l_134 hS, k_135 hS, k_136 hS, l_136 hS, k_137 hS, l_137 hS, k_138 hS, l_138 hS, k_139 hS, l_139 hS, k_140 hS, k_141 hS, l_141 hS, k_142 hS, l_142 hS, k_143 hS, k_144 hS, l_144 hS, k_145 hS, k_146 hS, l_146 hS, k_147 hS, l_147 hS, k_148 hS, l_148 hS, k_153 hS, l_153 hS, k_154 hS, l_154 hS, k_155 hS, l_155 hS, k_156 hS, k_157 hS, l_157 hS, k_158 hS, l_158 hS, k_159 hS, l_159 hS, r_0_0 hS, r_0_1 hS, r_0_3 hS, r_0_4 hS, r_0_5 hS, r_0_6 hS, r_0_7 hS, r_0_8 hS, r_0_9 hS, r_0_10 hS, r_1_2 hS, r_1_3 hS, r_1_4 hS, r_1_5 hS, r_1_7 hS, r_1_9 hS, r_1_10 hS, r_1_12 hS, r_1_13 hS, r_1_14 hS, r_1_15 hS, r_7_1 hS, r_10_2 hS, r_12_2 hS, r_14_2 hS, r_16_2 hS, r_66_2 hS, r_66_3 hS, r_66_4 hS, r_66_5 hS, r_66_7 hS, r_66_9 hS, r_66_10 hS, r_66_12 hS, r_66_13 hS, r_66_14 hS, r_66_15 hS, r_72_1 hS, r_75_2 hS, r_77_2 hS, r_79_2 hS, r_81_2 hS, r_131_0 hS, r_131_6 hS, r_131_8 hS, r_135_0 hS, r_135_1 hS, r_135_2 hS, r_135_3 hS, r_140_0 hS, r_140_1 hS, r_143_2 hS, r_145_0 hS, r_145_1 hS, r_145_2 hS, r_145_3 hS, r_145_4 hS, r_145_5 hS, r_156_5 hS, k_pv hS, k_pvr hS, k_db hS, k_dbr hS, k_sh hS, l_pvr hS, l_dbr hS, l_sh hS, r_5 hS, r_6 hS, r_pv hS, r_db hS, r_148 hS, ol_s, ol_n, ln_0, ln_1, ln_2, ln_3, ln_4, eq_self, rf_s, rf_n, i01_0, i01_n0, i01_b, b01_0, b01_1, and_self, and_true, true_and, and_false, false_and, if_true, if_false, not_true_eq_false, not_false_eq_true, e10, e00, lt_bg, Nat.reduceLT, Nat.reduceLeDiff, e0, hlt, hi, hc, hi8, hbg, q2, nI_1]
      exact ih
theorem c222g (hS : Sh ρ τ) {P : Nat} (hP : σ 161 1 = nI P) (hP8 : P ≤ 8) {x1 : Int32} {x3 x4 x5 : Value} : ∀ (n i : Nat), i + n = P → AW d 222 180 [.ref 160, .int x1, .int (nI i), x3, x4, x5] [] (f_gvM σ i) ρ g τ Q = AW d 222 248 [.ref 160, .int x1, .int (nI P), x3, x4, x5] [] (f_gvM σ P) ρ g τ Q
  | 0, i, h => by
    have e : i = P := by omega
    subst e
    have hle : nI i ≤ nI i := Int32.le_refl _
    have k1 : am_inb 1 9 = true := by decide
    have e0 : f_gvM σ i 161 1 = nI i := by rw [gvM_k (by decide)]; exact hP
    simp only [s222_180, s222_181, s222_182, s222_185, s222_186, s222_187, k_160 hS, k_161 hS, l_161 hS, k_162 hS, l_162 hS, k_163 hS, l_163 hS, k_164 hS, l_164 hS, k_165 hS, l_165 hS, k_166 hS, l_166 hS, k_167 hS, l_167 hS, k_168 hS, l_168 hS, k_169 hS, l_169 hS, k_170 hS, l_170 hS, k_171 hS, l_171 hS, k_172 hS, l_172 hS, k_173 hS, l_173 hS, k_174 hS, l_174 hS, k_175 hS, l_175 hS, k_176 hS, l_176 hS, k_177 hS, l_177 hS, k_178 hS, l_178 hS, k_179 hS, l_179 hS, k_180 hS, l_180 hS, k_181 hS, l_181 hS, k_182 hS, l_182 hS, k_183 hS, l_183 hS, k_184 hS, l_184 hS, k_185 hS, l_185 hS, k_186 hS, l_186 hS, k_187 hS, l_187 hS, k_188 hS, l_188 hS, k_189 hS, l_189 hS, k_190 hS, l_190 hS, k_191 hS, l_191 hS, k_192 hS, l_192 hS, k_193 hS, l_193 hS, k_194 hS, l_194 hS, k_195 hS, l_195 hS, k_196 hS, l_196 hS, k_197 hS, l_197 hS, k_198 hS, l_198 hS, k_199 hS, l_199 hS, k_200 hS, l_200 hS, k_201 hS, l_201 hS, k_202 hS, l_202 hS, k_203 hS, l_203 hS, k_204 hS, l_204 hS, k_205 hS, l_205 hS, k_206 hS, l_206 hS, k_207 hS, l_207 hS, k_208 hS, l_208 hS, k_209 hS, l_209 hS, k_210 hS, l_210 hS, k_211 hS, l_211 hS, k_212 hS, l_212 hS, k_213 hS, l_213 hS, k_214 hS, l_214 hS, k_215 hS, l_215 hS, k_216 hS, l_216 hS, k_217 hS, l_217 hS, k_218 hS, l_218 hS, k_219 hS, l_219 hS, k_220 hS, l_220 hS, r_160_0 hS, r_160_1 hS, r_160_2 hS, r_160_3 hS, r_160_4 hS, r_160_5 hS, r_160_6 hS, r_160_7 hS, r_160_8 hS, r_160_9 hS, r_160_10 hS, r_160_11 hS, r_160_12 hS, r_160_13 hS, r_160_14 hS, r_160_15 hS, r_160_16 hS, r_160_17 hS, r_160_18 hS, r_160_19 hS, r_160_20 hS, r_160_21 hS, r_160_22 hS, r_160_23 hS, r_160_24 hS, r_160_25 hS, r_160_26 hS, r_160_27 hS, r_160_28 hS, r_160_29 hS, r_160_30 hS, r_160_31 hS, r_160_32 hS, r_160_33 hS, r_160_34 hS, r_160_35 hS, r_160_36 hS, r_160_37 hS, r_160_38 hS, r_160_39 hS, r_160_40 hS, r_160_41 hS, r_160_43 hS, r_160_45 hS, r_160_46 hS, r_160_48 hS, r_160_49 hS, r_160_50 hS, r_160_51 hS, r_160_52 hS, r_160_53 hS, r_160_54 hS, r_160_56 hS, r_160_63 hS, r_160_64 hS, r_160_65 hS, r_160_66 hS, r_160_67 hS, r_160_68 hS, r_160_69 hS, ol_s, ol_n, ln_0, ln_1, ln_2, ln_3, ln_4, eq_self, rf_s, rf_n, i01_0, i01_n0, i01_b, b01_0, b01_1, and_self, and_true, true_and, and_false, false_and, if_true, if_false, not_true_eq_false, not_false_eq_true, e10, e00, lt_bg, Nat.reduceLT, Nat.reduceLeDiff, k1, z1, e0, hle]
  | n + 1, i, h => by
    have hlt : ¬ nI P ≤ nI i := nI_ge (by omega) (by omega)
    have k1 : am_inb 1 9 = true := by decide
    have k8 : am_inb 8 9 = true := by decide
    have hi : am_inb (nI i) 8 = true := inb_n (by omega) (by decide)
    have hc : (nI i).toNatClampNeg = i := nI_clamp (by omega)
    have e0 : f_gvM σ i 161 1 = nI P := by rw [gvM_k (by decide)]; exact hP
    have ih := c222g hS hP hP8 (x1 := x1) (x3 := x3) (x4 := x4) (x5 := x5) n (i + 1) (by omega)
    have un : f_gvM σ (i + 1) = if f_gvM σ i 167 i ≤ f_gvM σ i 161 8 then am_u (am_u (f_gvM σ i) 161 8 (f_gvM σ i 161 8 - f_gvM σ i 167 i)) 169 i 0 else am_u (f_gvM σ i) 169 i (f_gvM σ i 169 i + 1) := rfl
    rw [un] at ih
    rw [s222_180]
    by_cases q : f_gvM σ i 167 i ≤ f_gvM σ i 161 8
    · have q2 : ¬ f_gvM σ i 161 8 < f_gvM σ i 167 i := Int32.not_lt.mpr q
      rw [if_pos q] at ih
      simp only [s222_181, s222_182, s222_185, s222_186, s222_187, s222_190, s222_191, s222_194, s222_196, s222_197, s222_198, s222_201, s222_202, s222_203, s222_206, s222_207, s222_210, s222_212, s222_213, s222_214, s222_215, s222_218, s222_219, s222_220, s222_221, s222_222, s222_223, s222_226, s222_227, s222_228, s222_229, s222_232, s222_233, s222_236, s222_237, s222_238, s222_239, s222_240, s222_241, s222_242, s222_245, k_160 hS, k_161 hS, l_161 hS, k_162 hS, l_162 hS, k_163 hS, l_163 hS, k_164 hS, l_164 hS, k_165 hS, l_165 hS, k_166 hS, l_166 hS, k_167 hS, l_167 hS, k_168 hS, l_168 hS, k_169 hS, l_169 hS, k_170 hS, l_170 hS, k_171 hS, l_171 hS, k_172 hS, l_172 hS, k_173 hS, l_173 hS, k_174 hS, l_174 hS, k_175 hS, l_175 hS, k_176 hS, l_176 hS, k_177 hS, l_177 hS, k_178 hS, l_178 hS, k_179 hS, l_179 hS, k_180 hS, l_180 hS, k_181 hS, l_181 hS, k_182 hS, l_182 hS, k_183 hS, l_183 hS, k_184 hS, l_184 hS, k_185 hS, l_185 hS, k_186 hS, l_186 hS, k_187 hS, l_187 hS, k_188 hS, l_188 hS, k_189 hS, l_189 hS, k_190 hS, l_190 hS, k_191 hS, l_191 hS, k_192 hS, l_192 hS, k_193 hS, l_193 hS, k_194 hS, l_194 hS, k_195 hS, l_195 hS, k_196 hS, l_196 hS, k_197 hS, l_197 hS, k_198 hS, l_198 hS, k_199 hS, l_199 hS, k_200 hS, l_200 hS, k_201 hS, l_201 hS, k_202 hS, l_202 hS, k_203 hS, l_203 hS, k_204 hS, l_204 hS, k_205 hS, l_205 hS, k_206 hS, l_206 hS, k_207 hS, l_207 hS, k_208 hS, l_208 hS, k_209 hS, l_209 hS, k_210 hS, l_210 hS, k_211 hS, l_211 hS, k_212 hS, l_212 hS, k_213 hS, l_213 hS, k_214 hS, l_214 hS, k_215 hS, l_215 hS, k_216 hS, l_216 hS, k_217 hS, l_217 hS, k_218 hS, l_218 hS, k_219 hS, l_219 hS, k_220 hS, l_220 hS, r_160_0 hS, r_160_1 hS, r_160_2 hS, r_160_3 hS, r_160_4 hS, r_160_5 hS, r_160_6 hS, r_160_7 hS, r_160_8 hS, r_160_9 hS, r_160_10 hS, r_160_11 hS, r_160_12 hS, r_160_13 hS, r_160_14 hS, r_160_15 hS, r_160_16 hS, r_160_17 hS, r_160_18 hS, r_160_19 hS, r_160_20 hS, r_160_21 hS, r_160_22 hS, r_160_23 hS, r_160_24 hS, r_160_25 hS, r_160_26 hS, r_160_27 hS, r_160_28 hS, r_160_29 hS, r_160_30 hS, r_160_31 hS, r_160_32 hS, r_160_33 hS, r_160_34 hS, r_160_35 hS, r_160_36 hS, r_160_37 hS, r_160_38 hS, r_160_39 hS, r_160_40 hS, r_160_41 hS, r_160_43 hS, r_160_45 hS, r_160_46 hS, r_160_48 hS, r_160_49 hS, r_160_50 hS, r_160_51 hS, r_160_52 hS, r_160_53 hS, r_160_54 hS, r_160_56 hS, r_160_63 hS, r_160_64 hS, r_160_65 hS, r_160_66 hS, r_160_67 hS, r_160_68 hS, r_160_69 hS, ol_s, ol_n, ln_0, ln_1, ln_2, ln_3, ln_4, eq_self, rf_s, rf_n, i01_0, i01_n0, i01_b, b01_0, b01_1, and_self, and_true, true_and, and_false, false_and, if_true, if_false, not_true_eq_false, not_false_eq_true, e10, e00, lt_bg, Nat.reduceLT, Nat.reduceLeDiff, k1, k8, z1, z8, e0, hlt, hi, hc, q2, nI_1]
      exact ih
    · have q2 : f_gvM σ i 161 8 < f_gvM σ i 167 i := Int32.not_le.mp q
      rw [if_neg q] at ih
      simp only [s222_181, s222_182, s222_185, s222_186, s222_187, s222_190, s222_191, s222_194, s222_196, s222_197, s222_198, s222_201, s222_202, s222_203, s222_206, s222_207, s222_210, s222_212, s222_213, s222_214, s222_215, s222_218, s222_219, s222_220, s222_221, s222_222, s222_223, s222_226, s222_227, s222_228, s222_229, s222_232, s222_233, s222_236, s222_237, s222_238, s222_239, s222_240, s222_241, s222_242, s222_245, k_160 hS, k_161 hS, l_161 hS, k_162 hS, l_162 hS, k_163 hS, l_163 hS, k_164 hS, l_164 hS, k_165 hS, l_165 hS, k_166 hS, l_166 hS, k_167 hS, l_167 hS, k_168 hS, l_168 hS, k_169 hS, l_169 hS, k_170 hS, l_170 hS, k_171 hS, l_171 hS, k_172 hS, l_172 hS, k_173 hS, l_173 hS, k_174 hS, l_174 hS, k_175 hS, l_175 hS, k_176 hS, l_176 hS, k_177 hS, l_177 hS, k_178 hS, l_178 hS, k_179 hS, l_179 hS, k_180 hS, l_180 hS, k_181 hS, l_181 hS, k_182 hS, l_182 hS, k_183 hS, l_183 hS, k_184 hS, l_184 hS, k_185 hS, l_185 hS, k_186 hS, l_186 hS, k_187 hS, l_187 hS, k_188 hS, l_188 hS, k_189 hS, l_189 hS, k_190 hS, l_190 hS, k_191 hS, l_191 hS, k_192 hS, l_192 hS, k_193 hS, l_193 hS, k_194 hS, l_194 hS, k_195 hS, l_195 hS, k_196 hS, l_196 hS, k_197 hS, l_197 hS, k_198 hS, l_198 hS, k_199 hS, l_199 hS, k_200 hS, l_200 hS, k_201 hS, l_201 hS, k_202 hS, l_202 hS, k_203 hS, l_203 hS, k_204 hS, l_204 hS, k_205 hS, l_205 hS, k_206 hS, l_206 hS, k_207 hS, l_207 hS, k_208 hS, l_208 hS, k_209 hS, l_209 hS, k_210 hS, l_210 hS, k_211 hS, l_211 hS, k_212 hS, l_212 hS, k_213 hS, l_213 hS, k_214 hS, l_214 hS, k_215 hS, l_215 hS, k_216 hS, l_216 hS, k_217 hS, l_217 hS, k_218 hS, l_218 hS, k_219 hS, l_219 hS, k_220 hS, l_220 hS, r_160_0 hS, r_160_1 hS, r_160_2 hS, r_160_3 hS, r_160_4 hS, r_160_5 hS, r_160_6 hS, r_160_7 hS, r_160_8 hS, r_160_9 hS, r_160_10 hS, r_160_11 hS, r_160_12 hS, r_160_13 hS, r_160_14 hS, r_160_15 hS, r_160_16 hS, r_160_17 hS, r_160_18 hS, r_160_19 hS, r_160_20 hS, r_160_21 hS, r_160_22 hS, r_160_23 hS, r_160_24 hS, r_160_25 hS, r_160_26 hS, r_160_27 hS, r_160_28 hS, r_160_29 hS, r_160_30 hS, r_160_31 hS, r_160_32 hS, r_160_33 hS, r_160_34 hS, r_160_35 hS, r_160_36 hS, r_160_37 hS, r_160_38 hS, r_160_39 hS, r_160_40 hS, r_160_41 hS, r_160_43 hS, r_160_45 hS, r_160_46 hS, r_160_48 hS, r_160_49 hS, r_160_50 hS, r_160_51 hS, r_160_52 hS, r_160_53 hS, r_160_54 hS, r_160_56 hS, r_160_63 hS, r_160_64 hS, r_160_65 hS, r_160_66 hS, r_160_67 hS, r_160_68 hS, r_160_69 hS, ol_s, ol_n, ln_0, ln_1, ln_2, ln_3, ln_4, eq_self, rf_s, rf_n, i01_0, i01_n0, i01_b, b01_0, b01_1, and_self, and_true, true_and, and_false, false_and, if_true, if_false, not_true_eq_false, not_false_eq_true, e10, e00, lt_bg, Nat.reduceLT, Nat.reduceLeDiff, k1, k8, z1, z8, e0, hlt, hi, hc, q2, nI_1]
      exact ih
/-- both treasuries stay one number, and so do the months of lateness -/
theorem gv_rel {c : Cn} (hc : Rld 1 161 c σ ρ τ) : ∀ n, n ≤ c 1 → (∃ t, t ≤ 99999 ∧ f_gvC σ n 1 1 = nI t ∧ f_gvM σ n 161 8 = nI t) ∧ ∀ p, p < c 1 → f_gvC σ n (18 + 2 * p) 2 = f_gvM σ n 169 p
  | 0, _ => ⟨tre_n hc, fun p hp => (hc.pr p hp).2.2.1⟩
  | n + 1, h => by
    have b := hc.bn
    unfold Bn at b
    obtain ⟨⟨t, ht, t1, t2⟩, R⟩ := gv_rel hc n (by omega)
    obtain ⟨pa, hpa, a1, a2⟩ := (hc.pr n (by omega)).1
    have a1 : f_gvC σ n (18 + 2 * n) 0 = nI pa := by rw [gvC_k (by decide) (by decide)]; exact a1
    have a2 : f_gvM σ n 167 n = nI pa := by rw [gvM_ne (by decide) (by decide)]; exact a2
    unfold f_gvC f_gvM
    rw [t1, t2, a1, a2]
    by_cases q : pa ≤ t
    · have q1 : nI pa ≤ nI t := nI_le q (by omega)
      rw [if_pos q1, if_pos q1, pk_sub q]
      refine ⟨⟨t - pa, by omega, ?_, ?_⟩, fun p hp => ?_⟩
      · rw [u_ne _ _ _ _ (by omega), u_at]
      · rw [u_ne _ _ _ _ (by decide), u_at]
      · by_cases e : p = n
        · subst e
          rw [u_at, u_at]
        · rw [u_ne _ _ _ _ (by omega), u_ne _ _ _ _ (by omega), u_nk _ _ _ _ e, u_ne _ _ _ _ (by decide)]
          exact R p hp
    · have q1 : ¬ nI pa ≤ nI t := nI_ge (by omega) (by omega)
      rw [if_neg q1, if_neg q1]
      refine ⟨⟨t, ht, ?_, ?_⟩, fun p hp => ?_⟩
      · rw [u_ne _ _ _ _ (by omega)]
        exact t1
      · rw [u_ne _ _ _ _ (by decide)]
        exact t2
      · by_cases e : p = n
        · subst e
          rw [u_at, u_at, R p hp]
        · rw [u_ne _ _ _ _ (by omega), u_nk _ _ _ _ e]
          exact R p hp
end OBM
