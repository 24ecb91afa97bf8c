/-! least: the most guards that a province has in a best way -/
section OCH
variable {d : Nat} {σ : am_I} {ρ : am_R} {g : am_J} {τ : am_T} {Q : am_Q}
def lsM (W pv : Nat → Nat) (cur k : Nat) : Nat → Nat
  | 0 => 0
  | h + 1 => if pv (k - (h + 1)) + W (h + 1) = cur then h + 1 else lsM W pv cur k h
theorem lsM_le {W pv : Nat → Nat} {cur k : Nat} : ∀ h, lsM W pv cur k h ≤ h
  | 0 => Nat.le_refl _
  | h + 1 => by
    have i := lsM_le (W := W) (pv := pv) (cur := cur) (k := k) h
    by_cases q : pv (k - (h + 1)) + W (h + 1) = cur
    · have u : lsM W pv cur k (h + 1) = h + 1 := if_pos q
      omega
    · have u : lsM W pv cur k (h + 1) = lsM W pv cur k h := if_neg q
      omega
/-- the least is reached -/
theorem lsF_at {W pv : Nat → Nat} {k : Nat} : ∀ h, lsF W pv k h < 1000000 → ∃ j, j < h ∧ j ≤ k ∧ lsF W pv k h = pv (k - j) + W j
  | 0, q => absurd q (Nat.lt_irrefl _)
  | h + 1, q => by
    by_cases z : h ≤ k
    · have u : lsF W pv k (h + 1) = min (lsF W pv k h) (pv (k - h) + W h) := if_pos z
      rw [u] at q ⊢
      by_cases y : lsF W pv k h ≤ pv (k - h) + W h
      · rw [Nat.min_eq_left y] at q ⊢
        obtain ⟨j, j1, j2, j3⟩ := lsF_at h q
        exact ⟨j, by omega, j2, j3⟩
      · exact ⟨h, by omega, z, Nat.min_eq_right (by omega)⟩
    · have u : lsF W pv k (h + 1) = lsF W pv k h := if_neg z
      rw [u] at q ⊢
      obtain ⟨j, j1, j2, j3⟩ := lsF_at h q
      exact ⟨j, by omega, j2, j3⟩
/-- what is chosen reaches the least -/
theorem lsM_at {W pv : Nat → Nat} {cur k : Nat} : ∀ h, (∃ j, j ≤ h ∧ pv (k - j) + W j = cur) → pv (k - lsM W pv cur k h) + W (lsM W pv cur k h) = cur
  | 0, ⟨j, j1, j2⟩ => by
    have e : j = 0 := by omega
    subst e
    exact j2
  | h + 1, ⟨j, j1, j2⟩ => by
    by_cases q : pv (k - (h + 1)) + W (h + 1) = cur
    · have u : lsM W pv cur k (h + 1) = h + 1 := if_pos q
      rw [u]
      exact q
    · have u : lsM W pv cur k (h + 1) = lsM W pv cur k h := if_neg q
      rw [u]
      refine lsM_at h ⟨j, ?_, j2⟩
      by_cases z : j = h + 1
      · subst z
        exact absurd j2 q
      · omega
theorem c121L (hS : Sh ρ τ) {σ0 : am_I} {f m k cur : Nat} (hf : f ≤ 7) (hk : k ≤ 40) {W1 pv : Nat → Nat} (hW : ∀ j, j ≤ 9 → WR m σ0 ρ τ f j (W1 j)) (hE : EqC σ0 σ) (hpv : ∀ t, pv t ≤ 1000000) (hv : ∀ t, t < 41 → σ 158 (41 * f + 41 + t) = nI (pv t)) (hc : σ 158 (41 * f + k) = nI cur) (hcu : cur ≤ 1000000) : ∀ (h : Nat) (x6 : Value), h ≤ 9 → h ≤ k → ∀ (d : Nat) (g : am_J) (Q : am_Q), AW (d + 2) 121 14 [.ref 0, .int (nI f), .int (nI k), .int (nI m), .int (nI (41 * f)), .int (nI h), x6] [] σ ρ g τ Q = Q (some (.int (nI (lsM W1 pv cur k h)))) σ ρ g τ
  | 0, x6, _, _, d, g, Q => by
    have hle : (nI 0 ≤ 0) = True := by decide
    have u : nI (lsM W1 pv cur k 0) = 0 := rfl
    rw [u]
    simp only [s121_14, s121_16, s121_73, s121_74, ol_s, ol_n, ln_0, ln_1, ln_2, ln_3, ln_4, eq_self, rf_s, rf_n, i01_0, i01_n0, i01_b, b01_0, b01_1, and_self, and_true, true_and, and_false, false_and, if_true, if_false, not_true_eq_false, not_false_eq_true, e10, e00, lt_bg, Nat.reduceLT, Nat.reduceLeDiff, hle]
  | h + 1, x6, h9, hk2, d, g, Q => by
    have e40 : nI 40 = (40 : Int32) := by decide
    have hle : ¬ nI (h + 1) ≤ 0 := nI_ge (a := 0) (by omega) (by omega)
    have pm : nI (h + 1) + (-1) = nI h := by rw [← nI_pred h, Int32.sub_eq_add_neg]
    have bi : am_inb (nI (41 * f + k)) 369 = true := inb_n (by omega) (by decide)
    have ci : (nI (41 * f + k)).toNatClampNeg = 41 * f + k := nI_clamp (by omega)
    have p1 : nI (41 * f) + 40 + 1 = nI (41 * f + 41) := by
      rw [← e40, nI_add, nI_1]
    have p2 : nI (41 * f + 41 + k) - nI (h + 1) = nI (41 * f + 41 + (k - (h + 1))) := by
      rw [pk_sub (by omega)]
      congr 1
      omega
    have bj : am_inb (nI (41 * f + 41 + (k - (h + 1)))) 369 = true := inb_n (by omega) (by decide)
    have cj : (nI (41 * f + 41 + (k - (h + 1)))).toNatClampNeg = 41 * f + 41 + (k - (h + 1)) := nI_clamp (by omega)
    have r1 := hv (k - (h + 1)) (by omega)
    obtain ⟨w1, w2, _⟩ := hW (h + 1) (by omega)
    have w2 := w2 σ hE
    have b1 := hpv (k - (h + 1))
    have ih := fun (x6 : Value) => c121L hS hf hk hW hE hpv hv hc hcu h x6 (by omega) (by omega) d g Q
    rw [s121_14]
    by_cases q : pv (k - (h + 1)) + W1 (h + 1) = cur
    · have u : lsM W1 pv cur k (h + 1) = h + 1 := if_pos q
      rw [u]
      simp only [s121_16, s121_19, s121_20, s121_23, s121_25, s121_27, s121_28, s121_29, s121_30, s121_31, s121_32, s121_34, s121_35, s121_36, s121_38, s121_40, s121_41, s121_44, s121_45, s121_46, s121_48, s121_51, s121_52, s121_53, s121_56, s121_58, s121_59, s121_60, s121_61, s121_64, s121_66, k_0 hS, k_1 hS, k_2 hS, l_2 hS, k_3 hS, l_3 hS, k_4 hS, l_4 hS, k_5 hS, l_5 hS, k_6 hS, l_6 hS, k_7 hS, k_8 hS, l_8 hS, k_9 hS, l_9 hS, k_10 hS, k_11 hS, l_11 hS, k_12 hS, k_13 hS, l_13 hS, k_14 hS, k_15 hS, l_15 hS, k_16 hS, k_17 hS, l_17 hS, k_66 hS, k_67 hS, l_67 hS, k_68 hS, l_68 hS, k_69 hS, l_69 hS, k_70 hS, l_70 hS, k_71 hS, l_71 hS, k_72 hS, k_73 hS, l_73 hS, k_74 hS, l_74 hS, k_75 hS, k_76 hS, l_76 hS, k_77 hS, k_78 hS, l_78 hS, k_79 hS, k_80 hS, l_80 hS, k_81 hS, k_82 hS, l_82 hS, k_131 hS, k_132 hS, l_132 hS, k_133 hS, l_133 hS, k_134 hS, l_134 hS, k_135 hS, k_136 hS, l_136 hS, k_137 hS, l_137 hS, k_138 hS, l_138 hS, k_139 hS, l_139 hS, k_140 hS, k_141 hS, l_141 hS, k_142 hS, l_142 hS, k_143 hS, k_144 hS, l_144 hS, k_145 hS, k_146 hS, l_146 hS, k_147 hS, l_147 hS, k_148 hS, l_148 hS, k_153 hS, l_153 hS, k_154 hS, l_154 hS, k_155 hS, l_155 hS, k_156 hS, k_157 hS, l_157 hS, k_158 hS, l_158 hS, k_159 hS, l_159 hS, r_0_0 hS, r_0_1 hS, r_0_3 hS, r_0_4 hS, r_0_5 hS, r_0_6 hS, r_0_7 hS, r_0_8 hS, r_0_9 hS, r_0_10 hS, r_1_2 hS, r_1_3 hS, r_1_4 hS, r_1_5 hS, r_1_7 hS, r_1_9 hS, r_1_10 hS, r_1_12 hS, r_1_13 hS, r_1_14 hS, r_1_15 hS, r_7_1 hS, r_10_2 hS, r_12_2 hS, r_14_2 hS, r_16_2 hS, r_66_2 hS, r_66_3 hS, r_66_4 hS, r_66_5 hS, r_66_7 hS, r_66_9 hS, r_66_10 hS, r_66_12 hS, r_66_13 hS, r_66_14 hS, r_66_15 hS, r_72_1 hS, r_75_2 hS, r_77_2 hS, r_79_2 hS, r_81_2 hS, r_131_0 hS, r_131_6 hS, r_131_8 hS, r_135_0 hS, r_135_1 hS, r_135_2 hS, r_135_3 hS, r_140_0 hS, r_140_1 hS, r_143_2 hS, r_145_0 hS, r_145_1 hS, r_145_2 hS, r_145_3 hS, r_145_4 hS, r_145_5 hS, r_156_5 hS, k_pv hS, k_pvr hS, k_db hS, k_dbr hS, k_sh hS, l_pvr hS, l_dbr hS, l_sh hS, r_5 hS, r_6 hS, r_pv hS, r_db hS, r_148 hS, ol_s, ol_n, ln_0, ln_1, ln_2, ln_3, ln_4, eq_self, rf_s, rf_n, i01_0, i01_n0, i01_b, b01_0, b01_1, and_self, and_true, true_and, and_false, false_and, if_true, if_false, not_true_eq_false, not_false_eq_true, e10, e00, lt_bg, Nat.reduceLT, Nat.reduceLeDiff, hle, p1, nI_add, p2, bi, ci, bj, cj, r1, hc, w2, q]
    · have u : lsM W1 pv cur k (h + 1) = lsM W1 pv cur k h := if_neg q
      have ne : ¬ nI (pv (k - (h + 1)) + W1 (h + 1)) = nI cur := nI_nj q (by omega) (by omega)
      rw [u]
      simp only [s121_16, s121_19, s121_20, s121_23, s121_25, s121_27, s121_28, s121_29, s121_30, s121_31, s121_32, s121_34, s121_35, s121_36, s121_38, s121_40, s121_41, s121_44, s121_45, s121_46, s121_48, s121_51, s121_52, s121_53, s121_56, s121_58, s121_59, s121_60, s121_61, s121_67, s121_70, k_0 hS, k_1 hS, k_2 hS, l_2 hS, k_3 hS, l_3 hS, k_4 hS, l_4 hS, k_5 hS, l_5 hS, k_6 hS, l_6 hS, k_7 hS, k_8 hS, l_8 hS, k_9 hS, l_9 hS, k_10 hS, k_11 hS, l_11 hS, k_12 hS, k_13 hS, l_13 hS, k_14 hS, k_15 hS, l_15 hS, k_16 hS, k_17 hS, l_17 hS, k_66 hS, k_67 hS, l_67 hS, k_68 hS, l_68 hS, k_69 hS, l_69 hS, k_70 hS, l_70 hS, k_71 hS, l_71 hS, k_72 hS, k_73 hS, l_73 hS, k_74 hS, l_74 hS, k_75 hS, k_76 hS, l_76 hS, k_77 hS, k_78 hS, l_78 hS, k_79 hS, k_80 hS, l_80 hS, k_81 hS, k_82 hS, l_82 hS, k_131 hS, k_132 hS, l_132 hS, k_133 hS, l_133 hS, k_134 hS, l_134 hS, k_135 hS, k_136 hS, l_136 hS, k_137 hS, l_137 hS, k_138 hS, l_138 hS, k_139 hS, l_139 hS, k_140 hS, k_141 hS, l_141 hS, k_142 hS, l_142 hS, k_143 hS, k_144 hS, l_144 hS, k_145 hS, k_146 hS, l_146 hS, k_147 hS, l_147 hS, k_148 hS, l_148 hS, k_153 hS, l_153 hS, k_154 hS, l_154 hS, k_155 hS, l_155 hS, k_156 hS, k_157 hS, l_157 hS, k_158 hS, l_158 hS, k_159 hS, l_159 hS, r_0_0 hS, r_0_1 hS, r_0_3 hS, r_0_4 hS, r_0_5 hS, r_0_6 hS, r_0_7 hS, r_0_8 hS, r_0_9 hS, r_0_10 hS, r_1_2 hS, r_1_3 hS, r_1_4 hS, r_1_5 hS, r_1_7 hS, r_1_9 hS, r_1_10 hS, r_1_12 hS, r_1_13 hS, r_1_14 hS, r_1_15 hS, r_7_1 hS, r_10_2 hS, r_12_2 hS, r_14_2 hS, r_16_2 hS, r_66_2 hS, r_66_3 hS, r_66_4 hS, r_66_5 hS, r_66_7 hS, r_66_9 hS, r_66_10 hS, r_66_12 hS, r_66_13 hS, r_66_14 hS, r_66_15 hS, r_72_1 hS, r_75_2 hS, r_77_2 hS, r_79_2 hS, r_81_2 hS, r_131_0 hS, r_131_6 hS, r_131_8 hS, r_135_0 hS, r_135_1 hS, r_135_2 hS, r_135_3 hS, r_140_0 hS, r_140_1 hS, r_143_2 hS, r_145_0 hS, r_145_1 hS, r_145_2 hS, r_145_3 hS, r_145_4 hS, r_145_5 hS, r_156_5 hS, k_pv hS, k_pvr hS, k_db hS, k_dbr hS, k_sh hS, l_pvr hS, l_dbr hS, l_sh hS, r_5 hS, r_6 hS, r_pv hS, r_db hS, r_148 hS, ol_s, ol_n, ln_0, ln_1, ln_2, ln_3, ln_4, eq_self, rf_s, rf_n, i01_0, i01_n0, i01_b, b01_0, b01_1, and_self, and_true, true_and, and_false, false_and, if_true, if_false, not_true_eq_false, not_false_eq_true, e10, e00, lt_bg, Nat.reduceLT, Nat.reduceLeDiff, hle, p1, nI_add, p2, bi, ci, bj, cj, r1, hc, w2, ne, pm]
      exact ih _
end OCH
