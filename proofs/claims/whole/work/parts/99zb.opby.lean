/-! least: the class's table -/
section OBY
variable {d : Nat} {σ : am_I} {ρ : am_R} {g : am_J} {τ : am_T} {Q : am_Q}
/-- the least over the first h numbers of guards of a province; 1000000: no way -/
def lsF (W pv : Nat → Nat) (k : Nat) : Nat → Nat
  | 0 => 1000000
  | h + 1 => if h ≤ k then min (lsF W pv k h) (pv (k - h) + W h) else lsF W pv k h
/-- the table: behind the first P - r provinces -/
def lsT (W : Nat → Nat → Nat) (P : Nat) : Nat → Nat → Nat
  | 0, k => if k = 0 then 0 else 1000000
  | r + 1, k => lsF (W (P - (r + 1))) (lsT W P r) k 10
theorem lsF_le {W pv : Nat → Nat} {k : Nat} : ∀ h, lsF W pv k h ≤ 1000000
  | 0 => Nat.le_refl _
  | h + 1 => by
    have i := lsF_le (W := W) (pv := pv) (k := k) h
    unfold lsF
    by_cases q : h ≤ k
    · rw [if_pos q]; omega
    · rw [if_neg q]; exact i
theorem lsT_le {W : Nat → Nat → Nat} {P : Nat} : ∀ r k, lsT W P r k ≤ 1000000
  | 0, k => by
    unfold lsT
    by_cases q : k = 0
    · rw [if_pos q]; omega
    · rw [if_neg q]; exact Nat.le_refl _
  | r + 1, k => lsF_le 10
theorem c119a (hS : Sh ρ τ) {f : Nat} (hf : f ≤ 8) {x1 x2 x5 x6 x7 : Value} : ∀ (n k : Nat) (σ : am_I), k + n = 41 → ∃ σ' : am_I, (∀ z, z ≠ 158 → σ' z = σ z) ∧ (∀ t, t < 41 * f + k ∨ 41 * f + 41 ≤ t → σ' 158 t = σ 158 t) ∧ (∀ t, k ≤ t → t < 41 → σ' 158 (41 * f + t) = nI 1000000) ∧ ∀ (d : Nat) (g : am_J) (Q : am_Q), AW d 119 8 [.ref 0, x1, x2, .int (nI (41 * f)), .int (nI k), x5, x6, x7] [] σ ρ g τ Q = AW d 119 32 [.ref 0, x1, x2, .int (nI (41 * f)), .int (nI 41), x5, x6, x7] [] σ' ρ g τ Q
  | 0, k, σ, h => by
    have e : k = 41 := by omega
    subst e
    have hlt : ((40 : Int32) < nI 41) = True := by decide
    refine ⟨σ, fun _ _ => rfl, fun _ _ => rfl, fun t h1 h2 => absurd h2 (by omega), fun d g Q => ?_⟩
    simp only [s119_8, s119_10, s119_12, ol_s, ol_n, ln_0, ln_1, ln_2, ln_3, ln_4, eq_self, rf_s, rf_n, i01_0, i01_n0, i01_b, b01_0, b01_1, and_self, and_true, true_and, and_false, false_and, if_true, if_false, not_true_eq_false, not_false_eq_true, e10, e00, lt_bg, Nat.reduceLT, Nat.reduceLeDiff, hlt]
  | n + 1, k, σ, h => by
    have e40 : nI 40 = (40 : Int32) := by decide
    have hlt : ¬ (40 : Int32) < nI k := by rw [← e40]; exact Int32.not_lt.mpr (nI_le (by omega) (by omega))
    have em : (1000000 : Int32) = nI 1000000 := by decide
    have bi : am_inb (nI (41 * f + k)) 369 = true := inb_n (by omega) (by decide)
    have ci : (nI (41 * f + k)).toNatClampNeg = 41 * f + k := nI_clamp (by omega)
    generalize e1 : am_u σ 158 (41 * f + k) (nI 1000000) = s
    have F1 : ∀ z, z ≠ 158 → s z = σ z := fun z hz => by rw [← e1, u_ne _ _ _ _ hz]
    obtain ⟨s2, F2, G2, H2, R2⟩ := c119a hS hf n (k + 1) s (by omega)
    refine ⟨s2, fun z hz => by rw [F2 z hz, F1 z hz], fun t ht => ?_, fun t h1 h2 => ?_, fun d g Q => ?_⟩
    · rw [G2 t (by omega), ← e1, u_nk _ _ _ _ (by omega)]
    · by_cases q : t = k
      · subst q
        rw [G2 _ (by omega), ← e1, u_at]
      · exact H2 t (by omega) h2
    · rw [s119_8]
      simp only [s119_10, s119_12, s119_15, s119_16, s119_19, s119_20, s119_22, s119_23, s119_25, s119_26, s119_29, k_0 hS, k_1 hS, k_2 hS, l_2 hS, k_3 hS, l_3 hS, k_4 hS, l_4 hS, k_5 hS, l_5 hS, k_6 hS, l_6 hS, k_7 hS, k_8 hS, l_8 hS, k_9 hS, l_9 hS, k_10 hS, k_11 hS, l_11 hS, k_12 hS, k_13 hS, l_13 hS, k_14 hS, k_15 hS, l_15 hS, k_16 hS, k_17 hS, l_17 hS, k_66 hS, k_67 hS, l_67 hS, k_68 hS, l_68 hS, k_69 hS, l_69 hS, k_70 hS, l_70 hS, k_71 hS, l_71 hS, k_72 hS, k_73 hS, l_73 hS, k_74 hS, l_74 hS, k_75 hS, k_76 hS, l_76 hS, k_77 hS, k_78 hS, l_78 hS, k_79 hS, k_80 hS, l_80 hS, k_81 hS, k_82 hS, l_82 hS, k_131 hS, k_132 hS, l_132 hS, k_133 hS, l_133 hS, k_134 hS, l_134 hS, k_135 hS, k_136 hS, l_136 hS, k_137 hS, l_137 hS, k_138 hS, l_138 hS, k_139 hS, l_139 hS, k_140 hS, k_141 hS, l_141 hS, k_142 hS, l_142 hS, k_143 hS, k_144 hS, l_144 hS, k_145 hS, k_146 hS, l_146 hS, k_147 hS, l_147 hS, k_148 hS, l_148 hS, k_153 hS, l_153 hS, k_154 hS, l_154 hS, k_155 hS, l_155 hS, k_156 hS, k_157 hS, l_157 hS, k_158 hS, l_158 hS, k_159 hS, l_159 hS, r_0_0 hS, r_0_1 hS, r_0_3 hS, r_0_4 hS, r_0_5 hS, r_0_6 hS, r_0_7 hS, r_0_8 hS, r_0_9 hS, r_0_10 hS, r_1_2 hS, r_1_3 hS, r_1_4 hS, r_1_5 hS, r_1_7 hS, r_1_9 hS, r_1_10 hS, r_1_12 hS, r_1_13 hS, r_1_14 hS, r_1_15 hS, r_7_1 hS, r_10_2 hS, r_12_2 hS, r_14_2 hS, r_16_2 hS, r_66_2 hS, r_66_3 hS, r_66_4 hS, r_66_5 hS, r_66_7 hS, r_66_9 hS, r_66_10 hS, r_66_12 hS, r_66_13 hS, r_66_14 hS, r_66_15 hS, r_72_1 hS, r_75_2 hS, r_77_2 hS, r_79_2 hS, r_81_2 hS, r_131_0 hS, r_131_6 hS, r_131_8 hS, r_135_0 hS, r_135_1 hS, r_135_2 hS, r_135_3 hS, r_140_0 hS, r_140_1 hS, r_143_2 hS, r_145_0 hS, r_145_1 hS, r_145_2 hS, r_145_3 hS, r_145_4 hS, r_145_5 hS, r_156_5 hS, k_pv hS, k_pvr hS, k_db hS, k_dbr hS, k_sh hS, l_pvr hS, l_dbr hS, l_sh hS, r_5 hS, r_6 hS, r_pv hS, r_db hS, r_148 hS, ol_s, ol_n, ln_0, ln_1, ln_2, ln_3, ln_4, eq_self, rf_s, rf_n, i01_0, i01_n0, i01_b, b01_0, b01_1, and_self, and_true, true_and, and_false, false_and, if_true, if_false, not_true_eq_false, not_false_eq_true, e10, e00, lt_bg, Nat.reduceLT, Nat.reduceLeDiff, hlt, nI_add, bi, ci, em, e1, nI_1]
      exact R2 d g Q
theorem c119b (hS : Sh ρ τ) {f h w : Nat} (hf : f ≤ 7) (hh : h ≤ 9) (hw : w ≤ 5994) {pv q : Nat → Nat} (hpv : ∀ t, pv t ≤ 1000000) (hq : ∀ t, q t ≤ 1000000) {x1 x2 : Value} : ∀ (n k : Nat) (σ : am_I) (x7 : Value), k + n = 41 → h ≤ k → (∀ t, t < 41 → σ 158 (41 * f + 41 + t) = nI (pv t)) → (∀ t, k ≤ t → t < 41 → σ 158 (41 * f + t) = nI (q t)) → ∃ (σ' : am_I) (y7 : Value), (∀ z, z ≠ 158 → σ' z = σ z) ∧ (∀ t, t < 41 * f + k ∨ 41 * f + 41 ≤ t → σ' 158 t = σ 158 t) ∧ (∀ t, k ≤ t → t < 41 → σ' 158 (41 * f + t) = nI (min (q t) (pv (t - h) + w))) ∧ ∀ (d : Nat) (g : am_J) (Q : am_Q), AW d 119 78 [.ref 0, x1, x2, .int (nI (41 * f)), .int (nI h), .int (nI w), .int (nI k), x7] [] σ ρ g τ Q = AW d 119 136 [.ref 0, x1, x2, .int (nI (41 * f)), .int (nI h), .int (nI w), .int (nI 41), y7] [] σ' ρ g τ Q
  | 0, k, σ, x7, e, hk, _, _ => by
    have e : k = 41 := by omega
    subst e
    have hlt : ((40 : Int32) < nI 41) = True := by decide
    refine ⟨σ, x7, fun _ _ => rfl, fun _ _ => rfl, fun t h1 h2 => absurd h2 (by omega), fun d g Q => ?_⟩
    simp only [s119_78, s119_80, s119_82, ol_s, ol_n, ln_0, ln_1, ln_2, ln_3, ln_4, eq_self, rf_s, rf_n, i01_0, i01_n0, i01_b, b01_0, b01_1, and_self, and_true, true_and, and_false, false_and, if_true, if_false, not_true_eq_false, not_false_eq_true, e10, e00, lt_bg, Nat.reduceLT, Nat.reduceLeDiff, hlt]
  | n + 1, k, σ, x7, e, hk, v1, v2 => by
    have e40 : nI 40 = (40 : Int32) := by decide
    have hlt : ¬ (40 : Int32) < nI k := by rw [← e40]; exact Int32.not_lt.mpr (nI_le (by omega) (by omega))
    have bi : am_inb (nI (41 * f + k)) 369 = true := inb_n (by omega) (by decide)
    have ci : (nI (41 * f + k)).toNatClampNeg = 41 * f + k := nI_clamp (by omega)
    have p1 : nI (41 * f) + 40 + 1 = nI (41 * f + 41) := by
      rw [← e40, nI_add, nI_1]
    have p2 : nI (41 * f + 41 + k) - nI h = nI (41 * f + 41 + (k - h)) := by
      rw [pk_sub (by omega)]
      congr 1
      omega
    have bj : am_inb (nI (41 * f + 41 + (k - h))) 369 = true := inb_n (by omega) (by decide)
    have cj : (nI (41 * f + 41 + (k - h))).toNatClampNeg = 41 * f + 41 + (k - h) := nI_clamp (by omega)
    have r1 := v1 (k - h) (by omega)
    have r2 := v2 k (Nat.le_refl _) (by omega)
    have b1 := hpv (k - h)
    have b2 := hq k
    have mn : (if nI (pv (k - h) + w) < nI (q k) then nI (pv (k - h) + w) else nI (q k)) = nI (min (q k) (pv (k - h) + w)) := by
      by_cases z : q k ≤ pv (k - h) + w
      · rw [if_neg (Int32.not_lt.mpr (nI_le z (by omega))), Nat.min_eq_left z]
      · rw [if_pos (Int32.not_le.mp (nI_ge (by omega) (by omega))), Nat.min_eq_right (by omega)]
    generalize e1 : am_u σ 158 (41 * f + k) (nI (min (q k) (pv (k - h) + w))) = s
    have F1 : ∀ z, z ≠ 158 → s z = σ z := fun z hz => by rw [← e1, u_ne _ _ _ _ hz]
    have N1 : ∀ t, t ≠ 41 * f + k → s 158 t = σ 158 t := fun t ht => by rw [← e1, u_nk _ _ _ _ ht]
    obtain ⟨s2, y7, F2, G2, H2, R2⟩ := c119b hS hf hh hw hpv hq n (k + 1) s (.int (nI (pv (k - h)))) (by omega) (by omega) (fun t ht => by rw [N1 _ (by omega)]; exact v1 t ht) (fun t h1 h2 => by rw [N1 _ (by omega)]; exact v2 t (by omega) h2)
    refine ⟨s2, y7, fun z hz => by rw [F2 z hz, F1 z hz], fun t ht => ?_, fun t h1 h2 => ?_, fun d g Q => ?_⟩
    · rw [G2 t (by omega), N1 t (by omega)]
    · by_cases z : t = k
      · subst z
        rw [G2 _ (by omega), ← e1, u_at]
      · exact H2 t (by omega) h2
    · rw [s119_78]
      simp only [s119_80, s119_82, s119_85, s119_86, s119_89, s119_90, s119_92, s119_93, s119_94, s119_95, s119_97, s119_98, s119_100, s119_101, s119_102, s119_104, s119_105, s119_108, s119_109, s119_111, s119_112, s119_113, s119_116, s119_117, s119_119, s119_120, s119_121, s119_123, s119_125, s119_126, s119_129, s119_130, s119_133, k_0 hS, k_1 hS, k_2 hS, l_2 hS, k_3 hS, l_3 hS, k_4 hS, l_4 hS, k_5 hS, l_5 hS, k_6 hS, l_6 hS, k_7 hS, k_8 hS, l_8 hS, k_9 hS, l_9 hS, k_10 hS, k_11 hS, l_11 hS, k_12 hS, k_13 hS, l_13 hS, k_14 hS, k_15 hS, l_15 hS, k_16 hS, k_17 hS, l_17 hS, k_66 hS, k_67 hS, l_67 hS, k_68 hS, l_68 hS, k_69 hS, l_69 hS, k_70 hS, l_70 hS, k_71 hS, l_71 hS, k_72 hS, k_73 hS, l_73 hS, k_74 hS, l_74 hS, k_75 hS, k_76 hS, l_76 hS, k_77 hS, k_78 hS, l_78 hS, k_79 hS, k_80 hS, l_80 hS, k_81 hS, k_82 hS, l_82 hS, k_131 hS, k_132 hS, l_132 hS, k_133 hS, l_133 hS, k_134 hS, l_134 hS, k_135 hS, k_136 hS, l_136 hS, k_137 hS, l_137 hS, k_138 hS, l_138 hS, k_139 hS, l_139 hS, k_140 hS, k_141 hS, l_141 hS, k_142 hS, l_142 hS, k_143 hS, k_144 hS, l_144 hS, k_145 hS, k_146 hS, l_146 hS, k_147 hS, l_147 hS, k_148 hS, l_148 hS, k_153 hS, l_153 hS, k_154 hS, l_154 hS, k_155 hS, l_155 hS, k_156 hS, k_157 hS, l_157 hS, k_158 hS, l_158 hS, k_159 hS, l_159 hS, r_0_0 hS, r_0_1 hS, r_0_3 hS, r_0_4 hS, r_0_5 hS, r_0_6 hS, r_0_7 hS, r_0_8 hS, r_0_9 hS, r_0_10 hS, r_1_2 hS, r_1_3 hS, r_1_4 hS, r_1_5 hS, r_1_7 hS, r_1_9 hS, r_1_10 hS, r_1_12 hS, r_1_13 hS, r_1_14 hS, r_1_15 hS, r_7_1 hS, r_10_2 hS, r_12_2 hS, r_14_2 hS, r_16_2 hS, r_66_2 hS, r_66_3 hS, r_66_4 hS, r_66_5 hS, r_66_7 hS, r_66_9 hS, r_66_10 hS, r_66_12 hS, r_66_13 hS, r_66_14 hS, r_66_15 hS, r_72_1 hS, r_75_2 hS, r_77_2 hS, r_79_2 hS, r_81_2 hS, r_131_0 hS, r_131_6 hS, r_131_8 hS, r_135_0 hS, r_135_1 hS, r_135_2 hS, r_135_3 hS, r_140_0 hS, r_140_1 hS, r_143_2 hS, r_145_0 hS, r_145_1 hS, r_145_2 hS, r_145_3 hS, r_145_4 hS, r_145_5 hS, r_156_5 hS, k_pv hS, k_pvr hS, k_db hS, k_dbr hS, k_sh hS, l_pvr hS, l_dbr hS, l_sh hS, r_5 hS, r_6 hS, r_pv hS, r_db hS, r_148 hS, ol_s, ol_n, ln_0, ln_1, ln_2, ln_3, ln_4, eq_self, rf_s, rf_n, i01_0, i01_n0, i01_b, b01_0, b01_1, and_self, and_true, true_and, and_false, false_and, if_true, if_false, not_true_eq_false, not_false_eq_true, e10, e00, lt_bg, Nat.reduceLT, Nat.reduceLeDiff, hlt, p1, nI_add, p2, bi, ci, bj, cj, r1, r2, mn, e1, nI_1]
      exact R2 d g Q
end OBY
