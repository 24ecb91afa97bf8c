/-! shares of a pot: the class, whole -/
section SHP2
variable (W K : Nat → Nat)
/-- those of a rank get: what is left, what each has -/
def shSt (r R : Nat) (G : Nat → Nat) : Nat × (Nat → Nat) :=
  if shAll W K r 16 ≤ R then (R - shAll W K r 16, fun j => if K j = r then W j else G j)
  else (0, (shTp W K r 16 0 (R - sumN (fun i => if K i = r then W i * R / shAll W K r 16 else 0) 16) (fun j => if K j = r then W j * R / shAll W K r 16 else G j)).2)
def shIt : Nat → Nat → Nat → (Nat → Nat) → Nat × (Nat → Nat)
  | 0, _, R, G => (R, G)
  | n + 1, r, R, G => shIt n (r + 1) (shSt W K r R G).1 (shSt W K r R G).2
theorem shTp_le {r : Nat} : ∀ n i m G, (∀ j, G j ≤ W j) → ∀ j, (shTp W K r n i m G).2 j ≤ W j
  | 0, _, _, _, h => h
  | n + 1, i, m, G, h => by
    unfold shTp
    by_cases q : K i = r ∧ 0 < m ∧ G i < W i
    · rw [if_pos q]
      refine shTp_le n (i + 1) _ _ (fun j => ?_)
      unfold updN
      split
      · rename_i e
        rw [e]
        omega
      · exact h j
    · rw [if_neg q]
      exact shTp_le n (i + 1) _ _ h
theorem shSt_le {r R : Nat} {G : Nat → Nat} (h : ∀ j, G j ≤ W j) : (shSt W K r R G).1 ≤ R ∧ ∀ j, (shSt W K r R G).2 j ≤ W j := by
  unfold shSt
  by_cases q : shAll W K r 16 ≤ R
  · rw [if_pos q]
    refine ⟨Nat.sub_le _ _, fun j => ?_⟩
    show (if K j = r then W j else G j) ≤ W j
    split
    · exact Nat.le_refl _
    · exact h j
  · rw [if_neg q]
    refine ⟨Nat.zero_le _, shTp_le W K 16 0 _ _ (fun j => ?_)⟩
    split
    · refine Nat.div_le_of_le_mul ?_
      rw [Nat.mul_comm]
      exact Nat.mul_le_mul_right _ (by omega)
    · exact h j
theorem shSt_ne {r R : Nat} {G : Nat → Nat} {j : Nat} (h : K j ≠ r) : (shSt W K r R G).2 j = G j := by
  unfold shSt
  by_cases q : shAll W K r 16 ≤ R
  · rw [if_pos q]
    exact if_neg h
  · rw [if_neg q]
    show (shTp W K r 16 0 _ _).2 j = G j
    rw [shTp_ne W K 16 0 _ _ j (Or.inl h)]
    exact if_neg h
theorem shIt_le : ∀ n r R G, (∀ j, G j ≤ W j) → (shIt W K n r R G).1 ≤ R ∧ ∀ j, (shIt W K n r R G).2 j ≤ W j
  | 0, _, _, _, h => ⟨Nat.le_refl _, h⟩
  | n + 1, r, R, G, h => by
    obtain ⟨a, b⟩ := shSt_le W K (r := r) (R := R) h
    obtain ⟨c, d⟩ := shIt_le n (r + 1) _ _ b
    exact ⟨Nat.le_trans c a, d⟩
end SHP2
section OBD
variable {d : Nat} {σ : am_I} {ρ : am_R} {g : am_J} {τ : am_T} {Q : am_Q}
theorem shAll_le {W K : Nat → Nat} {r : Nat} (h : ∀ i, i < 16 → W i ≤ 10998) : ∀ n, n ≤ 16 → shAll W K r n ≤ 10998 * n
  | 0, _ => Nat.le_refl _
  | n + 1, hn => by
    have ih := shAll_le (K := K) (r := r) h n (by omega)
    have := h n (by omega)
    show shAll W K r n + (if K n = r then W n else 0) ≤ _
    split <;> omega
theorem c66 (hS : Sh ρ τ) {W K : Nat → Nat} (hK : KC σ W K) {r R : Nat} (hr : r ≤ 9) (hR : R ≤ 15984) {G : Nat → Nat} {w : Nat → Int32} (hw : RG w G) (hz : ∀ j, j < 16 → K j = r → G j = 0) (hG : ∀ j, G j ≤ W j) : ∃ w', RG w' (shSt W K r R G).2 ∧ ∀ (d : Nat) (g : am_J) (Q : am_Q),
    AW d 66 0 [.ref 135, .int (nI r), .int (nI R), am_jk, am_jk, am_jk] [] (am_ur σ 139 w) ρ g τ Q = Q (some (.int (nI (R - (shSt W K r R G).1)))) (am_ur σ 139 w') ρ g τ := by
  have hA := shAll_le (K := K) (r := r) (fun i hi => (hK.2 i hi).1) 16 (Nat.le_refl _)
  have e0 : shG1 W K r (shAll W K r 16) R G 0 = G := by
    funext j
    exact if_neg (fun h => absurd h.1 (Nat.not_lt_zero _))
  obtain ⟨w1, P1, P2⟩ := c66b hS hK hr hR (A := shAll W K r 16) rfl (by omega) 16 0 w (by omega) (by rw [e0]; exact hw)
  have g16 : ∀ j, j < 16 → shG1 W K r (shAll W K r 16) R G 16 j = if K j = r then (if shAll W K r 16 ≤ R then W j else W j * R / shAll W K r 16) else G j := by
    intro j hj
    unfold shG1 shQ
    by_cases q : K j = r
    · by_cases z : 0 < W j
      · rw [if_pos ⟨hj, q, z⟩, if_pos q]
      · have w0 : W j = 0 := by omega
        rw [if_neg (fun h => z h.2.2), if_pos q, hz j hj q, w0, Nat.zero_mul, Nat.zero_div, ite_self]
    · rw [if_neg (fun h => q h.2.1), if_neg q]
  have gW : ∀ j, j < 16 → shG1 W K r (shAll W K r 16) R G 16 j ≤ W j := by
    intro j hj
    rw [g16 j hj]
    split
    · split
      · exact Nat.le_refl _
      · refine Nat.div_le_of_le_mul ?_
        rw [Nat.mul_comm]
        exact Nat.mul_le_mul_right _ (by omega)
    · exact hG j
  have gone : sumN (fun j => if K j = r ∧ 0 < W j then shQ W (shAll W K r 16) R j else 0) 16 = sumN (fun j => if K j = r then (if shAll W K r 16 ≤ R then W j else W j * R / shAll W K r 16) else 0) 16 := by
    refine sumN_cg 16 (fun j _ => ?_)
    unfold shQ
    by_cases q : K j = r
    · by_cases z : 0 < W j
      · rw [if_pos ⟨q, z⟩, if_pos q]
      · have w0 : W j = 0 := by omega
        rw [if_neg (fun h => z h.2), if_pos q, w0, Nat.zero_mul, Nat.zero_div, ite_self]
    · rw [if_neg (fun h => q h.1), if_neg q]
  have z16 : nI 0 = (0 : Int32) := rfl
  have a0 : nI (shAll W K r 0) = (0 : Int32) := rfl
  have s0 : nI (sumN (fun j => if K j = r ∧ 0 < W j then shQ W (shAll W K r 16) R j else 0) 0) = (0 : Int32) := rfl
  have La := fun (d : Nat) (g : am_J) (Q : am_Q) => c66a (d := d) (g := g) (Q := Q) hS hK hr (R := R) (w := w) 16 0 am_jk (by omega)
  rw [a0, z16] at La
  rw [s0, z16] at P2
  unfold shSt
  by_cases q : shAll W K r 16 ≤ R
  · rw [if_pos q]
    have ge : sumN (fun j => if K j = r ∧ 0 < W j then shQ W (shAll W K r 16) R j else 0) 16 = R - (R - shAll W K r 16) := by
      rw [gone]
      have : sumN (fun j => if K j = r then (if shAll W K r 16 ≤ R then W j else W j * R / shAll W K r 16) else 0) 16 = shAll W K r 16 := by
        refine sumN_cg 16 (fun j _ => ?_)
        rw [if_pos q]
      rw [this]
      omega
    have full := shTp_full W K (r := r) 16 0 (R - shAll W K r 16) (shG1 W K r (shAll W K r 16) R G 16) (fun j _ hj e => by
      rw [g16 j (by omega), if_pos e, if_pos q]
      exact Nat.lt_irrefl _)
    obtain ⟨w2, P3, P4⟩ := c66c hS hK hr hR (A := shAll W K r 16) 16 0 (R - shAll W K r 16) _ w1 (by omega) (by omega) P1 (fun j hj => Nat.le_trans (gW j hj) (hK.2 j hj).1)
    rw [full] at P3 P4
    refine ⟨w2, fun j hj => ?_, fun d g Q => ?_⟩
    · rw [P3 j hj]
      show nI (shG1 W K r (shAll W K r 16) R G 16 j) = nI (if K j = r then W j else G j)
      rw [g16 j hj, if_pos q]
    · have P4 := P4 d g Q
      rw [z16] at P4
      simp only [s66_0, s66_1, s66_2, s66_3, s66_43, s66_44, s66_46, s66_47, s66_132, s66_133, La, P2]
      rw [ge]
      exact P4
  · rw [if_neg q]
    have RA : R < shAll W K r 16 := by omega
    have ge : sumN (fun j => if K j = r ∧ 0 < W j then shQ W (shAll W K r 16) R j else 0) 16 = sumN (fun i => if K i = r then W i * R / shAll W K r 16 else 0) 16 := by
      rw [gone]
      refine sumN_cg 16 (fun j _ => ?_)
      rw [if_neg q]
    obtain ⟨b1, b2⟩ := sh_round W K RA (shG1 W K r (shAll W K r 16) R G 16) (fun i hi e => by rw [g16 i hi, if_pos e, if_neg q])
    have cg := shTp_cg W K (r := r) 16 0 (R - sumN (fun i => if K i = r then W i * R / shAll W K r 16 else 0) 16) (shG1 W K r (shAll W K r 16) R G 16) (fun j => if K j = r then W j * R / shAll W K r 16 else G j) (fun j _ hj => by rw [g16 j (by omega), if_neg q])
    obtain ⟨w2, P3, P4⟩ := c66c hS hK hr hR (A := shAll W K r 16) 16 0 (R - sumN (fun i => if K i = r then W i * R / shAll W K r 16 else 0) 16) _ w1 (by omega) (by omega) P1 (fun j hj => Nat.le_trans (gW j hj) (hK.2 j hj).1)
    refine ⟨w2, fun j hj => ?_, fun d g Q => ?_⟩
    · rw [P3 j hj, cg.2 j (by omega) (by omega)]
    · have P4 := P4 d g Q
      rw [b2, z16] at P4
      have e5 : R - (R - sumN (fun i => if K i = r then W i * R / shAll W K r 16 else 0) 16) = sumN (fun i => if K i = r then W i * R / shAll W K r 16 else 0) 16 := by omega
      rw [e5] at P4
      simp only [s66_0, s66_1, s66_2, s66_3, s66_43, s66_44, s66_46, s66_47, s66_132, s66_133, La, P2]
      rw [ge]
      exact P4
theorem c65L (hS : Sh ρ τ) {W K : Nat → Nat} (hK : KC σ W K) {pot sp : Int32} : ∀ (n r R : Nat) (G : Nat → Nat) (w : Nat → Int32), r + n = 10 → R ≤ 15984 → RG w G → (∀ j, j < 16 → r ≤ K j → G j = 0) → (∀ j, G j ≤ W j) → ∃ w', RG w' (shIt W K n r R G).2 ∧ ∀ (d : Nat) (g : am_J) (Q : am_Q),
    AW (d + 1) 65 17 [.ref 135, .int pot, .int sp, .int (nI R), .int (nI r)] [] (am_ur σ 139 w) ρ g τ Q = Q none (am_u (am_ur σ 139 w') 135 5 (sp + nI (shIt W K n r R G).1)) ρ g τ
  | 0, r, R, G, w, h, hR, hw, hz, hG => by
    have e : r = 10 := by omega
    subst e
    refine ⟨w, hw, fun d g Q => ?_⟩
    have hle : (9 : Int32) < nI 10 := by decide
    simp only [s65_17, s65_19, s65_21, s65_40, s65_41, s65_42, s65_43, s65_44, s65_47, k_0 hS, k_1 hS, k_2 hS, l_2 hS, k_3 hS, l_3 hS, k_4 hS, l_4 hS, k_5 hS, l_5 hS, k_6 hS, l_6 hS, k_7 hS, k_8 hS, l_8 hS, k_9 hS, l_9 hS, k_10 hS, k_11 hS, l_11 hS, k_12 hS, k_13 hS, l_13 hS, k_14 hS, k_15 hS, l_15 hS, k_16 hS, k_17 hS, l_17 hS, k_66 hS, k_67 hS, l_67 hS, k_68 hS, l_68 hS, k_69 hS, l_69 hS, k_70 hS, l_70 hS, k_71 hS, l_71 hS, k_72 hS, k_73 hS, l_73 hS, k_74 hS, l_74 hS, k_75 hS, k_76 hS, l_76 hS, k_77 hS, k_78 hS, l_78 hS, k_79 hS, k_80 hS, l_80 hS, k_81 hS, k_82 hS, l_82 hS, k_131 hS, k_132 hS, l_132 hS, k_133 hS, l_133 hS, k_134 hS, l_134 hS, k_135 hS, k_136 hS, l_136 hS, k_137 hS, l_137 hS, k_138 hS, l_138 hS, k_139 hS, l_139 hS, k_140 hS, k_141 hS, l_141 hS, k_142 hS, l_142 hS, k_143 hS, k_144 hS, l_144 hS, k_145 hS, k_146 hS, l_146 hS, k_147 hS, l_147 hS, k_148 hS, l_148 hS, k_153 hS, l_153 hS, k_154 hS, l_154 hS, k_155 hS, l_155 hS, k_156 hS, k_157 hS, l_157 hS, k_158 hS, l_158 hS, k_159 hS, l_159 hS, r_0_0 hS, r_0_1 hS, r_0_3 hS, r_0_4 hS, r_0_5 hS, r_0_6 hS, r_0_7 hS, r_0_8 hS, r_0_9 hS, r_0_10 hS, r_1_2 hS, r_1_3 hS, r_1_4 hS, r_1_5 hS, r_1_7 hS, r_1_9 hS, r_1_10 hS, r_1_12 hS, r_1_13 hS, r_1_14 hS, r_1_15 hS, r_7_1 hS, r_10_2 hS, r_12_2 hS, r_14_2 hS, r_16_2 hS, r_66_2 hS, r_66_3 hS, r_66_4 hS, r_66_5 hS, r_66_7 hS, r_66_9 hS, r_66_10 hS, r_66_12 hS, r_66_13 hS, r_66_14 hS, r_66_15 hS, r_72_1 hS, r_75_2 hS, r_77_2 hS, r_79_2 hS, r_81_2 hS, r_131_0 hS, r_131_6 hS, r_131_8 hS, r_135_0 hS, r_135_1 hS, r_135_2 hS, r_135_3 hS, r_140_0 hS, r_140_1 hS, r_143_2 hS, r_145_0 hS, r_145_1 hS, r_145_2 hS, r_145_3 hS, r_145_4 hS, r_145_5 hS, r_156_5 hS, k_pv hS, k_pvr hS, k_db hS, k_dbr hS, k_sh hS, l_pvr hS, l_dbr hS, l_sh hS, r_5 hS, r_6 hS, r_pv hS, r_db hS, r_148 hS, ol_s, ol_n, ln_0, ln_1, ln_2, ln_3, ln_4, eq_self, rf_s, rf_n, i01_0, i01_n0, i01_b, b01_0, b01_1, and_self, and_true, true_and, and_false, false_and, if_true, if_false, not_true_eq_false, not_false_eq_true, e10, e00, lt_bg, Nat.reduceLT, Nat.reduceLeDiff, hle, shIt]
  | n + 1, r, R, G, w, h, hR, hw, hz, hG => by
    have hlt : ¬ (9 : Int32) < nI r := Int32.not_lt.mpr (nI_le (b := 9) (by omega) (by decide))
    obtain ⟨w1, P1, P2⟩ := c66 hS hK (r := r) (R := R) (by omega) hR hw (fun j hj e => hz j hj (by omega)) hG
    obtain ⟨a, b⟩ := shSt_le W K (r := r) (R := R) hG
    obtain ⟨w2, P3, P4⟩ := c65L hS hK (pot := pot) (sp := sp) n (r + 1) _ _ w1 (by omega) (Nat.le_trans a hR) P1 (fun j hj hj2 => by
      rw [shSt_ne W K (by omega)]
      exact hz j hj (by omega)) b
    refine ⟨w2, P3, fun d g Q => ?_⟩
    have P4 := P4 d g Q
    have e : nI R - nI (R - (shSt W K r R G).1) = nI (shSt W K r R G).1 := by
      rw [pk_sub (by omega)]
      congr 1
      omega
    rw [s65_17]
    simp only [s65_19, s65_21, s65_24, s65_25, s65_26, s65_28, s65_29, s65_32, s65_33, s65_34, s65_37, k_0 hS, k_1 hS, k_2 hS, l_2 hS, k_3 hS, l_3 hS, k_4 hS, l_4 hS, k_5 hS, l_5 hS, k_6 hS, l_6 hS, k_7 hS, k_8 hS, l_8 hS, k_9 hS, l_9 hS, k_10 hS, k_11 hS, l_11 hS, k_12 hS, k_13 hS, l_13 hS, k_14 hS, k_15 hS, l_15 hS, k_16 hS, k_17 hS, l_17 hS, k_66 hS, k_67 hS, l_67 hS, k_68 hS, l_68 hS, k_69 hS, l_69 hS, k_70 hS, l_70 hS, k_71 hS, l_71 hS, k_72 hS, k_73 hS, l_73 hS, k_74 hS, l_74 hS, k_75 hS, k_76 hS, l_76 hS, k_77 hS, k_78 hS, l_78 hS, k_79 hS, k_80 hS, l_80 hS, k_81 hS, k_82 hS, l_82 hS, k_131 hS, k_132 hS, l_132 hS, k_133 hS, l_133 hS, k_134 hS, l_134 hS, k_135 hS, k_136 hS, l_136 hS, k_137 hS, l_137 hS, k_138 hS, l_138 hS, k_139 hS, l_139 hS, k_140 hS, k_141 hS, l_141 hS, k_142 hS, l_142 hS, k_143 hS, k_144 hS, l_144 hS, k_145 hS, k_146 hS, l_146 hS, k_147 hS, l_147 hS, k_148 hS, l_148 hS, k_153 hS, l_153 hS, k_154 hS, l_154 hS, k_155 hS, l_155 hS, k_156 hS, k_157 hS, l_157 hS, k_158 hS, l_158 hS, k_159 hS, l_159 hS, r_0_0 hS, r_0_1 hS, r_0_3 hS, r_0_4 hS, r_0_5 hS, r_0_6 hS, r_0_7 hS, r_0_8 hS, r_0_9 hS, r_0_10 hS, r_1_2 hS, r_1_3 hS, r_1_4 hS, r_1_5 hS, r_1_7 hS, r_1_9 hS, r_1_10 hS, r_1_12 hS, r_1_13 hS, r_1_14 hS, r_1_15 hS, r_7_1 hS, r_10_2 hS, r_12_2 hS, r_14_2 hS, r_16_2 hS, r_66_2 hS, r_66_3 hS, r_66_4 hS, r_66_5 hS, r_66_7 hS, r_66_9 hS, r_66_10 hS, r_66_12 hS, r_66_13 hS, r_66_14 hS, r_66_15 hS, r_72_1 hS, r_75_2 hS, r_77_2 hS, r_79_2 hS, r_81_2 hS, r_131_0 hS, r_131_6 hS, r_131_8 hS, r_135_0 hS, r_135_1 hS, r_135_2 hS, r_135_3 hS, r_140_0 hS, r_140_1 hS, r_143_2 hS, r_145_0 hS, r_145_1 hS, r_145_2 hS, r_145_3 hS, r_145_4 hS, r_145_5 hS, r_156_5 hS, k_pv hS, k_pvr hS, k_db hS, k_dbr hS, k_sh hS, l_pvr hS, l_dbr hS, l_sh hS, r_5 hS, r_6 hS, r_pv hS, r_db hS, r_148 hS, ol_s, ol_n, ln_0, ln_1, ln_2, ln_3, ln_4, eq_self, rf_s, rf_n, i01_0, i01_n0, i01_b, b01_0, b01_1, and_self, and_true, true_and, and_false, false_and, if_true, if_false, not_true_eq_false, not_false_eq_true, e10, e00, lt_bg, Nat.reduceLT, Nat.reduceLeDiff, hlt, P2, e, nI_1]
    exact P4
end OBD
