/-! a land is copied: the class, as a whole -/
section OBT
variable {d : Nat} {σ : am_I} {ρ : am_R} {g : am_J} {τ : am_T} {Q : am_Q}
theorem lcA66 (hS : Sh ρ τ) : ∃ σ' : am_I, (∀ z, z < 66 ∨ 70 ≤ z → σ' z = σ z) ∧ (σ' 66 0 = σ 1 0 ∧ σ' 66 1 = σ 1 1 ∧ σ' 66 6 = σ 1 6) ∧ ((∀ k, k < 3 → σ' 67 k = σ 2 k) ∧ (∀ k, k < 12 → σ' 68 k = σ 3 k) ∧ ∀ k, k < 5 → σ' 69 k = σ 4 k) ∧ ∀ (d : Nat) (g : am_J) (Q : am_Q), AW d 22 0 [.ref 66, .ref 1, am_jk] [] σ ρ g τ Q = AW d 22 69 [.ref 66, .ref 1, .int 0] [] σ' ρ g τ Q := by
  have t3 : (3 : Int32).toNatClampNeg = 3 := by decide
  have t5 : (5 : Int32).toNatClampNeg = 5 := by decide
  have t12 : (12 : Int32).toNatClampNeg = 12 := by decide
  have m3 : ¬ (3 : Int32) < 0 := by decide
  have m5 : ¬ (5 : Int32) < 0 := by decide
  have m12 : ¬ (12 : Int32) < 0 := by decide
  have m0 : ¬ (0 : Int32) < 0 := by decide
  have U : ∀ (f : am_I) (k : Nat) (v : Int32) (z : Nat), z ≠ 66 → am_u f 66 k v z = f z := fun f k v z h => u_ne _ _ _ _ h
  have V : ∀ (f : am_I) (y : Nat) (w : Nat → Int32) (z : Nat), z ≠ y → am_ur f y w z = f z := fun f y w z h => ur_ne _ _ _ h
  refine ⟨am_u (am_ur (am_ur (am_ur (am_u (am_u σ 66 0 (σ 1 0)) 66 1 (σ 1 1)) 67 (va_cpy (σ 2) (σ 67) 0 0 3)) 68 (va_cpy (σ 3) (σ 68) 0 0 12)) 69 (va_cpy (σ 4) (σ 69) 0 0 5)) 66 6 (σ 1 6), fun z hz => ?_, ⟨?_, ?_, ?_⟩, ⟨fun k hk => ?_, fun k hk => ?_, fun k hk => ?_⟩, fun d g Q => ?_⟩
  · rw [u_ne _ _ _ _ (by omega), ur_ne _ _ _ (by omega), ur_ne _ _ _ (by omega), ur_ne _ _ _ (by omega), u_ne _ _ _ _ (by omega), u_ne _ _ _ _ (by omega)]
  · rw [u_nk _ _ _ _ (by decide), ur_ne _ _ _ (by decide), ur_ne _ _ _ (by decide), ur_ne _ _ _ (by decide), u_nk _ _ _ _ (by decide), u_at]
  · rw [u_nk _ _ _ _ (by decide), ur_ne _ _ _ (by decide), ur_ne _ _ _ (by decide), ur_ne _ _ _ (by decide), u_at]
  · rw [u_at]
  · rw [u_ne _ _ _ _ (by decide), ur_ne _ _ _ (by decide), ur_ne _ _ _ (by decide), ur_at]
    exact cpy_at hk
  · rw [u_ne _ _ _ _ (by decide), ur_ne _ _ _ (by decide), ur_at]
    exact cpy_at hk
  · rw [u_ne _ _ _ _ (by decide), ur_at]
    exact cpy_at hk
  · rw [s22_0]
    simp (decide := true) only [s22_1, s22_2, s22_5, s22_8, s22_9, s22_10, s22_13, s22_16, s22_17, s22_20, s22_21, s22_22, s22_25, s22_26, s22_27, s22_30, s22_31, s22_34, s22_35, s22_36, s22_39, s22_40, s22_42, s22_45, s22_46, s22_49, s22_50, s22_51, s22_54, s22_55, s22_56, s22_59, s22_60, s22_61, s22_64, s22_67, s22_68r, k_0 hS, k_1 hS, k_2 hS, l_2 hS, k_3 hS, l_3 hS, k_4 hS, l_4 hS, k_5 hS, l_5 hS, k_6 hS, l_6 hS, k_7 hS, k_8 hS, l_8 hS, k_9 hS, l_9 hS, k_10 hS, k_11 hS, l_11 hS, k_12 hS, k_13 hS, l_13 hS, k_14 hS, k_15 hS, l_15 hS, k_16 hS, k_17 hS, l_17 hS, k_66 hS, k_67 hS, l_67 hS, k_68 hS, l_68 hS, k_69 hS, l_69 hS, k_70 hS, l_70 hS, k_71 hS, l_71 hS, k_72 hS, k_73 hS, l_73 hS, k_74 hS, l_74 hS, k_75 hS, k_76 hS, l_76 hS, k_77 hS, k_78 hS, l_78 hS, k_79 hS, k_80 hS, l_80 hS, k_81 hS, k_82 hS, l_82 hS, k_131 hS, k_132 hS, l_132 hS, k_133 hS, l_133 hS, k_134 hS, l_134 hS, k_135 hS, k_136 hS, l_136 hS, k_137 hS, l_137 hS, k_138 hS, l_138 hS, k_139 hS, l_139 hS, k_140 hS, k_141 hS, l_141 hS, k_142 hS, l_142 hS, k_143 hS, k_144 hS, l_144 hS, k_145 hS, k_146 hS, l_146 hS, k_147 hS, l_147 hS, k_148 hS, l_148 hS, k_153 hS, l_153 hS, k_154 hS, l_154 hS, k_155 hS, l_155 hS, k_156 hS, k_157 hS, l_157 hS, k_158 hS, l_158 hS, k_159 hS, l_159 hS, r_0_0 hS, r_0_1 hS, r_0_3 hS, r_0_4 hS, r_0_5 hS, r_0_6 hS, r_0_7 hS, r_0_8 hS, r_0_9 hS, r_0_10 hS, r_1_2 hS, r_1_3 hS, r_1_4 hS, r_1_5 hS, r_1_7 hS, r_1_9 hS, r_1_10 hS, r_1_12 hS, r_1_13 hS, r_1_14 hS, r_1_15 hS, r_7_1 hS, r_10_2 hS, r_12_2 hS, r_14_2 hS, r_16_2 hS, r_66_2 hS, r_66_3 hS, r_66_4 hS, r_66_5 hS, r_66_7 hS, r_66_9 hS, r_66_10 hS, r_66_12 hS, r_66_13 hS, r_66_14 hS, r_66_15 hS, r_72_1 hS, r_75_2 hS, r_77_2 hS, r_79_2 hS, r_81_2 hS, r_131_0 hS, r_131_6 hS, r_131_8 hS, r_135_0 hS, r_135_1 hS, r_135_2 hS, r_135_3 hS, r_140_0 hS, r_140_1 hS, r_143_2 hS, r_145_0 hS, r_145_1 hS, r_145_2 hS, r_145_3 hS, r_145_4 hS, r_145_5 hS, r_156_5 hS, k_pv hS, k_pvr hS, k_db hS, k_dbr hS, k_sh hS, l_pvr hS, l_dbr hS, l_sh hS, r_5 hS, r_6 hS, r_pv hS, r_db hS, r_148 hS, ol_s, ol_n, ln_0, ln_1, ln_2, ln_3, ln_4, eq_self, rf_s, rf_n, i01_0, i01_n0, i01_b, b01_0, b01_1, and_self, and_true, true_and, and_false, false_and, if_true, if_false, not_true_eq_false, not_false_eq_true, e10, e00, lt_bg, Nat.reduceLT, Nat.reduceLeDiff, ne_eq, z0, t3, t5, t12, m3, m5, m12, m0, U, V, Nat.zero_add, Nat.le_refl]
theorem lc66 (hS : Sh ρ τ) {c : Cn} {B : Nat} (hc : Rld 1 B c σ ρ τ) (hl : Led 66 σ) (hT : τ.2.2.1 ≤ 1000000) : ∃ (σ' : am_I) (ρ' : am_R), CpC 66 1 c σ ρ σ' ρ' ∧ ∀ (d : Nat) (g : am_J) (Q : am_Q), AW (d + 3) 22 0 [.ref 66, .ref 1, am_jk] [] σ ρ g τ Q = Q none σ' ρ' g τ := by
  have bn := hc.bn
  unfold Bn at bn
  have z0' : nI 0 = (0 : Int32) := rfl
  have sc := hc.sc
  unfold Scal at sc
  simp only [Nat.reduceAdd] at sc
  obtain ⟨⟨_, _⟩, ⟨p6, _⟩, ⟨p8, _⟩, ⟨p11, _⟩, ⟨q4, _⟩, ⟨q5, _⟩, ⟨q6, _⟩, ⟨q7, _⟩, _⟩ := sc
  unfold Led at hl
  simp only [Nat.reduceAdd] at hl
  obtain ⟨⟨w1, _⟩, ⟨w2, _⟩, ⟨w3, _⟩, ⟨w4, _⟩⟩ := hl
  obtain ⟨s1, F1, ⟨A0, A1, A6⟩, ⟨B1, B2, B3⟩, R1⟩ := lcA66 (σ := σ) hS
  obtain ⟨s2, F2, G2, R2⟩ := pvL66 hS (P := c 1) (by omega) (c 1) 0 s1 (by omega) (by rw [A6]; exact p6)
  generalize e3 : am_u s2 66 8 (s2 1 8) = s3
  have F3 : ∀ z, z ≠ 66 → s3 z = s2 z := fun z hz => by rw [← e3, u_ne _ _ _ _ hz]
  have S2 : ∀ z, (z < 66 ∨ 99 ≤ z) → s2 z = σ z := fun z hz => by rw [F2 z (by omega), F1 z (by omega)]
  have h38 : s3 66 8 = nI (c 2) := by rw [← e3, u_at, S2 _ (by decide)]; exact p8
  obtain ⟨s4, F4, G4, R4⟩ := dbL66 hS (P := c 2) (by omega) (c 2) 0 s3 (by omega) h38 (fun p hp => by
    rw [F3 _ (by omega), S2 _ (by omega)]
    obtain ⟨_, _, _, _, _, _, _, _, ⟨v, hv, v1, _⟩, _⟩ := hc.db p hp
    have v1 : σ (34 + 2 * p) 8 = nI v := v1
    rw [v1]
    have q : v = 0 ∨ v = 1 := by omega
    rcases q with rfl | rfl <;> decide)
  generalize e5 : am_u s4 66 11 (s4 1 11) = s5
  have F5 : ∀ z, z ≠ 66 → s5 z = s4 z := fun z hz => by rw [← e5, u_ne _ _ _ _ hz]
  have S4 : ∀ z, (z < 66 ∨ 131 ≤ z) → s4 z = σ z := fun z hz => by rw [F4 z (by omega), F3 z (by omega), S2 z (by omega)]
  have h511 : s5 66 11 = nI (c 3) := by rw [← e5, u_at, S4 _ (by decide)]; exact p11
  obtain ⟨r1, E1, _, H1, R5⟩ := stL66 (σ := s5) (V := c 3) (by omega) h511 (c 3) 0 ρ hS (by omega) (fun v hv => by
    obtain ⟨s, la, n, g1, g2, g3, g4, _⟩ := hc.st v hv
    exact ⟨s, g1, g4, by omega⟩)
  have hS' : Sh r1 τ := sh_cg hS (fun z h1 h2 => E1 z (by omega))
  have S5 : ∀ z, (z < 66 ∨ 131 ≤ z) → s5 z = σ z := fun z hz => by rw [F5 z (by omega), S4 z (by omega)]
  have L5 : ∀ z, 70 ≤ z → z < 83 → s5 z = σ z := fun z h1 h2 => by rw [F5 z (by omega), F4 z (by omega), F3 z (by omega), F2 z (by omega), F1 z (by omega)]
  obtain ⟨s6, F6, G6, H6, I6, R6⟩ := c49 (σ := s5) (ρ := r1) (x := 75) (y := 10) (u := 76) (w := 11) (L := 18) (M := 6) (K := c 4) (k_75 hS) (k_10 hS) (r_75_2 hS') (r_10_2 hS') (k_76 hS) (k_11 hS) (l_76 hS) (l_11 hS) (by decide) (by decide) (by decide) (by decide) (by decide) (by decide) (by decide) (by rw [L5 _ (by decide) (by decide)]; exact w1) (by rw [S5 _ (by decide)]; exact q4) (by omega) (by decide)
  obtain ⟨s7, F7, G7, H7, I7, R7⟩ := c49 (σ := s6) (ρ := r1) (x := 77) (y := 12) (u := 78) (w := 13) (L := 100) (M := 20) (K := c 5) (k_77 hS) (k_12 hS) (r_77_2 hS') (r_12_2 hS') (k_78 hS) (k_13 hS) (l_78 hS) (l_13 hS) (by decide) (by decide) (by decide) (by decide) (by decide) (by decide) (by decide) (by rw [F6 _ (by decide) (by decide), L5 _ (by decide) (by decide)]; exact w2) (by rw [F6 _ (by decide) (by decide), S5 _ (by decide)]; exact q5) (by omega) (by decide)
  obtain ⟨s8, F8, G8, H8, I8, R8⟩ := c49 (σ := s7) (ρ := r1) (x := 79) (y := 14) (u := 80) (w := 15) (L := 48) (M := 16) (K := c 6) (k_79 hS) (k_14 hS) (r_79_2 hS') (r_14_2 hS') (k_80 hS) (k_15 hS) (l_80 hS) (l_15 hS) (by decide) (by decide) (by decide) (by decide) (by decide) (by decide) (by decide) (by rw [F7 _ (by decide) (by decide), F6 _ (by decide) (by decide), L5 _ (by decide) (by decide)]; exact w3) (by rw [F7 _ (by decide) (by decide), F6 _ (by decide) (by decide), S5 _ (by decide)]; exact q6) (by omega) (by decide)
  obtain ⟨s9, F9, G9, H9, I9, R9⟩ := c49 (σ := s8) (ρ := r1) (x := 81) (y := 16) (u := 82) (w := 17) (L := 32) (M := 8) (K := c 7) (k_81 hS) (k_16 hS) (r_81_2 hS') (r_16_2 hS') (k_82 hS) (k_17 hS) (l_82 hS) (l_17 hS) (by decide) (by decide) (by decide) (by decide) (by decide) (by decide) (by decide) (by rw [F8 _ (by decide) (by decide), F7 _ (by decide) (by decide), F6 _ (by decide) (by decide), L5 _ (by decide) (by decide)]; exact w4) (by rw [F8 _ (by decide) (by decide), F7 _ (by decide) (by decide), F6 _ (by decide) (by decide), S5 _ (by decide)]; exact q7) (by omega) (by decide)
  have N : ∀ z, (z < 75 ∨ 83 ≤ z) → s9 z = s5 z := fun z hz => by rw [F9 z (by omega) (by omega), F8 z (by omega) (by omega), F7 z (by omega) (by omega), F6 z (by omega) (by omega)]
  have n5 : ∀ k, k ≠ 11 → s5 66 k = s4 66 k := fun k hk => by rw [← e5, u_nk _ _ _ _ hk]
  have n3 : ∀ k, k ≠ 8 → s3 66 k = s2 66 k := fun k hk => by rw [← e3, u_nk _ _ _ _ hk]
  have n4 : s4 66 = s3 66 := F4 _ (by omega)
  have n2 : s2 66 = s1 66 := F2 _ (by omega)
  have K1 : ∀ z, 67 ≤ z → z < 70 → s9 z = s1 z := fun z h1 h2 => by rw [N z (by omega), F5 z (by omega), F4 z (by omega), F3 z (by omega), F2 z (by omega)]
  refine ⟨s9, r1, ⟨fun z hz => ?_, ⟨?_, ?_, ?_, ?_, ?_⟩, ⟨?_, ?_, ?_⟩, fun p hp => ?_, fun p hp => ?_, ⟨fun k hk => ?_, ?_, fun k hk => ?_⟩, ⟨fun k hk => ?_, ?_, fun k hk => ?_⟩, ⟨fun k hk => ?_, ?_, fun k hk => ?_⟩, ⟨fun k hk => ?_, ?_, fun k hk => ?_⟩, E1, fun v hv => H1 v (by omega) hv⟩, fun d g Q => ?_⟩
  · rw [N z (by omega), S5 z (by omega)]
  · rw [N _ (by omega), n5 0 (by decide), n4, n3 0 (by decide), n2]; exact A0
  · rw [N _ (by omega), n5 1 (by decide), n4, n3 1 (by decide), n2]; exact A1
  · rw [N _ (by omega), n5 6 (by decide), n4, n3 6 (by decide), n2]; exact A6
  · rw [N _ (by omega), n5 8 (by decide), n4, h38, p8]
  · rw [N _ (by omega), h511, p11]
  · rw [K1 _ (by decide) (by decide)]; exact B1
  · rw [K1 _ (by decide) (by decide)]; exact B2
  · rw [K1 _ (by decide) (by decide)]; exact B3
  · have t := G2 p (by omega) hp
    simp only [Nat.reduceAdd]
    rw [N _ (by omega), N _ (by omega), F5 _ (by omega), F5 _ (by omega), F4 _ (by omega), F4 _ (by omega), F3 _ (by omega), F3 _ (by omega)]
    rw [F1 _ (by omega), F1 _ (by omega)] at t
    exact t
  · have t := G4 p (by omega) hp
    simp only [Nat.reduceAdd]
    rw [N _ (by omega), N _ (by omega), F5 _ (by omega), F5 _ (by omega)]
    rw [F3 _ (by omega), F3 _ (by omega), S2 _ (by omega), S2 _ (by omega)] at t
    exact t
  · simp only [Nat.reduceAdd]
    rw [F9 _ (by decide) (by decide), F8 _ (by decide) (by decide), F7 _ (by decide) (by decide), G6 k hk, L5 _ (by decide) (by decide)]
  · simp only [Nat.reduceAdd]
    rw [F9 _ (by decide) (by decide), F8 _ (by decide) (by decide), F7 _ (by decide) (by decide), H6, q4]
  · simp only [Nat.reduceAdd]
    rw [F9 _ (by decide) (by decide), F8 _ (by decide) (by decide), F7 _ (by decide) (by decide), I6 k hk, S5 _ (by decide)]
  · simp only [Nat.reduceAdd]
    rw [F9 _ (by decide) (by decide), F8 _ (by decide) (by decide), G7 k hk, F6 _ (by decide) (by decide), L5 _ (by decide) (by decide)]
  · simp only [Nat.reduceAdd]
    rw [F9 _ (by decide) (by decide), F8 _ (by decide) (by decide), H7, q5]
  · simp only [Nat.reduceAdd]
    rw [F9 _ (by decide) (by decide), F8 _ (by decide) (by decide), I7 k hk, F6 _ (by decide) (by decide), S5 _ (by decide)]
  · simp only [Nat.reduceAdd]
    rw [F9 _ (by decide) (by decide), G8 k hk, F7 _ (by decide) (by decide), F6 _ (by decide) (by decide), L5 _ (by decide) (by decide)]
  · simp only [Nat.reduceAdd]
    rw [F9 _ (by decide) (by decide), H8, q6]
  · simp only [Nat.reduceAdd]
    rw [F9 _ (by decide) (by decide), I8 k hk, F7 _ (by decide) (by decide), F6 _ (by decide) (by decide), S5 _ (by decide)]
  · simp only [Nat.reduceAdd]
    rw [G9 k hk, F8 _ (by decide) (by decide), F7 _ (by decide) (by decide), F6 _ (by decide) (by decide), L5 _ (by decide) (by decide)]
  · simp only [Nat.reduceAdd]
    rw [H9, q7]
  · simp only [Nat.reduceAdd]
    rw [I9 k hk, F8 _ (by decide) (by decide), F7 _ (by decide) (by decide), F6 _ (by decide) (by decide), S5 _ (by decide)]
  · rw [R1, ← z0', R2]
    simp only [s22_98, s22_99, s22_100, s22_103, s22_106, s22_107r, k_0 hS, k_1 hS, k_2 hS, l_2 hS, k_3 hS, l_3 hS, k_4 hS, l_4 hS, k_5 hS, l_5 hS, k_6 hS, l_6 hS, k_7 hS, k_8 hS, l_8 hS, k_9 hS, l_9 hS, k_10 hS, k_11 hS, l_11 hS, k_12 hS, k_13 hS, l_13 hS, k_14 hS, k_15 hS, l_15 hS, k_16 hS, k_17 hS, l_17 hS, k_66 hS, k_67 hS, l_67 hS, k_68 hS, l_68 hS, k_69 hS, l_69 hS, k_70 hS, l_70 hS, k_71 hS, l_71 hS, k_72 hS, k_73 hS, l_73 hS, k_74 hS, l_74 hS, k_75 hS, k_76 hS, l_76 hS, k_77 hS, k_78 hS, l_78 hS, k_79 hS, k_80 hS, l_80 hS, k_81 hS, k_82 hS, l_82 hS, k_131 hS, k_132 hS, l_132 hS, k_133 hS, l_133 hS, k_134 hS, l_134 hS, k_135 hS, k_136 hS, l_136 hS, k_137 hS, l_137 hS, k_138 hS, l_138 hS, k_139 hS, l_139 hS, k_140 hS, k_141 hS, l_141 hS, k_142 hS, l_142 hS, k_143 hS, k_144 hS, l_144 hS, k_145 hS, k_146 hS, l_146 hS, k_147 hS, l_147 hS, k_148 hS, l_148 hS, k_153 hS, l_153 hS, k_154 hS, l_154 hS, k_155 hS, l_155 hS, k_156 hS, k_157 hS, l_157 hS, k_158 hS, l_158 hS, k_159 hS, l_159 hS, r_0_0 hS, r_0_1 hS, r_0_3 hS, r_0_4 hS, r_0_5 hS, r_0_6 hS, r_0_7 hS, r_0_8 hS, r_0_9 hS, r_0_10 hS, r_1_2 hS, r_1_3 hS, r_1_4 hS, r_1_5 hS, r_1_7 hS, r_1_9 hS, r_1_10 hS, r_1_12 hS, r_1_13 hS, r_1_14 hS, r_1_15 hS, r_7_1 hS, r_10_2 hS, r_12_2 hS, r_14_2 hS, r_16_2 hS, r_66_2 hS, r_66_3 hS, r_66_4 hS, r_66_5 hS, r_66_7 hS, r_66_9 hS, r_66_10 hS, r_66_12 hS, r_66_13 hS, r_66_14 hS, r_66_15 hS, r_72_1 hS, r_75_2 hS, r_77_2 hS, r_79_2 hS, r_81_2 hS, r_131_0 hS, r_131_6 hS, r_131_8 hS, r_135_0 hS, r_135_1 hS, r_135_2 hS, r_135_3 hS, r_140_0 hS, r_140_1 hS, r_143_2 hS, r_145_0 hS, r_145_1 hS, r_145_2 hS, r_145_3 hS, r_145_4 hS, r_145_5 hS, r_156_5 hS, k_pv hS, k_pvr hS, k_db hS, k_dbr hS, k_sh hS, l_pvr hS, l_dbr hS, l_sh hS, r_5 hS, r_6 hS, r_pv hS, r_db hS, r_148 hS, ol_s, ol_n, ln_0, ln_1, ln_2, ln_3, ln_4, eq_self, rf_s, rf_n, i01_0, i01_n0, i01_b, b01_0, b01_1, and_self, and_true, true_and, and_false, false_and, if_true, if_false, not_true_eq_false, not_false_eq_true, e10, e00, lt_bg, Nat.reduceLT, Nat.reduceLeDiff, e3]
    rw [← z0', R4]
    simp only [s22_137, s22_138, s22_139, s22_142, s22_145, s22_146r, k_0 hS, k_1 hS, k_2 hS, l_2 hS, k_3 hS, l_3 hS, k_4 hS, l_4 hS, k_5 hS, l_5 hS, k_6 hS, l_6 hS, k_7 hS, k_8 hS, l_8 hS, k_9 hS, l_9 hS, k_10 hS, k_11 hS, l_11 hS, k_12 hS, k_13 hS, l_13 hS, k_14 hS, k_15 hS, l_15 hS, k_16 hS, k_17 hS, l_17 hS, k_66 hS, k_67 hS, l_67 hS, k_68 hS, l_68 hS, k_69 hS, l_69 hS, k_70 hS, l_70 hS, k_71 hS, l_71 hS, k_72 hS, k_73 hS, l_73 hS, k_74 hS, l_74 hS, k_75 hS, k_76 hS, l_76 hS, k_77 hS, k_78 hS, l_78 hS, k_79 hS, k_80 hS, l_80 hS, k_81 hS, k_82 hS, l_82 hS, k_131 hS, k_132 hS, l_132 hS, k_133 hS, l_133 hS, k_134 hS, l_134 hS, k_135 hS, k_136 hS, l_136 hS, k_137 hS, l_137 hS, k_138 hS, l_138 hS, k_139 hS, l_139 hS, k_140 hS, k_141 hS, l_141 hS, k_142 hS, l_142 hS, k_143 hS, k_144 hS, l_144 hS, k_145 hS, k_146 hS, l_146 hS, k_147 hS, l_147 hS, k_148 hS, l_148 hS, k_153 hS, l_153 hS, k_154 hS, l_154 hS, k_155 hS, l_155 hS, k_156 hS, k_157 hS, l_157 hS, k_158 hS, l_158 hS, k_159 hS, l_159 hS, r_0_0 hS, r_0_1 hS, r_0_3 hS, r_0_4 hS, r_0_5 hS, r_0_6 hS, r_0_7 hS, r_0_8 hS, r_0_9 hS, r_0_10 hS, r_1_2 hS, r_1_3 hS, r_1_4 hS, r_1_5 hS, r_1_7 hS, r_1_9 hS, r_1_10 hS, r_1_12 hS, r_1_13 hS, r_1_14 hS, r_1_15 hS, r_7_1 hS, r_10_2 hS, r_12_2 hS, r_14_2 hS, r_16_2 hS, r_66_2 hS, r_66_3 hS, r_66_4 hS, r_66_5 hS, r_66_7 hS, r_66_9 hS, r_66_10 hS, r_66_12 hS, r_66_13 hS, r_66_14 hS, r_66_15 hS, r_72_1 hS, r_75_2 hS, r_77_2 hS, r_79_2 hS, r_81_2 hS, r_131_0 hS, r_131_6 hS, r_131_8 hS, r_135_0 hS, r_135_1 hS, r_135_2 hS, r_135_3 hS, r_140_0 hS, r_140_1 hS, r_143_2 hS, r_145_0 hS, r_145_1 hS, r_145_2 hS, r_145_3 hS, r_145_4 hS, r_145_5 hS, r_156_5 hS, k_pv hS, k_pvr hS, k_db hS, k_dbr hS, k_sh hS, l_pvr hS, l_dbr hS, l_sh hS, r_5 hS, r_6 hS, r_pv hS, r_db hS, r_148 hS, ol_s, ol_n, ln_0, ln_1, ln_2, ln_3, ln_4, eq_self, rf_s, rf_n, i01_0, i01_n0, i01_b, b01_0, b01_1, and_self, and_true, true_and, and_false, false_and, if_true, if_false, not_true_eq_false, not_false_eq_true, e10, e00, lt_bg, Nat.reduceLT, Nat.reduceLeDiff, e5]
    rw [← z0', R5]
    have hS := hS'
    simp only [s22_173, s22_174, s22_177, s22_178, s22_181, s22_184, s22_185, s22_188, s22_189, s22_192, s22_195, s22_196, s22_199, s22_200, s22_203, s22_206, s22_207, s22_210, s22_211, s22_214, s22_217, k_0 hS, k_1 hS, k_2 hS, l_2 hS, k_3 hS, l_3 hS, k_4 hS, l_4 hS, k_5 hS, l_5 hS, k_6 hS, l_6 hS, k_7 hS, k_8 hS, l_8 hS, k_9 hS, l_9 hS, k_10 hS, k_11 hS, l_11 hS, k_12 hS, k_13 hS, l_13 hS, k_14 hS, k_15 hS, l_15 hS, k_16 hS, k_17 hS, l_17 hS, k_66 hS, k_67 hS, l_67 hS, k_68 hS, l_68 hS, k_69 hS, l_69 hS, k_70 hS, l_70 hS, k_71 hS, l_71 hS, k_72 hS, k_73 hS, l_73 hS, k_74 hS, l_74 hS, k_75 hS, k_76 hS, l_76 hS, k_77 hS, k_78 hS, l_78 hS, k_79 hS, k_80 hS, l_80 hS, k_81 hS, k_82 hS, l_82 hS, k_131 hS, k_132 hS, l_132 hS, k_133 hS, l_133 hS, k_134 hS, l_134 hS, k_135 hS, k_136 hS, l_136 hS, k_137 hS, l_137 hS, k_138 hS, l_138 hS, k_139 hS, l_139 hS, k_140 hS, k_141 hS, l_141 hS, k_142 hS, l_142 hS, k_143 hS, k_144 hS, l_144 hS, k_145 hS, k_146 hS, l_146 hS, k_147 hS, l_147 hS, k_148 hS, l_148 hS, k_153 hS, l_153 hS, k_154 hS, l_154 hS, k_155 hS, l_155 hS, k_156 hS, k_157 hS, l_157 hS, k_158 hS, l_158 hS, k_159 hS, l_159 hS, r_0_0 hS, r_0_1 hS, r_0_3 hS, r_0_4 hS, r_0_5 hS, r_0_6 hS, r_0_7 hS, r_0_8 hS, r_0_9 hS, r_0_10 hS, r_1_2 hS, r_1_3 hS, r_1_4 hS, r_1_5 hS, r_1_7 hS, r_1_9 hS, r_1_10 hS, r_1_12 hS, r_1_13 hS, r_1_14 hS, r_1_15 hS, r_7_1 hS, r_10_2 hS, r_12_2 hS, r_14_2 hS, r_16_2 hS, r_66_2 hS, r_66_3 hS, r_66_4 hS, r_66_5 hS, r_66_7 hS, r_66_9 hS, r_66_10 hS, r_66_12 hS, r_66_13 hS, r_66_14 hS, r_66_15 hS, r_72_1 hS, r_75_2 hS, r_77_2 hS, r_79_2 hS, r_81_2 hS, r_131_0 hS, r_131_6 hS, r_131_8 hS, r_135_0 hS, r_135_1 hS, r_135_2 hS, r_135_3 hS, r_140_0 hS, r_140_1 hS, r_143_2 hS, r_145_0 hS, r_145_1 hS, r_145_2 hS, r_145_3 hS, r_145_4 hS, r_145_5 hS, r_156_5 hS, k_pv hS, k_pvr hS, k_db hS, k_dbr hS, k_sh hS, l_pvr hS, l_dbr hS, l_sh hS, r_5 hS, r_6 hS, r_pv hS, r_db hS, r_148 hS, ol_s, ol_n, ln_0, ln_1, ln_2, ln_3, ln_4, eq_self, rf_s, rf_n, i01_0, i01_n0, i01_b, b01_0, b01_1, and_self, and_true, true_and, and_false, false_and, if_true, if_false, not_true_eq_false, not_false_eq_true, e10, e00, lt_bg, Nat.reduceLT, Nat.reduceLeDiff, R6, R7, R8, R9]
theorem lcA1 (hS : Sh ρ τ) : ∃ σ' : am_I, (∀ z, z < 1 ∨ 5 ≤ z → σ' z = σ z) ∧ (σ' 1 0 = σ 66 0 ∧ σ' 1 1 = σ 66 1 ∧ σ' 1 6 = σ 66 6) ∧ ((∀ k, k < 3 → σ' 2 k = σ 67 k) ∧ (∀ k, k < 12 → σ' 3 k = σ 68 k) ∧ ∀ k, k < 5 → σ' 4 k = σ 69 k) ∧ ∀ (d : Nat) (g : am_J) (Q : am_Q), AW d 22 0 [.ref 1, .ref 66, am_jk] [] σ ρ g τ Q = AW d 22 69 [.ref 1, .ref 66, .int 0] [] σ' ρ g τ Q := by
  have t3 : (3 : Int32).toNatClampNeg = 3 := by decide
  have t5 : (5 : Int32).toNatClampNeg = 5 := by decide
  have t12 : (12 : Int32).toNatClampNeg = 12 := by decide
  have m3 : ¬ (3 : Int32) < 0 := by decide
  have m5 : ¬ (5 : Int32) < 0 := by decide
  have m12 : ¬ (12 : Int32) < 0 := by decide
  have m0 : ¬ (0 : Int32) < 0 := by decide
  have U : ∀ (f : am_I) (k : Nat) (v : Int32) (z : Nat), z ≠ 1 → am_u f 1 k v z = f z := fun f k v z h => u_ne _ _ _ _ h
  have V : ∀ (f : am_I) (y : Nat) (w : Nat → Int32) (z : Nat), z ≠ y → am_ur f y w z = f z := fun f y w z h => ur_ne _ _ _ h
  refine ⟨am_u (am_ur (am_ur (am_ur (am_u (am_u σ 1 0 (σ 66 0)) 1 1 (σ 66 1)) 2 (va_cpy (σ 67) (σ 2) 0 0 3)) 3 (va_cpy (σ 68) (σ 3) 0 0 12)) 4 (va_cpy (σ 69) (σ 4) 0 0 5)) 1 6 (σ 66 6), fun z hz => ?_, ⟨?_, ?_, ?_⟩, ⟨fun k hk => ?_, fun k hk => ?_, fun k hk => ?_⟩, fun d g Q => ?_⟩
  · rw [u_ne _ _ _ _ (by omega), ur_ne _ _ _ (by omega), ur_ne _ _ _ (by omega), ur_ne _ _ _ (by omega), u_ne _ _ _ _ (by omega), u_ne _ _ _ _ (by omega)]
  · rw [u_nk _ _ _ _ (by decide), ur_ne _ _ _ (by decide), ur_ne _ _ _ (by decide), ur_ne _ _ _ (by decide), u_nk _ _ _ _ (by decide), u_at]
  · rw [u_nk _ _ _ _ (by decide), ur_ne _ _ _ (by decide), ur_ne _ _ _ (by decide), ur_ne _ _ _ (by decide), u_at]
  · rw [u_at]
  · rw [u_ne _ _ _ _ (by decide), ur_ne _ _ _ (by decide), ur_ne _ _ _ (by decide), ur_at]
    exact cpy_at hk
  · rw [u_ne _ _ _ _ (by decide), ur_ne _ _ _ (by decide), ur_at]
    exact cpy_at hk
  · rw [u_ne _ _ _ _ (by decide), ur_at]
    exact cpy_at hk
  · rw [s22_0]
    simp (decide := true) only [s22_1, s22_2, s22_5, s22_8, s22_9, s22_10, s22_13, s22_16, s22_17, s22_20, s22_21, s22_22, s22_25, s22_26, s22_27, s22_30, s22_31, s22_34, s22_35, s22_36, s22_39, s22_40, s22_42, s22_45, s22_46, s22_49, s22_50, s22_51, s22_54, s22_55, s22_56, s22_59, s22_60, s22_61, s22_64, s22_67, s22_68r, k_0 hS, k_1 hS, k_2 hS, l_2 hS, k_3 hS, l_3 hS, k_4 hS, l_4 hS, k_5 hS, l_5 hS, k_6 hS, l_6 hS, k_7 hS, k_8 hS, l_8 hS, k_9 hS, l_9 hS, k_10 hS, k_11 hS, l_11 hS, k_12 hS, k_13 hS, l_13 hS, k_14 hS, k_15 hS, l_15 hS, k_16 hS, k_17 hS, l_17 hS, k_66 hS, k_67 hS, l_67 hS, k_68 hS, l_68 hS, k_69 hS, l_69 hS, k_70 hS, l_70 hS, k_71 hS, l_71 hS, k_72 hS, k_73 hS, l_73 hS, k_74 hS, l_74 hS, k_75 hS, k_76 hS, l_76 hS, k_77 hS, k_78 hS, l_78 hS, k_79 hS, k_80 hS, l_80 hS, k_81 hS, k_82 hS, l_82 hS, k_131 hS, k_132 hS, l_132 hS, k_133 hS, l_133 hS, k_134 hS, l_134 hS, k_135 hS, k_136 hS, l_136 hS, k_137 hS, l_137 hS, k_138 hS, l_138 hS, k_139 hS, l_139 hS, k_140 hS, k_141 hS, l_141 hS, k_142 hS, l_142 hS, k_143 hS, k_144 hS, l_144 hS, k_145 hS, k_146 hS, l_146 hS, k_147 hS, l_147 hS, k_148 hS, l_148 hS, k_153 hS, l_153 hS, k_154 hS, l_154 hS, k_155 hS, l_155 hS, k_156 hS, k_157 hS, l_157 hS, k_158 hS, l_158 hS, k_159 hS, l_159 hS, r_0_0 hS, r_0_1 hS, r_0_3 hS, r_0_4 hS, r_0_5 hS, r_0_6 hS, r_0_7 hS, r_0_8 hS, r_0_9 hS, r_0_10 hS, r_1_2 hS, r_1_3 hS, r_1_4 hS, r_1_5 hS, r_1_7 hS, r_1_9 hS, r_1_10 hS, r_1_12 hS, r_1_13 hS, r_1_14 hS, r_1_15 hS, r_7_1 hS, r_10_2 hS, r_12_2 hS, r_14_2 hS, r_16_2 hS, r_66_2 hS, r_66_3 hS, r_66_4 hS, r_66_5 hS, r_66_7 hS, r_66_9 hS, r_66_10 hS, r_66_12 hS, r_66_13 hS, r_66_14 hS, r_66_15 hS, r_72_1 hS, r_75_2 hS, r_77_2 hS, r_79_2 hS, r_81_2 hS, r_131_0 hS, r_131_6 hS, r_131_8 hS, r_135_0 hS, r_135_1 hS, r_135_2 hS, r_135_3 hS, r_140_0 hS, r_140_1 hS, r_143_2 hS, r_145_0 hS, r_145_1 hS, r_145_2 hS, r_145_3 hS, r_145_4 hS, r_145_5 hS, r_156_5 hS, k_pv hS, k_pvr hS, k_db hS, k_dbr hS, k_sh hS, l_pvr hS, l_dbr hS, l_sh hS, r_5 hS, r_6 hS, r_pv hS, r_db hS, r_148 hS, ol_s, ol_n, ln_0, ln_1, ln_2, ln_3, ln_4, eq_self, rf_s, rf_n, i01_0, i01_n0, i01_b, b01_0, b01_1, and_self, and_true, true_and, and_false, false_and, if_true, if_false, not_true_eq_false, not_false_eq_true, e10, e00, lt_bg, Nat.reduceLT, Nat.reduceLeDiff, ne_eq, z0, t3, t5, t12, m3, m5, m12, m0, U, V, Nat.zero_add, Nat.le_refl]
theorem lc1 (hS : Sh ρ τ) {c : Cn} {B : Nat} (hc : Rld 66 B c σ ρ τ) (hl : Led 1 σ) (hT : τ.2.2.1 ≤ 1000000) : ∃ (σ' : am_I) (ρ' : am_R), CpC 1 66 c σ ρ σ' ρ' ∧ ∀ (d : Nat) (g : am_J) (Q : am_Q), AW (d + 3) 22 0 [.ref 1, .ref 66, am_jk] [] σ ρ g τ Q = Q none σ' ρ' g τ := by
  have bn := hc.bn
  unfold Bn at bn
  have z0' : nI 0 = (0 : Int32) := rfl
  have sc := hc.sc
  unfold Scal at sc
  simp only [Nat.reduceAdd] at sc
  obtain ⟨⟨_, _⟩, ⟨p6, _⟩, ⟨p8, _⟩, ⟨p11, _⟩, ⟨q4, _⟩, ⟨q5, _⟩, ⟨q6, _⟩, ⟨q7, _⟩, _⟩ := sc
  unfold Led at hl
  simp only [Nat.reduceAdd] at hl
  obtain ⟨⟨w1, _⟩, ⟨w2, _⟩, ⟨w3, _⟩, ⟨w4, _⟩⟩ := hl
  obtain ⟨s1, F1, ⟨A0, A1, A6⟩, ⟨B1, B2, B3⟩, R1⟩ := lcA1 (σ := σ) hS
  obtain ⟨s2, F2, G2, R2⟩ := pvL1 hS (P := c 1) (by omega) (c 1) 0 s1 (by omega) (by rw [A6]; exact p6)
  generalize e3 : am_u s2 1 8 (s2 66 8) = s3
  have F3 : ∀ z, z ≠ 1 → s3 z = s2 z := fun z hz => by rw [← e3, u_ne _ _ _ _ hz]
  have S2 : ∀ z, (z < 1 ∨ 34 ≤ z) → s2 z = σ z := fun z hz => by rw [F2 z (by omega), F1 z (by omega)]
  have h38 : s3 1 8 = nI (c 2) := by rw [← e3, u_at, S2 _ (by decide)]; exact p8
  obtain ⟨s4, F4, G4, R4⟩ := dbL1 hS (P := c 2) (by omega) (c 2) 0 s3 (by omega) h38 (fun p hp => by
    rw [F3 _ (by omega), S2 _ (by omega)]
    obtain ⟨_, _, _, _, _, _, _, _, ⟨v, hv, v1, _⟩, _⟩ := hc.db p hp
    have v1 : σ (99 + 2 * p) 8 = nI v := v1
    rw [v1]
    have q : v = 0 ∨ v = 1 := by omega
    rcases q with rfl | rfl <;> decide)
  generalize e5 : am_u s4 1 11 (s4 66 11) = s5
  have F5 : ∀ z, z ≠ 1 → s5 z = s4 z := fun z hz => by rw [← e5, u_ne _ _ _ _ hz]
  have S4 : ∀ z, (z < 1 ∨ 66 ≤ z) → s4 z = σ z := fun z hz => by rw [F4 z (by omega), F3 z (by omega), S2 z (by omega)]
  have h511 : s5 1 11 = nI (c 3) := by rw [← e5, u_at, S4 _ (by decide)]; exact p11
  obtain ⟨r1, E1, _, H1, R5⟩ := stL1 (σ := s5) (V := c 3) (by omega) h511 (c 3) 0 ρ hS (by omega) (fun v hv => by
    obtain ⟨s, la, n, g1, g2, g3, g4, _⟩ := hc.st v hv
    exact ⟨s, g1, g4, by omega⟩)
  have hS' : Sh r1 τ := sh_cg hS (fun z h1 h2 => E1 z (by omega))
  have S5 : ∀ z, (z < 1 ∨ 66 ≤ z) → s5 z = σ z := fun z hz => by rw [F5 z (by omega), S4 z (by omega)]
  have L5 : ∀ z, 5 ≤ z → z < 18 → s5 z = σ z := fun z h1 h2 => by rw [F5 z (by omega), F4 z (by omega), F3 z (by omega), F2 z (by omega), F1 z (by omega)]
  obtain ⟨s6, F6, G6, H6, I6, R6⟩ := c49 (σ := s5) (ρ := r1) (x := 10) (y := 75) (u := 11) (w := 76) (L := 18) (M := 6) (K := c 4) (k_10 hS) (k_75 hS) (r_10_2 hS') (r_75_2 hS') (k_11 hS) (k_76 hS) (l_11 hS) (l_76 hS) (by decide) (by decide) (by decide) (by decide) (by decide) (by decide) (by decide) (by rw [L5 _ (by decide) (by decide)]; exact w1) (by rw [S5 _ (by decide)]; exact q4) (by omega) (by decide)
  obtain ⟨s7, F7, G7, H7, I7, R7⟩ := c49 (σ := s6) (ρ := r1) (x := 12) (y := 77) (u := 13) (w := 78) (L := 100) (M := 20) (K := c 5) (k_12 hS) (k_77 hS) (r_12_2 hS') (r_77_2 hS') (k_13 hS) (k_78 hS) (l_13 hS) (l_78 hS) (by decide) (by decide) (by decide) (by decide) (by decide) (by decide) (by decide) (by rw [F6 _ (by decide) (by decide), L5 _ (by decide) (by decide)]; exact w2) (by rw [F6 _ (by decide) (by decide), S5 _ (by decide)]; exact q5) (by omega) (by decide)
  obtain ⟨s8, F8, G8, H8, I8, R8⟩ := c49 (σ := s7) (ρ := r1) (x := 14) (y := 79) (u := 15) (w := 80) (L := 48) (M := 16) (K := c 6) (k_14 hS) (k_79 hS) (r_14_2 hS') (r_79_2 hS') (k_15 hS) (k_80 hS) (l_15 hS) (l_80 hS) (by decide) (by decide) (by decide) (by decide) (by decide) (by decide) (by decide) (by rw [F7 _ (by decide) (by decide), F6 _ (by decide) (by decide), L5 _ (by decide) (by decide)]; exact w3) (by rw [F7 _ (by decide) (by decide), F6 _ (by decide) (by decide), S5 _ (by decide)]; exact q6) (by omega) (by decide)
  obtain ⟨s9, F9, G9, H9, I9, R9⟩ := c49 (σ := s8) (ρ := r1) (x := 16) (y := 81) (u := 17) (w := 82) (L := 32) (M := 8) (K := c 7) (k_16 hS) (k_81 hS) (r_16_2 hS') (r_81_2 hS') (k_17 hS) (k_82 hS) (l_17 hS) (l_82 hS) (by decide) (by decide) (by decide) (by decide) (by decide) (by decide) (by decide) (by rw [F8 _ (by decide) (by decide), F7 _ (by decide) (by decide), F6 _ (by decide) (by decide), L5 _ (by decide) (by decide)]; exact w4) (by rw [F8 _ (by decide) (by decide), F7 _ (by decide) (by decide), F6 _ (by decide) (by decide), S5 _ (by decide)]; exact q7) (by omega) (by decide)
  have N : ∀ z, (z < 10 ∨ 18 ≤ z) → s9 z = s5 z := fun z hz => by rw [F9 z (by omega) (by omega), F8 z (by omega) (by omega), F7 z (by omega) (by omega), F6 z (by omega) (by omega)]
  have n5 : ∀ k, k ≠ 11 → s5 1 k = s4 1 k := fun k hk => by rw [← e5, u_nk _ _ _ _ hk]
  have n3 : ∀ k, k ≠ 8 → s3 1 k = s2 1 k := fun k hk => by rw [← e3, u_nk _ _ _ _ hk]
  have n4 : s4 1 = s3 1 := F4 _ (by omega)
  have n2 : s2 1 = s1 1 := F2 _ (by omega)
  have K1 : ∀ z, 2 ≤ z → z < 5 → s9 z = s1 z := fun z h1 h2 => by rw [N z (by omega), F5 z (by omega), F4 z (by omega), F3 z (by omega), F2 z (by omega)]
  refine ⟨s9, r1, ⟨fun z hz => ?_, ⟨?_, ?_, ?_, ?_, ?_⟩, ⟨?_, ?_, ?_⟩, fun p hp => ?_, fun p hp => ?_, ⟨fun k hk => ?_, ?_, fun k hk => ?_⟩, ⟨fun k hk => ?_, ?_, fun k hk => ?_⟩, ⟨fun k hk => ?_, ?_, fun k hk => ?_⟩, ⟨fun k hk => ?_, ?_, fun k hk => ?_⟩, E1, fun v hv => H1 v (by omega) hv⟩, fun d g Q => ?_⟩
  · rw [N z (by omega), S5 z (by omega)]
  · rw [N _ (by omega), n5 0 (by decide), n4, n3 0 (by decide), n2]; exact A0
  · rw [N _ (by omega), n5 1 (by decide), n4, n3 1 (by decide), n2]; exact A1
  · rw [N _ (by omega), n5 6 (by decide), n4, n3 6 (by decide), n2]; exact A6
  · rw [N _ (by omega), n5 8 (by decide), n4, h38, p8]
  · rw [N _ (by omega), h511, p11]
  · rw [K1 _ (by decide) (by decide)]; exact B1
  · rw [K1 _ (by decide) (by decide)]; exact B2
  · rw [K1 _ (by decide) (by decide)]; exact B3
  · have t := G2 p (by omega) hp
    simp only [Nat.reduceAdd]
    rw [N _ (by omega), N _ (by omega), F5 _ (by omega), F5 _ (by omega), F4 _ (by omega), F4 _ (by omega), F3 _ (by omega), F3 _ (by omega)]
    rw [F1 _ (by omega), F1 _ (by omega)] at t
    exact t
  · have t := G4 p (by omega) hp
    simp only [Nat.reduceAdd]
    rw [N _ (by omega), N _ (by omega), F5 _ (by omega), F5 _ (by omega)]
    rw [F3 _ (by omega), F3 _ (by omega), S2 _ (by omega), S2 _ (by omega)] at t
    exact t
  · simp only [Nat.reduceAdd]
    rw [F9 _ (by decide) (by decide), F8 _ (by decide) (by decide), F7 _ (by decide) (by decide), G6 k hk, L5 _ (by decide) (by decide)]
  · simp only [Nat.reduceAdd]
    rw [F9 _ (by decide) (by decide), F8 _ (by decide) (by decide), F7 _ (by decide) (by decide), H6, q4]
  · simp only [Nat.reduceAdd]
    rw [F9 _ (by decide) (by decide), F8 _ (by decide) (by decide), F7 _ (by decide) (by decide), I6 k hk, S5 _ (by decide)]
  · simp only [Nat.reduceAdd]
    rw [F9 _ (by decide) (by decide), F8 _ (by decide) (by decide), G7 k hk, F6 _ (by decide) (by decide), L5 _ (by decide) (by decide)]
  · simp only [Nat.reduceAdd]
    rw [F9 _ (by decide) (by decide), F8 _ (by decide) (by decide), H7, q5]
  · simp only [Nat.reduceAdd]
    rw [F9 _ (by decide) (by decide), F8 _ (by decide) (by decide), I7 k hk, F6 _ (by decide) (by decide), S5 _ (by decide)]
  · simp only [Nat.reduceAdd]
    rw [F9 _ (by decide) (by decide), G8 k hk, F7 _ (by decide) (by decide), F6 _ (by decide) (by decide), L5 _ (by decide) (by decide)]
  · simp only [Nat.reduceAdd]
    rw [F9 _ (by decide) (by decide), H8, q6]
  · simp only [Nat.reduceAdd]
    rw [F9 _ (by decide) (by decide), I8 k hk, F7 _ (by decide) (by decide), F6 _ (by decide) (by decide), S5 _ (by decide)]
  · simp only [Nat.reduceAdd]
    rw [G9 k hk, F8 _ (by decide) (by decide), F7 _ (by decide) (by decide), F6 _ (by decide) (by decide), L5 _ (by decide) (by decide)]
  · simp only [Nat.reduceAdd]
    rw [H9, q7]
  · simp only [Nat.reduceAdd]
    rw [I9 k hk, F8 _ (by decide) (by decide), F7 _ (by decide) (by decide), F6 _ (by decide) (by decide), S5 _ (by decide)]
  · rw [R1, ← z0', R2]
    simp only [s22_98, s22_99, s22_100, s22_103, s22_106, s22_107r, k_0 hS, k_1 hS, k_2 hS, l_2 hS, k_3 hS, l_3 hS, k_4 hS, l_4 hS, k_5 hS, l_5 hS, k_6 hS, l_6 hS, k_7 hS, k_8 hS, l_8 hS, k_9 hS, l_9 hS, k_10 hS, k_11 hS, l_11 hS, k_12 hS, k_13 hS, l_13 hS, k_14 hS, k_15 hS, l_15 hS, k_16 hS, k_17 hS, l_17 hS, k_66 hS, k_67 hS, l_67 hS, k_68 hS, l_68 hS, k_69 hS, l_69 hS, k_70 hS, l_70 hS, k_71 hS, l_71 hS, k_72 hS, k_73 hS, l_73 hS, k_74 hS, l_74 hS, k_75 hS, k_76 hS, l_76 hS, k_77 hS, k_78 hS, l_78 hS, k_79 hS, k_80 hS, l_80 hS, k_81 hS, k_82 hS, l_82 hS, k_131 hS, k_132 hS, l_132 hS, k_133 hS, l_133 hS, k_134 hS, l_134 hS, k_135 hS, k_136 hS, l_136 hS, k_137 hS, l_137 hS, k_138 hS, l_138 hS, k_139 hS, l_139 hS, k_140 hS, k_141 hS, l_141 hS, k_142 hS, l_142 hS, k_143 hS, k_144 hS, l_144 hS, k_145 hS, k_146 hS, l_146 hS, k_147 hS, l_147 hS, k_148 hS, l_148 hS, k_153 hS, l_153 hS, k_154 hS, l_154 hS, k_155 hS, l_155 hS, k_156 hS, k_157 hS, l_157 hS, k_158 hS, l_158 hS, k_159 hS, l_159 hS, r_0_0 hS, r_0_1 hS, r_0_3 hS, r_0_4 hS, r_0_5 hS, r_0_6 hS, r_0_7 hS, r_0_8 hS, r_0_9 hS, r_0_10 hS, r_1_2 hS, r_1_3 hS, r_1_4 hS, r_1_5 hS, r_1_7 hS, r_1_9 hS, r_1_10 hS, r_1_12 hS, r_1_13 hS, r_1_14 hS, r_1_15 hS, r_7_1 hS, r_10_2 hS, r_12_2 hS, r_14_2 hS, r_16_2 hS, r_66_2 hS, r_66_3 hS, r_66_4 hS, r_66_5 hS, r_66_7 hS, r_66_9 hS, r_66_10 hS, r_66_12 hS, r_66_13 hS, r_66_14 hS, r_66_15 hS, r_72_1 hS, r_75_2 hS, r_77_2 hS, r_79_2 hS, r_81_2 hS, r_131_0 hS, r_131_6 hS, r_131_8 hS, r_135_0 hS, r_135_1 hS, r_135_2 hS, r_135_3 hS, r_140_0 hS, r_140_1 hS, r_143_2 hS, r_145_0 hS, r_145_1 hS, r_145_2 hS, r_145_3 hS, r_145_4 hS, r_145_5 hS, r_156_5 hS, k_pv hS, k_pvr hS, k_db hS, k_dbr hS, k_sh hS, l_pvr hS, l_dbr hS, l_sh hS, r_5 hS, r_6 hS, r_pv hS, r_db hS, r_148 hS, ol_s, ol_n, ln_0, ln_1, ln_2, ln_3, ln_4, eq_self, rf_s, rf_n, i01_0, i01_n0, i01_b, b01_0, b01_1, and_self, and_true, true_and, and_false, false_and, if_true, if_false, not_true_eq_false, not_false_eq_true, e10, e00, lt_bg, Nat.reduceLT, Nat.reduceLeDiff, e3]
    rw [← z0', R4]
    simp only [s22_137, s22_138, s22_139, s22_142, s22_145, s22_146r, k_0 hS, k_1 hS, k_2 hS, l_2 hS, k_3 hS, l_3 hS, k_4 hS, l_4 hS, k_5 hS, l_5 hS, k_6 hS, l_6 hS, k_7 hS, k_8 hS, l_8 hS, k_9 hS, l_9 hS, k_10 hS, k_11 hS, l_11 hS, k_12 hS, k_13 hS, l_13 hS, k_14 hS, k_15 hS, l_15 hS, k_16 hS, k_17 hS, l_17 hS, k_66 hS, k_67 hS, l_67 hS, k_68 hS, l_68 hS, k_69 hS, l_69 hS, k_70 hS, l_70 hS, k_71 hS, l_71 hS, k_72 hS, k_73 hS, l_73 hS, k_74 hS, l_74 hS, k_75 hS, k_76 hS, l_76 hS, k_77 hS, k_78 hS, l_78 hS, k_79 hS, k_80 hS, l_80 hS, k_81 hS, k_82 hS, l_82 hS, k_131 hS, k_132 hS, l_132 hS, k_133 hS, l_133 hS, k_134 hS, l_134 hS, k_135 hS, k_136 hS, l_136 hS, k_137 hS, l_137 hS, k_138 hS, l_138 hS, k_139 hS, l_139 hS, k_140 hS, k_141 hS, l_141 hS, k_142 hS, l_142 hS, k_143 hS, k_144 hS, l_144 hS, k_145 hS, k_146 hS, l_146 hS, k_147 hS, l_147 hS, k_148 hS, l_148 hS, k_153 hS, l_153 hS, k_154 hS, l_154 hS, k_155 hS, l_155 hS, k_156 hS, k_157 hS, l_157 hS, k_158 hS, l_158 hS, k_159 hS, l_159 hS, r_0_0 hS, r_0_1 hS, r_0_3 hS, r_0_4 hS, r_0_5 hS, r_0_6 hS, r_0_7 hS, r_0_8 hS, r_0_9 hS, r_0_10 hS, r_1_2 hS, r_1_3 hS, r_1_4 hS, r_1_5 hS, r_1_7 hS, r_1_9 hS, r_1_10 hS, r_1_12 hS, r_1_13 hS, r_1_14 hS, r_1_15 hS, r_7_1 hS, r_10_2 hS, r_12_2 hS, r_14_2 hS, r_16_2 hS, r_66_2 hS, r_66_3 hS, r_66_4 hS, r_66_5 hS, r_66_7 hS, r_66_9 hS, r_66_10 hS, r_66_12 hS, r_66_13 hS, r_66_14 hS, r_66_15 hS, r_72_1 hS, r_75_2 hS, r_77_2 hS, r_79_2 hS, r_81_2 hS, r_131_0 hS, r_131_6 hS, r_131_8 hS, r_135_0 hS, r_135_1 hS, r_135_2 hS, r_135_3 hS, r_140_0 hS, r_140_1 hS, r_143_2 hS, r_145_0 hS, r_145_1 hS, r_145_2 hS, r_145_3 hS, r_145_4 hS, r_145_5 hS, r_156_5 hS, k_pv hS, k_pvr hS, k_db hS, k_dbr hS, k_sh hS, l_pvr hS, l_dbr hS, l_sh hS, r_5 hS, r_6 hS, r_pv hS, r_db hS, r_148 hS, ol_s, ol_n, ln_0, ln_1, ln_2, ln_3, ln_4, eq_self, rf_s, rf_n, i01_0, i01_n0, i01_b, b01_0, b01_1, and_self, and_true, true_and, and_false, false_and, if_true, if_false, not_true_eq_false, not_false_eq_true, e10, e00, lt_bg, Nat.reduceLT, Nat.reduceLeDiff, e5]
    rw [← z0', R5]
    have hS := hS'
    simp only [s22_173, s22_174, s22_177, s22_178, s22_181, s22_184, s22_185, s22_188, s22_189, s22_192, s22_195, s22_196, s22_199, s22_200, s22_203, s22_206, s22_207, s22_210, s22_211, s22_214, s22_217, k_0 hS, k_1 hS, k_2 hS, l_2 hS, k_3 hS, l_3 hS, k_4 hS, l_4 hS, k_5 hS, l_5 hS, k_6 hS, l_6 hS, k_7 hS, k_8 hS, l_8 hS, k_9 hS, l_9 hS, k_10 hS, k_11 hS, l_11 hS, k_12 hS, k_13 hS, l_13 hS, k_14 hS, k_15 hS, l_15 hS, k_16 hS, k_17 hS, l_17 hS, k_66 hS, k_67 hS, l_67 hS, k_68 hS, l_68 hS, k_69 hS, l_69 hS, k_70 hS, l_70 hS, k_71 hS, l_71 hS, k_72 hS, k_73 hS, l_73 hS, k_74 hS, l_74 hS, k_75 hS, k_76 hS, l_76 hS, k_77 hS, k_78 hS, l_78 hS, k_79 hS, k_80 hS, l_80 hS, k_81 hS, k_82 hS, l_82 hS, k_131 hS, k_132 hS, l_132 hS, k_133 hS, l_133 hS, k_134 hS, l_134 hS, k_135 hS, k_136 hS, l_136 hS, k_137 hS, l_137 hS, k_138 hS, l_138 hS, k_139 hS, l_139 hS, k_140 hS, k_141 hS, l_141 hS, k_142 hS, l_142 hS, k_143 hS, k_144 hS, l_144 hS, k_145 hS, k_146 hS, l_146 hS, k_147 hS, l_147 hS, k_148 hS, l_148 hS, k_153 hS, l_153 hS, k_154 hS, l_154 hS, k_155 hS, l_155 hS, k_156 hS, k_157 hS, l_157 hS, k_158 hS, l_158 hS, k_159 hS, l_159 hS, r_0_0 hS, r_0_1 hS, r_0_3 hS, r_0_4 hS, r_0_5 hS, r_0_6 hS, r_0_7 hS, r_0_8 hS, r_0_9 hS, r_0_10 hS, r_1_2 hS, r_1_3 hS, r_1_4 hS, r_1_5 hS, r_1_7 hS, r_1_9 hS, r_1_10 hS, r_1_12 hS, r_1_13 hS, r_1_14 hS, r_1_15 hS, r_7_1 hS, r_10_2 hS, r_12_2 hS, r_14_2 hS, r_16_2 hS, r_66_2 hS, r_66_3 hS, r_66_4 hS, r_66_5 hS, r_66_7 hS, r_66_9 hS, r_66_10 hS, r_66_12 hS, r_66_13 hS, r_66_14 hS, r_66_15 hS, r_72_1 hS, r_75_2 hS, r_77_2 hS, r_79_2 hS, r_81_2 hS, r_131_0 hS, r_131_6 hS, r_131_8 hS, r_135_0 hS, r_135_1 hS, r_135_2 hS, r_135_3 hS, r_140_0 hS, r_140_1 hS, r_143_2 hS, r_145_0 hS, r_145_1 hS, r_145_2 hS, r_145_3 hS, r_145_4 hS, r_145_5 hS, r_156_5 hS, k_pv hS, k_pvr hS, k_db hS, k_dbr hS, k_sh hS, l_pvr hS, l_dbr hS, l_sh hS, r_5 hS, r_6 hS, r_pv hS, r_db hS, r_148 hS, ol_s, ol_n, ln_0, ln_1, ln_2, ln_3, ln_4, eq_self, rf_s, rf_n, i01_0, i01_n0, i01_b, b01_0, b01_1, and_self, and_true, true_and, and_false, false_and, if_true, if_false, not_true_eq_false, not_false_eq_true, e10, e00, lt_bg, Nat.reduceLT, Nat.reduceLeDiff, R6, R7, R8, R9]
end OBT
