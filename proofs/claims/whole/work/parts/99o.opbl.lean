/-! a month: a sort's pot, run on both sides -/
section OBL
variable {d : Nat} {σ : am_I} {ρ : am_R} {g : am_J} {τ : am_T} {Q : am_Q}
theorem tre_n {c : Cn} (hc : Rld 1 161 c σ ρ τ) : ∃ t, t ≤ 99999 ∧ σ 1 1 = nI t ∧ σ 161 8 = nI t := hc.sc.2.2.2.2.2.2.2.2
theorem phase (hS : Sh ρ τ) {c : Cn} (hc : Rld 1 161 c σ ρ τ) {so P : Nat} (hso : so < 3) (hP : am_fold (f_gaM σ so (c 0) (σ 162 so)) (c 1) 0 0 = nI P) (hP2 : P ≤ 15984) : ∃ σ', Rld 1 161 c σ' ρ τ ∧ (∀ y, (2 ≤ y ∧ y < 18) ∨ (162 ≤ y ∧ y < 176) → σ' y = σ y) ∧
    (∀ σa, EqC σ σa → ∃ σa', EqC σ' σa' ∧ FrC σa σa' ∧ ∀ (d : Nat) (g : am_J) (Q : am_Q), AW (d + 8) 109 15 [.ref 0, .int (nI so)] [] σa ρ g τ Q = AW (d + 8) 109 15 [.ref 0, .int (nI (so + 1))] [] σa' ρ g τ Q) ∧
    (∀ σb, EqT σ σb → σb 218 so = nI P → ∃ σb', EqT σ' σb' ∧ FrM σb σb' ∧ ∀ (x3 x4 x5 : Value), ∃ y3 y4 y5, ∀ (d : Nat) (g : am_J) (Q : am_Q), AW (d + 8) 222 50 [.ref 160, .int (nI (c 0)), .int (nI so), x3, x4, x5] [] σb ρ g τ Q = AW (d + 8) 222 50 [.ref 160, .int (nI (c 0)), .int (nI (so + 1)), y3, y4, y5] [] σb' ρ g τ Q) := by
  have b := hc.bn
  unfold Bn at b
  obtain ⟨t, ht, t1, t2⟩ := tre_n hc
  obtain ⟨s, v, f, s1, s2, s3, s4, s5, s6⟩ := sy_ex hS hc (show c 0 ≤ 599 by omega)
  have kB : ∀ i, shB σ (c 2) so f i = true → i < c 2 := fun i h => by
    unfold shB at h
    simp only [Bool.and_eq_true, decide_eq_true_eq] at h
    exact h.1.1
  have hPv : P * v ≤ 15984 * 100 := Nat.mul_le_mul hP2 s2
  have hle : P * v / 100 ≤ P := by
    refine Nat.div_le_of_le_mul ?_
    rw [Nat.mul_comm]
    exact Nat.mul_le_mul_right _ s2
  generalize eR : shIt (shW σ (c 2) so (c 0) f) (shK σ (c 2) so f) 10 0 (P - P * v / 100) (fun _ => 0) = RR
  have RL := shIt_le (shW σ (c 2) so (c 0) f) (shK σ (c 2) so f) 10 0 (P - P * v / 100) (fun _ => 0) (fun _ => Nat.zero_le _)
  rw [eR] at RL
  refine ⟨f_ph (shB σ (c 2) so f) (shW σ (c 2) so (c 0) f) RR.2 (c 2) (nI (min 99999 (t + (P * v / 100 + RR.1)))) σ, ph_rld hc (Nat.min_le_left _ _) kB, fun y h1 => ph_ne (by omega) (by omega) (by omega) (by omega) (fun i hi => by omega), fun σa Ea => ?_, fun σb Eb hpot => ?_⟩
  · obtain ⟨ra, rb, rc, rw, w', T1, T2, T3⟩ := cshare hS hc (so := so) (by omega) s1 s2 s6 s3 s4 Ea (P := P) hP2
    rw [eR] at T1 T3
    generalize eX : am_u (f_tw σa v ra rb rc w') 135 5 (nI (P * v / 100 + RR.1)) = X at T3
    have x0 : ∀ y, (y < 135 ∨ 140 ≤ y) → X y = σa y := fun y hy => by
      rw [← eX, u_ne _ _ _ _ (by omega), tw_ne (by omega) (by omega) (by omega) (by omega) (by omega)]
    have xE : EqC σ X := fun y hy => by
      rw [x0 y (by omega)]
      exact Ea y hy
    have xB : ∀ i, i < 16 → X 136 i = b2i (shB σ (c 2) so f i) := fun i hi => by
      rw [← eX, u_ne _ _ _ _ (by decide), tw_136]
      exact (T1 i hi).1
    have xW : ∀ i, i < 16 → shW σ (c 2) so (c 0) f i ≤ 10998 ∧ X 138 i = nI (shW σ (c 2) so (c 0) f i) := fun i hi => by
      refine ⟨shW_le hc i, ?_⟩
      rw [← eX, u_ne _ _ _ _ (by decide)]
      unfold f_tw
      rw [ur_ne _ _ _ (by decide), ur_at]
      exact (T1 i hi).2.1
    have xG : ∀ i, i < 16 → RR.2 i ≤ shW σ (c 2) so (c 0) f i ∧ X 139 i = nI (RR.2 i) := fun i hi => by
      refine ⟨RL.2 i, ?_⟩
      rw [← eX, u_ne _ _ _ _ (by decide)]
      unfold f_tw
      rw [ur_at]
      exact (T1 i hi).2.2
    have x1 : X 1 1 = nI t := by rw [xE 1 (Or.inl (by decide))]; exact t1
    have x5 : X 135 5 = nI (P * v / 100 + RR.1) := by rw [← eX, u_at]
    have L := fun (d : Nat) (g : am_J) (Q : am_Q) => c67L (d := d) (g := g) (Q := Q) hS xB xW xG x1 ht x5 (by omega) 16 0 (by omega)
    have z0' : nI 0 = (0 : Int32) := rfl
    have e00 : f_seC (shB σ (c 2) so f) (shW σ (c 2) so (c 0) f) RR.2 X 0 = X := rfl
    rw [z0', e00] at L
    have a0 : σa 1 0 = nI (c 0) := by rw [Ea 1 (Or.inl (by decide))]; exact hc.sc.1.1
    have tw0 : ∀ y, (y < 135 ∨ 261 ≤ y) → f_tw σa v ra rb rc rw y = σ y := fun y hy => by
      rw [tw_ne (by omega) (by omega) (by omega) (by omega) (by omega)]
      exact Ea y hy
    have tw1 : f_tw σa v ra rb rc rw 1 0 = nI (c 0) := by rw [tw0 1 (Or.inl (by decide))]; exact hc.sc.1.1
    have tw2 : f_tw σa v ra rb rc rw 2 so = σ 2 so := by rw [tw0 2 (Or.inl (by decide))]
    have tw6 : f_tw σa v ra rb rc rw 1 6 = nI (c 1) := by rw [tw0 1 (Or.inl (by decide))]; exact hc.sc.2.1.1
    have er : σ 2 so = σ 162 so := (hc.rh.1 so hso).eq
    have G29 := fun (d : Nat) (g : am_J) (Q : am_Q) => c29 (d := d) (g := g) (Q := Q) (r := σ 2 so) hS tw6 b.2.1 hso (show c 0 < 600 by omega)
    rw [gaC_cg (σ := σ) (fun y hy => tw0 y (Or.inl (by omega))) b.2.1, ga_eq hc hso, er, hP] at G29
    have hlt : ¬ 3 ≤ nI so := nI_ge (b := 3) hso (by omega)
    have hi3 : am_inb (nI so) 3 = true := inb_n hso (by decide)
    have hc3 : (nI so).toNatClampNeg = so := nI_clamp (by omega)
    refine ⟨am_u (f_seC (shB σ (c 2) so f) (shW σ (c 2) so (c 0) f) RR.2 X 16) 1 1 (nI (min 99999 (t + (P * v / 100 + RR.1)))), fun y hy => ?_, fun y hy => ?_, fun d g Q => ?_⟩
    · have e := seC_eq (B := shB σ (c 2) so f) (W := shW σ (c 2) so (c 0) f) (G := RR.2) xE 16 (by omega) y hy
      unfold f_ph
      rw [u_ne _ _ _ _ (show y ≠ 161 by omega)]
      funext k
      simp only [u_eq, seM_ne (σ := f_seC (shB σ (c 2) so f) (shW σ (c 2) so (c 0) f) RR.2 σ 16) (B := shB σ (c 2) so f) (W := shW σ (c 2) so (c 0) f) (G := RR.2) (show y ≠ 176 by omega) (show y ≠ 178 by omega), e]
    · rw [u_ne _ _ _ _ (by omega), seC_ne 16 (fun i hi => by omega), x0 y (by omega)]
    · rw [s109_15]
      rw [er] at tw2
      simp only [s109_16, s109_17, s109_20, s109_21, s109_24, s109_25, s109_28, s109_29, s109_30, s109_33, s109_36, s109_39, s109_40, s109_43, s109_44, s109_47, s109_48, s109_49, s109_52, s109_55, s109_56, s109_59, s109_62, s109_63, s109_64, s109_67, s109_70, s109_71, s109_74, s109_75, s109_78, s109_81r, s109_84, s67_0, s67_1r, k_0 hS, k_1 hS, k_2 hS, l_2 hS, k_3 hS, l_3 hS, k_4 hS, l_4 hS, k_5 hS, l_5 hS, k_6 hS, l_6 hS, k_7 hS, k_8 hS, l_8 hS, k_9 hS, l_9 hS, k_10 hS, k_11 hS, l_11 hS, k_12 hS, k_13 hS, l_13 hS, k_14 hS, k_15 hS, l_15 hS, k_16 hS, k_17 hS, l_17 hS, k_66 hS, k_67 hS, l_67 hS, k_68 hS, l_68 hS, k_69 hS, l_69 hS, k_70 hS, l_70 hS, k_71 hS, l_71 hS, k_72 hS, k_73 hS, l_73 hS, k_74 hS, l_74 hS, k_75 hS, k_76 hS, l_76 hS, k_77 hS, k_78 hS, l_78 hS, k_79 hS, k_80 hS, l_80 hS, k_81 hS, k_82 hS, l_82 hS, k_131 hS, k_132 hS, l_132 hS, k_133 hS, l_133 hS, k_134 hS, l_134 hS, k_135 hS, k_136 hS, l_136 hS, k_137 hS, l_137 hS, k_138 hS, l_138 hS, k_139 hS, l_139 hS, k_140 hS, k_141 hS, l_141 hS, k_142 hS, l_142 hS, k_143 hS, k_144 hS, l_144 hS, k_145 hS, k_146 hS, l_146 hS, k_147 hS, l_147 hS, k_148 hS, l_148 hS, k_153 hS, l_153 hS, k_154 hS, l_154 hS, k_155 hS, l_155 hS, k_156 hS, k_157 hS, l_157 hS, k_158 hS, l_158 hS, k_159 hS, l_159 hS, r_0_0 hS, r_0_1 hS, r_0_3 hS, r_0_4 hS, r_0_5 hS, r_0_6 hS, r_0_7 hS, r_0_8 hS, r_0_9 hS, r_0_10 hS, r_1_2 hS, r_1_3 hS, r_1_4 hS, r_1_5 hS, r_1_7 hS, r_1_9 hS, r_1_10 hS, r_1_12 hS, r_1_13 hS, r_1_14 hS, r_1_15 hS, r_7_1 hS, r_10_2 hS, r_12_2 hS, r_14_2 hS, r_16_2 hS, r_66_2 hS, r_66_3 hS, r_66_4 hS, r_66_5 hS, r_66_7 hS, r_66_9 hS, r_66_10 hS, r_66_12 hS, r_66_13 hS, r_66_14 hS, r_66_15 hS, r_72_1 hS, r_75_2 hS, r_77_2 hS, r_79_2 hS, r_81_2 hS, r_131_0 hS, r_131_6 hS, r_131_8 hS, r_135_0 hS, r_135_1 hS, r_135_2 hS, r_135_3 hS, r_140_0 hS, r_140_1 hS, r_143_2 hS, r_145_0 hS, r_145_1 hS, r_145_2 hS, r_145_3 hS, r_145_4 hS, r_145_5 hS, r_156_5 hS, k_pv hS, k_pvr hS, k_db hS, k_dbr hS, k_sh hS, l_pvr hS, l_dbr hS, l_sh hS, r_5 hS, r_6 hS, r_pv hS, r_db hS, r_148 hS, ol_s, ol_n, ln_0, ln_1, ln_2, ln_3, ln_4, eq_self, rf_s, rf_n, i01_0, i01_n0, i01_b, b01_0, b01_1, and_self, and_true, true_and, and_false, false_and, if_true, if_false, not_true_eq_false, not_false_eq_true, e10, e00, lt_bg, Nat.reduceLT, Nat.reduceLeDiff, hlt, a0, T2, tw1, tw2, hi3, hc3, G29, T3, L, nI_1]
  · obtain ⟨Eb, Et⟩ := Eb
    have b8 : σb 161 8 = nI t := by rw [Et]; exact t2
    generalize e1 : am_u σb 161 8 (nI (min 99999 (t + P * v / 100))) = σ1
    have Eb1 : EqM σ σ1 := fun y h1 h2 => by
      refine ⟨fun hy => ?_, fun k hk => ?_⟩
      · rw [← e1, u_ne _ _ _ _ hy]
        exact (Eb y h1 h2).1 hy
      · by_cases hy : y = 161
        · subst hy
          rw [← e1, u_nk _ _ _ _ hk]
          exact (Eb 161 h1 h2).2 k hk
        · rw [← e1, u_ne _ _ _ _ hy]
          exact (Eb y h1 h2).2 k hk
    obtain ⟨xa, xb, xc, xp, X1, X2⟩ := c216 hS hc (so := so) (by omega) s6 Eb1 (R := P - P * v / 100) (by omega)
    rw [eR] at X1 X2
    generalize eX : am_ur (f_r3 σ1 xa xb xc) 214 xp = X at X2
    have x0 : ∀ y, (y < 214 ∨ 218 ≤ y) → X y = σ1 y := fun y hy => by
      rw [← eX, ur_ne _ _ _ (by omega), r3_ne (by omega) (by omega) (by omega)]
    have xM : EqM σ X := fun y h1 h2 => by
      rw [x0 y (by omega)]
      exact Eb1 y h1 h2
    have xn : X 161 2 = nI (c 2) := by rw [(xM 161 (by omega) (by omega)).2 2 (by decide)]; exact hc.sc.2.2.1.2
    have xB : ∀ i, i < c 2 → (shB σ (c 2) so f i = true ∧ 0 ≤ X 217 i) ∨ (shB σ (c 2) so f i = false ∧ X 217 i < 0) := fun i hi => by
      have e : X 217 i = xc i := by
        rw [← eX, ur_ne _ _ _ (by decide)]
        unfold f_r3
        rw [ur_at]
      rw [e, (X1 i hi).2.2]
      cases q : shB σ (c 2) so f i
      · exact Or.inr ⟨rfl, by rw [if_neg (by decide)]; decide⟩
      · refine Or.inl ⟨rfl, ?_⟩
        have h9 := (s6 i hi).1
        exact nI_pos' (by omega)
    have xW : ∀ i, i < c 2 → shW σ (c 2) so (c 0) f i ≤ 10998 ∧ X 215 i = nI (shW σ (c 2) so (c 0) f i) := fun i hi => by
      refine ⟨shW_le hc i, ?_⟩
      rw [← eX, ur_ne _ _ _ (by decide)]
      unfold f_r3
      rw [ur_ne _ _ _ (by decide), ur_ne _ _ _ (by decide), ur_at]
      exact (X1 i hi).1
    have xG : ∀ i, i < c 2 → RR.2 i ≤ shW σ (c 2) so (c 0) f i ∧ X 216 i = nI (RR.2 i) := fun i hi => by
      refine ⟨RL.2 i, ?_⟩
      rw [← eX, ur_ne _ _ _ (by decide)]
      unfold f_r3
      rw [ur_ne _ _ _ (by decide), ur_at]
      exact (X1 i hi).2.1
    have L := fun (d : Nat) (g : am_J) (Q : am_Q) => c222d (d := d) (g := g) (Q := Q) hS (show c 2 ≤ 16 by omega) xn xB xW xG (x1 := nI (c 0)) (x2 := nI so) (x3 := nI (P * v / 100)) (x4 := nI RR.1) (c 2) 0 (by omega)
    have z0' : nI 0 = (0 : Int32) := rfl
    have e00 : f_seM (shB σ (c 2) so f) (shW σ (c 2) so (c 0) f) RR.2 X 0 = X := rfl
    rw [z0', e00] at L
    have dv : nI P * nI v / 100 = nI (P * v / 100) := by
      rw [nI_mulL]
      exact pk_div (d := 100) (by omega) (by decide) (by decide)
    have sb : nI P - nI (P * v / 100) = nI (P - P * v / 100) := pk_sub hle
    have y8 : f_seM (shB σ (c 2) so f) (shW σ (c 2) so (c 0) f) RR.2 X (c 2) 161 8 = nI (min 99999 (t + P * v / 100)) := by
      rw [seM_ne (by decide) (by decide), x0 161 (by omega), ← e1, u_at]
    have mm : min 99999 (min 99999 (t + P * v / 100) + RR.1) = min 99999 (t + (P * v / 100 + RR.1)) := by omega
    have C220a := fun (d : Nat) (g : am_J) (Q : am_Q) => c220 (d := d) (g := g) (Q := Q) hS b8 ht (show P * v / 100 ≤ 99999 by omega)
    rw [e1] at C220a
    have C220b := fun (d : Nat) (g : am_J) (Q : am_Q) => c220 (d := d) (g := g) (Q := Q) hS y8 (Nat.min_le_left _ _) (show RR.1 ≤ 99999 by omega)
    rw [mm] at C220b
    have hlt : ¬ 3 ≤ nI so := nI_ge (b := 3) hso (by omega)
    have hi3 : am_inb (nI so) 3 = true := inb_n hso (by decide)
    have hc3 : (nI so).toNatClampNeg = so := nI_clamp (by omega)
    have p1 : σ1 218 so = nI P := by rw [← e1, u_ne _ _ _ _ (by decide)]; exact hpot
    refine ⟨am_u (f_seM (shB σ (c 2) so f) (shW σ (c 2) so (c 0) f) RR.2 X (c 2)) 161 8 (nI (min 99999 (t + (P * v / 100 + RR.1)))), ⟨fun y h1 h2 => ?_, ?_⟩, fun y hy => ?_, fun x3 x4 x5 => ⟨.int (nI (P * v / 100)), .int (nI RR.1), .int (nI (c 2)), fun d g Q => ?_⟩⟩
    · have q : EqM σ X := xM
      have sc : EqM (f_seC (shB σ (c 2) so f) (shW σ (c 2) so (c 0) f) RR.2 σ 16) X := fun y h1 h2 => by
        rw [seC_ne 16 (fun i hi => by omega)]
        exact q y h1 h2
      have e := seM_eq (B := shB σ (c 2) so f) (W := shW σ (c 2) so (c 0) f) (G := RR.2) sc (c 2) y h1 h2
      unfold f_ph
      refine ⟨fun hy => ?_, fun k hk => ?_⟩
      · rw [u_ne _ _ _ _ hy, u_ne _ _ _ _ hy, u_ne _ _ _ _ (show y ≠ 1 by omega)]
        exact e.1 hy
      · by_cases hy : y = 161
        · subst hy
          rw [u_nk _ _ _ _ hk, u_nk _ _ _ _ hk, u_ne _ _ _ _ (by decide)]
          exact e.2 k hk
        · rw [u_ne _ _ _ _ hy, u_ne _ _ _ _ hy, u_ne _ _ _ _ (show y ≠ 1 by omega)]
          exact e.2 k hk
    · unfold f_ph
      rw [u_at, u_at]
    · rw [u_ne _ _ _ _ (by omega), seM_ne (by omega) (by omega), x0 y (by omega), ← e1, u_ne _ _ _ _ (by omega)]
    · rw [s222_50]
      simp only [s222_51, s222_52, s222_55, s222_56, s222_57, s222_60, s222_61, s222_62, s222_63, s222_66, s222_67, s222_68, s222_69, s222_72, s222_73, s222_74, s222_75, s222_76, s222_79, s222_80, s222_81, s222_82, s222_83, s222_86, s222_88, s222_89, s218_0, s218_1, s218_2, s218_3, s218_4, s218_5, s218_8, s218_9, s218_11, s218_12, k_160 hS, k_161 hS, l_161 hS, k_162 hS, l_162 hS, k_163 hS, l_163 hS, k_164 hS, l_164 hS, k_165 hS, l_165 hS, k_166 hS, l_166 hS, k_167 hS, l_167 hS, k_168 hS, l_168 hS, k_169 hS, l_169 hS, k_170 hS, l_170 hS, k_171 hS, l_171 hS, k_172 hS, l_172 hS, k_173 hS, l_173 hS, k_174 hS, l_174 hS, k_175 hS, l_175 hS, k_176 hS, l_176 hS, k_177 hS, l_177 hS, k_178 hS, l_178 hS, k_179 hS, l_179 hS, k_180 hS, l_180 hS, k_181 hS, l_181 hS, k_182 hS, l_182 hS, k_183 hS, l_183 hS, k_184 hS, l_184 hS, k_185 hS, l_185 hS, k_186 hS, l_186 hS, k_187 hS, l_187 hS, k_188 hS, l_188 hS, k_189 hS, l_189 hS, k_190 hS, l_190 hS, k_191 hS, l_191 hS, k_192 hS, l_192 hS, k_193 hS, l_193 hS, k_194 hS, l_194 hS, k_195 hS, l_195 hS, k_196 hS, l_196 hS, k_197 hS, l_197 hS, k_198 hS, l_198 hS, k_199 hS, l_199 hS, k_200 hS, l_200 hS, k_201 hS, l_201 hS, k_202 hS, l_202 hS, k_203 hS, l_203 hS, k_204 hS, l_204 hS, k_205 hS, l_205 hS, k_206 hS, l_206 hS, k_207 hS, l_207 hS, k_208 hS, l_208 hS, k_209 hS, l_209 hS, k_210 hS, l_210 hS, k_211 hS, l_211 hS, k_212 hS, l_212 hS, k_213 hS, l_213 hS, k_214 hS, l_214 hS, k_215 hS, l_215 hS, k_216 hS, l_216 hS, k_217 hS, l_217 hS, k_218 hS, l_218 hS, k_219 hS, l_219 hS, k_220 hS, l_220 hS, r_160_0 hS, r_160_1 hS, r_160_2 hS, r_160_3 hS, r_160_4 hS, r_160_5 hS, r_160_6 hS, r_160_7 hS, r_160_8 hS, r_160_9 hS, r_160_10 hS, r_160_11 hS, r_160_12 hS, r_160_13 hS, r_160_14 hS, r_160_15 hS, r_160_16 hS, r_160_17 hS, r_160_18 hS, r_160_19 hS, r_160_20 hS, r_160_21 hS, r_160_22 hS, r_160_23 hS, r_160_24 hS, r_160_25 hS, r_160_26 hS, r_160_27 hS, r_160_28 hS, r_160_29 hS, r_160_30 hS, r_160_31 hS, r_160_32 hS, r_160_33 hS, r_160_34 hS, r_160_35 hS, r_160_36 hS, r_160_37 hS, r_160_38 hS, r_160_39 hS, r_160_40 hS, r_160_41 hS, r_160_43 hS, r_160_45 hS, r_160_46 hS, r_160_48 hS, r_160_49 hS, r_160_50 hS, r_160_51 hS, r_160_52 hS, r_160_53 hS, r_160_54 hS, r_160_56 hS, r_160_63 hS, r_160_64 hS, r_160_65 hS, r_160_66 hS, r_160_67 hS, r_160_68 hS, r_160_69 hS, ol_s, ol_n, ln_0, ln_1, ln_2, ln_3, ln_4, eq_self, rf_s, rf_n, i01_0, i01_n0, i01_b, b01_0, b01_1, and_self, and_true, true_and, and_false, false_and, if_true, if_false, not_true_eq_false, not_false_eq_true, e10, e00, lt_bg, Nat.reduceLT, Nat.reduceLeDiff, hlt, hi3, hc3, hpot, s5 σb _ _ _ Eb, ne100, dv, C220a, p1, sb, X2, L]
      simp only [s222_166, s222_167, s222_169, s222_172, s222_175, k_160 hS, k_161 hS, l_161 hS, k_162 hS, l_162 hS, k_163 hS, l_163 hS, k_164 hS, l_164 hS, k_165 hS, l_165 hS, k_166 hS, l_166 hS, k_167 hS, l_167 hS, k_168 hS, l_168 hS, k_169 hS, l_169 hS, k_170 hS, l_170 hS, k_171 hS, l_171 hS, k_172 hS, l_172 hS, k_173 hS, l_173 hS, k_174 hS, l_174 hS, k_175 hS, l_175 hS, k_176 hS, l_176 hS, k_177 hS, l_177 hS, k_178 hS, l_178 hS, k_179 hS, l_179 hS, k_180 hS, l_180 hS, k_181 hS, l_181 hS, k_182 hS, l_182 hS, k_183 hS, l_183 hS, k_184 hS, l_184 hS, k_185 hS, l_185 hS, k_186 hS, l_186 hS, k_187 hS, l_187 hS, k_188 hS, l_188 hS, k_189 hS, l_189 hS, k_190 hS, l_190 hS, k_191 hS, l_191 hS, k_192 hS, l_192 hS, k_193 hS, l_193 hS, k_194 hS, l_194 hS, k_195 hS, l_195 hS, k_196 hS, l_196 hS, k_197 hS, l_197 hS, k_198 hS, l_198 hS, k_199 hS, l_199 hS, k_200 hS, l_200 hS, k_201 hS, l_201 hS, k_202 hS, l_202 hS, k_203 hS, l_203 hS, k_204 hS, l_204 hS, k_205 hS, l_205 hS, k_206 hS, l_206 hS, k_207 hS, l_207 hS, k_208 hS, l_208 hS, k_209 hS, l_209 hS, k_210 hS, l_210 hS, k_211 hS, l_211 hS, k_212 hS, l_212 hS, k_213 hS, l_213 hS, k_214 hS, l_214 hS, k_215 hS, l_215 hS, k_216 hS, l_216 hS, k_217 hS, l_217 hS, k_218 hS, l_218 hS, k_219 hS, l_219 hS, k_220 hS, l_220 hS, r_160_0 hS, r_160_1 hS, r_160_2 hS, r_160_3 hS, r_160_4 hS, r_160_5 hS, r_160_6 hS, r_160_7 hS, r_160_8 hS, r_160_9 hS, r_160_10 hS, r_160_11 hS, r_160_12 hS, r_160_13 hS, r_160_14 hS, r_160_15 hS, r_160_16 hS, r_160_17 hS, r_160_18 hS, r_160_19 hS, r_160_20 hS, r_160_21 hS, r_160_22 hS, r_160_23 hS, r_160_24 hS, r_160_25 hS, r_160_26 hS, r_160_27 hS, r_160_28 hS, r_160_29 hS, r_160_30 hS, r_160_31 hS, r_160_32 hS, r_160_33 hS, r_160_34 hS, r_160_35 hS, r_160_36 hS, r_160_37 hS, r_160_38 hS, r_160_39 hS, r_160_40 hS, r_160_41 hS, r_160_43 hS, r_160_45 hS, r_160_46 hS, r_160_48 hS, r_160_49 hS, r_160_50 hS, r_160_51 hS, r_160_52 hS, r_160_53 hS, r_160_54 hS, r_160_56 hS, r_160_63 hS, r_160_64 hS, r_160_65 hS, r_160_66 hS, r_160_67 hS, r_160_68 hS, r_160_69 hS, ol_s, ol_n, ln_0, ln_1, ln_2, ln_3, ln_4, eq_self, rf_s, rf_n, i01_0, i01_n0, i01_b, b01_0, b01_1, and_self, and_true, true_and, and_false, false_and, if_true, if_false, not_true_eq_false, not_false_eq_true, e10, e00, lt_bg, Nat.reduceLT, Nat.reduceLeDiff, C220b, nI_1]
end OBL
