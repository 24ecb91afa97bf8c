/-! read: a new statute of the class; the reference's text -/
section ODH
variable {d : Nat} {σ : am_I} {ρ : am_R} {g : am_J} {τ : am_T} {Q : am_Q}
theorem s127_75x {x0 x1 : Value} {p0 S1 S2 A : Nat} {w v : Int32} (ht : τ.1 p0 = 10) : AW (d + 1) 127 75 [x0, x1] [.ref p0, .int w, .ref S1, .ref S2, .int v, .ref A] σ ρ g τ Q = AW d 79 0 [.ref p0, am_jk, am_jk] [] σ ρ g τ (fun r9 σ ρ g τ => AW (d + 1) 127 78 [x0, x1] (r9.toList ++ [.int w, .ref S1, .ref S2, .int v, .ref A]) σ ρ g τ Q) := aw_cv8 m127 d127_75 rfl m79 rfl rfl (by decide) en79 ok79 rfl ht rfl
/-- a statute was made -/
def RDc (σ : am_I) (ρ : am_R) (g : am_J) (τ : am_T) (σ' : am_I) (ρ' : am_R) (g' : am_J) (τ' : am_T) (ver n : Nat) (now : Int32) : Prop :=
  (τ'.2.2.1 = τ.2.2.1 + 2 ∧ τ'.2.2.2 = τ.2.2.2 + 2 + n) ∧
  ((∀ z, z ≠ 1 → z < τ.2.2.1 ∨ τ.2.2.1 + 2 ≤ z → σ' z = σ z) ∧ (∀ k, k ≠ 11 → σ' 1 k = σ 1 k) ∧ σ' 1 11 = nI (ver + 1) ∧ σ' τ.2.2.1 0 = now) ∧
  ((∀ z, z ≠ 9 → z < τ.2.2.1 ∨ τ.2.2.1 + 2 ≤ z → ρ' z = ρ z) ∧ (∀ k, k ≠ ver → ρ' 9 k = ρ 9 k) ∧ ρ' 9 ver = some τ.2.2.1 ∧ ρ' τ.2.2.1 1 = some (τ.2.2.1 + 1) ∧ ∀ t, t < n → ρ' (τ.2.2.1 + 1) t = ρ 134 t) ∧
  ((∀ z, z < τ.2.2.1 ∨ τ.2.2.1 + 2 ≤ z → g' z = g z) ∧ (∀ z, z < τ.2.2.1 ∨ τ.2.2.1 + 2 ≤ z → τ'.1 z = τ.1 z ∧ τ'.2.1 z = τ.2.1 z) ∧ τ'.1 τ.2.2.1 = 9 ∧ τ'.1 (τ.2.2.1 + 1) = 19 ∧ τ'.2.1 (τ.2.2.1 + 1) = n ∧ Sh ρ' τ')
theorem c127t (hS : Sh ρ τ) {ver n : Nat} {now x1 : Int32} (hver : ver < 8) (h11 : σ 1 11 = nI ver) (h0 : σ 1 0 = now) (hn : n ≤ 10) (h9 : σ 131 9 = nI n) (hL : ∀ i, i < n → ∃ L, ρ 134 i = some L ∧ τ.1 L = 5 ∧ L < τ.2.2.1) (hN : τ.2.2.1 + 2 ≤ 1000000) : ∃ (σ' : am_I) (ρ' : am_R) (g' : am_J) (τ' : am_T), RDc σ ρ g τ σ' ρ' g' τ' ver n now ∧ ∀ (d : Nat) (Q : am_Q), AW (d + 2) 127 46 [.ref 0, .int x1] [] σ ρ g τ Q = Q (some (.int (nI ver))) σ' ρ' g' τ' := by
  have h261 := hS.2.2.2.2.2.2
  have R1 : ∀ (d : Nat) (Q : am_Q), AW (d + 2) 127 46 [.ref 0, .int x1] [] σ ρ g τ Q = AW (d + 2) 127 63 [.ref 0, .int x1] [.ref τ.2.2.1, .int (nI ver), .ref 9] (am_new 9 2 σ ρ g τ).1 (am_new 9 2 σ ρ g τ).2.1 (am_new 9 2 σ ρ g τ).2.2.1 (am_new 9 2 σ ρ g τ).2.2.2 Q := fun d Q => by
    simp only [s127_46, s127_47, s127_50, s127_53, s127_54, s127_57, s127_60, k_0 hS, k_1 hS, k_2 hS, l_2 hS, k_3 hS, l_3 hS, k_4 hS, l_4 hS, k_5 hS, l_5 hS, k_6 hS, l_6 hS, k_7 hS, k_8 hS, l_8 hS, k_9 hS, l_9 hS, k_10 hS, k_11 hS, l_11 hS, k_12 hS, k_13 hS, l_13 hS, k_14 hS, k_15 hS, l_15 hS, k_16 hS, k_17 hS, l_17 hS, k_66 hS, k_67 hS, l_67 hS, k_68 hS, l_68 hS, k_69 hS, l_69 hS, k_70 hS, l_70 hS, k_71 hS, l_71 hS, k_72 hS, k_73 hS, l_73 hS, k_74 hS, l_74 hS, k_75 hS, k_76 hS, l_76 hS, k_77 hS, k_78 hS, l_78 hS, k_79 hS, k_80 hS, l_80 hS, k_81 hS, k_82 hS, l_82 hS, k_131 hS, k_132 hS, l_132 hS, k_133 hS, l_133 hS, k_134 hS, l_134 hS, k_135 hS, k_136 hS, l_136 hS, k_137 hS, l_137 hS, k_138 hS, l_138 hS, k_139 hS, l_139 hS, k_140 hS, k_141 hS, l_141 hS, k_142 hS, l_142 hS, k_143 hS, k_144 hS, l_144 hS, k_145 hS, k_146 hS, l_146 hS, k_147 hS, l_147 hS, k_148 hS, l_148 hS, k_153 hS, l_153 hS, k_154 hS, l_154 hS, k_155 hS, l_155 hS, k_156 hS, k_157 hS, l_157 hS, k_158 hS, l_158 hS, k_159 hS, l_159 hS, r_0_0 hS, r_0_1 hS, r_0_3 hS, r_0_4 hS, r_0_5 hS, r_0_6 hS, r_0_7 hS, r_0_8 hS, r_0_9 hS, r_0_10 hS, r_1_2 hS, r_1_3 hS, r_1_4 hS, r_1_5 hS, r_1_7 hS, r_1_9 hS, r_1_10 hS, r_1_12 hS, r_1_13 hS, r_1_14 hS, r_1_15 hS, r_7_1 hS, r_10_2 hS, r_12_2 hS, r_14_2 hS, r_16_2 hS, r_66_2 hS, r_66_3 hS, r_66_4 hS, r_66_5 hS, r_66_7 hS, r_66_9 hS, r_66_10 hS, r_66_12 hS, r_66_13 hS, r_66_14 hS, r_66_15 hS, r_72_1 hS, r_75_2 hS, r_77_2 hS, r_79_2 hS, r_81_2 hS, r_131_0 hS, r_131_6 hS, r_131_8 hS, r_135_0 hS, r_135_1 hS, r_135_2 hS, r_135_3 hS, r_140_0 hS, r_140_1 hS, r_143_2 hS, r_145_0 hS, r_145_1 hS, r_145_2 hS, r_145_3 hS, r_145_4 hS, r_145_5 hS, r_156_5 hS, k_pv hS, k_pvr hS, k_db hS, k_dbr hS, k_sh hS, l_pvr hS, l_dbr hS, l_sh hS, r_5 hS, r_6 hS, r_pv hS, r_db hS, r_148 hS, ol_s, ol_n, ln_0, ln_1, ln_2, ln_3, ln_4, eq_self, rf_s, rf_n, i01_0, i01_n0, i01_b, b01_0, b01_1, and_self, and_true, true_and, and_false, false_and, if_true, if_false, not_true_eq_false, not_false_eq_true, e10, e00, lt_bg, Nat.reduceLT, Nat.reduceLeDiff, h11]
  have hSX : Sh (am_new 9 2 σ ρ g τ).2.1 (am_new 9 2 σ ρ g τ).2.2.2 := sh_nw hS
  have xs : ∀ z, z ≠ τ.2.2.1 → (am_new 9 2 σ ρ g τ).1 z = σ z := fun z hz => nw_s hz
  have xr : ∀ z, z ≠ τ.2.2.1 → (am_new 9 2 σ ρ g τ).2.1 z = ρ z := fun z hz => nw_r hz
  have xg : ∀ z, z ≠ τ.2.2.1 → (am_new 9 2 σ ρ g τ).2.2.1 z = g z := fun z hz => nw_g hz
  have xk : ∀ z, z ≠ τ.2.2.1 → (am_new 9 2 σ ρ g τ).2.2.2.1 z = τ.1 z := fun z hz => nw_k hz
  have xl : ∀ z, z ≠ τ.2.2.1 → (am_new 9 2 σ ρ g τ).2.2.2.2.1 z = τ.2.1 z := fun z hz => nw_l hz
  have xk0 : (am_new 9 2 σ ρ g τ).2.2.2.1 τ.2.2.1 = 9 := nw_k0
  have xc : (am_new 9 2 σ ρ g τ).2.2.2.2.2.1 = τ.2.2.1 + 1 := rfl
  have xt : (am_new 9 2 σ ρ g τ).2.2.2.2.2.2 = τ.2.2.2 + 2 := rfl
  generalize am_new 9 2 σ ρ g τ = X at R1 hSX xs xr xg xk xl xk0 xc xt
  obtain ⟨ρ3, S3, r1, r2, R2⟩ := c79 (σ := X.1) (ρ := X.2.1) (g := X.2.2.1) (τ := X.2.2.2) hSX hn (by rw [xs 131 (by omega)]; exact h9) (fun i hi => by
    obtain ⟨L, l1, l2, l3⟩ := hL i hi
    exact ⟨L, by rw [xr 134 (by omega)]; exact l1, by rw [xk L (by omega)]; exact l2, by rw [xc]; omega⟩) (by rw [xc]; omega)
  have ys : ∀ z, z ≠ τ.2.2.1 + 1 → (am_new 19 n X.1 X.2.1 X.2.2.1 X.2.2.2).1 z = X.1 z := fun z hz => nw_s (by rw [xc]; exact hz)
  have yg : ∀ z, z ≠ τ.2.2.1 + 1 → (am_new 19 n X.1 X.2.1 X.2.2.1 X.2.2.2).2.2.1 z = X.2.2.1 z := fun z hz => nw_g (by rw [xc]; exact hz)
  have yk : ∀ z, z ≠ τ.2.2.1 + 1 → (am_new 19 n X.1 X.2.1 X.2.2.1 X.2.2.2).2.2.2.1 z = X.2.2.2.1 z := fun z hz => nw_k (by rw [xc]; exact hz)
  have yl : ∀ z, z ≠ τ.2.2.1 + 1 → (am_new 19 n X.1 X.2.1 X.2.2.1 X.2.2.2).2.2.2.2.1 z = X.2.2.2.2.1 z := fun z hz => nw_l (by rw [xc]; exact hz)
  have yk0 : (am_new 19 n X.1 X.2.1 X.2.2.1 X.2.2.2).2.2.2.1 (τ.2.2.1 + 1) = 19 := by rw [← xc]; exact nw_k0
  have yl0 : (am_new 19 n X.1 X.2.1 X.2.2.1 X.2.2.2).2.2.2.2.1 (τ.2.2.1 + 1) = n := by rw [← xc]; exact nw_l0
  have yc : (am_new 19 n X.1 X.2.1 X.2.2.1 X.2.2.2).2.2.2.2.2.1 = τ.2.2.1 + 1 + 1 := by rw [nw_c, xc]
  have yt : (am_new 19 n X.1 X.2.1 X.2.2.1 X.2.2.2).2.2.2.2.2.2 = τ.2.2.2 + 2 + n := by rw [nw_t, xt]
  rw [xc] at r1 r2 R2
  generalize am_new 19 n X.1 X.2.1 X.2.2.1 X.2.2.2 = Y at R2 S3 ys yg yk yl yk0 yl0 yc yt
  have x0 : X.1 1 0 = now := by rw [xs 1 (by omega)]; exact h0
  have R3 : ∀ (d : Nat) (Q : am_Q), AW (d + 2) 127 63 [.ref 0, .int x1] [.ref τ.2.2.1, .int (nI ver), .ref 9] X.1 X.2.1 X.2.2.1 X.2.2.2 Q = AW (d + 2) 127 78 [.ref 0, .int x1] [.ref (τ.2.2.1 + 1), .int now, .ref τ.2.2.1, .ref τ.2.2.1, .int (nI ver), .ref 9] Y.1 ρ3 Y.2.2.1 Y.2.2.2 Q := fun d Q => by
    have hS := hSX
    simp only [s127_63, s127_63r, s127_64, s127_65, s127_68, s127_71, s127_72, s127_75x, k_0 hS, k_1 hS, k_2 hS, l_2 hS, k_3 hS, l_3 hS, k_4 hS, l_4 hS, k_5 hS, l_5 hS, k_6 hS, l_6 hS, k_7 hS, k_8 hS, l_8 hS, k_9 hS, l_9 hS, k_10 hS, k_11 hS, l_11 hS, k_12 hS, k_13 hS, l_13 hS, k_14 hS, k_15 hS, l_15 hS, k_16 hS, k_17 hS, l_17 hS, k_66 hS, k_67 hS, l_67 hS, k_68 hS, l_68 hS, k_69 hS, l_69 hS, k_70 hS, l_70 hS, k_71 hS, l_71 hS, k_72 hS, k_73 hS, l_73 hS, k_74 hS, l_74 hS, k_75 hS, k_76 hS, l_76 hS, k_77 hS, k_78 hS, l_78 hS, k_79 hS, k_80 hS, l_80 hS, k_81 hS, k_82 hS, l_82 hS, k_131 hS, k_132 hS, l_132 hS, k_133 hS, l_133 hS, k_134 hS, l_134 hS, k_135 hS, k_136 hS, l_136 hS, k_137 hS, l_137 hS, k_138 hS, l_138 hS, k_139 hS, l_139 hS, k_140 hS, k_141 hS, l_141 hS, k_142 hS, l_142 hS, k_143 hS, k_144 hS, l_144 hS, k_145 hS, k_146 hS, l_146 hS, k_147 hS, l_147 hS, k_148 hS, l_148 hS, k_153 hS, l_153 hS, k_154 hS, l_154 hS, k_155 hS, l_155 hS, k_156 hS, k_157 hS, l_157 hS, k_158 hS, l_158 hS, k_159 hS, l_159 hS, r_0_0 hS, r_0_1 hS, r_0_3 hS, r_0_4 hS, r_0_5 hS, r_0_6 hS, r_0_7 hS, r_0_8 hS, r_0_9 hS, r_0_10 hS, r_1_2 hS, r_1_3 hS, r_1_4 hS, r_1_5 hS, r_1_7 hS, r_1_9 hS, r_1_10 hS, r_1_12 hS, r_1_13 hS, r_1_14 hS, r_1_15 hS, r_7_1 hS, r_10_2 hS, r_12_2 hS, r_14_2 hS, r_16_2 hS, r_66_2 hS, r_66_3 hS, r_66_4 hS, r_66_5 hS, r_66_7 hS, r_66_9 hS, r_66_10 hS, r_66_12 hS, r_66_13 hS, r_66_14 hS, r_66_15 hS, r_72_1 hS, r_75_2 hS, r_77_2 hS, r_79_2 hS, r_81_2 hS, r_131_0 hS, r_131_6 hS, r_131_8 hS, r_135_0 hS, r_135_1 hS, r_135_2 hS, r_135_3 hS, r_140_0 hS, r_140_1 hS, r_143_2 hS, r_145_0 hS, r_145_1 hS, r_145_2 hS, r_145_3 hS, r_145_4 hS, r_145_5 hS, r_156_5 hS, k_pv hS, k_pvr hS, k_db hS, k_dbr hS, k_sh hS, l_pvr hS, l_dbr hS, l_sh hS, r_5 hS, r_6 hS, r_pv hS, r_db hS, r_148 hS, ol_s, ol_n, ln_0, ln_1, ln_2, ln_3, ln_4, eq_self, rf_s, rf_n, i01_0, i01_n0, i01_b, b01_0, b01_1, and_self, and_true, true_and, and_false, false_and, if_true, if_false, not_true_eq_false, not_false_eq_true, e10, e00, lt_bg, Nat.reduceLT, Nat.reduceLeDiff, x0, R2]
  have kS : Y.2.2.2.1 τ.2.2.1 = 9 := by rw [yk _ (by omega)]; exact xk0
  have iv : am_inb (nI ver) 8 = true := inb_n hver (by decide)
  have cv : (nI ver).toNatClampNeg = ver := nI_clamp (by omega)
  have el : am_elK 21 = 9 := rfl
  have hb : τ.2.2.1 < 1000000 := by omega
  have w11 : am_u Y.1 τ.2.2.1 0 now 1 11 = nI ver := by
    rw [u_ne _ _ _ _ (by omega), ys 1 (by omega), xs 1 (by omega)]
    exact h11
  have w12 : am_u (am_u Y.1 τ.2.2.1 0 now) 1 11 (nI (ver + 1)) 1 11 = nI (ver + 1) := u_at _ _ _ _
  have pr : nI (ver + 1) - 1 = nI ver := nI_pred ver
  have S4 : Sh (am_u ρ3 τ.2.2.1 1 (some (τ.2.2.1 + 1))) Y.2.2.2 := sh_v S3 h261
  have S5 : Sh (am_u (am_u ρ3 τ.2.2.1 1 (some (τ.2.2.1 + 1))) 9 ver (some τ.2.2.1)) Y.2.2.2 := sh_cg S4 (fun z z1 _ => u_ne _ _ _ _ z1)
  refine ⟨am_u (am_u Y.1 τ.2.2.1 0 now) 1 11 (nI (ver + 1)), am_u (am_u ρ3 τ.2.2.1 1 (some (τ.2.2.1 + 1))) 9 ver (some τ.2.2.1), Y.2.2.1, Y.2.2.2, ⟨⟨yc, yt⟩, ⟨fun z z1 z2 => ?_, fun k hk => ?_, u_at _ _ _ _, ?_⟩, ⟨fun z z1 z2 => ?_, fun k hk => ?_, u_at _ _ _ _, ?_, fun t ht => ?_⟩, ⟨fun z z1 => ?_, fun z z1 => ?_, kS, yk0, yl0, S5⟩⟩, fun d Q => ?_⟩
  · rw [u_ne _ _ _ _ z1, u_ne _ _ _ _ (by omega), ys z (by omega), xs z (by omega)]
  · rw [u_nk _ _ _ _ hk, u_ne _ _ _ _ (by omega), ys 1 (by omega), xs 1 (by omega)]
  · rw [u_ne _ _ _ _ (by omega), u_at]
  · rw [u_ne _ _ _ _ z1, u_ne _ _ _ _ (by omega), r1 z (by omega), xr z (by omega)]
  · rw [u_nk _ _ _ _ hk, u_ne _ _ _ _ (by omega), r1 9 (by omega), xr 9 (by omega)]
  · rw [u_ne _ _ _ _ (by omega), u_at]
  · rw [u_ne _ _ _ _ (by omega), u_ne _ _ _ _ (by omega), r2 t ht, xr 134 (by omega)]
  · rw [yg z (by omega), xg z (by omega)]
  · rw [yk z (by omega), yl z (by omega)]
    exact ⟨xk z (by omega), xl z (by omega)⟩
  · rw [R1, R3]
    have hS := S3
    have R4 : AW (d + 2) 127 78 [.ref 0, .int x1] [.ref (τ.2.2.1 + 1), .int now, .ref τ.2.2.1, .ref τ.2.2.1, .int (nI ver), .ref 9] Y.1 ρ3 Y.2.2.1 Y.2.2.2 Q = AW (d + 2) 127 81 [.ref 0, .int x1] [.ref τ.2.2.1, .int (nI ver), .ref 9] (am_u Y.1 τ.2.2.1 0 now) (am_u ρ3 τ.2.2.1 1 (some (τ.2.2.1 + 1))) Y.2.2.1 Y.2.2.2 Q := by
      simp only [s127_78, ol_s, ol_n, ln_0, ln_1, ln_2, ln_3, ln_4, eq_self, rf_s, rf_n, i01_0, i01_n0, i01_b, b01_0, b01_1, and_self, and_true, true_and, and_false, false_and, if_true, if_false, not_true_eq_false, not_false_eq_true, e10, e00, lt_bg, Nat.reduceLT, Nat.reduceLeDiff, c68 (τ := Y.2.2.2) (S := τ.2.2.1) kS]
    rw [R4]
    have hS := S4
    have R5 : AW (d + 2) 127 81 [.ref 0, .int x1] [.ref τ.2.2.1, .int (nI ver), .ref 9] (am_u Y.1 τ.2.2.1 0 now) (am_u ρ3 τ.2.2.1 1 (some (τ.2.2.1 + 1))) Y.2.2.1 Y.2.2.2 Q = AW (d + 2) 127 82 [.ref 0, .int x1] [] (am_u Y.1 τ.2.2.1 0 now) (am_u (am_u ρ3 τ.2.2.1 1 (some (τ.2.2.1 + 1))) 9 ver (some τ.2.2.1)) Y.2.2.1 Y.2.2.2 Q := by
      simp only [s127_81, k_0 hS, k_1 hS, k_2 hS, l_2 hS, k_3 hS, l_3 hS, k_4 hS, l_4 hS, k_5 hS, l_5 hS, k_6 hS, l_6 hS, k_7 hS, k_8 hS, l_8 hS, k_9 hS, l_9 hS, k_10 hS, k_11 hS, l_11 hS, k_12 hS, k_13 hS, l_13 hS, k_14 hS, k_15 hS, l_15 hS, k_16 hS, k_17 hS, l_17 hS, k_66 hS, k_67 hS, l_67 hS, k_68 hS, l_68 hS, k_69 hS, l_69 hS, k_70 hS, l_70 hS, k_71 hS, l_71 hS, k_72 hS, k_73 hS, l_73 hS, k_74 hS, l_74 hS, k_75 hS, k_76 hS, l_76 hS, k_77 hS, k_78 hS, l_78 hS, k_79 hS, k_80 hS, l_80 hS, k_81 hS, k_82 hS, l_82 hS, k_131 hS, k_132 hS, l_132 hS, k_133 hS, l_133 hS, k_134 hS, l_134 hS, k_135 hS, k_136 hS, l_136 hS, k_137 hS, l_137 hS, k_138 hS, l_138 hS, k_139 hS, l_139 hS, k_140 hS, k_141 hS, l_141 hS, k_142 hS, l_142 hS, k_143 hS, k_144 hS, l_144 hS, k_145 hS, k_146 hS, l_146 hS, k_147 hS, l_147 hS, k_148 hS, l_148 hS, k_153 hS, l_153 hS, k_154 hS, l_154 hS, k_155 hS, l_155 hS, k_156 hS, k_157 hS, l_157 hS, k_158 hS, l_158 hS, k_159 hS, l_159 hS, r_0_0 hS, r_0_1 hS, r_0_3 hS, r_0_4 hS, r_0_5 hS, r_0_6 hS, r_0_7 hS, r_0_8 hS, r_0_9 hS, r_0_10 hS, r_1_2 hS, r_1_3 hS, r_1_4 hS, r_1_5 hS, r_1_7 hS, r_1_9 hS, r_1_10 hS, r_1_12 hS, r_1_13 hS, r_1_14 hS, r_1_15 hS, r_7_1 hS, r_10_2 hS, r_12_2 hS, r_14_2 hS, r_16_2 hS, r_66_2 hS, r_66_3 hS, r_66_4 hS, r_66_5 hS, r_66_7 hS, r_66_9 hS, r_66_10 hS, r_66_12 hS, r_66_13 hS, r_66_14 hS, r_66_15 hS, r_72_1 hS, r_75_2 hS, r_77_2 hS, r_79_2 hS, r_81_2 hS, r_131_0 hS, r_131_6 hS, r_131_8 hS, r_135_0 hS, r_135_1 hS, r_135_2 hS, r_135_3 hS, r_140_0 hS, r_140_1 hS, r_143_2 hS, r_145_0 hS, r_145_1 hS, r_145_2 hS, r_145_3 hS, r_145_4 hS, r_145_5 hS, r_156_5 hS, k_pv hS, k_pvr hS, k_db hS, k_dbr hS, k_sh hS, l_pvr hS, l_dbr hS, l_sh hS, r_5 hS, r_6 hS, r_pv hS, r_db hS, r_148 hS, ol_s, ol_n, ln_0, ln_1, ln_2, ln_3, ln_4, eq_self, rf_s, rf_n, i01_0, i01_n0, i01_b, b01_0, b01_1, and_self, and_true, true_and, and_false, false_and, if_true, if_false, not_true_eq_false, not_false_eq_true, e10, e00, lt_bg, Nat.reduceLT, Nat.reduceLeDiff, kS, iv, cv, el, hb]
    rw [R5]
    have hS := S5
    simp only [s127_82, s127_83, s127_86, s127_86r, s127_87, s127_90, s127_91, s127_92, s127_95, s127_96, s127_99, s127_102, s127_103, s127_104, k_0 hS, k_1 hS, k_2 hS, l_2 hS, k_3 hS, l_3 hS, k_4 hS, l_4 hS, k_5 hS, l_5 hS, k_6 hS, l_6 hS, k_7 hS, k_8 hS, l_8 hS, k_9 hS, l_9 hS, k_10 hS, k_11 hS, l_11 hS, k_12 hS, k_13 hS, l_13 hS, k_14 hS, k_15 hS, l_15 hS, k_16 hS, k_17 hS, l_17 hS, k_66 hS, k_67 hS, l_67 hS, k_68 hS, l_68 hS, k_69 hS, l_69 hS, k_70 hS, l_70 hS, k_71 hS, l_71 hS, k_72 hS, k_73 hS, l_73 hS, k_74 hS, l_74 hS, k_75 hS, k_76 hS, l_76 hS, k_77 hS, k_78 hS, l_78 hS, k_79 hS, k_80 hS, l_80 hS, k_81 hS, k_82 hS, l_82 hS, k_131 hS, k_132 hS, l_132 hS, k_133 hS, l_133 hS, k_134 hS, l_134 hS, k_135 hS, k_136 hS, l_136 hS, k_137 hS, l_137 hS, k_138 hS, l_138 hS, k_139 hS, l_139 hS, k_140 hS, k_141 hS, l_141 hS, k_142 hS, l_142 hS, k_143 hS, k_144 hS, l_144 hS, k_145 hS, k_146 hS, l_146 hS, k_147 hS, l_147 hS, k_148 hS, l_148 hS, k_153 hS, l_153 hS, k_154 hS, l_154 hS, k_155 hS, l_155 hS, k_156 hS, k_157 hS, l_157 hS, k_158 hS, l_158 hS, k_159 hS, l_159 hS, r_0_0 hS, r_0_1 hS, r_0_3 hS, r_0_4 hS, r_0_5 hS, r_0_6 hS, r_0_7 hS, r_0_8 hS, r_0_9 hS, r_0_10 hS, r_1_2 hS, r_1_3 hS, r_1_4 hS, r_1_5 hS, r_1_7 hS, r_1_9 hS, r_1_10 hS, r_1_12 hS, r_1_13 hS, r_1_14 hS, r_1_15 hS, r_7_1 hS, r_10_2 hS, r_12_2 hS, r_14_2 hS, r_16_2 hS, r_66_2 hS, r_66_3 hS, r_66_4 hS, r_66_5 hS, r_66_7 hS, r_66_9 hS, r_66_10 hS, r_66_12 hS, r_66_13 hS, r_66_14 hS, r_66_15 hS, r_72_1 hS, r_75_2 hS, r_77_2 hS, r_79_2 hS, r_81_2 hS, r_131_0 hS, r_131_6 hS, r_131_8 hS, r_135_0 hS, r_135_1 hS, r_135_2 hS, r_135_3 hS, r_140_0 hS, r_140_1 hS, r_143_2 hS, r_145_0 hS, r_145_1 hS, r_145_2 hS, r_145_3 hS, r_145_4 hS, r_145_5 hS, r_156_5 hS, k_pv hS, k_pvr hS, k_db hS, k_dbr hS, k_sh hS, l_pvr hS, l_dbr hS, l_sh hS, r_5 hS, r_6 hS, r_pv hS, r_db hS, r_148 hS, ol_s, ol_n, ln_0, ln_1, ln_2, ln_3, ln_4, eq_self, rf_s, rf_n, i01_0, i01_n0, i01_b, b01_0, b01_1, and_self, and_true, true_and, and_false, false_and, if_true, if_false, not_true_eq_false, not_false_eq_true, e10, e00, lt_bg, Nat.reduceLT, Nat.reduceLeDiff, w11, nI_1, w12, pr]
/-! the reference -/
/-- the record of line k, the reference's -/
def LnQ (ver j f : Nat) (σ : am_I) (r : Lr) : Prop := f + r.2.2.2.2.2.length ≤ 240 ∧ L4 j f σ (nI r.2.2.1) r.2.2.2.1 r.2.2.2.2.1 ∧ σ 186 j = nI (f + r.2.2.2.2.2.length) ∧ ∀ k, k < r.2.2.2.2.2.length → σ 187 (256 * ver + f + k) = nI (tk_M (r.2.2.2.2.2.getD k tk_no))
/-- lines were told -/
def TXR (ver i m : Nat) (σ σ' : am_I) (rs : List Lr) : Prop := (∀ z, z ≠ 160 → z < 182 ∨ 187 < z → σ' z = σ z) ∧ (∀ k, k < 57 ∨ 62 < k → σ' 160 k = σ 160 k) ∧ (∀ z, 182 ≤ z → z ≤ 186 → ∀ k, k < 10 * ver + i → σ' z k = σ z k) ∧ (∀ k, k < 256 * ver + m → σ' 187 k = σ 187 k) ∧ ∀ k, k < rs.length → ∃ f, LnQ ver (10 * ver + i + k) f σ' (rs.getD k lr0)
theorem TXR.nil {ver i m : Nat} {s : am_I} (h : RFr ver (10 * ver + i) m σ s) : TXR ver i m σ s [] := ⟨h.1, h.2.1, fun z a b k hk => h.2.2.1 z a b k (by omega), h.2.2.2, fun k hk => absurd hk (Nat.not_lt_zero _)⟩
theorem TXR.cons {ver i m : Nat} {s σ' : am_I} {r : Lr} {rs : List Lr} (h : RFr ver (10 * ver + i) m σ s) (hr : LnQ ver (10 * ver + i) m s r) (h2 : TXR ver (i + 1) (m + r.2.2.2.2.2.length) s σ' rs) : TXR ver i m σ σ' (r :: rs) := by
  obtain ⟨a1, a2, a3, a4, a5⟩ := h2
  refine ⟨fun z z1 z2 => by rw [a1 z z1 z2, h.1 z z1 z2], fun k hk => by rw [a2 k hk, h.2.1 k hk], fun z z1 z2 k hk => by rw [a3 z z1 z2 k (by omega), h.2.2.1 z z1 z2 k (by omega)], fun k hk => by rw [a4 k (by omega), h.2.2.2 k hk], fun k hk => ?_⟩
  by_cases z : k = 0
  · subst z
    refine ⟨m, ?_⟩
    show LnQ ver (10 * ver + i) m σ' r
    obtain ⟨b1, ⟨b2, b3, b4, b5⟩, b6, b7⟩ := hr
    refine ⟨b1, ⟨?_, ?_, ?_, ?_⟩, ?_, fun k hk => ?_⟩
    · rw [a3 182 (by decide) (by decide) _ (by omega)]
      exact b2
    · rw [a3 183 (by decide) (by decide) _ (by omega)]
      exact b3
    · rw [a3 184 (by decide) (by decide) _ (by omega)]
      exact b4
    · rw [a3 185 (by decide) (by decide) _ (by omega)]
      exact b5
    · rw [a3 186 (by decide) (by decide) _ (by omega)]
      exact b6
    · rw [a4 _ (by omega)]
      exact b7 k hk
  · obtain ⟨k', e⟩ : ∃ k', k = k' + 1 := ⟨k - 1, by omega⟩
    subst e
    have hk : k' + 1 < rs.length + 1 := hk
    obtain ⟨f, q⟩ := a5 k' (by omega)
    refine ⟨f, ?_⟩
    rw [show 10 * ver + i + (k' + 1) = 10 * ver + (i + 1) + k' by omega]
    exact q
theorem hv_kd {b : Nat → Nat} {l p : Nat} (hT : TR b l σ) : (hv b l p < 0) = (kd b l p = 0) := by
  by_cases q : p < l
  · have v : hv b l p = nI (b p) := if_pos q
    obtain ⟨b1, _⟩ := hT.2.2 p q
    rw [v]
    have nz : ¬ kd b l p = 0 := by
      rcases kd_c b l p with h | h | h | h <;> omega
    exact (eq_false (Int32.not_lt.mpr (nI_le (a := 0) (Nat.zero_le _) (by omega)))).trans (eq_false nz).symm
  · have v : hv b l p = -1 := if_neg q
    rw [v]
    exact (eq_true (by decide)).trans (eq_true (kd_0 (by omega))).symm
theorem c201L (hS : Sh ρ τ) {b : Nat → Nat} {l ver : Nat} (hv8 : ver ≤ 8) : ∀ (n i p m : Nat) (σ : am_I), i + n = 10 → p ≤ l → m ≤ p → Bgd σ τ → RX b l p 0 ver m σ → ∃ σ' : am_I, TXR ver i m σ σ' (pTx b l n p).2.2 ∧ ((pTx b l n p).1 = true → σ' 160 58 = -1 ∧ σ' 160 60 = nI ver) ∧ ((pTx b l n p).1 = false → σ' 160 58 = nI (pTx b l n p).2.1) ∧ ∀ (d : Nat) (Q : am_Q), AW (d + 29) 201 32 [.ref 160, .int (nI i)] [] σ ρ g τ Q = AW (d + 29) 201 74 [.ref 160, .int (nI (i + (pTx b l n p).2.2.length))] [] σ' ρ g τ Q := by
  intro n
  have l0 : ((0 : Int32) ≤ -1) = False := by decide
  induction n with
  | zero =>
    intro i p m σ e hp hm hb hx
    have e : i = 10 := by omega
    subst e
    obtain ⟨a, a1, a2, a3⟩ := hx.2.1
    have pp : sk b l p = p := by rw [← a3]; exact sk_sk a1
    have Hh := fun (d : Nat) (Q : am_Q) => c185 (d := d) (g := g) (Q := Q) hS hx.1 a1 a2
    rw [a3] at Hh
    have Z := hv_kd (p := p) hx.1
    have h58 := hx.2.2.1
    have X1 := hx.mv hp pp
    have F1 : RFr ver (10 * ver + 10) m σ (am_u σ 160 57 (nI p)) := RFr.u (by decide) (by decide)
    have hl := hx.1.1
    generalize am_u σ 160 57 (nI p) = s1 at Hh X1 F1
    by_cases z : kd b l p = 0
    · have Z := Z.trans (eq_true z)
      have u1 : (pTx b l 0 p).1 = true := decide_eq_true z
      refine ⟨s1, TXR.nil F1, fun _ => ⟨X1.2.2.1, X1.2.2.2.2.1⟩, fun q => absurd (u1.symm.trans q) (by decide), fun d Q => ?_⟩
      have ee : 10 + (pTx b l 0 p).2.2.length = 10 := rfl
      rw [ee]
      simp only [s201_32, s201_33, s201_36, s201_39, s201_40, s201_43, k_160 hS, k_161 hS, l_161 hS, k_162 hS, l_162 hS, k_163 hS, l_163 hS, k_164 hS, l_164 hS, k_165 hS, l_165 hS, k_166 hS, l_166 hS, k_167 hS, l_167 hS, k_168 hS, l_168 hS, k_169 hS, l_169 hS, k_170 hS, l_170 hS, k_171 hS, l_171 hS, k_172 hS, l_172 hS, k_173 hS, l_173 hS, k_174 hS, l_174 hS, k_175 hS, l_175 hS, k_176 hS, l_176 hS, k_177 hS, l_177 hS, k_178 hS, l_178 hS, k_179 hS, l_179 hS, k_180 hS, l_180 hS, k_181 hS, l_181 hS, k_182 hS, l_182 hS, k_183 hS, l_183 hS, k_184 hS, l_184 hS, k_185 hS, l_185 hS, k_186 hS, l_186 hS, k_187 hS, l_187 hS, k_188 hS, l_188 hS, k_189 hS, l_189 hS, k_190 hS, l_190 hS, k_191 hS, l_191 hS, k_192 hS, l_192 hS, k_193 hS, l_193 hS, k_194 hS, l_194 hS, k_195 hS, l_195 hS, k_196 hS, l_196 hS, k_197 hS, l_197 hS, k_198 hS, l_198 hS, k_199 hS, l_199 hS, k_200 hS, l_200 hS, k_201 hS, l_201 hS, k_202 hS, l_202 hS, k_203 hS, l_203 hS, k_204 hS, l_204 hS, k_205 hS, l_205 hS, k_206 hS, l_206 hS, k_207 hS, l_207 hS, k_208 hS, l_208 hS, k_209 hS, l_209 hS, k_210 hS, l_210 hS, k_211 hS, l_211 hS, k_212 hS, l_212 hS, k_213 hS, l_213 hS, k_214 hS, l_214 hS, k_215 hS, l_215 hS, k_216 hS, l_216 hS, k_217 hS, l_217 hS, k_218 hS, l_218 hS, k_219 hS, l_219 hS, k_220 hS, l_220 hS, r_160_0 hS, r_160_1 hS, r_160_2 hS, r_160_3 hS, r_160_4 hS, r_160_5 hS, r_160_6 hS, r_160_7 hS, r_160_8 hS, r_160_9 hS, r_160_10 hS, r_160_11 hS, r_160_12 hS, r_160_13 hS, r_160_14 hS, r_160_15 hS, r_160_16 hS, r_160_17 hS, r_160_18 hS, r_160_19 hS, r_160_20 hS, r_160_21 hS, r_160_22 hS, r_160_23 hS, r_160_24 hS, r_160_25 hS, r_160_26 hS, r_160_27 hS, r_160_28 hS, r_160_29 hS, r_160_30 hS, r_160_31 hS, r_160_32 hS, r_160_33 hS, r_160_34 hS, r_160_35 hS, r_160_36 hS, r_160_37 hS, r_160_38 hS, r_160_39 hS, r_160_40 hS, r_160_41 hS, r_160_43 hS, r_160_45 hS, r_160_46 hS, r_160_48 hS, r_160_49 hS, r_160_50 hS, r_160_51 hS, r_160_52 hS, r_160_53 hS, r_160_54 hS, r_160_56 hS, r_160_63 hS, r_160_64 hS, r_160_65 hS, r_160_66 hS, r_160_67 hS, r_160_68 hS, r_160_69 hS, ol_s, ol_n, ln_0, ln_1, ln_2, ln_3, ln_4, eq_self, rf_s, rf_n, i01_0, i01_n0, i01_b, b01_0, b01_1, and_self, and_true, true_and, and_false, false_and, if_true, if_false, not_true_eq_false, not_false_eq_true, e10, e00, lt_bg, Nat.reduceLT, Nat.reduceLeDiff, h58, l0, Hh, Z]
    · have Z := Z.trans (eq_false z)
      have u1 : (pTx b l 0 p).1 = false := decide_eq_false z
      obtain ⟨s2, F2, k2, B⟩ := c186x hS X1 F1
      have g58 : 0 ≤ nI p := nI_le (a := 0) (Nat.zero_le _) (by omega)
      have e1 : nI 10 = (10 : Int32) := by decide
      refine ⟨s2, TXR.nil F2, fun q => absurd (u1.symm.trans q) (by decide), fun _ => k2, fun d Q => ?_⟩
      have ee : 10 + (pTx b l 0 p).2.2.length = 10 := rfl
      rw [ee, s201_32]
      simp only [s201_33, s201_36, s201_39, s201_40, s201_43, s201_46, s201_47, s201_49, s201_52, s201_53, s201_56, s201_57, k_160 hS, k_161 hS, l_161 hS, k_162 hS, l_162 hS, k_163 hS, l_163 hS, k_164 hS, l_164 hS, k_165 hS, l_165 hS, k_166 hS, l_166 hS, k_167 hS, l_167 hS, k_168 hS, l_168 hS, k_169 hS, l_169 hS, k_170 hS, l_170 hS, k_171 hS, l_171 hS, k_172 hS, l_172 hS, k_173 hS, l_173 hS, k_174 hS, l_174 hS, k_175 hS, l_175 hS, k_176 hS, l_176 hS, k_177 hS, l_177 hS, k_178 hS, l_178 hS, k_179 hS, l_179 hS, k_180 hS, l_180 hS, k_181 hS, l_181 hS, k_182 hS, l_182 hS, k_183 hS, l_183 hS, k_184 hS, l_184 hS, k_185 hS, l_185 hS, k_186 hS, l_186 hS, k_187 hS, l_187 hS, k_188 hS, l_188 hS, k_189 hS, l_189 hS, k_190 hS, l_190 hS, k_191 hS, l_191 hS, k_192 hS, l_192 hS, k_193 hS, l_193 hS, k_194 hS, l_194 hS, k_195 hS, l_195 hS, k_196 hS, l_196 hS, k_197 hS, l_197 hS, k_198 hS, l_198 hS, k_199 hS, l_199 hS, k_200 hS, l_200 hS, k_201 hS, l_201 hS, k_202 hS, l_202 hS, k_203 hS, l_203 hS, k_204 hS, l_204 hS, k_205 hS, l_205 hS, k_206 hS, l_206 hS, k_207 hS, l_207 hS, k_208 hS, l_208 hS, k_209 hS, l_209 hS, k_210 hS, l_210 hS, k_211 hS, l_211 hS, k_212 hS, l_212 hS, k_213 hS, l_213 hS, k_214 hS, l_214 hS, k_215 hS, l_215 hS, k_216 hS, l_216 hS, k_217 hS, l_217 hS, k_218 hS, l_218 hS, k_219 hS, l_219 hS, k_220 hS, l_220 hS, r_160_0 hS, r_160_1 hS, r_160_2 hS, r_160_3 hS, r_160_4 hS, r_160_5 hS, r_160_6 hS, r_160_7 hS, r_160_8 hS, r_160_9 hS, r_160_10 hS, r_160_11 hS, r_160_12 hS, r_160_13 hS, r_160_14 hS, r_160_15 hS, r_160_16 hS, r_160_17 hS, r_160_18 hS, r_160_19 hS, r_160_20 hS, r_160_21 hS, r_160_22 hS, r_160_23 hS, r_160_24 hS, r_160_25 hS, r_160_26 hS, r_160_27 hS, r_160_28 hS, r_160_29 hS, r_160_30 hS, r_160_31 hS, r_160_32 hS, r_160_33 hS, r_160_34 hS, r_160_35 hS, r_160_36 hS, r_160_37 hS, r_160_38 hS, r_160_39 hS, r_160_40 hS, r_160_41 hS, r_160_43 hS, r_160_45 hS, r_160_46 hS, r_160_48 hS, r_160_49 hS, r_160_50 hS, r_160_51 hS, r_160_52 hS, r_160_53 hS, r_160_54 hS, r_160_56 hS, r_160_63 hS, r_160_64 hS, r_160_65 hS, r_160_66 hS, r_160_67 hS, r_160_68 hS, r_160_69 hS, ol_s, ol_n, ln_0, ln_1, ln_2, ln_3, ln_4, eq_self, rf_s, rf_n, i01_0, i01_n0, i01_b, b01_0, b01_1, and_self, and_true, true_and, and_false, false_and, if_true, if_false, not_true_eq_false, not_false_eq_true, e10, e00, lt_bg, Nat.reduceLT, Nat.reduceLeDiff, h58, l0, Hh, Z, e1, B]
      simp only [s201_32, s201_33, s201_36, k_160 hS, k_161 hS, l_161 hS, k_162 hS, l_162 hS, k_163 hS, l_163 hS, k_164 hS, l_164 hS, k_165 hS, l_165 hS, k_166 hS, l_166 hS, k_167 hS, l_167 hS, k_168 hS, l_168 hS, k_169 hS, l_169 hS, k_170 hS, l_170 hS, k_171 hS, l_171 hS, k_172 hS, l_172 hS, k_173 hS, l_173 hS, k_174 hS, l_174 hS, k_175 hS, l_175 hS, k_176 hS, l_176 hS, k_177 hS, l_177 hS, k_178 hS, l_178 hS, k_179 hS, l_179 hS, k_180 hS, l_180 hS, k_181 hS, l_181 hS, k_182 hS, l_182 hS, k_183 hS, l_183 hS, k_184 hS, l_184 hS, k_185 hS, l_185 hS, k_186 hS, l_186 hS, k_187 hS, l_187 hS, k_188 hS, l_188 hS, k_189 hS, l_189 hS, k_190 hS, l_190 hS, k_191 hS, l_191 hS, k_192 hS, l_192 hS, k_193 hS, l_193 hS, k_194 hS, l_194 hS, k_195 hS, l_195 hS, k_196 hS, l_196 hS, k_197 hS, l_197 hS, k_198 hS, l_198 hS, k_199 hS, l_199 hS, k_200 hS, l_200 hS, k_201 hS, l_201 hS, k_202 hS, l_202 hS, k_203 hS, l_203 hS, k_204 hS, l_204 hS, k_205 hS, l_205 hS, k_206 hS, l_206 hS, k_207 hS, l_207 hS, k_208 hS, l_208 hS, k_209 hS, l_209 hS, k_210 hS, l_210 hS, k_211 hS, l_211 hS, k_212 hS, l_212 hS, k_213 hS, l_213 hS, k_214 hS, l_214 hS, k_215 hS, l_215 hS, k_216 hS, l_216 hS, k_217 hS, l_217 hS, k_218 hS, l_218 hS, k_219 hS, l_219 hS, k_220 hS, l_220 hS, r_160_0 hS, r_160_1 hS, r_160_2 hS, r_160_3 hS, r_160_4 hS, r_160_5 hS, r_160_6 hS, r_160_7 hS, r_160_8 hS, r_160_9 hS, r_160_10 hS, r_160_11 hS, r_160_12 hS, r_160_13 hS, r_160_14 hS, r_160_15 hS, r_160_16 hS, r_160_17 hS, r_160_18 hS, r_160_19 hS, r_160_20 hS, r_160_21 hS, r_160_22 hS, r_160_23 hS, r_160_24 hS, r_160_25 hS, r_160_26 hS, r_160_27 hS, r_160_28 hS, r_160_29 hS, r_160_30 hS, r_160_31 hS, r_160_32 hS, r_160_33 hS, r_160_34 hS, r_160_35 hS, r_160_36 hS, r_160_37 hS, r_160_38 hS, r_160_39 hS, r_160_40 hS, r_160_41 hS, r_160_43 hS, r_160_45 hS, r_160_46 hS, r_160_48 hS, r_160_49 hS, r_160_50 hS, r_160_51 hS, r_160_52 hS, r_160_53 hS, r_160_54 hS, r_160_56 hS, r_160_63 hS, r_160_64 hS, r_160_65 hS, r_160_66 hS, r_160_67 hS, r_160_68 hS, r_160_69 hS, ol_s, ol_n, ln_0, ln_1, ln_2, ln_3, ln_4, eq_self, rf_s, rf_n, i01_0, i01_n0, i01_b, b01_0, b01_1, and_self, and_true, true_and, and_false, false_and, if_true, if_false, not_true_eq_false, not_false_eq_true, e10, e00, lt_bg, Nat.reduceLT, Nat.reduceLeDiff, k2, g58]
  | succ n ih =>
    intro i p m σ e hp hm hb hx
    obtain ⟨a, a1, a2, a3⟩ := hx.2.1
    have pp : sk b l p = p := by rw [← a3]; exact sk_sk a1
    have Hh := fun (d : Nat) (Q : am_Q) => c185 (d := d) (g := g) (Q := Q) hS hx.1 a1 a2
    rw [a3] at Hh
    have Z := hv_kd (p := p) hx.1
    have h58 := hx.2.2.1
    have X1 := hx.mv hp pp
    have F1 : RFr ver (10 * ver + i) m σ (am_u σ 160 57 (nI p)) := RFr.u (by decide) (by decide)
    have b1 : Bgd (am_u σ 160 57 (nI p)) τ := hb.u
    have hl := hx.1.1
    generalize am_u σ 160 57 (nI p) = s1 at Hh X1 F1 b1
    by_cases z : kd b l p = 0
    · have Z := Z.trans (eq_true z)
      have u : pTx b l (n + 1) p = (true, p, []) := if_pos z
      rw [u]
      refine ⟨s1, TXR.nil F1, fun _ => ⟨X1.2.2.1, X1.2.2.2.2.1⟩, fun q => absurd q (by show ¬ (true = false); decide), fun d Q => ?_⟩
      have ee : i + ([] : List Lr).length = i := rfl
      show _ = AW (d + 29) 201 74 [.ref 160, .int (nI (i + ([] : List Lr).length))] [] s1 ρ g τ Q
      rw [ee]
      simp only [s201_32, s201_33, s201_36, s201_39, s201_40, s201_43, k_160 hS, k_161 hS, l_161 hS, k_162 hS, l_162 hS, k_163 hS, l_163 hS, k_164 hS, l_164 hS, k_165 hS, l_165 hS, k_166 hS, l_166 hS, k_167 hS, l_167 hS, k_168 hS, l_168 hS, k_169 hS, l_169 hS, k_170 hS, l_170 hS, k_171 hS, l_171 hS, k_172 hS, l_172 hS, k_173 hS, l_173 hS, k_174 hS, l_174 hS, k_175 hS, l_175 hS, k_176 hS, l_176 hS, k_177 hS, l_177 hS, k_178 hS, l_178 hS, k_179 hS, l_179 hS, k_180 hS, l_180 hS, k_181 hS, l_181 hS, k_182 hS, l_182 hS, k_183 hS, l_183 hS, k_184 hS, l_184 hS, k_185 hS, l_185 hS, k_186 hS, l_186 hS, k_187 hS, l_187 hS, k_188 hS, l_188 hS, k_189 hS, l_189 hS, k_190 hS, l_190 hS, k_191 hS, l_191 hS, k_192 hS, l_192 hS, k_193 hS, l_193 hS, k_194 hS, l_194 hS, k_195 hS, l_195 hS, k_196 hS, l_196 hS, k_197 hS, l_197 hS, k_198 hS, l_198 hS, k_199 hS, l_199 hS, k_200 hS, l_200 hS, k_201 hS, l_201 hS, k_202 hS, l_202 hS, k_203 hS, l_203 hS, k_204 hS, l_204 hS, k_205 hS, l_205 hS, k_206 hS, l_206 hS, k_207 hS, l_207 hS, k_208 hS, l_208 hS, k_209 hS, l_209 hS, k_210 hS, l_210 hS, k_211 hS, l_211 hS, k_212 hS, l_212 hS, k_213 hS, l_213 hS, k_214 hS, l_214 hS, k_215 hS, l_215 hS, k_216 hS, l_216 hS, k_217 hS, l_217 hS, k_218 hS, l_218 hS, k_219 hS, l_219 hS, k_220 hS, l_220 hS, r_160_0 hS, r_160_1 hS, r_160_2 hS, r_160_3 hS, r_160_4 hS, r_160_5 hS, r_160_6 hS, r_160_7 hS, r_160_8 hS, r_160_9 hS, r_160_10 hS, r_160_11 hS, r_160_12 hS, r_160_13 hS, r_160_14 hS, r_160_15 hS, r_160_16 hS, r_160_17 hS, r_160_18 hS, r_160_19 hS, r_160_20 hS, r_160_21 hS, r_160_22 hS, r_160_23 hS, r_160_24 hS, r_160_25 hS, r_160_26 hS, r_160_27 hS, r_160_28 hS, r_160_29 hS, r_160_30 hS, r_160_31 hS, r_160_32 hS, r_160_33 hS, r_160_34 hS, r_160_35 hS, r_160_36 hS, r_160_37 hS, r_160_38 hS, r_160_39 hS, r_160_40 hS, r_160_41 hS, r_160_43 hS, r_160_45 hS, r_160_46 hS, r_160_48 hS, r_160_49 hS, r_160_50 hS, r_160_51 hS, r_160_52 hS, r_160_53 hS, r_160_54 hS, r_160_56 hS, r_160_63 hS, r_160_64 hS, r_160_65 hS, r_160_66 hS, r_160_67 hS, r_160_68 hS, r_160_69 hS, ol_s, ol_n, ln_0, ln_1, ln_2, ln_3, ln_4, eq_self, rf_s, rf_n, i01_0, i01_n0, i01_b, b01_0, b01_1, and_self, and_true, true_and, and_false, false_and, if_true, if_false, not_true_eq_false, not_false_eq_true, e10, e00, lt_bg, Nat.reduceLT, Nat.reduceLeDiff, h58, l0, Hh, Z]
    have Z := Z.trans (eq_false z)
    have e10' : nI 10 = (10 : Int32) := by decide
    have ne : ¬ nI i = (10 : Int32) := by rw [← e10']; exact nI_nj (by omega) (by omega) (by omega)
    obtain ⟨w1, w2, w3⟩ := pLn_w (b := b) hp
    rcases c199 (g := g) (i := i) hS b1 hv8 (by omega) hp hm X1 with ⟨x1, s2, F2, k2, R⟩ | ⟨x1, s2, F2, X2, G2, e6, c6, R⟩
    · have u : pTx b l (n + 1) p = (false, (pLn b l p).2.1, []) := by
        show (if kd b l p = 0 then _ else _) = _
        rw [if_neg z, if_neg (by rw [x1]; decide)]
      have g58 : 0 ≤ nI (pLn b l p).2.1 := nI_le (a := 0) (Nat.zero_le _) (by omega)
      rw [u]
      refine ⟨s2, TXR.nil (F1.tr F2), fun q => absurd q (by show ¬ (false = true); decide), fun _ => k2, fun d Q => ?_⟩
      have ee : i + ([] : List Lr).length = i := rfl
      show _ = AW (d + 29) 201 74 [.ref 160, .int (nI (i + ([] : List Lr).length))] [] s2 ρ g τ Q
      rw [ee, s201_32]
      simp only [s201_33, s201_36, s201_39, s201_40, s201_43, s201_46, s201_47, s201_49, s201_60, s201_61, s201_62, s201_65, k_160 hS, k_161 hS, l_161 hS, k_162 hS, l_162 hS, k_163 hS, l_163 hS, k_164 hS, l_164 hS, k_165 hS, l_165 hS, k_166 hS, l_166 hS, k_167 hS, l_167 hS, k_168 hS, l_168 hS, k_169 hS, l_169 hS, k_170 hS, l_170 hS, k_171 hS, l_171 hS, k_172 hS, l_172 hS, k_173 hS, l_173 hS, k_174 hS, l_174 hS, k_175 hS, l_175 hS, k_176 hS, l_176 hS, k_177 hS, l_177 hS, k_178 hS, l_178 hS, k_179 hS, l_179 hS, k_180 hS, l_180 hS, k_181 hS, l_181 hS, k_182 hS, l_182 hS, k_183 hS, l_183 hS, k_184 hS, l_184 hS, k_185 hS, l_185 hS, k_186 hS, l_186 hS, k_187 hS, l_187 hS, k_188 hS, l_188 hS, k_189 hS, l_189 hS, k_190 hS, l_190 hS, k_191 hS, l_191 hS, k_192 hS, l_192 hS, k_193 hS, l_193 hS, k_194 hS, l_194 hS, k_195 hS, l_195 hS, k_196 hS, l_196 hS, k_197 hS, l_197 hS, k_198 hS, l_198 hS, k_199 hS, l_199 hS, k_200 hS, l_200 hS, k_201 hS, l_201 hS, k_202 hS, l_202 hS, k_203 hS, l_203 hS, k_204 hS, l_204 hS, k_205 hS, l_205 hS, k_206 hS, l_206 hS, k_207 hS, l_207 hS, k_208 hS, l_208 hS, k_209 hS, l_209 hS, k_210 hS, l_210 hS, k_211 hS, l_211 hS, k_212 hS, l_212 hS, k_213 hS, l_213 hS, k_214 hS, l_214 hS, k_215 hS, l_215 hS, k_216 hS, l_216 hS, k_217 hS, l_217 hS, k_218 hS, l_218 hS, k_219 hS, l_219 hS, k_220 hS, l_220 hS, r_160_0 hS, r_160_1 hS, r_160_2 hS, r_160_3 hS, r_160_4 hS, r_160_5 hS, r_160_6 hS, r_160_7 hS, r_160_8 hS, r_160_9 hS, r_160_10 hS, r_160_11 hS, r_160_12 hS, r_160_13 hS, r_160_14 hS, r_160_15 hS, r_160_16 hS, r_160_17 hS, r_160_18 hS, r_160_19 hS, r_160_20 hS, r_160_21 hS, r_160_22 hS, r_160_23 hS, r_160_24 hS, r_160_25 hS, r_160_26 hS, r_160_27 hS, r_160_28 hS, r_160_29 hS, r_160_30 hS, r_160_31 hS, r_160_32 hS, r_160_33 hS, r_160_34 hS, r_160_35 hS, r_160_36 hS, r_160_37 hS, r_160_38 hS, r_160_39 hS, r_160_40 hS, r_160_41 hS, r_160_43 hS, r_160_45 hS, r_160_46 hS, r_160_48 hS, r_160_49 hS, r_160_50 hS, r_160_51 hS, r_160_52 hS, r_160_53 hS, r_160_54 hS, r_160_56 hS, r_160_63 hS, r_160_64 hS, r_160_65 hS, r_160_66 hS, r_160_67 hS, r_160_68 hS, r_160_69 hS, ol_s, ol_n, ln_0, ln_1, ln_2, ln_3, ln_4, eq_self, rf_s, rf_n, i01_0, i01_n0, i01_b, b01_0, b01_1, and_self, and_true, true_and, and_false, false_and, if_true, if_false, not_true_eq_false, not_false_eq_true, e10, e00, lt_bg, Nat.reduceLT, Nat.reduceLeDiff, h58, l0, Hh, Z, ne, R]
      simp only [s201_32, s201_33, s201_36, k_160 hS, k_161 hS, l_161 hS, k_162 hS, l_162 hS, k_163 hS, l_163 hS, k_164 hS, l_164 hS, k_165 hS, l_165 hS, k_166 hS, l_166 hS, k_167 hS, l_167 hS, k_168 hS, l_168 hS, k_169 hS, l_169 hS, k_170 hS, l_170 hS, k_171 hS, l_171 hS, k_172 hS, l_172 hS, k_173 hS, l_173 hS, k_174 hS, l_174 hS, k_175 hS, l_175 hS, k_176 hS, l_176 hS, k_177 hS, l_177 hS, k_178 hS, l_178 hS, k_179 hS, l_179 hS, k_180 hS, l_180 hS, k_181 hS, l_181 hS, k_182 hS, l_182 hS, k_183 hS, l_183 hS, k_184 hS, l_184 hS, k_185 hS, l_185 hS, k_186 hS, l_186 hS, k_187 hS, l_187 hS, k_188 hS, l_188 hS, k_189 hS, l_189 hS, k_190 hS, l_190 hS, k_191 hS, l_191 hS, k_192 hS, l_192 hS, k_193 hS, l_193 hS, k_194 hS, l_194 hS, k_195 hS, l_195 hS, k_196 hS, l_196 hS, k_197 hS, l_197 hS, k_198 hS, l_198 hS, k_199 hS, l_199 hS, k_200 hS, l_200 hS, k_201 hS, l_201 hS, k_202 hS, l_202 hS, k_203 hS, l_203 hS, k_204 hS, l_204 hS, k_205 hS, l_205 hS, k_206 hS, l_206 hS, k_207 hS, l_207 hS, k_208 hS, l_208 hS, k_209 hS, l_209 hS, k_210 hS, l_210 hS, k_211 hS, l_211 hS, k_212 hS, l_212 hS, k_213 hS, l_213 hS, k_214 hS, l_214 hS, k_215 hS, l_215 hS, k_216 hS, l_216 hS, k_217 hS, l_217 hS, k_218 hS, l_218 hS, k_219 hS, l_219 hS, k_220 hS, l_220 hS, r_160_0 hS, r_160_1 hS, r_160_2 hS, r_160_3 hS, r_160_4 hS, r_160_5 hS, r_160_6 hS, r_160_7 hS, r_160_8 hS, r_160_9 hS, r_160_10 hS, r_160_11 hS, r_160_12 hS, r_160_13 hS, r_160_14 hS, r_160_15 hS, r_160_16 hS, r_160_17 hS, r_160_18 hS, r_160_19 hS, r_160_20 hS, r_160_21 hS, r_160_22 hS, r_160_23 hS, r_160_24 hS, r_160_25 hS, r_160_26 hS, r_160_27 hS, r_160_28 hS, r_160_29 hS, r_160_30 hS, r_160_31 hS, r_160_32 hS, r_160_33 hS, r_160_34 hS, r_160_35 hS, r_160_36 hS, r_160_37 hS, r_160_38 hS, r_160_39 hS, r_160_40 hS, r_160_41 hS, r_160_43 hS, r_160_45 hS, r_160_46 hS, r_160_48 hS, r_160_49 hS, r_160_50 hS, r_160_51 hS, r_160_52 hS, r_160_53 hS, r_160_54 hS, r_160_56 hS, r_160_63 hS, r_160_64 hS, r_160_65 hS, r_160_66 hS, r_160_67 hS, r_160_68 hS, r_160_69 hS, ol_s, ol_n, ln_0, ln_1, ln_2, ln_3, ln_4, eq_self, rf_s, rf_n, i01_0, i01_n0, i01_b, b01_0, b01_1, and_self, and_true, true_and, and_false, false_and, if_true, if_false, not_true_eq_false, not_false_eq_true, e10, e00, lt_bg, Nat.reduceLT, Nat.reduceLeDiff, k2, g58]
    · have u : pTx b l (n + 1) p = ((pTx b l n (pLn b l p).2.1).1, (pTx b l n (pLn b l p).2.1).2.1, pLn b l p :: (pTx b l n (pLn b l p).2.1).2.2) := by
        show (if kd b l p = 0 then _ else _) = _
        rw [if_neg z, if_pos x1]
      obtain ⟨y1, _⟩ := w3 x1
      have F12 := F1.tr F2
      have b2 : Bgd s2 τ := hb.cg (fun y hy => F12.1 y (by omega) (by omega))
      obtain ⟨s3, T3, k1, k2, R3⟩ := ih (i + 1) (pLn b l p).2.1 (m + (pLn b l p).2.2.2.2.2.length) s2 (by omega) w2 (by omega) b2 X2
      rw [u]
      refine ⟨s3, TXR.cons F12 ⟨by omega, G2, e6, c6⟩ T3, k1, k2, fun d Q => ?_⟩
      have ee : i + (pLn b l p :: (pTx b l n (pLn b l p).2.1).2.2).length = i + 1 + (pTx b l n (pLn b l p).2.1).2.2.length := by
        show i + ((pTx b l n (pLn b l p).2.1).2.2.length + 1) = _
        omega
      show _ = AW (d + 29) 201 74 [.ref 160, .int (nI (i + (pLn b l p :: (pTx b l n (pLn b l p).2.1).2.2).length))] [] s3 ρ g τ Q
      rw [ee, s201_32]
      simp only [s201_33, s201_36, s201_39, s201_40, s201_43, s201_46, s201_47, s201_49, s201_60, s201_61, s201_62, s201_65, s201_68r, s201_71, k_160 hS, k_161 hS, l_161 hS, k_162 hS, l_162 hS, k_163 hS, l_163 hS, k_164 hS, l_164 hS, k_165 hS, l_165 hS, k_166 hS, l_166 hS, k_167 hS, l_167 hS, k_168 hS, l_168 hS, k_169 hS, l_169 hS, k_170 hS, l_170 hS, k_171 hS, l_171 hS, k_172 hS, l_172 hS, k_173 hS, l_173 hS, k_174 hS, l_174 hS, k_175 hS, l_175 hS, k_176 hS, l_176 hS, k_177 hS, l_177 hS, k_178 hS, l_178 hS, k_179 hS, l_179 hS, k_180 hS, l_180 hS, k_181 hS, l_181 hS, k_182 hS, l_182 hS, k_183 hS, l_183 hS, k_184 hS, l_184 hS, k_185 hS, l_185 hS, k_186 hS, l_186 hS, k_187 hS, l_187 hS, k_188 hS, l_188 hS, k_189 hS, l_189 hS, k_190 hS, l_190 hS, k_191 hS, l_191 hS, k_192 hS, l_192 hS, k_193 hS, l_193 hS, k_194 hS, l_194 hS, k_195 hS, l_195 hS, k_196 hS, l_196 hS, k_197 hS, l_197 hS, k_198 hS, l_198 hS, k_199 hS, l_199 hS, k_200 hS, l_200 hS, k_201 hS, l_201 hS, k_202 hS, l_202 hS, k_203 hS, l_203 hS, k_204 hS, l_204 hS, k_205 hS, l_205 hS, k_206 hS, l_206 hS, k_207 hS, l_207 hS, k_208 hS, l_208 hS, k_209 hS, l_209 hS, k_210 hS, l_210 hS, k_211 hS, l_211 hS, k_212 hS, l_212 hS, k_213 hS, l_213 hS, k_214 hS, l_214 hS, k_215 hS, l_215 hS, k_216 hS, l_216 hS, k_217 hS, l_217 hS, k_218 hS, l_218 hS, k_219 hS, l_219 hS, k_220 hS, l_220 hS, r_160_0 hS, r_160_1 hS, r_160_2 hS, r_160_3 hS, r_160_4 hS, r_160_5 hS, r_160_6 hS, r_160_7 hS, r_160_8 hS, r_160_9 hS, r_160_10 hS, r_160_11 hS, r_160_12 hS, r_160_13 hS, r_160_14 hS, r_160_15 hS, r_160_16 hS, r_160_17 hS, r_160_18 hS, r_160_19 hS, r_160_20 hS, r_160_21 hS, r_160_22 hS, r_160_23 hS, r_160_24 hS, r_160_25 hS, r_160_26 hS, r_160_27 hS, r_160_28 hS, r_160_29 hS, r_160_30 hS, r_160_31 hS, r_160_32 hS, r_160_33 hS, r_160_34 hS, r_160_35 hS, r_160_36 hS, r_160_37 hS, r_160_38 hS, r_160_39 hS, r_160_40 hS, r_160_41 hS, r_160_43 hS, r_160_45 hS, r_160_46 hS, r_160_48 hS, r_160_49 hS, r_160_50 hS, r_160_51 hS, r_160_52 hS, r_160_53 hS, r_160_54 hS, r_160_56 hS, r_160_63 hS, r_160_64 hS, r_160_65 hS, r_160_66 hS, r_160_67 hS, r_160_68 hS, r_160_69 hS, ol_s, ol_n, ln_0, ln_1, ln_2, ln_3, ln_4, eq_self, rf_s, rf_n, i01_0, i01_n0, i01_b, b01_0, b01_1, and_self, and_true, true_and, and_false, false_and, if_true, if_false, not_true_eq_false, not_false_eq_true, e10, e00, lt_bg, Nat.reduceLT, Nat.reduceLeDiff, h58, l0, Hh, Z, ne, R, nI_1]
      exact R3 d Q
end ODH
