/-! least: what goes round in a province -/
section OBX
variable {d : Nat} {σ : am_I} {ρ : am_R} {g : am_J} {τ : am_T} {Q : am_Q}
theorem wr1 {c : Cn} (hc : Rld 1 161 c σ ρ τ) {p m k s : Nat} (hp : p < c 1) (hk : k ≤ 9) (hs : s < 3) : ∃ u, u ≤ 1998 ∧ f_round (f_due (σ (19 + 2 * p) s) (σ 3 (m % 12)) (σ 2 s)) (σ 2 s) (nI k) = nI u ∧ f_round (f_due (σ 165 (3 * p + s)) (σ 163 (m % 12)) (σ 162 s)) (σ 162 s) (nI k) = nI u := by
  obtain ⟨_, _, _, _, t5⟩ := hc.pr p hp
  obtain ⟨y, hy, y1, y2⟩ := t5 s hs
  obtain ⟨hv, hh, h1, h2⟩ := hc.rh.2.1 (m % 12) (by omega)
  obtain ⟨r, hr, r1, r2⟩ := hc.rh.1 s hs
  simp only [Nat.reduceAdd] at y1 y2 h1 h2 r1 r2
  rw [y1, y2, h1, h2, r1, r2]
  obtain ⟨x, hx, ex⟩ := due_n hy hh hr
  rw [ex]
  obtain ⟨u, hu, eu⟩ := round_n hx hr hk
  exact ⟨u, by omega, eu, eu⟩
/-- what goes round, on both sides -/
def WR (m : Nat) (σ : am_I) (ρ : am_R) (τ : am_T) (p k w : Nat) : Prop :=
  w ≤ 5994 ∧ (∀ σ1, EqC σ σ1 → ∀ (d : Nat) (g : am_J) (Q : am_Q), AW (d + 1) 30 0 [.ref 1, .int (nI p), .int (nI m), .int (nI k), am_jk, am_jk] [] σ1 ρ g τ Q = Q (some (.int (nI w))) σ1 ρ g τ) ∧
  ∀ σ1, EqM σ σ1 → ∀ (d : Nat) (g : am_J) (Q : am_Q), AW (d + 2) 180 0 [.ref 160, .int (nI p), .int (nI m), .int (nI k), am_jk, am_jk] [] σ1 ρ g τ Q = Q (some (.int (nI w))) σ1 ρ g τ
theorem wr (hS : Sh ρ τ) {c : Cn} (hc : Rld 1 161 c σ ρ τ) {p m k : Nat} (hm : m ≤ 599) (hp : p < c 1) (hk : k ≤ 9) : ∃ w, WR m σ ρ τ p k w := by
  have b := hc.bn
  unfold Bn at b
  have z0' : nI 0 = (0 : Int32) := rfl
  have hp8 : p < 8 := by omega
  have hi : am_inb (nI p) 8 = true := inb_n hp8 (by decide)
  have hcp : (nI p).toNatClampNeg = p := nI_clamp (by omega)
  have l0 : ((3 : Int32) ≤ 0) = False := by decide
  have l1 : ((3 : Int32) ≤ 1) = False := by decide
  have l2 : ((3 : Int32) ≤ 2) = False := by decide
  have l3 : ((3 : Int32) ≤ 3) = True := by decide
  have pp0 : (0 : Int32) + 1 = 1 := by decide
  have pp1 : (1 : Int32) + 1 = 2 := by decide
  have pp2 : (2 : Int32) + 1 = 3 := by decide
  have i0 : am_inb 0 3 = true := by decide
  have i1 : am_inb 1 3 = true := by decide
  have i2 : am_inb 2 3 = true := by decide
  obtain ⟨u0, h0, a0, b0⟩ := wr1 hc (m := m) hp hk (s := 0) (by decide)
  obtain ⟨u1, h1, a1, b1⟩ := wr1 hc (m := m) hp hk (s := 1) (by decide)
  obtain ⟨u2, h2, a2, b2⟩ := wr1 hc (m := m) hp hk (s := 2) (by decide)
  refine ⟨u0 + u1 + u2, by omega, fun σ1 E d g Q => ?_, fun σ1 E d g Q => ?_⟩
  · have e1 : σ1 (19 + 2 * p) = σ (19 + 2 * p) := E _ (by omega)
    have e2 : σ1 3 = σ 3 := E _ (by omega)
    have e3 : σ1 2 = σ 2 := E _ (by omega)
    have C0 := fun (d : Nat) (g : am_J) (r : Int32) (Q : am_Q) => c27 (d := d) (σ := σ1) (g := g) (Q := Q) (r := r) hS (p := p) (s := 0) (m := m) hp8 (by decide) (by omega)
    have C1 := fun (d : Nat) (g : am_J) (r : Int32) (Q : am_Q) => c27 (d := d) (σ := σ1) (g := g) (Q := Q) (r := r) hS (p := p) (s := 1) (m := m) hp8 (by decide) (by omega)
    have C2 := fun (d : Nat) (g : am_J) (r : Int32) (Q : am_Q) => c27 (d := d) (σ := σ1) (g := g) (Q := Q) (r := r) hS (p := p) (s := 2) (m := m) hp8 (by decide) (by omega)
    rw [z0'] at C0
    rw [n_one] at C1
    rw [nI_2] at C2
    simp only [s30_0, s30_1, s30_3, s30_4, s30_6, s30_8, s30_9, s30_12, s30_14, s30_15, s30_16, s30_19, s30_20, s30_21, s30_23, s30_24, s30_25, s30_28, s30_30, s30_31, s30_34, s30_35, s30_38, s30_40, s30_41, s30_42, s30_45, s30_46, s30_48, s30_51, s30_54, s30_56, k_0 hS, k_1 hS, k_2 hS, l_2 hS, k_3 hS, l_3 hS, k_4 hS, l_4 hS, k_5 hS, l_5 hS, k_6 hS, l_6 hS, k_7 hS, k_8 hS, l_8 hS, k_9 hS, l_9 hS, k_10 hS, k_11 hS, l_11 hS, k_12 hS, k_13 hS, l_13 hS, k_14 hS, k_15 hS, l_15 hS, k_16 hS, k_17 hS, l_17 hS, k_66 hS, k_67 hS, l_67 hS, k_68 hS, l_68 hS, k_69 hS, l_69 hS, k_70 hS, l_70 hS, k_71 hS, l_71 hS, k_72 hS, k_73 hS, l_73 hS, k_74 hS, l_74 hS, k_75 hS, k_76 hS, l_76 hS, k_77 hS, k_78 hS, l_78 hS, k_79 hS, k_80 hS, l_80 hS, k_81 hS, k_82 hS, l_82 hS, k_131 hS, k_132 hS, l_132 hS, k_133 hS, l_133 hS, k_134 hS, l_134 hS, k_135 hS, k_136 hS, l_136 hS, k_137 hS, l_137 hS, k_138 hS, l_138 hS, k_139 hS, l_139 hS, k_140 hS, k_141 hS, l_141 hS, k_142 hS, l_142 hS, k_143 hS, k_144 hS, l_144 hS, k_145 hS, k_146 hS, l_146 hS, k_147 hS, l_147 hS, k_148 hS, l_148 hS, k_153 hS, l_153 hS, k_154 hS, l_154 hS, k_155 hS, l_155 hS, k_156 hS, k_157 hS, l_157 hS, k_158 hS, l_158 hS, k_159 hS, l_159 hS, r_0_0 hS, r_0_1 hS, r_0_3 hS, r_0_4 hS, r_0_5 hS, r_0_6 hS, r_0_7 hS, r_0_8 hS, r_0_9 hS, r_0_10 hS, r_1_2 hS, r_1_3 hS, r_1_4 hS, r_1_5 hS, r_1_7 hS, r_1_9 hS, r_1_10 hS, r_1_12 hS, r_1_13 hS, r_1_14 hS, r_1_15 hS, r_7_1 hS, r_10_2 hS, r_12_2 hS, r_14_2 hS, r_16_2 hS, r_66_2 hS, r_66_3 hS, r_66_4 hS, r_66_5 hS, r_66_7 hS, r_66_9 hS, r_66_10 hS, r_66_12 hS, r_66_13 hS, r_66_14 hS, r_66_15 hS, r_72_1 hS, r_75_2 hS, r_77_2 hS, r_79_2 hS, r_81_2 hS, r_131_0 hS, r_131_6 hS, r_131_8 hS, r_135_0 hS, r_135_1 hS, r_135_2 hS, r_135_3 hS, r_140_0 hS, r_140_1 hS, r_143_2 hS, r_145_0 hS, r_145_1 hS, r_145_2 hS, r_145_3 hS, r_145_4 hS, r_145_5 hS, r_156_5 hS, k_pv hS, k_pvr hS, k_db hS, k_dbr hS, k_sh hS, l_pvr hS, l_dbr hS, l_sh hS, r_5 hS, r_6 hS, r_pv hS, r_db hS, r_148 hS, ol_s, ol_n, ln_0, ln_1, ln_2, ln_3, ln_4, eq_self, rf_s, rf_n, i01_0, i01_n0, i01_b, b01_0, b01_1, and_self, and_true, true_and, and_false, false_and, if_true, if_false, not_true_eq_false, not_false_eq_true, e10, e00, lt_bg, Nat.reduceLT, Nat.reduceLeDiff, hi, hcp, hp8, l0, l1, l2, l3, pp0, pp1, pp2, i0, i1, i2, z0, z1, z2, C0, C1, C2, c28, e1, e2, e3, a0, a1, a2, Int32.zero_add, nI_add]
  · have e1 : σ1 165 = σ 165 := (E 165 (by omega) (by omega)).1 (by decide)
    have e2 : σ1 163 = σ 163 := (E 163 (by omega) (by omega)).1 (by decide)
    have e3 : σ1 162 = σ 162 := (E 162 (by omega) (by omega)).1 (by decide)
    have C0 := fun (d : Nat) (g : am_J) (r gd : Int32) (Q : am_Q) => c170 (d := d) (σ := σ1) (g := g) (Q := Q) (r := r) (gd := gd) hS (p := p) (s := 0) (m := m) hp8 (by decide) (by omega)
    have C1 := fun (d : Nat) (g : am_J) (r gd : Int32) (Q : am_Q) => c170 (d := d) (σ := σ1) (g := g) (Q := Q) (r := r) (gd := gd) hS (p := p) (s := 1) (m := m) hp8 (by decide) (by omega)
    have C2 := fun (d : Nat) (g : am_J) (r gd : Int32) (Q : am_Q) => c170 (d := d) (σ := σ1) (g := g) (Q := Q) (r := r) (gd := gd) hS (p := p) (s := 2) (m := m) hp8 (by decide) (by omega)
    rw [z0'] at C0
    rw [n_one] at C1
    rw [nI_2] at C2
    simp only [s180_0, s180_1, s180_3, s180_4, s180_6, s180_8, s180_9, s180_12, s180_14, s180_15, s180_16, s180_18, s180_19, s180_20, s180_23, s180_25, s180_26, s180_27, s180_30, s180_31, s180_33, s180_36, s180_39, s180_41, k_160 hS, k_161 hS, l_161 hS, k_162 hS, l_162 hS, k_163 hS, l_163 hS, k_164 hS, l_164 hS, k_165 hS, l_165 hS, k_166 hS, l_166 hS, k_167 hS, l_167 hS, k_168 hS, l_168 hS, k_169 hS, l_169 hS, k_170 hS, l_170 hS, k_171 hS, l_171 hS, k_172 hS, l_172 hS, k_173 hS, l_173 hS, k_174 hS, l_174 hS, k_175 hS, l_175 hS, k_176 hS, l_176 hS, k_177 hS, l_177 hS, k_178 hS, l_178 hS, k_179 hS, l_179 hS, k_180 hS, l_180 hS, k_181 hS, l_181 hS, k_182 hS, l_182 hS, k_183 hS, l_183 hS, k_184 hS, l_184 hS, k_185 hS, l_185 hS, k_186 hS, l_186 hS, k_187 hS, l_187 hS, k_188 hS, l_188 hS, k_189 hS, l_189 hS, k_190 hS, l_190 hS, k_191 hS, l_191 hS, k_192 hS, l_192 hS, k_193 hS, l_193 hS, k_194 hS, l_194 hS, k_195 hS, l_195 hS, k_196 hS, l_196 hS, k_197 hS, l_197 hS, k_198 hS, l_198 hS, k_199 hS, l_199 hS, k_200 hS, l_200 hS, k_201 hS, l_201 hS, k_202 hS, l_202 hS, k_203 hS, l_203 hS, k_204 hS, l_204 hS, k_205 hS, l_205 hS, k_206 hS, l_206 hS, k_207 hS, l_207 hS, k_208 hS, l_208 hS, k_209 hS, l_209 hS, k_210 hS, l_210 hS, k_211 hS, l_211 hS, k_212 hS, l_212 hS, k_213 hS, l_213 hS, k_214 hS, l_214 hS, k_215 hS, l_215 hS, k_216 hS, l_216 hS, k_217 hS, l_217 hS, k_218 hS, l_218 hS, k_219 hS, l_219 hS, k_220 hS, l_220 hS, r_160_0 hS, r_160_1 hS, r_160_2 hS, r_160_3 hS, r_160_4 hS, r_160_5 hS, r_160_6 hS, r_160_7 hS, r_160_8 hS, r_160_9 hS, r_160_10 hS, r_160_11 hS, r_160_12 hS, r_160_13 hS, r_160_14 hS, r_160_15 hS, r_160_16 hS, r_160_17 hS, r_160_18 hS, r_160_19 hS, r_160_20 hS, r_160_21 hS, r_160_22 hS, r_160_23 hS, r_160_24 hS, r_160_25 hS, r_160_26 hS, r_160_27 hS, r_160_28 hS, r_160_29 hS, r_160_30 hS, r_160_31 hS, r_160_32 hS, r_160_33 hS, r_160_34 hS, r_160_35 hS, r_160_36 hS, r_160_37 hS, r_160_38 hS, r_160_39 hS, r_160_40 hS, r_160_41 hS, r_160_43 hS, r_160_45 hS, r_160_46 hS, r_160_48 hS, r_160_49 hS, r_160_50 hS, r_160_51 hS, r_160_52 hS, r_160_53 hS, r_160_54 hS, r_160_56 hS, r_160_63 hS, r_160_64 hS, r_160_65 hS, r_160_66 hS, r_160_67 hS, r_160_68 hS, r_160_69 hS, ol_s, ol_n, ln_0, ln_1, ln_2, ln_3, ln_4, eq_self, rf_s, rf_n, i01_0, i01_n0, i01_b, b01_0, b01_1, and_self, and_true, true_and, and_false, false_and, if_true, if_false, not_true_eq_false, not_false_eq_true, e10, e00, lt_bg, Nat.reduceLT, Nat.reduceLeDiff, l0, l1, l2, l3, pp0, pp1, pp2, i0, i1, i2, z0, z1, z2, C0, C1, C2, e1, e2, e3, b0, b1, b2, Int32.zero_add, nI_add]
theorem wr_ex (hS : Sh ρ τ) {c : Cn} (hc : Rld 1 161 c σ ρ τ) {m : Nat} (hm : m ≤ 599) : ∃ W : Nat → Nat → Nat, ∀ p k, p < c 1 → k ≤ 9 → WR m σ ρ τ p k (W p k) := by
  have H : ∀ p k, ∃ w, p < c 1 → k ≤ 9 → WR m σ ρ τ p k w := fun p k => by
    by_cases h : p < c 1 ∧ k ≤ 9
    · obtain ⟨w, hw⟩ := wr hS hc hm h.1 h.2
      exact ⟨w, fun _ _ => hw⟩
    · exact ⟨0, fun h1 h2 => absurd ⟨h1, h2⟩ h⟩
  exact Classical.skolem.mp (fun p => Classical.skolem.mp (H p))
end OBX
