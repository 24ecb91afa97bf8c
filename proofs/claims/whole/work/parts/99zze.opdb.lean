/-! read: conditions, the reference -/
section ODB
variable {d : Nat} {σ : am_I} {ρ : am_R} {g : am_J} {τ : am_T} {Q : am_Q}
theorem RR.fl {b : Nat → Nat} {l ver n o o' : Nat} {σ' : am_I} {r : Rs} (h : RR b l ver σ σ' n o r) (hr : ¬ r.1 = true) : RR b l ver σ σ' n o' (false, r.2.1, []) := by
  refine ⟨h.1, fun z => absurd z (by show ¬ (false = true); decide), fun _ => h.2.2 ?_⟩
  cases z : r.1
  · rfl
  · exact absurd z hr
/-- a method of the reference reads a piece as F tells -/
def SR (m : Nat) (ex : List Value) (E c : Nat) (F : Nat → Rs) (o ver : Nat) (b : Nat → Nat) (l : Nat) (ρ : am_R) (τ : am_T) : Prop := ∀ (p n : Nat) (σ : am_I), p ≤ l → n < p → RX b l p o ver n σ → Bgd σ τ → ∃ σ' : am_I, RR b l ver σ σ' n o (F p) ∧ ∀ (d : Nat) (g : am_J) (Q : am_Q), AW (d + E + c) m 0 (.ref 160 :: ex) [] σ ρ g τ Q = Q (some (.int (bI (F p).1))) σ' ρ g τ
theorem c198p (hS : Sh ρ τ) {b : Nat → Nat} {l o ver p n : Nat} (hv8 : ver ≤ 8) (hp : p ≤ l) (hn : n < p) (hx : RX b l p o ver n σ) (hb : Bgd σ τ) (hot : ot b l p 40 = false) : ∃ σ' : am_I, RR b l ver σ σ' n o (pPl b l p) ∧ ∀ (d : Nat) (g : am_J) (Q : am_Q), AW (d + 8) 198 0 [.ref 160, am_jk, am_jk, am_jk] [] σ ρ g τ Q = Q (some (.int (bI (pPl b l p).1))) σ' ρ g τ := by
  have hl := hx.1.1
  obtain ⟨a, a1, a2, a3⟩ := hx.2.1
  have pp : sk b l p = p := by rw [← a3]; exact sk_sk a1
  obtain ⟨t1, t2, t3⟩ := te_b (b := b) hp
  obtain ⟨n1, n2, n3⟩ := nx_b (b := b) hp
  have wt : bI true = 1 := rfl
  have wf : bI false = 0 := rfl
  have e40 : nI 40 = (40 : Int32) := by decide
  have Hh := fun (d : Nat) (g : am_J) (Q : am_Q) => c185 (d := d) (g := g) (Q := Q) hS hx.1 a1 a2
  rw [a3] at Hh
  have ne : ¬ hv b l p = 40 := by
    rw [← e40, hv_ot hx.1 (by decide) (by decide) (by decide), hot]
    decide
  have K0 := (RR.refl hx).mv (a := p) (p := p) rfl hp pp
  have h57 : am_u σ 160 57 (nI p) 160 57 = nI p := u_at _ _ _ _
  generalize am_u σ 160 57 (nI p) = s0 at Hh K0 h57
  have X0 : RX b l p o ver n s0 := K0.rx rfl hx
  have b0 := K0.bg hb
  have T0 := X0.1
  have R0 : ∀ (d : Nat) (g : am_J) (Q : am_Q), AW (d + 8) 198 0 [.ref 160, am_jk, am_jk, am_jk] [] σ ρ g τ Q = AW (d + 8) 198 77 [.ref 160, am_jk, am_jk, am_jk] [] s0 ρ g τ Q := fun d g Q => by
    simp only [s198_0, s198_1, s198_4, s198_6, k_160 hS, k_161 hS, l_161 hS, k_162 hS, l_162 hS, k_163 hS, l_163 hS, k_164 hS, l_164 hS, k_165 hS, l_165 hS, k_166 hS, l_166 hS, k_167 hS, l_167 hS, k_168 hS, l_168 hS, k_169 hS, l_169 hS, k_170 hS, l_170 hS, k_171 hS, l_171 hS, k_172 hS, l_172 hS, k_173 hS, l_173 hS, k_174 hS, l_174 hS, k_175 hS, l_175 hS, k_176 hS, l_176 hS, k_177 hS, l_177 hS, k_178 hS, l_178 hS, k_179 hS, l_179 hS, k_180 hS, l_180 hS, k_181 hS, l_181 hS, k_182 hS, l_182 hS, k_183 hS, l_183 hS, k_184 hS, l_184 hS, k_185 hS, l_185 hS, k_186 hS, l_186 hS, k_187 hS, l_187 hS, k_188 hS, l_188 hS, k_189 hS, l_189 hS, k_190 hS, l_190 hS, k_191 hS, l_191 hS, k_192 hS, l_192 hS, k_193 hS, l_193 hS, k_194 hS, l_194 hS, k_195 hS, l_195 hS, k_196 hS, l_196 hS, k_197 hS, l_197 hS, k_198 hS, l_198 hS, k_199 hS, l_199 hS, k_200 hS, l_200 hS, k_201 hS, l_201 hS, k_202 hS, l_202 hS, k_203 hS, l_203 hS, k_204 hS, l_204 hS, k_205 hS, l_205 hS, k_206 hS, l_206 hS, k_207 hS, l_207 hS, k_208 hS, l_208 hS, k_209 hS, l_209 hS, k_210 hS, l_210 hS, k_211 hS, l_211 hS, k_212 hS, l_212 hS, k_213 hS, l_213 hS, k_214 hS, l_214 hS, k_215 hS, l_215 hS, k_216 hS, l_216 hS, k_217 hS, l_217 hS, k_218 hS, l_218 hS, k_219 hS, l_219 hS, k_220 hS, l_220 hS, r_160_0 hS, r_160_1 hS, r_160_2 hS, r_160_3 hS, r_160_4 hS, r_160_5 hS, r_160_6 hS, r_160_7 hS, r_160_8 hS, r_160_9 hS, r_160_10 hS, r_160_11 hS, r_160_12 hS, r_160_13 hS, r_160_14 hS, r_160_15 hS, r_160_16 hS, r_160_17 hS, r_160_18 hS, r_160_19 hS, r_160_20 hS, r_160_21 hS, r_160_22 hS, r_160_23 hS, r_160_24 hS, r_160_25 hS, r_160_26 hS, r_160_27 hS, r_160_28 hS, r_160_29 hS, r_160_30 hS, r_160_31 hS, r_160_32 hS, r_160_33 hS, r_160_34 hS, r_160_35 hS, r_160_36 hS, r_160_37 hS, r_160_38 hS, r_160_39 hS, r_160_40 hS, r_160_41 hS, r_160_43 hS, r_160_45 hS, r_160_46 hS, r_160_48 hS, r_160_49 hS, r_160_50 hS, r_160_51 hS, r_160_52 hS, r_160_53 hS, r_160_54 hS, r_160_56 hS, r_160_63 hS, r_160_64 hS, r_160_65 hS, r_160_66 hS, r_160_67 hS, r_160_68 hS, r_160_69 hS, ol_s, ol_n, ln_0, ln_1, ln_2, ln_3, ln_4, eq_self, rf_s, rf_n, i01_0, i01_n0, i01_b, b01_0, b01_1, and_self, and_true, true_and, and_false, false_and, if_true, if_false, not_true_eq_false, not_false_eq_true, e10, e00, lt_bg, Nat.reduceLT, Nat.reduceLeDiff, Hh, ne]
  have S := fun (d : Nat) (g : am_J) (Q : am_Q) => c193 (d := d) (g := g) (Q := Q) hS b0 T0 hp h57 pp
  have F := fun (d : Nat) (g : am_J) (Q : am_Q) => c194 (d := d) (g := g) (Q := Q) hS b0 T0 hp h57 pp
  unfold pPl
  by_cases c1 : srt b l p < 3
  · rw [if_pos c1]
    rw [if_pos c1] at S
    have v : rI (srt b l p) 3 = nI (srt b l p) := if_pos c1
    have lt : ¬ nI (srt b l p) < 0 := Int32.not_lt.mpr (nI_le (a := 0) (Nat.zero_le _) (by omega))
    have K1 := K0.mv (a := te b l p) (p := nx b l p) rfl t2 rfl
    generalize am_u s0 160 57 (nI (te b l p)) = s1 at S K1
    have X1 : RX b l (nx b l p) o ver n s1 := K1.rx rfl hx
    have m2 : (2000000 : Int32) = nI 2000000 := by decide
    have vv : (2000000 : Int32) + nI (srt b l p) = nI (tk_M (1, 0, 0, srt b l p)) := by
      rw [m2, nI_add]
      rfl
    have A := fun (d : Nat) (g : am_J) (Q : am_Q) => c192 (d := d) (ρ := ρ) (g := g) (Q := Q) hS (ver := ver) (n := n) hv8 (by omega) X1.2.2.2.2.1 X1.2.2.2.2.2 (v := nI (tk_M (1, 0, 0, srt b l p)))
    have K2 := K1.push (t := (1, 0, 0, srt b l p)) rfl
    refine ⟨_, K2, fun d g Q => ?_⟩
    rw [R0]
    simp only [s198_77, s198_78, s198_81r, s198_82, s198_83, s198_86, s198_87, s198_90, s198_91, s198_92, s198_95, s198_96, k_160 hS, k_161 hS, l_161 hS, k_162 hS, l_162 hS, k_163 hS, l_163 hS, k_164 hS, l_164 hS, k_165 hS, l_165 hS, k_166 hS, l_166 hS, k_167 hS, l_167 hS, k_168 hS, l_168 hS, k_169 hS, l_169 hS, k_170 hS, l_170 hS, k_171 hS, l_171 hS, k_172 hS, l_172 hS, k_173 hS, l_173 hS, k_174 hS, l_174 hS, k_175 hS, l_175 hS, k_176 hS, l_176 hS, k_177 hS, l_177 hS, k_178 hS, l_178 hS, k_179 hS, l_179 hS, k_180 hS, l_180 hS, k_181 hS, l_181 hS, k_182 hS, l_182 hS, k_183 hS, l_183 hS, k_184 hS, l_184 hS, k_185 hS, l_185 hS, k_186 hS, l_186 hS, k_187 hS, l_187 hS, k_188 hS, l_188 hS, k_189 hS, l_189 hS, k_190 hS, l_190 hS, k_191 hS, l_191 hS, k_192 hS, l_192 hS, k_193 hS, l_193 hS, k_194 hS, l_194 hS, k_195 hS, l_195 hS, k_196 hS, l_196 hS, k_197 hS, l_197 hS, k_198 hS, l_198 hS, k_199 hS, l_199 hS, k_200 hS, l_200 hS, k_201 hS, l_201 hS, k_202 hS, l_202 hS, k_203 hS, l_203 hS, k_204 hS, l_204 hS, k_205 hS, l_205 hS, k_206 hS, l_206 hS, k_207 hS, l_207 hS, k_208 hS, l_208 hS, k_209 hS, l_209 hS, k_210 hS, l_210 hS, k_211 hS, l_211 hS, k_212 hS, l_212 hS, k_213 hS, l_213 hS, k_214 hS, l_214 hS, k_215 hS, l_215 hS, k_216 hS, l_216 hS, k_217 hS, l_217 hS, k_218 hS, l_218 hS, k_219 hS, l_219 hS, k_220 hS, l_220 hS, r_160_0 hS, r_160_1 hS, r_160_2 hS, r_160_3 hS, r_160_4 hS, r_160_5 hS, r_160_6 hS, r_160_7 hS, r_160_8 hS, r_160_9 hS, r_160_10 hS, r_160_11 hS, r_160_12 hS, r_160_13 hS, r_160_14 hS, r_160_15 hS, r_160_16 hS, r_160_17 hS, r_160_18 hS, r_160_19 hS, r_160_20 hS, r_160_21 hS, r_160_22 hS, r_160_23 hS, r_160_24 hS, r_160_25 hS, r_160_26 hS, r_160_27 hS, r_160_28 hS, r_160_29 hS, r_160_30 hS, r_160_31 hS, r_160_32 hS, r_160_33 hS, r_160_34 hS, r_160_35 hS, r_160_36 hS, r_160_37 hS, r_160_38 hS, r_160_39 hS, r_160_40 hS, r_160_41 hS, r_160_43 hS, r_160_45 hS, r_160_46 hS, r_160_48 hS, r_160_49 hS, r_160_50 hS, r_160_51 hS, r_160_52 hS, r_160_53 hS, r_160_54 hS, r_160_56 hS, r_160_63 hS, r_160_64 hS, r_160_65 hS, r_160_66 hS, r_160_67 hS, r_160_68 hS, r_160_69 hS, ol_s, ol_n, ln_0, ln_1, ln_2, ln_3, ln_4, eq_self, rf_s, rf_n, i01_0, i01_n0, i01_b, b01_0, b01_1, and_self, and_true, true_and, and_false, false_and, if_true, if_false, not_true_eq_false, not_false_eq_true, e10, e00, lt_bg, Nat.reduceLT, Nat.reduceLeDiff, S, v, lt, vv, A, wt]
    rfl
  rw [if_neg c1]
  rw [if_neg c1, u_self h57] at S
  have v : rI (srt b l p) 3 = -1 := if_neg c1
  have lt1 : ((-1 : Int32) < 0) = True := by decide
  by_cases c2 : fct b l p < 6
  rotate_left
  · rw [if_neg c2]
    rw [if_neg c2, u_self h57] at F
    have v2 : rI (fct b l p) 6 = -1 := if_neg c2
    have lt2 : ((0 : Int32) ≤ -1) = False := by decide
    have B := fun (d : Nat) (g : am_J) (Q : am_Q) => c186 (d := d) (g := g) (Q := Q) hS T0 hp h57 X0.2.2.1
    rw [pp] at B
    refine ⟨_, K0.bad (q := p) (x := nI p), fun d g Q => ?_⟩
    rw [R0]
    simp only [s198_77, s198_78, s198_81r, s198_82, s198_83, s198_97, s198_98, s198_101, s198_102, s198_103, s198_106, s198_107, s198_110, k_160 hS, k_161 hS, l_161 hS, k_162 hS, l_162 hS, k_163 hS, l_163 hS, k_164 hS, l_164 hS, k_165 hS, l_165 hS, k_166 hS, l_166 hS, k_167 hS, l_167 hS, k_168 hS, l_168 hS, k_169 hS, l_169 hS, k_170 hS, l_170 hS, k_171 hS, l_171 hS, k_172 hS, l_172 hS, k_173 hS, l_173 hS, k_174 hS, l_174 hS, k_175 hS, l_175 hS, k_176 hS, l_176 hS, k_177 hS, l_177 hS, k_178 hS, l_178 hS, k_179 hS, l_179 hS, k_180 hS, l_180 hS, k_181 hS, l_181 hS, k_182 hS, l_182 hS, k_183 hS, l_183 hS, k_184 hS, l_184 hS, k_185 hS, l_185 hS, k_186 hS, l_186 hS, k_187 hS, l_187 hS, k_188 hS, l_188 hS, k_189 hS, l_189 hS, k_190 hS, l_190 hS, k_191 hS, l_191 hS, k_192 hS, l_192 hS, k_193 hS, l_193 hS, k_194 hS, l_194 hS, k_195 hS, l_195 hS, k_196 hS, l_196 hS, k_197 hS, l_197 hS, k_198 hS, l_198 hS, k_199 hS, l_199 hS, k_200 hS, l_200 hS, k_201 hS, l_201 hS, k_202 hS, l_202 hS, k_203 hS, l_203 hS, k_204 hS, l_204 hS, k_205 hS, l_205 hS, k_206 hS, l_206 hS, k_207 hS, l_207 hS, k_208 hS, l_208 hS, k_209 hS, l_209 hS, k_210 hS, l_210 hS, k_211 hS, l_211 hS, k_212 hS, l_212 hS, k_213 hS, l_213 hS, k_214 hS, l_214 hS, k_215 hS, l_215 hS, k_216 hS, l_216 hS, k_217 hS, l_217 hS, k_218 hS, l_218 hS, k_219 hS, l_219 hS, k_220 hS, l_220 hS, r_160_0 hS, r_160_1 hS, r_160_2 hS, r_160_3 hS, r_160_4 hS, r_160_5 hS, r_160_6 hS, r_160_7 hS, r_160_8 hS, r_160_9 hS, r_160_10 hS, r_160_11 hS, r_160_12 hS, r_160_13 hS, r_160_14 hS, r_160_15 hS, r_160_16 hS, r_160_17 hS, r_160_18 hS, r_160_19 hS, r_160_20 hS, r_160_21 hS, r_160_22 hS, r_160_23 hS, r_160_24 hS, r_160_25 hS, r_160_26 hS, r_160_27 hS, r_160_28 hS, r_160_29 hS, r_160_30 hS, r_160_31 hS, r_160_32 hS, r_160_33 hS, r_160_34 hS, r_160_35 hS, r_160_36 hS, r_160_37 hS, r_160_38 hS, r_160_39 hS, r_160_40 hS, r_160_41 hS, r_160_43 hS, r_160_45 hS, r_160_46 hS, r_160_48 hS, r_160_49 hS, r_160_50 hS, r_160_51 hS, r_160_52 hS, r_160_53 hS, r_160_54 hS, r_160_56 hS, r_160_63 hS, r_160_64 hS, r_160_65 hS, r_160_66 hS, r_160_67 hS, r_160_68 hS, r_160_69 hS, ol_s, ol_n, ln_0, ln_1, ln_2, ln_3, ln_4, eq_self, rf_s, rf_n, i01_0, i01_n0, i01_b, b01_0, b01_1, and_self, and_true, true_and, and_false, false_and, if_true, if_false, not_true_eq_false, not_false_eq_true, e10, e00, lt_bg, Nat.reduceLT, Nat.reduceLeDiff, S, F, v, v2, lt1, lt2, B, wf]
  rw [if_pos c2]
  rw [if_pos c2] at F
  have v2 : rI (fct b l p) 6 = nI (fct b l p) := if_pos c2
  have ge2 : 0 ≤ nI (fct b l p) := nI_le (a := 0) (Nat.zero_le _) (by omega)
  have K1 := K0.mv (a := te b l p) (p := nx b l p) rfl t2 rfl
  have h571 : am_u s0 160 57 (nI (te b l p)) 160 57 = nI (te b l p) := u_at _ _ _ _
  generalize am_u s0 160 57 (nI (te b l p)) = s1 at F K1 h571
  have X1 : RX b l (nx b l p) o ver n s1 := K1.rx rfl hx
  have T1 := X1.1
  have en : sk b l (te b l p) = nx b l p := rfl
  have qq : sk b l (nx b l p) = nx b l p := sk_sk t2
  have O0 := fun (d : Nat) (g : am_J) (Q : am_Q) => c190 (d := d) (ρ := ρ) (g := g) (Q := Q) hS (c := 60) (by decide) (by decide) (by decide) T1 t2 h571 (y := 60) (by decide)
  rw [en] at O0
  have O1 := fun (d : Nat) (g : am_J) (Q : am_Q) => c190p (d := d) (ρ := ρ) (g := g) (Q := Q) hS (c := 61) (by decide) (by decide) (by decide) T1 n2 qq (y := 61) (by decide)
  have O2 := fun (d : Nat) (g : am_J) (Q : am_Q) => c190p (d := d) (ρ := ρ) (g := g) (Q := Q) hS (c := 62) (by decide) (by decide) (by decide) T1 n2 qq (y := 62) (by decide)
  have R1 : ∀ (d : Nat) (g : am_J) (Q : am_Q), AW (d + 8) 198 77 [.ref 160, am_jk, am_jk, am_jk] [] s0 ρ g τ Q = AW (d + 8) 198 111 [.ref 160, .int (-1), .int (nI (fct b l p)), am_jk] [] s1 ρ g τ Q := fun d g Q => by
    simp only [s198_77, s198_78, s198_81r, s198_82, s198_83, s198_97, s198_98, s198_101, s198_102, s198_103, k_160 hS, k_161 hS, l_161 hS, k_162 hS, l_162 hS, k_163 hS, l_163 hS, k_164 hS, l_164 hS, k_165 hS, l_165 hS, k_166 hS, l_166 hS, k_167 hS, l_167 hS, k_168 hS, l_168 hS, k_169 hS, l_169 hS, k_170 hS, l_170 hS, k_171 hS, l_171 hS, k_172 hS, l_172 hS, k_173 hS, l_173 hS, k_174 hS, l_174 hS, k_175 hS, l_175 hS, k_176 hS, l_176 hS, k_177 hS, l_177 hS, k_178 hS, l_178 hS, k_179 hS, l_179 hS, k_180 hS, l_180 hS, k_181 hS, l_181 hS, k_182 hS, l_182 hS, k_183 hS, l_183 hS, k_184 hS, l_184 hS, k_185 hS, l_185 hS, k_186 hS, l_186 hS, k_187 hS, l_187 hS, k_188 hS, l_188 hS, k_189 hS, l_189 hS, k_190 hS, l_190 hS, k_191 hS, l_191 hS, k_192 hS, l_192 hS, k_193 hS, l_193 hS, k_194 hS, l_194 hS, k_195 hS, l_195 hS, k_196 hS, l_196 hS, k_197 hS, l_197 hS, k_198 hS, l_198 hS, k_199 hS, l_199 hS, k_200 hS, l_200 hS, k_201 hS, l_201 hS, k_202 hS, l_202 hS, k_203 hS, l_203 hS, k_204 hS, l_204 hS, k_205 hS, l_205 hS, k_206 hS, l_206 hS, k_207 hS, l_207 hS, k_208 hS, l_208 hS, k_209 hS, l_209 hS, k_210 hS, l_210 hS, k_211 hS, l_211 hS, k_212 hS, l_212 hS, k_213 hS, l_213 hS, k_214 hS, l_214 hS, k_215 hS, l_215 hS, k_216 hS, l_216 hS, k_217 hS, l_217 hS, k_218 hS, l_218 hS, k_219 hS, l_219 hS, k_220 hS, l_220 hS, r_160_0 hS, r_160_1 hS, r_160_2 hS, r_160_3 hS, r_160_4 hS, r_160_5 hS, r_160_6 hS, r_160_7 hS, r_160_8 hS, r_160_9 hS, r_160_10 hS, r_160_11 hS, r_160_12 hS, r_160_13 hS, r_160_14 hS, r_160_15 hS, r_160_16 hS, r_160_17 hS, r_160_18 hS, r_160_19 hS, r_160_20 hS, r_160_21 hS, r_160_22 hS, r_160_23 hS, r_160_24 hS, r_160_25 hS, r_160_26 hS, r_160_27 hS, r_160_28 hS, r_160_29 hS, r_160_30 hS, r_160_31 hS, r_160_32 hS, r_160_33 hS, r_160_34 hS, r_160_35 hS, r_160_36 hS, r_160_37 hS, r_160_38 hS, r_160_39 hS, r_160_40 hS, r_160_41 hS, r_160_43 hS, r_160_45 hS, r_160_46 hS, r_160_48 hS, r_160_49 hS, r_160_50 hS, r_160_51 hS, r_160_52 hS, r_160_53 hS, r_160_54 hS, r_160_56 hS, r_160_63 hS, r_160_64 hS, r_160_65 hS, r_160_66 hS, r_160_67 hS, r_160_68 hS, r_160_69 hS, ol_s, ol_n, ln_0, ln_1, ln_2, ln_3, ln_4, eq_self, rf_s, rf_n, i01_0, i01_n0, i01_b, b01_0, b01_1, and_self, and_true, true_and, and_false, false_and, if_true, if_false, not_true_eq_false, not_false_eq_true, e10, e00, lt_bg, Nat.reduceLT, Nat.reduceLeDiff, S, F, v, v2, lt1, ge2]
  generalize eq : nx b l p = q at n1 n2 n3 K1 X1 qq O0 O1 O2
  have R2 : ∀ (d : Nat) (g : am_J) (Q : am_Q), AW (d + 8) 198 111 [.ref 160, .int (-1), .int (nI (fct b l p)), am_jk] [] s1 ρ g τ Q = AW (d + 8) 198 152 [.ref 160, .int (-1), .int (nI (fct b l p)), .int (rI (sgn b l q) 3)] [] (am_u s1 160 57 (nI (if sgn b l q < 3 then te b l q else q))) ρ g τ Q := fun d g Q => by
    by_cases z0 : ot b l q 60 = true
    · have s : sgn b l q = 0 := if_pos z0
      have x := bI_t z0
      have y : otA b l q 60 = te b l q := if_pos z0
      have r : rI (sgn b l q) 3 = 0 := by rw [s]; rfl
      have u : (if sgn b l q < 3 then te b l q else q) = te b l q := if_pos (by omega)
      rw [u, r]
      simp only [s198_111, s198_112, s198_114, s198_117, s198_120, s198_121, s198_124, s198_125, s198_127, s198_130, s198_133, s198_134, s198_137, s198_138, s198_140, s198_143, s198_146, s198_147, s198_150, s198_151, k_160 hS, k_161 hS, l_161 hS, k_162 hS, l_162 hS, k_163 hS, l_163 hS, k_164 hS, l_164 hS, k_165 hS, l_165 hS, k_166 hS, l_166 hS, k_167 hS, l_167 hS, k_168 hS, l_168 hS, k_169 hS, l_169 hS, k_170 hS, l_170 hS, k_171 hS, l_171 hS, k_172 hS, l_172 hS, k_173 hS, l_173 hS, k_174 hS, l_174 hS, k_175 hS, l_175 hS, k_176 hS, l_176 hS, k_177 hS, l_177 hS, k_178 hS, l_178 hS, k_179 hS, l_179 hS, k_180 hS, l_180 hS, k_181 hS, l_181 hS, k_182 hS, l_182 hS, k_183 hS, l_183 hS, k_184 hS, l_184 hS, k_185 hS, l_185 hS, k_186 hS, l_186 hS, k_187 hS, l_187 hS, k_188 hS, l_188 hS, k_189 hS, l_189 hS, k_190 hS, l_190 hS, k_191 hS, l_191 hS, k_192 hS, l_192 hS, k_193 hS, l_193 hS, k_194 hS, l_194 hS, k_195 hS, l_195 hS, k_196 hS, l_196 hS, k_197 hS, l_197 hS, k_198 hS, l_198 hS, k_199 hS, l_199 hS, k_200 hS, l_200 hS, k_201 hS, l_201 hS, k_202 hS, l_202 hS, k_203 hS, l_203 hS, k_204 hS, l_204 hS, k_205 hS, l_205 hS, k_206 hS, l_206 hS, k_207 hS, l_207 hS, k_208 hS, l_208 hS, k_209 hS, l_209 hS, k_210 hS, l_210 hS, k_211 hS, l_211 hS, k_212 hS, l_212 hS, k_213 hS, l_213 hS, k_214 hS, l_214 hS, k_215 hS, l_215 hS, k_216 hS, l_216 hS, k_217 hS, l_217 hS, k_218 hS, l_218 hS, k_219 hS, l_219 hS, k_220 hS, l_220 hS, r_160_0 hS, r_160_1 hS, r_160_2 hS, r_160_3 hS, r_160_4 hS, r_160_5 hS, r_160_6 hS, r_160_7 hS, r_160_8 hS, r_160_9 hS, r_160_10 hS, r_160_11 hS, r_160_12 hS, r_160_13 hS, r_160_14 hS, r_160_15 hS, r_160_16 hS, r_160_17 hS, r_160_18 hS, r_160_19 hS, r_160_20 hS, r_160_21 hS, r_160_22 hS, r_160_23 hS, r_160_24 hS, r_160_25 hS, r_160_26 hS, r_160_27 hS, r_160_28 hS, r_160_29 hS, r_160_30 hS, r_160_31 hS, r_160_32 hS, r_160_33 hS, r_160_34 hS, r_160_35 hS, r_160_36 hS, r_160_37 hS, r_160_38 hS, r_160_39 hS, r_160_40 hS, r_160_41 hS, r_160_43 hS, r_160_45 hS, r_160_46 hS, r_160_48 hS, r_160_49 hS, r_160_50 hS, r_160_51 hS, r_160_52 hS, r_160_53 hS, r_160_54 hS, r_160_56 hS, r_160_63 hS, r_160_64 hS, r_160_65 hS, r_160_66 hS, r_160_67 hS, r_160_68 hS, r_160_69 hS, ol_s, ol_n, ln_0, ln_1, ln_2, ln_3, ln_4, eq_self, rf_s, rf_n, i01_0, i01_n0, i01_b, b01_0, b01_1, and_self, and_true, true_and, and_false, false_and, if_true, if_false, not_true_eq_false, not_false_eq_true, e10, e00, lt_bg, Nat.reduceLT, Nat.reduceLeDiff, O0, x, y]
    have f0 : bI (ot b l q 60) = 0 := if_neg z0
    have g0 : otA b l q 60 = q := if_neg z0
    by_cases z1 : ot b l q 61 = true
    · have s : sgn b l q = 1 := by
        unfold sgn
        rw [if_neg z0, if_pos z1]
      have x := bI_t z1
      have y : otA b l q 61 = te b l q := if_pos z1
      have r : rI (sgn b l q) 3 = 1 := by rw [s]; rfl
      have u : (if sgn b l q < 3 then te b l q else q) = te b l q := if_pos (by omega)
      rw [u, r]
      simp only [s198_111, s198_112, s198_114, s198_117, s198_120, s198_121, s198_124, s198_125, s198_127, s198_130, s198_133, s198_134, s198_137, s198_138, s198_140, s198_143, s198_146, s198_147, s198_150, s198_151, k_160 hS, k_161 hS, l_161 hS, k_162 hS, l_162 hS, k_163 hS, l_163 hS, k_164 hS, l_164 hS, k_165 hS, l_165 hS, k_166 hS, l_166 hS, k_167 hS, l_167 hS, k_168 hS, l_168 hS, k_169 hS, l_169 hS, k_170 hS, l_170 hS, k_171 hS, l_171 hS, k_172 hS, l_172 hS, k_173 hS, l_173 hS, k_174 hS, l_174 hS, k_175 hS, l_175 hS, k_176 hS, l_176 hS, k_177 hS, l_177 hS, k_178 hS, l_178 hS, k_179 hS, l_179 hS, k_180 hS, l_180 hS, k_181 hS, l_181 hS, k_182 hS, l_182 hS, k_183 hS, l_183 hS, k_184 hS, l_184 hS, k_185 hS, l_185 hS, k_186 hS, l_186 hS, k_187 hS, l_187 hS, k_188 hS, l_188 hS, k_189 hS, l_189 hS, k_190 hS, l_190 hS, k_191 hS, l_191 hS, k_192 hS, l_192 hS, k_193 hS, l_193 hS, k_194 hS, l_194 hS, k_195 hS, l_195 hS, k_196 hS, l_196 hS, k_197 hS, l_197 hS, k_198 hS, l_198 hS, k_199 hS, l_199 hS, k_200 hS, l_200 hS, k_201 hS, l_201 hS, k_202 hS, l_202 hS, k_203 hS, l_203 hS, k_204 hS, l_204 hS, k_205 hS, l_205 hS, k_206 hS, l_206 hS, k_207 hS, l_207 hS, k_208 hS, l_208 hS, k_209 hS, l_209 hS, k_210 hS, l_210 hS, k_211 hS, l_211 hS, k_212 hS, l_212 hS, k_213 hS, l_213 hS, k_214 hS, l_214 hS, k_215 hS, l_215 hS, k_216 hS, l_216 hS, k_217 hS, l_217 hS, k_218 hS, l_218 hS, k_219 hS, l_219 hS, k_220 hS, l_220 hS, r_160_0 hS, r_160_1 hS, r_160_2 hS, r_160_3 hS, r_160_4 hS, r_160_5 hS, r_160_6 hS, r_160_7 hS, r_160_8 hS, r_160_9 hS, r_160_10 hS, r_160_11 hS, r_160_12 hS, r_160_13 hS, r_160_14 hS, r_160_15 hS, r_160_16 hS, r_160_17 hS, r_160_18 hS, r_160_19 hS, r_160_20 hS, r_160_21 hS, r_160_22 hS, r_160_23 hS, r_160_24 hS, r_160_25 hS, r_160_26 hS, r_160_27 hS, r_160_28 hS, r_160_29 hS, r_160_30 hS, r_160_31 hS, r_160_32 hS, r_160_33 hS, r_160_34 hS, r_160_35 hS, r_160_36 hS, r_160_37 hS, r_160_38 hS, r_160_39 hS, r_160_40 hS, r_160_41 hS, r_160_43 hS, r_160_45 hS, r_160_46 hS, r_160_48 hS, r_160_49 hS, r_160_50 hS, r_160_51 hS, r_160_52 hS, r_160_53 hS, r_160_54 hS, r_160_56 hS, r_160_63 hS, r_160_64 hS, r_160_65 hS, r_160_66 hS, r_160_67 hS, r_160_68 hS, r_160_69 hS, ol_s, ol_n, ln_0, ln_1, ln_2, ln_3, ln_4, eq_self, rf_s, rf_n, i01_0, i01_n0, i01_b, b01_0, b01_1, and_self, and_true, true_and, and_false, false_and, if_true, if_false, not_true_eq_false, not_false_eq_true, e10, e00, lt_bg, Nat.reduceLT, Nat.reduceLeDiff, O0, O1, f0, g0, x, y]
    have f1 : bI (ot b l q 61) = 0 := if_neg z1
    have g1 : otA b l q 61 = q := if_neg z1
    by_cases z2 : ot b l q 62 = true
    · have s : sgn b l q = 2 := by
        unfold sgn
        rw [if_neg z0, if_neg z1, if_pos z2]
      have x := bI_t z2
      have y : otA b l q 62 = te b l q := if_pos z2
      have r : rI (sgn b l q) 3 = 2 := by rw [s]; rfl
      have u : (if sgn b l q < 3 then te b l q else q) = te b l q := if_pos (by omega)
      rw [u, r]
      simp only [s198_111, s198_112, s198_114, s198_117, s198_120, s198_121, s198_124, s198_125, s198_127, s198_130, s198_133, s198_134, s198_137, s198_138, s198_140, s198_143, s198_146, s198_147, s198_150, s198_151, k_160 hS, k_161 hS, l_161 hS, k_162 hS, l_162 hS, k_163 hS, l_163 hS, k_164 hS, l_164 hS, k_165 hS, l_165 hS, k_166 hS, l_166 hS, k_167 hS, l_167 hS, k_168 hS, l_168 hS, k_169 hS, l_169 hS, k_170 hS, l_170 hS, k_171 hS, l_171 hS, k_172 hS, l_172 hS, k_173 hS, l_173 hS, k_174 hS, l_174 hS, k_175 hS, l_175 hS, k_176 hS, l_176 hS, k_177 hS, l_177 hS, k_178 hS, l_178 hS, k_179 hS, l_179 hS, k_180 hS, l_180 hS, k_181 hS, l_181 hS, k_182 hS, l_182 hS, k_183 hS, l_183 hS, k_184 hS, l_184 hS, k_185 hS, l_185 hS, k_186 hS, l_186 hS, k_187 hS, l_187 hS, k_188 hS, l_188 hS, k_189 hS, l_189 hS, k_190 hS, l_190 hS, k_191 hS, l_191 hS, k_192 hS, l_192 hS, k_193 hS, l_193 hS, k_194 hS, l_194 hS, k_195 hS, l_195 hS, k_196 hS, l_196 hS, k_197 hS, l_197 hS, k_198 hS, l_198 hS, k_199 hS, l_199 hS, k_200 hS, l_200 hS, k_201 hS, l_201 hS, k_202 hS, l_202 hS, k_203 hS, l_203 hS, k_204 hS, l_204 hS, k_205 hS, l_205 hS, k_206 hS, l_206 hS, k_207 hS, l_207 hS, k_208 hS, l_208 hS, k_209 hS, l_209 hS, k_210 hS, l_210 hS, k_211 hS, l_211 hS, k_212 hS, l_212 hS, k_213 hS, l_213 hS, k_214 hS, l_214 hS, k_215 hS, l_215 hS, k_216 hS, l_216 hS, k_217 hS, l_217 hS, k_218 hS, l_218 hS, k_219 hS, l_219 hS, k_220 hS, l_220 hS, r_160_0 hS, r_160_1 hS, r_160_2 hS, r_160_3 hS, r_160_4 hS, r_160_5 hS, r_160_6 hS, r_160_7 hS, r_160_8 hS, r_160_9 hS, r_160_10 hS, r_160_11 hS, r_160_12 hS, r_160_13 hS, r_160_14 hS, r_160_15 hS, r_160_16 hS, r_160_17 hS, r_160_18 hS, r_160_19 hS, r_160_20 hS, r_160_21 hS, r_160_22 hS, r_160_23 hS, r_160_24 hS, r_160_25 hS, r_160_26 hS, r_160_27 hS, r_160_28 hS, r_160_29 hS, r_160_30 hS, r_160_31 hS, r_160_32 hS, r_160_33 hS, r_160_34 hS, r_160_35 hS, r_160_36 hS, r_160_37 hS, r_160_38 hS, r_160_39 hS, r_160_40 hS, r_160_41 hS, r_160_43 hS, r_160_45 hS, r_160_46 hS, r_160_48 hS, r_160_49 hS, r_160_50 hS, r_160_51 hS, r_160_52 hS, r_160_53 hS, r_160_54 hS, r_160_56 hS, r_160_63 hS, r_160_64 hS, r_160_65 hS, r_160_66 hS, r_160_67 hS, r_160_68 hS, r_160_69 hS, ol_s, ol_n, ln_0, ln_1, ln_2, ln_3, ln_4, eq_self, rf_s, rf_n, i01_0, i01_n0, i01_b, b01_0, b01_1, and_self, and_true, true_and, and_false, false_and, if_true, if_false, not_true_eq_false, not_false_eq_true, e10, e00, lt_bg, Nat.reduceLT, Nat.reduceLeDiff, O0, O1, O2, f0, g0, f1, g1, x, y]
    have f2 : bI (ot b l q 62) = 0 := if_neg z2
    have g2 : otA b l q 62 = q := if_neg z2
    have s : sgn b l q = 3 := by
      unfold sgn
      rw [if_neg z0, if_neg z1, if_neg z2]
    have r : rI (sgn b l q) 3 = -1 := by rw [s]; rfl
    have u : (if sgn b l q < 3 then te b l q else q) = q := if_neg (by omega)
    rw [u, r]
    simp only [s198_111, s198_112, s198_114, s198_117, s198_120, s198_121, s198_124, s198_125, s198_127, s198_130, s198_133, s198_134, s198_137, s198_138, s198_140, s198_143, s198_146, s198_147, s198_150, s198_151, k_160 hS, k_161 hS, l_161 hS, k_162 hS, l_162 hS, k_163 hS, l_163 hS, k_164 hS, l_164 hS, k_165 hS, l_165 hS, k_166 hS, l_166 hS, k_167 hS, l_167 hS, k_168 hS, l_168 hS, k_169 hS, l_169 hS, k_170 hS, l_170 hS, k_171 hS, l_171 hS, k_172 hS, l_172 hS, k_173 hS, l_173 hS, k_174 hS, l_174 hS, k_175 hS, l_175 hS, k_176 hS, l_176 hS, k_177 hS, l_177 hS, k_178 hS, l_178 hS, k_179 hS, l_179 hS, k_180 hS, l_180 hS, k_181 hS, l_181 hS, k_182 hS, l_182 hS, k_183 hS, l_183 hS, k_184 hS, l_184 hS, k_185 hS, l_185 hS, k_186 hS, l_186 hS, k_187 hS, l_187 hS, k_188 hS, l_188 hS, k_189 hS, l_189 hS, k_190 hS, l_190 hS, k_191 hS, l_191 hS, k_192 hS, l_192 hS, k_193 hS, l_193 hS, k_194 hS, l_194 hS, k_195 hS, l_195 hS, k_196 hS, l_196 hS, k_197 hS, l_197 hS, k_198 hS, l_198 hS, k_199 hS, l_199 hS, k_200 hS, l_200 hS, k_201 hS, l_201 hS, k_202 hS, l_202 hS, k_203 hS, l_203 hS, k_204 hS, l_204 hS, k_205 hS, l_205 hS, k_206 hS, l_206 hS, k_207 hS, l_207 hS, k_208 hS, l_208 hS, k_209 hS, l_209 hS, k_210 hS, l_210 hS, k_211 hS, l_211 hS, k_212 hS, l_212 hS, k_213 hS, l_213 hS, k_214 hS, l_214 hS, k_215 hS, l_215 hS, k_216 hS, l_216 hS, k_217 hS, l_217 hS, k_218 hS, l_218 hS, k_219 hS, l_219 hS, k_220 hS, l_220 hS, r_160_0 hS, r_160_1 hS, r_160_2 hS, r_160_3 hS, r_160_4 hS, r_160_5 hS, r_160_6 hS, r_160_7 hS, r_160_8 hS, r_160_9 hS, r_160_10 hS, r_160_11 hS, r_160_12 hS, r_160_13 hS, r_160_14 hS, r_160_15 hS, r_160_16 hS, r_160_17 hS, r_160_18 hS, r_160_19 hS, r_160_20 hS, r_160_21 hS, r_160_22 hS, r_160_23 hS, r_160_24 hS, r_160_25 hS, r_160_26 hS, r_160_27 hS, r_160_28 hS, r_160_29 hS, r_160_30 hS, r_160_31 hS, r_160_32 hS, r_160_33 hS, r_160_34 hS, r_160_35 hS, r_160_36 hS, r_160_37 hS, r_160_38 hS, r_160_39 hS, r_160_40 hS, r_160_41 hS, r_160_43 hS, r_160_45 hS, r_160_46 hS, r_160_48 hS, r_160_49 hS, r_160_50 hS, r_160_51 hS, r_160_52 hS, r_160_53 hS, r_160_54 hS, r_160_56 hS, r_160_63 hS, r_160_64 hS, r_160_65 hS, r_160_66 hS, r_160_67 hS, r_160_68 hS, r_160_69 hS, ol_s, ol_n, ln_0, ln_1, ln_2, ln_3, ln_4, eq_self, rf_s, rf_n, i01_0, i01_n0, i01_b, b01_0, b01_1, and_self, and_true, true_and, and_false, false_and, if_true, if_false, not_true_eq_false, not_false_eq_true, e10, e00, lt_bg, Nat.reduceLT, Nat.reduceLeDiff, O0, O1, O2, f0, g0, f1, g1, f2, g2]
  by_cases e : sgn b l q < 3
  rotate_left
  · rw [if_neg e]
    rw [if_neg e] at R2
    have r : rI (sgn b l q) 3 = -1 := if_neg e
    rw [r] at R2
    have K2 := K1.mv (a := q) (p := q) rfl n2 qq
    have h572 : am_u s1 160 57 (nI q) 160 57 = nI q := u_at _ _ _ _
    generalize am_u s1 160 57 (nI q) = s2 at R2 K2 h572
    have X2 : RX b l q o ver n s2 := K2.rx rfl hx
    have B := fun (d : Nat) (g : am_J) (Q : am_Q) => c186 (d := d) (ρ := ρ) (g := g) (Q := Q) hS X2.1 n2 h572 X2.2.2.1
    rw [qq] at B
    refine ⟨_, K2.bad (q := q) (x := nI q), fun d g Q => ?_⟩
    rw [R0, R1, R2]
    simp only [s198_152, s198_153, s198_166, s198_167, s198_170, k_160 hS, k_161 hS, l_161 hS, k_162 hS, l_162 hS, k_163 hS, l_163 hS, k_164 hS, l_164 hS, k_165 hS, l_165 hS, k_166 hS, l_166 hS, k_167 hS, l_167 hS, k_168 hS, l_168 hS, k_169 hS, l_169 hS, k_170 hS, l_170 hS, k_171 hS, l_171 hS, k_172 hS, l_172 hS, k_173 hS, l_173 hS, k_174 hS, l_174 hS, k_175 hS, l_175 hS, k_176 hS, l_176 hS, k_177 hS, l_177 hS, k_178 hS, l_178 hS, k_179 hS, l_179 hS, k_180 hS, l_180 hS, k_181 hS, l_181 hS, k_182 hS, l_182 hS, k_183 hS, l_183 hS, k_184 hS, l_184 hS, k_185 hS, l_185 hS, k_186 hS, l_186 hS, k_187 hS, l_187 hS, k_188 hS, l_188 hS, k_189 hS, l_189 hS, k_190 hS, l_190 hS, k_191 hS, l_191 hS, k_192 hS, l_192 hS, k_193 hS, l_193 hS, k_194 hS, l_194 hS, k_195 hS, l_195 hS, k_196 hS, l_196 hS, k_197 hS, l_197 hS, k_198 hS, l_198 hS, k_199 hS, l_199 hS, k_200 hS, l_200 hS, k_201 hS, l_201 hS, k_202 hS, l_202 hS, k_203 hS, l_203 hS, k_204 hS, l_204 hS, k_205 hS, l_205 hS, k_206 hS, l_206 hS, k_207 hS, l_207 hS, k_208 hS, l_208 hS, k_209 hS, l_209 hS, k_210 hS, l_210 hS, k_211 hS, l_211 hS, k_212 hS, l_212 hS, k_213 hS, l_213 hS, k_214 hS, l_214 hS, k_215 hS, l_215 hS, k_216 hS, l_216 hS, k_217 hS, l_217 hS, k_218 hS, l_218 hS, k_219 hS, l_219 hS, k_220 hS, l_220 hS, r_160_0 hS, r_160_1 hS, r_160_2 hS, r_160_3 hS, r_160_4 hS, r_160_5 hS, r_160_6 hS, r_160_7 hS, r_160_8 hS, r_160_9 hS, r_160_10 hS, r_160_11 hS, r_160_12 hS, r_160_13 hS, r_160_14 hS, r_160_15 hS, r_160_16 hS, r_160_17 hS, r_160_18 hS, r_160_19 hS, r_160_20 hS, r_160_21 hS, r_160_22 hS, r_160_23 hS, r_160_24 hS, r_160_25 hS, r_160_26 hS, r_160_27 hS, r_160_28 hS, r_160_29 hS, r_160_30 hS, r_160_31 hS, r_160_32 hS, r_160_33 hS, r_160_34 hS, r_160_35 hS, r_160_36 hS, r_160_37 hS, r_160_38 hS, r_160_39 hS, r_160_40 hS, r_160_41 hS, r_160_43 hS, r_160_45 hS, r_160_46 hS, r_160_48 hS, r_160_49 hS, r_160_50 hS, r_160_51 hS, r_160_52 hS, r_160_53 hS, r_160_54 hS, r_160_56 hS, r_160_63 hS, r_160_64 hS, r_160_65 hS, r_160_66 hS, r_160_67 hS, r_160_68 hS, r_160_69 hS, ol_s, ol_n, ln_0, ln_1, ln_2, ln_3, ln_4, eq_self, rf_s, rf_n, i01_0, i01_n0, i01_b, b01_0, b01_1, and_self, and_true, true_and, and_false, false_and, if_true, if_false, not_true_eq_false, not_false_eq_true, e10, e00, lt_bg, Nat.reduceLT, Nat.reduceLeDiff, lt1, B, wf]
  rw [if_pos e]
  rw [if_pos e] at R2
  have r : rI (sgn b l q) 3 = nI (sgn b l q) := if_pos e
  rw [r] at R2
  have lts : ¬ nI (sgn b l q) < 0 := Int32.not_lt.mpr (nI_le (a := 0) (Nat.zero_le _) (by omega))
  obtain ⟨t4, t5, _⟩ := te_b (b := b) n2
  obtain ⟨m1, m2, m3⟩ := nx_b (b := b) n2
  have K2 := K1.mv (a := te b l q) (p := nx b l q) rfl t5 rfl
  have h572 : am_u s1 160 57 (nI (te b l q)) 160 57 = nI (te b l q) := u_at _ _ _ _
  generalize am_u s1 160 57 (nI (te b l q)) = s2 at R2 K2 h572
  have X2 : RX b l (nx b l q) o ver n s2 := K2.rx rfl hx
  have U := fun (d : Nat) (g : am_J) (Q : am_Q) => c191 (d := d) (ρ := ρ) (g := g) (Q := Q) hS (m := 999) (by decide) X2.1 t5 h572 X2.2.2.1 (y := 999) (by decide)
  have en2 : sk b l (te b l q) = nx b l q := rfl
  rw [en2] at U
  generalize eq2 : nx b l q = q2 at m1 m2 m3 K2 X2 U
  by_cases f : nu b l q2 999 = true
  rotate_left
  · rw [if_neg f]
    have w : bI (nu b l q2 999) = 0 := if_neg f
    have y : nuS b l s2 q2 999 = am_u (am_u s2 160 57 (nI q2)) 160 58 (nI q2) := if_neg f
    rw [y] at U
    have K3 := K2.bad (q := q2) (x := nI q2)
    have h58 : am_u (am_u s2 160 57 (nI q2)) 160 58 (nI q2) 160 58 = nI q2 := u_at _ _ _ _
    generalize am_u (am_u s2 160 57 (nI q2)) 160 58 (nI q2) = s3 at U K3 h58
    have B := fun (d : Nat) (g : am_J) (Q : am_Q) => c186b (d := d) (ρ := ρ) (g := g) (Q := Q) hS h58 (by omega)
    refine ⟨s3, K3, fun d g Q => ?_⟩
    rw [R0, R1, R2]
    simp only [s198_152, s198_153, s198_156, s198_157, s198_160, s198_163, s198_166, s198_167, s198_170, k_160 hS, k_161 hS, l_161 hS, k_162 hS, l_162 hS, k_163 hS, l_163 hS, k_164 hS, l_164 hS, k_165 hS, l_165 hS, k_166 hS, l_166 hS, k_167 hS, l_167 hS, k_168 hS, l_168 hS, k_169 hS, l_169 hS, k_170 hS, l_170 hS, k_171 hS, l_171 hS, k_172 hS, l_172 hS, k_173 hS, l_173 hS, k_174 hS, l_174 hS, k_175 hS, l_175 hS, k_176 hS, l_176 hS, k_177 hS, l_177 hS, k_178 hS, l_178 hS, k_179 hS, l_179 hS, k_180 hS, l_180 hS, k_181 hS, l_181 hS, k_182 hS, l_182 hS, k_183 hS, l_183 hS, k_184 hS, l_184 hS, k_185 hS, l_185 hS, k_186 hS, l_186 hS, k_187 hS, l_187 hS, k_188 hS, l_188 hS, k_189 hS, l_189 hS, k_190 hS, l_190 hS, k_191 hS, l_191 hS, k_192 hS, l_192 hS, k_193 hS, l_193 hS, k_194 hS, l_194 hS, k_195 hS, l_195 hS, k_196 hS, l_196 hS, k_197 hS, l_197 hS, k_198 hS, l_198 hS, k_199 hS, l_199 hS, k_200 hS, l_200 hS, k_201 hS, l_201 hS, k_202 hS, l_202 hS, k_203 hS, l_203 hS, k_204 hS, l_204 hS, k_205 hS, l_205 hS, k_206 hS, l_206 hS, k_207 hS, l_207 hS, k_208 hS, l_208 hS, k_209 hS, l_209 hS, k_210 hS, l_210 hS, k_211 hS, l_211 hS, k_212 hS, l_212 hS, k_213 hS, l_213 hS, k_214 hS, l_214 hS, k_215 hS, l_215 hS, k_216 hS, l_216 hS, k_217 hS, l_217 hS, k_218 hS, l_218 hS, k_219 hS, l_219 hS, k_220 hS, l_220 hS, r_160_0 hS, r_160_1 hS, r_160_2 hS, r_160_3 hS, r_160_4 hS, r_160_5 hS, r_160_6 hS, r_160_7 hS, r_160_8 hS, r_160_9 hS, r_160_10 hS, r_160_11 hS, r_160_12 hS, r_160_13 hS, r_160_14 hS, r_160_15 hS, r_160_16 hS, r_160_17 hS, r_160_18 hS, r_160_19 hS, r_160_20 hS, r_160_21 hS, r_160_22 hS, r_160_23 hS, r_160_24 hS, r_160_25 hS, r_160_26 hS, r_160_27 hS, r_160_28 hS, r_160_29 hS, r_160_30 hS, r_160_31 hS, r_160_32 hS, r_160_33 hS, r_160_34 hS, r_160_35 hS, r_160_36 hS, r_160_37 hS, r_160_38 hS, r_160_39 hS, r_160_40 hS, r_160_41 hS, r_160_43 hS, r_160_45 hS, r_160_46 hS, r_160_48 hS, r_160_49 hS, r_160_50 hS, r_160_51 hS, r_160_52 hS, r_160_53 hS, r_160_54 hS, r_160_56 hS, r_160_63 hS, r_160_64 hS, r_160_65 hS, r_160_66 hS, r_160_67 hS, r_160_68 hS, r_160_69 hS, ol_s, ol_n, ln_0, ln_1, ln_2, ln_3, ln_4, eq_self, rf_s, rf_n, i01_0, i01_n0, i01_b, b01_0, b01_1, and_self, and_true, true_and, and_false, false_and, if_true, if_false, not_true_eq_false, not_false_eq_true, e10, e00, lt_bg, Nat.reduceLT, Nat.reduceLeDiff, lts, U, w, B, wf]
  rw [if_pos f]
  have w := bI_t f
  have ff := of_decide_eq_true f
  have y : nuS b l s2 q2 999 = am_u (am_u s2 160 57 (nI (te b l q2))) 160 62 (nI (vl b l q2)) := if_pos f
  rw [y] at U
  obtain ⟨t6, t7, _⟩ := te_b (b := b) m2
  have K3 := (K2.mv (a := te b l q2) (p := nx b l q2) rfl t7 rfl).num (v := nI (vl b l q2)) rfl
  have h62 : am_u (am_u s2 160 57 (nI (te b l q2))) 160 62 (nI (vl b l q2)) 160 62 = nI (vl b l q2) := u_at _ _ _ _
  generalize am_u (am_u s2 160 57 (nI (te b l q2))) 160 62 (nI (vl b l q2)) = s3 at U K3 h62
  have X3 : RX b l (nx b l q2) o ver n s3 := K3.rx rfl hx
  have vv : (1000000 : Int32) + 100000 * nI (fct b l p) + 10000 * nI (sgn b l q) + nI (vl b l q2) = nI (tk_M (0, fct b l p, sgn b l q, vl b l q2)) := by
    have x1 : (1000000 : Int32) = nI 1000000 := by decide
    have x2 : (100000 : Int32) * nI (fct b l p) = nI (100000 * fct b l p) := nI_mulL 100000 _
    have x3 : (10000 : Int32) * nI (sgn b l q) = nI (10000 * sgn b l q) := nI_mulL 10000 _
    rw [x1, x2, x3, nI_add, nI_add, nI_add]
    rfl
  have A := fun (d : Nat) (g : am_J) (Q : am_Q) => c192 (d := d) (ρ := ρ) (g := g) (Q := Q) hS (ver := ver) (n := n) hv8 (by omega) X3.2.2.2.2.1 X3.2.2.2.2.2 (v := nI (tk_M (0, fct b l p, sgn b l q, vl b l q2)))
  have K4 := K3.push (t := (0, fct b l p, sgn b l q, vl b l q2)) rfl
  refine ⟨_, K4, fun d g Q => ?_⟩
  rw [R0, R1, R2]
  simp only [s198_152, s198_153, s198_156, s198_157, s198_160, s198_163, s198_171, s198_172, s198_175, s198_178, s198_179, s198_180, s198_181, s198_184, s198_185, s198_186, s198_187, s198_188, s198_191, s198_192, s198_195, s198_196, k_160 hS, k_161 hS, l_161 hS, k_162 hS, l_162 hS, k_163 hS, l_163 hS, k_164 hS, l_164 hS, k_165 hS, l_165 hS, k_166 hS, l_166 hS, k_167 hS, l_167 hS, k_168 hS, l_168 hS, k_169 hS, l_169 hS, k_170 hS, l_170 hS, k_171 hS, l_171 hS, k_172 hS, l_172 hS, k_173 hS, l_173 hS, k_174 hS, l_174 hS, k_175 hS, l_175 hS, k_176 hS, l_176 hS, k_177 hS, l_177 hS, k_178 hS, l_178 hS, k_179 hS, l_179 hS, k_180 hS, l_180 hS, k_181 hS, l_181 hS, k_182 hS, l_182 hS, k_183 hS, l_183 hS, k_184 hS, l_184 hS, k_185 hS, l_185 hS, k_186 hS, l_186 hS, k_187 hS, l_187 hS, k_188 hS, l_188 hS, k_189 hS, l_189 hS, k_190 hS, l_190 hS, k_191 hS, l_191 hS, k_192 hS, l_192 hS, k_193 hS, l_193 hS, k_194 hS, l_194 hS, k_195 hS, l_195 hS, k_196 hS, l_196 hS, k_197 hS, l_197 hS, k_198 hS, l_198 hS, k_199 hS, l_199 hS, k_200 hS, l_200 hS, k_201 hS, l_201 hS, k_202 hS, l_202 hS, k_203 hS, l_203 hS, k_204 hS, l_204 hS, k_205 hS, l_205 hS, k_206 hS, l_206 hS, k_207 hS, l_207 hS, k_208 hS, l_208 hS, k_209 hS, l_209 hS, k_210 hS, l_210 hS, k_211 hS, l_211 hS, k_212 hS, l_212 hS, k_213 hS, l_213 hS, k_214 hS, l_214 hS, k_215 hS, l_215 hS, k_216 hS, l_216 hS, k_217 hS, l_217 hS, k_218 hS, l_218 hS, k_219 hS, l_219 hS, k_220 hS, l_220 hS, r_160_0 hS, r_160_1 hS, r_160_2 hS, r_160_3 hS, r_160_4 hS, r_160_5 hS, r_160_6 hS, r_160_7 hS, r_160_8 hS, r_160_9 hS, r_160_10 hS, r_160_11 hS, r_160_12 hS, r_160_13 hS, r_160_14 hS, r_160_15 hS, r_160_16 hS, r_160_17 hS, r_160_18 hS, r_160_19 hS, r_160_20 hS, r_160_21 hS, r_160_22 hS, r_160_23 hS, r_160_24 hS, r_160_25 hS, r_160_26 hS, r_160_27 hS, r_160_28 hS, r_160_29 hS, r_160_30 hS, r_160_31 hS, r_160_32 hS, r_160_33 hS, r_160_34 hS, r_160_35 hS, r_160_36 hS, r_160_37 hS, r_160_38 hS, r_160_39 hS, r_160_40 hS, r_160_41 hS, r_160_43 hS, r_160_45 hS, r_160_46 hS, r_160_48 hS, r_160_49 hS, r_160_50 hS, r_160_51 hS, r_160_52 hS, r_160_53 hS, r_160_54 hS, r_160_56 hS, r_160_63 hS, r_160_64 hS, r_160_65 hS, r_160_66 hS, r_160_67 hS, r_160_68 hS, r_160_69 hS, ol_s, ol_n, ln_0, ln_1, ln_2, ln_3, ln_4, eq_self, rf_s, rf_n, i01_0, i01_n0, i01_b, b01_0, b01_1, and_self, and_true, true_and, and_false, false_and, if_true, if_false, not_true_eq_false, not_false_eq_true, e10, e00, lt_bg, Nat.reduceLT, Nat.reduceLeDiff, lts, U, w, h62, vv, A, wt]
  rfl
def pB (b : Nat → Nat) (l : Nat) (inn : Nat → Rs) (p : Nat) : Rs := if ot b l p 40 = true then inn p else pPl b l p
theorem c198z (hS : Sh ρ τ) {b : Nat → Nat} {l ver : Nat} (hv8 : ver ≤ 8) : SR 198 [am_jk, am_jk, am_jk] 0 8 (pB b l pIn0) 4 ver b l ρ τ := by
  intro p n σ hp hn hx hb
  unfold pB
  by_cases q : ot b l p 40 = true
  rotate_left
  · rw [if_neg q]
    have q' : ot b l p 40 = false := by
      cases z : ot b l p 40
      · rfl
      · exact absurd z q
    exact c198p hS hv8 hp hn hx hb q'
  rw [if_pos q]
  obtain ⟨a, a1, a2, a3⟩ := hx.2.1
  have pp : sk b l p = p := by rw [← a3]; exact sk_sk a1
  have e40 : nI 40 = (40 : Int32) := by decide
  have e4 : nI 4 = (4 : Int32) := by decide
  have Hh := fun (d : Nat) (g : am_J) (Q : am_Q) => c185 (d := d) (g := g) (Q := Q) hS hx.1 a1 a2
  rw [a3] at Hh
  have eqq : hv b l p = 40 := by
    rw [← e40, hv_ot hx.1 (by decide) (by decide) (by decide)]
    exact q
  have K0 := (RR.refl hx).mv (a := p) (p := p) rfl hp pp
  have h57 : am_u σ 160 57 (nI p) 160 57 = nI p := u_at _ _ _ _
  generalize am_u σ 160 57 (nI p) = s0 at Hh K0 h57
  have X0 : RX b l p 4 ver n s0 := K0.rx rfl hx
  have B := fun (d : Nat) (g : am_J) (Q : am_Q) => c186 (d := d) (g := g) (Q := Q) hS X0.1 hp h57 X0.2.2.1
  rw [pp] at B
  have o4 : s0 160 59 = 4 := X0.2.2.2.1
  refine ⟨_, K0.bad (q := p) (x := nI p), fun d g Q => ?_⟩
  have w : bI (pIn0 p).1 = 0 := rfl
  rw [w]
  simp only [s198_0, s198_1, s198_4, s198_6, s198_9, s198_10, s198_13, s198_14, s198_17, s198_18, s198_21, k_160 hS, k_161 hS, l_161 hS, k_162 hS, l_162 hS, k_163 hS, l_163 hS, k_164 hS, l_164 hS, k_165 hS, l_165 hS, k_166 hS, l_166 hS, k_167 hS, l_167 hS, k_168 hS, l_168 hS, k_169 hS, l_169 hS, k_170 hS, l_170 hS, k_171 hS, l_171 hS, k_172 hS, l_172 hS, k_173 hS, l_173 hS, k_174 hS, l_174 hS, k_175 hS, l_175 hS, k_176 hS, l_176 hS, k_177 hS, l_177 hS, k_178 hS, l_178 hS, k_179 hS, l_179 hS, k_180 hS, l_180 hS, k_181 hS, l_181 hS, k_182 hS, l_182 hS, k_183 hS, l_183 hS, k_184 hS, l_184 hS, k_185 hS, l_185 hS, k_186 hS, l_186 hS, k_187 hS, l_187 hS, k_188 hS, l_188 hS, k_189 hS, l_189 hS, k_190 hS, l_190 hS, k_191 hS, l_191 hS, k_192 hS, l_192 hS, k_193 hS, l_193 hS, k_194 hS, l_194 hS, k_195 hS, l_195 hS, k_196 hS, l_196 hS, k_197 hS, l_197 hS, k_198 hS, l_198 hS, k_199 hS, l_199 hS, k_200 hS, l_200 hS, k_201 hS, l_201 hS, k_202 hS, l_202 hS, k_203 hS, l_203 hS, k_204 hS, l_204 hS, k_205 hS, l_205 hS, k_206 hS, l_206 hS, k_207 hS, l_207 hS, k_208 hS, l_208 hS, k_209 hS, l_209 hS, k_210 hS, l_210 hS, k_211 hS, l_211 hS, k_212 hS, l_212 hS, k_213 hS, l_213 hS, k_214 hS, l_214 hS, k_215 hS, l_215 hS, k_216 hS, l_216 hS, k_217 hS, l_217 hS, k_218 hS, l_218 hS, k_219 hS, l_219 hS, k_220 hS, l_220 hS, r_160_0 hS, r_160_1 hS, r_160_2 hS, r_160_3 hS, r_160_4 hS, r_160_5 hS, r_160_6 hS, r_160_7 hS, r_160_8 hS, r_160_9 hS, r_160_10 hS, r_160_11 hS, r_160_12 hS, r_160_13 hS, r_160_14 hS, r_160_15 hS, r_160_16 hS, r_160_17 hS, r_160_18 hS, r_160_19 hS, r_160_20 hS, r_160_21 hS, r_160_22 hS, r_160_23 hS, r_160_24 hS, r_160_25 hS, r_160_26 hS, r_160_27 hS, r_160_28 hS, r_160_29 hS, r_160_30 hS, r_160_31 hS, r_160_32 hS, r_160_33 hS, r_160_34 hS, r_160_35 hS, r_160_36 hS, r_160_37 hS, r_160_38 hS, r_160_39 hS, r_160_40 hS, r_160_41 hS, r_160_43 hS, r_160_45 hS, r_160_46 hS, r_160_48 hS, r_160_49 hS, r_160_50 hS, r_160_51 hS, r_160_52 hS, r_160_53 hS, r_160_54 hS, r_160_56 hS, r_160_63 hS, r_160_64 hS, r_160_65 hS, r_160_66 hS, r_160_67 hS, r_160_68 hS, r_160_69 hS, ol_s, ol_n, ln_0, ln_1, ln_2, ln_3, ln_4, eq_self, rf_s, rf_n, i01_0, i01_n0, i01_b, b01_0, b01_1, and_self, and_true, true_and, and_false, false_and, if_true, if_false, not_true_eq_false, not_false_eq_true, e10, e00, lt_bg, Nat.reduceLT, Nat.reduceLeDiff, Hh, eqq, o4, B]
theorem c198s (hS : Sh ρ τ) {b : Nat → Nat} {l E Hh o ver : Nat} (ho : o < 4) (hv8 : ver ≤ 8) {cd : Nat → Rs} (H : SR 195 [] E 11 cd (o + 1) ver b l ρ τ) (W : ∀ p, p ≤ l → Wf l Hh p (cd p)) : SR 198 [am_jk, am_jk, am_jk] E 12 (pB b l (pIn b l cd)) o ver b l ρ τ := by
  intro p n σ hp hn hx hb
  unfold pB
  by_cases q : ot b l p 40 = true
  rotate_left
  · rw [if_neg q]
    have q' : ot b l p 40 = false := by
      cases z : ot b l p 40
      · rfl
      · exact absurd z q
    obtain ⟨s', K, R⟩ := c198p hS hv8 hp hn hx hb q'
    exact ⟨s', K, fun d g Q => R (d + E + 4) g Q⟩
  rw [if_pos q]
  have hl := hx.1.1
  obtain ⟨a, a1, a2, a3⟩ := hx.2.1
  have pp : sk b l p = p := by rw [← a3]; exact sk_sk a1
  have e40 : nI 40 = (40 : Int32) := by decide
  have Hr := fun (d : Nat) (g : am_J) (Q : am_Q) => c185 (d := d) (g := g) (Q := Q) hS hx.1 a1 a2
  rw [a3] at Hr
  have eqq : hv b l p = 40 := by
    rw [← e40, hv_ot hx.1 (by decide) (by decide) (by decide)]
    exact q
  have k3 := (of_decide_eq_true q).1
  have et := te_3 k3
  obtain ⟨t1, t2, t3⟩ := te_b (b := b) hp
  obtain ⟨n1, n2, n3⟩ := nx_b (b := b) hp
  have wt : bI true = 1 := rfl
  have wf : bI false = 0 := rfl
  have K0 := (RR.refl hx).mv (a := p) (p := p) rfl hp pp
  have h57 : am_u σ 160 57 (nI p) 160 57 = nI p := u_at _ _ _ _
  generalize am_u σ 160 57 (nI p) = s0 at Hr K0 h57
  have X0 : RX b l p o ver n s0 := K0.rx rfl hx
  have o4 : s0 160 59 = nI o := X0.2.2.2.1
  have ne4 : ¬ nI o = 4 := nI_nj (b := 4) (by omega) (by omega) (by omega)
  have K1 := K0.mv (a := te b l p) (p := nx b l p) rfl t2 rfl
  rw [et] at K1
  have o5 : am_u s0 160 57 (nI (p + 1)) 160 59 = nI o := by rw [u_nk _ _ _ _ (by decide)]; exact o4
  generalize e1 : am_u s0 160 57 (nI (p + 1)) = s1 at K1 o5
  have K2 := K1.op (o' := o + 1) rfl
  have o6 : am_u s1 160 59 (nI (o + 1)) 160 59 = nI (o + 1) := u_at _ _ _ _
  generalize e2 : am_u s1 160 59 (nI (o + 1)) = s2 at K2 o6
  have X2 : RX b l (nx b l p) (o + 1) ver n s2 := by
    obtain ⟨y1, y2, y3, y4, y5⟩ := K2.2.1 rfl
    exact ⟨K2.tr hx.1, y1, y2, y3, K2.1.2.2.2, y4⟩
  obtain ⟨s3, K3, R3⟩ := H (nx b l p) n s2 n2 (by omega) X2 (K2.bg hb)
  obtain ⟨w1, w2, w3⟩ := W (nx b l p) n2
  have K4 := K2.seq rfl K3
  have K4 : RR b l ver σ s3 n (o + 1) (cd (nx b l p)) := K4
  have R0 : ∀ (d : Nat) (g : am_J) (Q : am_Q), AW (d + E + 12) 198 0 [.ref 160, am_jk, am_jk, am_jk] [] σ ρ g τ Q = AW (d + E + 12) 198 46 [.ref 160, am_jk, am_jk, am_jk] [.int (bI (cd (nx b l p)).1)] s3 ρ g τ Q := fun d g Q => by
    simp only [s198_0, s198_1, s198_4, s198_6, s198_9, s198_10, s198_13, s198_14, s198_17, s198_18, s198_21, s198_22, s198_23, s198_23r, s198_24, s198_27, s198_28, s198_29, s198_32, s198_33, s198_33r, s198_34, s198_37, s198_38, s198_39, s198_42, s198_43, k_160 hS, k_161 hS, l_161 hS, k_162 hS, l_162 hS, k_163 hS, l_163 hS, k_164 hS, l_164 hS, k_165 hS, l_165 hS, k_166 hS, l_166 hS, k_167 hS, l_167 hS, k_168 hS, l_168 hS, k_169 hS, l_169 hS, k_170 hS, l_170 hS, k_171 hS, l_171 hS, k_172 hS, l_172 hS, k_173 hS, l_173 hS, k_174 hS, l_174 hS, k_175 hS, l_175 hS, k_176 hS, l_176 hS, k_177 hS, l_177 hS, k_178 hS, l_178 hS, k_179 hS, l_179 hS, k_180 hS, l_180 hS, k_181 hS, l_181 hS, k_182 hS, l_182 hS, k_183 hS, l_183 hS, k_184 hS, l_184 hS, k_185 hS, l_185 hS, k_186 hS, l_186 hS, k_187 hS, l_187 hS, k_188 hS, l_188 hS, k_189 hS, l_189 hS, k_190 hS, l_190 hS, k_191 hS, l_191 hS, k_192 hS, l_192 hS, k_193 hS, l_193 hS, k_194 hS, l_194 hS, k_195 hS, l_195 hS, k_196 hS, l_196 hS, k_197 hS, l_197 hS, k_198 hS, l_198 hS, k_199 hS, l_199 hS, k_200 hS, l_200 hS, k_201 hS, l_201 hS, k_202 hS, l_202 hS, k_203 hS, l_203 hS, k_204 hS, l_204 hS, k_205 hS, l_205 hS, k_206 hS, l_206 hS, k_207 hS, l_207 hS, k_208 hS, l_208 hS, k_209 hS, l_209 hS, k_210 hS, l_210 hS, k_211 hS, l_211 hS, k_212 hS, l_212 hS, k_213 hS, l_213 hS, k_214 hS, l_214 hS, k_215 hS, l_215 hS, k_216 hS, l_216 hS, k_217 hS, l_217 hS, k_218 hS, l_218 hS, k_219 hS, l_219 hS, k_220 hS, l_220 hS, r_160_0 hS, r_160_1 hS, r_160_2 hS, r_160_3 hS, r_160_4 hS, r_160_5 hS, r_160_6 hS, r_160_7 hS, r_160_8 hS, r_160_9 hS, r_160_10 hS, r_160_11 hS, r_160_12 hS, r_160_13 hS, r_160_14 hS, r_160_15 hS, r_160_16 hS, r_160_17 hS, r_160_18 hS, r_160_19 hS, r_160_20 hS, r_160_21 hS, r_160_22 hS, r_160_23 hS, r_160_24 hS, r_160_25 hS, r_160_26 hS, r_160_27 hS, r_160_28 hS, r_160_29 hS, r_160_30 hS, r_160_31 hS, r_160_32 hS, r_160_33 hS, r_160_34 hS, r_160_35 hS, r_160_36 hS, r_160_37 hS, r_160_38 hS, r_160_39 hS, r_160_40 hS, r_160_41 hS, r_160_43 hS, r_160_45 hS, r_160_46 hS, r_160_48 hS, r_160_49 hS, r_160_50 hS, r_160_51 hS, r_160_52 hS, r_160_53 hS, r_160_54 hS, r_160_56 hS, r_160_63 hS, r_160_64 hS, r_160_65 hS, r_160_66 hS, r_160_67 hS, r_160_68 hS, r_160_69 hS, ol_s, ol_n, ln_0, ln_1, ln_2, ln_3, ln_4, eq_self, rf_s, rf_n, i01_0, i01_n0, i01_b, b01_0, b01_1, and_self, and_true, true_and, and_false, false_and, if_true, if_false, not_true_eq_false, not_false_eq_true, e10, e00, lt_bg, Nat.reduceLT, Nat.reduceLeDiff, Hr, eqq, o4, ne4, h57, nI_1, e1, o5, e2, R3]
  unfold pIn
  generalize cd (nx b l p) = r at K3 K4 R0 w1 w2 w3
  by_cases c : r.1 = true
  rotate_left
  · have rb : bI r.1 = 0 := if_neg c
    rw [if_neg c]
    refine ⟨s3, K4.fl c, fun d g Q => ?_⟩
    rw [R0]
    simp only [s198_46, s198_49, s198_50, k_160 hS, k_161 hS, l_161 hS, k_162 hS, l_162 hS, k_163 hS, l_163 hS, k_164 hS, l_164 hS, k_165 hS, l_165 hS, k_166 hS, l_166 hS, k_167 hS, l_167 hS, k_168 hS, l_168 hS, k_169 hS, l_169 hS, k_170 hS, l_170 hS, k_171 hS, l_171 hS, k_172 hS, l_172 hS, k_173 hS, l_173 hS, k_174 hS, l_174 hS, k_175 hS, l_175 hS, k_176 hS, l_176 hS, k_177 hS, l_177 hS, k_178 hS, l_178 hS, k_179 hS, l_179 hS, k_180 hS, l_180 hS, k_181 hS, l_181 hS, k_182 hS, l_182 hS, k_183 hS, l_183 hS, k_184 hS, l_184 hS, k_185 hS, l_185 hS, k_186 hS, l_186 hS, k_187 hS, l_187 hS, k_188 hS, l_188 hS, k_189 hS, l_189 hS, k_190 hS, l_190 hS, k_191 hS, l_191 hS, k_192 hS, l_192 hS, k_193 hS, l_193 hS, k_194 hS, l_194 hS, k_195 hS, l_195 hS, k_196 hS, l_196 hS, k_197 hS, l_197 hS, k_198 hS, l_198 hS, k_199 hS, l_199 hS, k_200 hS, l_200 hS, k_201 hS, l_201 hS, k_202 hS, l_202 hS, k_203 hS, l_203 hS, k_204 hS, l_204 hS, k_205 hS, l_205 hS, k_206 hS, l_206 hS, k_207 hS, l_207 hS, k_208 hS, l_208 hS, k_209 hS, l_209 hS, k_210 hS, l_210 hS, k_211 hS, l_211 hS, k_212 hS, l_212 hS, k_213 hS, l_213 hS, k_214 hS, l_214 hS, k_215 hS, l_215 hS, k_216 hS, l_216 hS, k_217 hS, l_217 hS, k_218 hS, l_218 hS, k_219 hS, l_219 hS, k_220 hS, l_220 hS, r_160_0 hS, r_160_1 hS, r_160_2 hS, r_160_3 hS, r_160_4 hS, r_160_5 hS, r_160_6 hS, r_160_7 hS, r_160_8 hS, r_160_9 hS, r_160_10 hS, r_160_11 hS, r_160_12 hS, r_160_13 hS, r_160_14 hS, r_160_15 hS, r_160_16 hS, r_160_17 hS, r_160_18 hS, r_160_19 hS, r_160_20 hS, r_160_21 hS, r_160_22 hS, r_160_23 hS, r_160_24 hS, r_160_25 hS, r_160_26 hS, r_160_27 hS, r_160_28 hS, r_160_29 hS, r_160_30 hS, r_160_31 hS, r_160_32 hS, r_160_33 hS, r_160_34 hS, r_160_35 hS, r_160_36 hS, r_160_37 hS, r_160_38 hS, r_160_39 hS, r_160_40 hS, r_160_41 hS, r_160_43 hS, r_160_45 hS, r_160_46 hS, r_160_48 hS, r_160_49 hS, r_160_50 hS, r_160_51 hS, r_160_52 hS, r_160_53 hS, r_160_54 hS, r_160_56 hS, r_160_63 hS, r_160_64 hS, r_160_65 hS, r_160_66 hS, r_160_67 hS, r_160_68 hS, r_160_69 hS, ol_s, ol_n, ln_0, ln_1, ln_2, ln_3, ln_4, eq_self, rf_s, rf_n, i01_0, i01_n0, i01_b, b01_0, b01_1, and_self, and_true, true_and, and_false, false_and, if_true, if_false, not_true_eq_false, not_false_eq_true, e10, e00, lt_bg, Nat.reduceLT, Nat.reduceLeDiff, rb, wf]
  have rb := bI_t c
  rw [if_pos c]
  obtain ⟨⟨a4, a5, a6, a7⟩, y2, y3, y4, y5⟩ := K4.2.1 c
  have T3 := K4.tr hx.1
  have O := fun (d : Nat) (g : am_J) (Q : am_Q) => c190 (d := d) (ρ := ρ) (g := g) (Q := Q) hS (c := 41) (by decide) (by decide) (by decide) T3 a5 a6 (y := 41) (by decide)
  rw [a7] at O
  have rr : sk b l r.2.1 = r.2.1 := by rw [← a7]; exact sk_sk a5
  by_cases f : ot b l r.2.1 41 = true
  rotate_left
  · have fb : bI (ot b l r.2.1 41) = 0 := if_neg f
    have g1 : otA b l r.2.1 41 = r.2.1 := if_neg f
    rw [if_neg f]
    rw [g1] at O
    have K5 := K4.mv (a := r.2.1) (p := r.2.1) c w2 rr
    have h575 : am_u s3 160 57 (nI r.2.1) 160 57 = nI r.2.1 := u_at _ _ _ _
    generalize am_u s3 160 57 (nI r.2.1) = s5 at O K5 h575
    have h58 := (K5.2.1 rfl).2.1
    have B := fun (d : Nat) (g : am_J) (Q : am_Q) => c186 (d := d) (ρ := ρ) (g := g) (Q := Q) hS (K5.tr hx.1) w2 h575 h58
    rw [rr] at B
    refine ⟨_, (K5.bad (q := r.2.1) (x := nI r.2.1)).fl (by show ¬ (false = true); decide), fun d g Q => ?_⟩
    rw [R0]
    simp only [s198_46, s198_49, s198_50, s198_51, s198_52, s198_54, s198_57, s198_60, s198_61, s198_64, k_160 hS, k_161 hS, l_161 hS, k_162 hS, l_162 hS, k_163 hS, l_163 hS, k_164 hS, l_164 hS, k_165 hS, l_165 hS, k_166 hS, l_166 hS, k_167 hS, l_167 hS, k_168 hS, l_168 hS, k_169 hS, l_169 hS, k_170 hS, l_170 hS, k_171 hS, l_171 hS, k_172 hS, l_172 hS, k_173 hS, l_173 hS, k_174 hS, l_174 hS, k_175 hS, l_175 hS, k_176 hS, l_176 hS, k_177 hS, l_177 hS, k_178 hS, l_178 hS, k_179 hS, l_179 hS, k_180 hS, l_180 hS, k_181 hS, l_181 hS, k_182 hS, l_182 hS, k_183 hS, l_183 hS, k_184 hS, l_184 hS, k_185 hS, l_185 hS, k_186 hS, l_186 hS, k_187 hS, l_187 hS, k_188 hS, l_188 hS, k_189 hS, l_189 hS, k_190 hS, l_190 hS, k_191 hS, l_191 hS, k_192 hS, l_192 hS, k_193 hS, l_193 hS, k_194 hS, l_194 hS, k_195 hS, l_195 hS, k_196 hS, l_196 hS, k_197 hS, l_197 hS, k_198 hS, l_198 hS, k_199 hS, l_199 hS, k_200 hS, l_200 hS, k_201 hS, l_201 hS, k_202 hS, l_202 hS, k_203 hS, l_203 hS, k_204 hS, l_204 hS, k_205 hS, l_205 hS, k_206 hS, l_206 hS, k_207 hS, l_207 hS, k_208 hS, l_208 hS, k_209 hS, l_209 hS, k_210 hS, l_210 hS, k_211 hS, l_211 hS, k_212 hS, l_212 hS, k_213 hS, l_213 hS, k_214 hS, l_214 hS, k_215 hS, l_215 hS, k_216 hS, l_216 hS, k_217 hS, l_217 hS, k_218 hS, l_218 hS, k_219 hS, l_219 hS, k_220 hS, l_220 hS, r_160_0 hS, r_160_1 hS, r_160_2 hS, r_160_3 hS, r_160_4 hS, r_160_5 hS, r_160_6 hS, r_160_7 hS, r_160_8 hS, r_160_9 hS, r_160_10 hS, r_160_11 hS, r_160_12 hS, r_160_13 hS, r_160_14 hS, r_160_15 hS, r_160_16 hS, r_160_17 hS, r_160_18 hS, r_160_19 hS, r_160_20 hS, r_160_21 hS, r_160_22 hS, r_160_23 hS, r_160_24 hS, r_160_25 hS, r_160_26 hS, r_160_27 hS, r_160_28 hS, r_160_29 hS, r_160_30 hS, r_160_31 hS, r_160_32 hS, r_160_33 hS, r_160_34 hS, r_160_35 hS, r_160_36 hS, r_160_37 hS, r_160_38 hS, r_160_39 hS, r_160_40 hS, r_160_41 hS, r_160_43 hS, r_160_45 hS, r_160_46 hS, r_160_48 hS, r_160_49 hS, r_160_50 hS, r_160_51 hS, r_160_52 hS, r_160_53 hS, r_160_54 hS, r_160_56 hS, r_160_63 hS, r_160_64 hS, r_160_65 hS, r_160_66 hS, r_160_67 hS, r_160_68 hS, r_160_69 hS, ol_s, ol_n, ln_0, ln_1, ln_2, ln_3, ln_4, eq_self, rf_s, rf_n, i01_0, i01_n0, i01_b, b01_0, b01_1, and_self, and_true, true_and, and_false, false_and, if_true, if_false, not_true_eq_false, not_false_eq_true, e10, e00, lt_bg, Nat.reduceLT, Nat.reduceLeDiff, rb, O, fb, B, wf]
  have fb := bI_t f
  have g1 : otA b l r.2.1 41 = te b l r.2.1 := if_pos f
  rw [if_pos f]
  rw [g1] at O
  have K5 := K4.mv (a := te b l r.2.1) (p := nx b l r.2.1) c (te_b (b := b) w2).2.1 rfl
  have h59 : am_u s3 160 57 (nI (te b l r.2.1)) 160 59 = nI (o + 1) := by rw [u_nk _ _ _ _ (by decide)]; exact y3
  generalize am_u s3 160 57 (nI (te b l r.2.1)) = s5 at O K5 h59
  have K6 := K5.op (o' := o) rfl
  refine ⟨_, K6, fun d g Q => ?_⟩
  rw [R0]
  simp only [s198_46, s198_49, s198_50, s198_51, s198_52, s198_54, s198_57, s198_65, s198_66, s198_66r, s198_67, s198_70, s198_71, s198_72, s198_75, s198_76, k_160 hS, k_161 hS, l_161 hS, k_162 hS, l_162 hS, k_163 hS, l_163 hS, k_164 hS, l_164 hS, k_165 hS, l_165 hS, k_166 hS, l_166 hS, k_167 hS, l_167 hS, k_168 hS, l_168 hS, k_169 hS, l_169 hS, k_170 hS, l_170 hS, k_171 hS, l_171 hS, k_172 hS, l_172 hS, k_173 hS, l_173 hS, k_174 hS, l_174 hS, k_175 hS, l_175 hS, k_176 hS, l_176 hS, k_177 hS, l_177 hS, k_178 hS, l_178 hS, k_179 hS, l_179 hS, k_180 hS, l_180 hS, k_181 hS, l_181 hS, k_182 hS, l_182 hS, k_183 hS, l_183 hS, k_184 hS, l_184 hS, k_185 hS, l_185 hS, k_186 hS, l_186 hS, k_187 hS, l_187 hS, k_188 hS, l_188 hS, k_189 hS, l_189 hS, k_190 hS, l_190 hS, k_191 hS, l_191 hS, k_192 hS, l_192 hS, k_193 hS, l_193 hS, k_194 hS, l_194 hS, k_195 hS, l_195 hS, k_196 hS, l_196 hS, k_197 hS, l_197 hS, k_198 hS, l_198 hS, k_199 hS, l_199 hS, k_200 hS, l_200 hS, k_201 hS, l_201 hS, k_202 hS, l_202 hS, k_203 hS, l_203 hS, k_204 hS, l_204 hS, k_205 hS, l_205 hS, k_206 hS, l_206 hS, k_207 hS, l_207 hS, k_208 hS, l_208 hS, k_209 hS, l_209 hS, k_210 hS, l_210 hS, k_211 hS, l_211 hS, k_212 hS, l_212 hS, k_213 hS, l_213 hS, k_214 hS, l_214 hS, k_215 hS, l_215 hS, k_216 hS, l_216 hS, k_217 hS, l_217 hS, k_218 hS, l_218 hS, k_219 hS, l_219 hS, k_220 hS, l_220 hS, r_160_0 hS, r_160_1 hS, r_160_2 hS, r_160_3 hS, r_160_4 hS, r_160_5 hS, r_160_6 hS, r_160_7 hS, r_160_8 hS, r_160_9 hS, r_160_10 hS, r_160_11 hS, r_160_12 hS, r_160_13 hS, r_160_14 hS, r_160_15 hS, r_160_16 hS, r_160_17 hS, r_160_18 hS, r_160_19 hS, r_160_20 hS, r_160_21 hS, r_160_22 hS, r_160_23 hS, r_160_24 hS, r_160_25 hS, r_160_26 hS, r_160_27 hS, r_160_28 hS, r_160_29 hS, r_160_30 hS, r_160_31 hS, r_160_32 hS, r_160_33 hS, r_160_34 hS, r_160_35 hS, r_160_36 hS, r_160_37 hS, r_160_38 hS, r_160_39 hS, r_160_40 hS, r_160_41 hS, r_160_43 hS, r_160_45 hS, r_160_46 hS, r_160_48 hS, r_160_49 hS, r_160_50 hS, r_160_51 hS, r_160_52 hS, r_160_53 hS, r_160_54 hS, r_160_56 hS, r_160_63 hS, r_160_64 hS, r_160_65 hS, r_160_66 hS, r_160_67 hS, r_160_68 hS, r_160_69 hS, ol_s, ol_n, ln_0, ln_1, ln_2, ln_3, ln_4, eq_self, rf_s, rf_n, i01_0, i01_n0, i01_b, b01_0, b01_1, and_self, and_true, true_and, and_false, false_and, if_true, if_false, not_true_eq_false, not_false_eq_true, e10, e00, lt_bg, Nat.reduceLT, Nat.reduceLeDiff, rb, O, fb, h59, nI_pred, wt]
theorem c197L (hS : Sh ρ τ) {b : Nat → Nat} {l E o ver n : Nat} : ∀ (f p i : Nat) (x : Bool) (σ : am_I), l - p ≤ f → p ≤ l → i ≤ p → (x = true ↔ i % 2 = 1) → RX b l p o ver n σ → Bgd σ τ → ∃ (σ' : am_I) (i' : Nat), i' ≤ 300 ∧ ((pNt b l f p x).1 = true ↔ i' % 2 = 1) ∧ RR b l ver σ σ' n o (true, (pNt b l f p x).2, []) ∧ ∀ (d : Nat) (g : am_J) (Q : am_Q), AW (d + E + 9) 197 2 [.ref 160, .int (nI i)] [] σ ρ g τ Q = AW (d + E + 9) 197 18 [.ref 160, .int (nI i')] [] σ' ρ g τ Q
  | 0, p, i, x, σ, hf, hp, hi, hxi, hx, hb => by
    have hl := hx.1.1
    obtain ⟨a, a1, a2, a3⟩ := hx.2.1
    have pp : sk b l p = p := by rw [← a3]; exact sk_sk a1
    have N := fun (d : Nat) (g : am_J) (Q : am_Q) => c189n (d := d) (g := g) (Q := Q) hS hb hx.1 a1 a2 (i := 10) (N := am_BG + 32) (by decide) rfl
    rw [a3] at N
    have nf : nm b l p 10 = false := decide_eq_false (fun z => by
      have := kd_0 (b := b) (l := l) (p := p) (by omega)
      omega)
    have w := bI_f nf
    have y : nmA b l p 10 = p := if_neg (by rw [nf]; decide)
    refine ⟨am_u σ 160 57 (nI p), i, by omega, hxi, (RR.refl hx).mv rfl hp pp, fun d g Q => ?_⟩
    simp only [s197_2, s197_3, s197_6, s197_9, k_160 hS, k_161 hS, l_161 hS, k_162 hS, l_162 hS, k_163 hS, l_163 hS, k_164 hS, l_164 hS, k_165 hS, l_165 hS, k_166 hS, l_166 hS, k_167 hS, l_167 hS, k_168 hS, l_168 hS, k_169 hS, l_169 hS, k_170 hS, l_170 hS, k_171 hS, l_171 hS, k_172 hS, l_172 hS, k_173 hS, l_173 hS, k_174 hS, l_174 hS, k_175 hS, l_175 hS, k_176 hS, l_176 hS, k_177 hS, l_177 hS, k_178 hS, l_178 hS, k_179 hS, l_179 hS, k_180 hS, l_180 hS, k_181 hS, l_181 hS, k_182 hS, l_182 hS, k_183 hS, l_183 hS, k_184 hS, l_184 hS, k_185 hS, l_185 hS, k_186 hS, l_186 hS, k_187 hS, l_187 hS, k_188 hS, l_188 hS, k_189 hS, l_189 hS, k_190 hS, l_190 hS, k_191 hS, l_191 hS, k_192 hS, l_192 hS, k_193 hS, l_193 hS, k_194 hS, l_194 hS, k_195 hS, l_195 hS, k_196 hS, l_196 hS, k_197 hS, l_197 hS, k_198 hS, l_198 hS, k_199 hS, l_199 hS, k_200 hS, l_200 hS, k_201 hS, l_201 hS, k_202 hS, l_202 hS, k_203 hS, l_203 hS, k_204 hS, l_204 hS, k_205 hS, l_205 hS, k_206 hS, l_206 hS, k_207 hS, l_207 hS, k_208 hS, l_208 hS, k_209 hS, l_209 hS, k_210 hS, l_210 hS, k_211 hS, l_211 hS, k_212 hS, l_212 hS, k_213 hS, l_213 hS, k_214 hS, l_214 hS, k_215 hS, l_215 hS, k_216 hS, l_216 hS, k_217 hS, l_217 hS, k_218 hS, l_218 hS, k_219 hS, l_219 hS, k_220 hS, l_220 hS, r_160_0 hS, r_160_1 hS, r_160_2 hS, r_160_3 hS, r_160_4 hS, r_160_5 hS, r_160_6 hS, r_160_7 hS, r_160_8 hS, r_160_9 hS, r_160_10 hS, r_160_11 hS, r_160_12 hS, r_160_13 hS, r_160_14 hS, r_160_15 hS, r_160_16 hS, r_160_17 hS, r_160_18 hS, r_160_19 hS, r_160_20 hS, r_160_21 hS, r_160_22 hS, r_160_23 hS, r_160_24 hS, r_160_25 hS, r_160_26 hS, r_160_27 hS, r_160_28 hS, r_160_29 hS, r_160_30 hS, r_160_31 hS, r_160_32 hS, r_160_33 hS, r_160_34 hS, r_160_35 hS, r_160_36 hS, r_160_37 hS, r_160_38 hS, r_160_39 hS, r_160_40 hS, r_160_41 hS, r_160_43 hS, r_160_45 hS, r_160_46 hS, r_160_48 hS, r_160_49 hS, r_160_50 hS, r_160_51 hS, r_160_52 hS, r_160_53 hS, r_160_54 hS, r_160_56 hS, r_160_63 hS, r_160_64 hS, r_160_65 hS, r_160_66 hS, r_160_67 hS, r_160_68 hS, r_160_69 hS, ol_s, ol_n, ln_0, ln_1, ln_2, ln_3, ln_4, eq_self, rf_s, rf_n, i01_0, i01_n0, i01_b, b01_0, b01_1, and_self, and_true, true_and, and_false, false_and, if_true, if_false, not_true_eq_false, not_false_eq_true, e10, e00, lt_bg, Nat.reduceLT, Nat.reduceLeDiff, N, w, y]
  | f + 1, p, i, x, σ, hf, hp, hi, hxi, hx, hb => by
    have hl := hx.1.1
    obtain ⟨a, a1, a2, a3⟩ := hx.2.1
    have pp : sk b l p = p := by rw [← a3]; exact sk_sk a1
    have N := fun (d : Nat) (g : am_J) (Q : am_Q) => c189n (d := d) (g := g) (Q := Q) hS hb hx.1 a1 a2 (i := 10) (N := am_BG + 32) (by decide) rfl
    rw [a3] at N
    by_cases q : nm b l p 10 = true
    rotate_left
    · have w : bI (nm b l p 10) = 0 := if_neg q
      have y : nmA b l p 10 = p := if_neg q
      have u : pNt b l (f + 1) p x = (x, p) := if_neg q
      rw [u]
      refine ⟨am_u σ 160 57 (nI p), i, by omega, hxi, (RR.refl hx).mv rfl hp pp, fun d g Q => ?_⟩
      simp only [s197_2, s197_3, s197_6, s197_9, k_160 hS, k_161 hS, l_161 hS, k_162 hS, l_162 hS, k_163 hS, l_163 hS, k_164 hS, l_164 hS, k_165 hS, l_165 hS, k_166 hS, l_166 hS, k_167 hS, l_167 hS, k_168 hS, l_168 hS, k_169 hS, l_169 hS, k_170 hS, l_170 hS, k_171 hS, l_171 hS, k_172 hS, l_172 hS, k_173 hS, l_173 hS, k_174 hS, l_174 hS, k_175 hS, l_175 hS, k_176 hS, l_176 hS, k_177 hS, l_177 hS, k_178 hS, l_178 hS, k_179 hS, l_179 hS, k_180 hS, l_180 hS, k_181 hS, l_181 hS, k_182 hS, l_182 hS, k_183 hS, l_183 hS, k_184 hS, l_184 hS, k_185 hS, l_185 hS, k_186 hS, l_186 hS, k_187 hS, l_187 hS, k_188 hS, l_188 hS, k_189 hS, l_189 hS, k_190 hS, l_190 hS, k_191 hS, l_191 hS, k_192 hS, l_192 hS, k_193 hS, l_193 hS, k_194 hS, l_194 hS, k_195 hS, l_195 hS, k_196 hS, l_196 hS, k_197 hS, l_197 hS, k_198 hS, l_198 hS, k_199 hS, l_199 hS, k_200 hS, l_200 hS, k_201 hS, l_201 hS, k_202 hS, l_202 hS, k_203 hS, l_203 hS, k_204 hS, l_204 hS, k_205 hS, l_205 hS, k_206 hS, l_206 hS, k_207 hS, l_207 hS, k_208 hS, l_208 hS, k_209 hS, l_209 hS, k_210 hS, l_210 hS, k_211 hS, l_211 hS, k_212 hS, l_212 hS, k_213 hS, l_213 hS, k_214 hS, l_214 hS, k_215 hS, l_215 hS, k_216 hS, l_216 hS, k_217 hS, l_217 hS, k_218 hS, l_218 hS, k_219 hS, l_219 hS, k_220 hS, l_220 hS, r_160_0 hS, r_160_1 hS, r_160_2 hS, r_160_3 hS, r_160_4 hS, r_160_5 hS, r_160_6 hS, r_160_7 hS, r_160_8 hS, r_160_9 hS, r_160_10 hS, r_160_11 hS, r_160_12 hS, r_160_13 hS, r_160_14 hS, r_160_15 hS, r_160_16 hS, r_160_17 hS, r_160_18 hS, r_160_19 hS, r_160_20 hS, r_160_21 hS, r_160_22 hS, r_160_23 hS, r_160_24 hS, r_160_25 hS, r_160_26 hS, r_160_27 hS, r_160_28 hS, r_160_29 hS, r_160_30 hS, r_160_31 hS, r_160_32 hS, r_160_33 hS, r_160_34 hS, r_160_35 hS, r_160_36 hS, r_160_37 hS, r_160_38 hS, r_160_39 hS, r_160_40 hS, r_160_41 hS, r_160_43 hS, r_160_45 hS, r_160_46 hS, r_160_48 hS, r_160_49 hS, r_160_50 hS, r_160_51 hS, r_160_52 hS, r_160_53 hS, r_160_54 hS, r_160_56 hS, r_160_63 hS, r_160_64 hS, r_160_65 hS, r_160_66 hS, r_160_67 hS, r_160_68 hS, r_160_69 hS, ol_s, ol_n, ln_0, ln_1, ln_2, ln_3, ln_4, eq_self, rf_s, rf_n, i01_0, i01_n0, i01_b, b01_0, b01_1, and_self, and_true, true_and, and_false, false_and, if_true, if_false, not_true_eq_false, not_false_eq_true, e10, e00, lt_bg, Nat.reduceLT, Nat.reduceLeDiff, N, w, y]
    have w := bI_t q
    have y : nmA b l p 10 = te b l p := if_pos q
    have u : pNt b l (f + 1) p x = pNt b l f (nx b l p) (!x) := if_pos q
    obtain ⟨t1, t2, t3⟩ := te_b (b := b) hp
    obtain ⟨n1, n2, n3⟩ := nx_b (b := b) hp
    have n3 := n3 (nm_kd q)
    have K1 := (RR.refl hx).mv (a := te b l p) (p := nx b l p) rfl t2 rfl
    have X1 : RX b l (nx b l p) o ver n (am_u σ 160 57 (nI (te b l p))) := K1.rx rfl hx
    obtain ⟨s2, i2, i3, i4, K2, R2⟩ := c197L hS (E := E) (o := o) (ver := ver) (n := n) f (nx b l p) (i + 1) (!x) _ (by omega) n2 (by omega) (by
      cases x
      · have : ¬ i % 2 = 1 := fun z => absurd (hxi.mpr z) (by decide)
        exact ⟨fun _ => by omega, fun _ => rfl⟩
      · have := hxi.mp rfl
        exact ⟨fun z => absurd z (by decide), fun z => absurd z (by omega)⟩) X1 (K1.bg hb)
    rw [u]
    refine ⟨s2, i2, i3, i4, K1.seq rfl K2, fun d g Q => ?_⟩
    rw [s197_2]
    simp only [s197_3, s197_6, s197_9, s197_12r, s197_15, k_160 hS, k_161 hS, l_161 hS, k_162 hS, l_162 hS, k_163 hS, l_163 hS, k_164 hS, l_164 hS, k_165 hS, l_165 hS, k_166 hS, l_166 hS, k_167 hS, l_167 hS, k_168 hS, l_168 hS, k_169 hS, l_169 hS, k_170 hS, l_170 hS, k_171 hS, l_171 hS, k_172 hS, l_172 hS, k_173 hS, l_173 hS, k_174 hS, l_174 hS, k_175 hS, l_175 hS, k_176 hS, l_176 hS, k_177 hS, l_177 hS, k_178 hS, l_178 hS, k_179 hS, l_179 hS, k_180 hS, l_180 hS, k_181 hS, l_181 hS, k_182 hS, l_182 hS, k_183 hS, l_183 hS, k_184 hS, l_184 hS, k_185 hS, l_185 hS, k_186 hS, l_186 hS, k_187 hS, l_187 hS, k_188 hS, l_188 hS, k_189 hS, l_189 hS, k_190 hS, l_190 hS, k_191 hS, l_191 hS, k_192 hS, l_192 hS, k_193 hS, l_193 hS, k_194 hS, l_194 hS, k_195 hS, l_195 hS, k_196 hS, l_196 hS, k_197 hS, l_197 hS, k_198 hS, l_198 hS, k_199 hS, l_199 hS, k_200 hS, l_200 hS, k_201 hS, l_201 hS, k_202 hS, l_202 hS, k_203 hS, l_203 hS, k_204 hS, l_204 hS, k_205 hS, l_205 hS, k_206 hS, l_206 hS, k_207 hS, l_207 hS, k_208 hS, l_208 hS, k_209 hS, l_209 hS, k_210 hS, l_210 hS, k_211 hS, l_211 hS, k_212 hS, l_212 hS, k_213 hS, l_213 hS, k_214 hS, l_214 hS, k_215 hS, l_215 hS, k_216 hS, l_216 hS, k_217 hS, l_217 hS, k_218 hS, l_218 hS, k_219 hS, l_219 hS, k_220 hS, l_220 hS, r_160_0 hS, r_160_1 hS, r_160_2 hS, r_160_3 hS, r_160_4 hS, r_160_5 hS, r_160_6 hS, r_160_7 hS, r_160_8 hS, r_160_9 hS, r_160_10 hS, r_160_11 hS, r_160_12 hS, r_160_13 hS, r_160_14 hS, r_160_15 hS, r_160_16 hS, r_160_17 hS, r_160_18 hS, r_160_19 hS, r_160_20 hS, r_160_21 hS, r_160_22 hS, r_160_23 hS, r_160_24 hS, r_160_25 hS, r_160_26 hS, r_160_27 hS, r_160_28 hS, r_160_29 hS, r_160_30 hS, r_160_31 hS, r_160_32 hS, r_160_33 hS, r_160_34 hS, r_160_35 hS, r_160_36 hS, r_160_37 hS, r_160_38 hS, r_160_39 hS, r_160_40 hS, r_160_41 hS, r_160_43 hS, r_160_45 hS, r_160_46 hS, r_160_48 hS, r_160_49 hS, r_160_50 hS, r_160_51 hS, r_160_52 hS, r_160_53 hS, r_160_54 hS, r_160_56 hS, r_160_63 hS, r_160_64 hS, r_160_65 hS, r_160_66 hS, r_160_67 hS, r_160_68 hS, r_160_69 hS, ol_s, ol_n, ln_0, ln_1, ln_2, ln_3, ln_4, eq_self, rf_s, rf_n, i01_0, i01_n0, i01_b, b01_0, b01_1, and_self, and_true, true_and, and_false, false_and, if_true, if_false, not_true_eq_false, not_false_eq_true, e10, e00, lt_bg, Nat.reduceLT, Nat.reduceLeDiff, N, w, y, nI_1]
    exact R2 d g Q
theorem c197 (hS : Sh ρ τ) {b : Nat → Nat} {l E Hh o ver : Nat} (hv8 : ver ≤ 8) {inn : Nat → Rs} (H : SR 198 [am_jk, am_jk, am_jk] E 8 (pB b l inn) o ver b l ρ τ) (W : ∀ p, p ≤ l → ot b l p 40 = true → Wf l Hh p (inn p)) : SR 197 [am_jk] E 9 (pOne b l inn) o ver b l ρ τ := by
  intro p n σ hp hn hx hb
  have hl := hx.1.1
  obtain ⟨s1, i1, i2, i3, K1, R1⟩ := c197L hS (E := E) (o := o) (ver := ver) (n := n) l p 0 false σ (by omega) hp (by omega) ⟨fun z => absurd z (by decide), fun z => absurd z (by decide)⟩ hx hb
  obtain ⟨a1, a2, a3⟩ := pNt_b (b := b) l p false hp
  rw [nI_0] at R1
  show ∃ σ' : am_I, RR b l ver σ σ' n o (pO2 b l inn (pNt b l l p false)) ∧ ∀ (d : Nat) (g : am_J) (Q : am_Q), AW (d + E + 9) 197 0 [.ref 160, am_jk] [] σ ρ g τ Q = Q (some (.int (bI (pO2 b l inn (pNt b l l p false)).1))) σ' ρ g τ
  generalize pNt b l l p false = t at K1 R1 i3 a1 a2 a3
  have X1 : RX b l t.2 o ver n s1 := K1.rx rfl hx
  obtain ⟨s2, K2, R2⟩ := H t.2 n s1 a2 (by omega) X1 (K1.bg hb)
  have K2' := K1.seq rfl K2
  have K2' : RR b l ver σ s2 n o (pB b l inn t.2) := K2'
  have WW : (pB b l inn t.2).1 = true → t.2 + (pB b l inn t.2).2.2.length ≤ (pB b l inn t.2).2.1 ∧ (pB b l inn t.2).2.1 ≤ l := by
    unfold pB
    by_cases q : ot b l t.2 40 = true
    · rw [if_pos q]
      obtain ⟨w1, w2, w3⟩ := W t.2 a2 q
      exact fun z => ⟨(w3 z).2.1, w2⟩
    · rw [if_neg q]
      obtain ⟨w1, w2, w3⟩ := pPl_wf (b := b) a2
      exact fun z => ⟨(w3 z).2.1, w2⟩
  have pe : pO2 b l inn t = if (pB b l inn t.2).1 = true ∧ t.1 = true then (true, (pB b l inn t.2).2.1, (pB b l inn t.2).2.2 ++ [tk_no]) else pB b l inn t.2 := rfl
  rw [pe]
  have wt : bI true = 1 := rfl
  have ne2 : ((2 : Int32) = 0) = False := by decide
  have rm : nI i1 - nI i1 / 2 * 2 = nI (i1 % 2) := pk_rem (d := 2) (by omega) (by decide) (by decide)
  generalize pB b l inn t.2 = r at K2 K2' R2 WW
  by_cases q1 : r.1 = true
  rotate_left
  · have rb : bI r.1 = 0 := if_neg q1
    rw [if_neg (fun z => q1 z.1)]
    refine ⟨s2, K2', fun d g Q => ?_⟩
    simp only [s197_0, s197_1r, ol_s, ol_n, ln_0, ln_1, ln_2, ln_3, ln_4, eq_self, rf_s, rf_n, i01_0, i01_n0, i01_b, b01_0, b01_1, and_self, and_true, true_and, and_false, false_and, if_true, if_false, not_true_eq_false, not_false_eq_true, e10, e00, lt_bg, Nat.reduceLT, Nat.reduceLeDiff]
    rw [R1]
    simp only [s197_18, s197_19, s197_22, s197_25, s197_26, k_160 hS, k_161 hS, l_161 hS, k_162 hS, l_162 hS, k_163 hS, l_163 hS, k_164 hS, l_164 hS, k_165 hS, l_165 hS, k_166 hS, l_166 hS, k_167 hS, l_167 hS, k_168 hS, l_168 hS, k_169 hS, l_169 hS, k_170 hS, l_170 hS, k_171 hS, l_171 hS, k_172 hS, l_172 hS, k_173 hS, l_173 hS, k_174 hS, l_174 hS, k_175 hS, l_175 hS, k_176 hS, l_176 hS, k_177 hS, l_177 hS, k_178 hS, l_178 hS, k_179 hS, l_179 hS, k_180 hS, l_180 hS, k_181 hS, l_181 hS, k_182 hS, l_182 hS, k_183 hS, l_183 hS, k_184 hS, l_184 hS, k_185 hS, l_185 hS, k_186 hS, l_186 hS, k_187 hS, l_187 hS, k_188 hS, l_188 hS, k_189 hS, l_189 hS, k_190 hS, l_190 hS, k_191 hS, l_191 hS, k_192 hS, l_192 hS, k_193 hS, l_193 hS, k_194 hS, l_194 hS, k_195 hS, l_195 hS, k_196 hS, l_196 hS, k_197 hS, l_197 hS, k_198 hS, l_198 hS, k_199 hS, l_199 hS, k_200 hS, l_200 hS, k_201 hS, l_201 hS, k_202 hS, l_202 hS, k_203 hS, l_203 hS, k_204 hS, l_204 hS, k_205 hS, l_205 hS, k_206 hS, l_206 hS, k_207 hS, l_207 hS, k_208 hS, l_208 hS, k_209 hS, l_209 hS, k_210 hS, l_210 hS, k_211 hS, l_211 hS, k_212 hS, l_212 hS, k_213 hS, l_213 hS, k_214 hS, l_214 hS, k_215 hS, l_215 hS, k_216 hS, l_216 hS, k_217 hS, l_217 hS, k_218 hS, l_218 hS, k_219 hS, l_219 hS, k_220 hS, l_220 hS, r_160_0 hS, r_160_1 hS, r_160_2 hS, r_160_3 hS, r_160_4 hS, r_160_5 hS, r_160_6 hS, r_160_7 hS, r_160_8 hS, r_160_9 hS, r_160_10 hS, r_160_11 hS, r_160_12 hS, r_160_13 hS, r_160_14 hS, r_160_15 hS, r_160_16 hS, r_160_17 hS, r_160_18 hS, r_160_19 hS, r_160_20 hS, r_160_21 hS, r_160_22 hS, r_160_23 hS, r_160_24 hS, r_160_25 hS, r_160_26 hS, r_160_27 hS, r_160_28 hS, r_160_29 hS, r_160_30 hS, r_160_31 hS, r_160_32 hS, r_160_33 hS, r_160_34 hS, r_160_35 hS, r_160_36 hS, r_160_37 hS, r_160_38 hS, r_160_39 hS, r_160_40 hS, r_160_41 hS, r_160_43 hS, r_160_45 hS, r_160_46 hS, r_160_48 hS, r_160_49 hS, r_160_50 hS, r_160_51 hS, r_160_52 hS, r_160_53 hS, r_160_54 hS, r_160_56 hS, r_160_63 hS, r_160_64 hS, r_160_65 hS, r_160_66 hS, r_160_67 hS, r_160_68 hS, r_160_69 hS, ol_s, ol_n, ln_0, ln_1, ln_2, ln_3, ln_4, eq_self, rf_s, rf_n, i01_0, i01_n0, i01_b, b01_0, b01_1, and_self, and_true, true_and, and_false, false_and, if_true, if_false, not_true_eq_false, not_false_eq_true, e10, e00, lt_bg, Nat.reduceLT, Nat.reduceLeDiff, R2, rb]
  have rb := bI_t q1
  obtain ⟨y1, y2⟩ := WW q1
  by_cases q2 : t.1 = true
  rotate_left
  · have im : i1 % 2 = 0 := by
      have : ¬ i1 % 2 = 1 := fun z => q2 (i3.mpr z)
      omega
    have e0 : nI (i1 % 2) = 0 := by rw [im]; rfl
    have n01 : ((0 : Int32) = 1) = False := by decide
    rw [if_neg (fun z => q2 z.2)]
    refine ⟨s2, K2', fun d g Q => ?_⟩
    simp only [s197_0, s197_1r, ol_s, ol_n, ln_0, ln_1, ln_2, ln_3, ln_4, eq_self, rf_s, rf_n, i01_0, i01_n0, i01_b, b01_0, b01_1, and_self, and_true, true_and, and_false, false_and, if_true, if_false, not_true_eq_false, not_false_eq_true, e10, e00, lt_bg, Nat.reduceLT, Nat.reduceLeDiff]
    rw [R1]
    simp only [s197_18, s197_19, s197_22, s197_27, s197_28, s197_29, s197_30, s197_31, s197_41, s197_42, k_160 hS, k_161 hS, l_161 hS, k_162 hS, l_162 hS, k_163 hS, l_163 hS, k_164 hS, l_164 hS, k_165 hS, l_165 hS, k_166 hS, l_166 hS, k_167 hS, l_167 hS, k_168 hS, l_168 hS, k_169 hS, l_169 hS, k_170 hS, l_170 hS, k_171 hS, l_171 hS, k_172 hS, l_172 hS, k_173 hS, l_173 hS, k_174 hS, l_174 hS, k_175 hS, l_175 hS, k_176 hS, l_176 hS, k_177 hS, l_177 hS, k_178 hS, l_178 hS, k_179 hS, l_179 hS, k_180 hS, l_180 hS, k_181 hS, l_181 hS, k_182 hS, l_182 hS, k_183 hS, l_183 hS, k_184 hS, l_184 hS, k_185 hS, l_185 hS, k_186 hS, l_186 hS, k_187 hS, l_187 hS, k_188 hS, l_188 hS, k_189 hS, l_189 hS, k_190 hS, l_190 hS, k_191 hS, l_191 hS, k_192 hS, l_192 hS, k_193 hS, l_193 hS, k_194 hS, l_194 hS, k_195 hS, l_195 hS, k_196 hS, l_196 hS, k_197 hS, l_197 hS, k_198 hS, l_198 hS, k_199 hS, l_199 hS, k_200 hS, l_200 hS, k_201 hS, l_201 hS, k_202 hS, l_202 hS, k_203 hS, l_203 hS, k_204 hS, l_204 hS, k_205 hS, l_205 hS, k_206 hS, l_206 hS, k_207 hS, l_207 hS, k_208 hS, l_208 hS, k_209 hS, l_209 hS, k_210 hS, l_210 hS, k_211 hS, l_211 hS, k_212 hS, l_212 hS, k_213 hS, l_213 hS, k_214 hS, l_214 hS, k_215 hS, l_215 hS, k_216 hS, l_216 hS, k_217 hS, l_217 hS, k_218 hS, l_218 hS, k_219 hS, l_219 hS, k_220 hS, l_220 hS, r_160_0 hS, r_160_1 hS, r_160_2 hS, r_160_3 hS, r_160_4 hS, r_160_5 hS, r_160_6 hS, r_160_7 hS, r_160_8 hS, r_160_9 hS, r_160_10 hS, r_160_11 hS, r_160_12 hS, r_160_13 hS, r_160_14 hS, r_160_15 hS, r_160_16 hS, r_160_17 hS, r_160_18 hS, r_160_19 hS, r_160_20 hS, r_160_21 hS, r_160_22 hS, r_160_23 hS, r_160_24 hS, r_160_25 hS, r_160_26 hS, r_160_27 hS, r_160_28 hS, r_160_29 hS, r_160_30 hS, r_160_31 hS, r_160_32 hS, r_160_33 hS, r_160_34 hS, r_160_35 hS, r_160_36 hS, r_160_37 hS, r_160_38 hS, r_160_39 hS, r_160_40 hS, r_160_41 hS, r_160_43 hS, r_160_45 hS, r_160_46 hS, r_160_48 hS, r_160_49 hS, r_160_50 hS, r_160_51 hS, r_160_52 hS, r_160_53 hS, r_160_54 hS, r_160_56 hS, r_160_63 hS, r_160_64 hS, r_160_65 hS, r_160_66 hS, r_160_67 hS, r_160_68 hS, r_160_69 hS, ol_s, ol_n, ln_0, ln_1, ln_2, ln_3, ln_4, eq_self, rf_s, rf_n, i01_0, i01_n0, i01_b, b01_0, b01_1, and_self, and_true, true_and, and_false, false_and, if_true, if_false, not_true_eq_false, not_false_eq_true, e10, e00, lt_bg, Nat.reduceLT, Nat.reduceLeDiff, R2, rb, ne2, rm, e0, n01]
  have im := i3.mp q2
  have e1 : nI (i1 % 2) = 1 := by rw [im]; rfl
  have a3 := a3 (by rw [q2]; decide)
  rw [if_pos ⟨q1, q2⟩]
  have X2 := K2'.rx q1 hx
  have et : nI (tk_M tk_no) = (3000000 : Int32) := by decide
  have A := fun (d : Nat) (g : am_J) (Q : am_Q) => c192 (d := d) (ρ := ρ) (g := g) (Q := Q) hS (ver := ver) (n := n + r.2.2.length) hv8 (by omega) X2.2.2.2.2.1 X2.2.2.2.2.2 (v := 3000000)
  have K3 := K2'.push (t := tk_no) q1
  rw [et] at K3
  refine ⟨_, K3, fun d g Q => ?_⟩
  simp only [s197_0, s197_1r, ol_s, ol_n, ln_0, ln_1, ln_2, ln_3, ln_4, eq_self, rf_s, rf_n, i01_0, i01_n0, i01_b, b01_0, b01_1, and_self, and_true, true_and, and_false, false_and, if_true, if_false, not_true_eq_false, not_false_eq_true, e10, e00, lt_bg, Nat.reduceLT, Nat.reduceLeDiff]
  rw [R1]
  simp only [s197_18, s197_19, s197_22, s197_27, s197_28, s197_29, s197_30, s197_31, s197_34, s197_35, s197_38, s197_41, s197_42, k_160 hS, k_161 hS, l_161 hS, k_162 hS, l_162 hS, k_163 hS, l_163 hS, k_164 hS, l_164 hS, k_165 hS, l_165 hS, k_166 hS, l_166 hS, k_167 hS, l_167 hS, k_168 hS, l_168 hS, k_169 hS, l_169 hS, k_170 hS, l_170 hS, k_171 hS, l_171 hS, k_172 hS, l_172 hS, k_173 hS, l_173 hS, k_174 hS, l_174 hS, k_175 hS, l_175 hS, k_176 hS, l_176 hS, k_177 hS, l_177 hS, k_178 hS, l_178 hS, k_179 hS, l_179 hS, k_180 hS, l_180 hS, k_181 hS, l_181 hS, k_182 hS, l_182 hS, k_183 hS, l_183 hS, k_184 hS, l_184 hS, k_185 hS, l_185 hS, k_186 hS, l_186 hS, k_187 hS, l_187 hS, k_188 hS, l_188 hS, k_189 hS, l_189 hS, k_190 hS, l_190 hS, k_191 hS, l_191 hS, k_192 hS, l_192 hS, k_193 hS, l_193 hS, k_194 hS, l_194 hS, k_195 hS, l_195 hS, k_196 hS, l_196 hS, k_197 hS, l_197 hS, k_198 hS, l_198 hS, k_199 hS, l_199 hS, k_200 hS, l_200 hS, k_201 hS, l_201 hS, k_202 hS, l_202 hS, k_203 hS, l_203 hS, k_204 hS, l_204 hS, k_205 hS, l_205 hS, k_206 hS, l_206 hS, k_207 hS, l_207 hS, k_208 hS, l_208 hS, k_209 hS, l_209 hS, k_210 hS, l_210 hS, k_211 hS, l_211 hS, k_212 hS, l_212 hS, k_213 hS, l_213 hS, k_214 hS, l_214 hS, k_215 hS, l_215 hS, k_216 hS, l_216 hS, k_217 hS, l_217 hS, k_218 hS, l_218 hS, k_219 hS, l_219 hS, k_220 hS, l_220 hS, r_160_0 hS, r_160_1 hS, r_160_2 hS, r_160_3 hS, r_160_4 hS, r_160_5 hS, r_160_6 hS, r_160_7 hS, r_160_8 hS, r_160_9 hS, r_160_10 hS, r_160_11 hS, r_160_12 hS, r_160_13 hS, r_160_14 hS, r_160_15 hS, r_160_16 hS, r_160_17 hS, r_160_18 hS, r_160_19 hS, r_160_20 hS, r_160_21 hS, r_160_22 hS, r_160_23 hS, r_160_24 hS, r_160_25 hS, r_160_26 hS, r_160_27 hS, r_160_28 hS, r_160_29 hS, r_160_30 hS, r_160_31 hS, r_160_32 hS, r_160_33 hS, r_160_34 hS, r_160_35 hS, r_160_36 hS, r_160_37 hS, r_160_38 hS, r_160_39 hS, r_160_40 hS, r_160_41 hS, r_160_43 hS, r_160_45 hS, r_160_46 hS, r_160_48 hS, r_160_49 hS, r_160_50 hS, r_160_51 hS, r_160_52 hS, r_160_53 hS, r_160_54 hS, r_160_56 hS, r_160_63 hS, r_160_64 hS, r_160_65 hS, r_160_66 hS, r_160_67 hS, r_160_68 hS, r_160_69 hS, ol_s, ol_n, ln_0, ln_1, ln_2, ln_3, ln_4, eq_self, rf_s, rf_n, i01_0, i01_n0, i01_b, b01_0, b01_1, and_self, and_true, true_and, and_false, false_and, if_true, if_false, not_true_eq_false, not_false_eq_true, e10, e00, lt_bg, Nat.reduceLT, Nat.reduceLeDiff, R2, rb, ne2, rm, e1, A, wt]
theorem c196L (hS : Sh ρ τ) {b : Nat → Nat} {l E Hh o ver : Nat} (hv8 : ver ≤ 8) {one : Nat → Rs} (H : SR 197 [am_jk] E 9 one o ver b l ρ τ) (W : ∀ p, p ≤ l → Wf l Hh p (one p)) : ∀ (f p n : Nat) (σ : am_I), l - p ≤ f → p ≤ l → n < p → RX b l p o ver n σ → Bgd σ τ → ∃ σ' : am_I, RR b l ver σ σ' n o (pTl b l one 17 (3, 0, 0, 0) f p) ∧ ∀ (d : Nat) (g : am_J) (Q : am_Q), AW (d + E + 10) 196 9 [.ref 160] [] σ ρ g τ Q = Q (some (.int (bI (pTl b l one 17 (3, 0, 0, 0) f p).1))) σ' ρ g τ := by
  intro f
  have wt : bI true = 1 := rfl
  have wf : bI false = 0 := rfl
  induction f with
  | zero =>
    intro p n σ hf hp hn hx hb
    obtain ⟨a, a1, a2, a3⟩ := hx.2.1
    have pp : sk b l p = p := by rw [← a3]; exact sk_sk a1
    have N := fun (d : Nat) (g : am_J) (Q : am_Q) => c189n (d := d) (g := g) (Q := Q) hS hb hx.1 a1 a2 (i := 17) (N := am_BG + 39) (by decide) rfl
    rw [a3] at N
    have nf : nm b l p 17 = false := decide_eq_false (fun z => by
      have := kd_0 (b := b) (l := l) (p := p) (by omega)
      omega)
    have w := bI_f nf
    have y : nmA b l p 17 = p := if_neg (by rw [nf]; decide)
    have u : pTl b l one 17 (3, 0, 0, 0) 0 p = (true, p, []) := rfl
    rw [u]
    refine ⟨am_u σ 160 57 (nI p), (RR.refl hx).mv rfl hp pp, fun d g Q => ?_⟩
    simp only [s196_9, s196_10, s196_13, s196_16, s196_38, s196_39, k_160 hS, k_161 hS, l_161 hS, k_162 hS, l_162 hS, k_163 hS, l_163 hS, k_164 hS, l_164 hS, k_165 hS, l_165 hS, k_166 hS, l_166 hS, k_167 hS, l_167 hS, k_168 hS, l_168 hS, k_169 hS, l_169 hS, k_170 hS, l_170 hS, k_171 hS, l_171 hS, k_172 hS, l_172 hS, k_173 hS, l_173 hS, k_174 hS, l_174 hS, k_175 hS, l_175 hS, k_176 hS, l_176 hS, k_177 hS, l_177 hS, k_178 hS, l_178 hS, k_179 hS, l_179 hS, k_180 hS, l_180 hS, k_181 hS, l_181 hS, k_182 hS, l_182 hS, k_183 hS, l_183 hS, k_184 hS, l_184 hS, k_185 hS, l_185 hS, k_186 hS, l_186 hS, k_187 hS, l_187 hS, k_188 hS, l_188 hS, k_189 hS, l_189 hS, k_190 hS, l_190 hS, k_191 hS, l_191 hS, k_192 hS, l_192 hS, k_193 hS, l_193 hS, k_194 hS, l_194 hS, k_195 hS, l_195 hS, k_196 hS, l_196 hS, k_197 hS, l_197 hS, k_198 hS, l_198 hS, k_199 hS, l_199 hS, k_200 hS, l_200 hS, k_201 hS, l_201 hS, k_202 hS, l_202 hS, k_203 hS, l_203 hS, k_204 hS, l_204 hS, k_205 hS, l_205 hS, k_206 hS, l_206 hS, k_207 hS, l_207 hS, k_208 hS, l_208 hS, k_209 hS, l_209 hS, k_210 hS, l_210 hS, k_211 hS, l_211 hS, k_212 hS, l_212 hS, k_213 hS, l_213 hS, k_214 hS, l_214 hS, k_215 hS, l_215 hS, k_216 hS, l_216 hS, k_217 hS, l_217 hS, k_218 hS, l_218 hS, k_219 hS, l_219 hS, k_220 hS, l_220 hS, r_160_0 hS, r_160_1 hS, r_160_2 hS, r_160_3 hS, r_160_4 hS, r_160_5 hS, r_160_6 hS, r_160_7 hS, r_160_8 hS, r_160_9 hS, r_160_10 hS, r_160_11 hS, r_160_12 hS, r_160_13 hS, r_160_14 hS, r_160_15 hS, r_160_16 hS, r_160_17 hS, r_160_18 hS, r_160_19 hS, r_160_20 hS, r_160_21 hS, r_160_22 hS, r_160_23 hS, r_160_24 hS, r_160_25 hS, r_160_26 hS, r_160_27 hS, r_160_28 hS, r_160_29 hS, r_160_30 hS, r_160_31 hS, r_160_32 hS, r_160_33 hS, r_160_34 hS, r_160_35 hS, r_160_36 hS, r_160_37 hS, r_160_38 hS, r_160_39 hS, r_160_40 hS, r_160_41 hS, r_160_43 hS, r_160_45 hS, r_160_46 hS, r_160_48 hS, r_160_49 hS, r_160_50 hS, r_160_51 hS, r_160_52 hS, r_160_53 hS, r_160_54 hS, r_160_56 hS, r_160_63 hS, r_160_64 hS, r_160_65 hS, r_160_66 hS, r_160_67 hS, r_160_68 hS, r_160_69 hS, ol_s, ol_n, ln_0, ln_1, ln_2, ln_3, ln_4, eq_self, rf_s, rf_n, i01_0, i01_n0, i01_b, b01_0, b01_1, and_self, and_true, true_and, and_false, false_and, if_true, if_false, not_true_eq_false, not_false_eq_true, e10, e00, lt_bg, Nat.reduceLT, Nat.reduceLeDiff, N, w, y, wt]
  | succ f ih =>
    intro p n σ hf hp hn hx hb
    have hl := hx.1.1
    obtain ⟨a, a1, a2, a3⟩ := hx.2.1
    have pp : sk b l p = p := by rw [← a3]; exact sk_sk a1
    have N := fun (d : Nat) (g : am_J) (Q : am_Q) => c189n (d := d) (g := g) (Q := Q) hS hb hx.1 a1 a2 (i := 17) (N := am_BG + 39) (by decide) rfl
    rw [a3] at N
    by_cases q : nm b l p 17 = true
    rotate_left
    · have w : bI (nm b l p 17) = 0 := if_neg q
      have y : nmA b l p 17 = p := if_neg q
      have u : pTl b l one 17 (3, 0, 0, 0) (f + 1) p = (true, p, []) := if_neg q
      rw [u]
      refine ⟨am_u σ 160 57 (nI p), (RR.refl hx).mv rfl hp pp, fun d g Q => ?_⟩
      simp only [s196_9, s196_10, s196_13, s196_16, s196_38, s196_39, k_160 hS, k_161 hS, l_161 hS, k_162 hS, l_162 hS, k_163 hS, l_163 hS, k_164 hS, l_164 hS, k_165 hS, l_165 hS, k_166 hS, l_166 hS, k_167 hS, l_167 hS, k_168 hS, l_168 hS, k_169 hS, l_169 hS, k_170 hS, l_170 hS, k_171 hS, l_171 hS, k_172 hS, l_172 hS, k_173 hS, l_173 hS, k_174 hS, l_174 hS, k_175 hS, l_175 hS, k_176 hS, l_176 hS, k_177 hS, l_177 hS, k_178 hS, l_178 hS, k_179 hS, l_179 hS, k_180 hS, l_180 hS, k_181 hS, l_181 hS, k_182 hS, l_182 hS, k_183 hS, l_183 hS, k_184 hS, l_184 hS, k_185 hS, l_185 hS, k_186 hS, l_186 hS, k_187 hS, l_187 hS, k_188 hS, l_188 hS, k_189 hS, l_189 hS, k_190 hS, l_190 hS, k_191 hS, l_191 hS, k_192 hS, l_192 hS, k_193 hS, l_193 hS, k_194 hS, l_194 hS, k_195 hS, l_195 hS, k_196 hS, l_196 hS, k_197 hS, l_197 hS, k_198 hS, l_198 hS, k_199 hS, l_199 hS, k_200 hS, l_200 hS, k_201 hS, l_201 hS, k_202 hS, l_202 hS, k_203 hS, l_203 hS, k_204 hS, l_204 hS, k_205 hS, l_205 hS, k_206 hS, l_206 hS, k_207 hS, l_207 hS, k_208 hS, l_208 hS, k_209 hS, l_209 hS, k_210 hS, l_210 hS, k_211 hS, l_211 hS, k_212 hS, l_212 hS, k_213 hS, l_213 hS, k_214 hS, l_214 hS, k_215 hS, l_215 hS, k_216 hS, l_216 hS, k_217 hS, l_217 hS, k_218 hS, l_218 hS, k_219 hS, l_219 hS, k_220 hS, l_220 hS, r_160_0 hS, r_160_1 hS, r_160_2 hS, r_160_3 hS, r_160_4 hS, r_160_5 hS, r_160_6 hS, r_160_7 hS, r_160_8 hS, r_160_9 hS, r_160_10 hS, r_160_11 hS, r_160_12 hS, r_160_13 hS, r_160_14 hS, r_160_15 hS, r_160_16 hS, r_160_17 hS, r_160_18 hS, r_160_19 hS, r_160_20 hS, r_160_21 hS, r_160_22 hS, r_160_23 hS, r_160_24 hS, r_160_25 hS, r_160_26 hS, r_160_27 hS, r_160_28 hS, r_160_29 hS, r_160_30 hS, r_160_31 hS, r_160_32 hS, r_160_33 hS, r_160_34 hS, r_160_35 hS, r_160_36 hS, r_160_37 hS, r_160_38 hS, r_160_39 hS, r_160_40 hS, r_160_41 hS, r_160_43 hS, r_160_45 hS, r_160_46 hS, r_160_48 hS, r_160_49 hS, r_160_50 hS, r_160_51 hS, r_160_52 hS, r_160_53 hS, r_160_54 hS, r_160_56 hS, r_160_63 hS, r_160_64 hS, r_160_65 hS, r_160_66 hS, r_160_67 hS, r_160_68 hS, r_160_69 hS, ol_s, ol_n, ln_0, ln_1, ln_2, ln_3, ln_4, eq_self, rf_s, rf_n, i01_0, i01_n0, i01_b, b01_0, b01_1, and_self, and_true, true_and, and_false, false_and, if_true, if_false, not_true_eq_false, not_false_eq_true, e10, e00, lt_bg, Nat.reduceLT, Nat.reduceLeDiff, N, w, y, wt]
    have w := bI_t q
    have y : nmA b l p 17 = te b l p := if_pos q
    obtain ⟨t1, t2, t3⟩ := te_b (b := b) hp
    obtain ⟨n1, n2, n3⟩ := nx_b (b := b) hp
    have n3 := n3 (nm_kd q)
    have K1 := (RR.refl hx).mv (a := te b l p) (p := nx b l p) rfl t2 rfl
    have X1 : RX b l (nx b l p) o ver n (am_u σ 160 57 (nI (te b l p))) := K1.rx rfl hx
    obtain ⟨s2, K2, R2⟩ := H (nx b l p) n _ n2 (by omega) X1 (K1.bg hb)
    obtain ⟨w1, w2, w3⟩ := W (nx b l p) n2
    have K2' := K1.seq rfl K2
    have K2' : RR b l ver σ s2 n o (one (nx b l p)) := K2'
    by_cases r : (one (nx b l p)).1 = true
    rotate_left
    · have u : pTl b l one 17 (3, 0, 0, 0) (f + 1) p = (false, (one (nx b l p)).2.1, []) := by
        show (if nm b l p 17 = true then _ else _) = _
        rw [if_pos q, if_neg r]
      have rb : bI (one (nx b l p)).1 = 0 := if_neg r
      rw [u]
      refine ⟨s2, K2'.fail r, fun d g Q => ?_⟩
      simp only [s196_9, s196_10, s196_13, s196_16, s196_19, s196_20, s196_23, s196_26, s196_27, k_160 hS, k_161 hS, l_161 hS, k_162 hS, l_162 hS, k_163 hS, l_163 hS, k_164 hS, l_164 hS, k_165 hS, l_165 hS, k_166 hS, l_166 hS, k_167 hS, l_167 hS, k_168 hS, l_168 hS, k_169 hS, l_169 hS, k_170 hS, l_170 hS, k_171 hS, l_171 hS, k_172 hS, l_172 hS, k_173 hS, l_173 hS, k_174 hS, l_174 hS, k_175 hS, l_175 hS, k_176 hS, l_176 hS, k_177 hS, l_177 hS, k_178 hS, l_178 hS, k_179 hS, l_179 hS, k_180 hS, l_180 hS, k_181 hS, l_181 hS, k_182 hS, l_182 hS, k_183 hS, l_183 hS, k_184 hS, l_184 hS, k_185 hS, l_185 hS, k_186 hS, l_186 hS, k_187 hS, l_187 hS, k_188 hS, l_188 hS, k_189 hS, l_189 hS, k_190 hS, l_190 hS, k_191 hS, l_191 hS, k_192 hS, l_192 hS, k_193 hS, l_193 hS, k_194 hS, l_194 hS, k_195 hS, l_195 hS, k_196 hS, l_196 hS, k_197 hS, l_197 hS, k_198 hS, l_198 hS, k_199 hS, l_199 hS, k_200 hS, l_200 hS, k_201 hS, l_201 hS, k_202 hS, l_202 hS, k_203 hS, l_203 hS, k_204 hS, l_204 hS, k_205 hS, l_205 hS, k_206 hS, l_206 hS, k_207 hS, l_207 hS, k_208 hS, l_208 hS, k_209 hS, l_209 hS, k_210 hS, l_210 hS, k_211 hS, l_211 hS, k_212 hS, l_212 hS, k_213 hS, l_213 hS, k_214 hS, l_214 hS, k_215 hS, l_215 hS, k_216 hS, l_216 hS, k_217 hS, l_217 hS, k_218 hS, l_218 hS, k_219 hS, l_219 hS, k_220 hS, l_220 hS, r_160_0 hS, r_160_1 hS, r_160_2 hS, r_160_3 hS, r_160_4 hS, r_160_5 hS, r_160_6 hS, r_160_7 hS, r_160_8 hS, r_160_9 hS, r_160_10 hS, r_160_11 hS, r_160_12 hS, r_160_13 hS, r_160_14 hS, r_160_15 hS, r_160_16 hS, r_160_17 hS, r_160_18 hS, r_160_19 hS, r_160_20 hS, r_160_21 hS, r_160_22 hS, r_160_23 hS, r_160_24 hS, r_160_25 hS, r_160_26 hS, r_160_27 hS, r_160_28 hS, r_160_29 hS, r_160_30 hS, r_160_31 hS, r_160_32 hS, r_160_33 hS, r_160_34 hS, r_160_35 hS, r_160_36 hS, r_160_37 hS, r_160_38 hS, r_160_39 hS, r_160_40 hS, r_160_41 hS, r_160_43 hS, r_160_45 hS, r_160_46 hS, r_160_48 hS, r_160_49 hS, r_160_50 hS, r_160_51 hS, r_160_52 hS, r_160_53 hS, r_160_54 hS, r_160_56 hS, r_160_63 hS, r_160_64 hS, r_160_65 hS, r_160_66 hS, r_160_67 hS, r_160_68 hS, r_160_69 hS, ol_s, ol_n, ln_0, ln_1, ln_2, ln_3, ln_4, eq_self, rf_s, rf_n, i01_0, i01_n0, i01_b, b01_0, b01_1, and_self, and_true, true_and, and_false, false_and, if_true, if_false, not_true_eq_false, not_false_eq_true, e10, e00, lt_bg, Nat.reduceLT, Nat.reduceLeDiff, N, w, y, R2, rb, wf]
    have rb := bI_t r
    have u : pTl b l one 17 (3, 0, 0, 0) (f + 1) p = ((pTl b l one 17 (3, 0, 0, 0) f (one (nx b l p)).2.1).1, (pTl b l one 17 (3, 0, 0, 0) f (one (nx b l p)).2.1).2.1, (one (nx b l p)).2.2 ++ (3, 0, 0, 0) :: (pTl b l one 17 (3, 0, 0, 0) f (one (nx b l p)).2.1).2.2) := by
      show (if nm b l p 17 = true then _ else _) = _
      rw [if_pos q, if_pos r]
    obtain ⟨y1, y2, y3, y4⟩ := w3 r
    have X2 := K2'.rx r hx
    have et : nI (tk_M (3, 0, 0, 0)) = (4000000 : Int32) := by decide
    have A := fun (d : Nat) (g : am_J) (Q : am_Q) => c192 (d := d) (ρ := ρ) (g := g) (Q := Q) hS (ver := ver) (n := n + (one (nx b l p)).2.2.length) hv8 (by omega) X2.2.2.2.2.1 X2.2.2.2.2.2 (v := 4000000)
    have K3 := K2'.push (t := (3, 0, 0, 0)) r
    rw [et] at K3
    generalize am_u (am_u s2 187 (256 * ver + (n + (one (nx b l p)).2.2.length)) 4000000) 160 61 (nI (n + (one (nx b l p)).2.2.length + 1)) = s3 at A K3
    have X3 := K3.rx rfl hx
    obtain ⟨s4, K4, R4⟩ := ih (one (nx b l p)).2.1 (n + ((one (nx b l p)).2.2 ++ [(3, 0, 0, 0)]).length) s3 (by omega) w2 (by rw [List.length_append]; show n + ((one (nx b l p)).2.2.length + 1) < _; omega) X3 (K3.bg hb)
    have K5 := K3.seq rfl K4
    have ea : ((one (nx b l p)).2.2 ++ [(3, 0, 0, 0)]) ++ (pTl b l one 17 (3, 0, 0, 0) f (one (nx b l p)).2.1).2.2 = (one (nx b l p)).2.2 ++ (3, 0, 0, 0) :: (pTl b l one 17 (3, 0, 0, 0) f (one (nx b l p)).2.1).2.2 := List.append_assoc _ _ _
    have K5 : RR b l ver σ s4 n o ((pTl b l one 17 (3, 0, 0, 0) f (one (nx b l p)).2.1).1, (pTl b l one 17 (3, 0, 0, 0) f (one (nx b l p)).2.1).2.1, ((one (nx b l p)).2.2 ++ [(3, 0, 0, 0)]) ++ (pTl b l one 17 (3, 0, 0, 0) f (one (nx b l p)).2.1).2.2) := K5
    rw [ea] at K5
    rw [u]
    refine ⟨s4, K5, fun d g Q => ?_⟩
    rw [s196_9]
    simp only [s196_10, s196_13, s196_16, s196_19, s196_20, s196_23, s196_26, s196_27, s196_28, s196_29, s196_32, s196_35, k_160 hS, k_161 hS, l_161 hS, k_162 hS, l_162 hS, k_163 hS, l_163 hS, k_164 hS, l_164 hS, k_165 hS, l_165 hS, k_166 hS, l_166 hS, k_167 hS, l_167 hS, k_168 hS, l_168 hS, k_169 hS, l_169 hS, k_170 hS, l_170 hS, k_171 hS, l_171 hS, k_172 hS, l_172 hS, k_173 hS, l_173 hS, k_174 hS, l_174 hS, k_175 hS, l_175 hS, k_176 hS, l_176 hS, k_177 hS, l_177 hS, k_178 hS, l_178 hS, k_179 hS, l_179 hS, k_180 hS, l_180 hS, k_181 hS, l_181 hS, k_182 hS, l_182 hS, k_183 hS, l_183 hS, k_184 hS, l_184 hS, k_185 hS, l_185 hS, k_186 hS, l_186 hS, k_187 hS, l_187 hS, k_188 hS, l_188 hS, k_189 hS, l_189 hS, k_190 hS, l_190 hS, k_191 hS, l_191 hS, k_192 hS, l_192 hS, k_193 hS, l_193 hS, k_194 hS, l_194 hS, k_195 hS, l_195 hS, k_196 hS, l_196 hS, k_197 hS, l_197 hS, k_198 hS, l_198 hS, k_199 hS, l_199 hS, k_200 hS, l_200 hS, k_201 hS, l_201 hS, k_202 hS, l_202 hS, k_203 hS, l_203 hS, k_204 hS, l_204 hS, k_205 hS, l_205 hS, k_206 hS, l_206 hS, k_207 hS, l_207 hS, k_208 hS, l_208 hS, k_209 hS, l_209 hS, k_210 hS, l_210 hS, k_211 hS, l_211 hS, k_212 hS, l_212 hS, k_213 hS, l_213 hS, k_214 hS, l_214 hS, k_215 hS, l_215 hS, k_216 hS, l_216 hS, k_217 hS, l_217 hS, k_218 hS, l_218 hS, k_219 hS, l_219 hS, k_220 hS, l_220 hS, r_160_0 hS, r_160_1 hS, r_160_2 hS, r_160_3 hS, r_160_4 hS, r_160_5 hS, r_160_6 hS, r_160_7 hS, r_160_8 hS, r_160_9 hS, r_160_10 hS, r_160_11 hS, r_160_12 hS, r_160_13 hS, r_160_14 hS, r_160_15 hS, r_160_16 hS, r_160_17 hS, r_160_18 hS, r_160_19 hS, r_160_20 hS, r_160_21 hS, r_160_22 hS, r_160_23 hS, r_160_24 hS, r_160_25 hS, r_160_26 hS, r_160_27 hS, r_160_28 hS, r_160_29 hS, r_160_30 hS, r_160_31 hS, r_160_32 hS, r_160_33 hS, r_160_34 hS, r_160_35 hS, r_160_36 hS, r_160_37 hS, r_160_38 hS, r_160_39 hS, r_160_40 hS, r_160_41 hS, r_160_43 hS, r_160_45 hS, r_160_46 hS, r_160_48 hS, r_160_49 hS, r_160_50 hS, r_160_51 hS, r_160_52 hS, r_160_53 hS, r_160_54 hS, r_160_56 hS, r_160_63 hS, r_160_64 hS, r_160_65 hS, r_160_66 hS, r_160_67 hS, r_160_68 hS, r_160_69 hS, ol_s, ol_n, ln_0, ln_1, ln_2, ln_3, ln_4, eq_self, rf_s, rf_n, i01_0, i01_n0, i01_b, b01_0, b01_1, and_self, and_true, true_and, and_false, false_and, if_true, if_false, not_true_eq_false, not_false_eq_true, e10, e00, lt_bg, Nat.reduceLT, Nat.reduceLeDiff, N, w, y, R2, rb, A]
    exact R4 d g Q
theorem c196 (hS : Sh ρ τ) {b : Nat → Nat} {l E Hh o ver : Nat} (hv8 : ver ≤ 8) {one : Nat → Rs} (H : SR 197 [am_jk] E 9 one o ver b l ρ τ) (W : ∀ p, p ≤ l → Wf l Hh p (one p)) : SR 196 [] E 10 (pSq b l one 17 (3, 0, 0, 0)) o ver b l ρ τ := by
  intro p n σ hp hn hx hb
  obtain ⟨s1, K1, R1⟩ := H p n σ hp hn hx hb
  obtain ⟨w1, w2, w3⟩ := W p hp
  have wf : bI false = 0 := rfl
  by_cases r : (one p).1 = true
  rotate_left
  · have u : pSq b l one 17 (3, 0, 0, 0) p = (false, (one p).2.1, []) := if_neg r
    have rb : bI (one p).1 = 0 := if_neg r
    rw [u]
    refine ⟨s1, K1.fail r, fun d g Q => ?_⟩
    simp only [s196_0, s196_1, s196_4, s196_7, s196_8, k_160 hS, k_161 hS, l_161 hS, k_162 hS, l_162 hS, k_163 hS, l_163 hS, k_164 hS, l_164 hS, k_165 hS, l_165 hS, k_166 hS, l_166 hS, k_167 hS, l_167 hS, k_168 hS, l_168 hS, k_169 hS, l_169 hS, k_170 hS, l_170 hS, k_171 hS, l_171 hS, k_172 hS, l_172 hS, k_173 hS, l_173 hS, k_174 hS, l_174 hS, k_175 hS, l_175 hS, k_176 hS, l_176 hS, k_177 hS, l_177 hS, k_178 hS, l_178 hS, k_179 hS, l_179 hS, k_180 hS, l_180 hS, k_181 hS, l_181 hS, k_182 hS, l_182 hS, k_183 hS, l_183 hS, k_184 hS, l_184 hS, k_185 hS, l_185 hS, k_186 hS, l_186 hS, k_187 hS, l_187 hS, k_188 hS, l_188 hS, k_189 hS, l_189 hS, k_190 hS, l_190 hS, k_191 hS, l_191 hS, k_192 hS, l_192 hS, k_193 hS, l_193 hS, k_194 hS, l_194 hS, k_195 hS, l_195 hS, k_196 hS, l_196 hS, k_197 hS, l_197 hS, k_198 hS, l_198 hS, k_199 hS, l_199 hS, k_200 hS, l_200 hS, k_201 hS, l_201 hS, k_202 hS, l_202 hS, k_203 hS, l_203 hS, k_204 hS, l_204 hS, k_205 hS, l_205 hS, k_206 hS, l_206 hS, k_207 hS, l_207 hS, k_208 hS, l_208 hS, k_209 hS, l_209 hS, k_210 hS, l_210 hS, k_211 hS, l_211 hS, k_212 hS, l_212 hS, k_213 hS, l_213 hS, k_214 hS, l_214 hS, k_215 hS, l_215 hS, k_216 hS, l_216 hS, k_217 hS, l_217 hS, k_218 hS, l_218 hS, k_219 hS, l_219 hS, k_220 hS, l_220 hS, r_160_0 hS, r_160_1 hS, r_160_2 hS, r_160_3 hS, r_160_4 hS, r_160_5 hS, r_160_6 hS, r_160_7 hS, r_160_8 hS, r_160_9 hS, r_160_10 hS, r_160_11 hS, r_160_12 hS, r_160_13 hS, r_160_14 hS, r_160_15 hS, r_160_16 hS, r_160_17 hS, r_160_18 hS, r_160_19 hS, r_160_20 hS, r_160_21 hS, r_160_22 hS, r_160_23 hS, r_160_24 hS, r_160_25 hS, r_160_26 hS, r_160_27 hS, r_160_28 hS, r_160_29 hS, r_160_30 hS, r_160_31 hS, r_160_32 hS, r_160_33 hS, r_160_34 hS, r_160_35 hS, r_160_36 hS, r_160_37 hS, r_160_38 hS, r_160_39 hS, r_160_40 hS, r_160_41 hS, r_160_43 hS, r_160_45 hS, r_160_46 hS, r_160_48 hS, r_160_49 hS, r_160_50 hS, r_160_51 hS, r_160_52 hS, r_160_53 hS, r_160_54 hS, r_160_56 hS, r_160_63 hS, r_160_64 hS, r_160_65 hS, r_160_66 hS, r_160_67 hS, r_160_68 hS, r_160_69 hS, ol_s, ol_n, ln_0, ln_1, ln_2, ln_3, ln_4, eq_self, rf_s, rf_n, i01_0, i01_n0, i01_b, b01_0, b01_1, and_self, and_true, true_and, and_false, false_and, if_true, if_false, not_true_eq_false, not_false_eq_true, e10, e00, lt_bg, Nat.reduceLT, Nat.reduceLeDiff, R1, rb, wf]
  have rb := bI_t r
  have u : pSq b l one 17 (3, 0, 0, 0) p = ((pTl b l one 17 (3, 0, 0, 0) l (one p).2.1).1, (pTl b l one 17 (3, 0, 0, 0) l (one p).2.1).2.1, (one p).2.2 ++ (pTl b l one 17 (3, 0, 0, 0) l (one p).2.1).2.2) := if_pos r
  obtain ⟨y1, y2, y3, y4⟩ := w3 r
  obtain ⟨s2, K2, R2⟩ := c196L hS hv8 H W l (one p).2.1 (n + (one p).2.2.length) s1 (by omega) w2 (by omega) (K1.rx r hx) (K1.bg hb)
  rw [u]
  refine ⟨s2, K1.seq r K2, fun d g Q => ?_⟩
  have R2 := R2 d g Q
  simp only [s196_0, s196_1, s196_4, k_160 hS, k_161 hS, l_161 hS, k_162 hS, l_162 hS, k_163 hS, l_163 hS, k_164 hS, l_164 hS, k_165 hS, l_165 hS, k_166 hS, l_166 hS, k_167 hS, l_167 hS, k_168 hS, l_168 hS, k_169 hS, l_169 hS, k_170 hS, l_170 hS, k_171 hS, l_171 hS, k_172 hS, l_172 hS, k_173 hS, l_173 hS, k_174 hS, l_174 hS, k_175 hS, l_175 hS, k_176 hS, l_176 hS, k_177 hS, l_177 hS, k_178 hS, l_178 hS, k_179 hS, l_179 hS, k_180 hS, l_180 hS, k_181 hS, l_181 hS, k_182 hS, l_182 hS, k_183 hS, l_183 hS, k_184 hS, l_184 hS, k_185 hS, l_185 hS, k_186 hS, l_186 hS, k_187 hS, l_187 hS, k_188 hS, l_188 hS, k_189 hS, l_189 hS, k_190 hS, l_190 hS, k_191 hS, l_191 hS, k_192 hS, l_192 hS, k_193 hS, l_193 hS, k_194 hS, l_194 hS, k_195 hS, l_195 hS, k_196 hS, l_196 hS, k_197 hS, l_197 hS, k_198 hS, l_198 hS, k_199 hS, l_199 hS, k_200 hS, l_200 hS, k_201 hS, l_201 hS, k_202 hS, l_202 hS, k_203 hS, l_203 hS, k_204 hS, l_204 hS, k_205 hS, l_205 hS, k_206 hS, l_206 hS, k_207 hS, l_207 hS, k_208 hS, l_208 hS, k_209 hS, l_209 hS, k_210 hS, l_210 hS, k_211 hS, l_211 hS, k_212 hS, l_212 hS, k_213 hS, l_213 hS, k_214 hS, l_214 hS, k_215 hS, l_215 hS, k_216 hS, l_216 hS, k_217 hS, l_217 hS, k_218 hS, l_218 hS, k_219 hS, l_219 hS, k_220 hS, l_220 hS, r_160_0 hS, r_160_1 hS, r_160_2 hS, r_160_3 hS, r_160_4 hS, r_160_5 hS, r_160_6 hS, r_160_7 hS, r_160_8 hS, r_160_9 hS, r_160_10 hS, r_160_11 hS, r_160_12 hS, r_160_13 hS, r_160_14 hS, r_160_15 hS, r_160_16 hS, r_160_17 hS, r_160_18 hS, r_160_19 hS, r_160_20 hS, r_160_21 hS, r_160_22 hS, r_160_23 hS, r_160_24 hS, r_160_25 hS, r_160_26 hS, r_160_27 hS, r_160_28 hS, r_160_29 hS, r_160_30 hS, r_160_31 hS, r_160_32 hS, r_160_33 hS, r_160_34 hS, r_160_35 hS, r_160_36 hS, r_160_37 hS, r_160_38 hS, r_160_39 hS, r_160_40 hS, r_160_41 hS, r_160_43 hS, r_160_45 hS, r_160_46 hS, r_160_48 hS, r_160_49 hS, r_160_50 hS, r_160_51 hS, r_160_52 hS, r_160_53 hS, r_160_54 hS, r_160_56 hS, r_160_63 hS, r_160_64 hS, r_160_65 hS, r_160_66 hS, r_160_67 hS, r_160_68 hS, r_160_69 hS, ol_s, ol_n, ln_0, ln_1, ln_2, ln_3, ln_4, eq_self, rf_s, rf_n, i01_0, i01_n0, i01_b, b01_0, b01_1, and_self, and_true, true_and, and_false, false_and, if_true, if_false, not_true_eq_false, not_false_eq_true, e10, e00, lt_bg, Nat.reduceLT, Nat.reduceLeDiff, R1, rb]
  exact R2
theorem c195L (hS : Sh ρ τ) {b : Nat → Nat} {l E Hh o ver : Nat} (hv8 : ver ≤ 8) {one : Nat → Rs} (H : SR 196 [] E 10 one o ver b l ρ τ) (W : ∀ p, p ≤ l → Wf l Hh p (one p)) : ∀ (f p n : Nat) (σ : am_I), l - p ≤ f → p ≤ l → n < p → RX b l p o ver n σ → Bgd σ τ → ∃ σ' : am_I, RR b l ver σ σ' n o (pTl b l one 18 (4, 0, 0, 0) f p) ∧ ∀ (d : Nat) (g : am_J) (Q : am_Q), AW (d + E + 11) 195 9 [.ref 160] [] σ ρ g τ Q = Q (some (.int (bI (pTl b l one 18 (4, 0, 0, 0) f p).1))) σ' ρ g τ := by
  intro f
  have wt : bI true = 1 := rfl
  have wf : bI false = 0 := rfl
  induction f with
  | zero =>
    intro p n σ hf hp hn hx hb
    obtain ⟨a, a1, a2, a3⟩ := hx.2.1
    have pp : sk b l p = p := by rw [← a3]; exact sk_sk a1
    have N := fun (d : Nat) (g : am_J) (Q : am_Q) => c189n (d := d) (g := g) (Q := Q) hS hb hx.1 a1 a2 (i := 18) (N := am_BG + 40) (by decide) rfl
    rw [a3] at N
    have nf : nm b l p 18 = false := decide_eq_false (fun z => by
      have := kd_0 (b := b) (l := l) (p := p) (by omega)
      omega)
    have w := bI_f nf
    have y : nmA b l p 18 = p := if_neg (by rw [nf]; decide)
    have u : pTl b l one 18 (4, 0, 0, 0) 0 p = (true, p, []) := rfl
    rw [u]
    refine ⟨am_u σ 160 57 (nI p), (RR.refl hx).mv rfl hp pp, fun d g Q => ?_⟩
    simp only [s195_9, s195_10, s195_13, s195_16, s195_38, s195_39, k_160 hS, k_161 hS, l_161 hS, k_162 hS, l_162 hS, k_163 hS, l_163 hS, k_164 hS, l_164 hS, k_165 hS, l_165 hS, k_166 hS, l_166 hS, k_167 hS, l_167 hS, k_168 hS, l_168 hS, k_169 hS, l_169 hS, k_170 hS, l_170 hS, k_171 hS, l_171 hS, k_172 hS, l_172 hS, k_173 hS, l_173 hS, k_174 hS, l_174 hS, k_175 hS, l_175 hS, k_176 hS, l_176 hS, k_177 hS, l_177 hS, k_178 hS, l_178 hS, k_179 hS, l_179 hS, k_180 hS, l_180 hS, k_181 hS, l_181 hS, k_182 hS, l_182 hS, k_183 hS, l_183 hS, k_184 hS, l_184 hS, k_185 hS, l_185 hS, k_186 hS, l_186 hS, k_187 hS, l_187 hS, k_188 hS, l_188 hS, k_189 hS, l_189 hS, k_190 hS, l_190 hS, k_191 hS, l_191 hS, k_192 hS, l_192 hS, k_193 hS, l_193 hS, k_194 hS, l_194 hS, k_195 hS, l_195 hS, k_196 hS, l_196 hS, k_197 hS, l_197 hS, k_198 hS, l_198 hS, k_199 hS, l_199 hS, k_200 hS, l_200 hS, k_201 hS, l_201 hS, k_202 hS, l_202 hS, k_203 hS, l_203 hS, k_204 hS, l_204 hS, k_205 hS, l_205 hS, k_206 hS, l_206 hS, k_207 hS, l_207 hS, k_208 hS, l_208 hS, k_209 hS, l_209 hS, k_210 hS, l_210 hS, k_211 hS, l_211 hS, k_212 hS, l_212 hS, k_213 hS, l_213 hS, k_214 hS, l_214 hS, k_215 hS, l_215 hS, k_216 hS, l_216 hS, k_217 hS, l_217 hS, k_218 hS, l_218 hS, k_219 hS, l_219 hS, k_220 hS, l_220 hS, r_160_0 hS, r_160_1 hS, r_160_2 hS, r_160_3 hS, r_160_4 hS, r_160_5 hS, r_160_6 hS, r_160_7 hS, r_160_8 hS, r_160_9 hS, r_160_10 hS, r_160_11 hS, r_160_12 hS, r_160_13 hS, r_160_14 hS, r_160_15 hS, r_160_16 hS, r_160_17 hS, r_160_18 hS, r_160_19 hS, r_160_20 hS, r_160_21 hS, r_160_22 hS, r_160_23 hS, r_160_24 hS, r_160_25 hS, r_160_26 hS, r_160_27 hS, r_160_28 hS, r_160_29 hS, r_160_30 hS, r_160_31 hS, r_160_32 hS, r_160_33 hS, r_160_34 hS, r_160_35 hS, r_160_36 hS, r_160_37 hS, r_160_38 hS, r_160_39 hS, r_160_40 hS, r_160_41 hS, r_160_43 hS, r_160_45 hS, r_160_46 hS, r_160_48 hS, r_160_49 hS, r_160_50 hS, r_160_51 hS, r_160_52 hS, r_160_53 hS, r_160_54 hS, r_160_56 hS, r_160_63 hS, r_160_64 hS, r_160_65 hS, r_160_66 hS, r_160_67 hS, r_160_68 hS, r_160_69 hS, ol_s, ol_n, ln_0, ln_1, ln_2, ln_3, ln_4, eq_self, rf_s, rf_n, i01_0, i01_n0, i01_b, b01_0, b01_1, and_self, and_true, true_and, and_false, false_and, if_true, if_false, not_true_eq_false, not_false_eq_true, e10, e00, lt_bg, Nat.reduceLT, Nat.reduceLeDiff, N, w, y, wt]
  | succ f ih =>
    intro p n σ hf hp hn hx hb
    have hl := hx.1.1
    obtain ⟨a, a1, a2, a3⟩ := hx.2.1
    have pp : sk b l p = p := by rw [← a3]; exact sk_sk a1
    have N := fun (d : Nat) (g : am_J) (Q : am_Q) => c189n (d := d) (g := g) (Q := Q) hS hb hx.1 a1 a2 (i := 18) (N := am_BG + 40) (by decide) rfl
    rw [a3] at N
    by_cases q : nm b l p 18 = true
    rotate_left
    · have w : bI (nm b l p 18) = 0 := if_neg q
      have y : nmA b l p 18 = p := if_neg q
      have u : pTl b l one 18 (4, 0, 0, 0) (f + 1) p = (true, p, []) := if_neg q
      rw [u]
      refine ⟨am_u σ 160 57 (nI p), (RR.refl hx).mv rfl hp pp, fun d g Q => ?_⟩
      simp only [s195_9, s195_10, s195_13, s195_16, s195_38, s195_39, k_160 hS, k_161 hS, l_161 hS, k_162 hS, l_162 hS, k_163 hS, l_163 hS, k_164 hS, l_164 hS, k_165 hS, l_165 hS, k_166 hS, l_166 hS, k_167 hS, l_167 hS, k_168 hS, l_168 hS, k_169 hS, l_169 hS, k_170 hS, l_170 hS, k_171 hS, l_171 hS, k_172 hS, l_172 hS, k_173 hS, l_173 hS, k_174 hS, l_174 hS, k_175 hS, l_175 hS, k_176 hS, l_176 hS, k_177 hS, l_177 hS, k_178 hS, l_178 hS, k_179 hS, l_179 hS, k_180 hS, l_180 hS, k_181 hS, l_181 hS, k_182 hS, l_182 hS, k_183 hS, l_183 hS, k_184 hS, l_184 hS, k_185 hS, l_185 hS, k_186 hS, l_186 hS, k_187 hS, l_187 hS, k_188 hS, l_188 hS, k_189 hS, l_189 hS, k_190 hS, l_190 hS, k_191 hS, l_191 hS, k_192 hS, l_192 hS, k_193 hS, l_193 hS, k_194 hS, l_194 hS, k_195 hS, l_195 hS, k_196 hS, l_196 hS, k_197 hS, l_197 hS, k_198 hS, l_198 hS, k_199 hS, l_199 hS, k_200 hS, l_200 hS, k_201 hS, l_201 hS, k_202 hS, l_202 hS, k_203 hS, l_203 hS, k_204 hS, l_204 hS, k_205 hS, l_205 hS, k_206 hS, l_206 hS, k_207 hS, l_207 hS, k_208 hS, l_208 hS, k_209 hS, l_209 hS, k_210 hS, l_210 hS, k_211 hS, l_211 hS, k_212 hS, l_212 hS, k_213 hS, l_213 hS, k_214 hS, l_214 hS, k_215 hS, l_215 hS, k_216 hS, l_216 hS, k_217 hS, l_217 hS, k_218 hS, l_218 hS, k_219 hS, l_219 hS, k_220 hS, l_220 hS, r_160_0 hS, r_160_1 hS, r_160_2 hS, r_160_3 hS, r_160_4 hS, r_160_5 hS, r_160_6 hS, r_160_7 hS, r_160_8 hS, r_160_9 hS, r_160_10 hS, r_160_11 hS, r_160_12 hS, r_160_13 hS, r_160_14 hS, r_160_15 hS, r_160_16 hS, r_160_17 hS, r_160_18 hS, r_160_19 hS, r_160_20 hS, r_160_21 hS, r_160_22 hS, r_160_23 hS, r_160_24 hS, r_160_25 hS, r_160_26 hS, r_160_27 hS, r_160_28 hS, r_160_29 hS, r_160_30 hS, r_160_31 hS, r_160_32 hS, r_160_33 hS, r_160_34 hS, r_160_35 hS, r_160_36 hS, r_160_37 hS, r_160_38 hS, r_160_39 hS, r_160_40 hS, r_160_41 hS, r_160_43 hS, r_160_45 hS, r_160_46 hS, r_160_48 hS, r_160_49 hS, r_160_50 hS, r_160_51 hS, r_160_52 hS, r_160_53 hS, r_160_54 hS, r_160_56 hS, r_160_63 hS, r_160_64 hS, r_160_65 hS, r_160_66 hS, r_160_67 hS, r_160_68 hS, r_160_69 hS, ol_s, ol_n, ln_0, ln_1, ln_2, ln_3, ln_4, eq_self, rf_s, rf_n, i01_0, i01_n0, i01_b, b01_0, b01_1, and_self, and_true, true_and, and_false, false_and, if_true, if_false, not_true_eq_false, not_false_eq_true, e10, e00, lt_bg, Nat.reduceLT, Nat.reduceLeDiff, N, w, y, wt]
    have w := bI_t q
    have y : nmA b l p 18 = te b l p := if_pos q
    obtain ⟨t1, t2, t3⟩ := te_b (b := b) hp
    obtain ⟨n1, n2, n3⟩ := nx_b (b := b) hp
    have n3 := n3 (nm_kd q)
    have K1 := (RR.refl hx).mv (a := te b l p) (p := nx b l p) rfl t2 rfl
    have X1 : RX b l (nx b l p) o ver n (am_u σ 160 57 (nI (te b l p))) := K1.rx rfl hx
    obtain ⟨s2, K2, R2⟩ := H (nx b l p) n _ n2 (by omega) X1 (K1.bg hb)
    obtain ⟨w1, w2, w3⟩ := W (nx b l p) n2
    have K2' := K1.seq rfl K2
    have K2' : RR b l ver σ s2 n o (one (nx b l p)) := K2'
    by_cases r : (one (nx b l p)).1 = true
    rotate_left
    · have u : pTl b l one 18 (4, 0, 0, 0) (f + 1) p = (false, (one (nx b l p)).2.1, []) := by
        show (if nm b l p 18 = true then _ else _) = _
        rw [if_pos q, if_neg r]
      have rb : bI (one (nx b l p)).1 = 0 := if_neg r
      rw [u]
      refine ⟨s2, K2'.fail r, fun d g Q => ?_⟩
      simp only [s195_9, s195_10, s195_13, s195_16, s195_19, s195_20, s195_23, s195_26, s195_27, k_160 hS, k_161 hS, l_161 hS, k_162 hS, l_162 hS, k_163 hS, l_163 hS, k_164 hS, l_164 hS, k_165 hS, l_165 hS, k_166 hS, l_166 hS, k_167 hS, l_167 hS, k_168 hS, l_168 hS, k_169 hS, l_169 hS, k_170 hS, l_170 hS, k_171 hS, l_171 hS, k_172 hS, l_172 hS, k_173 hS, l_173 hS, k_174 hS, l_174 hS, k_175 hS, l_175 hS, k_176 hS, l_176 hS, k_177 hS, l_177 hS, k_178 hS, l_178 hS, k_179 hS, l_179 hS, k_180 hS, l_180 hS, k_181 hS, l_181 hS, k_182 hS, l_182 hS, k_183 hS, l_183 hS, k_184 hS, l_184 hS, k_185 hS, l_185 hS, k_186 hS, l_186 hS, k_187 hS, l_187 hS, k_188 hS, l_188 hS, k_189 hS, l_189 hS, k_190 hS, l_190 hS, k_191 hS, l_191 hS, k_192 hS, l_192 hS, k_193 hS, l_193 hS, k_194 hS, l_194 hS, k_195 hS, l_195 hS, k_196 hS, l_196 hS, k_197 hS, l_197 hS, k_198 hS, l_198 hS, k_199 hS, l_199 hS, k_200 hS, l_200 hS, k_201 hS, l_201 hS, k_202 hS, l_202 hS, k_203 hS, l_203 hS, k_204 hS, l_204 hS, k_205 hS, l_205 hS, k_206 hS, l_206 hS, k_207 hS, l_207 hS, k_208 hS, l_208 hS, k_209 hS, l_209 hS, k_210 hS, l_210 hS, k_211 hS, l_211 hS, k_212 hS, l_212 hS, k_213 hS, l_213 hS, k_214 hS, l_214 hS, k_215 hS, l_215 hS, k_216 hS, l_216 hS, k_217 hS, l_217 hS, k_218 hS, l_218 hS, k_219 hS, l_219 hS, k_220 hS, l_220 hS, r_160_0 hS, r_160_1 hS, r_160_2 hS, r_160_3 hS, r_160_4 hS, r_160_5 hS, r_160_6 hS, r_160_7 hS, r_160_8 hS, r_160_9 hS, r_160_10 hS, r_160_11 hS, r_160_12 hS, r_160_13 hS, r_160_14 hS, r_160_15 hS, r_160_16 hS, r_160_17 hS, r_160_18 hS, r_160_19 hS, r_160_20 hS, r_160_21 hS, r_160_22 hS, r_160_23 hS, r_160_24 hS, r_160_25 hS, r_160_26 hS, r_160_27 hS, r_160_28 hS, r_160_29 hS, r_160_30 hS, r_160_31 hS, r_160_32 hS, r_160_33 hS, r_160_34 hS, r_160_35 hS, r_160_36 hS, r_160_37 hS, r_160_38 hS, r_160_39 hS, r_160_40 hS, r_160_41 hS, r_160_43 hS, r_160_45 hS, r_160_46 hS, r_160_48 hS, r_160_49 hS, r_160_50 hS, r_160_51 hS, r_160_52 hS, r_160_53 hS, r_160_54 hS, r_160_56 hS, r_160_63 hS, r_160_64 hS, r_160_65 hS, r_160_66 hS, r_160_67 hS, r_160_68 hS, r_160_69 hS, ol_s, ol_n, ln_0, ln_1, ln_2, ln_3, ln_4, eq_self, rf_s, rf_n, i01_0, i01_n0, i01_b, b01_0, b01_1, and_self, and_true, true_and, and_false, false_and, if_true, if_false, not_true_eq_false, not_false_eq_true, e10, e00, lt_bg, Nat.reduceLT, Nat.reduceLeDiff, N, w, y, R2, rb, wf]
    have rb := bI_t r
    have u : pTl b l one 18 (4, 0, 0, 0) (f + 1) p = ((pTl b l one 18 (4, 0, 0, 0) f (one (nx b l p)).2.1).1, (pTl b l one 18 (4, 0, 0, 0) f (one (nx b l p)).2.1).2.1, (one (nx b l p)).2.2 ++ (4, 0, 0, 0) :: (pTl b l one 18 (4, 0, 0, 0) f (one (nx b l p)).2.1).2.2) := by
      show (if nm b l p 18 = true then _ else _) = _
      rw [if_pos q, if_pos r]
    obtain ⟨y1, y2, y3, y4⟩ := w3 r
    have X2 := K2'.rx r hx
    have et : nI (tk_M (4, 0, 0, 0)) = (5000000 : Int32) := by decide
    have A := fun (d : Nat) (g : am_J) (Q : am_Q) => c192 (d := d) (ρ := ρ) (g := g) (Q := Q) hS (ver := ver) (n := n + (one (nx b l p)).2.2.length) hv8 (by omega) X2.2.2.2.2.1 X2.2.2.2.2.2 (v := 5000000)
    have K3 := K2'.push (t := (4, 0, 0, 0)) r
    rw [et] at K3
    generalize am_u (am_u s2 187 (256 * ver + (n + (one (nx b l p)).2.2.length)) 5000000) 160 61 (nI (n + (one (nx b l p)).2.2.length + 1)) = s3 at A K3
    have X3 := K3.rx rfl hx
    obtain ⟨s4, K4, R4⟩ := ih (one (nx b l p)).2.1 (n + ((one (nx b l p)).2.2 ++ [(4, 0, 0, 0)]).length) s3 (by omega) w2 (by rw [List.length_append]; show n + ((one (nx b l p)).2.2.length + 1) < _; omega) X3 (K3.bg hb)
    have K5 := K3.seq rfl K4
    have ea : ((one (nx b l p)).2.2 ++ [(4, 0, 0, 0)]) ++ (pTl b l one 18 (4, 0, 0, 0) f (one (nx b l p)).2.1).2.2 = (one (nx b l p)).2.2 ++ (4, 0, 0, 0) :: (pTl b l one 18 (4, 0, 0, 0) f (one (nx b l p)).2.1).2.2 := List.append_assoc _ _ _
    have K5 : RR b l ver σ s4 n o ((pTl b l one 18 (4, 0, 0, 0) f (one (nx b l p)).2.1).1, (pTl b l one 18 (4, 0, 0, 0) f (one (nx b l p)).2.1).2.1, ((one (nx b l p)).2.2 ++ [(4, 0, 0, 0)]) ++ (pTl b l one 18 (4, 0, 0, 0) f (one (nx b l p)).2.1).2.2) := K5
    rw [ea] at K5
    rw [u]
    refine ⟨s4, K5, fun d g Q => ?_⟩
    rw [s195_9]
    simp only [s195_10, s195_13, s195_16, s195_19, s195_20, s195_23, s195_26, s195_27, s195_28, s195_29, s195_32, s195_35, k_160 hS, k_161 hS, l_161 hS, k_162 hS, l_162 hS, k_163 hS, l_163 hS, k_164 hS, l_164 hS, k_165 hS, l_165 hS, k_166 hS, l_166 hS, k_167 hS, l_167 hS, k_168 hS, l_168 hS, k_169 hS, l_169 hS, k_170 hS, l_170 hS, k_171 hS, l_171 hS, k_172 hS, l_172 hS, k_173 hS, l_173 hS, k_174 hS, l_174 hS, k_175 hS, l_175 hS, k_176 hS, l_176 hS, k_177 hS, l_177 hS, k_178 hS, l_178 hS, k_179 hS, l_179 hS, k_180 hS, l_180 hS, k_181 hS, l_181 hS, k_182 hS, l_182 hS, k_183 hS, l_183 hS, k_184 hS, l_184 hS, k_185 hS, l_185 hS, k_186 hS, l_186 hS, k_187 hS, l_187 hS, k_188 hS, l_188 hS, k_189 hS, l_189 hS, k_190 hS, l_190 hS, k_191 hS, l_191 hS, k_192 hS, l_192 hS, k_193 hS, l_193 hS, k_194 hS, l_194 hS, k_195 hS, l_195 hS, k_196 hS, l_196 hS, k_197 hS, l_197 hS, k_198 hS, l_198 hS, k_199 hS, l_199 hS, k_200 hS, l_200 hS, k_201 hS, l_201 hS, k_202 hS, l_202 hS, k_203 hS, l_203 hS, k_204 hS, l_204 hS, k_205 hS, l_205 hS, k_206 hS, l_206 hS, k_207 hS, l_207 hS, k_208 hS, l_208 hS, k_209 hS, l_209 hS, k_210 hS, l_210 hS, k_211 hS, l_211 hS, k_212 hS, l_212 hS, k_213 hS, l_213 hS, k_214 hS, l_214 hS, k_215 hS, l_215 hS, k_216 hS, l_216 hS, k_217 hS, l_217 hS, k_218 hS, l_218 hS, k_219 hS, l_219 hS, k_220 hS, l_220 hS, r_160_0 hS, r_160_1 hS, r_160_2 hS, r_160_3 hS, r_160_4 hS, r_160_5 hS, r_160_6 hS, r_160_7 hS, r_160_8 hS, r_160_9 hS, r_160_10 hS, r_160_11 hS, r_160_12 hS, r_160_13 hS, r_160_14 hS, r_160_15 hS, r_160_16 hS, r_160_17 hS, r_160_18 hS, r_160_19 hS, r_160_20 hS, r_160_21 hS, r_160_22 hS, r_160_23 hS, r_160_24 hS, r_160_25 hS, r_160_26 hS, r_160_27 hS, r_160_28 hS, r_160_29 hS, r_160_30 hS, r_160_31 hS, r_160_32 hS, r_160_33 hS, r_160_34 hS, r_160_35 hS, r_160_36 hS, r_160_37 hS, r_160_38 hS, r_160_39 hS, r_160_40 hS, r_160_41 hS, r_160_43 hS, r_160_45 hS, r_160_46 hS, r_160_48 hS, r_160_49 hS, r_160_50 hS, r_160_51 hS, r_160_52 hS, r_160_53 hS, r_160_54 hS, r_160_56 hS, r_160_63 hS, r_160_64 hS, r_160_65 hS, r_160_66 hS, r_160_67 hS, r_160_68 hS, r_160_69 hS, ol_s, ol_n, ln_0, ln_1, ln_2, ln_3, ln_4, eq_self, rf_s, rf_n, i01_0, i01_n0, i01_b, b01_0, b01_1, and_self, and_true, true_and, and_false, false_and, if_true, if_false, not_true_eq_false, not_false_eq_true, e10, e00, lt_bg, Nat.reduceLT, Nat.reduceLeDiff, N, w, y, R2, rb, A]
    exact R4 d g Q
theorem c195 (hS : Sh ρ τ) {b : Nat → Nat} {l E Hh o ver : Nat} (hv8 : ver ≤ 8) {one : Nat → Rs} (H : SR 196 [] E 10 one o ver b l ρ τ) (W : ∀ p, p ≤ l → Wf l Hh p (one p)) : SR 195 [] E 11 (pSq b l one 18 (4, 0, 0, 0)) o ver b l ρ τ := by
  intro p n σ hp hn hx hb
  obtain ⟨s1, K1, R1⟩ := H p n σ hp hn hx hb
  obtain ⟨w1, w2, w3⟩ := W p hp
  have wf : bI false = 0 := rfl
  by_cases r : (one p).1 = true
  rotate_left
  · have u : pSq b l one 18 (4, 0, 0, 0) p = (false, (one p).2.1, []) := if_neg r
    have rb : bI (one p).1 = 0 := if_neg r
    rw [u]
    refine ⟨s1, K1.fail r, fun d g Q => ?_⟩
    simp only [s195_0, s195_1, s195_4, s195_7, s195_8, k_160 hS, k_161 hS, l_161 hS, k_162 hS, l_162 hS, k_163 hS, l_163 hS, k_164 hS, l_164 hS, k_165 hS, l_165 hS, k_166 hS, l_166 hS, k_167 hS, l_167 hS, k_168 hS, l_168 hS, k_169 hS, l_169 hS, k_170 hS, l_170 hS, k_171 hS, l_171 hS, k_172 hS, l_172 hS, k_173 hS, l_173 hS, k_174 hS, l_174 hS, k_175 hS, l_175 hS, k_176 hS, l_176 hS, k_177 hS, l_177 hS, k_178 hS, l_178 hS, k_179 hS, l_179 hS, k_180 hS, l_180 hS, k_181 hS, l_181 hS, k_182 hS, l_182 hS, k_183 hS, l_183 hS, k_184 hS, l_184 hS, k_185 hS, l_185 hS, k_186 hS, l_186 hS, k_187 hS, l_187 hS, k_188 hS, l_188 hS, k_189 hS, l_189 hS, k_190 hS, l_190 hS, k_191 hS, l_191 hS, k_192 hS, l_192 hS, k_193 hS, l_193 hS, k_194 hS, l_194 hS, k_195 hS, l_195 hS, k_196 hS, l_196 hS, k_197 hS, l_197 hS, k_198 hS, l_198 hS, k_199 hS, l_199 hS, k_200 hS, l_200 hS, k_201 hS, l_201 hS, k_202 hS, l_202 hS, k_203 hS, l_203 hS, k_204 hS, l_204 hS, k_205 hS, l_205 hS, k_206 hS, l_206 hS, k_207 hS, l_207 hS, k_208 hS, l_208 hS, k_209 hS, l_209 hS, k_210 hS, l_210 hS, k_211 hS, l_211 hS, k_212 hS, l_212 hS, k_213 hS, l_213 hS, k_214 hS, l_214 hS, k_215 hS, l_215 hS, k_216 hS, l_216 hS, k_217 hS, l_217 hS, k_218 hS, l_218 hS, k_219 hS, l_219 hS, k_220 hS, l_220 hS, r_160_0 hS, r_160_1 hS, r_160_2 hS, r_160_3 hS, r_160_4 hS, r_160_5 hS, r_160_6 hS, r_160_7 hS, r_160_8 hS, r_160_9 hS, r_160_10 hS, r_160_11 hS, r_160_12 hS, r_160_13 hS, r_160_14 hS, r_160_15 hS, r_160_16 hS, r_160_17 hS, r_160_18 hS, r_160_19 hS, r_160_20 hS, r_160_21 hS, r_160_22 hS, r_160_23 hS, r_160_24 hS, r_160_25 hS, r_160_26 hS, r_160_27 hS, r_160_28 hS, r_160_29 hS, r_160_30 hS, r_160_31 hS, r_160_32 hS, r_160_33 hS, r_160_34 hS, r_160_35 hS, r_160_36 hS, r_160_37 hS, r_160_38 hS, r_160_39 hS, r_160_40 hS, r_160_41 hS, r_160_43 hS, r_160_45 hS, r_160_46 hS, r_160_48 hS, r_160_49 hS, r_160_50 hS, r_160_51 hS, r_160_52 hS, r_160_53 hS, r_160_54 hS, r_160_56 hS, r_160_63 hS, r_160_64 hS, r_160_65 hS, r_160_66 hS, r_160_67 hS, r_160_68 hS, r_160_69 hS, ol_s, ol_n, ln_0, ln_1, ln_2, ln_3, ln_4, eq_self, rf_s, rf_n, i01_0, i01_n0, i01_b, b01_0, b01_1, and_self, and_true, true_and, and_false, false_and, if_true, if_false, not_true_eq_false, not_false_eq_true, e10, e00, lt_bg, Nat.reduceLT, Nat.reduceLeDiff, R1, rb, wf]
  have rb := bI_t r
  have u : pSq b l one 18 (4, 0, 0, 0) p = ((pTl b l one 18 (4, 0, 0, 0) l (one p).2.1).1, (pTl b l one 18 (4, 0, 0, 0) l (one p).2.1).2.1, (one p).2.2 ++ (pTl b l one 18 (4, 0, 0, 0) l (one p).2.1).2.2) := if_pos r
  obtain ⟨y1, y2, y3, y4⟩ := w3 r
  obtain ⟨s2, K2, R2⟩ := c195L hS hv8 H W l (one p).2.1 (n + (one p).2.2.length) s1 (by omega) w2 (by omega) (K1.rx r hx) (K1.bg hb)
  rw [u]
  refine ⟨s2, K1.seq r K2, fun d g Q => ?_⟩
  have R2 := R2 d g Q
  simp only [s195_0, s195_1, s195_4, k_160 hS, k_161 hS, l_161 hS, k_162 hS, l_162 hS, k_163 hS, l_163 hS, k_164 hS, l_164 hS, k_165 hS, l_165 hS, k_166 hS, l_166 hS, k_167 hS, l_167 hS, k_168 hS, l_168 hS, k_169 hS, l_169 hS, k_170 hS, l_170 hS, k_171 hS, l_171 hS, k_172 hS, l_172 hS, k_173 hS, l_173 hS, k_174 hS, l_174 hS, k_175 hS, l_175 hS, k_176 hS, l_176 hS, k_177 hS, l_177 hS, k_178 hS, l_178 hS, k_179 hS, l_179 hS, k_180 hS, l_180 hS, k_181 hS, l_181 hS, k_182 hS, l_182 hS, k_183 hS, l_183 hS, k_184 hS, l_184 hS, k_185 hS, l_185 hS, k_186 hS, l_186 hS, k_187 hS, l_187 hS, k_188 hS, l_188 hS, k_189 hS, l_189 hS, k_190 hS, l_190 hS, k_191 hS, l_191 hS, k_192 hS, l_192 hS, k_193 hS, l_193 hS, k_194 hS, l_194 hS, k_195 hS, l_195 hS, k_196 hS, l_196 hS, k_197 hS, l_197 hS, k_198 hS, l_198 hS, k_199 hS, l_199 hS, k_200 hS, l_200 hS, k_201 hS, l_201 hS, k_202 hS, l_202 hS, k_203 hS, l_203 hS, k_204 hS, l_204 hS, k_205 hS, l_205 hS, k_206 hS, l_206 hS, k_207 hS, l_207 hS, k_208 hS, l_208 hS, k_209 hS, l_209 hS, k_210 hS, l_210 hS, k_211 hS, l_211 hS, k_212 hS, l_212 hS, k_213 hS, l_213 hS, k_214 hS, l_214 hS, k_215 hS, l_215 hS, k_216 hS, l_216 hS, k_217 hS, l_217 hS, k_218 hS, l_218 hS, k_219 hS, l_219 hS, k_220 hS, l_220 hS, r_160_0 hS, r_160_1 hS, r_160_2 hS, r_160_3 hS, r_160_4 hS, r_160_5 hS, r_160_6 hS, r_160_7 hS, r_160_8 hS, r_160_9 hS, r_160_10 hS, r_160_11 hS, r_160_12 hS, r_160_13 hS, r_160_14 hS, r_160_15 hS, r_160_16 hS, r_160_17 hS, r_160_18 hS, r_160_19 hS, r_160_20 hS, r_160_21 hS, r_160_22 hS, r_160_23 hS, r_160_24 hS, r_160_25 hS, r_160_26 hS, r_160_27 hS, r_160_28 hS, r_160_29 hS, r_160_30 hS, r_160_31 hS, r_160_32 hS, r_160_33 hS, r_160_34 hS, r_160_35 hS, r_160_36 hS, r_160_37 hS, r_160_38 hS, r_160_39 hS, r_160_40 hS, r_160_41 hS, r_160_43 hS, r_160_45 hS, r_160_46 hS, r_160_48 hS, r_160_49 hS, r_160_50 hS, r_160_51 hS, r_160_52 hS, r_160_53 hS, r_160_54 hS, r_160_56 hS, r_160_63 hS, r_160_64 hS, r_160_65 hS, r_160_66 hS, r_160_67 hS, r_160_68 hS, r_160_69 hS, ol_s, ol_n, ln_0, ln_1, ln_2, ln_3, ln_4, eq_self, rf_s, rf_n, i01_0, i01_n0, i01_b, b01_0, b01_1, and_self, and_true, true_and, and_false, false_and, if_true, if_false, not_true_eq_false, not_false_eq_true, e10, e00, lt_bg, Nat.reduceLT, Nat.reduceLeDiff, R1, rb]
  exact R2
theorem c198k (hS : Sh ρ τ) {b : Nat → Nat} {l ver : Nat} (hv8 : ver ≤ 8) : ∀ k, k ≤ 4 → SR 198 [am_jk, am_jk, am_jk] (dq k) 8 (pB b l (pcI b l k)) (4 - k) ver b l ρ τ
  | 0, _ => c198z hS hv8
  | k + 1, hk => by
    have I := c198k hS (b := b) (l := l) hv8 k (by omega)
    have A := c197 hS hv8 I (fun p h1 h2 => pcI_wf k p h1 h2)
    have B := c196 hS hv8 A (fun p hp => pcO_wf hp)
    have C := c195 hS hv8 B (fun p hp => pcA_wf hp)
    have e : 4 - k = 4 - (k + 1) + 1 := by omega
    rw [e] at C
    have D := c198s hS (o := 4 - (k + 1)) (by omega) hv8 C (fun p hp => pcC_wf hp)
    intro p n σ hp hn hx hb
    obtain ⟨s', K, R⟩ := D p n σ hp hn hx hb
    refine ⟨s', K, fun d g Q => ?_⟩
    have e2 : d + dq (k + 1) + 8 = d + dq k + 12 := by
      show d + (dq k + 4) + 8 = d + dq k + 12
      omega
    rw [e2]
    exact R d g Q
theorem c195k (hS : Sh ρ τ) {b : Nat → Nat} {l ver : Nat} (hv8 : ver ≤ 8) : SR 195 [] 16 11 (pcC b l 4) 0 ver b l ρ τ := by
  have I := c198k hS (b := b) (l := l) hv8 4 (by decide)
  have A := c197 hS hv8 I (fun p h1 h2 => pcI_wf 4 p h1 h2)
  have B := c196 hS hv8 A (fun p hp => pcO_wf hp)
  exact c195 hS hv8 B (fun p hp => pcA_wf hp)
end ODB
