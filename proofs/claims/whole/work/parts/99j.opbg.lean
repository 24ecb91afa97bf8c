/-! shares of a pot: the reference, whole -/
section SHP3
variable (W K : Nat → Nat)
theorem shSt_0 {r : Nat} (hr : r ≤ 9) {G : Nat → Nat} (h10 : ∀ j, 16 ≤ j → K j = 10) (hz : ∀ j, K j = r → G j = 0) : shSt W K r 0 G = (0, G) := by
  unfold shSt
  by_cases q : shAll W K r 16 ≤ 0
  · rw [if_pos q]
    refine Prod.ext (Nat.zero_sub _) (funext (fun j => ?_))
    show (if K j = r then W j else G j) = G j
    by_cases e : K j = r
    · rw [if_pos e, hz j e]
      by_cases hj : j < 16
      · have := shAll_mono (W := W) (K := K) (r := r) 16 j hj e
        omega
      · have := h10 j (by omega)
        omega
    · rw [if_neg e]
  · rw [if_neg q, Nat.zero_sub]
    have e : (fun j => if K j = r then W j * 0 / shAll W K r 16 else G j) = G := by
      funext j
      by_cases e : K j = r
      · rw [if_pos e, hz j e, Nat.mul_zero, Nat.zero_div]
      · rw [if_neg e]
    rw [e, shTp_0]
theorem shIt_0 {G : Nat → Nat} (h10 : ∀ j, 16 ≤ j → K j = 10) : ∀ n r, r + n ≤ 10 → (∀ j, r ≤ K j → K j ≤ 9 → G j = 0) → shIt W K n r 0 G = (0, G)
  | 0, _, _, _ => rfl
  | n + 1, r, h, hz => by
    unfold shIt
    rw [shSt_0 W K (by omega) h10 (fun j e => hz j (by omega) (by omega))]
    exact shIt_0 h10 n (r + 1) (by omega) (fun j h1 h2 => hz j (by omega) h2)
end SHP3
section OBG
variable {d : Nat} {σ : am_I} {ρ : am_R} {g : am_J} {τ : am_T} {Q : am_Q}
theorem all_D {W K : Nat → Nat} {D r : Nat} (hr : r ≤ 9) (hD : D ≤ 16) (h10 : ∀ i, D ≤ i → K i = 10) : shAll W K r 16 = shAll W K r D :=
  sumN_tail 16 hD (fun i h1 _ => if_neg (by have := h10 i h1; omega))
theorem c217 (hS : Sh ρ τ) {W K : Nat → Nat} {D : Nat} (hK : KM σ W K D) {r R : Nat} (hr : r ≤ 9) (hR : R ≤ 15984) (hA : R < shAll W K r D) {G : Nat → Nat} {w : Nat → Int32} (hw : RGD w G D) (hG : ∀ j, G j ≤ W j) : ∃ w', RGD w' (shSt W K r R G).2 D ∧ ∀ (d : Nat) (g : am_J) (Q : am_Q), AW d 217 0 [.ref 160, .int (nI r), .int (nI R), .int (nI (shAll W K r D)), am_jk, am_jk] [] (am_ur σ 216 w) ρ g τ Q = Q none (am_ur σ 216 w') ρ g τ := by
  have hD := hK.2.2.2.1
  have h10 := hK.2.2.1
  have eA := all_D (W := W) hr hD h10
  have A2 : shAll W K r D ≤ 10998 * 16 := by
    have q : ∀ n, n ≤ D → shAll W K r n ≤ 10998 * n := by
      intro n
      induction n with
      | zero => exact fun _ => Nat.le_refl _
      | succ n ih =>
        intro hn
        have i1 := ih (by omega)
        have i2 := (hK.2.1 n (by omega)).1
        show shAll W K r n + (if K n = r then W n else 0) ≤ _
        split <;> omega
    have := q D (Nat.le_refl _)
    omega
  have hA0 : 0 < shAll W K r D := by omega
  obtain ⟨b1, b2⟩ := sh_round W K hA (fun j => if K j = r then W j * R / shAll W K r D else G j) (fun i hi e => if_pos e)
  obtain ⟨w1, P1, P2⟩ := c217a hS hK hr hR hA0 (by omega) b1 (G := G) D 0 w (by omega) (fun j hj => by
    dsimp only
    rw [if_neg (fun h => absurd h.1 (Nat.not_lt_zero _))]
    exact hw j hj)
  have gW : ∀ j, j < D → (fun j => if K j = r then W j * R / shAll W K r D else G j) j ≤ 10998 := fun j hj => by
    dsimp only
    have hWj := (hK.2.1 j hj).1
    split
    · refine Nat.le_trans (Nat.div_le_of_le_mul ?_) hWj
      rw [Nat.mul_comm]
      exact Nat.mul_le_mul_right _ (by omega)
    · exact Nat.le_trans (hG j) hWj
  have z0' : nI 0 = (0 : Int32) := rfl
  have s0 : R - sumN (fun j => if K j = r then W j * R / shAll W K r D else 0) 0 = R := Nat.sub_zero R
  rw [s0, z0'] at P2
  -- what it comes to, over sixteen places
  have eS : (shSt W K r R G).2 = (shTp W K r D 0 (R - sumN (fun i => if K i = r then W i * R / shAll W K r D else 0) D) (fun j => if K j = r then W j * R / shAll W K r D else G j)).2 := by
    unfold shSt
    rw [eA, if_neg (by omega)]
    have e1 : sumN (fun i => if K i = r then W i * R / shAll W K r D else 0) 16 = sumN (fun i => if K i = r then W i * R / shAll W K r D else 0) D := sumN_tail 16 hD (fun i h1 _ => if_neg (by have := h10 i h1; omega))
    have e2 : (16 : Nat) = D + (16 - D) := by omega
    show (shTp W K r 16 0 _ _).2 = _
    rw [e1, e2, shTp_app, shTp_full W K (r := r) (16 - D) (0 + D) _ _ (fun j h1 _ e => by have := h10 j (by omega); omega)]
  rw [eS]
  by_cases m0 : R - sumN (fun i => if K i = r then W i * R / shAll W K r D else 0) D = 0
  · rw [m0, shTp_0]
    refine ⟨w1, P1, fun d g Q => ?_⟩
    have P2 := P2 d g Q
    rw [m0] at P2
    have l : (nI 0 ≤ (0 : Int32)) = True := by decide
    simp only [s217_0, s217_1, s217_3, s217_4, P2, s217_71, s217_73, s217_146, ol_s, ol_n, ln_0, ln_1, ln_2, ln_3, ln_4, eq_self, rf_s, rf_n, i01_0, i01_n0, i01_b, b01_0, b01_1, and_self, and_true, true_and, and_false, false_and, if_true, if_false, not_true_eq_false, not_false_eq_true, e10, e00, lt_bg, Nat.reduceLT, Nat.reduceLeDiff, l]
  · obtain ⟨w2, P3, P4⟩ := c217b hS hK hr hR (A := shAll W K r D) D 0 (R - sumN (fun i => if K i = r then W i * R / shAll W K r D else 0) D) _ w1 (by omega) (by omega) P1 gW
    refine ⟨w2, P3, fun d g Q => ?_⟩
    have P2 := P2 d g Q
    have P4 := P4 d g Q
    rw [b2, z0'] at P4
    have l : ((0 : Int32) ≤ 0) = True := by decide
    have l2 : ¬ nI (R - sumN (fun i => if K i = r then W i * R / shAll W K r D else 0) D) ≤ 0 := nI_nle (by omega) (by omega)
    simp only [s217_0, s217_1, s217_3, s217_4, P2]
    rw [s217_71]
    simp only [s217_73, s217_76, s217_77, ol_s, ol_n, ln_0, ln_1, ln_2, ln_3, ln_4, eq_self, rf_s, rf_n, i01_0, i01_n0, i01_b, b01_0, b01_1, and_self, and_true, true_and, and_false, false_and, if_true, if_false, not_true_eq_false, not_false_eq_true, e10, e00, lt_bg, Nat.reduceLT, Nat.reduceLeDiff, l2, P4]
    simp only [s217_143]
    rw [s217_71]
    simp only [s217_73, s217_146, ol_s, ol_n, ln_0, ln_1, ln_2, ln_3, ln_4, eq_self, rf_s, rf_n, i01_0, i01_n0, i01_b, b01_0, b01_1, and_self, and_true, true_and, and_false, false_and, if_true, if_false, not_true_eq_false, not_false_eq_true, e10, e00, lt_bg, Nat.reduceLT, Nat.reduceLeDiff, l]
theorem c216L (hS : Sh ρ τ) {W K : Nat → Nat} {D : Nat} (hK : KM σ W K D) {x1 x2 x3 : Int32} : ∀ (n r R : Nat) (G : Nat → Nat) (w : Nat → Int32) (x6 x7 : Value), r + n = 10 → R ≤ 15984 → RGD w G D → (∀ j, r ≤ K j → K j ≤ 9 → G j = 0) → (∀ j, G j ≤ W j) → ∃ w', RGD w' (shIt W K n r R G).2 D ∧ ∀ (d : Nat) (g : am_J) (Q : am_Q), AW (d + 1) 216 119 [.ref 160, .int x1, .int x2, .int x3, .int (nI R), .int (nI r), x6, x7] [] (am_ur σ 216 w) ρ g τ Q = Q (some (.int (nI (shIt W K n r R G).1))) (am_ur σ 216 w') ρ g τ
  | 0, r, R, G, w, x6, x7, h, hR, hw, hz, hG => by
    have e : r = 10 := by omega
    subst e
    refine ⟨w, hw, fun d g Q => ?_⟩
    have hle : (10 : Int32) ≤ nI 10 := by decide
    simp only [s216_119, s216_121, s216_123, s216_251, s216_253, ol_s, ol_n, ln_0, ln_1, ln_2, ln_3, ln_4, eq_self, rf_s, rf_n, i01_0, i01_n0, i01_b, b01_0, b01_1, and_self, and_true, true_and, and_false, false_and, if_true, if_false, not_true_eq_false, not_false_eq_true, e10, e00, lt_bg, Nat.reduceLT, Nat.reduceLeDiff, hle, shIt]
  | n + 1, r, R, G, w, x6, x7, h, hR, hw, hz, hG => by
    have hD := hK.2.2.2.1
    have h10 := hK.2.2.1
    have hlt : ¬ 10 ≤ nI r := nI_ge (b := 10) (by omega) (by omega)
    have eA := all_D (W := W) (r := r) (by omega) hD h10
    have a0 : nI (shAll W K r 0) = (0 : Int32) := rfl
    have z0' : nI 0 = (0 : Int32) := rfl
    have B := fun (d : Nat) (g : am_J) (Q : am_Q) => c216b (d := d) (g := g) (Q := Q) hS hK (r := r) (by omega) (x1 := x1) (x2 := x2) (x3 := x3) (x4 := nI R) (w := w) D 0 (by omega)
    rw [a0, z0'] at B
    have A2 : shAll W K r D ≤ 10998 * 16 := by
      have q : ∀ n, n ≤ D → shAll W K r n ≤ 10998 * n := by
        intro n
        induction n with
        | zero => exact fun _ => Nat.le_refl _
        | succ n ih =>
          intro hn
          have i1 := ih (by omega)
          have i2 := (hK.2.1 n (by omega)).1
          show shAll W K r n + (if K n = r then W n else 0) ≤ _
          split <;> omega
      have := q D (Nat.le_refl _)
      omega
    unfold shIt
    by_cases q : shAll W K r D ≤ R
    · have q1 : nI (shAll W K r D) ≤ nI R := nI_le q (by omega)
      have eS : shSt W K r R G = (R - shAll W K r D, fun j => if K j = r then W j else G j) := by
        unfold shSt
        rw [eA, if_pos q]
      obtain ⟨s1, s2⟩ := shSt_le W K (r := r) (R := R) hG
      have s3 : ∀ j, r + 1 ≤ K j → K j ≤ 9 → (shSt W K r R G).2 j = 0 := fun j h1 h2 => by
        rw [shSt_ne W K (by omega)]
        exact hz j (by omega) h2
      rw [eS] at s1 s2 s3 ⊢
      obtain ⟨w1, P1, P2⟩ := c216c hS hK (r := r) (by omega) (x1 := x1) (x2 := x2) (x3 := x3) (x4 := nI R) (x6 := nI (shAll W K r D)) (G := G) D 0 w (by omega) (fun j hj => by
        dsimp only
        rw [if_neg (fun h => absurd h.1 (Nat.not_lt_zero _))]
        exact hw j hj)
      obtain ⟨w2, P3, P4⟩ := c216L hS hK (x1 := x1) (x2 := x2) (x3 := x3) n (r + 1) (R - shAll W K r D) (fun j => if K j = r then W j else G j) w1 (.int (nI (shAll W K r D))) (.int (nI D)) (by omega) (by omega) P1 s3 s2
      refine ⟨w2, P3, fun d g Q => ?_⟩
      have P2 := P2 (d + 1) g Q
      have P4 := P4 d g Q
      rw [z0'] at P2
      have sb : nI R - nI (shAll W K r D) = nI (R - shAll W K r D) := pk_sub q
      rw [s216_119]
      simp only [s216_121, s216_123, s216_126, s216_127, s216_129, s216_130, ol_s, ol_n, ln_0, ln_1, ln_2, ln_3, ln_4, eq_self, rf_s, rf_n, i01_0, i01_n0, i01_b, b01_0, b01_1, and_self, and_true, true_and, and_false, false_and, if_true, if_false, not_true_eq_false, not_false_eq_true, e10, e00, lt_bg, Nat.reduceLT, Nat.reduceLeDiff, hlt, B]
      simp only [s216_173, s216_175, s216_177, s216_180, s216_181, s216_183, s216_185, s216_187, s216_190, s216_191, s216_192, s216_193, ol_s, ol_n, ln_0, ln_1, ln_2, ln_3, ln_4, eq_self, rf_s, rf_n, i01_0, i01_n0, i01_b, b01_0, b01_1, and_self, and_true, true_and, and_false, false_and, if_true, if_false, not_true_eq_false, not_false_eq_true, e10, e00, lt_bg, Nat.reduceLT, Nat.reduceLeDiff, q1, P2]
      simp only [s216_238, s216_240, s216_242, s216_243, s216_245, s216_248, ol_s, ol_n, ln_0, ln_1, ln_2, ln_3, ln_4, eq_self, rf_s, rf_n, i01_0, i01_n0, i01_b, b01_0, b01_1, and_self, and_true, true_and, and_false, false_and, if_true, if_false, not_true_eq_false, not_false_eq_true, e10, e00, lt_bg, Nat.reduceLT, Nat.reduceLeDiff, sb, nI_1]
      exact P4
    · have q1 : ¬ nI (shAll W K r D) ≤ nI R := nI_ge (by omega) (by omega)
      obtain ⟨w1, P1, P2⟩ := c217 hS hK (r := r) (by omega) hR (by omega) hw hG
      have e1 : (shSt W K r R G).1 = 0 := by
        unfold shSt
        rw [eA, if_neg q]
      have s3 : ∀ j, r + 1 ≤ K j → K j ≤ 9 → (shSt W K r R G).2 j = 0 := fun j h1 h2 => by
        rw [shSt_ne W K (by omega)]
        exact hz j (by omega) h2
      have eI := shIt_0 W K (G := (shSt W K r R G).2) (fun j hj => h10 j (by omega)) n (r + 1) (by omega) s3
      rw [e1, eI]
      refine ⟨w1, P1, fun d g Q => ?_⟩
      rw [s216_119]
      simp only [s216_121, s216_123, s216_126, s216_127, s216_129, s216_130, ol_s, ol_n, ln_0, ln_1, ln_2, ln_3, ln_4, eq_self, rf_s, rf_n, i01_0, i01_n0, i01_b, b01_0, b01_1, and_self, and_true, true_and, and_false, false_and, if_true, if_false, not_true_eq_false, not_false_eq_true, e10, e00, lt_bg, Nat.reduceLT, Nat.reduceLeDiff, hlt, B]
      simp only [s216_173, s216_175, s216_177, s216_180, s216_181, s216_183, s216_185, s216_187, s216_190, s216_191, k_160 hS, k_161 hS, l_161 hS, k_162 hS, l_162 hS, k_163 hS, l_163 hS, k_164 hS, l_164 hS, k_165 hS, l_165 hS, k_166 hS, l_166 hS, k_167 hS, l_167 hS, k_168 hS, l_168 hS, k_169 hS, l_169 hS, k_170 hS, l_170 hS, k_171 hS, l_171 hS, k_172 hS, l_172 hS, k_173 hS, l_173 hS, k_174 hS, l_174 hS, k_175 hS, l_175 hS, k_176 hS, l_176 hS, k_177 hS, l_177 hS, k_178 hS, l_178 hS, k_179 hS, l_179 hS, k_180 hS, l_180 hS, k_181 hS, l_181 hS, k_182 hS, l_182 hS, k_183 hS, l_183 hS, k_184 hS, l_184 hS, k_185 hS, l_185 hS, k_186 hS, l_186 hS, k_187 hS, l_187 hS, k_188 hS, l_188 hS, k_189 hS, l_189 hS, k_190 hS, l_190 hS, k_191 hS, l_191 hS, k_192 hS, l_192 hS, k_193 hS, l_193 hS, k_194 hS, l_194 hS, k_195 hS, l_195 hS, k_196 hS, l_196 hS, k_197 hS, l_197 hS, k_198 hS, l_198 hS, k_199 hS, l_199 hS, k_200 hS, l_200 hS, k_201 hS, l_201 hS, k_202 hS, l_202 hS, k_203 hS, l_203 hS, k_204 hS, l_204 hS, k_205 hS, l_205 hS, k_206 hS, l_206 hS, k_207 hS, l_207 hS, k_208 hS, l_208 hS, k_209 hS, l_209 hS, k_210 hS, l_210 hS, k_211 hS, l_211 hS, k_212 hS, l_212 hS, k_213 hS, l_213 hS, k_214 hS, l_214 hS, k_215 hS, l_215 hS, k_216 hS, l_216 hS, k_217 hS, l_217 hS, k_218 hS, l_218 hS, k_219 hS, l_219 hS, k_220 hS, l_220 hS, r_160_0 hS, r_160_1 hS, r_160_2 hS, r_160_3 hS, r_160_4 hS, r_160_5 hS, r_160_6 hS, r_160_7 hS, r_160_8 hS, r_160_9 hS, r_160_10 hS, r_160_11 hS, r_160_12 hS, r_160_13 hS, r_160_14 hS, r_160_15 hS, r_160_16 hS, r_160_17 hS, r_160_18 hS, r_160_19 hS, r_160_20 hS, r_160_21 hS, r_160_22 hS, r_160_23 hS, r_160_24 hS, r_160_25 hS, r_160_26 hS, r_160_27 hS, r_160_28 hS, r_160_29 hS, r_160_30 hS, r_160_31 hS, r_160_32 hS, r_160_33 hS, r_160_34 hS, r_160_35 hS, r_160_36 hS, r_160_37 hS, r_160_38 hS, r_160_39 hS, r_160_40 hS, r_160_41 hS, r_160_43 hS, r_160_45 hS, r_160_46 hS, r_160_48 hS, r_160_49 hS, r_160_50 hS, r_160_51 hS, r_160_52 hS, r_160_53 hS, r_160_54 hS, r_160_56 hS, r_160_63 hS, r_160_64 hS, r_160_65 hS, r_160_66 hS, r_160_67 hS, r_160_68 hS, r_160_69 hS, ol_s, ol_n, ln_0, ln_1, ln_2, ln_3, ln_4, eq_self, rf_s, rf_n, i01_0, i01_n0, i01_b, b01_0, b01_1, and_self, and_true, true_and, and_false, false_and, if_true, if_false, not_true_eq_false, not_false_eq_true, e10, e00, lt_bg, Nat.reduceLT, Nat.reduceLeDiff, q1, P2]
      rfl
end OBG
