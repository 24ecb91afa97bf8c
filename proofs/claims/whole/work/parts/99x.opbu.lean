/-! a land is copied: the reference -/
section OBU
variable {d : Nat} {σ : am_I} {ρ : am_R} {g : am_J} {τ : am_T} {Q : am_Q}
theorem c266i {F T x y i L : Nat} (kF : τ.1 F = 22) (kT : τ.1 T = 22) (lF : τ.2.1 F = 40) (lT : τ.2.1 T = 40) (hi : i < 40) (rF : ρ F i = some x) (rT : ρ T i = some y) (kx : τ.1 x = 15) (ky : τ.1 y = 15) (lx : τ.2.1 x = L) (ly : τ.2.1 y = L) (hL : L ≤ 4096) (hy : y < 1000000) (nx : x ≠ y) : ∀ (n j : Nat) (σ : am_I), j + n = L → ∃ σ' : am_I, (∀ z, z ≠ y → σ' z = σ z) ∧ (∀ t, t < j → σ' y t = σ y t) ∧ (∀ t, j ≤ t → t < L → σ' y t = σ x t) ∧ ∀ (d : Nat) (g : am_J) (Q : am_Q), AW d 266 10 [.ref F, .ref T, .int (nI i), .int (nI j)] [] σ ρ g τ Q = AW d 266 34 [.ref F, .ref T, .int (nI i), .int (nI L)] [] σ' ρ g τ Q
  | 0, j, σ, h => by
    have e : j = L := by omega
    subst e
    have hle : nI j ≤ nI j := Int32.le_refl _
    have bi : am_inb (nI i) 40 = true := inb_n (by omega) (by decide)
    have ci : (nI i).toNatClampNeg = i := nI_clamp (by omega)
    refine ⟨σ, fun _ _ => rfl, fun _ _ => rfl, fun t h1 h2 => absurd h2 (by omega), fun d g Q => ?_⟩
    simp only [s266_10, s266_11, s266_12, s266_13, s266_14, s266_15, ol_s, ol_n, ln_0, ln_1, ln_2, ln_3, ln_4, eq_self, rf_s, rf_n, i01_0, i01_n0, i01_b, b01_0, b01_1, and_self, and_true, true_and, and_false, false_and, if_true, if_false, not_true_eq_false, not_false_eq_true, e10, e00, lt_bg, Nat.reduceLT, Nat.reduceLeDiff, kF, lF, bi, ci, rF, kx, lx, hle]
  | n + 1, j, σ, h => by
    have hlt : ¬ nI L ≤ nI j := nI_ge (by omega) (by omega)
    have bi : am_inb (nI i) 40 = true := inb_n (by omega) (by decide)
    have ci : (nI i).toNatClampNeg = i := nI_clamp (by omega)
    have bj : am_inb (nI j) L = true := inb_n (by omega) (by omega)
    have cj : (nI j).toNatClampNeg = j := nI_clamp (by omega)
    generalize e1 : am_u σ y j (σ x j) = s
    have F1 : ∀ z, z ≠ y → s z = σ z := fun z hz => by rw [← e1, u_ne _ _ _ _ hz]
    obtain ⟨s2, F2, G2, H2, R2⟩ := c266i kF kT lF lT hi rF rT kx ky lx ly hL hy nx n (j + 1) s (by omega)
    refine ⟨s2, fun z hz => by rw [F2 z hz, F1 z hz], fun t ht => ?_, fun t h1 h2 => ?_, fun d g Q => ?_⟩
    · rw [G2 t (by omega), ← e1, u_nk _ _ _ _ (by omega)]
    · by_cases q : t = j
      · subst q
        rw [G2 _ (by omega), ← e1, u_at]
      · rw [H2 t (by omega) h2, F1 x nx]
    · rw [s266_10]
      simp only [s266_11, s266_12, s266_13, s266_14, s266_15, s266_18, s266_19, s266_20, s266_21, s266_22, s266_23, s266_24, s266_25, s266_26, s266_27, s266_28, s266_31, ol_s, ol_n, ln_0, ln_1, ln_2, ln_3, ln_4, eq_self, rf_s, rf_n, i01_0, i01_n0, i01_b, b01_0, b01_1, and_self, and_true, true_and, and_false, false_and, if_true, if_false, not_true_eq_false, not_false_eq_true, e10, e00, lt_bg, Nat.reduceLT, Nat.reduceLeDiff, kF, lF, kT, lT, bi, ci, bj, cj, rF, rT, kx, lx, ky, ly, hy, hlt, e1, nI_1]
      exact R2 d g Q
theorem c266 {F T F0 T0 : Nat} {ln : Nat → Nat} (kF : τ.1 F = 22) (kT : τ.1 T = 22) (lF : τ.2.1 F = 40) (lT : τ.2.1 T = 40) (hr : ∀ k, k < 40 → (ρ F k = some (F0 + k) ∧ ρ T k = some (T0 + k)) ∧ (τ.1 (F0 + k) = 15 ∧ τ.1 (T0 + k) = 15) ∧ (τ.2.1 (F0 + k) = ln k ∧ τ.2.1 (T0 + k) = ln k) ∧ ln k ≤ 4096) (hT : T0 ≤ 900000) (hd : F0 + 40 ≤ T0 ∨ T0 + 40 ≤ F0) : ∀ (n i : Nat) (σ : am_I), i + n = 40 → ∃ σ' : am_I, (∀ z, z < T0 + i ∨ T0 + 40 ≤ z → σ' z = σ z) ∧ (∀ k, i ≤ k → k < 40 → ∀ t, t < ln k → σ' (T0 + k) t = σ (F0 + k) t) ∧ ∀ (d : Nat) (x3 : Value) (g : am_J) (Q : am_Q), AW d 266 2 [.ref F, .ref T, .int (nI i), x3] [] σ ρ g τ Q = Q none σ' ρ g τ
  | 0, i, σ, h => by
    have e : i = 40 := by omega
    subst e
    have e40 : nI 40 = (40 : Int32) := by decide
    have hle : (40 : Int32) ≤ 40 := by decide
    refine ⟨σ, fun _ _ => rfl, fun k h1 h2 => absurd h2 (by omega), fun d x3 g Q => ?_⟩
    simp only [s266_2, s266_3, s266_5, s266_40, ol_s, ol_n, ln_0, ln_1, ln_2, ln_3, ln_4, eq_self, rf_s, rf_n, i01_0, i01_n0, i01_b, b01_0, b01_1, and_self, and_true, true_and, and_false, false_and, if_true, if_false, not_true_eq_false, not_false_eq_true, e10, e00, lt_bg, Nat.reduceLT, Nat.reduceLeDiff, e40, hle]
  | n + 1, i, σ, h => by
    have e40 : nI 40 = (40 : Int32) := by decide
    have z0' : nI 0 = (0 : Int32) := rfl
    have hlt : ¬ (40 : Int32) ≤ nI i := by rw [← e40]; exact nI_ge (by omega) (by omega)
    obtain ⟨⟨rF, rT⟩, ⟨kx, ky⟩, ⟨lx, ly⟩, hL⟩ := hr i (by omega)
    obtain ⟨s1, F1, _, H1, R1⟩ := c266i kF kT lF lT (i := i) (by omega) rF rT kx ky lx ly hL (by omega) (by omega) (ln i) 0 σ (by omega)
    obtain ⟨s2, F2, G2, R2⟩ := c266 kF kT lF lT hr hT hd n (i + 1) s1 (by omega)
    refine ⟨s2, fun z hz => by rw [F2 z (by omega), F1 z (by omega)], fun k h1 h2 t ht => ?_, fun d x3 g Q => ?_⟩
    · by_cases q : k = i
      · subst q
        rw [F2 _ (by omega)]
        exact H1 t (Nat.zero_le _) ht
      · rw [G2 k (by omega) h2 t ht, F1 _ (by omega)]
    · rw [s266_2]
      simp only [s266_3, s266_5, s266_8, s266_9, ol_s, ol_n, ln_0, ln_1, ln_2, ln_3, ln_4, eq_self, rf_s, rf_n, i01_0, i01_n0, i01_b, b01_0, b01_1, and_self, and_true, true_and, and_false, false_and, if_true, if_false, not_true_eq_false, not_false_eq_true, e10, e00, lt_bg, Nat.reduceLT, Nat.reduceLeDiff, hlt]
      rw [← z0', R1]
      simp only [s266_34r, s266_37, ol_s, ol_n, ln_0, ln_1, ln_2, ln_3, ln_4, eq_self, rf_s, rf_n, i01_0, i01_n0, i01_b, b01_0, b01_1, and_self, and_true, true_and, and_false, false_and, if_true, if_false, not_true_eq_false, not_false_eq_true, e10, e00, lt_bg, Nat.reduceLT, Nat.reduceLeDiff, nI_1]
      exact R2 d _ g Q
/-- the lengths of a land's rows -/
def lnR (k : Nat) : Nat := sh_L.getD (161 + k) 0
theorem lnR_ok : ∀ k, k < 40 → sh_K.getD (161 + k) 99 = 15 ∧ sh_K.getD (221 + k) 99 = 15 ∧ sh_L.getD (221 + k) 0 = lnR k ∧ lnR k ≤ 4096 := by decide
theorem c266k (hS : Sh ρ τ) : ∃ σ' : am_I, (∀ z, z < 221 ∨ 261 ≤ z → σ' z = σ z) ∧ (∀ k, k < 40 → ∀ t, t < lnR k → σ' (221 + k) t = σ (161 + k) t) ∧ ∀ (d : Nat) (g : am_J) (Q : am_Q), AW d 266 0 [.ref 201, .ref 202, am_jk, am_jk] [] σ ρ g τ Q = Q none σ' ρ g τ := by
  have z0' : nI 0 = (0 : Int32) := rfl
  obtain ⟨s, F, G, R⟩ := c266 (F := 201) (T := 202) (F0 := 161) (T0 := 221) (ln := lnR) (k_201 hS) (k_202 hS) (l_201 hS) (l_202 hS) (fun k hk => by
    obtain ⟨a1, a2, a3, a4⟩ := lnR_ok k hk
    obtain ⟨r1, r2⟩ := hS.2.2.2.2.2.1 k hk
    obtain ⟨k1, l1⟩ := hS.1 (161 + k) (by omega)
    obtain ⟨k2, l2⟩ := hS.1 (221 + k) (by omega)
    exact ⟨⟨r1, r2⟩, ⟨k1.trans a1, k2.trans a2⟩, ⟨l1, l2.trans a3⟩, a4⟩) (by decide) (by omega) 40 0 σ (by omega)
  rw [z0'] at R
  refine ⟨s, fun z hz => F z (by omega), fun k hk => G k (by omega) hk, fun d g Q => ?_⟩
  rw [s266_0, s266_1r]
  exact R d _ g Q
theorem c266g (hS : Sh ρ τ) : ∃ σ' : am_I, (∀ z, z < 161 ∨ 201 ≤ z → σ' z = σ z) ∧ (∀ k, k < 40 → ∀ t, t < lnR k → σ' (161 + k) t = σ (221 + k) t) ∧ ∀ (d : Nat) (g : am_J) (Q : am_Q), AW d 266 0 [.ref 202, .ref 201, am_jk, am_jk] [] σ ρ g τ Q = Q none σ' ρ g τ := by
  have z0' : nI 0 = (0 : Int32) := rfl
  obtain ⟨s, F, G, R⟩ := c266 (F := 202) (T := 201) (F0 := 221) (T0 := 161) (ln := lnR) (k_202 hS) (k_201 hS) (l_202 hS) (l_201 hS) (fun k hk => by
    obtain ⟨a1, a2, a3, a4⟩ := lnR_ok k hk
    obtain ⟨r1, r2⟩ := hS.2.2.2.2.2.1 k hk
    obtain ⟨k1, l1⟩ := hS.1 (161 + k) (by omega)
    obtain ⟨k2, l2⟩ := hS.1 (221 + k) (by omega)
    exact ⟨⟨r2, r1⟩, ⟨k2.trans a2, k1.trans a1⟩, ⟨l2.trans a3, l1⟩, a4⟩) (by decide) (by omega) 40 0 σ (by omega)
  rw [z0'] at R
  refine ⟨s, fun z hz => F z (by omega), fun k hk => G k (by omega) hk, fun d g Q => ?_⟩
  rw [s266_0, s266_1r]
  exact R d _ g Q
end OBU
