/-! least: the reference's table, whole -/
section OCE
variable {d : Nat} {σ : am_I} {ρ : am_R} {g : am_J} {τ : am_T} {Q : am_Q}
theorem c181t (hS : Sh ρ τ) {σ0 : am_I} {P m N : Nat} (hP : P ≤ 8) (hN : N ≤ 40) {W : Nat → Nat → Nat} (hW : ∀ p k, p < P → k ≤ 9 → WR m σ0 ρ τ p k (W p k)) {x3 : Int32} : ∀ (n : Nat) (σ : am_I) (x6 : Value), n ≤ P + 1 → EqM σ0 σ → (∀ p, n ≤ p → p ≤ P → ∀ t, t ≤ N → σ 213 (41 * p + t) = mI (lsT W P (P - p) t)) → ∃ (σ' : am_I) (y6 : Value), (∀ z, z ≠ 213 → σ' z = σ z) ∧ (∀ p, p ≤ P → ∀ t, t ≤ N → σ' 213 (41 * p + t) = mI (lsT W P (P - p) t)) ∧ ∀ (d : Nat) (g : am_J) (Q : am_Q), AW (d + 4) 181 45 [.ref 160, .int (nI N), .int (nI m), .int x3, .int (nI P), .int (nI n + (-1)), x6] [] σ ρ g τ Q = AW (d + 4) 181 113 [.ref 160, .int (nI N), .int (nI m), .int x3, .int (nI P), .int (-1), y6] [] σ' ρ g τ Q
  | 0, σ, x6, _, hE, H => by
    have e0 : nI 0 + (-1) = (-1 : Int32) := by decide
    have hlt : ((-1 : Int32) < 0) = True := by decide
    refine ⟨σ, x6, fun _ _ => rfl, fun p hp => H p (Nat.zero_le _) hp, fun d g Q => ?_⟩
    simp only [s181_45, s181_47, ol_s, ol_n, ln_0, ln_1, ln_2, ln_3, ln_4, eq_self, rf_s, rf_n, i01_0, i01_n0, i01_b, b01_0, b01_1, and_self, and_true, true_and, and_false, false_and, if_true, if_false, not_true_eq_false, not_false_eq_true, e10, e00, lt_bg, Nat.reduceLT, Nat.reduceLeDiff, e0, hlt]
  | n + 1, σ, x6, hn, hE, H => by
    have z0' : nI 0 = (0 : Int32) := rfl
    have pm : nI (n + 1) + (-1) = nI n := by rw [← nI_pred n, Int32.sub_eq_add_neg]
    have hlt : ¬ nI n < 0 := Int32.not_lt.mpr (nI_le (a := 0) (Nat.zero_le _) (by omega))
    obtain ⟨s, F1, G1, H1, R1⟩ := c181r hS hP hN hW (f := n) (by omega) (x3 := x3) (N + 1) 0 σ (by omega) hE (fun q t ht => by
      have u := H (n + 1) (Nat.le_refl _) (by omega) t ht
      rw [show 41 * n + 41 + t = 41 * (n + 1) + t by omega, Nat.sub_sub]
      exact u)
    obtain ⟨s2, y6, F2, G2, R2⟩ := c181t hS hP hN hW (x3 := x3) n s (.int (nI (N + 1))) (by omega) (fun y h1 h2 => by rw [F1 y (by omega)]; exact hE y h1 h2) (fun p h1 h2 t ht => by
      by_cases q : p = n
      · subst q
        exact H1 t (Nat.zero_le _) ht
      · rw [G1 _ (by omega)]
        exact H p (by omega) h2 t ht)
    refine ⟨s2, y6, fun z hz => by rw [F2 z hz, F1 z hz], G2, fun d g Q => ?_⟩
    rw [s181_45]
    simp only [s181_47, s181_50, s181_51, ol_s, ol_n, ln_0, ln_1, ln_2, ln_3, ln_4, eq_self, rf_s, rf_n, i01_0, i01_n0, i01_b, b01_0, b01_1, and_self, and_true, true_and, and_false, false_and, if_true, if_false, not_true_eq_false, not_false_eq_true, e10, e00, lt_bg, Nat.reduceLT, Nat.reduceLeDiff, pm, hlt]
    rw [← z0', R1]
    simp only [s181_107, s181_110]
    exact R2 d g Q
end OCE
