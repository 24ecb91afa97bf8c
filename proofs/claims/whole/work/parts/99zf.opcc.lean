/-! least: how great a place may be; a place of the reference's table, whole -/
section OCC
variable {d : Nat} {σ : am_I} {ρ : am_R} {g : am_J} {τ : am_T} {Q : am_Q}
theorem lsF_b {W pv : Nat → Nat} {k M : Nat} (hW : ∀ j, j ≤ 9 → W j ≤ 5994) (hp : ∀ t, pv t < 1000000 → pv t ≤ M) : ∀ h, h ≤ 10 → lsF W pv k h < 1000000 → lsF W pv k h ≤ M + 5994
  | 0, _, h => absurd h (Nat.lt_irrefl _)
  | h + 1, hh, hl => by
    have i := lsF_b hW hp (k := k) h (by omega)
    have le := lsF_le (W := W) (pv := pv) (k := k) h
    have w := hW h (by omega)
    have p := hp (k - h)
    by_cases q : h ≤ k
    · have u : lsF W pv k (h + 1) = min (lsF W pv k h) (pv (k - h) + W h) := if_pos q
      rw [u] at hl ⊢
      omega
    · have u : lsF W pv k (h + 1) = lsF W pv k h := if_neg q
      rw [u] at hl ⊢
      exact i hl
theorem lsT_b {W : Nat → Nat → Nat} {P : Nat} (hW : ∀ p k, p < P → k ≤ 9 → W p k ≤ 5994) : ∀ r, r ≤ P → ∀ k, lsT W P r k < 1000000 → lsT W P r k ≤ 5994 * r
  | 0, _, k, h => by
    have u : lsT W P 0 k = if k = 0 then 0 else 1000000 := rfl
    rw [u] at h ⊢
    by_cases q : k = 0
    · rw [if_pos q]; omega
    · rw [if_neg q] at h; omega
  | r + 1, hr, k, h => by
    have i := lsF_b (W := W (P - (r + 1))) (pv := lsT W P r) (k := k) (M := 5994 * r) (fun j hj => hW _ j (by omega) hj) (lsT_b hW r (by omega)) 10 (Nat.le_refl _) h
    have u : lsT W P (r + 1) k = lsF (W (P - (r + 1))) (lsT W P r) k 10 := rfl
    rw [u]
    omega
theorem lsT_0 {W : Nat → Nat → Nat} {P : Nat} (hP : P ≤ 8) (hW : ∀ p k, p < P → k ≤ 9 → W p k ≤ 5994) : ∀ r, r ≤ P → lsT W P r 0 < 1000000
  | 0, _ => by
    have u : lsT W P 0 0 = 0 := rfl
    rw [u]
    decide
  | r + 1, hr => by
    have i := lsT_0 hP hW r (by omega)
    have b := lsT_b hW r (by omega) 0 i
    have w := hW (P - (r + 1)) 0 (by omega) (by decide)
    have u : lsT W P (r + 1) 0 = lsF (W (P - (r + 1))) (lsT W P r) 0 10 := rfl
    have u2 : lsF (W (P - (r + 1))) (lsT W P r) 0 (1 + 9) = lsF (W (P - (r + 1))) (lsT W P r) 0 1 := lsF_st (by decide) 9
    have u3 : lsF (W (P - (r + 1))) (lsT W P r) 0 1 = min 1000000 (lsT W P r 0 + W (P - (r + 1)) 0) := rfl
    rw [u, show (10 : Nat) = 1 + 9 from rfl, u2, u3]
    omega
theorem c182 (hS : Sh ρ τ) {σ0 : am_I} {f m k : Nat} (hf : f ≤ 7) (hk : k ≤ 40) {W1 pv : Nat → Nat} (hW : ∀ j, j ≤ 9 → WR m σ0 ρ τ f j (W1 j)) (hE : EqM σ0 σ) (hpv : ∀ t, pv t < 1000000 → pv t ≤ 50000) (hv : ∀ t, t ≤ k → σ 213 (41 * f + 41 + t) = mI (pv t)) : AW (d + 3) 182 0 [.ref 160, .int (nI f), .int (nI k), .int (nI m), am_jk, am_jk, am_jk, am_jk] [] σ ρ g τ Q = Q (some (.int (mI (lsF W1 pv k 10)))) σ ρ g τ := by
  have z0' : nI 0 = (0 : Int32) := rfl
  have m0 : mI (lsF W1 pv k 0) = -1 := if_neg (Nat.lt_irrefl _)
  have L := c182L hS hf hk hW hE hpv hv 10 0 am_jk am_jk (by omega) d g Q
  rw [m0, z0'] at L
  simp only [s182_0, s182_1, s182_3, s182_4]
  exact L
end OCC
