/-! the law's loop, and the goal -/
section LWB
variable {d L : Nat}
theorem lw_lt {L i : Nat} (hL : L ≤ 2560) (hi : i ≤ 2565) : (nI L - 5 < nI i) = (L < i + 5) := by
  by_cases q : 5 ≤ L
  · obtain ⟨m, e⟩ : ∃ m, L = m + 5 := ⟨L - 5, by omega⟩
    subst e
    have e5 : nI (m + 5) - 5 = nI m := by
      have e : nI (m + 5) = nI m + 5 := (nI_add m 5).symm
      rw [e]
      exact Int32.add_sub_cancel _ _
    rw [e5]
    refine propext ⟨fun h => ?_, fun h => ?_⟩
    · have := (nI_ltI (by omega) (by omega)).mp h
      omega
    · exact nI_lt (by omega) (by omega)
  · have p : (0 : Int32) ≤ nI i := nI_pos' (by omega)
    have n : nI L - 5 < 0 := by
      rcases (show L = 0 ∨ L = 1 ∨ L = 2 ∨ L = 3 ∨ L = 4 by omega) with e | e | e | e | e <;> subst e <;> decide
    exact propext ⟨fun _ => by omega, fun _ => Int32.lt_of_lt_of_le n p⟩
def LwE : am_Q := fun r _ _ _ τ => r = some (.int 1) ∧ τ.2.2.1 ≤ 600000 ∧ τ.2.2.2 ≤ 7302250
theorem lw_sw {i : Nat} {σ : am_I} {ρ : am_R} {g : am_J} {τ : am_T} {v : Int32} (P : LwP L i σ ρ g τ) (K : LwK d L i τ LwE) : AW (d + 50) 279 32 [.ref 1000002, .ref 0, .ref 160, .int (nI i)] [.int v] σ ρ g τ LwE := by
  by_cases z : v.toInt < 0 ∨ 44 < v.toInt
  · rw [s279_32_d z]
    obtain ⟨h, k15, kL, hi, hL, hN, hk⟩ := P
    exact K σ ρ g τ h k15 kL (by omega) (by omega) hk
  obtain ⟨j, hj, e⟩ := nI_of (x := v) (fun h => by
    have q := Int32.lt_iff_toInt_lt.mp h
    rw [show (0 : Int32).toInt = 0 from by decide] at q
    omega)
  subst e
  rw [nI_toInt hj] at z
  by_cases e0 : j = 0
  · subst e0
    rw [show nI 0 = (0 : Int32) from by decide, s279_32_0]
    exact lw_0 P K
  by_cases e1 : j = 1
  · subst e1
    rw [show nI 1 = (1 : Int32) from by decide, s279_32_1]
    exact lw_1 P K
  by_cases e2 : j = 2
  · subst e2
    rw [show nI 2 = (2 : Int32) from by decide, s279_32_2]
    exact lw_2 P K
  by_cases e3 : j = 3
  · subst e3
    rw [show nI 3 = (3 : Int32) from by decide, s279_32_3]
    exact lw_3 P K
  by_cases e4 : j = 4
  · subst e4
    rw [show nI 4 = (4 : Int32) from by decide, s279_32_4]
    exact lw_4 P K
  by_cases e5 : j = 5
  · subst e5
    rw [show nI 5 = (5 : Int32) from by decide, s279_32_5]
    exact lw_5 P K
  by_cases e6 : j = 6
  · subst e6
    rw [show nI 6 = (6 : Int32) from by decide, s279_32_6]
    exact lw_6 P K
  by_cases e7 : j = 7
  · subst e7
    rw [show nI 7 = (7 : Int32) from by decide, s279_32_7]
    exact lw_7 P K
  by_cases e8 : j = 8
  · subst e8
    rw [show nI 8 = (8 : Int32) from by decide, s279_32_8]
    exact lw_8 P K
  by_cases e9 : j = 9
  · subst e9
    rw [show nI 9 = (9 : Int32) from by decide, s279_32_9]
    exact lw_9 P K
  by_cases e10 : j = 10
  · subst e10
    rw [show nI 10 = (10 : Int32) from by decide, s279_32_10]
    exact lw_10 P K
  by_cases e11 : j = 11
  · subst e11
    rw [show nI 11 = (11 : Int32) from by decide, s279_32_11]
    exact lw_11 P K
  by_cases e12 : j = 12
  · subst e12
    rw [show nI 12 = (12 : Int32) from by decide, s279_32_12]
    exact lw_12 P K
  by_cases e13 : j = 13
  · subst e13
    rw [show nI 13 = (13 : Int32) from by decide, s279_32_13]
    exact lw_13 P K
  by_cases e14 : j = 14
  · subst e14
    rw [show nI 14 = (14 : Int32) from by decide, s279_32_14]
    exact lw_14 P K
  by_cases e15 : j = 15
  · subst e15
    rw [show nI 15 = (15 : Int32) from by decide, s279_32_15]
    exact lw_15 P K
  by_cases e16 : j = 16
  · subst e16
    rw [show nI 16 = (16 : Int32) from by decide, s279_32_16]
    exact lw_16 P K
  by_cases e17 : j = 17
  · subst e17
    rw [show nI 17 = (17 : Int32) from by decide, s279_32_17]
    exact lw_17 P K
  by_cases e18 : j = 18
  · subst e18
    rw [show nI 18 = (18 : Int32) from by decide, s279_32_18]
    exact lw_18 P K
  by_cases e19 : j = 19
  · subst e19
    rw [show nI 19 = (19 : Int32) from by decide, s279_32_19]
    exact lw_19 P K
  by_cases e20 : j = 20
  · subst e20
    rw [show nI 20 = (20 : Int32) from by decide, s279_32_20]
    exact lw_20 P K
  by_cases e21 : j = 21
  · subst e21
    rw [show nI 21 = (21 : Int32) from by decide, s279_32_21]
    exact lw_21 P K
  by_cases e22 : j = 22
  · subst e22
    rw [show nI 22 = (22 : Int32) from by decide, s279_32_22]
    exact lw_22 P K
  by_cases e23 : j = 23
  · subst e23
    rw [show nI 23 = (23 : Int32) from by decide, s279_32_23]
    exact lw_23 P K
  by_cases e24 : j = 24
  · subst e24
    rw [show nI 24 = (24 : Int32) from by decide, s279_32_24]
    exact lw_24 P K
  by_cases e25 : j = 25
  · subst e25
    rw [show nI 25 = (25 : Int32) from by decide, s279_32_25]
    exact lw_25 P K
  by_cases e26 : j = 26
  · subst e26
    rw [show nI 26 = (26 : Int32) from by decide, s279_32_26]
    exact lw_26 P K
  by_cases e27 : j = 27
  · subst e27
    rw [show nI 27 = (27 : Int32) from by decide, s279_32_27]
    exact lw_27 P K
  by_cases e28 : j = 28
  · subst e28
    rw [show nI 28 = (28 : Int32) from by decide, s279_32_28]
    exact lw_28 P K
  by_cases e29 : j = 29
  · subst e29
    rw [show nI 29 = (29 : Int32) from by decide, s279_32_29]
    exact lw_29 P K
  by_cases e30 : j = 30
  · subst e30
    rw [show nI 30 = (30 : Int32) from by decide, s279_32_30]
    exact lw_30 P K
  by_cases e31 : j = 31
  · subst e31
    rw [show nI 31 = (31 : Int32) from by decide, s279_32_31]
    exact lw_31 P K
  by_cases e32 : j = 32
  · subst e32
    rw [show nI 32 = (32 : Int32) from by decide, s279_32_32]
    exact lw_32 P K
  by_cases e33 : j = 33
  · subst e33
    rw [show nI 33 = (33 : Int32) from by decide, s279_32_33]
    exact lw_33 P K
  by_cases e34 : j = 34
  · subst e34
    rw [show nI 34 = (34 : Int32) from by decide, s279_32_34]
    exact lw_34 P K
  by_cases e35 : j = 35
  · subst e35
    rw [show nI 35 = (35 : Int32) from by decide, s279_32_35]
    exact lw_35 P K
  by_cases e36 : j = 36
  · subst e36
    rw [show nI 36 = (36 : Int32) from by decide, s279_32_36]
    exact lw_36 P K
  by_cases e37 : j = 37
  · subst e37
    rw [show nI 37 = (37 : Int32) from by decide, s279_32_37]
    exact lw_37 P K
  by_cases e38 : j = 38
  · subst e38
    rw [show nI 38 = (38 : Int32) from by decide, s279_32_38]
    exact lw_38 P K
  by_cases e39 : j = 39
  · subst e39
    rw [show nI 39 = (39 : Int32) from by decide, s279_32_39]
    exact lw_39 P K
  by_cases e40 : j = 40
  · subst e40
    rw [show nI 40 = (40 : Int32) from by decide, s279_32_40]
    exact lw_40 P K
  by_cases e41 : j = 41
  · subst e41
    rw [show nI 41 = (41 : Int32) from by decide, s279_32_41]
    exact lw_41 P K
  by_cases e42 : j = 42
  · subst e42
    rw [show nI 42 = (42 : Int32) from by decide, s279_32_42]
    exact lw_42 P K
  by_cases e43 : j = 43
  · subst e43
    rw [show nI 43 = (43 : Int32) from by decide, s279_32_43]
    exact lw_43 P K
  by_cases e44 : j = 44
  · subst e44
    rw [show nI 44 = (44 : Int32) from by decide, s279_32_44]
    exact lw_44 P K
  omega
theorem lw_loop (hL : L ≤ 2560) : ∀ (n i : Nat) (σ : am_I) (ρ : am_R) (g : am_J) (τ : am_T), L < i + 5 + 5 * n → i ≤ 2560 → INV σ ρ g τ → τ.1 1000002 = 15 → τ.2.1 1000002 = L → (∀ a, 1000000 ≤ a → 13 ≤ τ.1 a) → τ.2.2.1 + 22 * n ≤ 20000 → τ.2.2.2 + 300 * n ≤ 300000 → AW (d + 50) 279 18 [.ref 1000002, .ref 0, .ref 160, .int (nI i)] [] σ ρ g τ LwE := by
  intro n
  induction n with
  | zero =>
    intro i σ ρ g τ hn hi h k15 kL hk hc hs
    have lt : (nI L - 5 < nI i) = True := (lw_lt hL (by omega)).trans (eq_true (by omega))
    have E : ∀ Q : am_Q, AW (d + 50) 279 18 [.ref 1000002, .ref 0, .ref 160, .int (nI i)] [] σ ρ g τ Q = Q (some (.int 1)) σ ρ g τ := fun Q => by
      simp only [s279_18, s279_19, s279_20, s279_21, s279_22, s279_23, s279_1819, s279_1820, k15, kL, lt, ol_s, ol_n, ln_0, ln_1, ln_2, ln_3, ln_4, eq_self, rf_s, rf_n, i01_0, i01_n0, i01_b, b01_0, b01_1, and_self, and_true, true_and, and_false, false_and, if_true, if_false, not_true_eq_false, not_false_eq_true, e10, e00, lt_bg, Nat.reduceLT, Nat.reduceLeDiff]
    rw [E]
    exact ⟨rfl, by omega, by omega⟩
  | succ n ih =>
    intro i σ ρ g τ hn hi h k15 kL hk hc hs
    by_cases q : L < i + 5
    · have lt : (nI L - 5 < nI i) = True := (lw_lt hL (by omega)).trans (eq_true q)
      have E : ∀ Q : am_Q, AW (d + 50) 279 18 [.ref 1000002, .ref 0, .ref 160, .int (nI i)] [] σ ρ g τ Q = Q (some (.int 1)) σ ρ g τ := fun Q => by
        simp only [s279_18, s279_19, s279_20, s279_21, s279_22, s279_23, s279_1819, s279_1820, k15, kL, lt, ol_s, ol_n, ln_0, ln_1, ln_2, ln_3, ln_4, eq_self, rf_s, rf_n, i01_0, i01_n0, i01_b, b01_0, b01_1, and_self, and_true, true_and, and_false, false_and, if_true, if_false, not_true_eq_false, not_false_eq_true, e10, e00, lt_bg, Nat.reduceLT, Nat.reduceLeDiff]
      rw [E]
      exact ⟨rfl, by omega, by omega⟩
    have lt : (nI L - 5 < nI i) = False := (lw_lt hL (by omega)).trans (eq_false q)
    have b0 : am_inb (nI i) L = true := inb_n (by omega) (by omega)
    have c0 : (nI i).toNatClampNeg = i := nI_clamp (by omega)
    have E : ∀ Q : am_Q, AW (d + 50) 279 18 [.ref 1000002, .ref 0, .ref 160, .int (nI i)] [] σ ρ g τ Q = AW (d + 50) 279 32 [.ref 1000002, .ref 0, .ref 160, .int (nI i)] [.int (σ 1000002 i &&& 63)] σ ρ g τ Q := fun Q => by
      simp only [s279_18, s279_19, s279_20, s279_21, s279_22, s279_23, s279_26, s279_27, s279_28, s279_29, s279_31, k15, kL, lt, b0, c0, ol_s, ol_n, ln_0, ln_1, ln_2, ln_3, ln_4, eq_self, rf_s, rf_n, i01_0, i01_n0, i01_b, b01_0, b01_1, and_self, and_true, true_and, and_false, false_and, if_true, if_false, not_true_eq_false, not_false_eq_true, e10, e00, lt_bg, Nat.reduceLT, Nat.reduceLeDiff]
    rw [E]
    refine lw_sw ⟨h, k15, kL, by omega, hL, by omega, hk⟩ (fun σ' ρ' g' τ' h1 h2 h3 h4 h5 h6 => ?_)
    have a5 : nI i + 5 = nI (i + 5) := nI_add i 5
    have E2 : ∀ Q : am_Q, AW (d + 50) 279 1813 [.ref 1000002, .ref 0, .ref 160, .int (nI i)] [] σ' ρ' g' τ' Q = AW (d + 50) 279 18 [.ref 1000002, .ref 0, .ref 160, .int (nI (i + 5))] [] σ' ρ' g' τ' Q := fun Q => by
      simp only [s279_1813r, s279_1816, a5]
    rw [E2]
    exact ih (i + 5) σ' ρ' g' τ' (by omega) (by omega) h1 h2 h3 h6 (by omega) (by omega)
theorem lw_goal {xs : Nat → Int32} {fl : Nat} (hL : L ≤ 2560) : am_Goal L xs fl := by
  show AW (50 + 50) 279 0 [.ref 1000002, am_jk, am_jk, am_jk] [] (am_σ0 xs) am_ρ0 am_g0 (am_τ0 L fl) LwE
  rw [st_aw]
  have hs : (utn L fl 261).2.2.2 = 10459 := by
    show (sh_L.take 261).sum = 10459
    decide +kernel
  have hc : (utn L fl 261).2.2.1 = 261 := rfl
  have R := lw_loop (d := 50) hL 512 0 (usn xs 470) (urn 315) am_g0 (utn L fl 261) (by omega) (by omega) cv_inv ((cv_o (by decide)).1.trans (cv_t (i := 2)).1) ((cv_o (by decide)).2.trans (cv_t (i := 2)).2) (fun a ha => by
    obtain ⟨i, e⟩ : ∃ i, a = 1000000 + i := ⟨a - 1000000, by omega⟩
    subst e
    rw [(cv_o (by omega)).1, cv_t.1]
    unfold am_oK
    (repeat' split) <;> omega) (by rw [hc]; omega) (by rw [hs]; omega)
  rw [nI_0] at R
  exact R
end LWB
