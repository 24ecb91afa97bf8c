/-! copies of a province, a debt, a ledger -/
section OBR
variable {d : Nat} {σ : am_I} {ρ : am_R} {g : am_J} {τ : am_T} {Q : am_Q}
theorem cpy_at {f h : Nat → Int32} {n k : Nat} (hk : k < n) : va_cpy f h 0 0 n k = f k := by
  unfold va_cpy
  rw [if_pos ⟨Nat.zero_le _, by omega⟩, Nat.zero_add, Nat.sub_zero]
theorem c62 {x y u w : Nat} (hx : τ.1 x = 7) (hy : τ.1 y = 7) (rx : ρ x 4 = some u) (ry : ρ y 4 = some w) (ku : τ.1 u = 15) (kw : τ.1 w = 15) (lu : τ.2.1 u = 3) (lw : τ.2.1 w = 3) (hu : u < 1000000) (hw : w < 1000000) (n1 : y ≠ x) (n2 : w ≠ u) (n3 : w ≠ x) (n4 : u ≠ x) : ∃ σ' : am_I, (∀ z, z ≠ x → z ≠ u → σ' z = σ z) ∧ (∀ k, k < 4 → σ' x k = σ y k) ∧ (∀ k, k < 3 → σ' u k = σ w k) ∧ ∀ (d : Nat) (g : am_J) (Q : am_Q), AW d 62 0 [.ref x, .ref y] [] σ ρ g τ Q = Q none σ' ρ g τ := by
  have U1 : ∀ (f : am_I) (k : Nat) (v : Int32), am_u f x k v y = f y := fun f k v => u_ne _ _ _ _ n1
  have U2 : ∀ (f : am_I) (k : Nat) (v : Int32), am_u f x k v w = f w := fun f k v => u_ne _ _ _ _ n3
  have U3 : ∀ (f : am_I) (k : Nat) (v : Int32), am_u f x k v u = f u := fun f k v => u_ne _ _ _ _ n4
  have t3 : (3 : Int32).toNatClampNeg = 3 := by decide
  have m3 : ¬ (3 : Int32) < 0 := by decide
  have m0 : ¬ (0 : Int32) < 0 := by decide
  refine ⟨am_ur (am_u (am_u (am_u (am_u σ x 0 (σ y 0)) x 1 (σ y 1)) x 2 (σ y 2)) x 3 (σ y 3)) u (va_cpy (σ w) (σ u) 0 0 3), fun z h1 h2 => ?_, fun k hk => ?_, fun k hk => ?_, fun d g Q => ?_⟩
  · rw [ur_ne _ _ _ h2, u_ne _ _ _ _ h1, u_ne _ _ _ _ h1, u_ne _ _ _ _ h1, u_ne _ _ _ _ h1]
  · rw [ur_ne _ _ _ (fun h => n4 h.symm)]
    have q : k = 0 ∨ k = 1 ∨ k = 2 ∨ k = 3 := by omega
    rcases q with rfl | rfl | rfl | rfl
    · rw [u_nk _ _ _ _ (by decide), u_nk _ _ _ _ (by decide), u_nk _ _ _ _ (by decide), u_at]
    · rw [u_nk _ _ _ _ (by decide), u_nk _ _ _ _ (by decide), u_at]
    · rw [u_nk _ _ _ _ (by decide), u_at]
    · rw [u_at]
  · rw [ur_at]
    exact cpy_at hk
  · simp only [s62_0, s62_1, s62_2, s62_5, s62_8, s62_9, s62_10, s62_13, s62_16, s62_17, s62_18, s62_21, s62_24, s62_25, s62_26, s62_29, s62_32, s62_33, s62_36, s62_37, s62_38, s62_41, s62_42, s62_43, s62_46, ol_s, ol_n, ln_0, ln_1, ln_2, ln_3, ln_4, eq_self, rf_s, rf_n, i01_0, i01_n0, i01_b, b01_0, b01_1, and_self, and_true, true_and, and_false, false_and, if_true, if_false, not_true_eq_false, not_false_eq_true, e10, e00, lt_bg, Nat.reduceLT, Nat.reduceLeDiff, hx, hy, rx, ry, ku, kw, lu, lw, hu, hw, ne_eq, n2, z0, t3, m3, m0, U1, U2, U3, Nat.zero_add, Nat.le_refl]
theorem c8g {x u : Nat} (hx : τ.1 x = 1) (rx : ρ x 9 = some u) (ku : τ.1 u = 15) (lu : τ.2.1 u = 7) (hu : u < 1000000) {h f s v e m : Int32} : AW (d + 1) 8 0 [.ref x, .int h, .int f, .int s, .int v, .int e, .int m] [] σ ρ g τ Q = Q none (am_ur (f_begin σ x h f s v e m) u (f_fill 50 7 (f_begin σ x h f s v e m u))) ρ g τ := by
  unfold f_begin
  simp only [s8_0, s8_1, s8_2, s8_5, s8_6, s8_7, s8_10, s8_11, s8_12, s8_15, s8_16, s8_18, s8_21, s8_22, s8_24, s8_27, s8_28, s8_30, s8_33, s8_34, s8_35, s8_38, s8_39, s8_40, s8_43, s8_44, s8_45, s8_48, s8_49, s8_52, s8_54, s8_57, ol_s, ol_n, ln_0, ln_1, ln_2, ln_3, ln_4, eq_self, rf_s, rf_n, i01_0, i01_n0, i01_b, b01_0, b01_1, and_self, and_true, true_and, and_false, false_and, if_true, if_false, not_true_eq_false, not_false_eq_true, e10, e00, lt_bg, Nat.reduceLT, Nat.reduceLeDiff, hx, rx, c275 (a := u) (n := 7) ku lu (by decide) hu]
theorem c9 {x y u w : Nat} (hx : τ.1 x = 1) (hy : τ.1 y = 1) (rx : ρ x 9 = some u) (ry : ρ y 9 = some w) (ku : τ.1 u = 15) (kw : τ.1 w = 15) (lu : τ.2.1 u = 7) (lw : τ.2.1 w = 7) (hu : u < 1000000) (hw : w < 1000000) (n1 : y ≠ x) (n2 : w ≠ u) (n3 : w ≠ x) (n4 : u ≠ x) (n5 : y ≠ u) (hv : am_b01 (σ y 8) = true) : ∃ σ' : am_I, (∀ z, z ≠ x → z ≠ u → σ' z = σ z) ∧ (∀ k, k < 9 → σ' x k = σ y k) ∧ (∀ k, k < 7 → σ' u k = σ w k) ∧ ∀ (d : Nat) (g : am_J) (Q : am_Q), AW (d + 2) 9 0 [.ref x, .ref y] [] σ ρ g τ Q = Q none σ' ρ g τ := by
  have U1 : ∀ (f : am_I) (k : Nat) (v : Int32), am_u f x k v y = f y := fun f k v => u_ne _ _ _ _ n1
  have U2 : ∀ (f : am_I) (k : Nat) (v : Int32), am_u f x k v w = f w := fun f k v => u_ne _ _ _ _ n3
  have U3 : ∀ (f : am_I) (k : Nat) (v : Int32), am_u f x k v u = f u := fun f k v => u_ne _ _ _ _ n4
  have t7 : (7 : Int32).toNatClampNeg = 7 := by decide
  have m7 : ¬ (7 : Int32) < 0 := by decide
  have m0 : ¬ (0 : Int32) < 0 := by decide
  generalize e1 : am_ur (f_begin σ x (σ y 0) (σ y 1) (σ y 2) (σ y 3) (σ y 4) (σ y 5)) u (f_fill 50 7 (f_begin σ x (σ y 0) (σ y 1) (σ y 2) (σ y 3) (σ y 4) (σ y 5) u)) = s
  have s1 : ∀ z, z ≠ x → z ≠ u → s z = σ z := fun z h1 h2 => by
    rw [← e1, ur_ne _ _ _ h2]
    unfold f_begin
    rw [u_ne _ _ _ _ h1, u_ne _ _ _ _ h1, u_ne _ _ _ _ h1, u_ne _ _ _ _ h1, u_ne _ _ _ _ h1, u_ne _ _ _ _ h1, u_ne _ _ _ _ h1, u_ne _ _ _ _ h1, u_ne _ _ _ _ h1]
  have s2 : ∀ k, k < 6 → s x k = σ y k := fun k hk => by
    rw [← e1, ur_ne _ _ _ (fun h => n4 h.symm)]
    unfold f_begin
    have q : k = 0 ∨ k = 1 ∨ k = 2 ∨ k = 3 ∨ k = 4 ∨ k = 5 := by omega
    rcases q with rfl | rfl | rfl | rfl | rfl | rfl
    all_goals simp (disch := omega) only [Nat.reduceAdd, Nat.add_zero, u_ne, ur_ne, u_at, u_nk, ur_at]
  refine ⟨am_ur (am_u (am_u (am_u s x 6 (σ y 6)) x 7 (σ y 7)) x 8 (σ y 8)) u (va_cpy (σ w) (s u) 0 0 7), fun z h1 h2 => ?_, fun k hk => ?_, fun k hk => ?_, fun d g Q => ?_⟩
  · rw [ur_ne _ _ _ h2, u_ne _ _ _ _ h1, u_ne _ _ _ _ h1, u_ne _ _ _ _ h1, s1 z h1 h2]
  · rw [ur_ne _ _ _ (fun h => n4 h.symm)]
    by_cases q : k < 6
    · rw [u_nk _ _ _ _ (by omega), u_nk _ _ _ _ (by omega), u_nk _ _ _ _ (by omega), s2 k q]
    · have q : k = 6 ∨ k = 7 ∨ k = 8 := by omega
      rcases q with rfl | rfl | rfl
      · rw [u_nk _ _ _ _ (by decide), u_nk _ _ _ _ (by decide), u_at]
      · rw [u_nk _ _ _ _ (by decide), u_at]
      · rw [u_at]
  · rw [ur_at]
    exact cpy_at hk
  · simp only [s9_0, s9_1, s9_2, s9_5, s9_6, s9_9, s9_10, s9_13, s9_14, s9_17, s9_18, s9_21, s9_22, s9_25, ol_s, ol_n, ln_0, ln_1, ln_2, ln_3, ln_4, eq_self, rf_s, rf_n, i01_0, i01_n0, i01_b, b01_0, b01_1, and_self, and_true, true_and, and_false, false_and, if_true, if_false, not_true_eq_false, not_false_eq_true, e10, e00, lt_bg, Nat.reduceLT, Nat.reduceLeDiff, hx, hy, c8g hx rx ku lu hu, e1]
    simp only [s9_28, s9_29, s9_30, s9_33, s9_36, s9_37, s9_38, s9_41, s9_44, s9_45, s9_46, s9_49, s9_52, s9_53, s9_56, s9_57, s9_58, s9_61, s9_62, s9_64, s9_67, ol_s, ol_n, ln_0, ln_1, ln_2, ln_3, ln_4, eq_self, rf_s, rf_n, i01_0, i01_n0, i01_b, b01_0, b01_1, and_self, and_true, true_and, and_false, false_and, if_true, if_false, not_true_eq_false, not_false_eq_true, e10, e00, lt_bg, Nat.reduceLT, Nat.reduceLeDiff, hx, hy, rx, ry, ku, kw, lu, lw, hu, hw, hv, ne_eq, n2, z0, t7, m7, m0, U1, U2, U3, s1 y n1 n5, s1 w n3 n2, Nat.zero_add, Nat.le_refl]
theorem c49 {x y u w L M K : Nat} (hx : τ.1 x = 4) (hy : τ.1 y = 4) (rx : ρ x 2 = some u) (ry : ρ y 2 = some w) (ku : τ.1 u = 15) (kw : τ.1 w = 15) (lu : τ.2.1 u = L) (lw : τ.2.1 w = L) (hL : L ≤ 100) (hu : u < 1000000) (hw : w < 1000000) (n1 : y ≠ x) (n2 : w ≠ u) (n3 : w ≠ x) (n4 : u ≠ x) (h0 : σ x 0 = nI M) (h3 : σ y 3 = nI K) (hK : K ≤ M) (hM : M ≤ 100) : ∃ σ' : am_I, (∀ z, z ≠ x → z ≠ u → σ' z = σ z) ∧ (∀ k, k ≠ 3 → σ' x k = σ x k) ∧ σ' x 3 = nI K ∧ (∀ k, k < L → σ' u k = σ w k) ∧ ∀ (d : Nat) (g : am_J) (Q : am_Q), AW d 49 0 [.ref x, .ref y] [] σ ρ g τ Q = Q none σ' ρ g τ := by
  have U1 : ∀ (f : am_I) (k : Nat) (v : Int32), am_u f x k v y = f y := fun f k v => u_ne _ _ _ _ n1
  have U2 : ∀ (f : am_I) (k : Nat) (v : Int32), am_u f x k v w = f w := fun f k v => u_ne _ _ _ _ n3
  have U3 : ∀ (f : am_I) (k : Nat) (v : Int32), am_u f x k v u = f u := fun f k v => u_ne _ _ _ _ n4
  have tL : (nI L).toNatClampNeg = L := nI_clamp (by omega)
  have mL : ¬ nI L < 0 := Int32.not_lt.mpr (nI_le (a := 0) (Nat.zero_le _) (by omega))
  have m0 : ¬ (0 : Int32) < 0 := by decide
  have mn : (if nI K < nI M then nI K else nI M) = nI K := by
    by_cases q : nI K < nI M
    · rw [if_pos q]
    · rw [if_neg q]
      exact Int32.le_antisymm (Int32.not_lt.mp q) (nI_le hK (by omega))
  refine ⟨am_ur (am_u σ x 3 (nI K)) u (va_cpy (σ w) (σ u) 0 0 L), fun z h1 h2 => ?_, fun k hk => ?_, ?_, fun k hk => ?_, fun d g Q => ?_⟩
  · rw [ur_ne _ _ _ h2, u_ne _ _ _ _ h1]
  · rw [ur_ne _ _ _ (fun h => n4 h.symm), u_nk _ _ _ _ hk]
  · rw [ur_ne _ _ _ (fun h => n4 h.symm), u_at]
  · rw [ur_at]
    exact cpy_at hk
  · simp only [s49_0, s49_1, s49_2, s49_5, s49_6, s49_9, s49_12, s49_15, s49_16, s49_19, s49_20, s49_21, s49_24, s49_25, s49_26, s49_29, s49_30, s49_31, s49_34, s49_35, s49_38, s49_41, ol_s, ol_n, ln_0, ln_1, ln_2, ln_3, ln_4, eq_self, rf_s, rf_n, i01_0, i01_n0, i01_b, b01_0, b01_1, and_self, and_true, true_and, and_false, false_and, if_true, if_false, not_true_eq_false, not_false_eq_true, e10, e00, lt_bg, Nat.reduceLT, Nat.reduceLeDiff, hx, hy, rx, ry, ku, kw, lu, lw, hu, hw, h0, h3, mn, ne_eq, n2, z0, tL, mL, m0, U1, U2, U3, ite_self, Nat.zero_add, Nat.le_refl]
end OBR
