/-! taken -/
section OAE
variable {d : Nat} {σ : am_I} {ρ : am_R} {g : am_J} {τ : am_T} {Q : am_Q}
/-- whether a KIND is another one or under it -/
def f_und (k a : Nat) : Bool := a == 0 || (a == 1 && decide (k ≤ 5)) || (a == 2 && (k == 2 || k == 3)) || (decide (3 ≤ a) && k == a)
theorem c255 {k a : Nat} (hk : 2 ≤ k) (hk2 : k ≤ 6) (ha : a ≤ 6) : AW d 255 0 [.int (nI k), .int (nI a)] [] σ ρ g τ Q = Q (some (.int (if f_und k a = true then 1 else 0))) σ ρ g τ := by
  have hkk : k = 2 ∨ k = 3 ∨ k = 4 ∨ k = 5 ∨ k = 6 := by omega
  have haa : a = 0 ∨ a = 1 ∨ a = 2 ∨ a = 3 ∨ a = 4 ∨ a = 5 ∨ a = 6 := by omega
  have y0 : nI 0 = 0 := by decide
  have y1 : nI 1 = 1 := by decide
  have y2 : nI 2 = 2 := by decide
  have y3 : nI 3 = 3 := by decide
  have y4 : nI 4 = 4 := by decide
  have y5 : nI 5 = 5 := by decide
  have y6 : nI 6 = 6 := by decide
  rcases hkk with rfl | rfl | rfl | rfl | rfl <;> rcases haa with rfl | rfl | rfl | rfl | rfl | rfl | rfl <;> (simp only [y0, y1, y2, y3, y4, y5, y6]; simp (decide := true) only [s255_0, s255_1_0, s255_1_1, s255_1_2, s255_1_d, s255_28, s255_29, s255_30, s255_31, s255_32, s255_35, s255_36, s255_39, s255_40, s255_41, s255_42, s255_43, s255_46, s255_47, s255_48, s255_51, s255_52, s255_55, s255_56, s255_57, s255_58, s255_59, s255_62, s255_63, s255_66, s255_67, ol_s, ol_n, ln_0, ln_1, ln_2, ln_3, ln_4, eq_self, rf_s, rf_n, i01_0, i01_n0, i01_b, b01_0, b01_1, and_self, and_true, true_and, and_false, false_and, if_true, if_false, not_true_eq_false, not_false_eq_true, e10, e00, lt_bg, Nat.reduceLT, Nat.reduceLeDiff, f_und])
theorem c1 (hb : Bgd σ τ) {k a : Nat} (hk : 2 ≤ k) (hk2 : k ≤ 6) (ha : a ≤ 6) : AW d 1 0 [.int (nI k), .int (nI a), am_jk, am_jk] [] σ ρ g τ Q = Q (some (.int (if f_und k a = true then 1 else 0))) σ ρ g τ := by
  have hkk : k = 2 ∨ k = 3 ∨ k = 4 ∨ k = 5 ∨ k = 6 := by omega
  have haa : a = 0 ∨ a = 1 ∨ a = 2 ∨ a = 3 ∨ a = 4 ∨ a = 5 ∨ a = 6 := by omega
  have q := hb 0 (by decide) (by decide)
  have q1 : τ.1 am_BG = 15 := q.2.1
  have q2 : τ.2.1 am_BG = 7 := q.2.2
  have v0 : σ am_BG 0 = -1 := by have := congrFun q.1 0; exact this
  have i0 : am_inb 0 7 = true := by decide
  have y0 : nI 0 = 0 := by decide
  have v1 : σ am_BG 1 = 0 := by have := congrFun q.1 1; exact this
  have i1 : am_inb 1 7 = true := by decide
  have y1 : nI 1 = 1 := by decide
  have v2 : σ am_BG 2 = 1 := by have := congrFun q.1 2; exact this
  have i2 : am_inb 2 7 = true := by decide
  have y2 : nI 2 = 2 := by decide
  have v3 : σ am_BG 3 = 2 := by have := congrFun q.1 3; exact this
  have i3 : am_inb 3 7 = true := by decide
  have y3 : nI 3 = 3 := by decide
  have v4 : σ am_BG 4 = 1 := by have := congrFun q.1 4; exact this
  have i4 : am_inb 4 7 = true := by decide
  have y4 : nI 4 = 4 := by decide
  have v5 : σ am_BG 5 = 1 := by have := congrFun q.1 5; exact this
  have i5 : am_inb 5 7 = true := by decide
  have y5 : nI 5 = 5 := by decide
  have v6 : σ am_BG 6 = 0 := by have := congrFun q.1 6; exact this
  have i6 : am_inb 6 7 = true := by decide
  have y6 : nI 6 = 6 := by decide
  rcases hkk with rfl | rfl | rfl | rfl | rfl <;> rcases haa with rfl | rfl | rfl | rfl | rfl | rfl | rfl <;> (simp only [y0, y1, y2, y3, y4, y5, y6]; simp (decide := true) only [s1_0, s1_1, s1_2, s1_3, s1_4, s1_5, s1_7, s1_10, s1_11, s1_14, s1_15, s1_17, s1_20, s1_21, s1_22, s1_25, s1_26, s1_27, s1_30, s1_31, s1_32, s1_33, s1_36, s1_39, s1_40, ol_s, ol_n, ln_0, ln_1, ln_2, ln_3, ln_4, eq_self, rf_s, rf_n, i01_0, i01_n0, i01_b, b01_0, b01_1, and_self, and_true, true_and, and_false, false_and, if_true, if_false, not_true_eq_false, not_false_eq_true, e10, e00, lt_bg, Nat.reduceLT, Nat.reduceLeDiff, f_und, q1, q2, v0, v1, v2, v3, v4, v5, v6, i0, i1, i2, i3, i4, i5, i6, z0, z1, z2, z3, z4, z5, z6])
end OAE