/-! Arrays.fill; ledgers -/
def f_fill (v : Int32) (n : Nat) (f : Nat → Int32) : Nat → Int32 := fun j => if j < n then v else f j
theorem f_fill0 (v : Int32) (σ : am_I) (a : Nat) : am_ur σ a (f_fill v 0 (σ a)) = σ := by
  funext b j
  unfold am_ur
  by_cases h : b = a
  · rw [if_pos h, h]
    simp [f_fill]
  · rw [if_neg h]
theorem f_fillS (v : Int32) (i : Nat) (σ : am_I) (a : Nat) : am_u (am_ur σ a (f_fill v i (σ a))) a i v = am_ur σ a (f_fill v (i + 1) (σ a)) := by
  funext b j
  unfold am_u am_ur f_fill
  by_cases h : b = a
  · subst h
    by_cases h2 : j = i
    · subst h2
      simp
    · by_cases h3 : j < i
      · simp [h2, h3, Nat.lt_succ_of_lt h3]
      · simp [h2, h3, show ¬ j < i + 1 by omega]
  · simp [h]
theorem ur_ne {α : Type} (f : Nat → Nat → α) (a : Nat) (r : Nat → α) {b : Nat} (h : b ≠ a) : am_ur f a r b = f b := if_neg h
theorem ur_at {α : Type} (f : Nat → Nat → α) (a : Nat) (r : Nat → α) : am_ur f a r a = r := if_pos rfl
section C3
variable {d : Nat} {σ : am_I} {ρ : am_R} {g : am_J} {τ : am_T} {Q : am_Q}
theorem c275L {a n : Nat} {v : Int32} (hk : τ.1 a = 15) (hl : τ.2.1 a = n) (hn : n < 10000) (ha : a < 1000000) : ∀ (m i : Nat), i + m = n → AW d 275 5 [.ref a, .int v, .int (nI i), .int (nI n)] [] (am_ur σ a (f_fill v i (σ a))) ρ g τ Q = Q none (am_ur σ a (f_fill v n (σ a))) ρ g τ
  | 0, i, h => by
    have e : i = n := by omega
    rw [e]
    have hle : nI n ≤ nI n := nI_le (by omega) (by omega)
    simp only [s275_0, s275_1, s275_2, s275_3, s275_4, s275_5, s275_6, s275_7, s275_10, s275_11, s275_12, s275_13, s275_14, s275_17, s275_20, ol_s, ol_n, ln_0, ln_1, ln_2, ln_3, ln_4, eq_self, rf_s, rf_n, i01_0, i01_n0, i01_b, b01_0, b01_1, and_self, and_true, true_and, and_false, false_and, if_true, if_false, not_true_eq_false, not_false_eq_true, e10, e00, lt_bg, Nat.reduceLT, Nat.reduceLeDiff, hle]
  | m + 1, i, h => by
    have hlt : ¬ nI n ≤ nI i := nI_ge (by omega) (by omega)
    have hi : am_inb (nI i) n = true := inb_n (by omega) (by omega)
    have hc : (nI i).toNatClampNeg = i := nI_clamp (by omega)
    rw [s275_5]
    simp only [s275_6, s275_7, s275_10, s275_11, s275_12, s275_13, s275_14, s275_17, ol_s, ol_n, ln_0, ln_1, ln_2, ln_3, ln_4, eq_self, rf_s, rf_n, i01_0, i01_n0, i01_b, b01_0, b01_1, and_self, and_true, true_and, and_false, false_and, if_true, if_false, not_true_eq_false, not_false_eq_true, e10, e00, lt_bg, Nat.reduceLT, Nat.reduceLeDiff, hk, hl, ha, hlt, hi, hc, nI_1, f_fillS]
    exact c275L hk hl hn ha m (i + 1) (by omega)
theorem c275 {a n : Nat} {v : Int32} (hk : τ.1 a = 15) (hl : τ.2.1 a = n) (hn : n < 10000) (ha : a < 1000000) : AW d 275 0 [.ref a, .int v, am_jk, am_jk] [] σ ρ g τ Q = Q none (am_ur σ a (f_fill v n (σ a))) ρ g τ := by
  have h := c275L (d := d) (σ := σ) (ρ := ρ) (g := g) (Q := Q) (v := v) hk hl hn ha n 0 (by omega)
  rw [f_fill0] at h
  have hk2 : 14 ≤ τ.1 a ∧ τ.1 a ≤ 22 := by omega
  simp only [s275_0, s275_1, s275_2, s275_3, s275_4, hk2, hl, and_self]
  exact h
theorem c276L {M a : Nat} (hM : τ.1 M = 6) (hr : ρ M 1 = some a) (hk : τ.1 a = 17) (hl : τ.2.1 a = 20) (ha : a < 1000000) : ∀ (m i : Nat), i + m = 20 → AW d 276 2 [.ref M, .int (nI i)] [] (am_ur σ a (f_fill 0 i (σ a))) ρ g τ Q = Q none (am_ur σ a (f_fill 0 20 (σ a))) ρ g τ
  | 0, i, h => by
    have e : i = 20 := by omega
    rw [e]
    have hle : (20 : Int32) ≤ nI 20 := by decide +kernel
    simp only [s276_2, s276_3, s276_5, s276_21, ol_s, ol_n, ln_0, ln_1, ln_2, ln_3, ln_4, eq_self, rf_s, rf_n, i01_0, i01_n0, i01_b, b01_0, b01_1, and_self, and_true, true_and, and_false, false_and, if_true, if_false, not_true_eq_false, not_false_eq_true, e10, e00, lt_bg, Nat.reduceLT, Nat.reduceLeDiff, hle]
  | m + 1, i, h => by
    have e20 : (20 : Int32) = nI 20 := by decide +kernel
    have hlt : ¬ (20 : Int32) ≤ nI i := by
      rw [e20]
      exact nI_ge (by omega) (by omega)
    have hi : am_inb (nI i) 20 = true := inb_n (by omega) (by omega)
    have hc : (nI i).toNatClampNeg = i := nI_clamp (by omega)
    rw [s276_2]
    simp only [s276_3, s276_5, s276_8, s276_9, s276_12, s276_13, s276_14, s276_15r, s276_18, ol_s, ol_n, ln_0, ln_1, ln_2, ln_3, ln_4, eq_self, rf_s, rf_n, i01_0, i01_n0, i01_b, b01_0, b01_1, and_self, and_true, true_and, and_false, false_and, if_true, if_false, not_true_eq_false, not_false_eq_true, e10, e00, lt_bg, Nat.reduceLT, Nat.reduceLeDiff, hM, hr, hk, hl, ha, hlt, hi, hc, nI_1, f_fillS]
    exact c276L hM hr hk hl ha m (i + 1) (by omega)
/-- a row of 20 booleans, the second reference of an object of class 6, becomes all 0 -/
theorem c276 {M a : Nat} (hM : τ.1 M = 6) (hr : ρ M 1 = some a) (hk : τ.1 a = 17) (hl : τ.2.1 a = 20) (ha : a < 1000000) : AW d 276 0 [.ref M, am_jk] [] σ ρ g τ Q = Q none (am_ur σ a (f_fill 0 20 (σ a))) ρ g τ := by
  have h := c276L (d := d) (σ := σ) (ρ := ρ) (g := g) (Q := Q) hM hr hk hl ha 20 0 (by omega)
  rw [f_fill0, nI_0] at h
  simp only [s276_0, s276_1r]
  exact h
theorem c44 {L : Nat} {v : Int32} (hk : τ.1 L = 4) : AW (d + 1) 44 0 [.ref L, .int v] [] σ ρ g τ Q = Q (some (.int (if 0 ≤ v ∧ v ≤ σ L 3 - 1 then 1 else 0))) σ ρ g τ := by
  simp only [s44_0, s44_1, s44_2, s44_3, s44_6, s44_7, s44_8, s44_11, ol_s, ol_n, ln_0, ln_1, ln_2, ln_3, ln_4, eq_self, rf_s, rf_n, i01_0, i01_n0, i01_b, b01_0, b01_1, and_self, and_true, true_and, and_false, false_and, if_true, if_false, not_true_eq_false, not_false_eq_true, e10, e00, lt_bg, Nat.reduceLT, Nat.reduceLeDiff, hk, c100]
theorem c43 {L : Nat} (hk : τ.1 L = 4) : AW d 43 0 [.ref L] [] σ ρ g τ Q = Q (some (.int (if σ L 0 ≤ σ L 3 then 1 else 0))) σ ρ g τ := by
  by_cases h : σ L 0 ≤ σ L 3
  · have h2 : ¬ σ L 3 < σ L 0 := Int32.not_lt.mpr h
    simp only [s43_0, s43_1, s43_4, s43_5, s43_8, s43_11, s43_12, s43_15, s43_16, ol_s, ol_n, ln_0, ln_1, ln_2, ln_3, ln_4, eq_self, rf_s, rf_n, i01_0, i01_n0, i01_b, b01_0, b01_1, and_self, and_true, true_and, and_false, false_and, if_true, if_false, not_true_eq_false, not_false_eq_true, e10, e00, lt_bg, Nat.reduceLT, Nat.reduceLeDiff, hk, h, h2]
  · have h2 : σ L 3 < σ L 0 := Int32.not_le.mp h
    simp only [s43_0, s43_1, s43_4, s43_5, s43_8, s43_11, s43_12, s43_15, s43_16, ol_s, ol_n, ln_0, ln_1, ln_2, ln_3, ln_4, eq_self, rf_s, rf_n, i01_0, i01_n0, i01_b, b01_0, b01_1, and_self, and_true, true_and, and_false, false_and, if_true, if_false, not_true_eq_false, not_false_eq_true, e10, e00, lt_bg, Nat.reduceLT, Nat.reduceLeDiff, hk, h, h2]
/-- a row comes: there is room -/
theorem c45 {L c mo : Nat} (hk : τ.1 L = 4) (hc : σ L 3 = nI c) (hm : σ L 0 = nI mo) (hlt : c < mo) (hmo : mo < 1000) : AW d 45 0 [.ref L] [] σ ρ g τ Q = Q (some (.int (nI c))) (am_u σ L 3 (nI (c + 1))) ρ g τ := by
  have h2 : ¬ nI mo ≤ nI c := nI_ge hlt (by omega)
  have e : am_u σ L 3 (nI (c + 1)) L 3 = nI (c + 1) := by simp [am_u]
  simp only [s45_0, s45_1, s45_4, s45_5, s45_8, s45_11, s45_12, s45_12r, s45_13, s45_16, s45_17, s45_18, s45_21, s45_22, s45_25, s45_26, s45_27, ol_s, ol_n, ln_0, ln_1, ln_2, ln_3, ln_4, eq_self, rf_s, rf_n, i01_0, i01_n0, i01_b, b01_0, b01_1, and_self, and_true, true_and, and_false, false_and, if_true, if_false, not_true_eq_false, not_false_eq_true, e10, e00, lt_bg, Nat.reduceLT, Nat.reduceLeDiff, hk, hc, hm, h2, nI_1, e, nI_pred]
theorem c46 {L A c w i k mo : Nat} (hk : τ.1 L = 4) (hkA : τ.1 A = 15) (hr : ρ L 2 = some A) (hc : σ L 3 = nI c) (hw : σ L 1 = nI w) (hl : τ.2.1 A = w * mo) (hi : i < c) (hkk : k < w) (hcm : c ≤ mo) (hmo : mo < 1000) (hww : w < 10) : AW (d + 2) 46 0 [.ref L, .int (nI i), .int (nI k)] [] σ ρ g τ Q = Q (some (.int (σ A (i * w + k)))) σ ρ g τ := by
  have h1 : 0 ≤ nI i ∧ nI i ≤ nI c - 1 := by
    obtain ⟨c', rfl⟩ : ∃ c', c = c' + 1 := ⟨c - 1, by omega⟩
    rw [nI_pred]
    exact ⟨nI_pos' (by omega), nI_le (by omega) (by omega)⟩
  have h2 : 0 ≤ nI k ∧ nI k ≤ nI w - 1 := by
    obtain ⟨c', rfl⟩ : ∃ c', w = c' + 1 := ⟨w - 1, by omega⟩
    rw [nI_pred]
    exact ⟨nI_pos' (by omega), nI_le (by omega) (by omega)⟩
  have hb : i * w + k < w * mo := by
    have : (i + 1) * w ≤ mo * w := Nat.mul_le_mul_right w (by omega)
    rw [Nat.mul_comm mo w, Nat.add_mul] at this
    omega
  have hb2 : w * mo < 10000 := by
    have := Nat.mul_le_mul (show w ≤ 9 by omega) (show mo ≤ 999 by omega)
    omega
  have hin : am_inb (nI (i * w + k)) (w * mo) = true := inb_n hb (by omega)
  have hcl : (nI (i * w + k)).toNatClampNeg = i * w + k := nI_clamp (by omega)
  simp only [s46_0, s46_1, s46_2, s46_5, s46_8, s46_9, s46_10, s46_11, s46_14, s46_15, s46_16, s46_19, s46_22, s46_23, s46_26, s46_27, s46_28, s46_31, s46_32, s46_33, s46_34, s46_35, s46_38, s46_39, ol_s, ol_n, ln_0, ln_1, ln_2, ln_3, ln_4, eq_self, rf_s, rf_n, i01_0, i01_n0, i01_b, b01_0, b01_1, and_self, and_true, true_and, and_false, false_and, if_true, if_false, not_true_eq_false, not_false_eq_true, e10, e00, lt_bg, Nat.reduceLT, Nat.reduceLeDiff, c44 hk, c100, hk, hkA, hr, hc, hw, hl, h1, h2, nI_mulL, nI_add, hin, hcl]
theorem c47 {L A c w i k mo : Nat} {v : Int32} (hk : τ.1 L = 4) (hkA : τ.1 A = 15) (hA : A < 1000000) (hr : ρ L 2 = some A) (hc : σ L 3 = nI c) (hw : σ L 1 = nI w) (hl : τ.2.1 A = w * mo) (hi : i < c) (hkk : k < w) (hcm : c ≤ mo) (hmo : mo < 1000) (hww : w < 10) : AW (d + 2) 47 0 [.ref L, .int (nI i), .int (nI k), .int v] [] σ ρ g τ Q = Q none (am_u σ A (i * w + k) v) ρ g τ := by
  have h1 : 0 ≤ nI i ∧ nI i ≤ nI c - 1 := by
    obtain ⟨c', rfl⟩ : ∃ c', c = c' + 1 := ⟨c - 1, by omega⟩
    rw [nI_pred]
    exact ⟨nI_pos' (by omega), nI_le (by omega) (by omega)⟩
  have h2 : 0 ≤ nI k ∧ nI k ≤ nI w - 1 := by
    obtain ⟨c', rfl⟩ : ∃ c', w = c' + 1 := ⟨w - 1, by omega⟩
    rw [nI_pred]
    exact ⟨nI_pos' (by omega), nI_le (by omega) (by omega)⟩
  have hb : i * w + k < w * mo := by
    have : (i + 1) * w ≤ mo * w := Nat.mul_le_mul_right w (by omega)
    rw [Nat.mul_comm mo w, Nat.add_mul] at this
    omega
  have hb2 : w * mo < 10000 := by
    have := Nat.mul_le_mul (show w ≤ 9 by omega) (show mo ≤ 999 by omega)
    omega
  have hin : am_inb (nI (i * w + k)) (w * mo) = true := inb_n hb (by omega)
  have hcl : (nI (i * w + k)).toNatClampNeg = i * w + k := nI_clamp (by omega)
  simp only [s47_0, s47_1, s47_2, s47_5, s47_8, s47_9, s47_10, s47_11, s47_14, s47_15, s47_16, s47_19, s47_22, s47_23, s47_26, s47_27, s47_28, s47_31, s47_32, s47_33, s47_34, s47_35, s47_36, ol_s, ol_n, ln_0, ln_1, ln_2, ln_3, ln_4, eq_self, rf_s, rf_n, i01_0, i01_n0, i01_b, b01_0, b01_1, and_self, and_true, true_and, and_false, false_and, if_true, if_false, not_true_eq_false, not_false_eq_true, e10, e00, lt_bg, Nat.reduceLT, Nat.reduceLeDiff, c44 hk, c100, hk, hkA, hA, hr, hc, hw, hl, h1, h2, nI_mulL, nI_add, hin, hcl]
end C3
