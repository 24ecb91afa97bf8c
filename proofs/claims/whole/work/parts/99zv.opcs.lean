/-! read: names as strings -/
section OCS
variable {d : Nat} {σ : am_I} {ρ : am_R} {g : am_J} {τ : am_T} {Q : am_Q}
/-- the string N is name i -/
def Nm (σ : am_I) (τ : am_T) (N i : Nat) : Prop := τ.1 N = 13 ∧ τ.1 (N + 38) = 14 ∧ τ.2.1 (N + 38) = nmL i ∧ ∀ k, k < nmL i → σ (N + 38) k = nI (nmC i k)
theorem nm_bg (hb : Bgd σ τ) {i : Nat} (hi : i < 38) : Nm σ τ (am_BG + (3 + i)) i := by
  obtain ⟨a1, a2, a3⟩ := hb (3 + i) (by omega) (by omega)
  obtain ⟨b1, b2, b3⟩ := hb (41 + i) (by omega) (by omega)
  have e : am_BG + (3 + i) + 38 = 1000000 + (41 + i) := by
    show 1000000 + (3 + i) + 38 = _
    omega
  have e0 : am_BG + (3 + i) = 1000000 + (3 + i) := rfl
  unfold Nm
  rw [e, e0]
  refine ⟨a2.trans ?_, b2.trans ?_, b3.trans ?_, fun k hk => ?_⟩
  · unfold am_oK
    rw [if_neg (by omega), if_pos (by omega)]
  · unfold am_oK
    rw [if_neg (by omega), if_neg (by omega), if_pos (by omega)]
  · unfold am_oL
    rw [if_neg (by omega), if_neg (by omega), if_neg (by omega), if_neg (by omega), if_pos (by omega), show 41 + i - 41 = i by omega]
    rfl
  · rw [b1]
    unfold am_oS
    rw [if_neg (by omega), if_neg (by omega), if_neg (by omega), if_pos (by omega), show 41 + i - 41 = i by omega]
    exact (nm_ch hi hk).2.2
theorem str_sh : ∀ m : Fin 8, nI m.1 >>> ((0 : Int32) &&& 31) = nI m.1 := by decide
theorem ch_0 : ∀ c : Fin 128, ((nI c.1 &&& 255).toUInt32 % 65536).toInt32 = nI c.1 ∧ decide (narrow .char (.int (nI c.1)) = .int (nI c.1)) = true := by decide +kernel
theorem s273_5f {x0 x1 : Value} {p0 p1 : Int32} : AW (d + 1) 273 5 [x0, x1] [.float 1, .int p1, .int p0] σ ρ g τ Q = AW d 278 0 [.int p0, .int p1, .float 1] [] σ ρ g τ (fun r9 σ ρ g τ => AW (d + 1) 273 8 [x0, x1] (r9.toList ++ []) σ ρ g τ Q) := aw_cs m273 d273_5 rfl (by simp only [List.length_cons]; omega) rfl rfl (am_en_of m278) (am_okc_of m278 rfl) rfl (by decide)
theorem c271 {N : Nat} (hN : τ.1 N = 13) : AW d 271 0 [.ref N] [] σ ρ g τ Q = Q (some (.int 0)) σ ρ g τ := by
  simp only [s271_0, s271_3, s271_6, s271_7, s271_10, s271_13, s271_14, ol_s, ol_n, ln_0, ln_1, ln_2, ln_3, ln_4, eq_self, rf_s, rf_n, i01_0, i01_n0, i01_b, b01_0, b01_1, and_self, and_true, true_and, and_false, false_and, if_true, if_false, not_true_eq_false, not_false_eq_true, e10, e00, lt_bg, Nat.reduceLT, Nat.reduceLeDiff, hN]
theorem c272 {N : Nat} (hN : τ.1 N = 13) : AW d 272 0 [.ref N] [] σ ρ g τ Q = Q (some (.int 1)) σ ρ g τ := by
  simp only [s272_0, s272_3, s272_6, s272_7, s272_10, s272_13, s272_14, s272_17, s272_18, ol_s, ol_n, ln_0, ln_1, ln_2, ln_3, ln_4, eq_self, rf_s, rf_n, i01_0, i01_n0, i01_b, b01_0, b01_1, and_self, and_true, true_and, and_false, false_and, if_true, if_false, not_true_eq_false, not_false_eq_true, e10, e00, lt_bg, Nat.reduceLT, Nat.reduceLeDiff, hN]
theorem c269 {N i : Nat} (hi : i < 38) (h : Nm σ τ N i) : AW (d + 1) 269 0 [.ref N] [] σ ρ g τ Q = Q (some (.int (nI (nmL i)))) σ ρ g τ := by
  obtain ⟨h1, h2, h3, h4⟩ := h
  have s : nI (nmL i) >>> ((0 : Int32) &&& 31) = nI (nmL i) := str_sh ⟨nmL i, by have := nm_len hi; omega⟩
  simp only [s269_0, s269_1, s269_4, s269_5, s269_6, s269_9, s269_10, ol_s, ol_n, ln_0, ln_1, ln_2, ln_3, ln_4, eq_self, rf_s, rf_n, i01_0, i01_n0, i01_b, b01_0, b01_1, and_self, and_true, true_and, and_false, false_and, if_true, if_false, not_true_eq_false, not_false_eq_true, e10, e00, lt_bg, Nat.reduceLT, Nat.reduceLeDiff, h1, h2, h3, c271 h1, s]
theorem c273 {k m : Nat} (hk : k < m) (hm : m < 1000) : AW (d + 1) 273 0 [.int (nI k), .int (nI m)] [] σ ρ g τ Q = Q none σ ρ g τ := by
  have l0 : ¬ nI k < 0 := Int32.not_lt.mpr (nI_le (a := 0) (Nat.zero_le _) (by omega))
  have l1 : nI k < nI m := Int32.not_le.mp (nI_ge (by omega) (by omega))
  simp only [s273_0, s273_1, s273_2, s273_8, s273_9, s273_5f, s278_0, s278_1, s278_4, s278_5, s278_6, s278_16, s278_17, ol_s, ol_n, ln_0, ln_1, ln_2, ln_3, ln_4, eq_self, rf_s, rf_n, i01_0, i01_n0, i01_b, b01_0, b01_1, and_self, and_true, true_and, and_false, false_and, if_true, if_false, not_true_eq_false, not_false_eq_true, e10, e00, lt_bg, Nat.reduceLT, Nat.reduceLeDiff, l0, l1]
theorem c270 {N i k : Nat} (hi : i < 38) (h : Nm σ τ N i) (hk : k < nmL i) : AW (d + 3) 270 0 [.ref N, .int (nI k)] [] σ ρ g τ Q = Q (some (.int (nI (nmC i k)))) σ ρ g τ := by
  obtain ⟨h1, h2, h3, h4⟩ := h
  have n := nm_len hi
  have v := h4 k hk
  obtain ⟨c1, c2⟩ := ch_0 ⟨nmC i k, (nm_ch hi hk).2.1⟩
  have c1 : ((nI (nmC i k) &&& 255).toUInt32 % 65536).toInt32 = nI (nmC i k) := c1
  have c2 : decide (narrow .char (.int (nI (nmC i k))) = .int (nI (nmC i k))) = true := c2
  have ik : am_inb (nI k) (nmL i) = true := inb_n hk (by omega)
  have ck : (nI k).toNatClampNeg = k := nI_clamp (by omega)
  have C := fun (d : Nat) (Q : am_Q) => c273 (d := d) (σ := σ) (ρ := ρ) (g := g) (τ := τ) (Q := Q) hk (by omega)
  simp only [s270_0, s270_1, s270_4, s270_7, s270_8, s270_11, s270_12, s270_15, s274_0, s274_1, s274_2, s274_3, s274_6, s274_7, s274_8, s274_9, s274_12, s274_13, s274_14, ol_s, ol_n, ln_0, ln_1, ln_2, ln_3, ln_4, eq_self, rf_s, rf_n, i01_0, i01_n0, i01_b, b01_0, b01_1, and_self, and_true, true_and, and_false, false_and, if_true, if_false, not_true_eq_false, not_false_eq_true, e10, e00, lt_bg, Nat.reduceLT, Nat.reduceLeDiff, h1, h2, h3, c272 h1, C, ik, ck, v, c1, c2, true_or]
end OCS
