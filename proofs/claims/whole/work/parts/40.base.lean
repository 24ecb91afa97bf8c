/-! small laws for the runs of the lean machine -/
theorem i01_0 (P : Prop) [Decidable P] : ((if P then (1 : Int32) else 0) = 0) = ¬ P := by
  by_cases h : P <;> simp [h]
theorem i01_n0 (P : Prop) [Decidable P] : (¬ (if P then (1 : Int32) else 0) = 0) = P := by
  by_cases h : P <;> simp [h]
theorem i01_b (P : Prop) [Decidable P] : am_b01 (if P then (1 : Int32) else 0) = true := by
  by_cases h : P <;> simp [h, am_b01]
theorem b01_0 : am_b01 0 = true := by decide
theorem b01_1 : am_b01 1 = true := by decide
theorem rf_s (a : Nat) : va_rf (some a) = .ref a := rfl
theorem rf_n : va_rf none = .null := rfl
theorem ol_s (v : Value) (st : List Value) : (some v).toList ++ st = v :: st := rfl
theorem ol_n (st : List Value) : (none : Option Value).toList ++ st = st := rfl
theorem ln_0 : ([] : List Value).length ≤ 4 := by decide
theorem ln_1 {a : Value} : [a].length ≤ 4 := by simp
theorem ln_2 {a b : Value} : [a, b].length ≤ 4 := by simp
theorem ln_3 {a b c : Value} : [a, b, c].length ≤ 4 := by simp
theorem ln_4 {a b c e : Value} : [a, b, c, e].length ≤ 4 := by simp
theorem inb_n {i n : Nat} (h : i < n) (hn : n < 2 ^ 31) : am_inb (nI i) n = true := by
  unfold am_inb
  exact decide_eq_true (nI_in h hn)
theorem cl_n {i : Nat} (h : i < 2 ^ 31) : (nI i).toNatClampNeg = i := nI_clamp h
/-- an int between bounds is a number -/
theorem i_rng {v : Int32} {n : Nat} (hn : n < 2 ^ 31) (h0 : 0 ≤ v) (h1 : v ≤ nI n) : ∃ j : Nat, j ≤ n ∧ v = nI j := by
  obtain ⟨j, hj, e⟩ := nI_of (x := v) (Int32.not_lt.mpr h0)
  subst e
  exact ⟨j, (nI_leI hj hn).mp h1, rfl⟩
section C0
variable {d : Nat} {σ : am_I} {ρ : am_R} {g : am_J} {τ : am_T} {Q : am_Q}
theorem c100 {v a b : Int32} : AW d 100 0 [.int v, .int a, .int b] [] σ ρ g τ Q = Q (some (.int (if a ≤ v ∧ v ≤ b then 1 else 0))) σ ρ g τ := by
  by_cases h1 : v < a
  · have h2 : ¬ (a ≤ v ∧ v ≤ b) := fun q => absurd h1 (Int32.not_lt.mpr q.1)
    simp only [s100_0, s100_1, s100_2, s100_5, s100_6, s100_7, s100_10, s100_11, s100_14, s100_15, h1, h2, if_true, if_false, b01_0, eq_self]
  · by_cases h3 : b < v
    · have h2 : ¬ (a ≤ v ∧ v ≤ b) := fun q => absurd h3 (Int32.not_lt.mpr q.2)
      simp only [s100_0, s100_1, s100_2, s100_5, s100_6, s100_7, s100_10, s100_11, s100_14, s100_15, h1, h3, h2, if_true, if_false, b01_0, eq_self]
    · have h2 : a ≤ v ∧ v ≤ b := ⟨Int32.not_lt.mp h1, Int32.not_lt.mp h3⟩
      simp only [s100_0, s100_1, s100_2, s100_5, s100_6, s100_7, s100_10, s100_11, s100_14, s100_15, h1, h3, h2, if_true, if_false, b01_1, and_self, eq_self]
theorem c165 {v a b : Int32} : AW d 165 0 [.int v, .int a, .int b] [] σ ρ g τ Q = Q (some (.int (if a ≤ v ∧ v ≤ b then 1 else 0))) σ ρ g τ := by
  by_cases h1 : v < a
  · have h2 : ¬ (a ≤ v ∧ v ≤ b) := fun q => absurd h1 (Int32.not_lt.mpr q.1)
    simp only [s165_0, s165_1, s165_2, s165_5, s165_6, s165_7, s165_10, s165_11, s165_14, s165_15, h1, h2, if_true, if_false, b01_0, eq_self]
  · by_cases h3 : b < v
    · have h2 : ¬ (a ≤ v ∧ v ≤ b) := fun q => absurd h3 (Int32.not_lt.mpr q.2)
      simp only [s165_0, s165_1, s165_2, s165_5, s165_6, s165_7, s165_10, s165_11, s165_14, s165_15, h1, h3, h2, if_true, if_false, b01_0, eq_self]
    · have h2 : a ≤ v ∧ v ≤ b := ⟨Int32.not_lt.mp h1, Int32.not_lt.mp h3⟩
      simp only [s165_0, s165_1, s165_2, s165_5, s165_6, s165_7, s165_10, s165_11, s165_14, s165_15, h1, h3, h2, if_true, if_false, b01_1, and_self, eq_self]
theorem c101 {v : Int32} : AW (d + 1) 101 0 [.int v] [] σ ρ g τ Q = Q (some (.int (if 0 ≤ v ∧ v ≤ 599 then 1 else 0))) σ ρ g τ := by
  simp only [s101_0, s101_1, s101_2, s101_5, s101_8, c100, ol_s, ln_0, i01_b, eq_self]
theorem c102 {v : Int32} : AW (d + 1) 102 0 [.int v] [] σ ρ g τ Q = Q (some (.int (if 0 ≤ v ∧ v ≤ 2 then 1 else 0))) σ ρ g τ := by
  simp only [s102_0, s102_1, s102_2, s102_3, s102_6, c100, ol_s, ln_0, i01_b, eq_self]
theorem c103 {v : Int32} : AW (d + 1) 103 0 [.int v] [] σ ρ g τ Q = Q (some (.int (if 0 ≤ v ∧ v ≤ 4 then 1 else 0))) σ ρ g τ := by
  simp only [s103_0, s103_1, s103_2, s103_3, s103_6, c100, ol_s, ln_0, i01_b, eq_self]
theorem c104 {v : Int32} : AW (d + 1) 104 0 [.int v] [] σ ρ g τ Q = Q (some (.int (if 1 ≤ v ∧ v ≤ 999 then 1 else 0))) σ ρ g τ := by
  simp only [s104_0, s104_1, s104_2, s104_5, s104_8, c100, ol_s, ln_0, i01_b, eq_self]
theorem c105 {v : Int32} : AW (d + 1) 105 0 [.int v] [] σ ρ g τ Q = Q (some (.int (if 1 ≤ v ∧ v ≤ 12 then 1 else 0))) σ ρ g τ := by
  simp only [s105_0, s105_1, s105_2, s105_4, s105_7, c100, ol_s, ln_0, i01_b, eq_self]
theorem c106 {v : Int32} : AW (d + 1) 106 0 [.int v] [] σ ρ g τ Q = Q (some (.int (if 0 ≤ v ∧ v ≤ 3 then 1 else 0))) σ ρ g τ := by
  simp only [s106_0, s106_1, s106_2, s106_3, s106_6, c100, ol_s, ln_0, i01_b, eq_self]
theorem c107 {v : Int32} : AW (d + 1) 107 0 [.int v] [] σ ρ g τ Q = Q (some (.int (if 0 ≤ v ∧ v ≤ 3 then 1 else 0))) σ ρ g τ := by
  simp only [s107_0, s107_1, s107_2, s107_3, s107_6, c100, ol_s, ln_0, i01_b, eq_self]
theorem c166 {v : Int32} : AW (d + 1) 166 0 [.int v] [] σ ρ g τ Q = Q (some (.int (if 0 ≤ v ∧ v ≤ 599 then 1 else 0))) σ ρ g τ := by
  simp only [s166_0, s166_1, s166_2, s166_5, s166_8, c165, ol_s, ln_0, i01_b, eq_self]
end C0
