/-! read: the text, the class -/
section ODG
variable {d : Nat} {σ : am_I} {ρ : am_R} {g : am_J} {τ : am_T} {Q : am_Q}
def pTx (b : Nat → Nat) (l : Nat) : Nat → Nat → Bool × Nat × List Lr
  | 0, p => (decide (kd b l p = 0), p, [])
  | n + 1, p => if kd b l p = 0 then (true, p, []) else if (pLn b l p).1 = true then ((pTx b l n (pLn b l p).2.1).1, (pTx b l n (pLn b l p).2.1).2.1, pLn b l p :: (pTx b l n (pLn b l p).2.1).2.2) else (false, (pLn b l p).2.1, [])
theorem pTx_b {b : Nat → Nat} {l : Nat} : ∀ n p, p ≤ l → p ≤ (pTx b l n p).2.1 ∧ (pTx b l n p).2.1 ≤ l ∧ (pTx b l n p).2.2.length ≤ n
  | 0, p, h => ⟨Nat.le_refl _, h, Nat.le_refl _⟩
  | n + 1, p, h => by
    obtain ⟨w1, w2, w3⟩ := pLn_w (b := b) h
    by_cases a : kd b l p = 0
    · have u : pTx b l (n + 1) p = (true, p, []) := if_pos a
      rw [u]
      exact ⟨Nat.le_refl _, h, Nat.zero_le _⟩
    by_cases c : (pLn b l p).1 = true
    · have u : pTx b l (n + 1) p = ((pTx b l n (pLn b l p).2.1).1, (pTx b l n (pLn b l p).2.1).2.1, pLn b l p :: (pTx b l n (pLn b l p).2.1).2.2) := by
        show (if kd b l p = 0 then _ else _) = _
        rw [if_neg a, if_pos c]
      obtain ⟨i1, i2, i3⟩ := pTx_b (b := b) n (pLn b l p).2.1 w2
      rw [u]
      refine ⟨by show p ≤ (pTx b l n (pLn b l p).2.1).2.1; omega, i2, ?_⟩
      show (pTx b l n (pLn b l p).2.1).2.2.length + 1 ≤ n + 1
      omega
    · have u : pTx b l (n + 1) p = (false, (pLn b l p).2.1, []) := by
        show (if kd b l p = 0 then _ else _) = _
        rw [if_neg a, if_neg c]
      rw [u]
      exact ⟨w1, w2, Nat.zero_le _⟩
def lr0 : Lr := pBad 0
/-- the line of a record lies in cell L -/
def LnR (σ : am_I) (ρ : am_R) (τ : am_T) (N L : Nat) (r : Lr) : Prop := LnC σ ρ τ N L (nI r.2.2.1) r.2.2.2.1 r.2.2.2.2.1 r.2.2.2.2.2
theorem LnC.cg {N L M : Nat} {sv num sof : Int32} {ts : List Tk} {σ' : am_I} {ρ' : am_R} {τ' : am_T} (h : LnC σ ρ τ N L sv num sof ts) (hN : 261 ≤ N) (hL : N ≤ L) (hM : L < M) (h1 : τ.2.2.1 ≤ M) (h2 : M ≤ τ'.2.2.1) (e : ∀ z, 261 ≤ z → z < M → σ' z = σ z ∧ ρ' z = ρ z ∧ τ'.1 z = τ.1 z ∧ τ'.2.1 z = τ.2.1 z) : LnC σ' ρ' τ' N L sv num sof ts := by
  obtain ⟨a1, a2, a3, a4, a5⟩ := h
  obtain ⟨e1, e2, e3, e4⟩ := e L (by omega) hM
  refine ⟨e3.trans a1, by rw [e1]; exact a2, by rw [e1]; exact a3, by rw [e1]; exact a4, ?_⟩
  rcases a5 with ⟨b1, b2⟩ | ⟨b1, cd, b2, b3, b4, b5, b6, b7⟩
  · exact Or.inl ⟨b1, by rw [e2]; exact b2⟩
  · obtain ⟨f1, f2, f3, f4⟩ := e cd (by omega) (by omega)
    exact Or.inr ⟨b1, cd, by rw [e2]; exact b2, b3, by omega, f3.trans b5, f4.trans b6, fun k hk => by rw [f1]; exact b7 k hk⟩
/-- lines were made -/
def TXC (σ : am_I) (ρ : am_R) (g : am_J) (τ : am_T) (σ' : am_I) (ρ' : am_R) (g' : am_J) (τ' : am_T) (i p p' : Nat) (rs : List Lr) : Prop :=
  (τ.2.2.1 ≤ τ'.2.2.1 ∧ τ'.2.2.1 ≤ τ.2.2.1 + 2 * rs.length ∧ τ'.2.2.2 + p ≤ τ.2.2.2 + 4 * rs.length + p') ∧
  ((∀ z, z ≠ 131 → z ≠ 133 → z < τ.2.2.1 ∨ τ'.2.2.1 ≤ z → σ' z = σ z) ∧ (∀ k, k ≠ 2 → k ≠ 3 → k ≠ 4 → k ≠ 5 → k ≠ 7 → k ≠ 9 → σ' 131 k = σ 131 k) ∧ σ' 131 9 = nI (i + rs.length)) ∧
  ((∀ z, z ≠ 134 → z < τ.2.2.1 ∨ τ'.2.2.1 ≤ z → ρ' z = ρ z) ∧ (∀ k, k < i → ρ' 134 k = ρ 134 k)) ∧
  ((∀ z, z < τ.2.2.1 ∨ τ'.2.2.1 ≤ z → g' z = g z) ∧ (∀ z, z < τ.2.2.1 ∨ τ'.2.2.1 ≤ z → τ'.1 z = τ.1 z ∧ τ'.2.1 z = τ.2.1 z) ∧ Sh ρ' τ') ∧
  ∀ k, k < rs.length → ∃ L, ρ' 134 (i + k) = some L ∧ τ.2.2.1 ≤ L ∧ L < τ'.2.2.1 ∧ LnR σ' ρ' τ' τ.2.2.1 L (rs.getD k lr0)
theorem TXC.nil (hS : Sh ρ τ) {b : Nat → Nat} {l i p p' q : Nat} {s : am_I} (hF : CFr b l σ s q) (h9 : σ 131 9 = nI i) (hp : p ≤ p') : TXC σ ρ g τ s ρ g τ i p p' [] := by
  refine ⟨⟨Nat.le_refl _, Nat.le_refl _, by show τ.2.2.2 + p ≤ τ.2.2.2 + 0 + p'; omega⟩, ⟨fun z h1 h2 _ => hF.1 z h1 h2, fun k h2 h3 h4 h5 h7 _ => hF.2.1 k h2 h3 h4 h5 h7, ?_⟩, ⟨fun _ _ _ => rfl, fun _ _ => rfl⟩, ⟨fun _ _ => rfl, fun _ _ => ⟨rfl, rfl⟩, hS⟩, fun k hk => absurd hk (Nat.not_lt_zero _)⟩
  rw [hF.2.1 9 (by decide) (by decide) (by decide) (by decide) (by decide)]
  exact h9
theorem TXC.cons (hS : Sh ρ τ) {b : Nat → Nat} {l i p p1 p' q L : Nat} {s σ1 σ' : am_I} {ρ1 ρ' : am_R} {g1 g' : am_J} {τ1 τ' : am_T} {r : Lr} {rs : List Lr} (hF : CFr b l σ s q) (h : LC s ρ g τ σ1 ρ1 g1 τ1 i L (nI r.2.2.1) r.2.2.2.1 r.2.2.2.2.1 r.2.2.2.2.2) (hr : p + r.2.2.2.2.2.length ≤ p1) (h2 : TXC σ1 ρ1 g1 τ1 σ' ρ' g' τ' (i + 1) p1 p' rs) : TXC σ ρ g τ σ' ρ' g' τ' i p p' (r :: rs) := by
  have h261 := hS.2.2.2.2.2.2
  obtain ⟨⟨a1, a2, a3, a4⟩, ⟨b1, b2, b3⟩, ⟨c1, c2, c3⟩, ⟨d1, d2, d3⟩, e1⟩ := h
  obtain ⟨⟨k1, k2, k3⟩, ⟨l1, l2, l3⟩, ⟨m1, m2⟩, ⟨n1, n2, n3⟩, o1⟩ := h2
  have len : (r :: rs).length = rs.length + 1 := rfl
  rw [a3] at k1 k2
  refine ⟨⟨by omega, by rw [len]; omega, by rw [len]; omega⟩, ⟨fun z z1 z2 z3 => ?_, fun k h2 h3 h4 h5 h7 h9 => ?_, ?_⟩, ⟨fun z z1 z2 => ?_, fun k hk => ?_⟩, ⟨fun z z1 => ?_, fun z z1 => ?_, n3⟩, fun k hk => ?_⟩
  · rw [l1 z z1 z2 (by rw [a3]; omega), b1 z z1 (by omega), hF.1 z z1 z2]
  · rw [l2 k h2 h3 h4 h5 h7 h9, b2 k h9, hF.2.1 k h2 h3 h4 h5 h7]
  · rw [l3, len]
    congr 1
    omega
  · rw [m1 z z1 (by rw [a3]; omega), c1 z z1 (by omega)]
  · rw [m2 k (by omega), c2 k (by omega)]
  · rw [n1 z (by rw [a3]; omega), d1 z (by omega)]
  · obtain ⟨x1, x2⟩ := n2 z (by rw [a3]; omega)
    obtain ⟨y1, y2⟩ := d2 z (by omega)
    exact ⟨x1.trans y1, x2.trans y2⟩
  · by_cases z : k = 0
    · subst z
      refine ⟨L, ?_, a1, by omega, ?_⟩
      · show ρ' 134 i = some L
        rw [m2 i (by omega)]
        exact c3
      · show LnC σ' ρ' τ' τ.2.2.1 L (nI r.2.2.1) r.2.2.2.1 r.2.2.2.2.1 r.2.2.2.2.2
        refine e1.cg h261 a1 (M := L + 1) (by omega) (by omega) (by omega) (fun w w1 w2 => ?_)
        obtain ⟨x1, x2⟩ := n2 w (by rw [a3]; omega)
        exact ⟨l1 w (by omega) (by omega) (by rw [a3]; omega), m1 w (by omega) (by rw [a3]; omega), x1, x2⟩
    · obtain ⟨k', e⟩ : ∃ k', k = k' + 1 := ⟨k - 1, by omega⟩
      subst e
      rw [len] at hk
      obtain ⟨L', q1, q2, q3, q4⟩ := o1 k' (by omega)
      refine ⟨L', ?_, by omega, q3, ?_⟩
      · rw [show i + (k' + 1) = i + 1 + k' by omega]
        exact q1
      · show LnR σ' ρ' τ' τ.2.2.1 L' (rs.getD k' lr0)
        obtain ⟨x1, x2, x3, x4, x5⟩ := q4
        refine ⟨x1, x2, x3, x4, ?_⟩
        rcases x5 with x | ⟨y1, cd, y2, y3, y4⟩
        · exact Or.inl x
        · exact Or.inr ⟨y1, cd, y2, by omega, y4⟩
theorem c78L {b : Nat → Nat} {l : Nat} : ∀ (n i p : Nat) (σ : am_I) (ρ : am_R) (g : am_J) (τ : am_T), i + n = 10 → p ≤ l → Sh ρ τ → Bgd σ τ → TC b l σ → CT b l p σ → σ 131 9 = nI i → τ.2.2.1 + 2 * n ≤ 1000000 → ∃ (σ' : am_I) (ρ' : am_R) (g' : am_J) (τ' : am_T), TXC σ ρ g τ σ' ρ' g' τ' i p (pTx b l n p).2.1 (pTx b l n p).2.2 ∧ CT b l (pTx b l n p).2.1 σ' ∧ ∀ (d : Nat) (Q : am_Q), AW (d + 29) 78 16 [.ref 131, .int (nI i)] [] σ ρ g τ Q = Q (some (.int (bI (pTx b l n p).1))) σ' ρ' g' τ'
  | 0, i, p, σ, ρ, g, τ, e, hp, hS, hb, hT, hc, h9, hN => by
    have e : i = 10 := by omega
    subst e
    have le : ((10 : Int32) ≤ nI 10) = True := by decide
    refine ⟨σ, ρ, g, τ, TXC.nil (b := b) (l := l) (q := p) hS ⟨fun _ _ _ => rfl, fun _ _ _ _ _ _ => rfl, hc⟩ h9 (Nat.le_refl _), hc, fun d Q => ?_⟩
    have kb : kd b l p ≤ 3 := by
      rcases kd_c b l p with h | h | h | h <;> omega
    have E0 := nI_eq0 (a := kd b l p) (by omega)
    have h4 := hc.2.2.1
    have u : (pTx b l 0 p).1 = decide (kd b l p = 0) := rfl
    rw [u]
    by_cases z : kd b l p = 0
    · have E0 := E0.trans (eq_true z)
      have w : bI (decide (kd b l p = 0)) = 1 := bI_t (decide_eq_true z)
      simp only [s78_16, s78_17, s78_19, s78_44, s78_45, s78_48, s78_51, s78_52, s78_55, s78_56, k_0 hS, k_1 hS, k_2 hS, l_2 hS, k_3 hS, l_3 hS, k_4 hS, l_4 hS, k_5 hS, l_5 hS, k_6 hS, l_6 hS, k_7 hS, k_8 hS, l_8 hS, k_9 hS, l_9 hS, k_10 hS, k_11 hS, l_11 hS, k_12 hS, k_13 hS, l_13 hS, k_14 hS, k_15 hS, l_15 hS, k_16 hS, k_17 hS, l_17 hS, k_66 hS, k_67 hS, l_67 hS, k_68 hS, l_68 hS, k_69 hS, l_69 hS, k_70 hS, l_70 hS, k_71 hS, l_71 hS, k_72 hS, k_73 hS, l_73 hS, k_74 hS, l_74 hS, k_75 hS, k_76 hS, l_76 hS, k_77 hS, k_78 hS, l_78 hS, k_79 hS, k_80 hS, l_80 hS, k_81 hS, k_82 hS, l_82 hS, k_131 hS, k_132 hS, l_132 hS, k_133 hS, l_133 hS, k_134 hS, l_134 hS, k_135 hS, k_136 hS, l_136 hS, k_137 hS, l_137 hS, k_138 hS, l_138 hS, k_139 hS, l_139 hS, k_140 hS, k_141 hS, l_141 hS, k_142 hS, l_142 hS, k_143 hS, k_144 hS, l_144 hS, k_145 hS, k_146 hS, l_146 hS, k_147 hS, l_147 hS, k_148 hS, l_148 hS, k_153 hS, l_153 hS, k_154 hS, l_154 hS, k_155 hS, l_155 hS, k_156 hS, k_157 hS, l_157 hS, k_158 hS, l_158 hS, k_159 hS, l_159 hS, r_0_0 hS, r_0_1 hS, r_0_3 hS, r_0_4 hS, r_0_5 hS, r_0_6 hS, r_0_7 hS, r_0_8 hS, r_0_9 hS, r_0_10 hS, r_1_2 hS, r_1_3 hS, r_1_4 hS, r_1_5 hS, r_1_7 hS, r_1_9 hS, r_1_10 hS, r_1_12 hS, r_1_13 hS, r_1_14 hS, r_1_15 hS, r_7_1 hS, r_10_2 hS, r_12_2 hS, r_14_2 hS, r_16_2 hS, r_66_2 hS, r_66_3 hS, r_66_4 hS, r_66_5 hS, r_66_7 hS, r_66_9 hS, r_66_10 hS, r_66_12 hS, r_66_13 hS, r_66_14 hS, r_66_15 hS, r_72_1 hS, r_75_2 hS, r_77_2 hS, r_79_2 hS, r_81_2 hS, r_131_0 hS, r_131_6 hS, r_131_8 hS, r_135_0 hS, r_135_1 hS, r_135_2 hS, r_135_3 hS, r_140_0 hS, r_140_1 hS, r_143_2 hS, r_145_0 hS, r_145_1 hS, r_145_2 hS, r_145_3 hS, r_145_4 hS, r_145_5 hS, r_156_5 hS, k_pv hS, k_pvr hS, k_db hS, k_dbr hS, k_sh hS, l_pvr hS, l_dbr hS, l_sh hS, r_5 hS, r_6 hS, r_pv hS, r_db hS, r_148 hS, ol_s, ol_n, ln_0, ln_1, ln_2, ln_3, ln_4, eq_self, rf_s, rf_n, i01_0, i01_n0, i01_b, b01_0, b01_1, and_self, and_true, true_and, and_false, false_and, if_true, if_false, not_true_eq_false, not_false_eq_true, e10, e00, lt_bg, Nat.reduceLT, Nat.reduceLeDiff, le, h4, E0, w]
    · have E0 := E0.trans (eq_false z)
      have w : bI (decide (kd b l p = 0)) = 0 := bI_f (decide_eq_false z)
      simp only [s78_16, s78_17, s78_19, s78_44, s78_45, s78_48, s78_51, s78_52, s78_55, s78_56, k_0 hS, k_1 hS, k_2 hS, l_2 hS, k_3 hS, l_3 hS, k_4 hS, l_4 hS, k_5 hS, l_5 hS, k_6 hS, l_6 hS, k_7 hS, k_8 hS, l_8 hS, k_9 hS, l_9 hS, k_10 hS, k_11 hS, l_11 hS, k_12 hS, k_13 hS, l_13 hS, k_14 hS, k_15 hS, l_15 hS, k_16 hS, k_17 hS, l_17 hS, k_66 hS, k_67 hS, l_67 hS, k_68 hS, l_68 hS, k_69 hS, l_69 hS, k_70 hS, l_70 hS, k_71 hS, l_71 hS, k_72 hS, k_73 hS, l_73 hS, k_74 hS, l_74 hS, k_75 hS, k_76 hS, l_76 hS, k_77 hS, k_78 hS, l_78 hS, k_79 hS, k_80 hS, l_80 hS, k_81 hS, k_82 hS, l_82 hS, k_131 hS, k_132 hS, l_132 hS, k_133 hS, l_133 hS, k_134 hS, l_134 hS, k_135 hS, k_136 hS, l_136 hS, k_137 hS, l_137 hS, k_138 hS, l_138 hS, k_139 hS, l_139 hS, k_140 hS, k_141 hS, l_141 hS, k_142 hS, l_142 hS, k_143 hS, k_144 hS, l_144 hS, k_145 hS, k_146 hS, l_146 hS, k_147 hS, l_147 hS, k_148 hS, l_148 hS, k_153 hS, l_153 hS, k_154 hS, l_154 hS, k_155 hS, l_155 hS, k_156 hS, k_157 hS, l_157 hS, k_158 hS, l_158 hS, k_159 hS, l_159 hS, r_0_0 hS, r_0_1 hS, r_0_3 hS, r_0_4 hS, r_0_5 hS, r_0_6 hS, r_0_7 hS, r_0_8 hS, r_0_9 hS, r_0_10 hS, r_1_2 hS, r_1_3 hS, r_1_4 hS, r_1_5 hS, r_1_7 hS, r_1_9 hS, r_1_10 hS, r_1_12 hS, r_1_13 hS, r_1_14 hS, r_1_15 hS, r_7_1 hS, r_10_2 hS, r_12_2 hS, r_14_2 hS, r_16_2 hS, r_66_2 hS, r_66_3 hS, r_66_4 hS, r_66_5 hS, r_66_7 hS, r_66_9 hS, r_66_10 hS, r_66_12 hS, r_66_13 hS, r_66_14 hS, r_66_15 hS, r_72_1 hS, r_75_2 hS, r_77_2 hS, r_79_2 hS, r_81_2 hS, r_131_0 hS, r_131_6 hS, r_131_8 hS, r_135_0 hS, r_135_1 hS, r_135_2 hS, r_135_3 hS, r_140_0 hS, r_140_1 hS, r_143_2 hS, r_145_0 hS, r_145_1 hS, r_145_2 hS, r_145_3 hS, r_145_4 hS, r_145_5 hS, r_156_5 hS, k_pv hS, k_pvr hS, k_db hS, k_dbr hS, k_sh hS, l_pvr hS, l_dbr hS, l_sh hS, r_5 hS, r_6 hS, r_pv hS, r_db hS, r_148 hS, ol_s, ol_n, ln_0, ln_1, ln_2, ln_3, ln_4, eq_self, rf_s, rf_n, i01_0, i01_n0, i01_b, b01_0, b01_1, and_self, and_true, true_and, and_false, false_and, if_true, if_false, not_true_eq_false, not_false_eq_true, e10, e00, lt_bg, Nat.reduceLT, Nat.reduceLeDiff, le, h4, E0, w]
  | n + 1, i, p, σ, ρ, g, τ, e, hp, hS, hb, hT, hc, h9, hN => by
    have h261 := hS.2.2.2.2.2.2
    have e10' : nI 10 = (10 : Int32) := by decide
    have le : ¬ (10 : Int32) ≤ nI i := by rw [← e10']; exact nI_ge (by omega) (by omega)
    have kb : kd b l p ≤ 3 := by
      rcases kd_c b l p with h | h | h | h <;> omega
    have E0 := nI_eq0 (a := kd b l p) (by omega)
    have h4 := hc.2.2.1
    have wt : bI true = 1 := rfl
    have wf : bI false = 0 := rfl
    by_cases z : kd b l p = 0
    · have E0 := E0.trans (eq_true z)
      have u : pTx b l (n + 1) p = (true, p, []) := if_pos z
      rw [u]
      refine ⟨σ, ρ, g, τ, TXC.nil (b := b) (l := l) (q := p) hS ⟨fun _ _ _ => rfl, fun _ _ _ _ _ _ => rfl, hc⟩ h9 (Nat.le_refl _), hc, fun d Q => ?_⟩
      simp only [s78_16, s78_17, s78_19, s78_22, s78_23, s78_26, s78_44, s78_45, s78_48, s78_51, s78_52, s78_55, s78_56, k_0 hS, k_1 hS, k_2 hS, l_2 hS, k_3 hS, l_3 hS, k_4 hS, l_4 hS, k_5 hS, l_5 hS, k_6 hS, l_6 hS, k_7 hS, k_8 hS, l_8 hS, k_9 hS, l_9 hS, k_10 hS, k_11 hS, l_11 hS, k_12 hS, k_13 hS, l_13 hS, k_14 hS, k_15 hS, l_15 hS, k_16 hS, k_17 hS, l_17 hS, k_66 hS, k_67 hS, l_67 hS, k_68 hS, l_68 hS, k_69 hS, l_69 hS, k_70 hS, l_70 hS, k_71 hS, l_71 hS, k_72 hS, k_73 hS, l_73 hS, k_74 hS, l_74 hS, k_75 hS, k_76 hS, l_76 hS, k_77 hS, k_78 hS, l_78 hS, k_79 hS, k_80 hS, l_80 hS, k_81 hS, k_82 hS, l_82 hS, k_131 hS, k_132 hS, l_132 hS, k_133 hS, l_133 hS, k_134 hS, l_134 hS, k_135 hS, k_136 hS, l_136 hS, k_137 hS, l_137 hS, k_138 hS, l_138 hS, k_139 hS, l_139 hS, k_140 hS, k_141 hS, l_141 hS, k_142 hS, l_142 hS, k_143 hS, k_144 hS, l_144 hS, k_145 hS, k_146 hS, l_146 hS, k_147 hS, l_147 hS, k_148 hS, l_148 hS, k_153 hS, l_153 hS, k_154 hS, l_154 hS, k_155 hS, l_155 hS, k_156 hS, k_157 hS, l_157 hS, k_158 hS, l_158 hS, k_159 hS, l_159 hS, r_0_0 hS, r_0_1 hS, r_0_3 hS, r_0_4 hS, r_0_5 hS, r_0_6 hS, r_0_7 hS, r_0_8 hS, r_0_9 hS, r_0_10 hS, r_1_2 hS, r_1_3 hS, r_1_4 hS, r_1_5 hS, r_1_7 hS, r_1_9 hS, r_1_10 hS, r_1_12 hS, r_1_13 hS, r_1_14 hS, r_1_15 hS, r_7_1 hS, r_10_2 hS, r_12_2 hS, r_14_2 hS, r_16_2 hS, r_66_2 hS, r_66_3 hS, r_66_4 hS, r_66_5 hS, r_66_7 hS, r_66_9 hS, r_66_10 hS, r_66_12 hS, r_66_13 hS, r_66_14 hS, r_66_15 hS, r_72_1 hS, r_75_2 hS, r_77_2 hS, r_79_2 hS, r_81_2 hS, r_131_0 hS, r_131_6 hS, r_131_8 hS, r_135_0 hS, r_135_1 hS, r_135_2 hS, r_135_3 hS, r_140_0 hS, r_140_1 hS, r_143_2 hS, r_145_0 hS, r_145_1 hS, r_145_2 hS, r_145_3 hS, r_145_4 hS, r_145_5 hS, r_156_5 hS, k_pv hS, k_pvr hS, k_db hS, k_dbr hS, k_sh hS, l_pvr hS, l_dbr hS, l_sh hS, r_5 hS, r_6 hS, r_pv hS, r_db hS, r_148 hS, ol_s, ol_n, ln_0, ln_1, ln_2, ln_3, ln_4, eq_self, rf_s, rf_n, i01_0, i01_n0, i01_b, b01_0, b01_1, and_self, and_true, true_and, and_false, false_and, if_true, if_false, not_true_eq_false, not_false_eq_true, e10, e00, lt_bg, Nat.reduceLT, Nat.reduceLeDiff, le, h4, E0, wt]
    have E0 := E0.trans (eq_false z)
    obtain ⟨w1, w2, w3⟩ := pLn_w (b := b) hp
    rcases c86 (g := g) hS hb hT hp hc (m := i) (by omega) h9 (by omega) with ⟨x1, s, F, R⟩ | ⟨x1, s, L, σ1, ρ1, g1, τ1, F, K, R⟩
    · have u : pTx b l (n + 1) p = (false, (pLn b l p).2.1, []) := by
        show (if kd b l p = 0 then _ else _) = _
        rw [if_neg z, if_neg (by rw [x1]; decide)]
      rw [u]
      refine ⟨s, ρ, g, τ, TXC.nil hS F h9 w1, F.2.2, fun d Q => ?_⟩
      simp only [s78_16, s78_17, s78_19, s78_22, s78_23, s78_26, s78_29, s78_30, s78_33, s78_36, s78_37, k_0 hS, k_1 hS, k_2 hS, l_2 hS, k_3 hS, l_3 hS, k_4 hS, l_4 hS, k_5 hS, l_5 hS, k_6 hS, l_6 hS, k_7 hS, k_8 hS, l_8 hS, k_9 hS, l_9 hS, k_10 hS, k_11 hS, l_11 hS, k_12 hS, k_13 hS, l_13 hS, k_14 hS, k_15 hS, l_15 hS, k_16 hS, k_17 hS, l_17 hS, k_66 hS, k_67 hS, l_67 hS, k_68 hS, l_68 hS, k_69 hS, l_69 hS, k_70 hS, l_70 hS, k_71 hS, l_71 hS, k_72 hS, k_73 hS, l_73 hS, k_74 hS, l_74 hS, k_75 hS, k_76 hS, l_76 hS, k_77 hS, k_78 hS, l_78 hS, k_79 hS, k_80 hS, l_80 hS, k_81 hS, k_82 hS, l_82 hS, k_131 hS, k_132 hS, l_132 hS, k_133 hS, l_133 hS, k_134 hS, l_134 hS, k_135 hS, k_136 hS, l_136 hS, k_137 hS, l_137 hS, k_138 hS, l_138 hS, k_139 hS, l_139 hS, k_140 hS, k_141 hS, l_141 hS, k_142 hS, l_142 hS, k_143 hS, k_144 hS, l_144 hS, k_145 hS, k_146 hS, l_146 hS, k_147 hS, l_147 hS, k_148 hS, l_148 hS, k_153 hS, l_153 hS, k_154 hS, l_154 hS, k_155 hS, l_155 hS, k_156 hS, k_157 hS, l_157 hS, k_158 hS, l_158 hS, k_159 hS, l_159 hS, r_0_0 hS, r_0_1 hS, r_0_3 hS, r_0_4 hS, r_0_5 hS, r_0_6 hS, r_0_7 hS, r_0_8 hS, r_0_9 hS, r_0_10 hS, r_1_2 hS, r_1_3 hS, r_1_4 hS, r_1_5 hS, r_1_7 hS, r_1_9 hS, r_1_10 hS, r_1_12 hS, r_1_13 hS, r_1_14 hS, r_1_15 hS, r_7_1 hS, r_10_2 hS, r_12_2 hS, r_14_2 hS, r_16_2 hS, r_66_2 hS, r_66_3 hS, r_66_4 hS, r_66_5 hS, r_66_7 hS, r_66_9 hS, r_66_10 hS, r_66_12 hS, r_66_13 hS, r_66_14 hS, r_66_15 hS, r_72_1 hS, r_75_2 hS, r_77_2 hS, r_79_2 hS, r_81_2 hS, r_131_0 hS, r_131_6 hS, r_131_8 hS, r_135_0 hS, r_135_1 hS, r_135_2 hS, r_135_3 hS, r_140_0 hS, r_140_1 hS, r_143_2 hS, r_145_0 hS, r_145_1 hS, r_145_2 hS, r_145_3 hS, r_145_4 hS, r_145_5 hS, r_156_5 hS, k_pv hS, k_pvr hS, k_db hS, k_dbr hS, k_sh hS, l_pvr hS, l_dbr hS, l_sh hS, r_5 hS, r_6 hS, r_pv hS, r_db hS, r_148 hS, ol_s, ol_n, ln_0, ln_1, ln_2, ln_3, ln_4, eq_self, rf_s, rf_n, i01_0, i01_n0, i01_b, b01_0, b01_1, and_self, and_true, true_and, and_false, false_and, if_true, if_false, not_true_eq_false, not_false_eq_true, e10, e00, lt_bg, Nat.reduceLT, Nat.reduceLeDiff, le, h4, E0, R, wf]
    · have u : pTx b l (n + 1) p = ((pTx b l n (pLn b l p).2.1).1, (pTx b l n (pLn b l p).2.1).2.1, pLn b l p :: (pTx b l n (pLn b l p).2.1).2.2) := by
        show (if kd b l p = 0 then _ else _) = _
        rw [if_neg z, if_pos x1]
      obtain ⟨y1, _⟩ := w3 x1
      have K0 := K
      obtain ⟨⟨a1, a2, a3, a4⟩, ⟨b1, b2, b3⟩, ⟨c1, c2, c3⟩, ⟨d1, d2, d3⟩, e1⟩ := K
      have T1 : TC b l σ1 := by
        have T := F.tc hT
        refine ⟨T.1, ?_, fun i hi => ?_⟩
        · rw [b2 1 (by decide)]
          exact T.2.1
        · rw [b1 132 (by decide) (by omega)]
          exact T.2.2 i hi
      have B1 : Bgd σ1 τ1 := fun k k1 k2 => by
        have B := F.bg hb k k1 k2
        obtain ⟨x1, x2⟩ := d2 (1000000 + k) (by omega)
        rw [b1 (1000000 + k) (by omega) (by omega), x1, x2]
        exact B
      have C1 : CT b l (pLn b l p).2.1 σ1 := by
        have c := F.2.2
        unfold CT at c ⊢
        rw [b2 2 (by decide), b2 3 (by decide), b2 4 (by decide), b2 5 (by decide)]
        exact c
      obtain ⟨σ', ρ', g', τ', K2, C2, R2⟩ := c78L n (i + 1) (pLn b l p).2.1 σ1 ρ1 g1 τ1 (by omega) w2 d3 B1 T1 C1 b3 (by omega)
      rw [u]
      refine ⟨σ', ρ', g', τ', TXC.cons hS F K0 (by omega) K2, C2, fun d Q => ?_⟩
      rw [s78_16]
      simp only [s78_17, s78_19, s78_22, s78_23, s78_26, s78_29, s78_30, s78_33, s78_36, s78_37, s78_38r, s78_41, k_0 hS, k_1 hS, k_2 hS, l_2 hS, k_3 hS, l_3 hS, k_4 hS, l_4 hS, k_5 hS, l_5 hS, k_6 hS, l_6 hS, k_7 hS, k_8 hS, l_8 hS, k_9 hS, l_9 hS, k_10 hS, k_11 hS, l_11 hS, k_12 hS, k_13 hS, l_13 hS, k_14 hS, k_15 hS, l_15 hS, k_16 hS, k_17 hS, l_17 hS, k_66 hS, k_67 hS, l_67 hS, k_68 hS, l_68 hS, k_69 hS, l_69 hS, k_70 hS, l_70 hS, k_71 hS, l_71 hS, k_72 hS, k_73 hS, l_73 hS, k_74 hS, l_74 hS, k_75 hS, k_76 hS, l_76 hS, k_77 hS, k_78 hS, l_78 hS, k_79 hS, k_80 hS, l_80 hS, k_81 hS, k_82 hS, l_82 hS, k_131 hS, k_132 hS, l_132 hS, k_133 hS, l_133 hS, k_134 hS, l_134 hS, k_135 hS, k_136 hS, l_136 hS, k_137 hS, l_137 hS, k_138 hS, l_138 hS, k_139 hS, l_139 hS, k_140 hS, k_141 hS, l_141 hS, k_142 hS, l_142 hS, k_143 hS, k_144 hS, l_144 hS, k_145 hS, k_146 hS, l_146 hS, k_147 hS, l_147 hS, k_148 hS, l_148 hS, k_153 hS, l_153 hS, k_154 hS, l_154 hS, k_155 hS, l_155 hS, k_156 hS, k_157 hS, l_157 hS, k_158 hS, l_158 hS, k_159 hS, l_159 hS, r_0_0 hS, r_0_1 hS, r_0_3 hS, r_0_4 hS, r_0_5 hS, r_0_6 hS, r_0_7 hS, r_0_8 hS, r_0_9 hS, r_0_10 hS, r_1_2 hS, r_1_3 hS, r_1_4 hS, r_1_5 hS, r_1_7 hS, r_1_9 hS, r_1_10 hS, r_1_12 hS, r_1_13 hS, r_1_14 hS, r_1_15 hS, r_7_1 hS, r_10_2 hS, r_12_2 hS, r_14_2 hS, r_16_2 hS, r_66_2 hS, r_66_3 hS, r_66_4 hS, r_66_5 hS, r_66_7 hS, r_66_9 hS, r_66_10 hS, r_66_12 hS, r_66_13 hS, r_66_14 hS, r_66_15 hS, r_72_1 hS, r_75_2 hS, r_77_2 hS, r_79_2 hS, r_81_2 hS, r_131_0 hS, r_131_6 hS, r_131_8 hS, r_135_0 hS, r_135_1 hS, r_135_2 hS, r_135_3 hS, r_140_0 hS, r_140_1 hS, r_143_2 hS, r_145_0 hS, r_145_1 hS, r_145_2 hS, r_145_3 hS, r_145_4 hS, r_145_5 hS, r_156_5 hS, k_pv hS, k_pvr hS, k_db hS, k_dbr hS, k_sh hS, l_pvr hS, l_dbr hS, l_sh hS, r_5 hS, r_6 hS, r_pv hS, r_db hS, r_148 hS, ol_s, ol_n, ln_0, ln_1, ln_2, ln_3, ln_4, eq_self, rf_s, rf_n, i01_0, i01_n0, i01_b, b01_0, b01_1, and_self, and_true, true_and, and_false, false_and, if_true, if_false, not_true_eq_false, not_false_eq_true, e10, e00, lt_bg, Nat.reduceLT, Nat.reduceLeDiff, le, h4, E0, R, nI_1]
      exact R2 d Q
theorem c78 (hS : Sh ρ τ) (hb : Bgd σ τ) {b : Nat → Nat} {l : Nat} (hT : TC b l σ) (hN : τ.2.2.1 + 20 ≤ 1000000) : ∃ (s : am_I) (σ' : am_I) (ρ' : am_R) (g' : am_J) (τ' : am_T), ((∀ z, z ≠ 131 → s z = σ z) ∧ (∀ k, k ≠ 2 → k ≠ 3 → k ≠ 4 → k ≠ 5 → k ≠ 9 → s 131 k = σ 131 k)) ∧ TXC s ρ g τ σ' ρ' g' τ' 0 (sk b l 0) (pTx b l 10 (sk b l 0)).2.1 (pTx b l 10 (sk b l 0)).2.2 ∧ CT b l (pTx b l 10 (sk b l 0)).2.1 σ' ∧ ∀ (d : Nat) (Q : am_Q), AW (d + 29) 78 0 [.ref 131, am_jk] [] σ ρ g τ Q = Q (some (.int (bI (pTx b l 10 (sk b l 0)).1))) σ' ρ' g' τ' := by
  generalize e0 : am_u (am_u σ 131 3 0) 131 9 0 = s0
  have n0 : ∀ z, z ≠ 131 → s0 z = σ z := fun z hz => by rw [← e0, u_ne _ _ _ _ hz, u_ne _ _ _ _ hz]
  have m0 : ∀ k, k ≠ 3 → k ≠ 9 → s0 131 k = σ 131 k := fun k h1 h2 => by rw [← e0, u_nk _ _ _ _ h2, u_nk _ _ _ _ h1]
  have T0 : TC b l s0 := by
    refine ⟨hT.1, by rw [m0 1 (by decide) (by decide)]; exact hT.2.1, fun i hi => ?_⟩
    rw [n0 132 (by decide)]
    exact hT.2.2 i hi
  have h3 : s0 131 3 = nI 0 := by rw [← e0, u_nk _ _ _ _ (by decide), u_at]; rfl
  have h9 : s0 131 9 = nI 0 := by rw [← e0, u_at]; rfl
  have V := fun (d : Nat) (Q : am_Q) => c80 (d := d) (ρ := ρ) (g := g) (τ := τ) (Q := Q) hS T0 (Nat.zero_le l) h3
  obtain ⟨_, pl⟩ := sk_b (b := b) (l := l) (i := 0) (Nat.zero_le _)
  generalize sk b l 0 = p at V pl
  have b0 : Bgd (adv b l s0 p) τ := hb.cg (fun y hy => by rw [adv_ne (by omega), n0 y (by omega)])
  have h9' : adv b l s0 p 131 9 = nI 0 := by rw [adv_k (by decide) (by decide) (by decide) (by decide)]; exact h9
  obtain ⟨σ', ρ', g', τ', K, C, R⟩ := c78L (b := b) (l := l) 10 0 p (adv b l s0 p) ρ g τ (by omega) pl hS b0 T0.adv adv_ct h9' (by omega)
  refine ⟨adv b l s0 p, σ', ρ', g', τ', ⟨fun z hz => by rw [adv_ne hz, n0 z hz], fun k h2 h3 h4 h5 h9 => by rw [adv_k h2 h3 h4 h5, m0 k h3 h9]⟩, K, C, fun d Q => ?_⟩
  have R := R d Q
  rw [nI_0] at R
  simp only [s78_0, s78_1, s78_2, s78_5, s78_6, s78_7, s78_10, s78_11, s78_14, s78_15r, k_0 hS, k_1 hS, k_2 hS, l_2 hS, k_3 hS, l_3 hS, k_4 hS, l_4 hS, k_5 hS, l_5 hS, k_6 hS, l_6 hS, k_7 hS, k_8 hS, l_8 hS, k_9 hS, l_9 hS, k_10 hS, k_11 hS, l_11 hS, k_12 hS, k_13 hS, l_13 hS, k_14 hS, k_15 hS, l_15 hS, k_16 hS, k_17 hS, l_17 hS, k_66 hS, k_67 hS, l_67 hS, k_68 hS, l_68 hS, k_69 hS, l_69 hS, k_70 hS, l_70 hS, k_71 hS, l_71 hS, k_72 hS, k_73 hS, l_73 hS, k_74 hS, l_74 hS, k_75 hS, k_76 hS, l_76 hS, k_77 hS, k_78 hS, l_78 hS, k_79 hS, k_80 hS, l_80 hS, k_81 hS, k_82 hS, l_82 hS, k_131 hS, k_132 hS, l_132 hS, k_133 hS, l_133 hS, k_134 hS, l_134 hS, k_135 hS, k_136 hS, l_136 hS, k_137 hS, l_137 hS, k_138 hS, l_138 hS, k_139 hS, l_139 hS, k_140 hS, k_141 hS, l_141 hS, k_142 hS, l_142 hS, k_143 hS, k_144 hS, l_144 hS, k_145 hS, k_146 hS, l_146 hS, k_147 hS, l_147 hS, k_148 hS, l_148 hS, k_153 hS, l_153 hS, k_154 hS, l_154 hS, k_155 hS, l_155 hS, k_156 hS, k_157 hS, l_157 hS, k_158 hS, l_158 hS, k_159 hS, l_159 hS, r_0_0 hS, r_0_1 hS, r_0_3 hS, r_0_4 hS, r_0_5 hS, r_0_6 hS, r_0_7 hS, r_0_8 hS, r_0_9 hS, r_0_10 hS, r_1_2 hS, r_1_3 hS, r_1_4 hS, r_1_5 hS, r_1_7 hS, r_1_9 hS, r_1_10 hS, r_1_12 hS, r_1_13 hS, r_1_14 hS, r_1_15 hS, r_7_1 hS, r_10_2 hS, r_12_2 hS, r_14_2 hS, r_16_2 hS, r_66_2 hS, r_66_3 hS, r_66_4 hS, r_66_5 hS, r_66_7 hS, r_66_9 hS, r_66_10 hS, r_66_12 hS, r_66_13 hS, r_66_14 hS, r_66_15 hS, r_72_1 hS, r_75_2 hS, r_77_2 hS, r_79_2 hS, r_81_2 hS, r_131_0 hS, r_131_6 hS, r_131_8 hS, r_135_0 hS, r_135_1 hS, r_135_2 hS, r_135_3 hS, r_140_0 hS, r_140_1 hS, r_143_2 hS, r_145_0 hS, r_145_1 hS, r_145_2 hS, r_145_3 hS, r_145_4 hS, r_145_5 hS, r_156_5 hS, k_pv hS, k_pvr hS, k_db hS, k_dbr hS, k_sh hS, l_pvr hS, l_dbr hS, l_sh hS, r_5 hS, r_6 hS, r_pv hS, r_db hS, r_148 hS, ol_s, ol_n, ln_0, ln_1, ln_2, ln_3, ln_4, eq_self, rf_s, rf_n, i01_0, i01_n0, i01_b, b01_0, b01_1, and_self, and_true, true_and, and_false, false_and, if_true, if_false, not_true_eq_false, not_false_eq_true, e10, e00, lt_bg, Nat.reduceLT, Nat.reduceLeDiff, e0, V]
  exact R
theorem c79L {n N : Nat} {σX : am_I} {gX : am_J} {τX : am_T} (hn : n ≤ 10) (hN : 261 ≤ N) (h9 : σX 131 9 = nI n) (kN : τX.1 N = 19) (lN : τX.2.1 N = n) (hL : ∀ i, i < n → ∃ L, ρ 134 i = some L ∧ τX.1 L = 5 ∧ L < 1000000) : ∀ (k i : Nat) (ρ1 : am_R), i + k = n → Sh ρ1 τX → (∀ z, z ≠ N → ρ1 z = ρ z) → (∀ t, t < i → ρ1 N t = ρ 134 t) → ∃ ρ' : am_R, Sh ρ' τX ∧ (∀ z, z ≠ N → ρ' z = ρ z) ∧ (∀ t, t < n → ρ' N t = ρ 134 t) ∧ ∀ (d : Nat) (Q : am_Q), AW d 79 10 [.ref 131, .ref N, .int (nI i)] [] σX ρ1 gX τX Q = Q (some (.ref N)) σX ρ' gX τX
  | 0, i, ρ1, e, hS, h1, h2 => by
    have e : i = n := by omega
    subst e
    have le : nI i ≤ nI i := Int32.le_refl _
    refine ⟨ρ1, hS, h1, h2, fun d Q => ?_⟩
    simp only [s79_10, s79_11, s79_12, s79_15, s79_33, s79_34, k_0 hS, k_1 hS, k_2 hS, l_2 hS, k_3 hS, l_3 hS, k_4 hS, l_4 hS, k_5 hS, l_5 hS, k_6 hS, l_6 hS, k_7 hS, k_8 hS, l_8 hS, k_9 hS, l_9 hS, k_10 hS, k_11 hS, l_11 hS, k_12 hS, k_13 hS, l_13 hS, k_14 hS, k_15 hS, l_15 hS, k_16 hS, k_17 hS, l_17 hS, k_66 hS, k_67 hS, l_67 hS, k_68 hS, l_68 hS, k_69 hS, l_69 hS, k_70 hS, l_70 hS, k_71 hS, l_71 hS, k_72 hS, k_73 hS, l_73 hS, k_74 hS, l_74 hS, k_75 hS, k_76 hS, l_76 hS, k_77 hS, k_78 hS, l_78 hS, k_79 hS, k_80 hS, l_80 hS, k_81 hS, k_82 hS, l_82 hS, k_131 hS, k_132 hS, l_132 hS, k_133 hS, l_133 hS, k_134 hS, l_134 hS, k_135 hS, k_136 hS, l_136 hS, k_137 hS, l_137 hS, k_138 hS, l_138 hS, k_139 hS, l_139 hS, k_140 hS, k_141 hS, l_141 hS, k_142 hS, l_142 hS, k_143 hS, k_144 hS, l_144 hS, k_145 hS, k_146 hS, l_146 hS, k_147 hS, l_147 hS, k_148 hS, l_148 hS, k_153 hS, l_153 hS, k_154 hS, l_154 hS, k_155 hS, l_155 hS, k_156 hS, k_157 hS, l_157 hS, k_158 hS, l_158 hS, k_159 hS, l_159 hS, r_0_0 hS, r_0_1 hS, r_0_3 hS, r_0_4 hS, r_0_5 hS, r_0_6 hS, r_0_7 hS, r_0_8 hS, r_0_9 hS, r_0_10 hS, r_1_2 hS, r_1_3 hS, r_1_4 hS, r_1_5 hS, r_1_7 hS, r_1_9 hS, r_1_10 hS, r_1_12 hS, r_1_13 hS, r_1_14 hS, r_1_15 hS, r_7_1 hS, r_10_2 hS, r_12_2 hS, r_14_2 hS, r_16_2 hS, r_66_2 hS, r_66_3 hS, r_66_4 hS, r_66_5 hS, r_66_7 hS, r_66_9 hS, r_66_10 hS, r_66_12 hS, r_66_13 hS, r_66_14 hS, r_66_15 hS, r_72_1 hS, r_75_2 hS, r_77_2 hS, r_79_2 hS, r_81_2 hS, r_131_0 hS, r_131_6 hS, r_131_8 hS, r_135_0 hS, r_135_1 hS, r_135_2 hS, r_135_3 hS, r_140_0 hS, r_140_1 hS, r_143_2 hS, r_145_0 hS, r_145_1 hS, r_145_2 hS, r_145_3 hS, r_145_4 hS, r_145_5 hS, r_156_5 hS, k_pv hS, k_pvr hS, k_db hS, k_dbr hS, k_sh hS, l_pvr hS, l_dbr hS, l_sh hS, r_5 hS, r_6 hS, r_pv hS, r_db hS, r_148 hS, ol_s, ol_n, ln_0, ln_1, ln_2, ln_3, ln_4, eq_self, rf_s, rf_n, i01_0, i01_n0, i01_b, b01_0, b01_1, and_self, and_true, true_and, and_false, false_and, if_true, if_false, not_true_eq_false, not_false_eq_true, e10, e00, lt_bg, Nat.reduceLT, Nat.reduceLeDiff, h9, le]
  | k + 1, i, ρ1, e, hS, h1, h2 => by
    have le : ¬ nI n ≤ nI i := nI_ge (by omega) (by omega)
    obtain ⟨L, l1, l2, l3⟩ := hL i (by omega)
    have v : ρ1 134 i = some L := by rw [h1 134 (by omega)]; exact l1
    have ii : am_inb (nI i) 10 = true := inb_n (by omega) (by decide)
    have iN : am_inb (nI i) n = true := inb_n (by omega) (by omega)
    have ci : (nI i).toNatClampNeg = i := nI_clamp (by omega)
    have el : am_elK 19 = 5 := rfl
    obtain ⟨ρ', S', r1, r2, R⟩ := c79L hn hN h9 kN lN hL k (i + 1) (am_u ρ1 N i (some L)) (by omega) (sh_v hS hN) (fun z hz => by rw [u_ne _ _ _ _ hz]; exact h1 z hz) (fun t ht => by
      by_cases q : t = i
      · subst q
        rw [u_at]
        exact l1.symm
      · rw [u_nk _ _ _ _ q]
        exact h2 t (by omega))
    refine ⟨ρ', S', r1, r2, fun d Q => ?_⟩
    rw [s79_10]
    simp only [s79_11, s79_12, s79_15, s79_18, s79_19, s79_20, s79_21, s79_24, s79_25, s79_26, s79_27r, s79_30, k_0 hS, k_1 hS, k_2 hS, l_2 hS, k_3 hS, l_3 hS, k_4 hS, l_4 hS, k_5 hS, l_5 hS, k_6 hS, l_6 hS, k_7 hS, k_8 hS, l_8 hS, k_9 hS, l_9 hS, k_10 hS, k_11 hS, l_11 hS, k_12 hS, k_13 hS, l_13 hS, k_14 hS, k_15 hS, l_15 hS, k_16 hS, k_17 hS, l_17 hS, k_66 hS, k_67 hS, l_67 hS, k_68 hS, l_68 hS, k_69 hS, l_69 hS, k_70 hS, l_70 hS, k_71 hS, l_71 hS, k_72 hS, k_73 hS, l_73 hS, k_74 hS, l_74 hS, k_75 hS, k_76 hS, l_76 hS, k_77 hS, k_78 hS, l_78 hS, k_79 hS, k_80 hS, l_80 hS, k_81 hS, k_82 hS, l_82 hS, k_131 hS, k_132 hS, l_132 hS, k_133 hS, l_133 hS, k_134 hS, l_134 hS, k_135 hS, k_136 hS, l_136 hS, k_137 hS, l_137 hS, k_138 hS, l_138 hS, k_139 hS, l_139 hS, k_140 hS, k_141 hS, l_141 hS, k_142 hS, l_142 hS, k_143 hS, k_144 hS, l_144 hS, k_145 hS, k_146 hS, l_146 hS, k_147 hS, l_147 hS, k_148 hS, l_148 hS, k_153 hS, l_153 hS, k_154 hS, l_154 hS, k_155 hS, l_155 hS, k_156 hS, k_157 hS, l_157 hS, k_158 hS, l_158 hS, k_159 hS, l_159 hS, r_0_0 hS, r_0_1 hS, r_0_3 hS, r_0_4 hS, r_0_5 hS, r_0_6 hS, r_0_7 hS, r_0_8 hS, r_0_9 hS, r_0_10 hS, r_1_2 hS, r_1_3 hS, r_1_4 hS, r_1_5 hS, r_1_7 hS, r_1_9 hS, r_1_10 hS, r_1_12 hS, r_1_13 hS, r_1_14 hS, r_1_15 hS, r_7_1 hS, r_10_2 hS, r_12_2 hS, r_14_2 hS, r_16_2 hS, r_66_2 hS, r_66_3 hS, r_66_4 hS, r_66_5 hS, r_66_7 hS, r_66_9 hS, r_66_10 hS, r_66_12 hS, r_66_13 hS, r_66_14 hS, r_66_15 hS, r_72_1 hS, r_75_2 hS, r_77_2 hS, r_79_2 hS, r_81_2 hS, r_131_0 hS, r_131_6 hS, r_131_8 hS, r_135_0 hS, r_135_1 hS, r_135_2 hS, r_135_3 hS, r_140_0 hS, r_140_1 hS, r_143_2 hS, r_145_0 hS, r_145_1 hS, r_145_2 hS, r_145_3 hS, r_145_4 hS, r_145_5 hS, r_156_5 hS, k_pv hS, k_pvr hS, k_db hS, k_dbr hS, k_sh hS, l_pvr hS, l_dbr hS, l_sh hS, r_5 hS, r_6 hS, r_pv hS, r_db hS, r_148 hS, ol_s, ol_n, ln_0, ln_1, ln_2, ln_3, ln_4, eq_self, rf_s, rf_n, i01_0, i01_n0, i01_b, b01_0, b01_1, and_self, and_true, true_and, and_false, false_and, if_true, if_false, not_true_eq_false, not_false_eq_true, e10, e00, lt_bg, Nat.reduceLT, Nat.reduceLeDiff, h9, le, kN, lN, v, ii, iN, ci, el, l2, l3, nI_1]
    exact R d Q
theorem c79 (hS : Sh ρ τ) {n : Nat} (hn : n ≤ 10) (h9 : σ 131 9 = nI n) (hL : ∀ i, i < n → ∃ L, ρ 134 i = some L ∧ τ.1 L = 5 ∧ L < τ.2.2.1) (hN : τ.2.2.1 < 1000000) : ∃ ρ' : am_R, Sh ρ' (am_new 19 n σ ρ g τ).2.2.2 ∧ (∀ z, z ≠ τ.2.2.1 → ρ' z = ρ z) ∧ (∀ t, t < n → ρ' τ.2.2.1 t = ρ 134 t) ∧ ∀ (d : Nat) (Q : am_Q), AW d 79 0 [.ref 131, am_jk, am_jk] [] σ ρ g τ Q = Q (some (.ref τ.2.2.1)) (am_new 19 n σ ρ g τ).1 ρ' (am_new 19 n σ ρ g τ).2.2.1 (am_new 19 n σ ρ g τ).2.2.2 := by
  have h261 := hS.2.2.2.2.2.2
  have cn : (nI n).toNatClampNeg = n := nI_clamp (by omega)
  have l0 : ¬ nI n < 0 := Int32.not_lt.mpr (nI_le (a := 0) (Nat.zero_le _) (by omega))
  have le : n ≤ 10000 := by omega
  obtain ⟨ρ', S', r1, r2, R⟩ := c79L (ρ := ρ) (n := n) (N := τ.2.2.1) (σX := (am_new 19 n σ ρ g τ).1) (gX := (am_new 19 n σ ρ g τ).2.2.1) (τX := (am_new 19 n σ ρ g τ).2.2.2) hn h261 (by rw [nw_s (by omega)]; exact h9) nw_k0 nw_l0 (fun i hi => by
    obtain ⟨L, l1, l2, l3⟩ := hL i hi
    exact ⟨L, l1, by rw [nw_k (by omega)]; exact l2, by omega⟩) n 0 (am_new 19 n σ ρ g τ).2.1 (by omega) (sh_nw hS) (fun z hz => nw_r hz) (fun t ht => absurd ht (Nat.not_lt_zero _))
  refine ⟨ρ', S', r1, r2, fun d Q => ?_⟩
  have R := R d Q
  rw [nI_0] at R
  simp only [s79_0, s79_1, s79_4, s79_7r, s79_8, s79_9r, k_0 hS, k_1 hS, k_2 hS, l_2 hS, k_3 hS, l_3 hS, k_4 hS, l_4 hS, k_5 hS, l_5 hS, k_6 hS, l_6 hS, k_7 hS, k_8 hS, l_8 hS, k_9 hS, l_9 hS, k_10 hS, k_11 hS, l_11 hS, k_12 hS, k_13 hS, l_13 hS, k_14 hS, k_15 hS, l_15 hS, k_16 hS, k_17 hS, l_17 hS, k_66 hS, k_67 hS, l_67 hS, k_68 hS, l_68 hS, k_69 hS, l_69 hS, k_70 hS, l_70 hS, k_71 hS, l_71 hS, k_72 hS, k_73 hS, l_73 hS, k_74 hS, l_74 hS, k_75 hS, k_76 hS, l_76 hS, k_77 hS, k_78 hS, l_78 hS, k_79 hS, k_80 hS, l_80 hS, k_81 hS, k_82 hS, l_82 hS, k_131 hS, k_132 hS, l_132 hS, k_133 hS, l_133 hS, k_134 hS, l_134 hS, k_135 hS, k_136 hS, l_136 hS, k_137 hS, l_137 hS, k_138 hS, l_138 hS, k_139 hS, l_139 hS, k_140 hS, k_141 hS, l_141 hS, k_142 hS, l_142 hS, k_143 hS, k_144 hS, l_144 hS, k_145 hS, k_146 hS, l_146 hS, k_147 hS, l_147 hS, k_148 hS, l_148 hS, k_153 hS, l_153 hS, k_154 hS, l_154 hS, k_155 hS, l_155 hS, k_156 hS, k_157 hS, l_157 hS, k_158 hS, l_158 hS, k_159 hS, l_159 hS, r_0_0 hS, r_0_1 hS, r_0_3 hS, r_0_4 hS, r_0_5 hS, r_0_6 hS, r_0_7 hS, r_0_8 hS, r_0_9 hS, r_0_10 hS, r_1_2 hS, r_1_3 hS, r_1_4 hS, r_1_5 hS, r_1_7 hS, r_1_9 hS, r_1_10 hS, r_1_12 hS, r_1_13 hS, r_1_14 hS, r_1_15 hS, r_7_1 hS, r_10_2 hS, r_12_2 hS, r_14_2 hS, r_16_2 hS, r_66_2 hS, r_66_3 hS, r_66_4 hS, r_66_5 hS, r_66_7 hS, r_66_9 hS, r_66_10 hS, r_66_12 hS, r_66_13 hS, r_66_14 hS, r_66_15 hS, r_72_1 hS, r_75_2 hS, r_77_2 hS, r_79_2 hS, r_81_2 hS, r_131_0 hS, r_131_6 hS, r_131_8 hS, r_135_0 hS, r_135_1 hS, r_135_2 hS, r_135_3 hS, r_140_0 hS, r_140_1 hS, r_143_2 hS, r_145_0 hS, r_145_1 hS, r_145_2 hS, r_145_3 hS, r_145_4 hS, r_145_5 hS, r_156_5 hS, k_pv hS, k_pvr hS, k_db hS, k_dbr hS, k_sh hS, l_pvr hS, l_dbr hS, l_sh hS, r_5 hS, r_6 hS, r_pv hS, r_db hS, r_148 hS, ol_s, ol_n, ln_0, ln_1, ln_2, ln_3, ln_4, eq_self, rf_s, rf_n, i01_0, i01_n0, i01_b, b01_0, b01_1, and_self, and_true, true_and, and_false, false_and, if_true, if_false, not_true_eq_false, not_false_eq_true, e10, e00, lt_bg, Nat.reduceLT, Nat.reduceLeDiff, h9, cn, l0, le]
  exact R
theorem c68 {S A : Nat} {w : Int32} (hk : τ.1 S = 9) : AW d 68 0 [.ref S, .int w, .ref A] [] σ ρ g τ Q = Q none (am_u σ S 0 w) (am_u ρ S 1 (some A)) g τ := by
  simp only [s68_0, s68_0n, s68_1, s68_4, s68_4n, s68_5, s68_6, s68_9, s68_9n, s68_10, s68_10n, s68_11, s68_11n, s68_14, ol_s, ol_n, ln_0, ln_1, ln_2, ln_3, ln_4, eq_self, rf_s, rf_n, i01_0, i01_n0, i01_b, b01_0, b01_1, and_self, and_true, true_and, and_false, false_and, if_true, if_false, not_true_eq_false, not_false_eq_true, e10, e00, lt_bg, Nat.reduceLT, Nat.reduceLeDiff, hk]
end ODG
