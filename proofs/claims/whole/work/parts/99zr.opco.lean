/-! bills: the search of a partner, both sides -/
section OCO
variable {d : Nat} {σ : am_I} {ρ : am_R} {g : am_J} {τ : am_T} {Q : am_Q}
def PI (v : Nat) : Int32 := if v = 0 then -1 else nI (v - 1)
def bI (b : Bool) : Int32 := if b = true then 1 else 0
theorem PI_s {i : Nat} : PI (i + 1) = nI i := if_neg (Nat.succ_ne_zero i)
/-- partners lie in cell a, those seen in cell b -/
def CS (a b A : Nat) (pt : Pt) (sn : Sn) (σ : am_I) : Prop := ∀ j, j < A → σ a j = PI (pt j) ∧ σ b j = bI (sn j)
theorem CS.sn {a b A j : Nat} {pt : Pt} {sn : Sn} (h : CS a b A pt sn σ) (hab : a ≠ b) : CS a b A pt (fu sn j true) (am_u σ b j 1) := by
  intro k hk
  refine ⟨by rw [u_ne _ _ _ _ hab]; exact (h k hk).1, ?_⟩
  by_cases q : k = j
  · subst q
    rw [u_at, fu_at]
    rfl
  · rw [u_nk _ _ _ _ q, fu_ne _ _ q]
    exact (h k hk).2
theorem CS.pt {a b A i j : Nat} {pt : Pt} {sn : Sn} (h : CS a b A pt sn σ) (hab : a ≠ b) : CS a b A (fu pt j (i + 1)) sn (am_u σ a j (nI i)) := by
  intro k hk
  refine ⟨?_, by rw [u_ne _ _ _ _ (fun q => hab q.symm)]; exact (h k hk).2⟩
  by_cases q : k = j
  · subst q
    rw [u_at, fu_at, PI_s]
  · rw [u_nk _ _ _ _ q, fu_ne _ _ q]
    exact (h k hk).1
def S58 (A : Nat) (x : Nat → Nat → Nat) (ρ : am_R) (τ : am_T) (f : Nat) : Prop := ∀ (i dep : Nat) (pt : Pt) (sn : Sn) (σ : am_I), i < A → x 0 i = 0 → Ok A x pt → PX A x σ → CS 141 142 A pt sn σ → un sn A < f → dep + un sn A ≤ 20 → ∃ σ' : am_I, (∀ z, z ≠ 141 → z ≠ 142 → σ' z = σ z) ∧ CS 141 142 A (bf x A f i pt sn).2.1 (bf x A f i pt sn).2.2 σ' ∧ ∀ (d : Nat) (g : am_J) (Q : am_Q), AW (d + 4 + f) 58 0 [.ref 140, .ref 12, .int (nI i), .int (nI dep), am_jk] [] σ ρ g τ Q = Q (some (.int (bI (bf x A f i pt sn).1))) σ' ρ g τ
theorem c58L (hS : Sh ρ τ) {A : Nat} {x : Nat → Nat → Nat} (hA : A ≤ 20) {f : Nat} (IH : S58 A x ρ τ f) : ∀ (n j i dep : Nat) (pt : Pt) (sn : Sn) (σ : am_I), j + n = A → i < A → x 0 i = 0 → Ok A x pt → PX A x σ → CS 141 142 A pt sn σ → un sn A ≤ f → dep + un sn A ≤ 20 → ∃ σ' : am_I, (∀ z, z ≠ 141 → z ≠ 142 → σ' z = σ z) ∧ CS 141 142 A (bl (bf x A f) x i n j pt sn).2.1 (bl (bf x A f) x i n j pt sn).2.2 σ' ∧ ∀ (d : Nat) (g : am_J) (Q : am_Q), AW (d + 4 + f + 1) 58 11 [.ref 140, .ref 12, .int (nI i), .int (nI dep), .int (nI j)] [] σ ρ g τ Q = Q (some (.int (bI (bl (bf x A f) x i n j pt sn).1))) σ' ρ g τ
  | 0, j, i, dep, pt, sn, σ, e, _, _, _, hp, hcs, _, _ => by
    have e : j = A := by omega
    subst e
    have hle : nI j ≤ nI j := Int32.le_refl _
    have h3 := hp.1
    refine ⟨σ, fun _ _ _ => rfl, hcs, fun d g Q => ?_⟩
    have w : bI (bl (bf x j f) x i 0 j pt sn).1 = 0 := rfl
    rw [w]
    simp only [s58_11, s58_13, s58_14, s58_17, s58_99, s58_100, k_0 hS, k_1 hS, k_2 hS, l_2 hS, k_3 hS, l_3 hS, k_4 hS, l_4 hS, k_5 hS, l_5 hS, k_6 hS, l_6 hS, k_7 hS, k_8 hS, l_8 hS, k_9 hS, l_9 hS, k_10 hS, k_11 hS, l_11 hS, k_12 hS, k_13 hS, l_13 hS, k_14 hS, k_15 hS, l_15 hS, k_16 hS, k_17 hS, l_17 hS, k_66 hS, k_67 hS, l_67 hS, k_68 hS, l_68 hS, k_69 hS, l_69 hS, k_70 hS, l_70 hS, k_71 hS, l_71 hS, k_72 hS, k_73 hS, l_73 hS, k_74 hS, l_74 hS, k_75 hS, k_76 hS, l_76 hS, k_77 hS, k_78 hS, l_78 hS, k_79 hS, k_80 hS, l_80 hS, k_81 hS, k_82 hS, l_82 hS, k_131 hS, k_132 hS, l_132 hS, k_133 hS, l_133 hS, k_134 hS, l_134 hS, k_135 hS, k_136 hS, l_136 hS, k_137 hS, l_137 hS, k_138 hS, l_138 hS, k_139 hS, l_139 hS, k_140 hS, k_141 hS, l_141 hS, k_142 hS, l_142 hS, k_143 hS, k_144 hS, l_144 hS, k_145 hS, k_146 hS, l_146 hS, k_147 hS, l_147 hS, k_148 hS, l_148 hS, k_153 hS, l_153 hS, k_154 hS, l_154 hS, k_155 hS, l_155 hS, k_156 hS, k_157 hS, l_157 hS, k_158 hS, l_158 hS, k_159 hS, l_159 hS, r_0_0 hS, r_0_1 hS, r_0_3 hS, r_0_4 hS, r_0_5 hS, r_0_6 hS, r_0_7 hS, r_0_8 hS, r_0_9 hS, r_0_10 hS, r_1_2 hS, r_1_3 hS, r_1_4 hS, r_1_5 hS, r_1_7 hS, r_1_9 hS, r_1_10 hS, r_1_12 hS, r_1_13 hS, r_1_14 hS, r_1_15 hS, r_7_1 hS, r_10_2 hS, r_12_2 hS, r_14_2 hS, r_16_2 hS, r_66_2 hS, r_66_3 hS, r_66_4 hS, r_66_5 hS, r_66_7 hS, r_66_9 hS, r_66_10 hS, r_66_12 hS, r_66_13 hS, r_66_14 hS, r_66_15 hS, r_72_1 hS, r_75_2 hS, r_77_2 hS, r_79_2 hS, r_81_2 hS, r_131_0 hS, r_131_6 hS, r_131_8 hS, r_135_0 hS, r_135_1 hS, r_135_2 hS, r_135_3 hS, r_140_0 hS, r_140_1 hS, r_143_2 hS, r_145_0 hS, r_145_1 hS, r_145_2 hS, r_145_3 hS, r_145_4 hS, r_145_5 hS, r_156_5 hS, k_pv hS, k_pvr hS, k_db hS, k_dbr hS, k_sh hS, l_pvr hS, l_dbr hS, l_sh hS, r_5 hS, r_6 hS, r_pv hS, r_db hS, r_148 hS, ol_s, ol_n, ln_0, ln_1, ln_2, ln_3, ln_4, eq_self, rf_s, rf_n, i01_0, i01_n0, i01_b, b01_0, b01_1, and_self, and_true, true_and, and_false, false_and, if_true, if_false, not_true_eq_false, not_false_eq_true, e10, e00, lt_bg, Nat.reduceLT, Nat.reduceLeDiff, h3, hle]
  | n + 1, j, i, dep, pt, sn, σ, e, hi, h0, ok, hp, hcs, hu, hd => by
    have e20 : nI 20 = (20 : Int32) := by decide
    have hle : ¬ nI A ≤ nI j := nI_ge (by omega) (by omega)
    have h20 : ¬ (20 : Int32) ≤ nI j := by rw [← e20]; exact nI_ge (by omega) (by omega)
    have ij : am_inb (nI j) 20 = true := inb_n (by omega) (by decide)
    have cj : (nI j).toNatClampNeg = j := nI_clamp (by omega)
    have h3 := hp.1
    obtain ⟨v1, v2⟩ := hcs j (by omega)
    by_cases s : sn j = true
    · have u : bl (bf x A f) x i (n + 1) j pt sn = bl (bf x A f) x i n (j + 1) pt sn := if_pos (Or.inl s)
      have v2 : σ 142 j = 1 := v2.trans (if_pos s)
      obtain ⟨s', F, C', R⟩ := c58L hS hA IH n (j + 1) i dep pt sn σ (by omega) hi h0 ok hp hcs hu hd
      rw [u]
      refine ⟨s', F, C', fun d g Q => ?_⟩
      rw [s58_11]
      simp only [s58_13, s58_14, s58_17, s58_20, s58_22, s58_24, s58_27, s58_28, s58_31, s58_33, s58_34, s58_93, s58_96, k_0 hS, k_1 hS, k_2 hS, l_2 hS, k_3 hS, l_3 hS, k_4 hS, l_4 hS, k_5 hS, l_5 hS, k_6 hS, l_6 hS, k_7 hS, k_8 hS, l_8 hS, k_9 hS, l_9 hS, k_10 hS, k_11 hS, l_11 hS, k_12 hS, k_13 hS, l_13 hS, k_14 hS, k_15 hS, l_15 hS, k_16 hS, k_17 hS, l_17 hS, k_66 hS, k_67 hS, l_67 hS, k_68 hS, l_68 hS, k_69 hS, l_69 hS, k_70 hS, l_70 hS, k_71 hS, l_71 hS, k_72 hS, k_73 hS, l_73 hS, k_74 hS, l_74 hS, k_75 hS, k_76 hS, l_76 hS, k_77 hS, k_78 hS, l_78 hS, k_79 hS, k_80 hS, l_80 hS, k_81 hS, k_82 hS, l_82 hS, k_131 hS, k_132 hS, l_132 hS, k_133 hS, l_133 hS, k_134 hS, l_134 hS, k_135 hS, k_136 hS, l_136 hS, k_137 hS, l_137 hS, k_138 hS, l_138 hS, k_139 hS, l_139 hS, k_140 hS, k_141 hS, l_141 hS, k_142 hS, l_142 hS, k_143 hS, k_144 hS, l_144 hS, k_145 hS, k_146 hS, l_146 hS, k_147 hS, l_147 hS, k_148 hS, l_148 hS, k_153 hS, l_153 hS, k_154 hS, l_154 hS, k_155 hS, l_155 hS, k_156 hS, k_157 hS, l_157 hS, k_158 hS, l_158 hS, k_159 hS, l_159 hS, r_0_0 hS, r_0_1 hS, r_0_3 hS, r_0_4 hS, r_0_5 hS, r_0_6 hS, r_0_7 hS, r_0_8 hS, r_0_9 hS, r_0_10 hS, r_1_2 hS, r_1_3 hS, r_1_4 hS, r_1_5 hS, r_1_7 hS, r_1_9 hS, r_1_10 hS, r_1_12 hS, r_1_13 hS, r_1_14 hS, r_1_15 hS, r_7_1 hS, r_10_2 hS, r_12_2 hS, r_14_2 hS, r_16_2 hS, r_66_2 hS, r_66_3 hS, r_66_4 hS, r_66_5 hS, r_66_7 hS, r_66_9 hS, r_66_10 hS, r_66_12 hS, r_66_13 hS, r_66_14 hS, r_66_15 hS, r_72_1 hS, r_75_2 hS, r_77_2 hS, r_79_2 hS, r_81_2 hS, r_131_0 hS, r_131_6 hS, r_131_8 hS, r_135_0 hS, r_135_1 hS, r_135_2 hS, r_135_3 hS, r_140_0 hS, r_140_1 hS, r_143_2 hS, r_145_0 hS, r_145_1 hS, r_145_2 hS, r_145_3 hS, r_145_4 hS, r_145_5 hS, r_156_5 hS, k_pv hS, k_pvr hS, k_db hS, k_dbr hS, k_sh hS, l_pvr hS, l_dbr hS, l_sh hS, r_5 hS, r_6 hS, r_pv hS, r_db hS, r_148 hS, ol_s, ol_n, ln_0, ln_1, ln_2, ln_3, ln_4, eq_self, rf_s, rf_n, i01_0, i01_n0, i01_b, b01_0, b01_1, and_self, and_true, true_and, and_false, false_and, if_true, if_false, not_true_eq_false, not_false_eq_true, e10, e00, lt_bg, Nat.reduceLT, Nat.reduceLeDiff, h3, hle, h20, ij, cj, v2, or_true, nI_1]
      exact R d g Q
    have v2 : σ 142 j = 0 := v2.trans (if_neg s)
    have M : ∀ (d : Nat) (g : am_J) (Q : am_Q), AW (d + 4 + f) 55 0 [.ref 12, .int (nI i), .int (nI j), am_jk, am_jk] [] σ ρ g τ Q = Q (some (.int (if mb x i j = true then 1 else 0))) σ ρ g τ := fun d g Q => by
      have t := c55 (d := d + 1 + f) (g := g) (Q := Q) hS hA hp hi (j := j) (by omega)
      rw [show d + 1 + f + 3 = d + 4 + f by omega] at t
      exact t
    by_cases m : mb x i j = true
    rotate_left
    · have m' : mb x i j = false := by
        cases z : mb x i j
        · rfl
        · exact absurd z m
      have u : bl (bf x A f) x i (n + 1) j pt sn = bl (bf x A f) x i n (j + 1) pt sn := if_pos (Or.inr m')
      obtain ⟨s', F, C', R⟩ := c58L hS hA IH n (j + 1) i dep pt sn σ (by omega) hi h0 ok hp hcs hu hd
      rw [u]
      refine ⟨s', F, C', fun d g Q => ?_⟩
      rw [s58_11]
      simp only [s58_13, s58_14, s58_17, s58_20, s58_22, s58_24, s58_27, s58_28, s58_31, s58_33, s58_34, s58_37, s58_38, s58_39, s58_41, s58_44, s58_93, s58_96, k_0 hS, k_1 hS, k_2 hS, l_2 hS, k_3 hS, l_3 hS, k_4 hS, l_4 hS, k_5 hS, l_5 hS, k_6 hS, l_6 hS, k_7 hS, k_8 hS, l_8 hS, k_9 hS, l_9 hS, k_10 hS, k_11 hS, l_11 hS, k_12 hS, k_13 hS, l_13 hS, k_14 hS, k_15 hS, l_15 hS, k_16 hS, k_17 hS, l_17 hS, k_66 hS, k_67 hS, l_67 hS, k_68 hS, l_68 hS, k_69 hS, l_69 hS, k_70 hS, l_70 hS, k_71 hS, l_71 hS, k_72 hS, k_73 hS, l_73 hS, k_74 hS, l_74 hS, k_75 hS, k_76 hS, l_76 hS, k_77 hS, k_78 hS, l_78 hS, k_79 hS, k_80 hS, l_80 hS, k_81 hS, k_82 hS, l_82 hS, k_131 hS, k_132 hS, l_132 hS, k_133 hS, l_133 hS, k_134 hS, l_134 hS, k_135 hS, k_136 hS, l_136 hS, k_137 hS, l_137 hS, k_138 hS, l_138 hS, k_139 hS, l_139 hS, k_140 hS, k_141 hS, l_141 hS, k_142 hS, l_142 hS, k_143 hS, k_144 hS, l_144 hS, k_145 hS, k_146 hS, l_146 hS, k_147 hS, l_147 hS, k_148 hS, l_148 hS, k_153 hS, l_153 hS, k_154 hS, l_154 hS, k_155 hS, l_155 hS, k_156 hS, k_157 hS, l_157 hS, k_158 hS, l_158 hS, k_159 hS, l_159 hS, r_0_0 hS, r_0_1 hS, r_0_3 hS, r_0_4 hS, r_0_5 hS, r_0_6 hS, r_0_7 hS, r_0_8 hS, r_0_9 hS, r_0_10 hS, r_1_2 hS, r_1_3 hS, r_1_4 hS, r_1_5 hS, r_1_7 hS, r_1_9 hS, r_1_10 hS, r_1_12 hS, r_1_13 hS, r_1_14 hS, r_1_15 hS, r_7_1 hS, r_10_2 hS, r_12_2 hS, r_14_2 hS, r_16_2 hS, r_66_2 hS, r_66_3 hS, r_66_4 hS, r_66_5 hS, r_66_7 hS, r_66_9 hS, r_66_10 hS, r_66_12 hS, r_66_13 hS, r_66_14 hS, r_66_15 hS, r_72_1 hS, r_75_2 hS, r_77_2 hS, r_79_2 hS, r_81_2 hS, r_131_0 hS, r_131_6 hS, r_131_8 hS, r_135_0 hS, r_135_1 hS, r_135_2 hS, r_135_3 hS, r_140_0 hS, r_140_1 hS, r_143_2 hS, r_145_0 hS, r_145_1 hS, r_145_2 hS, r_145_3 hS, r_145_4 hS, r_145_5 hS, r_156_5 hS, k_pv hS, k_pvr hS, k_db hS, k_dbr hS, k_sh hS, l_pvr hS, l_dbr hS, l_sh hS, r_5 hS, r_6 hS, r_pv hS, r_db hS, r_148 hS, ol_s, ol_n, ln_0, ln_1, ln_2, ln_3, ln_4, eq_self, rf_s, rf_n, i01_0, i01_n0, i01_b, b01_0, b01_1, and_self, and_true, true_and, and_false, false_and, if_true, if_false, not_true_eq_false, not_false_eq_true, e10, e00, lt_bg, Nat.reduceLT, Nat.reduceLeDiff, h3, hle, h20, ij, cj, v2, or_true, M, m, nI_1]
      exact R d g Q
    have q1 : ¬ (sn j = true ∨ mb x i j = false) := fun q => by
      rcases q with q | q
      · exact s q
      · rw [m] at q
        exact absurd q (by decide)
    generalize e1 : am_u σ 142 j 1 = s1
    have CS1 : CS 141 142 A pt (fu sn j true) s1 := by rw [← e1]; exact hcs.sn (by decide)
    have n1 : ∀ z, z ≠ 142 → s1 z = σ z := fun z hz => by rw [← e1, u_ne _ _ _ _ hz]
    have p1 : s1 141 j = PI (pt j) := (CS1 j (by omega)).1
    have w : bI true = 1 := rfl
    by_cases p0 : pt j = 0
    · have u : bl (bf x A f) x i (n + 1) j pt sn = (true, fu pt j (i + 1), fu sn j true) := by
        show (if sn j = true ∨ mb x i j = false then _ else _) = _
        rw [if_neg q1, if_pos p0]
      have p1 : s1 141 j = -1 := p1.trans (if_pos p0)
      have lt : ((-1 : Int32) < 0) = True := by decide
      rw [u]
      refine ⟨am_u s1 141 j (nI i), fun z h1 h2 => by rw [u_ne _ _ _ _ h1, n1 z h2], CS1.pt (by decide), fun d g Q => ?_⟩
      rw [s58_11]
      simp only [s58_13, s58_14, s58_17, s58_20, s58_22, s58_24, s58_27, s58_28, s58_31, s58_33, s58_34, s58_37, s58_38, s58_39, s58_41, s58_44, s58_47, s58_48, s58_51, s58_53, s58_54, s58_55, s58_56, s58_59, s58_61, s58_62, s58_83, s58_84, s58_87, s58_89, s58_90, s58_91, s58_92, k_0 hS, k_1 hS, k_2 hS, l_2 hS, k_3 hS, l_3 hS, k_4 hS, l_4 hS, k_5 hS, l_5 hS, k_6 hS, l_6 hS, k_7 hS, k_8 hS, l_8 hS, k_9 hS, l_9 hS, k_10 hS, k_11 hS, l_11 hS, k_12 hS, k_13 hS, l_13 hS, k_14 hS, k_15 hS, l_15 hS, k_16 hS, k_17 hS, l_17 hS, k_66 hS, k_67 hS, l_67 hS, k_68 hS, l_68 hS, k_69 hS, l_69 hS, k_70 hS, l_70 hS, k_71 hS, l_71 hS, k_72 hS, k_73 hS, l_73 hS, k_74 hS, l_74 hS, k_75 hS, k_76 hS, l_76 hS, k_77 hS, k_78 hS, l_78 hS, k_79 hS, k_80 hS, l_80 hS, k_81 hS, k_82 hS, l_82 hS, k_131 hS, k_132 hS, l_132 hS, k_133 hS, l_133 hS, k_134 hS, l_134 hS, k_135 hS, k_136 hS, l_136 hS, k_137 hS, l_137 hS, k_138 hS, l_138 hS, k_139 hS, l_139 hS, k_140 hS, k_141 hS, l_141 hS, k_142 hS, l_142 hS, k_143 hS, k_144 hS, l_144 hS, k_145 hS, k_146 hS, l_146 hS, k_147 hS, l_147 hS, k_148 hS, l_148 hS, k_153 hS, l_153 hS, k_154 hS, l_154 hS, k_155 hS, l_155 hS, k_156 hS, k_157 hS, l_157 hS, k_158 hS, l_158 hS, k_159 hS, l_159 hS, r_0_0 hS, r_0_1 hS, r_0_3 hS, r_0_4 hS, r_0_5 hS, r_0_6 hS, r_0_7 hS, r_0_8 hS, r_0_9 hS, r_0_10 hS, r_1_2 hS, r_1_3 hS, r_1_4 hS, r_1_5 hS, r_1_7 hS, r_1_9 hS, r_1_10 hS, r_1_12 hS, r_1_13 hS, r_1_14 hS, r_1_15 hS, r_7_1 hS, r_10_2 hS, r_12_2 hS, r_14_2 hS, r_16_2 hS, r_66_2 hS, r_66_3 hS, r_66_4 hS, r_66_5 hS, r_66_7 hS, r_66_9 hS, r_66_10 hS, r_66_12 hS, r_66_13 hS, r_66_14 hS, r_66_15 hS, r_72_1 hS, r_75_2 hS, r_77_2 hS, r_79_2 hS, r_81_2 hS, r_131_0 hS, r_131_6 hS, r_131_8 hS, r_135_0 hS, r_135_1 hS, r_135_2 hS, r_135_3 hS, r_140_0 hS, r_140_1 hS, r_143_2 hS, r_145_0 hS, r_145_1 hS, r_145_2 hS, r_145_3 hS, r_145_4 hS, r_145_5 hS, r_156_5 hS, k_pv hS, k_pvr hS, k_db hS, k_dbr hS, k_sh hS, l_pvr hS, l_dbr hS, l_sh hS, r_5 hS, r_6 hS, r_pv hS, r_db hS, r_148 hS, ol_s, ol_n, ln_0, ln_1, ln_2, ln_3, ln_4, eq_self, rf_s, rf_n, i01_0, i01_n0, i01_b, b01_0, b01_1, and_self, and_true, true_and, and_false, false_and, if_true, if_false, not_true_eq_false, not_false_eq_true, e10, e00, lt_bg, Nat.reduceLT, Nat.reduceLeDiff, h3, hle, h20, ij, cj, v2, or_true, M, m, e1, p1, lt, w]
    obtain ⟨o1, o2, o3⟩ := ok j (by omega) p0
    have p1 : s1 141 j = nI (pt j - 1) := p1.trans (if_neg p0)
    have lt : ¬ nI (pt j - 1) < 0 := Int32.not_lt.mpr (nI_le (a := 0) (Nat.zero_le _) (by omega))
    have uu := un_up (sn := sn) s A (by omega)
    obtain ⟨s2, F2, C2, R2⟩ := IH (pt j - 1) (dep + 1) pt (fu sn j true) s1 (by omega) o2 ok (hp.cg (fun z _ _ h3 _ _ => n1 z h3)) CS1 (by omega) (by omega)
    obtain ⟨g1, g2, _⟩ := bf_good (x := x) (A := A) f (pt j - 1) pt (fu sn j true) (by omega) o2 ok
    by_cases r : (bf x A f (pt j - 1) pt (fu sn j true)).1 = true
    · have u : bl (bf x A f) x i (n + 1) j pt sn = (true, fu (bf x A f (pt j - 1) pt (fu sn j true)).2.1 j (i + 1), (bf x A f (pt j - 1) pt (fu sn j true)).2.2) := by
        show (if sn j = true ∨ mb x i j = false then _ else _) = _
        rw [if_neg q1, if_neg p0, if_pos r]
      rw [u]
      refine ⟨am_u s2 141 j (nI i), fun z h1 h2 => by rw [u_ne _ _ _ _ h1, F2 z h1 h2, n1 z h2], C2.pt (by decide), fun d g Q => ?_⟩
      rw [s58_11]
      simp only [s58_13, s58_14, s58_17, s58_20, s58_22, s58_24, s58_27, s58_28, s58_31, s58_33, s58_34, s58_37, s58_38, s58_39, s58_41, s58_44, s58_47, s58_48, s58_51, s58_53, s58_54, s58_55, s58_56, s58_59, s58_61, s58_62, s58_65, s58_66, s58_67, s58_68, s58_71, s58_73, s58_74, s58_75, s58_76, s58_77, s58_80, s58_83, s58_84, s58_87, s58_89, s58_90, s58_91, s58_92, k_0 hS, k_1 hS, k_2 hS, l_2 hS, k_3 hS, l_3 hS, k_4 hS, l_4 hS, k_5 hS, l_5 hS, k_6 hS, l_6 hS, k_7 hS, k_8 hS, l_8 hS, k_9 hS, l_9 hS, k_10 hS, k_11 hS, l_11 hS, k_12 hS, k_13 hS, l_13 hS, k_14 hS, k_15 hS, l_15 hS, k_16 hS, k_17 hS, l_17 hS, k_66 hS, k_67 hS, l_67 hS, k_68 hS, l_68 hS, k_69 hS, l_69 hS, k_70 hS, l_70 hS, k_71 hS, l_71 hS, k_72 hS, k_73 hS, l_73 hS, k_74 hS, l_74 hS, k_75 hS, k_76 hS, l_76 hS, k_77 hS, k_78 hS, l_78 hS, k_79 hS, k_80 hS, l_80 hS, k_81 hS, k_82 hS, l_82 hS, k_131 hS, k_132 hS, l_132 hS, k_133 hS, l_133 hS, k_134 hS, l_134 hS, k_135 hS, k_136 hS, l_136 hS, k_137 hS, l_137 hS, k_138 hS, l_138 hS, k_139 hS, l_139 hS, k_140 hS, k_141 hS, l_141 hS, k_142 hS, l_142 hS, k_143 hS, k_144 hS, l_144 hS, k_145 hS, k_146 hS, l_146 hS, k_147 hS, l_147 hS, k_148 hS, l_148 hS, k_153 hS, l_153 hS, k_154 hS, l_154 hS, k_155 hS, l_155 hS, k_156 hS, k_157 hS, l_157 hS, k_158 hS, l_158 hS, k_159 hS, l_159 hS, r_0_0 hS, r_0_1 hS, r_0_3 hS, r_0_4 hS, r_0_5 hS, r_0_6 hS, r_0_7 hS, r_0_8 hS, r_0_9 hS, r_0_10 hS, r_1_2 hS, r_1_3 hS, r_1_4 hS, r_1_5 hS, r_1_7 hS, r_1_9 hS, r_1_10 hS, r_1_12 hS, r_1_13 hS, r_1_14 hS, r_1_15 hS, r_7_1 hS, r_10_2 hS, r_12_2 hS, r_14_2 hS, r_16_2 hS, r_66_2 hS, r_66_3 hS, r_66_4 hS, r_66_5 hS, r_66_7 hS, r_66_9 hS, r_66_10 hS, r_66_12 hS, r_66_13 hS, r_66_14 hS, r_66_15 hS, r_72_1 hS, r_75_2 hS, r_77_2 hS, r_79_2 hS, r_81_2 hS, r_131_0 hS, r_131_6 hS, r_131_8 hS, r_135_0 hS, r_135_1 hS, r_135_2 hS, r_135_3 hS, r_140_0 hS, r_140_1 hS, r_143_2 hS, r_145_0 hS, r_145_1 hS, r_145_2 hS, r_145_3 hS, r_145_4 hS, r_145_5 hS, r_156_5 hS, k_pv hS, k_pvr hS, k_db hS, k_dbr hS, k_sh hS, l_pvr hS, l_dbr hS, l_sh hS, r_5 hS, r_6 hS, r_pv hS, r_db hS, r_148 hS, ol_s, ol_n, ln_0, ln_1, ln_2, ln_3, ln_4, eq_self, rf_s, rf_n, i01_0, i01_n0, i01_b, b01_0, b01_1, and_self, and_true, true_and, and_false, false_and, if_true, if_false, not_true_eq_false, not_false_eq_true, e10, e00, lt_bg, Nat.reduceLT, Nat.reduceLeDiff, h3, hle, h20, ij, cj, v2, or_true, M, m, e1, p1, lt, nI_1, R2, r, w]
    · have u : bl (bf x A f) x i (n + 1) j pt sn = bl (bf x A f) x i n (j + 1) (bf x A f (pt j - 1) pt (fu sn j true)).2.1 (bf x A f (pt j - 1) pt (fu sn j true)).2.2 := by
        show (if sn j = true ∨ mb x i j = false then _ else _) = _
        rw [if_neg q1, if_neg p0, if_neg r]
      have r' : bI (bf x A f (pt j - 1) pt (fu sn j true)).1 = 0 := if_neg r
      obtain ⟨s', F, C', R⟩ := c58L hS hA IH n (j + 1) i dep (bf x A f (pt j - 1) pt (fu sn j true)).2.1 (bf x A f (pt j - 1) pt (fu sn j true)).2.2 s2 (by omega) hi h0 g2 (hp.cg (fun z _ h2 h3 _ _ => by rw [F2 z h2 h3, n1 z h3])) C2 (by omega) (by omega)
      rw [u]
      refine ⟨s', fun z h1 h2 => by rw [F z h1 h2, F2 z h1 h2, n1 z h2], C', fun d g Q => ?_⟩
      rw [s58_11]
      simp only [s58_13, s58_14, s58_17, s58_20, s58_22, s58_24, s58_27, s58_28, s58_31, s58_33, s58_34, s58_37, s58_38, s58_39, s58_41, s58_44, s58_47, s58_48, s58_51, s58_53, s58_54, s58_55, s58_56, s58_59, s58_61, s58_62, s58_65, s58_66, s58_67, s58_68, s58_71, s58_73, s58_74, s58_75, s58_76, s58_77, s58_80, s58_93, s58_96, k_0 hS, k_1 hS, k_2 hS, l_2 hS, k_3 hS, l_3 hS, k_4 hS, l_4 hS, k_5 hS, l_5 hS, k_6 hS, l_6 hS, k_7 hS, k_8 hS, l_8 hS, k_9 hS, l_9 hS, k_10 hS, k_11 hS, l_11 hS, k_12 hS, k_13 hS, l_13 hS, k_14 hS, k_15 hS, l_15 hS, k_16 hS, k_17 hS, l_17 hS, k_66 hS, k_67 hS, l_67 hS, k_68 hS, l_68 hS, k_69 hS, l_69 hS, k_70 hS, l_70 hS, k_71 hS, l_71 hS, k_72 hS, k_73 hS, l_73 hS, k_74 hS, l_74 hS, k_75 hS, k_76 hS, l_76 hS, k_77 hS, k_78 hS, l_78 hS, k_79 hS, k_80 hS, l_80 hS, k_81 hS, k_82 hS, l_82 hS, k_131 hS, k_132 hS, l_132 hS, k_133 hS, l_133 hS, k_134 hS, l_134 hS, k_135 hS, k_136 hS, l_136 hS, k_137 hS, l_137 hS, k_138 hS, l_138 hS, k_139 hS, l_139 hS, k_140 hS, k_141 hS, l_141 hS, k_142 hS, l_142 hS, k_143 hS, k_144 hS, l_144 hS, k_145 hS, k_146 hS, l_146 hS, k_147 hS, l_147 hS, k_148 hS, l_148 hS, k_153 hS, l_153 hS, k_154 hS, l_154 hS, k_155 hS, l_155 hS, k_156 hS, k_157 hS, l_157 hS, k_158 hS, l_158 hS, k_159 hS, l_159 hS, r_0_0 hS, r_0_1 hS, r_0_3 hS, r_0_4 hS, r_0_5 hS, r_0_6 hS, r_0_7 hS, r_0_8 hS, r_0_9 hS, r_0_10 hS, r_1_2 hS, r_1_3 hS, r_1_4 hS, r_1_5 hS, r_1_7 hS, r_1_9 hS, r_1_10 hS, r_1_12 hS, r_1_13 hS, r_1_14 hS, r_1_15 hS, r_7_1 hS, r_10_2 hS, r_12_2 hS, r_14_2 hS, r_16_2 hS, r_66_2 hS, r_66_3 hS, r_66_4 hS, r_66_5 hS, r_66_7 hS, r_66_9 hS, r_66_10 hS, r_66_12 hS, r_66_13 hS, r_66_14 hS, r_66_15 hS, r_72_1 hS, r_75_2 hS, r_77_2 hS, r_79_2 hS, r_81_2 hS, r_131_0 hS, r_131_6 hS, r_131_8 hS, r_135_0 hS, r_135_1 hS, r_135_2 hS, r_135_3 hS, r_140_0 hS, r_140_1 hS, r_143_2 hS, r_145_0 hS, r_145_1 hS, r_145_2 hS, r_145_3 hS, r_145_4 hS, r_145_5 hS, r_156_5 hS, k_pv hS, k_pvr hS, k_db hS, k_dbr hS, k_sh hS, l_pvr hS, l_dbr hS, l_sh hS, r_5 hS, r_6 hS, r_pv hS, r_db hS, r_148 hS, ol_s, ol_n, ln_0, ln_1, ln_2, ln_3, ln_4, eq_self, rf_s, rf_n, i01_0, i01_n0, i01_b, b01_0, b01_1, and_self, and_true, true_and, and_false, false_and, if_true, if_false, not_true_eq_false, not_false_eq_true, e10, e00, lt_bg, Nat.reduceLT, Nat.reduceLeDiff, h3, hle, h20, ij, cj, v2, or_true, M, m, e1, p1, lt, nI_1, R2, r']
      exact R d g Q
theorem c58 (hS : Sh ρ τ) {A : Nat} {x : Nat → Nat → Nat} (hA : A ≤ 20) : ∀ f, S58 A x ρ τ f
  | 0 => fun _ _ _ _ _ _ _ _ _ _ h => absurd h (Nat.not_lt_zero _)
  | f + 1 => fun i dep pt sn σ hi h0 ok hp hcs hu hd => by
    obtain ⟨s', F, C', R⟩ := c58L hS hA (c58 hS hA f) A 0 i dep pt sn σ (by omega) hi h0 ok hp hcs (by omega) hd
    have e20 : nI 20 = (20 : Int32) := by decide
    have l : nI dep ≤ (20 : Int32) := by rw [← e20]; exact nI_le (by omega) (by omega)
    refine ⟨s', F, C', fun d g Q => ?_⟩
    have R := R d g Q
    rw [nI_0] at R
    show AW (d + 4 + f + 1) 58 0 _ _ _ _ _ _ _ = _
    simp only [s58_0, s58_1, s58_3, s58_6, s58_7, s58_8, s58_9, ol_s, ol_n, ln_0, ln_1, ln_2, ln_3, ln_4, eq_self, rf_s, rf_n, i01_0, i01_n0, i01_b, b01_0, b01_1, and_self, and_true, true_and, and_false, false_and, if_true, if_false, not_true_eq_false, not_false_eq_true, e10, e00, lt_bg, Nat.reduceLT, Nat.reduceLeDiff, l]
    exact R
def S234 (A : Nat) (x : Nat → Nat → Nat) (ρ : am_R) (τ : am_T) (f : Nat) : Prop := ∀ (i : Nat) (pt : Pt) (sn : Sn) (σ : am_I), i < A → x 0 i = 0 → Ok A x pt → PX A x σ → CS 219 220 A pt sn σ → un sn A < f → ∃ σ' : am_I, (∀ z, z ≠ 219 → z ≠ 220 → σ' z = σ z) ∧ CS 219 220 A (bf x A f i pt sn).2.1 (bf x A f i pt sn).2.2 σ' ∧ ∀ (d : Nat) (g : am_J) (Q : am_Q), AW (d + 1 + f) 234 0 [.ref 160, .int (nI i), am_jk] [] σ ρ g τ Q = Q (some (.int (bI (bf x A f i pt sn).1))) σ' ρ g τ
theorem c234L (hS : Sh ρ τ) {A : Nat} {x : Nat → Nat → Nat} (hA : A ≤ 20) {f : Nat} (IH : S234 A x ρ τ f) : ∀ (n j i : Nat) (pt : Pt) (sn : Sn) (σ : am_I), j + n = A → i < A → x 0 i = 0 → Ok A x pt → PX A x σ → CS 219 220 A pt sn σ → un sn A ≤ f → ∃ σ' : am_I, (∀ z, z ≠ 219 → z ≠ 220 → σ' z = σ z) ∧ CS 219 220 A (bl (bf x A f) x i n j pt sn).2.1 (bl (bf x A f) x i n j pt sn).2.2 σ' ∧ ∀ (d : Nat) (g : am_J) (Q : am_Q), AW (d + 1 + f + 1) 234 2 [.ref 160, .int (nI i), .int (nI j)] [] σ ρ g τ Q = Q (some (.int (bI (bl (bf x A f) x i n j pt sn).1))) σ' ρ g τ
  | 0, j, i, pt, sn, σ, e, _, _, _, hp, hcs, _ => by
    have e : j = A := by omega
    subst e
    have hle : nI j ≤ nI j := Int32.le_refl _
    have h3 := hp.2.2.1
    have i5 : am_inb (5 : Int32) 9 = true := by decide
    refine ⟨σ, fun _ _ _ => rfl, hcs, fun d g Q => ?_⟩
    have w : bI (bl (bf x j f) x i 0 j pt sn).1 = 0 := rfl
    rw [w]
    simp only [s234_2, s234_3, s234_4, s234_7, s234_8, s234_9, s234_77, s234_78, k_160 hS, k_161 hS, l_161 hS, k_162 hS, l_162 hS, k_163 hS, l_163 hS, k_164 hS, l_164 hS, k_165 hS, l_165 hS, k_166 hS, l_166 hS, k_167 hS, l_167 hS, k_168 hS, l_168 hS, k_169 hS, l_169 hS, k_170 hS, l_170 hS, k_171 hS, l_171 hS, k_172 hS, l_172 hS, k_173 hS, l_173 hS, k_174 hS, l_174 hS, k_175 hS, l_175 hS, k_176 hS, l_176 hS, k_177 hS, l_177 hS, k_178 hS, l_178 hS, k_179 hS, l_179 hS, k_180 hS, l_180 hS, k_181 hS, l_181 hS, k_182 hS, l_182 hS, k_183 hS, l_183 hS, k_184 hS, l_184 hS, k_185 hS, l_185 hS, k_186 hS, l_186 hS, k_187 hS, l_187 hS, k_188 hS, l_188 hS, k_189 hS, l_189 hS, k_190 hS, l_190 hS, k_191 hS, l_191 hS, k_192 hS, l_192 hS, k_193 hS, l_193 hS, k_194 hS, l_194 hS, k_195 hS, l_195 hS, k_196 hS, l_196 hS, k_197 hS, l_197 hS, k_198 hS, l_198 hS, k_199 hS, l_199 hS, k_200 hS, l_200 hS, k_201 hS, l_201 hS, k_202 hS, l_202 hS, k_203 hS, l_203 hS, k_204 hS, l_204 hS, k_205 hS, l_205 hS, k_206 hS, l_206 hS, k_207 hS, l_207 hS, k_208 hS, l_208 hS, k_209 hS, l_209 hS, k_210 hS, l_210 hS, k_211 hS, l_211 hS, k_212 hS, l_212 hS, k_213 hS, l_213 hS, k_214 hS, l_214 hS, k_215 hS, l_215 hS, k_216 hS, l_216 hS, k_217 hS, l_217 hS, k_218 hS, l_218 hS, k_219 hS, l_219 hS, k_220 hS, l_220 hS, r_160_0 hS, r_160_1 hS, r_160_2 hS, r_160_3 hS, r_160_4 hS, r_160_5 hS, r_160_6 hS, r_160_7 hS, r_160_8 hS, r_160_9 hS, r_160_10 hS, r_160_11 hS, r_160_12 hS, r_160_13 hS, r_160_14 hS, r_160_15 hS, r_160_16 hS, r_160_17 hS, r_160_18 hS, r_160_19 hS, r_160_20 hS, r_160_21 hS, r_160_22 hS, r_160_23 hS, r_160_24 hS, r_160_25 hS, r_160_26 hS, r_160_27 hS, r_160_28 hS, r_160_29 hS, r_160_30 hS, r_160_31 hS, r_160_32 hS, r_160_33 hS, r_160_34 hS, r_160_35 hS, r_160_36 hS, r_160_37 hS, r_160_38 hS, r_160_39 hS, r_160_40 hS, r_160_41 hS, r_160_43 hS, r_160_45 hS, r_160_46 hS, r_160_48 hS, r_160_49 hS, r_160_50 hS, r_160_51 hS, r_160_52 hS, r_160_53 hS, r_160_54 hS, r_160_56 hS, r_160_63 hS, r_160_64 hS, r_160_65 hS, r_160_66 hS, r_160_67 hS, r_160_68 hS, r_160_69 hS, ol_s, ol_n, ln_0, ln_1, ln_2, ln_3, ln_4, eq_self, rf_s, rf_n, i01_0, i01_n0, i01_b, b01_0, b01_1, and_self, and_true, true_and, and_false, false_and, if_true, if_false, not_true_eq_false, not_false_eq_true, e10, e00, lt_bg, Nat.reduceLT, Nat.reduceLeDiff, i5, z5, h3, hle]
  | n + 1, j, i, pt, sn, σ, e, hi, h0, ok, hp, hcs, hu => by
    have i5 : am_inb (5 : Int32) 9 = true := by decide
    have hle : ¬ nI A ≤ nI j := nI_ge (by omega) (by omega)
    have ij : am_inb (nI j) 20 = true := inb_n (by omega) (by decide)
    have cj : (nI j).toNatClampNeg = j := nI_clamp (by omega)
    have h3 := hp.2.2.1
    obtain ⟨v1, v2⟩ := hcs j (by omega)
    by_cases s : sn j = true
    · have u : bl (bf x A f) x i (n + 1) j pt sn = bl (bf x A f) x i n (j + 1) pt sn := if_pos (Or.inl s)
      have v2 : σ 220 j = 1 := v2.trans (if_pos s)
      obtain ⟨s', F, C', R⟩ := c234L hS hA IH n (j + 1) i pt sn σ (by omega) hi h0 ok hp hcs hu
      rw [u]
      refine ⟨s', F, C', fun d g Q => ?_⟩
      rw [s234_2]
      simp only [s234_3, s234_4, s234_7, s234_8, s234_9, s234_12, s234_13, s234_16, s234_17, s234_18, s234_71, s234_74, k_160 hS, k_161 hS, l_161 hS, k_162 hS, l_162 hS, k_163 hS, l_163 hS, k_164 hS, l_164 hS, k_165 hS, l_165 hS, k_166 hS, l_166 hS, k_167 hS, l_167 hS, k_168 hS, l_168 hS, k_169 hS, l_169 hS, k_170 hS, l_170 hS, k_171 hS, l_171 hS, k_172 hS, l_172 hS, k_173 hS, l_173 hS, k_174 hS, l_174 hS, k_175 hS, l_175 hS, k_176 hS, l_176 hS, k_177 hS, l_177 hS, k_178 hS, l_178 hS, k_179 hS, l_179 hS, k_180 hS, l_180 hS, k_181 hS, l_181 hS, k_182 hS, l_182 hS, k_183 hS, l_183 hS, k_184 hS, l_184 hS, k_185 hS, l_185 hS, k_186 hS, l_186 hS, k_187 hS, l_187 hS, k_188 hS, l_188 hS, k_189 hS, l_189 hS, k_190 hS, l_190 hS, k_191 hS, l_191 hS, k_192 hS, l_192 hS, k_193 hS, l_193 hS, k_194 hS, l_194 hS, k_195 hS, l_195 hS, k_196 hS, l_196 hS, k_197 hS, l_197 hS, k_198 hS, l_198 hS, k_199 hS, l_199 hS, k_200 hS, l_200 hS, k_201 hS, l_201 hS, k_202 hS, l_202 hS, k_203 hS, l_203 hS, k_204 hS, l_204 hS, k_205 hS, l_205 hS, k_206 hS, l_206 hS, k_207 hS, l_207 hS, k_208 hS, l_208 hS, k_209 hS, l_209 hS, k_210 hS, l_210 hS, k_211 hS, l_211 hS, k_212 hS, l_212 hS, k_213 hS, l_213 hS, k_214 hS, l_214 hS, k_215 hS, l_215 hS, k_216 hS, l_216 hS, k_217 hS, l_217 hS, k_218 hS, l_218 hS, k_219 hS, l_219 hS, k_220 hS, l_220 hS, r_160_0 hS, r_160_1 hS, r_160_2 hS, r_160_3 hS, r_160_4 hS, r_160_5 hS, r_160_6 hS, r_160_7 hS, r_160_8 hS, r_160_9 hS, r_160_10 hS, r_160_11 hS, r_160_12 hS, r_160_13 hS, r_160_14 hS, r_160_15 hS, r_160_16 hS, r_160_17 hS, r_160_18 hS, r_160_19 hS, r_160_20 hS, r_160_21 hS, r_160_22 hS, r_160_23 hS, r_160_24 hS, r_160_25 hS, r_160_26 hS, r_160_27 hS, r_160_28 hS, r_160_29 hS, r_160_30 hS, r_160_31 hS, r_160_32 hS, r_160_33 hS, r_160_34 hS, r_160_35 hS, r_160_36 hS, r_160_37 hS, r_160_38 hS, r_160_39 hS, r_160_40 hS, r_160_41 hS, r_160_43 hS, r_160_45 hS, r_160_46 hS, r_160_48 hS, r_160_49 hS, r_160_50 hS, r_160_51 hS, r_160_52 hS, r_160_53 hS, r_160_54 hS, r_160_56 hS, r_160_63 hS, r_160_64 hS, r_160_65 hS, r_160_66 hS, r_160_67 hS, r_160_68 hS, r_160_69 hS, ol_s, ol_n, ln_0, ln_1, ln_2, ln_3, ln_4, eq_self, rf_s, rf_n, i01_0, i01_n0, i01_b, b01_0, b01_1, and_self, and_true, true_and, and_false, false_and, if_true, if_false, not_true_eq_false, not_false_eq_true, e10, e00, lt_bg, Nat.reduceLT, Nat.reduceLeDiff, i5, z5, h3, hle, ij, cj, v2, or_true, nI_1]
      exact R d g Q
    have v2 : σ 220 j = 0 := v2.trans (if_neg s)
    have M := fun (d : Nat) (g : am_J) (Q : am_Q) => c232 (d := d) (g := g) (Q := Q) hS hA hp hi (j := j) (by omega)
    by_cases m : mb x i j = true
    rotate_left
    · have m' : mb x i j = false := by
        cases z : mb x i j
        · rfl
        · exact absurd z m
      have u : bl (bf x A f) x i (n + 1) j pt sn = bl (bf x A f) x i n (j + 1) pt sn := if_pos (Or.inr m')
      obtain ⟨s', F, C', R⟩ := c234L hS hA IH n (j + 1) i pt sn σ (by omega) hi h0 ok hp hcs hu
      rw [u]
      refine ⟨s', F, C', fun d g Q => ?_⟩
      rw [s234_2]
      simp only [s234_3, s234_4, s234_7, s234_8, s234_9, s234_12, s234_13, s234_16, s234_17, s234_18, s234_21, s234_22, s234_23, s234_24, s234_27, s234_30, s234_71, s234_74, k_160 hS, k_161 hS, l_161 hS, k_162 hS, l_162 hS, k_163 hS, l_163 hS, k_164 hS, l_164 hS, k_165 hS, l_165 hS, k_166 hS, l_166 hS, k_167 hS, l_167 hS, k_168 hS, l_168 hS, k_169 hS, l_169 hS, k_170 hS, l_170 hS, k_171 hS, l_171 hS, k_172 hS, l_172 hS, k_173 hS, l_173 hS, k_174 hS, l_174 hS, k_175 hS, l_175 hS, k_176 hS, l_176 hS, k_177 hS, l_177 hS, k_178 hS, l_178 hS, k_179 hS, l_179 hS, k_180 hS, l_180 hS, k_181 hS, l_181 hS, k_182 hS, l_182 hS, k_183 hS, l_183 hS, k_184 hS, l_184 hS, k_185 hS, l_185 hS, k_186 hS, l_186 hS, k_187 hS, l_187 hS, k_188 hS, l_188 hS, k_189 hS, l_189 hS, k_190 hS, l_190 hS, k_191 hS, l_191 hS, k_192 hS, l_192 hS, k_193 hS, l_193 hS, k_194 hS, l_194 hS, k_195 hS, l_195 hS, k_196 hS, l_196 hS, k_197 hS, l_197 hS, k_198 hS, l_198 hS, k_199 hS, l_199 hS, k_200 hS, l_200 hS, k_201 hS, l_201 hS, k_202 hS, l_202 hS, k_203 hS, l_203 hS, k_204 hS, l_204 hS, k_205 hS, l_205 hS, k_206 hS, l_206 hS, k_207 hS, l_207 hS, k_208 hS, l_208 hS, k_209 hS, l_209 hS, k_210 hS, l_210 hS, k_211 hS, l_211 hS, k_212 hS, l_212 hS, k_213 hS, l_213 hS, k_214 hS, l_214 hS, k_215 hS, l_215 hS, k_216 hS, l_216 hS, k_217 hS, l_217 hS, k_218 hS, l_218 hS, k_219 hS, l_219 hS, k_220 hS, l_220 hS, r_160_0 hS, r_160_1 hS, r_160_2 hS, r_160_3 hS, r_160_4 hS, r_160_5 hS, r_160_6 hS, r_160_7 hS, r_160_8 hS, r_160_9 hS, r_160_10 hS, r_160_11 hS, r_160_12 hS, r_160_13 hS, r_160_14 hS, r_160_15 hS, r_160_16 hS, r_160_17 hS, r_160_18 hS, r_160_19 hS, r_160_20 hS, r_160_21 hS, r_160_22 hS, r_160_23 hS, r_160_24 hS, r_160_25 hS, r_160_26 hS, r_160_27 hS, r_160_28 hS, r_160_29 hS, r_160_30 hS, r_160_31 hS, r_160_32 hS, r_160_33 hS, r_160_34 hS, r_160_35 hS, r_160_36 hS, r_160_37 hS, r_160_38 hS, r_160_39 hS, r_160_40 hS, r_160_41 hS, r_160_43 hS, r_160_45 hS, r_160_46 hS, r_160_48 hS, r_160_49 hS, r_160_50 hS, r_160_51 hS, r_160_52 hS, r_160_53 hS, r_160_54 hS, r_160_56 hS, r_160_63 hS, r_160_64 hS, r_160_65 hS, r_160_66 hS, r_160_67 hS, r_160_68 hS, r_160_69 hS, ol_s, ol_n, ln_0, ln_1, ln_2, ln_3, ln_4, eq_self, rf_s, rf_n, i01_0, i01_n0, i01_b, b01_0, b01_1, and_self, and_true, true_and, and_false, false_and, if_true, if_false, not_true_eq_false, not_false_eq_true, e10, e00, lt_bg, Nat.reduceLT, Nat.reduceLeDiff, i5, z5, h3, hle, ij, cj, v2, or_true, M, m, nI_1]
      exact R d g Q
    have q1 : ¬ (sn j = true ∨ mb x i j = false) := fun q => by
      rcases q with q | q
      · exact s q
      · rw [m] at q
        exact absurd q (by decide)
    generalize e1 : am_u σ 220 j 1 = s1
    have CS1 : CS 219 220 A pt (fu sn j true) s1 := by rw [← e1]; exact hcs.sn (by decide)
    have n1 : ∀ z, z ≠ 220 → s1 z = σ z := fun z hz => by rw [← e1, u_ne _ _ _ _ hz]
    have p1 : s1 219 j = PI (pt j) := (CS1 j (by omega)).1
    have w : bI true = 1 := rfl
    by_cases p0 : pt j = 0
    · have u : bl (bf x A f) x i (n + 1) j pt sn = (true, fu pt j (i + 1), fu sn j true) := by
        show (if sn j = true ∨ mb x i j = false then _ else _) = _
        rw [if_neg q1, if_pos p0]
      have p1 : s1 219 j = -1 := p1.trans (if_pos p0)
      have lt : ((-1 : Int32) < 0) = True := by decide
      rw [u]
      refine ⟨am_u s1 219 j (nI i), fun z h1 h2 => by rw [u_ne _ _ _ _ h1, n1 z h2], CS1.pt (by decide), fun d g Q => ?_⟩
      rw [s234_2]
      simp only [s234_3, s234_4, s234_7, s234_8, s234_9, s234_12, s234_13, s234_16, s234_17, s234_18, s234_21, s234_22, s234_23, s234_24, s234_27, s234_30, s234_33, s234_34, s234_37, s234_38, s234_39, s234_40, s234_41, s234_44, s234_45, s234_46, s234_62, s234_63, s234_66, s234_67, s234_68, s234_69, s234_70, k_160 hS, k_161 hS, l_161 hS, k_162 hS, l_162 hS, k_163 hS, l_163 hS, k_164 hS, l_164 hS, k_165 hS, l_165 hS, k_166 hS, l_166 hS, k_167 hS, l_167 hS, k_168 hS, l_168 hS, k_169 hS, l_169 hS, k_170 hS, l_170 hS, k_171 hS, l_171 hS, k_172 hS, l_172 hS, k_173 hS, l_173 hS, k_174 hS, l_174 hS, k_175 hS, l_175 hS, k_176 hS, l_176 hS, k_177 hS, l_177 hS, k_178 hS, l_178 hS, k_179 hS, l_179 hS, k_180 hS, l_180 hS, k_181 hS, l_181 hS, k_182 hS, l_182 hS, k_183 hS, l_183 hS, k_184 hS, l_184 hS, k_185 hS, l_185 hS, k_186 hS, l_186 hS, k_187 hS, l_187 hS, k_188 hS, l_188 hS, k_189 hS, l_189 hS, k_190 hS, l_190 hS, k_191 hS, l_191 hS, k_192 hS, l_192 hS, k_193 hS, l_193 hS, k_194 hS, l_194 hS, k_195 hS, l_195 hS, k_196 hS, l_196 hS, k_197 hS, l_197 hS, k_198 hS, l_198 hS, k_199 hS, l_199 hS, k_200 hS, l_200 hS, k_201 hS, l_201 hS, k_202 hS, l_202 hS, k_203 hS, l_203 hS, k_204 hS, l_204 hS, k_205 hS, l_205 hS, k_206 hS, l_206 hS, k_207 hS, l_207 hS, k_208 hS, l_208 hS, k_209 hS, l_209 hS, k_210 hS, l_210 hS, k_211 hS, l_211 hS, k_212 hS, l_212 hS, k_213 hS, l_213 hS, k_214 hS, l_214 hS, k_215 hS, l_215 hS, k_216 hS, l_216 hS, k_217 hS, l_217 hS, k_218 hS, l_218 hS, k_219 hS, l_219 hS, k_220 hS, l_220 hS, r_160_0 hS, r_160_1 hS, r_160_2 hS, r_160_3 hS, r_160_4 hS, r_160_5 hS, r_160_6 hS, r_160_7 hS, r_160_8 hS, r_160_9 hS, r_160_10 hS, r_160_11 hS, r_160_12 hS, r_160_13 hS, r_160_14 hS, r_160_15 hS, r_160_16 hS, r_160_17 hS, r_160_18 hS, r_160_19 hS, r_160_20 hS, r_160_21 hS, r_160_22 hS, r_160_23 hS, r_160_24 hS, r_160_25 hS, r_160_26 hS, r_160_27 hS, r_160_28 hS, r_160_29 hS, r_160_30 hS, r_160_31 hS, r_160_32 hS, r_160_33 hS, r_160_34 hS, r_160_35 hS, r_160_36 hS, r_160_37 hS, r_160_38 hS, r_160_39 hS, r_160_40 hS, r_160_41 hS, r_160_43 hS, r_160_45 hS, r_160_46 hS, r_160_48 hS, r_160_49 hS, r_160_50 hS, r_160_51 hS, r_160_52 hS, r_160_53 hS, r_160_54 hS, r_160_56 hS, r_160_63 hS, r_160_64 hS, r_160_65 hS, r_160_66 hS, r_160_67 hS, r_160_68 hS, r_160_69 hS, ol_s, ol_n, ln_0, ln_1, ln_2, ln_3, ln_4, eq_self, rf_s, rf_n, i01_0, i01_n0, i01_b, b01_0, b01_1, and_self, and_true, true_and, and_false, false_and, if_true, if_false, not_true_eq_false, not_false_eq_true, e10, e00, lt_bg, Nat.reduceLT, Nat.reduceLeDiff, i5, z5, h3, hle, ij, cj, v2, or_true, M, m, e1, p1, lt, w]
    obtain ⟨o1, o2, o3⟩ := ok j (by omega) p0
    have p1 : s1 219 j = nI (pt j - 1) := p1.trans (if_neg p0)
    have lt : ¬ nI (pt j - 1) < 0 := Int32.not_lt.mpr (nI_le (a := 0) (Nat.zero_le _) (by omega))
    have uu := un_up (sn := sn) s A (by omega)
    obtain ⟨s2, F2, C2, R2⟩ := IH (pt j - 1) pt (fu sn j true) s1 (by omega) o2 ok (hp.cg (fun z _ _ _ _ h3 => n1 z h3)) CS1 (by omega)
    obtain ⟨g1, g2, _⟩ := bf_good (x := x) (A := A) f (pt j - 1) pt (fu sn j true) (by omega) o2 ok
    by_cases r : (bf x A f (pt j - 1) pt (fu sn j true)).1 = true
    · have u : bl (bf x A f) x i (n + 1) j pt sn = (true, fu (bf x A f (pt j - 1) pt (fu sn j true)).2.1 j (i + 1), (bf x A f (pt j - 1) pt (fu sn j true)).2.2) := by
        show (if sn j = true ∨ mb x i j = false then _ else _) = _
        rw [if_neg q1, if_neg p0, if_pos r]
      rw [u]
      refine ⟨am_u s2 219 j (nI i), fun z h1 h2 => by rw [u_ne _ _ _ _ h1, F2 z h1 h2, n1 z h2], C2.pt (by decide), fun d g Q => ?_⟩
      rw [s234_2]
      simp only [s234_3, s234_4, s234_7, s234_8, s234_9, s234_12, s234_13, s234_16, s234_17, s234_18, s234_21, s234_22, s234_23, s234_24, s234_27, s234_30, s234_33, s234_34, s234_37, s234_38, s234_39, s234_40, s234_41, s234_44, s234_45, s234_46, s234_49, s234_50, s234_51, s234_54, s234_55, s234_56, s234_59, s234_62, s234_63, s234_66, s234_67, s234_68, s234_69, s234_70, k_160 hS, k_161 hS, l_161 hS, k_162 hS, l_162 hS, k_163 hS, l_163 hS, k_164 hS, l_164 hS, k_165 hS, l_165 hS, k_166 hS, l_166 hS, k_167 hS, l_167 hS, k_168 hS, l_168 hS, k_169 hS, l_169 hS, k_170 hS, l_170 hS, k_171 hS, l_171 hS, k_172 hS, l_172 hS, k_173 hS, l_173 hS, k_174 hS, l_174 hS, k_175 hS, l_175 hS, k_176 hS, l_176 hS, k_177 hS, l_177 hS, k_178 hS, l_178 hS, k_179 hS, l_179 hS, k_180 hS, l_180 hS, k_181 hS, l_181 hS, k_182 hS, l_182 hS, k_183 hS, l_183 hS, k_184 hS, l_184 hS, k_185 hS, l_185 hS, k_186 hS, l_186 hS, k_187 hS, l_187 hS, k_188 hS, l_188 hS, k_189 hS, l_189 hS, k_190 hS, l_190 hS, k_191 hS, l_191 hS, k_192 hS, l_192 hS, k_193 hS, l_193 hS, k_194 hS, l_194 hS, k_195 hS, l_195 hS, k_196 hS, l_196 hS, k_197 hS, l_197 hS, k_198 hS, l_198 hS, k_199 hS, l_199 hS, k_200 hS, l_200 hS, k_201 hS, l_201 hS, k_202 hS, l_202 hS, k_203 hS, l_203 hS, k_204 hS, l_204 hS, k_205 hS, l_205 hS, k_206 hS, l_206 hS, k_207 hS, l_207 hS, k_208 hS, l_208 hS, k_209 hS, l_209 hS, k_210 hS, l_210 hS, k_211 hS, l_211 hS, k_212 hS, l_212 hS, k_213 hS, l_213 hS, k_214 hS, l_214 hS, k_215 hS, l_215 hS, k_216 hS, l_216 hS, k_217 hS, l_217 hS, k_218 hS, l_218 hS, k_219 hS, l_219 hS, k_220 hS, l_220 hS, r_160_0 hS, r_160_1 hS, r_160_2 hS, r_160_3 hS, r_160_4 hS, r_160_5 hS, r_160_6 hS, r_160_7 hS, r_160_8 hS, r_160_9 hS, r_160_10 hS, r_160_11 hS, r_160_12 hS, r_160_13 hS, r_160_14 hS, r_160_15 hS, r_160_16 hS, r_160_17 hS, r_160_18 hS, r_160_19 hS, r_160_20 hS, r_160_21 hS, r_160_22 hS, r_160_23 hS, r_160_24 hS, r_160_25 hS, r_160_26 hS, r_160_27 hS, r_160_28 hS, r_160_29 hS, r_160_30 hS, r_160_31 hS, r_160_32 hS, r_160_33 hS, r_160_34 hS, r_160_35 hS, r_160_36 hS, r_160_37 hS, r_160_38 hS, r_160_39 hS, r_160_40 hS, r_160_41 hS, r_160_43 hS, r_160_45 hS, r_160_46 hS, r_160_48 hS, r_160_49 hS, r_160_50 hS, r_160_51 hS, r_160_52 hS, r_160_53 hS, r_160_54 hS, r_160_56 hS, r_160_63 hS, r_160_64 hS, r_160_65 hS, r_160_66 hS, r_160_67 hS, r_160_68 hS, r_160_69 hS, ol_s, ol_n, ln_0, ln_1, ln_2, ln_3, ln_4, eq_self, rf_s, rf_n, i01_0, i01_n0, i01_b, b01_0, b01_1, and_self, and_true, true_and, and_false, false_and, if_true, if_false, not_true_eq_false, not_false_eq_true, e10, e00, lt_bg, Nat.reduceLT, Nat.reduceLeDiff, i5, z5, h3, hle, ij, cj, v2, or_true, M, m, e1, p1, lt, R2, r, w]
    · have u : bl (bf x A f) x i (n + 1) j pt sn = bl (bf x A f) x i n (j + 1) (bf x A f (pt j - 1) pt (fu sn j true)).2.1 (bf x A f (pt j - 1) pt (fu sn j true)).2.2 := by
        show (if sn j = true ∨ mb x i j = false then _ else _) = _
        rw [if_neg q1, if_neg p0, if_neg r]
      have r' : bI (bf x A f (pt j - 1) pt (fu sn j true)).1 = 0 := if_neg r
      obtain ⟨s', F, C', R⟩ := c234L hS hA IH n (j + 1) i (bf x A f (pt j - 1) pt (fu sn j true)).2.1 (bf x A f (pt j - 1) pt (fu sn j true)).2.2 s2 (by omega) hi h0 g2 (hp.cg (fun z _ _ _ h2 h3 => by rw [F2 z h2 h3, n1 z h3])) C2 (by omega)
      rw [u]
      refine ⟨s', fun z h1 h2 => by rw [F z h1 h2, F2 z h1 h2, n1 z h2], C', fun d g Q => ?_⟩
      rw [s234_2]
      simp only [s234_3, s234_4, s234_7, s234_8, s234_9, s234_12, s234_13, s234_16, s234_17, s234_18, s234_21, s234_22, s234_23, s234_24, s234_27, s234_30, s234_33, s234_34, s234_37, s234_38, s234_39, s234_40, s234_41, s234_44, s234_45, s234_46, s234_49, s234_50, s234_51, s234_54, s234_55, s234_56, s234_59, s234_71, s234_74, k_160 hS, k_161 hS, l_161 hS, k_162 hS, l_162 hS, k_163 hS, l_163 hS, k_164 hS, l_164 hS, k_165 hS, l_165 hS, k_166 hS, l_166 hS, k_167 hS, l_167 hS, k_168 hS, l_168 hS, k_169 hS, l_169 hS, k_170 hS, l_170 hS, k_171 hS, l_171 hS, k_172 hS, l_172 hS, k_173 hS, l_173 hS, k_174 hS, l_174 hS, k_175 hS, l_175 hS, k_176 hS, l_176 hS, k_177 hS, l_177 hS, k_178 hS, l_178 hS, k_179 hS, l_179 hS, k_180 hS, l_180 hS, k_181 hS, l_181 hS, k_182 hS, l_182 hS, k_183 hS, l_183 hS, k_184 hS, l_184 hS, k_185 hS, l_185 hS, k_186 hS, l_186 hS, k_187 hS, l_187 hS, k_188 hS, l_188 hS, k_189 hS, l_189 hS, k_190 hS, l_190 hS, k_191 hS, l_191 hS, k_192 hS, l_192 hS, k_193 hS, l_193 hS, k_194 hS, l_194 hS, k_195 hS, l_195 hS, k_196 hS, l_196 hS, k_197 hS, l_197 hS, k_198 hS, l_198 hS, k_199 hS, l_199 hS, k_200 hS, l_200 hS, k_201 hS, l_201 hS, k_202 hS, l_202 hS, k_203 hS, l_203 hS, k_204 hS, l_204 hS, k_205 hS, l_205 hS, k_206 hS, l_206 hS, k_207 hS, l_207 hS, k_208 hS, l_208 hS, k_209 hS, l_209 hS, k_210 hS, l_210 hS, k_211 hS, l_211 hS, k_212 hS, l_212 hS, k_213 hS, l_213 hS, k_214 hS, l_214 hS, k_215 hS, l_215 hS, k_216 hS, l_216 hS, k_217 hS, l_217 hS, k_218 hS, l_218 hS, k_219 hS, l_219 hS, k_220 hS, l_220 hS, r_160_0 hS, r_160_1 hS, r_160_2 hS, r_160_3 hS, r_160_4 hS, r_160_5 hS, r_160_6 hS, r_160_7 hS, r_160_8 hS, r_160_9 hS, r_160_10 hS, r_160_11 hS, r_160_12 hS, r_160_13 hS, r_160_14 hS, r_160_15 hS, r_160_16 hS, r_160_17 hS, r_160_18 hS, r_160_19 hS, r_160_20 hS, r_160_21 hS, r_160_22 hS, r_160_23 hS, r_160_24 hS, r_160_25 hS, r_160_26 hS, r_160_27 hS, r_160_28 hS, r_160_29 hS, r_160_30 hS, r_160_31 hS, r_160_32 hS, r_160_33 hS, r_160_34 hS, r_160_35 hS, r_160_36 hS, r_160_37 hS, r_160_38 hS, r_160_39 hS, r_160_40 hS, r_160_41 hS, r_160_43 hS, r_160_45 hS, r_160_46 hS, r_160_48 hS, r_160_49 hS, r_160_50 hS, r_160_51 hS, r_160_52 hS, r_160_53 hS, r_160_54 hS, r_160_56 hS, r_160_63 hS, r_160_64 hS, r_160_65 hS, r_160_66 hS, r_160_67 hS, r_160_68 hS, r_160_69 hS, ol_s, ol_n, ln_0, ln_1, ln_2, ln_3, ln_4, eq_self, rf_s, rf_n, i01_0, i01_n0, i01_b, b01_0, b01_1, and_self, and_true, true_and, and_false, false_and, if_true, if_false, not_true_eq_false, not_false_eq_true, e10, e00, lt_bg, Nat.reduceLT, Nat.reduceLeDiff, i5, z5, h3, hle, ij, cj, v2, or_true, M, m, e1, p1, lt, nI_1, R2, r']
      exact R d g Q
theorem c234 (hS : Sh ρ τ) {A : Nat} {x : Nat → Nat → Nat} (hA : A ≤ 20) : ∀ f, S234 A x ρ τ f
  | 0 => fun _ _ _ _ _ _ _ _ _ h => absurd h (Nat.not_lt_zero _)
  | f + 1 => fun i pt sn σ hi h0 ok hp hcs hu => by
    obtain ⟨s', F, C', R⟩ := c234L hS hA (c234 hS hA f) A 0 i pt sn σ (by omega) hi h0 ok hp hcs (by omega)
    refine ⟨s', F, C', fun d g Q => ?_⟩
    have R := R d g Q
    rw [nI_0] at R
    show AW (d + 1 + f + 1) 234 0 _ _ _ _ _ _ _ = _
    simp only [s234_0, s234_1, ol_s, ol_n, ln_0, ln_1, ln_2, ln_3, ln_4, eq_self, rf_s, rf_n, i01_0, i01_n0, i01_b, b01_0, b01_1, and_self, and_true, true_and, and_false, false_and, if_true, if_false, not_true_eq_false, not_false_eq_true, e10, e00, lt_bg, Nat.reduceLT, Nat.reduceLeDiff]
    exact R
end OCO
