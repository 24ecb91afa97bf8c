/-! takings: what goes round, told one by one and group by group -/
def sumN (f : Nat → Nat) : Nat → Nat
  | 0 => 0
  | n + 1 => sumN f n + f n
theorem sumN_cg {f h : Nat → Nat} : ∀ n, (∀ t, t < n → f t = h t) → sumN f n = sumN h n
  | 0, _ => rfl
  | n + 1, e => by
    show sumN f n + f n = sumN h n + h n
    rw [sumN_cg n (fun t ht => e t (by omega)), e n (by omega)]
theorem sumN_add {f h k : Nat → Nat} : ∀ n, (∀ t, t < n → k t = f t + h t) → sumN k n = sumN f n + sumN h n
  | 0, _ => rfl
  | n + 1, e => by
    show sumN k n + k n = sumN f n + f n + (sumN h n + h n)
    rw [sumN_add n (fun t ht => e t (by omega)), e n (by omega)]
    omega
theorem sumN_0 {f : Nat → Nat} : ∀ n, (∀ t, t < n → f t = 0) → sumN f n = 0
  | 0, _ => rfl
  | n + 1, e => by
    show sumN f n + f n = 0
    rw [sumN_0 n (fun t ht => e t (by omega)), e n (by omega)]
section TKP
variable (S M V L : Nat → Nat)
abbrev tk_same (k t : Nat) : Prop := S k = S t ∧ M k = M t
def tk_up (t : Nat) : Nat → Nat := sumN (fun k => if tk_same S M k t then V k else 0)
def tk_mo (t : Nat) : Nat := tk_up S M V t (t + 1) - L t
def tk_last (n t : Nat) : Prop := ∀ k, t < k → k < n → ¬ tk_same S M k t
def tk_cg : Nat → Nat := sumN (fun t => min (tk_mo S M V L t) (V t))
noncomputable def tk_rm (n : Nat) : Nat := by
  classical
  exact sumN (fun t => if tk_last S M n t then tk_mo S M V L t else 0) n
theorem tk_up_same {t r : Nat} (h : tk_same S M t r) (n : Nat) : tk_up S M V t n = tk_up S M V r n := by
  refine sumN_cg n (fun k _ => ?_)
  by_cases q : tk_same S M k r
  · rw [if_pos q, if_pos ⟨q.1.trans h.1.symm, q.2.trans h.2.symm⟩]
  · rw [if_neg q, if_neg (fun q2 => q ⟨q2.1.trans h.1, q2.2.trans h.2⟩)]
theorem tk_last_s {n t : Nat} (ht : t < n) : tk_last S M (n + 1) t ↔ tk_last S M n t ∧ ¬ tk_same S M n t :=
  ⟨fun h => ⟨fun k h1 h2 => h k h1 (by omega), h n ht (by omega)⟩, fun h k h1 h2 => by
    by_cases e : k = n
    · rw [e]; exact h.2
    · exact h.1 k h1 (by omega)⟩
theorem tk_D (hL : ∀ k t, tk_same S M k t → L k = L t) (r : Nat) : ∀ n, (by classical exact sumN (fun t => if tk_last S M n t ∧ tk_same S M t r then tk_mo S M V L t else 0) n) = tk_up S M V r n - L r := by
  classical
  intro n
  induction n with
  | zero => exact (Nat.zero_sub _).symm
  | succ n ih =>
    show sumN _ n + (if tk_last S M (n + 1) n ∧ tk_same S M n r then tk_mo S M V L n else 0) = (tk_up S M V r n + (if tk_same S M n r then V n else 0)) - L r
    have ll : tk_last S M (n + 1) n := fun k h1 h2 => absurd h1 (by omega)
    by_cases q : tk_same S M n r
    · rw [if_pos ⟨ll, q⟩, if_pos q, sumN_0 n (fun t ht => if_neg (fun h => ((tk_last_s S M ht).mp h.1).2 ⟨q.1.trans h.2.1.symm, q.2.trans h.2.2.symm⟩))]
      unfold tk_mo
      rw [tk_up_same S M V q, hL n r q]
      show 0 + ((tk_up S M V r n + (if tk_same S M n r then V n else 0)) - L r) = _
      rw [if_pos q]
      omega
    · rw [if_neg (fun h => q h.2), if_neg q]
      have e : sumN (fun t => if tk_last S M (n + 1) t ∧ tk_same S M t r then tk_mo S M V L t else 0) n = sumN (fun t => if tk_last S M n t ∧ tk_same S M t r then tk_mo S M V L t else 0) n := by
        refine sumN_cg n (fun t ht => ?_)
        by_cases z : tk_last S M n t ∧ tk_same S M t r
        · rw [if_pos z, if_pos ⟨(tk_last_s S M ht).mpr ⟨z.1, fun h => q ⟨h.1.trans z.2.1, h.2.trans z.2.2⟩⟩, z.2⟩]
        · rw [if_neg z, if_neg (fun h => z ⟨((tk_last_s S M ht).mp h.1).1, h.2⟩)]
      rw [e, ih]
      omega
theorem tk_eq (hL : ∀ k t, tk_same S M k t → L k = L t) : ∀ n, tk_cg S M V L n = tk_rm S M V L n := by
  classical
  intro n
  induction n with
  | zero => rfl
  | succ n ih =>
    show tk_cg S M V L n + min (tk_mo S M V L n) (V n) = sumN (fun t => if tk_last S M (n + 1) t then tk_mo S M V L t else 0) n + (if tk_last S M (n + 1) n then tk_mo S M V L n else 0)
    have ll : tk_last S M (n + 1) n := fun k h1 h2 => absurd h1 (by omega)
    rw [if_pos ll]
    have D := tk_D S M V L hL n n
    have A : sumN (fun t => if tk_last S M n t then tk_mo S M V L t else 0) n = sumN (fun t => if tk_last S M (n + 1) t then tk_mo S M V L t else 0) n + sumN (fun t => if tk_last S M n t ∧ tk_same S M t n then tk_mo S M V L t else 0) n := by
      refine sumN_add n (fun t ht => ?_)
      by_cases z : tk_last S M n t
      · by_cases y : tk_same S M t n
        · rw [if_pos z, if_neg (fun h => ((tk_last_s S M ht).mp h).2 ⟨y.1.symm, y.2.symm⟩), if_pos ⟨z, y⟩]
          omega
        · rw [if_pos z, if_pos ((tk_last_s S M ht).mpr ⟨z, fun h => y ⟨h.1.symm, h.2.symm⟩⟩), if_neg (fun h => y h.2)]
          omega
      · rw [if_neg z, if_neg (fun h => z ((tk_last_s S M ht).mp h).1), if_neg (fun h => z h.1)]
    have ih2 : tk_cg S M V L n = sumN (fun t => if tk_last S M n t then tk_mo S M V L t else 0) n := ih
    have mo : tk_mo S M V L n = tk_up S M V n n + V n - L n := by
      unfold tk_mo
      show tk_up S M V n n + (if tk_same S M n n then V n else 0) - L n = _
      rw [if_pos ⟨rfl, rfl⟩]
    have D2 : sumN (fun t => if tk_last S M n t ∧ tk_same S M t n then tk_mo S M V L t else 0) n = tk_up S M V n n - L n := D
    rw [A, D2] at ih2
    rw [mo] at *
    omega
end TKP
section OAZ
variable {d : Nat} {σ : am_I} {ρ : am_R} {g : am_J} {τ : am_T} {Q : am_Q}
/-- the takings as numbers -/
def tkS (σ : am_I) (t : Nat) : Nat := (σ 196 t).toNatClampNeg
def tkV (σ : am_I) (t : Nat) : Nat := (σ 197 t).toNatClampNeg
def tkM (σ : am_I) (t : Nat) : Nat := (σ 198 t).toNatClampNeg
theorem tk_n {T : Nat} (h : Tak 1 161 T σ) {t : Nat} (ht : t < T) : (tkS σ t ≤ 2 ∧ tkV σ t ≤ 999 ∧ tkM σ t ≤ 599) ∧ (σ 15 (3 * t + 0) = nI (tkS σ t) ∧ σ 15 (3 * t + 1) = nI (tkV σ t) ∧ σ 15 (3 * t + 2) = nI (tkM σ t)) ∧ (σ 196 t = nI (tkS σ t) ∧ σ 197 t = nI (tkV σ t) ∧ σ 198 t = nI (tkM σ t)) := by
  obtain ⟨⟨a, a1, a2, a3⟩, ⟨b, b1, b2, b3⟩, ⟨c, c1, c2, c3⟩⟩ := h t ht
  have a3 : σ 196 t = nI a := a3
  have b3 : σ 197 t = nI b := b3
  have c3 : σ 198 t = nI c := c3
  unfold tkS tkV tkM
  rw [a3, b3, c3, nI_clamp (by omega), nI_clamp (by omega), nI_clamp (by omega)]
  exact ⟨⟨a1, b1, c1⟩, ⟨a2, b2, c2⟩, ⟨rfl, rfl, rfl⟩⟩
theorem c37L (hS : Sh ρ τ) {T t : Nat} (hT : T ≤ 16) (hc : σ 14 3 = nI T) (hw : σ 14 1 = nI 3) (ht : t < T) (hk : Tak 1 161 T σ) : ∀ (q i : Nat), i + q = t + 1 → AW (d + 3) 37 4 [.ref 1, .int (nI t), .int (nI (tk_up (tkS σ) (tkM σ) (tkV σ) t i)), .int (nI i)] [] σ ρ g τ Q = Q (some (.int (nI (tk_up (tkS σ) (tkM σ) (tkV σ) t (t + 1))))) σ ρ g τ
  | 0, i, h => by
    have e : i = t + 1 := by omega
    subst e
    have hlt : nI t < nI (t + 1) := nI_lt (by omega) (by omega)
    simp only [s37_4, s37_5, s37_6, s37_69, s37_70, ol_s, ol_n, ln_0, ln_1, ln_2, ln_3, ln_4, eq_self, rf_s, rf_n, i01_0, i01_n0, i01_b, b01_0, b01_1, and_self, and_true, true_and, and_false, false_and, if_true, if_false, not_true_eq_false, not_false_eq_true, e10, e00, lt_bg, Nat.reduceLT, Nat.reduceLeDiff, hlt]
  | q + 1, i, h => by
    have hlt : ¬ nI t < nI i := nI_nlt (by omega) (by omega)
    have x0 : (0 : Int32) = nI 0 := by decide
    have x1 : (1 : Int32) = nI 1 := by decide
    have x2 : (2 : Int32) = nI 2 := by decide
    obtain ⟨⟨u1, u2, u3⟩, ⟨u4, u5, u6⟩, _⟩ := tk_n hk ht
    obtain ⟨⟨v1, v2, v3⟩, ⟨v4, v5, v6⟩, _⟩ := tk_n hk (show i < T by omega)
    have A := fun (k : Nat) (hk : k < T) (x : Int32) (y : Nat) (hy : y < 3) (e : x = nI y) (d : Nat) (Q : am_Q) => c46v (d := d) (σ := σ) (g := g) (Q := Q) (mo := 16) (x := nI k) rfl e (k_14 hS) (k_15 hS) (r_14_2 hS) hc hw (l_15 hS) hk hy hT (by decide) (by decide)
    have A0 := A i (by omega) 0 0 (by decide) x0
    have A1 := A i (by omega) 1 1 (by decide) x1
    have A2 := A i (by omega) 2 2 (by decide) x2
    have B0 := A t ht 0 0 (by decide) x0
    have B2 := A t ht 2 2 (by decide) x2
    rw [v4] at A0
    rw [v5] at A1
    rw [v6] at A2
    rw [u4] at B0
    rw [u6] at B2
    have up : tk_up (tkS σ) (tkM σ) (tkV σ) t (i + 1) = tk_up (tkS σ) (tkM σ) (tkV σ) t i + (if tk_same (tkS σ) (tkM σ) i t then tkV σ i else 0) := rfl
    have ih := c37L hS hT hc hw ht hk q (i + 1) (by omega)
    rw [s37_4]
    by_cases z1 : tkS σ i = tkS σ t
    · have z1' : nI (tkS σ i) = nI (tkS σ t) := by rw [z1]
      by_cases z2 : tkM σ i = tkM σ t
      · have z2' : nI (tkM σ i) = nI (tkM σ t) := by rw [z2]
        rw [up, if_pos ⟨z1, z2⟩] at ih
        simp only [s37_5, s37_6, s37_9, s37_10, s37_13, s37_14, s37_15, s37_18, s37_19, s37_22, s37_23, s37_24, s37_27, s37_30, s37_31, s37_34, s37_35, s37_36, s37_39, s37_40, s37_43, s37_44, s37_45, s37_48, s37_51, s37_52, s37_53, s37_56, s37_57, s37_58, s37_61, s37_62, s37_63, s37_66, k_0 hS, k_1 hS, k_2 hS, l_2 hS, k_3 hS, l_3 hS, k_4 hS, l_4 hS, k_5 hS, l_5 hS, k_6 hS, l_6 hS, k_7 hS, k_8 hS, l_8 hS, k_9 hS, l_9 hS, k_10 hS, k_11 hS, l_11 hS, k_12 hS, k_13 hS, l_13 hS, k_14 hS, k_15 hS, l_15 hS, k_16 hS, k_17 hS, l_17 hS, k_66 hS, k_67 hS, l_67 hS, k_68 hS, l_68 hS, k_69 hS, l_69 hS, k_70 hS, l_70 hS, k_71 hS, l_71 hS, k_72 hS, k_73 hS, l_73 hS, k_74 hS, l_74 hS, k_75 hS, k_76 hS, l_76 hS, k_77 hS, k_78 hS, l_78 hS, k_79 hS, k_80 hS, l_80 hS, k_81 hS, k_82 hS, l_82 hS, k_131 hS, k_132 hS, l_132 hS, k_133 hS, l_133 hS, k_134 hS, l_134 hS, k_135 hS, k_136 hS, l_136 hS, k_137 hS, l_137 hS, k_138 hS, l_138 hS, k_139 hS, l_139 hS, k_140 hS, k_141 hS, l_141 hS, k_142 hS, l_142 hS, k_143 hS, k_144 hS, l_144 hS, k_145 hS, k_146 hS, l_146 hS, k_147 hS, l_147 hS, k_148 hS, l_148 hS, k_153 hS, l_153 hS, k_154 hS, l_154 hS, k_155 hS, l_155 hS, k_156 hS, k_157 hS, l_157 hS, k_158 hS, l_158 hS, k_159 hS, l_159 hS, r_0_0 hS, r_0_1 hS, r_0_3 hS, r_0_4 hS, r_0_5 hS, r_0_6 hS, r_0_7 hS, r_0_8 hS, r_0_9 hS, r_0_10 hS, r_1_2 hS, r_1_3 hS, r_1_4 hS, r_1_5 hS, r_1_7 hS, r_1_9 hS, r_1_10 hS, r_1_12 hS, r_1_13 hS, r_1_14 hS, r_1_15 hS, r_7_1 hS, r_10_2 hS, r_12_2 hS, r_14_2 hS, r_16_2 hS, r_66_2 hS, r_66_3 hS, r_66_4 hS, r_66_5 hS, r_66_7 hS, r_66_9 hS, r_66_10 hS, r_66_12 hS, r_66_13 hS, r_66_14 hS, r_66_15 hS, r_72_1 hS, r_75_2 hS, r_77_2 hS, r_79_2 hS, r_81_2 hS, r_131_0 hS, r_131_6 hS, r_131_8 hS, r_135_0 hS, r_135_1 hS, r_135_2 hS, r_135_3 hS, r_140_0 hS, r_140_1 hS, r_143_2 hS, r_145_0 hS, r_145_1 hS, r_145_2 hS, r_145_3 hS, r_145_4 hS, r_145_5 hS, r_156_5 hS, k_pv hS, k_pvr hS, k_db hS, k_dbr hS, k_sh hS, l_pvr hS, l_dbr hS, l_sh hS, r_5 hS, r_6 hS, r_pv hS, r_db hS, r_148 hS, ol_s, ol_n, ln_0, ln_1, ln_2, ln_3, ln_4, eq_self, rf_s, rf_n, i01_0, i01_n0, i01_b, b01_0, b01_1, and_self, and_true, true_and, and_false, false_and, if_true, if_false, not_true_eq_false, not_false_eq_true, e10, e00, lt_bg, Nat.reduceLT, Nat.reduceLeDiff, hlt, A0, A1, A2, B0, B2, z1', z2', nI_add, nI_1]
        exact ih
      · have z2' : ¬ nI (tkM σ i) = nI (tkM σ t) := fun e => z2 ((nI_eq (by omega) (by omega)).mp e)
        rw [up, if_neg (fun h => z2 h.2)] at ih
        simp only [s37_5, s37_6, s37_9, s37_10, s37_13, s37_14, s37_15, s37_18, s37_19, s37_22, s37_23, s37_24, s37_27, s37_30, s37_31, s37_34, s37_35, s37_36, s37_39, s37_40, s37_43, s37_44, s37_45, s37_48, s37_51, s37_52, s37_53, s37_56, s37_57, s37_58, s37_61, s37_62, s37_63, s37_66, k_0 hS, k_1 hS, k_2 hS, l_2 hS, k_3 hS, l_3 hS, k_4 hS, l_4 hS, k_5 hS, l_5 hS, k_6 hS, l_6 hS, k_7 hS, k_8 hS, l_8 hS, k_9 hS, l_9 hS, k_10 hS, k_11 hS, l_11 hS, k_12 hS, k_13 hS, l_13 hS, k_14 hS, k_15 hS, l_15 hS, k_16 hS, k_17 hS, l_17 hS, k_66 hS, k_67 hS, l_67 hS, k_68 hS, l_68 hS, k_69 hS, l_69 hS, k_70 hS, l_70 hS, k_71 hS, l_71 hS, k_72 hS, k_73 hS, l_73 hS, k_74 hS, l_74 hS, k_75 hS, k_76 hS, l_76 hS, k_77 hS, k_78 hS, l_78 hS, k_79 hS, k_80 hS, l_80 hS, k_81 hS, k_82 hS, l_82 hS, k_131 hS, k_132 hS, l_132 hS, k_133 hS, l_133 hS, k_134 hS, l_134 hS, k_135 hS, k_136 hS, l_136 hS, k_137 hS, l_137 hS, k_138 hS, l_138 hS, k_139 hS, l_139 hS, k_140 hS, k_141 hS, l_141 hS, k_142 hS, l_142 hS, k_143 hS, k_144 hS, l_144 hS, k_145 hS, k_146 hS, l_146 hS, k_147 hS, l_147 hS, k_148 hS, l_148 hS, k_153 hS, l_153 hS, k_154 hS, l_154 hS, k_155 hS, l_155 hS, k_156 hS, k_157 hS, l_157 hS, k_158 hS, l_158 hS, k_159 hS, l_159 hS, r_0_0 hS, r_0_1 hS, r_0_3 hS, r_0_4 hS, r_0_5 hS, r_0_6 hS, r_0_7 hS, r_0_8 hS, r_0_9 hS, r_0_10 hS, r_1_2 hS, r_1_3 hS, r_1_4 hS, r_1_5 hS, r_1_7 hS, r_1_9 hS, r_1_10 hS, r_1_12 hS, r_1_13 hS, r_1_14 hS, r_1_15 hS, r_7_1 hS, r_10_2 hS, r_12_2 hS, r_14_2 hS, r_16_2 hS, r_66_2 hS, r_66_3 hS, r_66_4 hS, r_66_5 hS, r_66_7 hS, r_66_9 hS, r_66_10 hS, r_66_12 hS, r_66_13 hS, r_66_14 hS, r_66_15 hS, r_72_1 hS, r_75_2 hS, r_77_2 hS, r_79_2 hS, r_81_2 hS, r_131_0 hS, r_131_6 hS, r_131_8 hS, r_135_0 hS, r_135_1 hS, r_135_2 hS, r_135_3 hS, r_140_0 hS, r_140_1 hS, r_143_2 hS, r_145_0 hS, r_145_1 hS, r_145_2 hS, r_145_3 hS, r_145_4 hS, r_145_5 hS, r_156_5 hS, k_pv hS, k_pvr hS, k_db hS, k_dbr hS, k_sh hS, l_pvr hS, l_dbr hS, l_sh hS, r_5 hS, r_6 hS, r_pv hS, r_db hS, r_148 hS, ol_s, ol_n, ln_0, ln_1, ln_2, ln_3, ln_4, eq_self, rf_s, rf_n, i01_0, i01_n0, i01_b, b01_0, b01_1, and_self, and_true, true_and, and_false, false_and, if_true, if_false, not_true_eq_false, not_false_eq_true, e10, e00, lt_bg, Nat.reduceLT, Nat.reduceLeDiff, hlt, A0, A2, B0, B2, z1', z2', nI_1]
        exact ih
    · have z1' : ¬ nI (tkS σ i) = nI (tkS σ t) := fun e => z1 ((nI_eq (by omega) (by omega)).mp e)
      rw [up, if_neg (fun h => z1 h.1)] at ih
      simp only [s37_5, s37_6, s37_9, s37_10, s37_13, s37_14, s37_15, s37_18, s37_19, s37_22, s37_23, s37_24, s37_27, s37_30, s37_31, s37_34, s37_35, s37_36, s37_39, s37_40, s37_43, s37_44, s37_45, s37_48, s37_51, s37_52, s37_53, s37_56, s37_57, s37_58, s37_61, s37_62, s37_63, s37_66, k_0 hS, k_1 hS, k_2 hS, l_2 hS, k_3 hS, l_3 hS, k_4 hS, l_4 hS, k_5 hS, l_5 hS, k_6 hS, l_6 hS, k_7 hS, k_8 hS, l_8 hS, k_9 hS, l_9 hS, k_10 hS, k_11 hS, l_11 hS, k_12 hS, k_13 hS, l_13 hS, k_14 hS, k_15 hS, l_15 hS, k_16 hS, k_17 hS, l_17 hS, k_66 hS, k_67 hS, l_67 hS, k_68 hS, l_68 hS, k_69 hS, l_69 hS, k_70 hS, l_70 hS, k_71 hS, l_71 hS, k_72 hS, k_73 hS, l_73 hS, k_74 hS, l_74 hS, k_75 hS, k_76 hS, l_76 hS, k_77 hS, k_78 hS, l_78 hS, k_79 hS, k_80 hS, l_80 hS, k_81 hS, k_82 hS, l_82 hS, k_131 hS, k_132 hS, l_132 hS, k_133 hS, l_133 hS, k_134 hS, l_134 hS, k_135 hS, k_136 hS, l_136 hS, k_137 hS, l_137 hS, k_138 hS, l_138 hS, k_139 hS, l_139 hS, k_140 hS, k_141 hS, l_141 hS, k_142 hS, l_142 hS, k_143 hS, k_144 hS, l_144 hS, k_145 hS, k_146 hS, l_146 hS, k_147 hS, l_147 hS, k_148 hS, l_148 hS, k_153 hS, l_153 hS, k_154 hS, l_154 hS, k_155 hS, l_155 hS, k_156 hS, k_157 hS, l_157 hS, k_158 hS, l_158 hS, k_159 hS, l_159 hS, r_0_0 hS, r_0_1 hS, r_0_3 hS, r_0_4 hS, r_0_5 hS, r_0_6 hS, r_0_7 hS, r_0_8 hS, r_0_9 hS, r_0_10 hS, r_1_2 hS, r_1_3 hS, r_1_4 hS, r_1_5 hS, r_1_7 hS, r_1_9 hS, r_1_10 hS, r_1_12 hS, r_1_13 hS, r_1_14 hS, r_1_15 hS, r_7_1 hS, r_10_2 hS, r_12_2 hS, r_14_2 hS, r_16_2 hS, r_66_2 hS, r_66_3 hS, r_66_4 hS, r_66_5 hS, r_66_7 hS, r_66_9 hS, r_66_10 hS, r_66_12 hS, r_66_13 hS, r_66_14 hS, r_66_15 hS, r_72_1 hS, r_75_2 hS, r_77_2 hS, r_79_2 hS, r_81_2 hS, r_131_0 hS, r_131_6 hS, r_131_8 hS, r_135_0 hS, r_135_1 hS, r_135_2 hS, r_135_3 hS, r_140_0 hS, r_140_1 hS, r_143_2 hS, r_145_0 hS, r_145_1 hS, r_145_2 hS, r_145_3 hS, r_145_4 hS, r_145_5 hS, r_156_5 hS, k_pv hS, k_pvr hS, k_db hS, k_dbr hS, k_sh hS, l_pvr hS, l_dbr hS, l_sh hS, r_5 hS, r_6 hS, r_pv hS, r_db hS, r_148 hS, ol_s, ol_n, ln_0, ln_1, ln_2, ln_3, ln_4, eq_self, rf_s, rf_n, i01_0, i01_n0, i01_b, b01_0, b01_1, and_self, and_true, true_and, and_false, false_and, if_true, if_false, not_true_eq_false, not_false_eq_true, e10, e00, lt_bg, Nat.reduceLT, Nat.reduceLeDiff, hlt, A0, B0, z1', nI_1]
      exact ih
theorem c238L (hS : Sh ρ τ) {T t : Nat} (hT : T ≤ 16) (ht : t < T) (hk : Tak 1 161 T σ) : ∀ (q i : Nat), i + q = t + 1 → AW d 238 4 [.ref 160, .int (nI t), .int (nI (tk_up (tkS σ) (tkM σ) (tkV σ) t i)), .int (nI i)] [] σ ρ g τ Q = Q (some (.int (nI (tk_up (tkS σ) (tkM σ) (tkV σ) t (t + 1))))) σ ρ g τ
  | 0, i, h => by
    have e : i = t + 1 := by omega
    subst e
    have hlt : nI t < nI (t + 1) := nI_lt (by omega) (by omega)
    simp only [s238_4, s238_5, s238_6, s238_54, s238_55, ol_s, ol_n, ln_0, ln_1, ln_2, ln_3, ln_4, eq_self, rf_s, rf_n, i01_0, i01_n0, i01_b, b01_0, b01_1, and_self, and_true, true_and, and_false, false_and, if_true, if_false, not_true_eq_false, not_false_eq_true, e10, e00, lt_bg, Nat.reduceLT, Nat.reduceLeDiff, hlt]
  | q + 1, i, h => by
    have hlt : ¬ nI t < nI i := nI_nlt (by omega) (by omega)
    obtain ⟨⟨u1, u2, u3⟩, _, ⟨u4, u5, u6⟩⟩ := tk_n hk ht
    obtain ⟨⟨v1, v2, v3⟩, _, ⟨v4, v5, v6⟩⟩ := tk_n hk (show i < T by omega)
    have hii : am_inb (nI i) 16 = true := inb_n (by omega) (by decide)
    have hci : (nI i).toNatClampNeg = i := nI_clamp (by omega)
    have hit : am_inb (nI t) 16 = true := inb_n (by omega) (by decide)
    have hct : (nI t).toNatClampNeg = t := nI_clamp (by omega)
    have up : tk_up (tkS σ) (tkM σ) (tkV σ) t (i + 1) = tk_up (tkS σ) (tkM σ) (tkV σ) t i + (if tk_same (tkS σ) (tkM σ) i t then tkV σ i else 0) := rfl
    have ih := c238L hS hT ht hk q (i + 1) (by omega)
    rw [s238_4]
    by_cases z1 : tkS σ i = tkS σ t
    · have z1' : nI (tkS σ i) = nI (tkS σ t) := by rw [z1]
      by_cases z2 : tkM σ i = tkM σ t
      · have z2' : nI (tkM σ i) = nI (tkM σ t) := by rw [z2]
        rw [up, if_pos ⟨z1, z2⟩] at ih
        simp only [s238_5, s238_6, s238_9, s238_10, s238_13, s238_14, s238_15, s238_16, s238_19, s238_20, s238_21, s238_24, s238_25, s238_28, s238_29, s238_30, s238_31, s238_34, s238_35, s238_36, s238_39, s238_40, s238_41, s238_44, s238_45, s238_46, s238_47, s238_48, s238_51, k_160 hS, k_161 hS, l_161 hS, k_162 hS, l_162 hS, k_163 hS, l_163 hS, k_164 hS, l_164 hS, k_165 hS, l_165 hS, k_166 hS, l_166 hS, k_167 hS, l_167 hS, k_168 hS, l_168 hS, k_169 hS, l_169 hS, k_170 hS, l_170 hS, k_171 hS, l_171 hS, k_172 hS, l_172 hS, k_173 hS, l_173 hS, k_174 hS, l_174 hS, k_175 hS, l_175 hS, k_176 hS, l_176 hS, k_177 hS, l_177 hS, k_178 hS, l_178 hS, k_179 hS, l_179 hS, k_180 hS, l_180 hS, k_181 hS, l_181 hS, k_182 hS, l_182 hS, k_183 hS, l_183 hS, k_184 hS, l_184 hS, k_185 hS, l_185 hS, k_186 hS, l_186 hS, k_187 hS, l_187 hS, k_188 hS, l_188 hS, k_189 hS, l_189 hS, k_190 hS, l_190 hS, k_191 hS, l_191 hS, k_192 hS, l_192 hS, k_193 hS, l_193 hS, k_194 hS, l_194 hS, k_195 hS, l_195 hS, k_196 hS, l_196 hS, k_197 hS, l_197 hS, k_198 hS, l_198 hS, k_199 hS, l_199 hS, k_200 hS, l_200 hS, k_201 hS, l_201 hS, k_202 hS, l_202 hS, k_203 hS, l_203 hS, k_204 hS, l_204 hS, k_205 hS, l_205 hS, k_206 hS, l_206 hS, k_207 hS, l_207 hS, k_208 hS, l_208 hS, k_209 hS, l_209 hS, k_210 hS, l_210 hS, k_211 hS, l_211 hS, k_212 hS, l_212 hS, k_213 hS, l_213 hS, k_214 hS, l_214 hS, k_215 hS, l_215 hS, k_216 hS, l_216 hS, k_217 hS, l_217 hS, k_218 hS, l_218 hS, k_219 hS, l_219 hS, k_220 hS, l_220 hS, r_160_0 hS, r_160_1 hS, r_160_2 hS, r_160_3 hS, r_160_4 hS, r_160_5 hS, r_160_6 hS, r_160_7 hS, r_160_8 hS, r_160_9 hS, r_160_10 hS, r_160_11 hS, r_160_12 hS, r_160_13 hS, r_160_14 hS, r_160_15 hS, r_160_16 hS, r_160_17 hS, r_160_18 hS, r_160_19 hS, r_160_20 hS, r_160_21 hS, r_160_22 hS, r_160_23 hS, r_160_24 hS, r_160_25 hS, r_160_26 hS, r_160_27 hS, r_160_28 hS, r_160_29 hS, r_160_30 hS, r_160_31 hS, r_160_32 hS, r_160_33 hS, r_160_34 hS, r_160_35 hS, r_160_36 hS, r_160_37 hS, r_160_38 hS, r_160_39 hS, r_160_40 hS, r_160_41 hS, r_160_43 hS, r_160_45 hS, r_160_46 hS, r_160_48 hS, r_160_49 hS, r_160_50 hS, r_160_51 hS, r_160_52 hS, r_160_53 hS, r_160_54 hS, r_160_56 hS, r_160_63 hS, r_160_64 hS, r_160_65 hS, r_160_66 hS, r_160_67 hS, r_160_68 hS, r_160_69 hS, ol_s, ol_n, ln_0, ln_1, ln_2, ln_3, ln_4, eq_self, rf_s, rf_n, i01_0, i01_n0, i01_b, b01_0, b01_1, and_self, and_true, true_and, and_false, false_and, if_true, if_false, not_true_eq_false, not_false_eq_true, e10, e00, lt_bg, Nat.reduceLT, Nat.reduceLeDiff, hlt, hii, hci, hit, hct, v4, v5, v6, u4, u6, z1', z2', nI_add, nI_1]
        exact ih
      · have z2' : ¬ nI (tkM σ i) = nI (tkM σ t) := fun e => z2 ((nI_eq (by omega) (by omega)).mp e)
        rw [up, if_neg (fun h => z2 h.2)] at ih
        simp only [s238_5, s238_6, s238_9, s238_10, s238_13, s238_14, s238_15, s238_16, s238_19, s238_20, s238_21, s238_24, s238_25, s238_28, s238_29, s238_30, s238_31, s238_34, s238_35, s238_36, s238_39, s238_40, s238_41, s238_44, s238_45, s238_46, s238_47, s238_48, s238_51, k_160 hS, k_161 hS, l_161 hS, k_162 hS, l_162 hS, k_163 hS, l_163 hS, k_164 hS, l_164 hS, k_165 hS, l_165 hS, k_166 hS, l_166 hS, k_167 hS, l_167 hS, k_168 hS, l_168 hS, k_169 hS, l_169 hS, k_170 hS, l_170 hS, k_171 hS, l_171 hS, k_172 hS, l_172 hS, k_173 hS, l_173 hS, k_174 hS, l_174 hS, k_175 hS, l_175 hS, k_176 hS, l_176 hS, k_177 hS, l_177 hS, k_178 hS, l_178 hS, k_179 hS, l_179 hS, k_180 hS, l_180 hS, k_181 hS, l_181 hS, k_182 hS, l_182 hS, k_183 hS, l_183 hS, k_184 hS, l_184 hS, k_185 hS, l_185 hS, k_186 hS, l_186 hS, k_187 hS, l_187 hS, k_188 hS, l_188 hS, k_189 hS, l_189 hS, k_190 hS, l_190 hS, k_191 hS, l_191 hS, k_192 hS, l_192 hS, k_193 hS, l_193 hS, k_194 hS, l_194 hS, k_195 hS, l_195 hS, k_196 hS, l_196 hS, k_197 hS, l_197 hS, k_198 hS, l_198 hS, k_199 hS, l_199 hS, k_200 hS, l_200 hS, k_201 hS, l_201 hS, k_202 hS, l_202 hS, k_203 hS, l_203 hS, k_204 hS, l_204 hS, k_205 hS, l_205 hS, k_206 hS, l_206 hS, k_207 hS, l_207 hS, k_208 hS, l_208 hS, k_209 hS, l_209 hS, k_210 hS, l_210 hS, k_211 hS, l_211 hS, k_212 hS, l_212 hS, k_213 hS, l_213 hS, k_214 hS, l_214 hS, k_215 hS, l_215 hS, k_216 hS, l_216 hS, k_217 hS, l_217 hS, k_218 hS, l_218 hS, k_219 hS, l_219 hS, k_220 hS, l_220 hS, r_160_0 hS, r_160_1 hS, r_160_2 hS, r_160_3 hS, r_160_4 hS, r_160_5 hS, r_160_6 hS, r_160_7 hS, r_160_8 hS, r_160_9 hS, r_160_10 hS, r_160_11 hS, r_160_12 hS, r_160_13 hS, r_160_14 hS, r_160_15 hS, r_160_16 hS, r_160_17 hS, r_160_18 hS, r_160_19 hS, r_160_20 hS, r_160_21 hS, r_160_22 hS, r_160_23 hS, r_160_24 hS, r_160_25 hS, r_160_26 hS, r_160_27 hS, r_160_28 hS, r_160_29 hS, r_160_30 hS, r_160_31 hS, r_160_32 hS, r_160_33 hS, r_160_34 hS, r_160_35 hS, r_160_36 hS, r_160_37 hS, r_160_38 hS, r_160_39 hS, r_160_40 hS, r_160_41 hS, r_160_43 hS, r_160_45 hS, r_160_46 hS, r_160_48 hS, r_160_49 hS, r_160_50 hS, r_160_51 hS, r_160_52 hS, r_160_53 hS, r_160_54 hS, r_160_56 hS, r_160_63 hS, r_160_64 hS, r_160_65 hS, r_160_66 hS, r_160_67 hS, r_160_68 hS, r_160_69 hS, ol_s, ol_n, ln_0, ln_1, ln_2, ln_3, ln_4, eq_self, rf_s, rf_n, i01_0, i01_n0, i01_b, b01_0, b01_1, and_self, and_true, true_and, and_false, false_and, if_true, if_false, not_true_eq_false, not_false_eq_true, e10, e00, lt_bg, Nat.reduceLT, Nat.reduceLeDiff, hlt, hii, hci, hit, hct, v4, v5, v6, u4, u6, z1', z2', nI_1]
        exact ih
    · have z1' : ¬ nI (tkS σ i) = nI (tkS σ t) := fun e => z1 ((nI_eq (by omega) (by omega)).mp e)
      rw [up, if_neg (fun h => z1 h.1)] at ih
      simp only [s238_5, s238_6, s238_9, s238_10, s238_13, s238_14, s238_15, s238_16, s238_19, s238_20, s238_21, s238_24, s238_25, s238_28, s238_29, s238_30, s238_31, s238_34, s238_35, s238_36, s238_39, s238_40, s238_41, s238_44, s238_45, s238_46, s238_47, s238_48, s238_51, k_160 hS, k_161 hS, l_161 hS, k_162 hS, l_162 hS, k_163 hS, l_163 hS, k_164 hS, l_164 hS, k_165 hS, l_165 hS, k_166 hS, l_166 hS, k_167 hS, l_167 hS, k_168 hS, l_168 hS, k_169 hS, l_169 hS, k_170 hS, l_170 hS, k_171 hS, l_171 hS, k_172 hS, l_172 hS, k_173 hS, l_173 hS, k_174 hS, l_174 hS, k_175 hS, l_175 hS, k_176 hS, l_176 hS, k_177 hS, l_177 hS, k_178 hS, l_178 hS, k_179 hS, l_179 hS, k_180 hS, l_180 hS, k_181 hS, l_181 hS, k_182 hS, l_182 hS, k_183 hS, l_183 hS, k_184 hS, l_184 hS, k_185 hS, l_185 hS, k_186 hS, l_186 hS, k_187 hS, l_187 hS, k_188 hS, l_188 hS, k_189 hS, l_189 hS, k_190 hS, l_190 hS, k_191 hS, l_191 hS, k_192 hS, l_192 hS, k_193 hS, l_193 hS, k_194 hS, l_194 hS, k_195 hS, l_195 hS, k_196 hS, l_196 hS, k_197 hS, l_197 hS, k_198 hS, l_198 hS, k_199 hS, l_199 hS, k_200 hS, l_200 hS, k_201 hS, l_201 hS, k_202 hS, l_202 hS, k_203 hS, l_203 hS, k_204 hS, l_204 hS, k_205 hS, l_205 hS, k_206 hS, l_206 hS, k_207 hS, l_207 hS, k_208 hS, l_208 hS, k_209 hS, l_209 hS, k_210 hS, l_210 hS, k_211 hS, l_211 hS, k_212 hS, l_212 hS, k_213 hS, l_213 hS, k_214 hS, l_214 hS, k_215 hS, l_215 hS, k_216 hS, l_216 hS, k_217 hS, l_217 hS, k_218 hS, l_218 hS, k_219 hS, l_219 hS, k_220 hS, l_220 hS, r_160_0 hS, r_160_1 hS, r_160_2 hS, r_160_3 hS, r_160_4 hS, r_160_5 hS, r_160_6 hS, r_160_7 hS, r_160_8 hS, r_160_9 hS, r_160_10 hS, r_160_11 hS, r_160_12 hS, r_160_13 hS, r_160_14 hS, r_160_15 hS, r_160_16 hS, r_160_17 hS, r_160_18 hS, r_160_19 hS, r_160_20 hS, r_160_21 hS, r_160_22 hS, r_160_23 hS, r_160_24 hS, r_160_25 hS, r_160_26 hS, r_160_27 hS, r_160_28 hS, r_160_29 hS, r_160_30 hS, r_160_31 hS, r_160_32 hS, r_160_33 hS, r_160_34 hS, r_160_35 hS, r_160_36 hS, r_160_37 hS, r_160_38 hS, r_160_39 hS, r_160_40 hS, r_160_41 hS, r_160_43 hS, r_160_45 hS, r_160_46 hS, r_160_48 hS, r_160_49 hS, r_160_50 hS, r_160_51 hS, r_160_52 hS, r_160_53 hS, r_160_54 hS, r_160_56 hS, r_160_63 hS, r_160_64 hS, r_160_65 hS, r_160_66 hS, r_160_67 hS, r_160_68 hS, r_160_69 hS, ol_s, ol_n, ln_0, ln_1, ln_2, ln_3, ln_4, eq_self, rf_s, rf_n, i01_0, i01_n0, i01_b, b01_0, b01_1, and_self, and_true, true_and, and_false, false_and, if_true, if_false, not_true_eq_false, not_false_eq_true, e10, e00, lt_bg, Nat.reduceLT, Nat.reduceLeDiff, hlt, hii, hci, hit, hct, v4, u4, z1', nI_1]
      exact ih
/-- whether it is the last of its sort and month -/
noncomputable def tk_lb (σ : am_I) (T t : Nat) : Bool := by
  classical
  exact decide (tk_last (tkS σ) (tkM σ) T t)
theorem c239L (hS : Sh ρ τ) {T t : Nat} (hT : T ≤ 16) (ht : t < T) (hn : σ 161 6 = nI T) (hk : Tak 1 161 T σ) : ∀ (q i : Nat), i + q = T → t < i → (∀ k, t < k → k < i → ¬ tk_same (tkS σ) (tkM σ) k t) → AW d 239 4 [.ref 160, .int (nI t), .int (nI i)] [] σ ρ g τ Q = Q (some (.int (b2i (tk_lb σ T t)))) σ ρ g τ
  | 0, i, h, hti, hno => by
    classical
    have e : i = T := by omega
    subst e
    have hle : nI i ≤ nI i := Int32.le_refl _
    have k6 : am_inb 6 9 = true := by decide
    have e2 : tk_lb σ i t = true := decide_eq_true hno
    have y0 : b2i true = 1 := by decide
    rw [e2, y0]
    simp only [s239_4, s239_5, s239_6, s239_9, s239_11, s239_12, s239_53, s239_54, k_160 hS, k_161 hS, l_161 hS, k_162 hS, l_162 hS, k_163 hS, l_163 hS, k_164 hS, l_164 hS, k_165 hS, l_165 hS, k_166 hS, l_166 hS, k_167 hS, l_167 hS, k_168 hS, l_168 hS, k_169 hS, l_169 hS, k_170 hS, l_170 hS, k_171 hS, l_171 hS, k_172 hS, l_172 hS, k_173 hS, l_173 hS, k_174 hS, l_174 hS, k_175 hS, l_175 hS, k_176 hS, l_176 hS, k_177 hS, l_177 hS, k_178 hS, l_178 hS, k_179 hS, l_179 hS, k_180 hS, l_180 hS, k_181 hS, l_181 hS, k_182 hS, l_182 hS, k_183 hS, l_183 hS, k_184 hS, l_184 hS, k_185 hS, l_185 hS, k_186 hS, l_186 hS, k_187 hS, l_187 hS, k_188 hS, l_188 hS, k_189 hS, l_189 hS, k_190 hS, l_190 hS, k_191 hS, l_191 hS, k_192 hS, l_192 hS, k_193 hS, l_193 hS, k_194 hS, l_194 hS, k_195 hS, l_195 hS, k_196 hS, l_196 hS, k_197 hS, l_197 hS, k_198 hS, l_198 hS, k_199 hS, l_199 hS, k_200 hS, l_200 hS, k_201 hS, l_201 hS, k_202 hS, l_202 hS, k_203 hS, l_203 hS, k_204 hS, l_204 hS, k_205 hS, l_205 hS, k_206 hS, l_206 hS, k_207 hS, l_207 hS, k_208 hS, l_208 hS, k_209 hS, l_209 hS, k_210 hS, l_210 hS, k_211 hS, l_211 hS, k_212 hS, l_212 hS, k_213 hS, l_213 hS, k_214 hS, l_214 hS, k_215 hS, l_215 hS, k_216 hS, l_216 hS, k_217 hS, l_217 hS, k_218 hS, l_218 hS, k_219 hS, l_219 hS, k_220 hS, l_220 hS, r_160_0 hS, r_160_1 hS, r_160_2 hS, r_160_3 hS, r_160_4 hS, r_160_5 hS, r_160_6 hS, r_160_7 hS, r_160_8 hS, r_160_9 hS, r_160_10 hS, r_160_11 hS, r_160_12 hS, r_160_13 hS, r_160_14 hS, r_160_15 hS, r_160_16 hS, r_160_17 hS, r_160_18 hS, r_160_19 hS, r_160_20 hS, r_160_21 hS, r_160_22 hS, r_160_23 hS, r_160_24 hS, r_160_25 hS, r_160_26 hS, r_160_27 hS, r_160_28 hS, r_160_29 hS, r_160_30 hS, r_160_31 hS, r_160_32 hS, r_160_33 hS, r_160_34 hS, r_160_35 hS, r_160_36 hS, r_160_37 hS, r_160_38 hS, r_160_39 hS, r_160_40 hS, r_160_41 hS, r_160_43 hS, r_160_45 hS, r_160_46 hS, r_160_48 hS, r_160_49 hS, r_160_50 hS, r_160_51 hS, r_160_52 hS, r_160_53 hS, r_160_54 hS, r_160_56 hS, r_160_63 hS, r_160_64 hS, r_160_65 hS, r_160_66 hS, r_160_67 hS, r_160_68 hS, r_160_69 hS, ol_s, ol_n, ln_0, ln_1, ln_2, ln_3, ln_4, eq_self, rf_s, rf_n, i01_0, i01_n0, i01_b, b01_0, b01_1, and_self, and_true, true_and, and_false, false_and, if_true, if_false, not_true_eq_false, not_false_eq_true, e10, e00, lt_bg, Nat.reduceLT, Nat.reduceLeDiff, k6, z6, hn, hle]
  | q + 1, i, h, hti, hno => by
    classical
    have hlt : ¬ nI T ≤ nI i := nI_ge (by omega) (by omega)
    have k6 : am_inb 6 9 = true := by decide
    obtain ⟨⟨u1, u2, u3⟩, _, ⟨u4, u5, u6⟩⟩ := tk_n hk ht
    obtain ⟨⟨v1, v2, v3⟩, _, ⟨v4, v5, v6⟩⟩ := tk_n hk (show i < T by omega)
    have hii : am_inb (nI i) 16 = true := inb_n (by omega) (by decide)
    have hci : (nI i).toNatClampNeg = i := nI_clamp (by omega)
    have hit : am_inb (nI t) 16 = true := inb_n (by omega) (by decide)
    have hct : (nI t).toNatClampNeg = t := nI_clamp (by omega)
    rw [s239_4]
    by_cases z : tk_same (tkS σ) (tkM σ) i t
    · have z1' : nI (tkS σ i) = nI (tkS σ t) := by rw [z.1]
      have z2' : nI (tkM σ i) = nI (tkM σ t) := by rw [z.2]
      have e2 : tk_lb σ T t = false := decide_eq_false (fun hh => hh i hti (by omega) z)
      have y0 : b2i false = 0 := by decide
      rw [e2, y0]
      simp only [s239_5, s239_6, s239_9, s239_11, s239_12, s239_15, s239_16, s239_19, s239_20, s239_21, s239_22, s239_25, s239_26, s239_27, s239_30, s239_31, s239_34, s239_35, s239_36, s239_37, s239_40, s239_41, s239_42, s239_45, s239_46, s239_47, s239_50, k_160 hS, k_161 hS, l_161 hS, k_162 hS, l_162 hS, k_163 hS, l_163 hS, k_164 hS, l_164 hS, k_165 hS, l_165 hS, k_166 hS, l_166 hS, k_167 hS, l_167 hS, k_168 hS, l_168 hS, k_169 hS, l_169 hS, k_170 hS, l_170 hS, k_171 hS, l_171 hS, k_172 hS, l_172 hS, k_173 hS, l_173 hS, k_174 hS, l_174 hS, k_175 hS, l_175 hS, k_176 hS, l_176 hS, k_177 hS, l_177 hS, k_178 hS, l_178 hS, k_179 hS, l_179 hS, k_180 hS, l_180 hS, k_181 hS, l_181 hS, k_182 hS, l_182 hS, k_183 hS, l_183 hS, k_184 hS, l_184 hS, k_185 hS, l_185 hS, k_186 hS, l_186 hS, k_187 hS, l_187 hS, k_188 hS, l_188 hS, k_189 hS, l_189 hS, k_190 hS, l_190 hS, k_191 hS, l_191 hS, k_192 hS, l_192 hS, k_193 hS, l_193 hS, k_194 hS, l_194 hS, k_195 hS, l_195 hS, k_196 hS, l_196 hS, k_197 hS, l_197 hS, k_198 hS, l_198 hS, k_199 hS, l_199 hS, k_200 hS, l_200 hS, k_201 hS, l_201 hS, k_202 hS, l_202 hS, k_203 hS, l_203 hS, k_204 hS, l_204 hS, k_205 hS, l_205 hS, k_206 hS, l_206 hS, k_207 hS, l_207 hS, k_208 hS, l_208 hS, k_209 hS, l_209 hS, k_210 hS, l_210 hS, k_211 hS, l_211 hS, k_212 hS, l_212 hS, k_213 hS, l_213 hS, k_214 hS, l_214 hS, k_215 hS, l_215 hS, k_216 hS, l_216 hS, k_217 hS, l_217 hS, k_218 hS, l_218 hS, k_219 hS, l_219 hS, k_220 hS, l_220 hS, r_160_0 hS, r_160_1 hS, r_160_2 hS, r_160_3 hS, r_160_4 hS, r_160_5 hS, r_160_6 hS, r_160_7 hS, r_160_8 hS, r_160_9 hS, r_160_10 hS, r_160_11 hS, r_160_12 hS, r_160_13 hS, r_160_14 hS, r_160_15 hS, r_160_16 hS, r_160_17 hS, r_160_18 hS, r_160_19 hS, r_160_20 hS, r_160_21 hS, r_160_22 hS, r_160_23 hS, r_160_24 hS, r_160_25 hS, r_160_26 hS, r_160_27 hS, r_160_28 hS, r_160_29 hS, r_160_30 hS, r_160_31 hS, r_160_32 hS, r_160_33 hS, r_160_34 hS, r_160_35 hS, r_160_36 hS, r_160_37 hS, r_160_38 hS, r_160_39 hS, r_160_40 hS, r_160_41 hS, r_160_43 hS, r_160_45 hS, r_160_46 hS, r_160_48 hS, r_160_49 hS, r_160_50 hS, r_160_51 hS, r_160_52 hS, r_160_53 hS, r_160_54 hS, r_160_56 hS, r_160_63 hS, r_160_64 hS, r_160_65 hS, r_160_66 hS, r_160_67 hS, r_160_68 hS, r_160_69 hS, ol_s, ol_n, ln_0, ln_1, ln_2, ln_3, ln_4, eq_self, rf_s, rf_n, i01_0, i01_n0, i01_b, b01_0, b01_1, and_self, and_true, true_and, and_false, false_and, if_true, if_false, not_true_eq_false, not_false_eq_true, e10, e00, lt_bg, Nat.reduceLT, Nat.reduceLeDiff, k6, z6, hn, hlt, hii, hci, hit, hct, v4, v6, u4, u6, z1', z2']
    · have ih := c239L hS hT ht hn hk q (i + 1) (by omega) (by omega) (fun k h1 h2 => by
        by_cases e : k = i
        · rw [e]; exact z
        · exact hno k h1 (by omega))
      by_cases z1 : tkS σ i = tkS σ t
      · have z1' : nI (tkS σ i) = nI (tkS σ t) := by rw [z1]
        have z2' : ¬ nI (tkM σ i) = nI (tkM σ t) := fun e => z ⟨z1, (nI_eq (by omega) (by omega)).mp e⟩
        simp only [s239_5, s239_6, s239_9, s239_11, s239_12, s239_15, s239_16, s239_19, s239_20, s239_21, s239_22, s239_25, s239_26, s239_27, s239_30, s239_31, s239_34, s239_35, s239_36, s239_37, s239_40, s239_41, s239_42, s239_45, s239_46, s239_47, s239_50, k_160 hS, k_161 hS, l_161 hS, k_162 hS, l_162 hS, k_163 hS, l_163 hS, k_164 hS, l_164 hS, k_165 hS, l_165 hS, k_166 hS, l_166 hS, k_167 hS, l_167 hS, k_168 hS, l_168 hS, k_169 hS, l_169 hS, k_170 hS, l_170 hS, k_171 hS, l_171 hS, k_172 hS, l_172 hS, k_173 hS, l_173 hS, k_174 hS, l_174 hS, k_175 hS, l_175 hS, k_176 hS, l_176 hS, k_177 hS, l_177 hS, k_178 hS, l_178 hS, k_179 hS, l_179 hS, k_180 hS, l_180 hS, k_181 hS, l_181 hS, k_182 hS, l_182 hS, k_183 hS, l_183 hS, k_184 hS, l_184 hS, k_185 hS, l_185 hS, k_186 hS, l_186 hS, k_187 hS, l_187 hS, k_188 hS, l_188 hS, k_189 hS, l_189 hS, k_190 hS, l_190 hS, k_191 hS, l_191 hS, k_192 hS, l_192 hS, k_193 hS, l_193 hS, k_194 hS, l_194 hS, k_195 hS, l_195 hS, k_196 hS, l_196 hS, k_197 hS, l_197 hS, k_198 hS, l_198 hS, k_199 hS, l_199 hS, k_200 hS, l_200 hS, k_201 hS, l_201 hS, k_202 hS, l_202 hS, k_203 hS, l_203 hS, k_204 hS, l_204 hS, k_205 hS, l_205 hS, k_206 hS, l_206 hS, k_207 hS, l_207 hS, k_208 hS, l_208 hS, k_209 hS, l_209 hS, k_210 hS, l_210 hS, k_211 hS, l_211 hS, k_212 hS, l_212 hS, k_213 hS, l_213 hS, k_214 hS, l_214 hS, k_215 hS, l_215 hS, k_216 hS, l_216 hS, k_217 hS, l_217 hS, k_218 hS, l_218 hS, k_219 hS, l_219 hS, k_220 hS, l_220 hS, r_160_0 hS, r_160_1 hS, r_160_2 hS, r_160_3 hS, r_160_4 hS, r_160_5 hS, r_160_6 hS, r_160_7 hS, r_160_8 hS, r_160_9 hS, r_160_10 hS, r_160_11 hS, r_160_12 hS, r_160_13 hS, r_160_14 hS, r_160_15 hS, r_160_16 hS, r_160_17 hS, r_160_18 hS, r_160_19 hS, r_160_20 hS, r_160_21 hS, r_160_22 hS, r_160_23 hS, r_160_24 hS, r_160_25 hS, r_160_26 hS, r_160_27 hS, r_160_28 hS, r_160_29 hS, r_160_30 hS, r_160_31 hS, r_160_32 hS, r_160_33 hS, r_160_34 hS, r_160_35 hS, r_160_36 hS, r_160_37 hS, r_160_38 hS, r_160_39 hS, r_160_40 hS, r_160_41 hS, r_160_43 hS, r_160_45 hS, r_160_46 hS, r_160_48 hS, r_160_49 hS, r_160_50 hS, r_160_51 hS, r_160_52 hS, r_160_53 hS, r_160_54 hS, r_160_56 hS, r_160_63 hS, r_160_64 hS, r_160_65 hS, r_160_66 hS, r_160_67 hS, r_160_68 hS, r_160_69 hS, ol_s, ol_n, ln_0, ln_1, ln_2, ln_3, ln_4, eq_self, rf_s, rf_n, i01_0, i01_n0, i01_b, b01_0, b01_1, and_self, and_true, true_and, and_false, false_and, if_true, if_false, not_true_eq_false, not_false_eq_true, e10, e00, lt_bg, Nat.reduceLT, Nat.reduceLeDiff, k6, z6, hn, hlt, hii, hci, hit, hct, v4, v6, u4, u6, z1', z2', nI_1]
        exact ih
      · have z1' : ¬ nI (tkS σ i) = nI (tkS σ t) := fun e => z1 ((nI_eq (by omega) (by omega)).mp e)
        simp only [s239_5, s239_6, s239_9, s239_11, s239_12, s239_15, s239_16, s239_19, s239_20, s239_21, s239_22, s239_25, s239_26, s239_27, s239_30, s239_31, s239_34, s239_35, s239_36, s239_37, s239_40, s239_41, s239_42, s239_45, s239_46, s239_47, s239_50, k_160 hS, k_161 hS, l_161 hS, k_162 hS, l_162 hS, k_163 hS, l_163 hS, k_164 hS, l_164 hS, k_165 hS, l_165 hS, k_166 hS, l_166 hS, k_167 hS, l_167 hS, k_168 hS, l_168 hS, k_169 hS, l_169 hS, k_170 hS, l_170 hS, k_171 hS, l_171 hS, k_172 hS, l_172 hS, k_173 hS, l_173 hS, k_174 hS, l_174 hS, k_175 hS, l_175 hS, k_176 hS, l_176 hS, k_177 hS, l_177 hS, k_178 hS, l_178 hS, k_179 hS, l_179 hS, k_180 hS, l_180 hS, k_181 hS, l_181 hS, k_182 hS, l_182 hS, k_183 hS, l_183 hS, k_184 hS, l_184 hS, k_185 hS, l_185 hS, k_186 hS, l_186 hS, k_187 hS, l_187 hS, k_188 hS, l_188 hS, k_189 hS, l_189 hS, k_190 hS, l_190 hS, k_191 hS, l_191 hS, k_192 hS, l_192 hS, k_193 hS, l_193 hS, k_194 hS, l_194 hS, k_195 hS, l_195 hS, k_196 hS, l_196 hS, k_197 hS, l_197 hS, k_198 hS, l_198 hS, k_199 hS, l_199 hS, k_200 hS, l_200 hS, k_201 hS, l_201 hS, k_202 hS, l_202 hS, k_203 hS, l_203 hS, k_204 hS, l_204 hS, k_205 hS, l_205 hS, k_206 hS, l_206 hS, k_207 hS, l_207 hS, k_208 hS, l_208 hS, k_209 hS, l_209 hS, k_210 hS, l_210 hS, k_211 hS, l_211 hS, k_212 hS, l_212 hS, k_213 hS, l_213 hS, k_214 hS, l_214 hS, k_215 hS, l_215 hS, k_216 hS, l_216 hS, k_217 hS, l_217 hS, k_218 hS, l_218 hS, k_219 hS, l_219 hS, k_220 hS, l_220 hS, r_160_0 hS, r_160_1 hS, r_160_2 hS, r_160_3 hS, r_160_4 hS, r_160_5 hS, r_160_6 hS, r_160_7 hS, r_160_8 hS, r_160_9 hS, r_160_10 hS, r_160_11 hS, r_160_12 hS, r_160_13 hS, r_160_14 hS, r_160_15 hS, r_160_16 hS, r_160_17 hS, r_160_18 hS, r_160_19 hS, r_160_20 hS, r_160_21 hS, r_160_22 hS, r_160_23 hS, r_160_24 hS, r_160_25 hS, r_160_26 hS, r_160_27 hS, r_160_28 hS, r_160_29 hS, r_160_30 hS, r_160_31 hS, r_160_32 hS, r_160_33 hS, r_160_34 hS, r_160_35 hS, r_160_36 hS, r_160_37 hS, r_160_38 hS, r_160_39 hS, r_160_40 hS, r_160_41 hS, r_160_43 hS, r_160_45 hS, r_160_46 hS, r_160_48 hS, r_160_49 hS, r_160_50 hS, r_160_51 hS, r_160_52 hS, r_160_53 hS, r_160_54 hS, r_160_56 hS, r_160_63 hS, r_160_64 hS, r_160_65 hS, r_160_66 hS, r_160_67 hS, r_160_68 hS, r_160_69 hS, ol_s, ol_n, ln_0, ln_1, ln_2, ln_3, ln_4, eq_self, rf_s, rf_n, i01_0, i01_n0, i01_b, b01_0, b01_1, and_self, and_true, true_and, and_false, false_and, if_true, if_false, not_true_eq_false, not_false_eq_true, e10, e00, lt_bg, Nat.reduceLT, Nat.reduceLeDiff, k6, z6, hn, hlt, hii, hci, hit, hct, v4, u4, z1', nI_1]
        exact ih
end OAZ
