/-! read: a condition's plain pieces, the class -/
section OCY
variable {d : Nat} {σ : am_I} {ρ : am_R} {g : am_J} {τ : am_T} {Q : am_Q}
theorem gD_l {xs ys : List Tk} {k : Nat} {x : Tk} (h : k < xs.length) : (xs ++ ys).getD k x = xs.getD k x := by
  rw [List.getD_eq_getElem?_getD, List.getD_eq_getElem?_getD, List.getElem?_append_left h]
theorem gD_r {xs ys : List Tk} {k : Nat} {x : Tk} (h : xs.length ≤ k) : (xs ++ ys).getD k x = ys.getD (k - xs.length) x := by
  rw [List.getD_eq_getElem?_getD, List.getD_eq_getElem?_getD, List.getElem?_append_right h]
/-- what the class's reading of a piece leaves -/
def CR (b : Nat → Nat) (l : Nat) (σ σ' : am_I) (n : Nat) (r : Rs) : Prop :=
  (∀ z, z ≠ 131 → z ≠ 133 → σ' z = σ z) ∧ (∀ k, k ≠ 2 → k ≠ 3 → k ≠ 4 → k ≠ 5 → k ≠ 7 → σ' 131 k = σ 131 k) ∧ CT b l r.2.1 σ' ∧ (r.1 = true → σ' 131 7 = nI (n + r.2.2.length) ∧ (∀ k, k < n → σ' 133 k = σ 133 k) ∧ ∀ k, k < r.2.2.length → σ' 133 (n + k) = nI (tk_C (r.2.2.getD k tk_no)))
theorem CR.tc {b : Nat → Nat} {l n : Nat} {σ' : am_I} {r : Rs} (h : CR b l σ σ' n r) (hT : TC b l σ) : TC b l σ' := by
  refine ⟨hT.1, ?_, fun i hi => ?_⟩
  · rw [h.2.1 1 (by decide) (by decide) (by decide) (by decide) (by decide)]
    exact hT.2.1
  · rw [h.1 132 (by decide) (by decide)]
    exact hT.2.2 i hi
theorem CR.bg {b : Nat → Nat} {l n : Nat} {σ' : am_I} {r : Rs} (h : CR b l σ σ' n r) (hb : Bgd σ τ) : Bgd σ' τ := hb.cg (fun y hy => h.1 y (by omega) (by omega))
theorem CR.refl {b : Nat → Nat} {l n p : Nat} (hc : CT b l p σ) (h7 : σ 131 7 = nI n) : CR b l σ σ n (true, p, []) := ⟨fun _ _ _ => rfl, fun _ _ _ _ _ _ => rfl, hc, fun _ => ⟨h7, fun _ _ => rfl, fun k hk => absurd hk (Nat.not_lt_zero _)⟩⟩
theorem CR.fail {b : Nat → Nat} {l n : Nat} {σ' : am_I} {r : Rs} (h : CR b l σ σ' n r) : CR b l σ σ' n (false, r.2.1, []) := ⟨h.1, h.2.1, h.2.2.1, fun z => absurd z (by show ¬ (false = true); decide)⟩
theorem CR.av {b : Nat → Nat} {l n q : Nat} {σ' : am_I} {r : Rs} (h : CR b l σ σ' n r) : CR b l σ (adv b l σ' q) n (r.1, q, r.2.2) := by
  refine ⟨fun z h1 h2 => ?_, fun k a b c d e => ?_, adv_ct, fun z => ?_⟩
  · rw [adv_ne h1]
    exact h.1 z h1 h2
  · rw [adv_k a b c d]
    exact h.2.1 k a b c d e
  · obtain ⟨y1, y2, y3⟩ := h.2.2.2 z
    rw [adv_k (by decide) (by decide) (by decide) (by decide), adv_ne (by decide)]
    exact ⟨y1, y2, y3⟩
theorem CR.pre {b : Nat → Nat} {l n q : Nat} {σ' : am_I} {r : Rs} (h : CR b l (adv b l σ q) σ' n r) : CR b l σ σ' n r := by
  refine ⟨fun z h1 h2 => ?_, fun k a b c d e => ?_, h.2.2.1, fun z => ?_⟩
  · rw [h.1 z h1 h2, adv_ne h1]
  · rw [h.2.1 k a b c d e, adv_k a b c d]
  · obtain ⟨y1, y2, y3⟩ := h.2.2.2 z
    refine ⟨y1, fun k hk => ?_, y3⟩
    rw [y2 k hk, adv_ne (by decide)]
theorem CR.push {b : Nat → Nat} {l n : Nat} {σ' : am_I} {r : Rs} {t : Tk} (h : CR b l σ σ' n r) (hr : r.1 = true) : CR b l σ (am_u (am_u σ' 133 (n + r.2.2.length) (nI (tk_C t))) 131 7 (nI (n + r.2.2.length + 1))) n (true, r.2.1, r.2.2 ++ [t]) := by
  obtain ⟨y1, y2, y3⟩ := h.2.2.2 hr
  have c := h.2.2.1
  refine ⟨fun z h1 h2 => ?_, fun k a b c d e => ?_, ?_, fun _ => ⟨?_, fun k hk => ?_, fun k hk => ?_⟩⟩
  · rw [u_ne _ _ _ _ h1, u_ne _ _ _ _ h2]
    exact h.1 z h1 h2
  · rw [u_nk _ _ _ _ e, u_ne _ _ _ _ (by decide)]
    exact h.2.1 k a b c d e
  · unfold CT at c ⊢
    rw [u_nk _ _ _ _ (by decide), u_nk _ _ _ _ (by decide), u_nk _ _ _ _ (by decide), u_nk _ _ _ _ (by decide), u_ne _ _ _ _ (by decide)]
    exact c
  · rw [u_at]
    show _ = nI (n + (r.2.2 ++ [t]).length)
    rw [List.length_append]
    rfl
  · rw [u_ne _ _ _ _ (by decide), u_nk _ _ _ _ (by omega)]
    exact y2 k hk
  · have hk : k < (r.2.2 ++ [t]).length := hk
    rw [List.length_append] at hk
    have hk : k < r.2.2.length + 1 := hk
    show am_u (am_u σ' 133 (n + r.2.2.length) (nI (tk_C t))) 131 7 (nI (n + r.2.2.length + 1)) 133 (n + k) = nI (tk_C ((r.2.2 ++ [t]).getD k tk_no))
    rw [u_ne _ _ _ _ (by decide)]
    by_cases q : k = r.2.2.length
    · rw [q, u_at, gD_r (Nat.le_refl _), Nat.sub_self]
      rfl
    · rw [u_nk _ _ _ _ (by omega), gD_l (by omega)]
      exact y3 k (by omega)
theorem CR.seq {b : Nat → Nat} {l n : Nat} {s s2 : am_I} {r r2 : Rs} (h : CR b l σ s n r) (hr : r.1 = true) (h2 : CR b l s s2 (n + r.2.2.length) r2) : CR b l σ s2 n (r2.1, r2.2.1, r.2.2 ++ r2.2.2) := by
  obtain ⟨y1, y2, y3⟩ := h.2.2.2 hr
  refine ⟨fun z z1 z2 => by rw [h2.1 z z1 z2, h.1 z z1 z2], fun k a b c d e => by rw [h2.2.1 k a b c d e, h.2.1 k a b c d e], h2.2.2.1, fun q => ?_⟩
  obtain ⟨x1, x2, x3⟩ := h2.2.2.2 q
  refine ⟨?_, fun k hk => ?_, fun k hk => ?_⟩
  · rw [x1]
    show _ = nI (n + (r.2.2 ++ r2.2.2).length)
    rw [List.length_append, Nat.add_assoc]
  · rw [x2 k (by omega), y2 k hk]
  · have hk : k < (r.2.2 ++ r2.2.2).length := hk
    rw [List.length_append] at hk
    show s2 133 (n + k) = nI (tk_C ((r.2.2 ++ r2.2.2).getD k tk_no))
    by_cases q : k < r.2.2.length
    · rw [x2 _ (by omega), gD_l q]
      exact y3 k q
    · rw [gD_r (by omega)]
      have x := x3 (k - r.2.2.length) (by omega)
      rw [show n + r.2.2.length + (k - r.2.2.length) = n + k by omega] at x
      exact x
def rI (k m : Nat) : Int32 := if k < m then nI k else -1
theorem c91 (hS : Sh ρ τ) (hb : Bgd σ τ) {b : Nat → Nat} {l p : Nat} (hT : TC b l σ) (hp : p ≤ l) (hc : CT b l p σ) : AW (d + 5) 91 0 [.ref 131] [] σ ρ g τ Q = Q (some (.int (rI (srt b l p) 3))) σ ρ g τ := by
  have N6 := fun (d : Nat) (Q : am_Q) => c83n (d := d) (g := g) (Q := Q) hS hb hT hp hc (i := 6) (N := am_BG + 9) (by decide) rfl
  have N7 := fun (d : Nat) (Q : am_Q) => c83n (d := d) (g := g) (Q := Q) hS hb hT hp hc (i := 7) (N := am_BG + 10) (by decide) rfl
  have N8 := fun (d : Nat) (Q : am_Q) => c83n (d := d) (g := g) (Q := Q) hS hb hT hp hc (i := 8) (N := am_BG + 11) (by decide) rfl
  by_cases a : nm b l p 6 = true
  · have e : srt b l p = 0 := if_pos a
    have w := bI_t a
    have v : rI (srt b l p) 3 = 0 := by rw [e]; rfl
    simp only [s91_0, s91_1, s91_3, s91_6, s91_9, s91_10, s91_11, s91_12, s91_14, s91_17, s91_20, s91_21, s91_22, s91_23, s91_25, s91_28, s91_31, s91_32, s91_35, s91_36, k_0 hS, k_1 hS, k_2 hS, l_2 hS, k_3 hS, l_3 hS, k_4 hS, l_4 hS, k_5 hS, l_5 hS, k_6 hS, l_6 hS, k_7 hS, k_8 hS, l_8 hS, k_9 hS, l_9 hS, k_10 hS, k_11 hS, l_11 hS, k_12 hS, k_13 hS, l_13 hS, k_14 hS, k_15 hS, l_15 hS, k_16 hS, k_17 hS, l_17 hS, k_66 hS, k_67 hS, l_67 hS, k_68 hS, l_68 hS, k_69 hS, l_69 hS, k_70 hS, l_70 hS, k_71 hS, l_71 hS, k_72 hS, k_73 hS, l_73 hS, k_74 hS, l_74 hS, k_75 hS, k_76 hS, l_76 hS, k_77 hS, k_78 hS, l_78 hS, k_79 hS, k_80 hS, l_80 hS, k_81 hS, k_82 hS, l_82 hS, k_131 hS, k_132 hS, l_132 hS, k_133 hS, l_133 hS, k_134 hS, l_134 hS, k_135 hS, k_136 hS, l_136 hS, k_137 hS, l_137 hS, k_138 hS, l_138 hS, k_139 hS, l_139 hS, k_140 hS, k_141 hS, l_141 hS, k_142 hS, l_142 hS, k_143 hS, k_144 hS, l_144 hS, k_145 hS, k_146 hS, l_146 hS, k_147 hS, l_147 hS, k_148 hS, l_148 hS, k_153 hS, l_153 hS, k_154 hS, l_154 hS, k_155 hS, l_155 hS, k_156 hS, k_157 hS, l_157 hS, k_158 hS, l_158 hS, k_159 hS, l_159 hS, r_0_0 hS, r_0_1 hS, r_0_3 hS, r_0_4 hS, r_0_5 hS, r_0_6 hS, r_0_7 hS, r_0_8 hS, r_0_9 hS, r_0_10 hS, r_1_2 hS, r_1_3 hS, r_1_4 hS, r_1_5 hS, r_1_7 hS, r_1_9 hS, r_1_10 hS, r_1_12 hS, r_1_13 hS, r_1_14 hS, r_1_15 hS, r_7_1 hS, r_10_2 hS, r_12_2 hS, r_14_2 hS, r_16_2 hS, r_66_2 hS, r_66_3 hS, r_66_4 hS, r_66_5 hS, r_66_7 hS, r_66_9 hS, r_66_10 hS, r_66_12 hS, r_66_13 hS, r_66_14 hS, r_66_15 hS, r_72_1 hS, r_75_2 hS, r_77_2 hS, r_79_2 hS, r_81_2 hS, r_131_0 hS, r_131_6 hS, r_131_8 hS, r_135_0 hS, r_135_1 hS, r_135_2 hS, r_135_3 hS, r_140_0 hS, r_140_1 hS, r_143_2 hS, r_145_0 hS, r_145_1 hS, r_145_2 hS, r_145_3 hS, r_145_4 hS, r_145_5 hS, r_156_5 hS, k_pv hS, k_pvr hS, k_db hS, k_dbr hS, k_sh hS, l_pvr hS, l_dbr hS, l_sh hS, r_5 hS, r_6 hS, r_pv hS, r_db hS, r_148 hS, ol_s, ol_n, ln_0, ln_1, ln_2, ln_3, ln_4, eq_self, rf_s, rf_n, i01_0, i01_n0, i01_b, b01_0, b01_1, and_self, and_true, true_and, and_false, false_and, if_true, if_false, not_true_eq_false, not_false_eq_true, e10, e00, lt_bg, Nat.reduceLT, Nat.reduceLeDiff, N6, w, v]
  have a' : bI (nm b l p 6) = 0 := if_neg a
  by_cases c : nm b l p 7 = true
  · have e : srt b l p = 1 := by
      unfold srt
      rw [if_neg a, if_pos c]
    have w := bI_t c
    have v : rI (srt b l p) 3 = 1 := by rw [e]; rfl
    simp only [s91_0, s91_1, s91_3, s91_6, s91_9, s91_10, s91_11, s91_12, s91_14, s91_17, s91_20, s91_21, s91_22, s91_23, s91_25, s91_28, s91_31, s91_32, s91_35, s91_36, k_0 hS, k_1 hS, k_2 hS, l_2 hS, k_3 hS, l_3 hS, k_4 hS, l_4 hS, k_5 hS, l_5 hS, k_6 hS, l_6 hS, k_7 hS, k_8 hS, l_8 hS, k_9 hS, l_9 hS, k_10 hS, k_11 hS, l_11 hS, k_12 hS, k_13 hS, l_13 hS, k_14 hS, k_15 hS, l_15 hS, k_16 hS, k_17 hS, l_17 hS, k_66 hS, k_67 hS, l_67 hS, k_68 hS, l_68 hS, k_69 hS, l_69 hS, k_70 hS, l_70 hS, k_71 hS, l_71 hS, k_72 hS, k_73 hS, l_73 hS, k_74 hS, l_74 hS, k_75 hS, k_76 hS, l_76 hS, k_77 hS, k_78 hS, l_78 hS, k_79 hS, k_80 hS, l_80 hS, k_81 hS, k_82 hS, l_82 hS, k_131 hS, k_132 hS, l_132 hS, k_133 hS, l_133 hS, k_134 hS, l_134 hS, k_135 hS, k_136 hS, l_136 hS, k_137 hS, l_137 hS, k_138 hS, l_138 hS, k_139 hS, l_139 hS, k_140 hS, k_141 hS, l_141 hS, k_142 hS, l_142 hS, k_143 hS, k_144 hS, l_144 hS, k_145 hS, k_146 hS, l_146 hS, k_147 hS, l_147 hS, k_148 hS, l_148 hS, k_153 hS, l_153 hS, k_154 hS, l_154 hS, k_155 hS, l_155 hS, k_156 hS, k_157 hS, l_157 hS, k_158 hS, l_158 hS, k_159 hS, l_159 hS, r_0_0 hS, r_0_1 hS, r_0_3 hS, r_0_4 hS, r_0_5 hS, r_0_6 hS, r_0_7 hS, r_0_8 hS, r_0_9 hS, r_0_10 hS, r_1_2 hS, r_1_3 hS, r_1_4 hS, r_1_5 hS, r_1_7 hS, r_1_9 hS, r_1_10 hS, r_1_12 hS, r_1_13 hS, r_1_14 hS, r_1_15 hS, r_7_1 hS, r_10_2 hS, r_12_2 hS, r_14_2 hS, r_16_2 hS, r_66_2 hS, r_66_3 hS, r_66_4 hS, r_66_5 hS, r_66_7 hS, r_66_9 hS, r_66_10 hS, r_66_12 hS, r_66_13 hS, r_66_14 hS, r_66_15 hS, r_72_1 hS, r_75_2 hS, r_77_2 hS, r_79_2 hS, r_81_2 hS, r_131_0 hS, r_131_6 hS, r_131_8 hS, r_135_0 hS, r_135_1 hS, r_135_2 hS, r_135_3 hS, r_140_0 hS, r_140_1 hS, r_143_2 hS, r_145_0 hS, r_145_1 hS, r_145_2 hS, r_145_3 hS, r_145_4 hS, r_145_5 hS, r_156_5 hS, k_pv hS, k_pvr hS, k_db hS, k_dbr hS, k_sh hS, l_pvr hS, l_dbr hS, l_sh hS, r_5 hS, r_6 hS, r_pv hS, r_db hS, r_148 hS, ol_s, ol_n, ln_0, ln_1, ln_2, ln_3, ln_4, eq_self, rf_s, rf_n, i01_0, i01_n0, i01_b, b01_0, b01_1, and_self, and_true, true_and, and_false, false_and, if_true, if_false, not_true_eq_false, not_false_eq_true, e10, e00, lt_bg, Nat.reduceLT, Nat.reduceLeDiff, N6, N7, a', w, v]
  have c' : bI (nm b l p 7) = 0 := if_neg c
  by_cases f : nm b l p 8 = true
  · have e : srt b l p = 2 := by
      unfold srt
      rw [if_neg a, if_neg c, if_pos f]
    have w := bI_t f
    have v : rI (srt b l p) 3 = 2 := by rw [e]; rfl
    simp only [s91_0, s91_1, s91_3, s91_6, s91_9, s91_10, s91_11, s91_12, s91_14, s91_17, s91_20, s91_21, s91_22, s91_23, s91_25, s91_28, s91_31, s91_32, s91_35, s91_36, k_0 hS, k_1 hS, k_2 hS, l_2 hS, k_3 hS, l_3 hS, k_4 hS, l_4 hS, k_5 hS, l_5 hS, k_6 hS, l_6 hS, k_7 hS, k_8 hS, l_8 hS, k_9 hS, l_9 hS, k_10 hS, k_11 hS, l_11 hS, k_12 hS, k_13 hS, l_13 hS, k_14 hS, k_15 hS, l_15 hS, k_16 hS, k_17 hS, l_17 hS, k_66 hS, k_67 hS, l_67 hS, k_68 hS, l_68 hS, k_69 hS, l_69 hS, k_70 hS, l_70 hS, k_71 hS, l_71 hS, k_72 hS, k_73 hS, l_73 hS, k_74 hS, l_74 hS, k_75 hS, k_76 hS, l_76 hS, k_77 hS, k_78 hS, l_78 hS, k_79 hS, k_80 hS, l_80 hS, k_81 hS, k_82 hS, l_82 hS, k_131 hS, k_132 hS, l_132 hS, k_133 hS, l_133 hS, k_134 hS, l_134 hS, k_135 hS, k_136 hS, l_136 hS, k_137 hS, l_137 hS, k_138 hS, l_138 hS, k_139 hS, l_139 hS, k_140 hS, k_141 hS, l_141 hS, k_142 hS, l_142 hS, k_143 hS, k_144 hS, l_144 hS, k_145 hS, k_146 hS, l_146 hS, k_147 hS, l_147 hS, k_148 hS, l_148 hS, k_153 hS, l_153 hS, k_154 hS, l_154 hS, k_155 hS, l_155 hS, k_156 hS, k_157 hS, l_157 hS, k_158 hS, l_158 hS, k_159 hS, l_159 hS, r_0_0 hS, r_0_1 hS, r_0_3 hS, r_0_4 hS, r_0_5 hS, r_0_6 hS, r_0_7 hS, r_0_8 hS, r_0_9 hS, r_0_10 hS, r_1_2 hS, r_1_3 hS, r_1_4 hS, r_1_5 hS, r_1_7 hS, r_1_9 hS, r_1_10 hS, r_1_12 hS, r_1_13 hS, r_1_14 hS, r_1_15 hS, r_7_1 hS, r_10_2 hS, r_12_2 hS, r_14_2 hS, r_16_2 hS, r_66_2 hS, r_66_3 hS, r_66_4 hS, r_66_5 hS, r_66_7 hS, r_66_9 hS, r_66_10 hS, r_66_12 hS, r_66_13 hS, r_66_14 hS, r_66_15 hS, r_72_1 hS, r_75_2 hS, r_77_2 hS, r_79_2 hS, r_81_2 hS, r_131_0 hS, r_131_6 hS, r_131_8 hS, r_135_0 hS, r_135_1 hS, r_135_2 hS, r_135_3 hS, r_140_0 hS, r_140_1 hS, r_143_2 hS, r_145_0 hS, r_145_1 hS, r_145_2 hS, r_145_3 hS, r_145_4 hS, r_145_5 hS, r_156_5 hS, k_pv hS, k_pvr hS, k_db hS, k_dbr hS, k_sh hS, l_pvr hS, l_dbr hS, l_sh hS, r_5 hS, r_6 hS, r_pv hS, r_db hS, r_148 hS, ol_s, ol_n, ln_0, ln_1, ln_2, ln_3, ln_4, eq_self, rf_s, rf_n, i01_0, i01_n0, i01_b, b01_0, b01_1, and_self, and_true, true_and, and_false, false_and, if_true, if_false, not_true_eq_false, not_false_eq_true, e10, e00, lt_bg, Nat.reduceLT, Nat.reduceLeDiff, N6, N7, N8, a', c', w, v]
  have f' : bI (nm b l p 8) = 0 := if_neg f
  have e : srt b l p = 3 := by
    unfold srt
    rw [if_neg a, if_neg c, if_neg f]
  have v : rI (srt b l p) 3 = -1 := by rw [e]; rfl
  simp only [s91_0, s91_1, s91_3, s91_6, s91_9, s91_10, s91_11, s91_12, s91_14, s91_17, s91_20, s91_21, s91_22, s91_23, s91_25, s91_28, s91_31, s91_32, s91_35, s91_36, k_0 hS, k_1 hS, k_2 hS, l_2 hS, k_3 hS, l_3 hS, k_4 hS, l_4 hS, k_5 hS, l_5 hS, k_6 hS, l_6 hS, k_7 hS, k_8 hS, l_8 hS, k_9 hS, l_9 hS, k_10 hS, k_11 hS, l_11 hS, k_12 hS, k_13 hS, l_13 hS, k_14 hS, k_15 hS, l_15 hS, k_16 hS, k_17 hS, l_17 hS, k_66 hS, k_67 hS, l_67 hS, k_68 hS, l_68 hS, k_69 hS, l_69 hS, k_70 hS, l_70 hS, k_71 hS, l_71 hS, k_72 hS, k_73 hS, l_73 hS, k_74 hS, l_74 hS, k_75 hS, k_76 hS, l_76 hS, k_77 hS, k_78 hS, l_78 hS, k_79 hS, k_80 hS, l_80 hS, k_81 hS, k_82 hS, l_82 hS, k_131 hS, k_132 hS, l_132 hS, k_133 hS, l_133 hS, k_134 hS, l_134 hS, k_135 hS, k_136 hS, l_136 hS, k_137 hS, l_137 hS, k_138 hS, l_138 hS, k_139 hS, l_139 hS, k_140 hS, k_141 hS, l_141 hS, k_142 hS, l_142 hS, k_143 hS, k_144 hS, l_144 hS, k_145 hS, k_146 hS, l_146 hS, k_147 hS, l_147 hS, k_148 hS, l_148 hS, k_153 hS, l_153 hS, k_154 hS, l_154 hS, k_155 hS, l_155 hS, k_156 hS, k_157 hS, l_157 hS, k_158 hS, l_158 hS, k_159 hS, l_159 hS, r_0_0 hS, r_0_1 hS, r_0_3 hS, r_0_4 hS, r_0_5 hS, r_0_6 hS, r_0_7 hS, r_0_8 hS, r_0_9 hS, r_0_10 hS, r_1_2 hS, r_1_3 hS, r_1_4 hS, r_1_5 hS, r_1_7 hS, r_1_9 hS, r_1_10 hS, r_1_12 hS, r_1_13 hS, r_1_14 hS, r_1_15 hS, r_7_1 hS, r_10_2 hS, r_12_2 hS, r_14_2 hS, r_16_2 hS, r_66_2 hS, r_66_3 hS, r_66_4 hS, r_66_5 hS, r_66_7 hS, r_66_9 hS, r_66_10 hS, r_66_12 hS, r_66_13 hS, r_66_14 hS, r_66_15 hS, r_72_1 hS, r_75_2 hS, r_77_2 hS, r_79_2 hS, r_81_2 hS, r_131_0 hS, r_131_6 hS, r_131_8 hS, r_135_0 hS, r_135_1 hS, r_135_2 hS, r_135_3 hS, r_140_0 hS, r_140_1 hS, r_143_2 hS, r_145_0 hS, r_145_1 hS, r_145_2 hS, r_145_3 hS, r_145_4 hS, r_145_5 hS, r_156_5 hS, k_pv hS, k_pvr hS, k_db hS, k_dbr hS, k_sh hS, l_pvr hS, l_dbr hS, l_sh hS, r_5 hS, r_6 hS, r_pv hS, r_db hS, r_148 hS, ol_s, ol_n, ln_0, ln_1, ln_2, ln_3, ln_4, eq_self, rf_s, rf_n, i01_0, i01_n0, i01_b, b01_0, b01_1, and_self, and_true, true_and, and_false, false_and, if_true, if_false, not_true_eq_false, not_false_eq_true, e10, e00, lt_bg, Nat.reduceLT, Nat.reduceLeDiff, N6, N7, N8, a', c', f', v]
theorem c92 (hS : Sh ρ τ) (hb : Bgd σ τ) {b : Nat → Nat} {l p : Nat} (hT : TC b l σ) (hp : p ≤ l) (hc : CT b l p σ) : AW (d + 5) 92 0 [.ref 131] [] σ ρ g τ Q = Q (some (.int (rI (fct b l p) 6))) σ ρ g τ := by
  have N1 := fun (d : Nat) (Q : am_Q) => c83n (d := d) (g := g) (Q := Q) hS hb hT hp hc (i := 11) (N := am_BG + 14) (by decide) rfl
  have N2 := fun (d : Nat) (Q : am_Q) => c83n (d := d) (g := g) (Q := Q) hS hb hT hp hc (i := 12) (N := am_BG + 15) (by decide) rfl
  have N3 := fun (d : Nat) (Q : am_Q) => c83n (d := d) (g := g) (Q := Q) hS hb hT hp hc (i := 13) (N := am_BG + 16) (by decide) rfl
  have N4 := fun (d : Nat) (Q : am_Q) => c83n (d := d) (g := g) (Q := Q) hS hb hT hp hc (i := 14) (N := am_BG + 17) (by decide) rfl
  have N5 := fun (d : Nat) (Q : am_Q) => c83n (d := d) (g := g) (Q := Q) hS hb hT hp hc (i := 15) (N := am_BG + 18) (by decide) rfl
  have N6 := fun (d : Nat) (Q : am_Q) => c83n (d := d) (g := g) (Q := Q) hS hb hT hp hc (i := 16) (N := am_BG + 19) (by decide) rfl
  by_cases a1 : nm b l p 11 = true
  · have e : fct b l p = 0 := if_pos a1
    have w := bI_t a1
    have v : rI (fct b l p) 6 = 0 := by rw [e]; rfl
    simp only [s92_0, s92_1, s92_3, s92_6, s92_9, s92_10, s92_11, s92_12, s92_14, s92_17, s92_20, s92_21, s92_22, s92_23, s92_25, s92_28, s92_31, s92_32, s92_33, s92_34, s92_36, s92_39, s92_42, s92_43, s92_44, s92_45, s92_47, s92_50, s92_53, s92_54, s92_55, s92_56, s92_58, s92_61, s92_64, s92_65, s92_68, s92_69, k_0 hS, k_1 hS, k_2 hS, l_2 hS, k_3 hS, l_3 hS, k_4 hS, l_4 hS, k_5 hS, l_5 hS, k_6 hS, l_6 hS, k_7 hS, k_8 hS, l_8 hS, k_9 hS, l_9 hS, k_10 hS, k_11 hS, l_11 hS, k_12 hS, k_13 hS, l_13 hS, k_14 hS, k_15 hS, l_15 hS, k_16 hS, k_17 hS, l_17 hS, k_66 hS, k_67 hS, l_67 hS, k_68 hS, l_68 hS, k_69 hS, l_69 hS, k_70 hS, l_70 hS, k_71 hS, l_71 hS, k_72 hS, k_73 hS, l_73 hS, k_74 hS, l_74 hS, k_75 hS, k_76 hS, l_76 hS, k_77 hS, k_78 hS, l_78 hS, k_79 hS, k_80 hS, l_80 hS, k_81 hS, k_82 hS, l_82 hS, k_131 hS, k_132 hS, l_132 hS, k_133 hS, l_133 hS, k_134 hS, l_134 hS, k_135 hS, k_136 hS, l_136 hS, k_137 hS, l_137 hS, k_138 hS, l_138 hS, k_139 hS, l_139 hS, k_140 hS, k_141 hS, l_141 hS, k_142 hS, l_142 hS, k_143 hS, k_144 hS, l_144 hS, k_145 hS, k_146 hS, l_146 hS, k_147 hS, l_147 hS, k_148 hS, l_148 hS, k_153 hS, l_153 hS, k_154 hS, l_154 hS, k_155 hS, l_155 hS, k_156 hS, k_157 hS, l_157 hS, k_158 hS, l_158 hS, k_159 hS, l_159 hS, r_0_0 hS, r_0_1 hS, r_0_3 hS, r_0_4 hS, r_0_5 hS, r_0_6 hS, r_0_7 hS, r_0_8 hS, r_0_9 hS, r_0_10 hS, r_1_2 hS, r_1_3 hS, r_1_4 hS, r_1_5 hS, r_1_7 hS, r_1_9 hS, r_1_10 hS, r_1_12 hS, r_1_13 hS, r_1_14 hS, r_1_15 hS, r_7_1 hS, r_10_2 hS, r_12_2 hS, r_14_2 hS, r_16_2 hS, r_66_2 hS, r_66_3 hS, r_66_4 hS, r_66_5 hS, r_66_7 hS, r_66_9 hS, r_66_10 hS, r_66_12 hS, r_66_13 hS, r_66_14 hS, r_66_15 hS, r_72_1 hS, r_75_2 hS, r_77_2 hS, r_79_2 hS, r_81_2 hS, r_131_0 hS, r_131_6 hS, r_131_8 hS, r_135_0 hS, r_135_1 hS, r_135_2 hS, r_135_3 hS, r_140_0 hS, r_140_1 hS, r_143_2 hS, r_145_0 hS, r_145_1 hS, r_145_2 hS, r_145_3 hS, r_145_4 hS, r_145_5 hS, r_156_5 hS, k_pv hS, k_pvr hS, k_db hS, k_dbr hS, k_sh hS, l_pvr hS, l_dbr hS, l_sh hS, r_5 hS, r_6 hS, r_pv hS, r_db hS, r_148 hS, ol_s, ol_n, ln_0, ln_1, ln_2, ln_3, ln_4, eq_self, rf_s, rf_n, i01_0, i01_n0, i01_b, b01_0, b01_1, and_self, and_true, true_and, and_false, false_and, if_true, if_false, not_true_eq_false, not_false_eq_true, e10, e00, lt_bg, Nat.reduceLT, Nat.reduceLeDiff, N1, w, v]
  have f1 : bI (nm b l p 11) = 0 := if_neg a1
  by_cases a2 : nm b l p 12 = true
  · have e : fct b l p = 1 := by
      unfold fct
      rw [if_neg a1, if_pos a2]
    have w := bI_t a2
    have v : rI (fct b l p) 6 = 1 := by rw [e]; rfl
    simp only [s92_0, s92_1, s92_3, s92_6, s92_9, s92_10, s92_11, s92_12, s92_14, s92_17, s92_20, s92_21, s92_22, s92_23, s92_25, s92_28, s92_31, s92_32, s92_33, s92_34, s92_36, s92_39, s92_42, s92_43, s92_44, s92_45, s92_47, s92_50, s92_53, s92_54, s92_55, s92_56, s92_58, s92_61, s92_64, s92_65, s92_68, s92_69, k_0 hS, k_1 hS, k_2 hS, l_2 hS, k_3 hS, l_3 hS, k_4 hS, l_4 hS, k_5 hS, l_5 hS, k_6 hS, l_6 hS, k_7 hS, k_8 hS, l_8 hS, k_9 hS, l_9 hS, k_10 hS, k_11 hS, l_11 hS, k_12 hS, k_13 hS, l_13 hS, k_14 hS, k_15 hS, l_15 hS, k_16 hS, k_17 hS, l_17 hS, k_66 hS, k_67 hS, l_67 hS, k_68 hS, l_68 hS, k_69 hS, l_69 hS, k_70 hS, l_70 hS, k_71 hS, l_71 hS, k_72 hS, k_73 hS, l_73 hS, k_74 hS, l_74 hS, k_75 hS, k_76 hS, l_76 hS, k_77 hS, k_78 hS, l_78 hS, k_79 hS, k_80 hS, l_80 hS, k_81 hS, k_82 hS, l_82 hS, k_131 hS, k_132 hS, l_132 hS, k_133 hS, l_133 hS, k_134 hS, l_134 hS, k_135 hS, k_136 hS, l_136 hS, k_137 hS, l_137 hS, k_138 hS, l_138 hS, k_139 hS, l_139 hS, k_140 hS, k_141 hS, l_141 hS, k_142 hS, l_142 hS, k_143 hS, k_144 hS, l_144 hS, k_145 hS, k_146 hS, l_146 hS, k_147 hS, l_147 hS, k_148 hS, l_148 hS, k_153 hS, l_153 hS, k_154 hS, l_154 hS, k_155 hS, l_155 hS, k_156 hS, k_157 hS, l_157 hS, k_158 hS, l_158 hS, k_159 hS, l_159 hS, r_0_0 hS, r_0_1 hS, r_0_3 hS, r_0_4 hS, r_0_5 hS, r_0_6 hS, r_0_7 hS, r_0_8 hS, r_0_9 hS, r_0_10 hS, r_1_2 hS, r_1_3 hS, r_1_4 hS, r_1_5 hS, r_1_7 hS, r_1_9 hS, r_1_10 hS, r_1_12 hS, r_1_13 hS, r_1_14 hS, r_1_15 hS, r_7_1 hS, r_10_2 hS, r_12_2 hS, r_14_2 hS, r_16_2 hS, r_66_2 hS, r_66_3 hS, r_66_4 hS, r_66_5 hS, r_66_7 hS, r_66_9 hS, r_66_10 hS, r_66_12 hS, r_66_13 hS, r_66_14 hS, r_66_15 hS, r_72_1 hS, r_75_2 hS, r_77_2 hS, r_79_2 hS, r_81_2 hS, r_131_0 hS, r_131_6 hS, r_131_8 hS, r_135_0 hS, r_135_1 hS, r_135_2 hS, r_135_3 hS, r_140_0 hS, r_140_1 hS, r_143_2 hS, r_145_0 hS, r_145_1 hS, r_145_2 hS, r_145_3 hS, r_145_4 hS, r_145_5 hS, r_156_5 hS, k_pv hS, k_pvr hS, k_db hS, k_dbr hS, k_sh hS, l_pvr hS, l_dbr hS, l_sh hS, r_5 hS, r_6 hS, r_pv hS, r_db hS, r_148 hS, ol_s, ol_n, ln_0, ln_1, ln_2, ln_3, ln_4, eq_self, rf_s, rf_n, i01_0, i01_n0, i01_b, b01_0, b01_1, and_self, and_true, true_and, and_false, false_and, if_true, if_false, not_true_eq_false, not_false_eq_true, e10, e00, lt_bg, Nat.reduceLT, Nat.reduceLeDiff, N1, N2, f1, w, v]
  have f2 : bI (nm b l p 12) = 0 := if_neg a2
  by_cases a3 : nm b l p 13 = true
  · have e : fct b l p = 2 := by
      unfold fct
      rw [if_neg a1, if_neg a2, if_pos a3]
    have w := bI_t a3
    have v : rI (fct b l p) 6 = 2 := by rw [e]; rfl
    simp only [s92_0, s92_1, s92_3, s92_6, s92_9, s92_10, s92_11, s92_12, s92_14, s92_17, s92_20, s92_21, s92_22, s92_23, s92_25, s92_28, s92_31, s92_32, s92_33, s92_34, s92_36, s92_39, s92_42, s92_43, s92_44, s92_45, s92_47, s92_50, s92_53, s92_54, s92_55, s92_56, s92_58, s92_61, s92_64, s92_65, s92_68, s92_69, k_0 hS, k_1 hS, k_2 hS, l_2 hS, k_3 hS, l_3 hS, k_4 hS, l_4 hS, k_5 hS, l_5 hS, k_6 hS, l_6 hS, k_7 hS, k_8 hS, l_8 hS, k_9 hS, l_9 hS, k_10 hS, k_11 hS, l_11 hS, k_12 hS, k_13 hS, l_13 hS, k_14 hS, k_15 hS, l_15 hS, k_16 hS, k_17 hS, l_17 hS, k_66 hS, k_67 hS, l_67 hS, k_68 hS, l_68 hS, k_69 hS, l_69 hS, k_70 hS, l_70 hS, k_71 hS, l_71 hS, k_72 hS, k_73 hS, l_73 hS, k_74 hS, l_74 hS, k_75 hS, k_76 hS, l_76 hS, k_77 hS, k_78 hS, l_78 hS, k_79 hS, k_80 hS, l_80 hS, k_81 hS, k_82 hS, l_82 hS, k_131 hS, k_132 hS, l_132 hS, k_133 hS, l_133 hS, k_134 hS, l_134 hS, k_135 hS, k_136 hS, l_136 hS, k_137 hS, l_137 hS, k_138 hS, l_138 hS, k_139 hS, l_139 hS, k_140 hS, k_141 hS, l_141 hS, k_142 hS, l_142 hS, k_143 hS, k_144 hS, l_144 hS, k_145 hS, k_146 hS, l_146 hS, k_147 hS, l_147 hS, k_148 hS, l_148 hS, k_153 hS, l_153 hS, k_154 hS, l_154 hS, k_155 hS, l_155 hS, k_156 hS, k_157 hS, l_157 hS, k_158 hS, l_158 hS, k_159 hS, l_159 hS, r_0_0 hS, r_0_1 hS, r_0_3 hS, r_0_4 hS, r_0_5 hS, r_0_6 hS, r_0_7 hS, r_0_8 hS, r_0_9 hS, r_0_10 hS, r_1_2 hS, r_1_3 hS, r_1_4 hS, r_1_5 hS, r_1_7 hS, r_1_9 hS, r_1_10 hS, r_1_12 hS, r_1_13 hS, r_1_14 hS, r_1_15 hS, r_7_1 hS, r_10_2 hS, r_12_2 hS, r_14_2 hS, r_16_2 hS, r_66_2 hS, r_66_3 hS, r_66_4 hS, r_66_5 hS, r_66_7 hS, r_66_9 hS, r_66_10 hS, r_66_12 hS, r_66_13 hS, r_66_14 hS, r_66_15 hS, r_72_1 hS, r_75_2 hS, r_77_2 hS, r_79_2 hS, r_81_2 hS, r_131_0 hS, r_131_6 hS, r_131_8 hS, r_135_0 hS, r_135_1 hS, r_135_2 hS, r_135_3 hS, r_140_0 hS, r_140_1 hS, r_143_2 hS, r_145_0 hS, r_145_1 hS, r_145_2 hS, r_145_3 hS, r_145_4 hS, r_145_5 hS, r_156_5 hS, k_pv hS, k_pvr hS, k_db hS, k_dbr hS, k_sh hS, l_pvr hS, l_dbr hS, l_sh hS, r_5 hS, r_6 hS, r_pv hS, r_db hS, r_148 hS, ol_s, ol_n, ln_0, ln_1, ln_2, ln_3, ln_4, eq_self, rf_s, rf_n, i01_0, i01_n0, i01_b, b01_0, b01_1, and_self, and_true, true_and, and_false, false_and, if_true, if_false, not_true_eq_false, not_false_eq_true, e10, e00, lt_bg, Nat.reduceLT, Nat.reduceLeDiff, N1, N2, N3, f1, f2, w, v]
  have f3 : bI (nm b l p 13) = 0 := if_neg a3
  by_cases a4 : nm b l p 14 = true
  · have e : fct b l p = 3 := by
      unfold fct
      rw [if_neg a1, if_neg a2, if_neg a3, if_pos a4]
    have w := bI_t a4
    have v : rI (fct b l p) 6 = 3 := by rw [e]; rfl
    simp only [s92_0, s92_1, s92_3, s92_6, s92_9, s92_10, s92_11, s92_12, s92_14, s92_17, s92_20, s92_21, s92_22, s92_23, s92_25, s92_28, s92_31, s92_32, s92_33, s92_34, s92_36, s92_39, s92_42, s92_43, s92_44, s92_45, s92_47, s92_50, s92_53, s92_54, s92_55, s92_56, s92_58, s92_61, s92_64, s92_65, s92_68, s92_69, k_0 hS, k_1 hS, k_2 hS, l_2 hS, k_3 hS, l_3 hS, k_4 hS, l_4 hS, k_5 hS, l_5 hS, k_6 hS, l_6 hS, k_7 hS, k_8 hS, l_8 hS, k_9 hS, l_9 hS, k_10 hS, k_11 hS, l_11 hS, k_12 hS, k_13 hS, l_13 hS, k_14 hS, k_15 hS, l_15 hS, k_16 hS, k_17 hS, l_17 hS, k_66 hS, k_67 hS, l_67 hS, k_68 hS, l_68 hS, k_69 hS, l_69 hS, k_70 hS, l_70 hS, k_71 hS, l_71 hS, k_72 hS, k_73 hS, l_73 hS, k_74 hS, l_74 hS, k_75 hS, k_76 hS, l_76 hS, k_77 hS, k_78 hS, l_78 hS, k_79 hS, k_80 hS, l_80 hS, k_81 hS, k_82 hS, l_82 hS, k_131 hS, k_132 hS, l_132 hS, k_133 hS, l_133 hS, k_134 hS, l_134 hS, k_135 hS, k_136 hS, l_136 hS, k_137 hS, l_137 hS, k_138 hS, l_138 hS, k_139 hS, l_139 hS, k_140 hS, k_141 hS, l_141 hS, k_142 hS, l_142 hS, k_143 hS, k_144 hS, l_144 hS, k_145 hS, k_146 hS, l_146 hS, k_147 hS, l_147 hS, k_148 hS, l_148 hS, k_153 hS, l_153 hS, k_154 hS, l_154 hS, k_155 hS, l_155 hS, k_156 hS, k_157 hS, l_157 hS, k_158 hS, l_158 hS, k_159 hS, l_159 hS, r_0_0 hS, r_0_1 hS, r_0_3 hS, r_0_4 hS, r_0_5 hS, r_0_6 hS, r_0_7 hS, r_0_8 hS, r_0_9 hS, r_0_10 hS, r_1_2 hS, r_1_3 hS, r_1_4 hS, r_1_5 hS, r_1_7 hS, r_1_9 hS, r_1_10 hS, r_1_12 hS, r_1_13 hS, r_1_14 hS, r_1_15 hS, r_7_1 hS, r_10_2 hS, r_12_2 hS, r_14_2 hS, r_16_2 hS, r_66_2 hS, r_66_3 hS, r_66_4 hS, r_66_5 hS, r_66_7 hS, r_66_9 hS, r_66_10 hS, r_66_12 hS, r_66_13 hS, r_66_14 hS, r_66_15 hS, r_72_1 hS, r_75_2 hS, r_77_2 hS, r_79_2 hS, r_81_2 hS, r_131_0 hS, r_131_6 hS, r_131_8 hS, r_135_0 hS, r_135_1 hS, r_135_2 hS, r_135_3 hS, r_140_0 hS, r_140_1 hS, r_143_2 hS, r_145_0 hS, r_145_1 hS, r_145_2 hS, r_145_3 hS, r_145_4 hS, r_145_5 hS, r_156_5 hS, k_pv hS, k_pvr hS, k_db hS, k_dbr hS, k_sh hS, l_pvr hS, l_dbr hS, l_sh hS, r_5 hS, r_6 hS, r_pv hS, r_db hS, r_148 hS, ol_s, ol_n, ln_0, ln_1, ln_2, ln_3, ln_4, eq_self, rf_s, rf_n, i01_0, i01_n0, i01_b, b01_0, b01_1, and_self, and_true, true_and, and_false, false_and, if_true, if_false, not_true_eq_false, not_false_eq_true, e10, e00, lt_bg, Nat.reduceLT, Nat.reduceLeDiff, N1, N2, N3, N4, f1, f2, f3, w, v]
  have f4 : bI (nm b l p 14) = 0 := if_neg a4
  by_cases a5 : nm b l p 15 = true
  · have e : fct b l p = 4 := by
      unfold fct
      rw [if_neg a1, if_neg a2, if_neg a3, if_neg a4, if_pos a5]
    have w := bI_t a5
    have v : rI (fct b l p) 6 = 4 := by rw [e]; rfl
    simp only [s92_0, s92_1, s92_3, s92_6, s92_9, s92_10, s92_11, s92_12, s92_14, s92_17, s92_20, s92_21, s92_22, s92_23, s92_25, s92_28, s92_31, s92_32, s92_33, s92_34, s92_36, s92_39, s92_42, s92_43, s92_44, s92_45, s92_47, s92_50, s92_53, s92_54, s92_55, s92_56, s92_58, s92_61, s92_64, s92_65, s92_68, s92_69, k_0 hS, k_1 hS, k_2 hS, l_2 hS, k_3 hS, l_3 hS, k_4 hS, l_4 hS, k_5 hS, l_5 hS, k_6 hS, l_6 hS, k_7 hS, k_8 hS, l_8 hS, k_9 hS, l_9 hS, k_10 hS, k_11 hS, l_11 hS, k_12 hS, k_13 hS, l_13 hS, k_14 hS, k_15 hS, l_15 hS, k_16 hS, k_17 hS, l_17 hS, k_66 hS, k_67 hS, l_67 hS, k_68 hS, l_68 hS, k_69 hS, l_69 hS, k_70 hS, l_70 hS, k_71 hS, l_71 hS, k_72 hS, k_73 hS, l_73 hS, k_74 hS, l_74 hS, k_75 hS, k_76 hS, l_76 hS, k_77 hS, k_78 hS, l_78 hS, k_79 hS, k_80 hS, l_80 hS, k_81 hS, k_82 hS, l_82 hS, k_131 hS, k_132 hS, l_132 hS, k_133 hS, l_133 hS, k_134 hS, l_134 hS, k_135 hS, k_136 hS, l_136 hS, k_137 hS, l_137 hS, k_138 hS, l_138 hS, k_139 hS, l_139 hS, k_140 hS, k_141 hS, l_141 hS, k_142 hS, l_142 hS, k_143 hS, k_144 hS, l_144 hS, k_145 hS, k_146 hS, l_146 hS, k_147 hS, l_147 hS, k_148 hS, l_148 hS, k_153 hS, l_153 hS, k_154 hS, l_154 hS, k_155 hS, l_155 hS, k_156 hS, k_157 hS, l_157 hS, k_158 hS, l_158 hS, k_159 hS, l_159 hS, r_0_0 hS, r_0_1 hS, r_0_3 hS, r_0_4 hS, r_0_5 hS, r_0_6 hS, r_0_7 hS, r_0_8 hS, r_0_9 hS, r_0_10 hS, r_1_2 hS, r_1_3 hS, r_1_4 hS, r_1_5 hS, r_1_7 hS, r_1_9 hS, r_1_10 hS, r_1_12 hS, r_1_13 hS, r_1_14 hS, r_1_15 hS, r_7_1 hS, r_10_2 hS, r_12_2 hS, r_14_2 hS, r_16_2 hS, r_66_2 hS, r_66_3 hS, r_66_4 hS, r_66_5 hS, r_66_7 hS, r_66_9 hS, r_66_10 hS, r_66_12 hS, r_66_13 hS, r_66_14 hS, r_66_15 hS, r_72_1 hS, r_75_2 hS, r_77_2 hS, r_79_2 hS, r_81_2 hS, r_131_0 hS, r_131_6 hS, r_131_8 hS, r_135_0 hS, r_135_1 hS, r_135_2 hS, r_135_3 hS, r_140_0 hS, r_140_1 hS, r_143_2 hS, r_145_0 hS, r_145_1 hS, r_145_2 hS, r_145_3 hS, r_145_4 hS, r_145_5 hS, r_156_5 hS, k_pv hS, k_pvr hS, k_db hS, k_dbr hS, k_sh hS, l_pvr hS, l_dbr hS, l_sh hS, r_5 hS, r_6 hS, r_pv hS, r_db hS, r_148 hS, ol_s, ol_n, ln_0, ln_1, ln_2, ln_3, ln_4, eq_self, rf_s, rf_n, i01_0, i01_n0, i01_b, b01_0, b01_1, and_self, and_true, true_and, and_false, false_and, if_true, if_false, not_true_eq_false, not_false_eq_true, e10, e00, lt_bg, Nat.reduceLT, Nat.reduceLeDiff, N1, N2, N3, N4, N5, f1, f2, f3, f4, w, v]
  have f5 : bI (nm b l p 15) = 0 := if_neg a5
  by_cases a6 : nm b l p 16 = true
  · have e : fct b l p = 5 := by
      unfold fct
      rw [if_neg a1, if_neg a2, if_neg a3, if_neg a4, if_neg a5, if_pos a6]
    have w := bI_t a6
    have v : rI (fct b l p) 6 = 5 := by rw [e]; rfl
    simp only [s92_0, s92_1, s92_3, s92_6, s92_9, s92_10, s92_11, s92_12, s92_14, s92_17, s92_20, s92_21, s92_22, s92_23, s92_25, s92_28, s92_31, s92_32, s92_33, s92_34, s92_36, s92_39, s92_42, s92_43, s92_44, s92_45, s92_47, s92_50, s92_53, s92_54, s92_55, s92_56, s92_58, s92_61, s92_64, s92_65, s92_68, s92_69, k_0 hS, k_1 hS, k_2 hS, l_2 hS, k_3 hS, l_3 hS, k_4 hS, l_4 hS, k_5 hS, l_5 hS, k_6 hS, l_6 hS, k_7 hS, k_8 hS, l_8 hS, k_9 hS, l_9 hS, k_10 hS, k_11 hS, l_11 hS, k_12 hS, k_13 hS, l_13 hS, k_14 hS, k_15 hS, l_15 hS, k_16 hS, k_17 hS, l_17 hS, k_66 hS, k_67 hS, l_67 hS, k_68 hS, l_68 hS, k_69 hS, l_69 hS, k_70 hS, l_70 hS, k_71 hS, l_71 hS, k_72 hS, k_73 hS, l_73 hS, k_74 hS, l_74 hS, k_75 hS, k_76 hS, l_76 hS, k_77 hS, k_78 hS, l_78 hS, k_79 hS, k_80 hS, l_80 hS, k_81 hS, k_82 hS, l_82 hS, k_131 hS, k_132 hS, l_132 hS, k_133 hS, l_133 hS, k_134 hS, l_134 hS, k_135 hS, k_136 hS, l_136 hS, k_137 hS, l_137 hS, k_138 hS, l_138 hS, k_139 hS, l_139 hS, k_140 hS, k_141 hS, l_141 hS, k_142 hS, l_142 hS, k_143 hS, k_144 hS, l_144 hS, k_145 hS, k_146 hS, l_146 hS, k_147 hS, l_147 hS, k_148 hS, l_148 hS, k_153 hS, l_153 hS, k_154 hS, l_154 hS, k_155 hS, l_155 hS, k_156 hS, k_157 hS, l_157 hS, k_158 hS, l_158 hS, k_159 hS, l_159 hS, r_0_0 hS, r_0_1 hS, r_0_3 hS, r_0_4 hS, r_0_5 hS, r_0_6 hS, r_0_7 hS, r_0_8 hS, r_0_9 hS, r_0_10 hS, r_1_2 hS, r_1_3 hS, r_1_4 hS, r_1_5 hS, r_1_7 hS, r_1_9 hS, r_1_10 hS, r_1_12 hS, r_1_13 hS, r_1_14 hS, r_1_15 hS, r_7_1 hS, r_10_2 hS, r_12_2 hS, r_14_2 hS, r_16_2 hS, r_66_2 hS, r_66_3 hS, r_66_4 hS, r_66_5 hS, r_66_7 hS, r_66_9 hS, r_66_10 hS, r_66_12 hS, r_66_13 hS, r_66_14 hS, r_66_15 hS, r_72_1 hS, r_75_2 hS, r_77_2 hS, r_79_2 hS, r_81_2 hS, r_131_0 hS, r_131_6 hS, r_131_8 hS, r_135_0 hS, r_135_1 hS, r_135_2 hS, r_135_3 hS, r_140_0 hS, r_140_1 hS, r_143_2 hS, r_145_0 hS, r_145_1 hS, r_145_2 hS, r_145_3 hS, r_145_4 hS, r_145_5 hS, r_156_5 hS, k_pv hS, k_pvr hS, k_db hS, k_dbr hS, k_sh hS, l_pvr hS, l_dbr hS, l_sh hS, r_5 hS, r_6 hS, r_pv hS, r_db hS, r_148 hS, ol_s, ol_n, ln_0, ln_1, ln_2, ln_3, ln_4, eq_self, rf_s, rf_n, i01_0, i01_n0, i01_b, b01_0, b01_1, and_self, and_true, true_and, and_false, false_and, if_true, if_false, not_true_eq_false, not_false_eq_true, e10, e00, lt_bg, Nat.reduceLT, Nat.reduceLeDiff, N1, N2, N3, N4, N5, N6, f1, f2, f3, f4, f5, w, v]
  have f6 : bI (nm b l p 16) = 0 := if_neg a6
  have e : fct b l p = 6 := by
    unfold fct
    rw [if_neg a1, if_neg a2, if_neg a3, if_neg a4, if_neg a5, if_neg a6]
  have v : rI (fct b l p) 6 = -1 := by rw [e]; rfl
  simp only [s92_0, s92_1, s92_3, s92_6, s92_9, s92_10, s92_11, s92_12, s92_14, s92_17, s92_20, s92_21, s92_22, s92_23, s92_25, s92_28, s92_31, s92_32, s92_33, s92_34, s92_36, s92_39, s92_42, s92_43, s92_44, s92_45, s92_47, s92_50, s92_53, s92_54, s92_55, s92_56, s92_58, s92_61, s92_64, s92_65, s92_68, s92_69, k_0 hS, k_1 hS, k_2 hS, l_2 hS, k_3 hS, l_3 hS, k_4 hS, l_4 hS, k_5 hS, l_5 hS, k_6 hS, l_6 hS, k_7 hS, k_8 hS, l_8 hS, k_9 hS, l_9 hS, k_10 hS, k_11 hS, l_11 hS, k_12 hS, k_13 hS, l_13 hS, k_14 hS, k_15 hS, l_15 hS, k_16 hS, k_17 hS, l_17 hS, k_66 hS, k_67 hS, l_67 hS, k_68 hS, l_68 hS, k_69 hS, l_69 hS, k_70 hS, l_70 hS, k_71 hS, l_71 hS, k_72 hS, k_73 hS, l_73 hS, k_74 hS, l_74 hS, k_75 hS, k_76 hS, l_76 hS, k_77 hS, k_78 hS, l_78 hS, k_79 hS, k_80 hS, l_80 hS, k_81 hS, k_82 hS, l_82 hS, k_131 hS, k_132 hS, l_132 hS, k_133 hS, l_133 hS, k_134 hS, l_134 hS, k_135 hS, k_136 hS, l_136 hS, k_137 hS, l_137 hS, k_138 hS, l_138 hS, k_139 hS, l_139 hS, k_140 hS, k_141 hS, l_141 hS, k_142 hS, l_142 hS, k_143 hS, k_144 hS, l_144 hS, k_145 hS, k_146 hS, l_146 hS, k_147 hS, l_147 hS, k_148 hS, l_148 hS, k_153 hS, l_153 hS, k_154 hS, l_154 hS, k_155 hS, l_155 hS, k_156 hS, k_157 hS, l_157 hS, k_158 hS, l_158 hS, k_159 hS, l_159 hS, r_0_0 hS, r_0_1 hS, r_0_3 hS, r_0_4 hS, r_0_5 hS, r_0_6 hS, r_0_7 hS, r_0_8 hS, r_0_9 hS, r_0_10 hS, r_1_2 hS, r_1_3 hS, r_1_4 hS, r_1_5 hS, r_1_7 hS, r_1_9 hS, r_1_10 hS, r_1_12 hS, r_1_13 hS, r_1_14 hS, r_1_15 hS, r_7_1 hS, r_10_2 hS, r_12_2 hS, r_14_2 hS, r_16_2 hS, r_66_2 hS, r_66_3 hS, r_66_4 hS, r_66_5 hS, r_66_7 hS, r_66_9 hS, r_66_10 hS, r_66_12 hS, r_66_13 hS, r_66_14 hS, r_66_15 hS, r_72_1 hS, r_75_2 hS, r_77_2 hS, r_79_2 hS, r_81_2 hS, r_131_0 hS, r_131_6 hS, r_131_8 hS, r_135_0 hS, r_135_1 hS, r_135_2 hS, r_135_3 hS, r_140_0 hS, r_140_1 hS, r_143_2 hS, r_145_0 hS, r_145_1 hS, r_145_2 hS, r_145_3 hS, r_145_4 hS, r_145_5 hS, r_156_5 hS, k_pv hS, k_pvr hS, k_db hS, k_dbr hS, k_sh hS, l_pvr hS, l_dbr hS, l_sh hS, r_5 hS, r_6 hS, r_pv hS, r_db hS, r_148 hS, ol_s, ol_n, ln_0, ln_1, ln_2, ln_3, ln_4, eq_self, rf_s, rf_n, i01_0, i01_n0, i01_b, b01_0, b01_1, and_self, and_true, true_and, and_false, false_and, if_true, if_false, not_true_eq_false, not_false_eq_true, e10, e00, lt_bg, Nat.reduceLT, Nat.reduceLeDiff, N1, N2, N3, N4, N5, N6, f1, f2, f3, f4, f5, f6, v]
theorem sgn_v {b : Nat → Nat} {l q : Nat} (h : sgn b l q < 3) : tvl b l q = nI (60 + sgn b l q) ∧ (bI (ot b l q 60) = 1 ∨ bI (ot b l q 60) = 0 ∧ (bI (ot b l q 61) = 1 ∨ bI (ot b l q 61) = 0 ∧ bI (ot b l q 62) = 1)) := by
  have key : ∀ c, c < 128 → ot b l q c = true → tvl b l q = nI c := fun c hc z => by
    have z := of_decide_eq_true z
    unfold tvl
    rw [if_neg (by omega), if_pos z.1, z.2]
    exact if_pos hc
  unfold sgn at h ⊢
  by_cases a : ot b l q 60 = true
  · rw [if_pos a]
    exact ⟨key 60 (by decide) a, Or.inl (bI_t a)⟩
  by_cases c : ot b l q 61 = true
  · rw [if_neg a, if_pos c]
    exact ⟨key 61 (by decide) c, Or.inr ⟨if_neg a, Or.inl (bI_t c)⟩⟩
  by_cases e : ot b l q 62 = true
  · rw [if_neg a, if_neg c, if_pos e]
    exact ⟨key 62 (by decide) e, Or.inr ⟨if_neg a, Or.inr ⟨if_neg c, bI_t e⟩⟩⟩
  rw [if_neg a, if_neg c, if_neg e] at h
  exact absurd h (by decide)
theorem sgn_n {b : Nat → Nat} {l q : Nat} (h : ¬ sgn b l q < 3) : bI (ot b l q 60) = 0 ∧ bI (ot b l q 61) = 0 ∧ bI (ot b l q 62) = 0 := by
  unfold sgn at h
  by_cases a : ot b l q 60 = true
  · rw [if_pos a] at h
    exact absurd (by decide) h
  by_cases c : ot b l q 61 = true
  · rw [if_neg a, if_pos c] at h
    exact absurd (by decide) h
  by_cases e : ot b l q 62 = true
  · rw [if_neg a, if_neg c, if_pos e] at h
    exact absurd (by decide) h
  exact ⟨if_neg a, if_neg c, if_neg e⟩
theorem c98 (hS : Sh ρ τ) (hb : Bgd σ τ) {b : Nat → Nat} {l p n : Nat} (hT : TC b l σ) (hp : p ≤ l) (hn : n < p) (hc : CT b l p σ) (h7 : σ 131 7 = nI n) : ∃ σ' : am_I, CR b l σ σ' n (pPl b l p) ∧ ∀ (d : Nat) (g : am_J) (Q : am_Q), AW (d + 8) 98 0 [.ref 131, am_jk, am_jk, am_jk] [] σ ρ g τ Q = Q (some (.int (bI (pPl b l p).1))) σ' ρ g τ := by
  have hl := hT.1
  obtain ⟨t1, t2, t3⟩ := te_b (b := b) hp
  obtain ⟨n1, n2, n3⟩ := nx_b (b := b) hp
  have en : sk b l (te b l p) = nx b l p := rfl
  have S := fun (d : Nat) (g : am_J) (Q : am_Q) => c91 (d := d) (g := g) (Q := Q) hS hb hT hp hc
  have F := fun (d : Nat) (g : am_J) (Q : am_Q) => c92 (d := d) (g := g) (Q := Q) hS hb hT hp hc
  have wt : bI true = 1 := rfl
  have wf : bI false = 0 := rfl
  unfold pPl
  by_cases a : srt b l p < 3
  · rw [if_pos a]
    have v : rI (srt b l p) 3 = nI (srt b l p) := if_pos a
    have lt : ¬ nI (srt b l p) < 0 := Int32.not_lt.mpr (nI_le (a := 0) (Nat.zero_le _) (by omega))
    have P := fun (d : Nat) (g : am_J) (Q : am_Q) => c51s (d := d) (σ := σ) (ρ := ρ) (g := g) (τ := τ) (Q := Q) a
    have A := fun (d : Nat) (g : am_J) (Q : am_Q) => c93 (d := d) (g := g) (Q := Q) hS (n := n) (by omega) h7 (v := nI (tk_C (1, 0, 0, srt b l p)))
    have K := (CR.refl hc h7).push (t := (1, 0, 0, srt b l p)) rfl
    have K : CR b l σ (am_u (am_u σ 133 n (nI (tk_C (1, 0, 0, srt b l p)))) 131 7 (nI (n + 1))) n (true, p, [(1, 0, 0, srt b l p)]) := K
    generalize am_u (am_u σ 133 n (nI (tk_C (1, 0, 0, srt b l p)))) 131 7 (nI (n + 1)) = s1 at A K
    have V := fun (d : Nat) (g : am_J) (Q : am_Q) => c80 (d := d) (g := g) (Q := Q) hS (K.tc hT) t2 K.2.2.1.2.1
    rw [en] at V
    refine ⟨adv b l s1 (nx b l p), K.av, fun d g Q => ?_⟩
    simp only [s98_0, s98_1, s98_4r, s98_5, s98_6, s98_9, s98_10, s98_11, s98_12, s98_13, s98_14, s98_17, s98_20, s98_21, s98_24, s98_25, k_0 hS, k_1 hS, k_2 hS, l_2 hS, k_3 hS, l_3 hS, k_4 hS, l_4 hS, k_5 hS, l_5 hS, k_6 hS, l_6 hS, k_7 hS, k_8 hS, l_8 hS, k_9 hS, l_9 hS, k_10 hS, k_11 hS, l_11 hS, k_12 hS, k_13 hS, l_13 hS, k_14 hS, k_15 hS, l_15 hS, k_16 hS, k_17 hS, l_17 hS, k_66 hS, k_67 hS, l_67 hS, k_68 hS, l_68 hS, k_69 hS, l_69 hS, k_70 hS, l_70 hS, k_71 hS, l_71 hS, k_72 hS, k_73 hS, l_73 hS, k_74 hS, l_74 hS, k_75 hS, k_76 hS, l_76 hS, k_77 hS, k_78 hS, l_78 hS, k_79 hS, k_80 hS, l_80 hS, k_81 hS, k_82 hS, l_82 hS, k_131 hS, k_132 hS, l_132 hS, k_133 hS, l_133 hS, k_134 hS, l_134 hS, k_135 hS, k_136 hS, l_136 hS, k_137 hS, l_137 hS, k_138 hS, l_138 hS, k_139 hS, l_139 hS, k_140 hS, k_141 hS, l_141 hS, k_142 hS, l_142 hS, k_143 hS, k_144 hS, l_144 hS, k_145 hS, k_146 hS, l_146 hS, k_147 hS, l_147 hS, k_148 hS, l_148 hS, k_153 hS, l_153 hS, k_154 hS, l_154 hS, k_155 hS, l_155 hS, k_156 hS, k_157 hS, l_157 hS, k_158 hS, l_158 hS, k_159 hS, l_159 hS, r_0_0 hS, r_0_1 hS, r_0_3 hS, r_0_4 hS, r_0_5 hS, r_0_6 hS, r_0_7 hS, r_0_8 hS, r_0_9 hS, r_0_10 hS, r_1_2 hS, r_1_3 hS, r_1_4 hS, r_1_5 hS, r_1_7 hS, r_1_9 hS, r_1_10 hS, r_1_12 hS, r_1_13 hS, r_1_14 hS, r_1_15 hS, r_7_1 hS, r_10_2 hS, r_12_2 hS, r_14_2 hS, r_16_2 hS, r_66_2 hS, r_66_3 hS, r_66_4 hS, r_66_5 hS, r_66_7 hS, r_66_9 hS, r_66_10 hS, r_66_12 hS, r_66_13 hS, r_66_14 hS, r_66_15 hS, r_72_1 hS, r_75_2 hS, r_77_2 hS, r_79_2 hS, r_81_2 hS, r_131_0 hS, r_131_6 hS, r_131_8 hS, r_135_0 hS, r_135_1 hS, r_135_2 hS, r_135_3 hS, r_140_0 hS, r_140_1 hS, r_143_2 hS, r_145_0 hS, r_145_1 hS, r_145_2 hS, r_145_3 hS, r_145_4 hS, r_145_5 hS, r_156_5 hS, k_pv hS, k_pvr hS, k_db hS, k_dbr hS, k_sh hS, l_pvr hS, l_dbr hS, l_sh hS, r_5 hS, r_6 hS, r_pv hS, r_db hS, r_148 hS, ol_s, ol_n, ln_0, ln_1, ln_2, ln_3, ln_4, eq_self, rf_s, rf_n, i01_0, i01_n0, i01_b, b01_0, b01_1, and_self, and_true, true_and, and_false, false_and, if_true, if_false, not_true_eq_false, not_false_eq_true, e10, e00, lt_bg, Nat.reduceLT, Nat.reduceLeDiff, S, v, lt, P, A, V, wt]
  rw [if_neg a]
  have v : rI (srt b l p) 3 = -1 := if_neg a
  have lt1 : ((-1 : Int32) < 0) = True := by decide
  by_cases c : fct b l p < 6
  rotate_left
  · rw [if_neg c]
    have v2 : rI (fct b l p) 6 = -1 := if_neg c
    have lt2 : ((0 : Int32) ≤ -1) = False := by decide
    refine ⟨σ, (CR.refl hc h7).fail, fun d g Q => ?_⟩
    simp only [s98_0, s98_1, s98_4r, s98_5, s98_6, s98_26, s98_27, s98_30, s98_31, s98_32, s98_35, s98_36, k_0 hS, k_1 hS, k_2 hS, l_2 hS, k_3 hS, l_3 hS, k_4 hS, l_4 hS, k_5 hS, l_5 hS, k_6 hS, l_6 hS, k_7 hS, k_8 hS, l_8 hS, k_9 hS, l_9 hS, k_10 hS, k_11 hS, l_11 hS, k_12 hS, k_13 hS, l_13 hS, k_14 hS, k_15 hS, l_15 hS, k_16 hS, k_17 hS, l_17 hS, k_66 hS, k_67 hS, l_67 hS, k_68 hS, l_68 hS, k_69 hS, l_69 hS, k_70 hS, l_70 hS, k_71 hS, l_71 hS, k_72 hS, k_73 hS, l_73 hS, k_74 hS, l_74 hS, k_75 hS, k_76 hS, l_76 hS, k_77 hS, k_78 hS, l_78 hS, k_79 hS, k_80 hS, l_80 hS, k_81 hS, k_82 hS, l_82 hS, k_131 hS, k_132 hS, l_132 hS, k_133 hS, l_133 hS, k_134 hS, l_134 hS, k_135 hS, k_136 hS, l_136 hS, k_137 hS, l_137 hS, k_138 hS, l_138 hS, k_139 hS, l_139 hS, k_140 hS, k_141 hS, l_141 hS, k_142 hS, l_142 hS, k_143 hS, k_144 hS, l_144 hS, k_145 hS, k_146 hS, l_146 hS, k_147 hS, l_147 hS, k_148 hS, l_148 hS, k_153 hS, l_153 hS, k_154 hS, l_154 hS, k_155 hS, l_155 hS, k_156 hS, k_157 hS, l_157 hS, k_158 hS, l_158 hS, k_159 hS, l_159 hS, r_0_0 hS, r_0_1 hS, r_0_3 hS, r_0_4 hS, r_0_5 hS, r_0_6 hS, r_0_7 hS, r_0_8 hS, r_0_9 hS, r_0_10 hS, r_1_2 hS, r_1_3 hS, r_1_4 hS, r_1_5 hS, r_1_7 hS, r_1_9 hS, r_1_10 hS, r_1_12 hS, r_1_13 hS, r_1_14 hS, r_1_15 hS, r_7_1 hS, r_10_2 hS, r_12_2 hS, r_14_2 hS, r_16_2 hS, r_66_2 hS, r_66_3 hS, r_66_4 hS, r_66_5 hS, r_66_7 hS, r_66_9 hS, r_66_10 hS, r_66_12 hS, r_66_13 hS, r_66_14 hS, r_66_15 hS, r_72_1 hS, r_75_2 hS, r_77_2 hS, r_79_2 hS, r_81_2 hS, r_131_0 hS, r_131_6 hS, r_131_8 hS, r_135_0 hS, r_135_1 hS, r_135_2 hS, r_135_3 hS, r_140_0 hS, r_140_1 hS, r_143_2 hS, r_145_0 hS, r_145_1 hS, r_145_2 hS, r_145_3 hS, r_145_4 hS, r_145_5 hS, r_156_5 hS, k_pv hS, k_pvr hS, k_db hS, k_dbr hS, k_sh hS, l_pvr hS, l_dbr hS, l_sh hS, r_5 hS, r_6 hS, r_pv hS, r_db hS, r_148 hS, ol_s, ol_n, ln_0, ln_1, ln_2, ln_3, ln_4, eq_self, rf_s, rf_n, i01_0, i01_n0, i01_b, b01_0, b01_1, and_self, and_true, true_and, and_false, false_and, if_true, if_false, not_true_eq_false, not_false_eq_true, e10, e00, lt_bg, Nat.reduceLT, Nat.reduceLeDiff, S, F, v, v2, lt1, lt2, wf]
  rw [if_pos c]
  have v2 : rI (fct b l p) 6 = nI (fct b l p) := if_pos c
  have ge2 : 0 ≤ nI (fct b l p) := nI_le (a := 0) (Nat.zero_le _) (by omega)
  have V1 := fun (d : Nat) (g : am_J) (Q : am_Q) => c80 (d := d) (g := g) (Q := Q) hS hT t2 hc.2.1
  rw [en] at V1
  have K1 := (CR.refl hc h7).av (q := nx b l p)
  generalize adv b l σ (nx b l p) = s1 at V1 K1
  generalize eq : nx b l p = q at n1 n2 n3 K1
  have T1 := K1.tc hT
  have C1 : CT b l q s1 := K1.2.2.1
  have O0 := fun (d : Nat) (g : am_J) (Q : am_Q) => c84 (d := d) (ρ := ρ) (g := g) (Q := Q) hS (c := 60) (by decide) T1 C1 (y := 60) (by decide)
  have O1 := fun (d : Nat) (g : am_J) (Q : am_Q) => c84 (d := d) (ρ := ρ) (g := g) (Q := Q) hS (c := 61) (by decide) T1 C1 (y := 61) (by decide)
  have O2 := fun (d : Nat) (g : am_J) (Q : am_Q) => c84 (d := d) (ρ := ρ) (g := g) (Q := Q) hS (c := 62) (by decide) T1 C1 (y := 62) (by decide)
  have R0 : ∀ (d : Nat) (g : am_J) (Q : am_Q), AW (d + 8) 98 0 [.ref 131, am_jk, am_jk, am_jk] [] σ ρ g τ Q = AW (d + 8) 98 41 [.ref 131, .int (-1), .int (nI (fct b l p)), am_jk] [] s1 ρ g τ Q := fun d g Q => by
    simp only [s98_0, s98_1, s98_4r, s98_5, s98_6, s98_26, s98_27, s98_30, s98_31, s98_32, s98_37, s98_38, k_0 hS, k_1 hS, k_2 hS, l_2 hS, k_3 hS, l_3 hS, k_4 hS, l_4 hS, k_5 hS, l_5 hS, k_6 hS, l_6 hS, k_7 hS, k_8 hS, l_8 hS, k_9 hS, l_9 hS, k_10 hS, k_11 hS, l_11 hS, k_12 hS, k_13 hS, l_13 hS, k_14 hS, k_15 hS, l_15 hS, k_16 hS, k_17 hS, l_17 hS, k_66 hS, k_67 hS, l_67 hS, k_68 hS, l_68 hS, k_69 hS, l_69 hS, k_70 hS, l_70 hS, k_71 hS, l_71 hS, k_72 hS, k_73 hS, l_73 hS, k_74 hS, l_74 hS, k_75 hS, k_76 hS, l_76 hS, k_77 hS, k_78 hS, l_78 hS, k_79 hS, k_80 hS, l_80 hS, k_81 hS, k_82 hS, l_82 hS, k_131 hS, k_132 hS, l_132 hS, k_133 hS, l_133 hS, k_134 hS, l_134 hS, k_135 hS, k_136 hS, l_136 hS, k_137 hS, l_137 hS, k_138 hS, l_138 hS, k_139 hS, l_139 hS, k_140 hS, k_141 hS, l_141 hS, k_142 hS, l_142 hS, k_143 hS, k_144 hS, l_144 hS, k_145 hS, k_146 hS, l_146 hS, k_147 hS, l_147 hS, k_148 hS, l_148 hS, k_153 hS, l_153 hS, k_154 hS, l_154 hS, k_155 hS, l_155 hS, k_156 hS, k_157 hS, l_157 hS, k_158 hS, l_158 hS, k_159 hS, l_159 hS, r_0_0 hS, r_0_1 hS, r_0_3 hS, r_0_4 hS, r_0_5 hS, r_0_6 hS, r_0_7 hS, r_0_8 hS, r_0_9 hS, r_0_10 hS, r_1_2 hS, r_1_3 hS, r_1_4 hS, r_1_5 hS, r_1_7 hS, r_1_9 hS, r_1_10 hS, r_1_12 hS, r_1_13 hS, r_1_14 hS, r_1_15 hS, r_7_1 hS, r_10_2 hS, r_12_2 hS, r_14_2 hS, r_16_2 hS, r_66_2 hS, r_66_3 hS, r_66_4 hS, r_66_5 hS, r_66_7 hS, r_66_9 hS, r_66_10 hS, r_66_12 hS, r_66_13 hS, r_66_14 hS, r_66_15 hS, r_72_1 hS, r_75_2 hS, r_77_2 hS, r_79_2 hS, r_81_2 hS, r_131_0 hS, r_131_6 hS, r_131_8 hS, r_135_0 hS, r_135_1 hS, r_135_2 hS, r_135_3 hS, r_140_0 hS, r_140_1 hS, r_143_2 hS, r_145_0 hS, r_145_1 hS, r_145_2 hS, r_145_3 hS, r_145_4 hS, r_145_5 hS, r_156_5 hS, k_pv hS, k_pvr hS, k_db hS, k_dbr hS, k_sh hS, l_pvr hS, l_dbr hS, l_sh hS, r_5 hS, r_6 hS, r_pv hS, r_db hS, r_148 hS, ol_s, ol_n, ln_0, ln_1, ln_2, ln_3, ln_4, eq_self, rf_s, rf_n, i01_0, i01_n0, i01_b, b01_0, b01_1, and_self, and_true, true_and, and_false, false_and, if_true, if_false, not_true_eq_false, not_false_eq_true, e10, e00, lt_bg, Nat.reduceLT, Nat.reduceLeDiff, S, F, v, v2, lt1, ge2, V1]
  by_cases e : sgn b l q < 3
  rotate_left
  · rw [if_neg e]
    obtain ⟨z1, z2, z3⟩ := sgn_n e
    refine ⟨s1, K1.fail, fun d g Q => ?_⟩
    rw [R0]
    simp only [s98_41, s98_42, s98_44, s98_47, s98_50, s98_51, s98_53, s98_56, s98_59, s98_60, s98_62, s98_65, s98_68, s98_69, k_0 hS, k_1 hS, k_2 hS, l_2 hS, k_3 hS, l_3 hS, k_4 hS, l_4 hS, k_5 hS, l_5 hS, k_6 hS, l_6 hS, k_7 hS, k_8 hS, l_8 hS, k_9 hS, l_9 hS, k_10 hS, k_11 hS, l_11 hS, k_12 hS, k_13 hS, l_13 hS, k_14 hS, k_15 hS, l_15 hS, k_16 hS, k_17 hS, l_17 hS, k_66 hS, k_67 hS, l_67 hS, k_68 hS, l_68 hS, k_69 hS, l_69 hS, k_70 hS, l_70 hS, k_71 hS, l_71 hS, k_72 hS, k_73 hS, l_73 hS, k_74 hS, l_74 hS, k_75 hS, k_76 hS, l_76 hS, k_77 hS, k_78 hS, l_78 hS, k_79 hS, k_80 hS, l_80 hS, k_81 hS, k_82 hS, l_82 hS, k_131 hS, k_132 hS, l_132 hS, k_133 hS, l_133 hS, k_134 hS, l_134 hS, k_135 hS, k_136 hS, l_136 hS, k_137 hS, l_137 hS, k_138 hS, l_138 hS, k_139 hS, l_139 hS, k_140 hS, k_141 hS, l_141 hS, k_142 hS, l_142 hS, k_143 hS, k_144 hS, l_144 hS, k_145 hS, k_146 hS, l_146 hS, k_147 hS, l_147 hS, k_148 hS, l_148 hS, k_153 hS, l_153 hS, k_154 hS, l_154 hS, k_155 hS, l_155 hS, k_156 hS, k_157 hS, l_157 hS, k_158 hS, l_158 hS, k_159 hS, l_159 hS, r_0_0 hS, r_0_1 hS, r_0_3 hS, r_0_4 hS, r_0_5 hS, r_0_6 hS, r_0_7 hS, r_0_8 hS, r_0_9 hS, r_0_10 hS, r_1_2 hS, r_1_3 hS, r_1_4 hS, r_1_5 hS, r_1_7 hS, r_1_9 hS, r_1_10 hS, r_1_12 hS, r_1_13 hS, r_1_14 hS, r_1_15 hS, r_7_1 hS, r_10_2 hS, r_12_2 hS, r_14_2 hS, r_16_2 hS, r_66_2 hS, r_66_3 hS, r_66_4 hS, r_66_5 hS, r_66_7 hS, r_66_9 hS, r_66_10 hS, r_66_12 hS, r_66_13 hS, r_66_14 hS, r_66_15 hS, r_72_1 hS, r_75_2 hS, r_77_2 hS, r_79_2 hS, r_81_2 hS, r_131_0 hS, r_131_6 hS, r_131_8 hS, r_135_0 hS, r_135_1 hS, r_135_2 hS, r_135_3 hS, r_140_0 hS, r_140_1 hS, r_143_2 hS, r_145_0 hS, r_145_1 hS, r_145_2 hS, r_145_3 hS, r_145_4 hS, r_145_5 hS, r_156_5 hS, k_pv hS, k_pvr hS, k_db hS, k_dbr hS, k_sh hS, l_pvr hS, l_dbr hS, l_sh hS, r_5 hS, r_6 hS, r_pv hS, r_db hS, r_148 hS, ol_s, ol_n, ln_0, ln_1, ln_2, ln_3, ln_4, eq_self, rf_s, rf_n, i01_0, i01_n0, i01_b, b01_0, b01_1, and_self, and_true, true_and, and_false, false_and, if_true, if_false, not_true_eq_false, not_false_eq_true, e10, e00, lt_bg, Nat.reduceLT, Nat.reduceLeDiff, O0, O1, O2, z1, z2, z3, wf]
  rw [if_pos e]
  obtain ⟨sv, so⟩ := sgn_v e
  have R1 : ∀ (d : Nat) (g : am_J) (Q : am_Q), AW (d + 8) 98 41 [.ref 131, .int (-1), .int (nI (fct b l p)), am_jk] [] s1 ρ g τ Q = AW (d + 8) 98 70 [.ref 131, .int (-1), .int (nI (fct b l p)), am_jk] [] s1 ρ g τ Q := fun d g Q => by
    rcases so with z | ⟨z, z2 | ⟨z2, z3⟩⟩
    · simp only [s98_41, s98_42, s98_44, s98_47, s98_50, s98_51, s98_53, s98_56, s98_59, s98_60, s98_62, s98_65, s98_68, k_0 hS, k_1 hS, k_2 hS, l_2 hS, k_3 hS, l_3 hS, k_4 hS, l_4 hS, k_5 hS, l_5 hS, k_6 hS, l_6 hS, k_7 hS, k_8 hS, l_8 hS, k_9 hS, l_9 hS, k_10 hS, k_11 hS, l_11 hS, k_12 hS, k_13 hS, l_13 hS, k_14 hS, k_15 hS, l_15 hS, k_16 hS, k_17 hS, l_17 hS, k_66 hS, k_67 hS, l_67 hS, k_68 hS, l_68 hS, k_69 hS, l_69 hS, k_70 hS, l_70 hS, k_71 hS, l_71 hS, k_72 hS, k_73 hS, l_73 hS, k_74 hS, l_74 hS, k_75 hS, k_76 hS, l_76 hS, k_77 hS, k_78 hS, l_78 hS, k_79 hS, k_80 hS, l_80 hS, k_81 hS, k_82 hS, l_82 hS, k_131 hS, k_132 hS, l_132 hS, k_133 hS, l_133 hS, k_134 hS, l_134 hS, k_135 hS, k_136 hS, l_136 hS, k_137 hS, l_137 hS, k_138 hS, l_138 hS, k_139 hS, l_139 hS, k_140 hS, k_141 hS, l_141 hS, k_142 hS, l_142 hS, k_143 hS, k_144 hS, l_144 hS, k_145 hS, k_146 hS, l_146 hS, k_147 hS, l_147 hS, k_148 hS, l_148 hS, k_153 hS, l_153 hS, k_154 hS, l_154 hS, k_155 hS, l_155 hS, k_156 hS, k_157 hS, l_157 hS, k_158 hS, l_158 hS, k_159 hS, l_159 hS, r_0_0 hS, r_0_1 hS, r_0_3 hS, r_0_4 hS, r_0_5 hS, r_0_6 hS, r_0_7 hS, r_0_8 hS, r_0_9 hS, r_0_10 hS, r_1_2 hS, r_1_3 hS, r_1_4 hS, r_1_5 hS, r_1_7 hS, r_1_9 hS, r_1_10 hS, r_1_12 hS, r_1_13 hS, r_1_14 hS, r_1_15 hS, r_7_1 hS, r_10_2 hS, r_12_2 hS, r_14_2 hS, r_16_2 hS, r_66_2 hS, r_66_3 hS, r_66_4 hS, r_66_5 hS, r_66_7 hS, r_66_9 hS, r_66_10 hS, r_66_12 hS, r_66_13 hS, r_66_14 hS, r_66_15 hS, r_72_1 hS, r_75_2 hS, r_77_2 hS, r_79_2 hS, r_81_2 hS, r_131_0 hS, r_131_6 hS, r_131_8 hS, r_135_0 hS, r_135_1 hS, r_135_2 hS, r_135_3 hS, r_140_0 hS, r_140_1 hS, r_143_2 hS, r_145_0 hS, r_145_1 hS, r_145_2 hS, r_145_3 hS, r_145_4 hS, r_145_5 hS, r_156_5 hS, k_pv hS, k_pvr hS, k_db hS, k_dbr hS, k_sh hS, l_pvr hS, l_dbr hS, l_sh hS, r_5 hS, r_6 hS, r_pv hS, r_db hS, r_148 hS, ol_s, ol_n, ln_0, ln_1, ln_2, ln_3, ln_4, eq_self, rf_s, rf_n, i01_0, i01_n0, i01_b, b01_0, b01_1, and_self, and_true, true_and, and_false, false_and, if_true, if_false, not_true_eq_false, not_false_eq_true, e10, e00, lt_bg, Nat.reduceLT, Nat.reduceLeDiff, O0, z]
    · simp only [s98_41, s98_42, s98_44, s98_47, s98_50, s98_51, s98_53, s98_56, s98_59, s98_60, s98_62, s98_65, s98_68, k_0 hS, k_1 hS, k_2 hS, l_2 hS, k_3 hS, l_3 hS, k_4 hS, l_4 hS, k_5 hS, l_5 hS, k_6 hS, l_6 hS, k_7 hS, k_8 hS, l_8 hS, k_9 hS, l_9 hS, k_10 hS, k_11 hS, l_11 hS, k_12 hS, k_13 hS, l_13 hS, k_14 hS, k_15 hS, l_15 hS, k_16 hS, k_17 hS, l_17 hS, k_66 hS, k_67 hS, l_67 hS, k_68 hS, l_68 hS, k_69 hS, l_69 hS, k_70 hS, l_70 hS, k_71 hS, l_71 hS, k_72 hS, k_73 hS, l_73 hS, k_74 hS, l_74 hS, k_75 hS, k_76 hS, l_76 hS, k_77 hS, k_78 hS, l_78 hS, k_79 hS, k_80 hS, l_80 hS, k_81 hS, k_82 hS, l_82 hS, k_131 hS, k_132 hS, l_132 hS, k_133 hS, l_133 hS, k_134 hS, l_134 hS, k_135 hS, k_136 hS, l_136 hS, k_137 hS, l_137 hS, k_138 hS, l_138 hS, k_139 hS, l_139 hS, k_140 hS, k_141 hS, l_141 hS, k_142 hS, l_142 hS, k_143 hS, k_144 hS, l_144 hS, k_145 hS, k_146 hS, l_146 hS, k_147 hS, l_147 hS, k_148 hS, l_148 hS, k_153 hS, l_153 hS, k_154 hS, l_154 hS, k_155 hS, l_155 hS, k_156 hS, k_157 hS, l_157 hS, k_158 hS, l_158 hS, k_159 hS, l_159 hS, r_0_0 hS, r_0_1 hS, r_0_3 hS, r_0_4 hS, r_0_5 hS, r_0_6 hS, r_0_7 hS, r_0_8 hS, r_0_9 hS, r_0_10 hS, r_1_2 hS, r_1_3 hS, r_1_4 hS, r_1_5 hS, r_1_7 hS, r_1_9 hS, r_1_10 hS, r_1_12 hS, r_1_13 hS, r_1_14 hS, r_1_15 hS, r_7_1 hS, r_10_2 hS, r_12_2 hS, r_14_2 hS, r_16_2 hS, r_66_2 hS, r_66_3 hS, r_66_4 hS, r_66_5 hS, r_66_7 hS, r_66_9 hS, r_66_10 hS, r_66_12 hS, r_66_13 hS, r_66_14 hS, r_66_15 hS, r_72_1 hS, r_75_2 hS, r_77_2 hS, r_79_2 hS, r_81_2 hS, r_131_0 hS, r_131_6 hS, r_131_8 hS, r_135_0 hS, r_135_1 hS, r_135_2 hS, r_135_3 hS, r_140_0 hS, r_140_1 hS, r_143_2 hS, r_145_0 hS, r_145_1 hS, r_145_2 hS, r_145_3 hS, r_145_4 hS, r_145_5 hS, r_156_5 hS, k_pv hS, k_pvr hS, k_db hS, k_dbr hS, k_sh hS, l_pvr hS, l_dbr hS, l_sh hS, r_5 hS, r_6 hS, r_pv hS, r_db hS, r_148 hS, ol_s, ol_n, ln_0, ln_1, ln_2, ln_3, ln_4, eq_self, rf_s, rf_n, i01_0, i01_n0, i01_b, b01_0, b01_1, and_self, and_true, true_and, and_false, false_and, if_true, if_false, not_true_eq_false, not_false_eq_true, e10, e00, lt_bg, Nat.reduceLT, Nat.reduceLeDiff, O0, O1, z, z2]
    · simp only [s98_41, s98_42, s98_44, s98_47, s98_50, s98_51, s98_53, s98_56, s98_59, s98_60, s98_62, s98_65, s98_68, k_0 hS, k_1 hS, k_2 hS, l_2 hS, k_3 hS, l_3 hS, k_4 hS, l_4 hS, k_5 hS, l_5 hS, k_6 hS, l_6 hS, k_7 hS, k_8 hS, l_8 hS, k_9 hS, l_9 hS, k_10 hS, k_11 hS, l_11 hS, k_12 hS, k_13 hS, l_13 hS, k_14 hS, k_15 hS, l_15 hS, k_16 hS, k_17 hS, l_17 hS, k_66 hS, k_67 hS, l_67 hS, k_68 hS, l_68 hS, k_69 hS, l_69 hS, k_70 hS, l_70 hS, k_71 hS, l_71 hS, k_72 hS, k_73 hS, l_73 hS, k_74 hS, l_74 hS, k_75 hS, k_76 hS, l_76 hS, k_77 hS, k_78 hS, l_78 hS, k_79 hS, k_80 hS, l_80 hS, k_81 hS, k_82 hS, l_82 hS, k_131 hS, k_132 hS, l_132 hS, k_133 hS, l_133 hS, k_134 hS, l_134 hS, k_135 hS, k_136 hS, l_136 hS, k_137 hS, l_137 hS, k_138 hS, l_138 hS, k_139 hS, l_139 hS, k_140 hS, k_141 hS, l_141 hS, k_142 hS, l_142 hS, k_143 hS, k_144 hS, l_144 hS, k_145 hS, k_146 hS, l_146 hS, k_147 hS, l_147 hS, k_148 hS, l_148 hS, k_153 hS, l_153 hS, k_154 hS, l_154 hS, k_155 hS, l_155 hS, k_156 hS, k_157 hS, l_157 hS, k_158 hS, l_158 hS, k_159 hS, l_159 hS, r_0_0 hS, r_0_1 hS, r_0_3 hS, r_0_4 hS, r_0_5 hS, r_0_6 hS, r_0_7 hS, r_0_8 hS, r_0_9 hS, r_0_10 hS, r_1_2 hS, r_1_3 hS, r_1_4 hS, r_1_5 hS, r_1_7 hS, r_1_9 hS, r_1_10 hS, r_1_12 hS, r_1_13 hS, r_1_14 hS, r_1_15 hS, r_7_1 hS, r_10_2 hS, r_12_2 hS, r_14_2 hS, r_16_2 hS, r_66_2 hS, r_66_3 hS, r_66_4 hS, r_66_5 hS, r_66_7 hS, r_66_9 hS, r_66_10 hS, r_66_12 hS, r_66_13 hS, r_66_14 hS, r_66_15 hS, r_72_1 hS, r_75_2 hS, r_77_2 hS, r_79_2 hS, r_81_2 hS, r_131_0 hS, r_131_6 hS, r_131_8 hS, r_135_0 hS, r_135_1 hS, r_135_2 hS, r_135_3 hS, r_140_0 hS, r_140_1 hS, r_143_2 hS, r_145_0 hS, r_145_1 hS, r_145_2 hS, r_145_3 hS, r_145_4 hS, r_145_5 hS, r_156_5 hS, k_pv hS, k_pvr hS, k_db hS, k_dbr hS, k_sh hS, l_pvr hS, l_dbr hS, l_sh hS, r_5 hS, r_6 hS, r_pv hS, r_db hS, r_148 hS, ol_s, ol_n, ln_0, ln_1, ln_2, ln_3, ln_4, eq_self, rf_s, rf_n, i01_0, i01_n0, i01_b, b01_0, b01_1, and_self, and_true, true_and, and_false, false_and, if_true, if_false, not_true_eq_false, not_false_eq_true, e10, e00, lt_bg, Nat.reduceLT, Nat.reduceLeDiff, O0, O1, O2, z, z2, z3]
  have h5 : s1 131 5 = nI (60 + sgn b l q) := C1.2.2.2.trans sv
  obtain ⟨t4, t5, _⟩ := te_b (b := b) n2
  obtain ⟨m1, m2, m3⟩ := nx_b (b := b) n2
  have V2 := fun (d : Nat) (g : am_J) (Q : am_Q) => c80 (d := d) (ρ := ρ) (g := g) (Q := Q) hS T1 t5 C1.2.1
  have en2 : sk b l (te b l q) = nx b l q := rfl
  rw [en2] at V2
  have K2 := K1.av (q := nx b l q)
  generalize adv b l s1 (nx b l q) = s2 at V2 K2
  generalize eq2 : nx b l q = q2 at m1 m2 m3 K2
  have T2 := K2.tc hT
  have C2 : CT b l q2 s2 := K2.2.2.1
  have U := fun (d : Nat) (g : am_J) (Q : am_Q) => c85 (d := d) (ρ := ρ) (g := g) (Q := Q) hS (m := 999) (by decide) C2 (y := 999) (by decide)
  by_cases f : nu b l q2 999 = true
  rotate_left
  · rw [if_neg f]
    have w : bI (nu b l q2 999) = 0 := if_neg f
    refine ⟨s2, K2.fail, fun d g Q => ?_⟩
    rw [R0, R1]
    simp only [s98_70, s98_71, s98_74, s98_75, s98_76, s98_79, s98_80, s98_83, s98_86, s98_89, s98_90, k_0 hS, k_1 hS, k_2 hS, l_2 hS, k_3 hS, l_3 hS, k_4 hS, l_4 hS, k_5 hS, l_5 hS, k_6 hS, l_6 hS, k_7 hS, k_8 hS, l_8 hS, k_9 hS, l_9 hS, k_10 hS, k_11 hS, l_11 hS, k_12 hS, k_13 hS, l_13 hS, k_14 hS, k_15 hS, l_15 hS, k_16 hS, k_17 hS, l_17 hS, k_66 hS, k_67 hS, l_67 hS, k_68 hS, l_68 hS, k_69 hS, l_69 hS, k_70 hS, l_70 hS, k_71 hS, l_71 hS, k_72 hS, k_73 hS, l_73 hS, k_74 hS, l_74 hS, k_75 hS, k_76 hS, l_76 hS, k_77 hS, k_78 hS, l_78 hS, k_79 hS, k_80 hS, l_80 hS, k_81 hS, k_82 hS, l_82 hS, k_131 hS, k_132 hS, l_132 hS, k_133 hS, l_133 hS, k_134 hS, l_134 hS, k_135 hS, k_136 hS, l_136 hS, k_137 hS, l_137 hS, k_138 hS, l_138 hS, k_139 hS, l_139 hS, k_140 hS, k_141 hS, l_141 hS, k_142 hS, l_142 hS, k_143 hS, k_144 hS, l_144 hS, k_145 hS, k_146 hS, l_146 hS, k_147 hS, l_147 hS, k_148 hS, l_148 hS, k_153 hS, l_153 hS, k_154 hS, l_154 hS, k_155 hS, l_155 hS, k_156 hS, k_157 hS, l_157 hS, k_158 hS, l_158 hS, k_159 hS, l_159 hS, r_0_0 hS, r_0_1 hS, r_0_3 hS, r_0_4 hS, r_0_5 hS, r_0_6 hS, r_0_7 hS, r_0_8 hS, r_0_9 hS, r_0_10 hS, r_1_2 hS, r_1_3 hS, r_1_4 hS, r_1_5 hS, r_1_7 hS, r_1_9 hS, r_1_10 hS, r_1_12 hS, r_1_13 hS, r_1_14 hS, r_1_15 hS, r_7_1 hS, r_10_2 hS, r_12_2 hS, r_14_2 hS, r_16_2 hS, r_66_2 hS, r_66_3 hS, r_66_4 hS, r_66_5 hS, r_66_7 hS, r_66_9 hS, r_66_10 hS, r_66_12 hS, r_66_13 hS, r_66_14 hS, r_66_15 hS, r_72_1 hS, r_75_2 hS, r_77_2 hS, r_79_2 hS, r_81_2 hS, r_131_0 hS, r_131_6 hS, r_131_8 hS, r_135_0 hS, r_135_1 hS, r_135_2 hS, r_135_3 hS, r_140_0 hS, r_140_1 hS, r_143_2 hS, r_145_0 hS, r_145_1 hS, r_145_2 hS, r_145_3 hS, r_145_4 hS, r_145_5 hS, r_156_5 hS, k_pv hS, k_pvr hS, k_db hS, k_dbr hS, k_sh hS, l_pvr hS, l_dbr hS, l_sh hS, r_5 hS, r_6 hS, r_pv hS, r_db hS, r_148 hS, ol_s, ol_n, ln_0, ln_1, ln_2, ln_3, ln_4, eq_self, rf_s, rf_n, i01_0, i01_n0, i01_b, b01_0, b01_1, and_self, and_true, true_and, and_false, false_and, if_true, if_false, not_true_eq_false, not_false_eq_true, e10, e00, lt_bg, Nat.reduceLT, Nat.reduceLeDiff, h5, V2, U, w, wf]
  rw [if_pos f]
  have w := bI_t f
  have ff := of_decide_eq_true f
  have v5 : s2 131 5 = nI (vl b l q2) := by
    rw [C2.2.2.2]
    unfold tvl
    rw [if_pos ff.1, if_pos ff.2.1]
    rfl
  have kn : q2 < nx b l q2 := (nx_b (b := b) m2).2.2 (by omega)
  have P := fun (d : Nat) (g : am_J) (Q : am_Q) => c51c (d := d) (σ := s2) (ρ := ρ) (g := g) (τ := τ) (Q := Q) (f := fct b l p) (s := sgn b l q) (n := vl b l q2) c e ff.2.2
  have h72 : s2 131 7 = nI n := (K2.2.2.2 rfl).1
  have A := fun (d : Nat) (g : am_J) (Q : am_Q) => c93 (d := d) (ρ := ρ) (g := g) (Q := Q) hS (n := n) (by omega) h72 (v := nI (tk_C (0, fct b l p, sgn b l q, vl b l q2)))
  have K3 := K2.push (t := (0, fct b l p, sgn b l q, vl b l q2)) rfl
  have K3 : CR b l σ (am_u (am_u s2 133 n (nI (tk_C (0, fct b l p, sgn b l q, vl b l q2)))) 131 7 (nI (n + 1))) n (true, q2, [(0, fct b l p, sgn b l q, vl b l q2)]) := K3
  generalize am_u (am_u s2 133 n (nI (tk_C (0, fct b l p, sgn b l q, vl b l q2)))) 131 7 (nI (n + 1)) = s3 at A K3
  have V3 := fun (d : Nat) (g : am_J) (Q : am_Q) => c80 (d := d) (ρ := ρ) (g := g) (Q := Q) hS (K3.tc hT) (te_b (b := b) m2).2.1 K3.2.2.1.2.1
  refine ⟨adv b l s3 (nx b l q2), K3.av, fun d g Q => ?_⟩
  rw [R0, R1]
  simp only [s98_0, s98_1, s98_4r, s98_5, s98_6, s98_9, s98_10, s98_11, s98_12, s98_13, s98_14, s98_17, s98_20, s98_21, s98_24, s98_25, s98_26, s98_27, s98_30, s98_31, s98_32, s98_35, s98_36, s98_37, s98_38, s98_41, s98_42, s98_44, s98_47, s98_50, s98_51, s98_53, s98_56, s98_59, s98_60, s98_62, s98_65, s98_68, s98_69, s98_70, s98_71, s98_74, s98_75, s98_76, s98_79, s98_80, s98_83, s98_86, s98_89, s98_90, s98_91, s98_92, s98_93, s98_94, s98_95, s98_96, s98_99, s98_102, s98_105, s98_106, s98_109, s98_110, k_0 hS, k_1 hS, k_2 hS, l_2 hS, k_3 hS, l_3 hS, k_4 hS, l_4 hS, k_5 hS, l_5 hS, k_6 hS, l_6 hS, k_7 hS, k_8 hS, l_8 hS, k_9 hS, l_9 hS, k_10 hS, k_11 hS, l_11 hS, k_12 hS, k_13 hS, l_13 hS, k_14 hS, k_15 hS, l_15 hS, k_16 hS, k_17 hS, l_17 hS, k_66 hS, k_67 hS, l_67 hS, k_68 hS, l_68 hS, k_69 hS, l_69 hS, k_70 hS, l_70 hS, k_71 hS, l_71 hS, k_72 hS, k_73 hS, l_73 hS, k_74 hS, l_74 hS, k_75 hS, k_76 hS, l_76 hS, k_77 hS, k_78 hS, l_78 hS, k_79 hS, k_80 hS, l_80 hS, k_81 hS, k_82 hS, l_82 hS, k_131 hS, k_132 hS, l_132 hS, k_133 hS, l_133 hS, k_134 hS, l_134 hS, k_135 hS, k_136 hS, l_136 hS, k_137 hS, l_137 hS, k_138 hS, l_138 hS, k_139 hS, l_139 hS, k_140 hS, k_141 hS, l_141 hS, k_142 hS, l_142 hS, k_143 hS, k_144 hS, l_144 hS, k_145 hS, k_146 hS, l_146 hS, k_147 hS, l_147 hS, k_148 hS, l_148 hS, k_153 hS, l_153 hS, k_154 hS, l_154 hS, k_155 hS, l_155 hS, k_156 hS, k_157 hS, l_157 hS, k_158 hS, l_158 hS, k_159 hS, l_159 hS, r_0_0 hS, r_0_1 hS, r_0_3 hS, r_0_4 hS, r_0_5 hS, r_0_6 hS, r_0_7 hS, r_0_8 hS, r_0_9 hS, r_0_10 hS, r_1_2 hS, r_1_3 hS, r_1_4 hS, r_1_5 hS, r_1_7 hS, r_1_9 hS, r_1_10 hS, r_1_12 hS, r_1_13 hS, r_1_14 hS, r_1_15 hS, r_7_1 hS, r_10_2 hS, r_12_2 hS, r_14_2 hS, r_16_2 hS, r_66_2 hS, r_66_3 hS, r_66_4 hS, r_66_5 hS, r_66_7 hS, r_66_9 hS, r_66_10 hS, r_66_12 hS, r_66_13 hS, r_66_14 hS, r_66_15 hS, r_72_1 hS, r_75_2 hS, r_77_2 hS, r_79_2 hS, r_81_2 hS, r_131_0 hS, r_131_6 hS, r_131_8 hS, r_135_0 hS, r_135_1 hS, r_135_2 hS, r_135_3 hS, r_140_0 hS, r_140_1 hS, r_143_2 hS, r_145_0 hS, r_145_1 hS, r_145_2 hS, r_145_3 hS, r_145_4 hS, r_145_5 hS, r_156_5 hS, k_pv hS, k_pvr hS, k_db hS, k_dbr hS, k_sh hS, l_pvr hS, l_dbr hS, l_sh hS, r_5 hS, r_6 hS, r_pv hS, r_db hS, r_148 hS, ol_s, ol_n, ln_0, ln_1, ln_2, ln_3, ln_4, eq_self, rf_s, rf_n, i01_0, i01_n0, i01_b, b01_0, b01_1, and_self, and_true, true_and, and_false, false_and, if_true, if_false, not_true_eq_false, not_false_eq_true, e10, e00, lt_bg, Nat.reduceLT, Nat.reduceLeDiff, h5, V2, U, w, v5, P, A, V3, wt]
  rfl
end OCY
