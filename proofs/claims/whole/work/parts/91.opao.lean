/-! choose: the rows -/
section OAO
variable {d : Nat} {σ : am_I} {ρ : am_R} {g : am_J} {τ : am_T} {Q : am_Q}
/-- the choices of a set, below one -/
def f_ls (b : Int32) : Nat → List Nat
  | 0 => []
  | i + 1 => if f_bt b i then f_ls b i ++ [i] else f_ls b i
theorem ls_len (b : Int32) : ∀ i, (f_ls b i).length ≤ i
  | 0 => Nat.le_refl _
  | i + 1 => by
    have := ls_len b i
    unfold f_ls
    split
    · rw [List.length_append]
      show _ + 1 ≤ _
      omega
    · omega
/-- the rows that were told so far -/
def RI (L : Nat → Int32) (l : List Nat) (k : Nat) (u v : Nat → Int32) : Prop := k = l.length ∧ ∀ j, j < k → u j = nI (l.getD j 0) ∧ v j = L (l.getD j 0 + 1)
theorem RI.add {L : Nat → Int32} {l : List Nat} {k : Nat} {u v u' v' : Nat → Int32} (h : RI L l k u v) (i : Nat) (h1 : ∀ j, j < k → u' j = u j ∧ v' j = v j) (h2 : u' k = nI i) (h3 : v' k = L (i + 1)) : RI L (l ++ [i]) (k + 1) u' v' := by
  obtain ⟨e, q⟩ := h
  refine ⟨by rw [List.length_append, ← e]; rfl, fun j hj => ?_⟩
  by_cases c : j = k
  · subst c
    have g1 : (l ++ [i]).getD j 0 = i := by
      rw [e]
      simp
    rw [g1]
    exact ⟨h2, h3⟩
  · have hj2 : j < k := by omega
    have g1 : (l ++ [i]).getD j 0 = l.getD j 0 := by
      have : j < l.length := by omega
      simp [List.getD, List.getElem?_append_left this]
    rw [g1, (h1 j hj2).1, (h1 j hj2).2]
    exact q j hj2
def f_stC (σ : am_I) (k : Nat) (w r : Nat → Int32) : am_I := am_ur (am_ur (am_u σ 143 3 (nI k)) 144 w) 159 r
theorem bw_y {σ : am_I} {i y : Nat} (hy : y < 3) (r : Nat → Int32) : f_bw σ i r y = r y + σ 17 (4 * i + y) := by
  have h3 : y = 0 ∨ y = 1 ∨ y = 2 := by omega
  rcases h3 with rfl | rfl | rfl <;> rfl
theorem c148L (hS : Sh ρ τ) {C : Nat} (hc : σ 16 3 = nI C) (hw : σ 16 1 = nI 4) (hC : C ≤ 8) (hch : Cho 1 161 C σ) (h0 : σ 143 0 = nI 8) (h1 : σ 143 1 = nI 2) {b : Int32} : ∀ (n i k : Nat) (w r : Nat → Int32) (x3 : Value), i + n = C →
    (∀ y, y < 3 → r y = am_fold (f_sM σ b y) i 0 0) → RI (f_ly σ b) (f_ls b i) k (fun j => w (2 * j)) (fun j => w (2 * j + 1)) →
    (∀ (k : Nat) (w r : Nat → Int32), RI (f_ly σ b) (f_ls b C) k (fun j => w (2 * j)) (fun j => w (2 * j + 1)) → Q none (f_stC σ k w r) ρ g τ) →
    AW (d + 4) 148 18 [.ref 0, .int b, .int (nI i), x3] [] (f_stC σ k w r) ρ g τ Q
  | 0, i, k, w, r, x3, h, hr, hR, kk => by
    have e : i = C := by omega
    subst e
    have a1 : f_stC σ k w r 16 3 = nI i := by unfold f_stC; rw [ur_ne _ _ _ (by decide), ur_ne _ _ _ (by decide), u_ne _ _ _ _ (by decide)]; exact hc
    have hle : nI i ≤ nI i := Int32.le_refl _
    simp only [s148_18, s148_19, s148_20, s148_23, s148_26, s148_29, s148_79, k_0 hS, k_1 hS, k_2 hS, l_2 hS, k_3 hS, l_3 hS, k_4 hS, l_4 hS, k_5 hS, l_5 hS, k_6 hS, l_6 hS, k_7 hS, k_8 hS, l_8 hS, k_9 hS, l_9 hS, k_10 hS, k_11 hS, l_11 hS, k_12 hS, k_13 hS, l_13 hS, k_14 hS, k_15 hS, l_15 hS, k_16 hS, k_17 hS, l_17 hS, k_66 hS, k_67 hS, l_67 hS, k_68 hS, l_68 hS, k_69 hS, l_69 hS, k_70 hS, l_70 hS, k_71 hS, l_71 hS, k_72 hS, k_73 hS, l_73 hS, k_74 hS, l_74 hS, k_75 hS, k_76 hS, l_76 hS, k_77 hS, k_78 hS, l_78 hS, k_79 hS, k_80 hS, l_80 hS, k_81 hS, k_82 hS, l_82 hS, k_131 hS, k_132 hS, l_132 hS, k_133 hS, l_133 hS, k_134 hS, l_134 hS, k_135 hS, k_136 hS, l_136 hS, k_137 hS, l_137 hS, k_138 hS, l_138 hS, k_139 hS, l_139 hS, k_140 hS, k_141 hS, l_141 hS, k_142 hS, l_142 hS, k_143 hS, k_144 hS, l_144 hS, k_145 hS, k_146 hS, l_146 hS, k_147 hS, l_147 hS, k_148 hS, l_148 hS, k_153 hS, l_153 hS, k_154 hS, l_154 hS, k_155 hS, l_155 hS, k_156 hS, k_157 hS, l_157 hS, k_158 hS, l_158 hS, k_159 hS, l_159 hS, r_0_0 hS, r_0_1 hS, r_0_3 hS, r_0_4 hS, r_0_5 hS, r_0_6 hS, r_0_7 hS, r_0_8 hS, r_0_9 hS, r_0_10 hS, r_1_2 hS, r_1_3 hS, r_1_4 hS, r_1_5 hS, r_1_7 hS, r_1_9 hS, r_1_10 hS, r_1_12 hS, r_1_13 hS, r_1_14 hS, r_1_15 hS, r_7_1 hS, r_10_2 hS, r_12_2 hS, r_14_2 hS, r_16_2 hS, r_66_2 hS, r_66_3 hS, r_66_4 hS, r_66_5 hS, r_66_7 hS, r_66_9 hS, r_66_10 hS, r_66_12 hS, r_66_13 hS, r_66_14 hS, r_66_15 hS, r_72_1 hS, r_75_2 hS, r_77_2 hS, r_79_2 hS, r_81_2 hS, r_131_0 hS, r_131_6 hS, r_131_8 hS, r_135_0 hS, r_135_1 hS, r_135_2 hS, r_135_3 hS, r_140_0 hS, r_140_1 hS, r_143_2 hS, r_145_0 hS, r_145_1 hS, r_145_2 hS, r_145_3 hS, r_145_4 hS, r_145_5 hS, r_156_5 hS, k_pv hS, k_pvr hS, k_db hS, k_dbr hS, k_sh hS, l_pvr hS, l_dbr hS, l_sh hS, r_5 hS, r_6 hS, r_pv hS, r_db hS, r_148 hS, ol_s, ol_n, ln_0, ln_1, ln_2, ln_3, ln_4, eq_self, rf_s, rf_n, i01_0, i01_n0, i01_b, b01_0, b01_1, and_self, and_true, true_and, and_false, false_and, if_true, if_false, not_true_eq_false, not_false_eq_true, e10, e00, lt_bg, Nat.reduceLT, Nat.reduceLeDiff, a1, hle]
    exact kk k w r hR
  | n + 1, i, k, w, r, x3, h, hr, hR, kk => by
    have a0 : ∀ k w r y, y ≠ 143 → y ≠ 144 → y ≠ 159 → f_stC σ k w r y = σ y := fun k w r y q1 q2 q3 => by unfold f_stC; rw [ur_ne _ _ _ q3, ur_ne _ _ _ q2, u_ne _ _ _ _ q1]
    have a1 : ∀ k w r, f_stC σ k w r 16 3 = nI C := fun k w r => by rw [a0 _ _ _ _ (by decide) (by decide) (by decide)]; exact hc
    have hlt : ¬ nI C ≤ nI i := nI_ge (by omega) (by omega)
    have hkl := ls_len b i
    have hk8 : k < 8 := by
      have := hR.1
      omega
    rw [s148_18]
    by_cases q : f_bt b i
    · have b1 : ∀ k w r, f_stC σ k w r 143 3 = nI k := fun k w r => by unfold f_stC; rw [ur_ne _ _ _ (by decide), ur_ne _ _ _ (by decide), u_at]
      have b2 : ∀ k w r, f_stC σ k w r 143 0 = nI 8 := fun k w r => by unfold f_stC; rw [ur_ne _ _ _ (by decide), ur_ne _ _ _ (by decide), u_nk _ _ _ _ (by decide)]; exact h0
      have b3 : ∀ k w r, f_stC σ k w r 143 1 = nI 2 := fun k w r => by unfold f_stC; rw [ur_ne _ _ _ (by decide), ur_ne _ _ _ (by decide), u_nk _ _ _ _ (by decide)]; exact h1
      have u1 : ∀ k w r k', am_u (f_stC σ k w r) 143 3 (nI k') = f_stC σ k' w r := fun k w r k' => by
        funext y j
        unfold f_stC am_u am_ur
        by_cases y1 : y = 143
        · subst y1; by_cases j1 : j = 3 <;> simp [j1]
        · by_cases y2 : y = 159
          · simp [y2]
          · by_cases y3 : y = 144
            · simp [y3]
            · simp [y1, y2, y3]
      have u2 : ∀ k w r j v, am_u (f_stC σ k w r) 144 j v = f_stC σ k (fun x => if x = j then v else w x) r := fun k w r j v => by
        funext y x
        unfold f_stC am_u am_ur
        by_cases y1 : y = 144
        · subst y1; by_cases j1 : x = j <;> simp [j1]
        · by_cases y2 : y = 159
          · simp [y2]
          · simp [y1, y2]
      have B := fun (Q : am_Q) => c45 (d := d + 3) (ρ := ρ) (g := g) (τ := τ) (Q := Q) (k_143 hS) (b1 k w r) (b2 k w r) hk8 (by decide)
      rw [u1] at B
      have x0 : (0 : Int32) = nI 0 := by decide
      have x1 : (1 : Int32) = nI 1 := by decide
      have W0 := fun (v : Int32) (Q : am_Q) => c47v (d := d + 1) (σ := f_stC σ (k + 1) w r) (g := g) (Q := Q) (mo := 8) (v := v) (x := nI k) rfl x0 (k_143 hS) (k_144 hS) (by decide) (r_143_2 hS) (b1 _ _ _) (b3 _ _ _) (l_144 hS) (Nat.lt_succ_self k) (by decide) (by omega) (by decide) (by decide)
      simp only [u2] at W0
      have M := fun (w : Nat → Int32) (Q : am_Q) => c146 (d := d) (σ := am_ur (am_u σ 143 3 (nI (k + 1))) 144 w) (g := g) (Q := Q) (r := r) hS (C := C) (i := i) (by rw [ur_ne _ _ _ (by decide), u_ne _ _ _ _ (by decide)]; exact hc) (by rw [ur_ne _ _ _ (by decide), u_ne _ _ _ _ (by decide)]; exact hw) (by omega) hC
      have Mr : ∀ w, f_bw (am_ur (am_u σ 143 3 (nI (k + 1))) 144 w) i r = f_bw σ i r := fun w => by
        unfold f_bw
        rw [ur_ne _ _ _ (by decide), u_ne _ _ _ _ (by decide)]
      simp only [Mr] at M
      have M : ∀ (w : Nat → Int32) (Q : am_Q), AW (d + 3) 146 0 [.ref 0, .int (nI i), am_jk] [] (f_stC σ (k + 1) w r) ρ g τ Q = Q (some (.int (f_m3 (f_bw σ i r)))) (f_stC σ (k + 1) w (f_bw σ i r)) ρ g τ := M
      have W1 := fun (w : Nat → Int32) (v : Int32) (Q : am_Q) => c47v (d := d + 1) (σ := f_stC σ (k + 1) w (f_bw σ i r)) (g := g) (Q := Q) (mo := 8) (v := v) (x := nI k) rfl x1 (k_143 hS) (k_144 hS) (by decide) (r_143_2 hS) (b1 _ _ _) (b3 _ _ _) (l_144 hS) (Nat.lt_succ_self k) (by decide) (by omega) (by decide) (by decide)
      simp only [u2] at W1
      have sums : ∀ y, y < 3 → f_bw σ i r y = am_fold (f_sM σ b y) (i + 1) 0 0 := fun y hy => by
        rw [bw_y hy, hr y hy, fold_snoc, Nat.zero_add]
        have e : σ 17 (4 * i + y) = σ 199 (3 * i + y) := (hch i (by omega)).1 y hy
        unfold f_sM
        rw [if_pos q, e]
      have m3 : f_m3 (f_bw σ i r) = f_ly σ b (i + 1) := by
        unfold f_ly f_m3
        rw [sums 0 (by decide), sums 1 (by decide), sums 2 (by decide)]
      simp only [s148_19, s148_20, s148_23, s148_26, s148_29, s148_32, s148_33, s148_34, s148_35, s148_36, s148_37, s148_38, s148_41, s148_42, s148_45, s148_48, s148_49, s148_50, s148_53, s148_54, s148_55, s148_56, s148_59, s148_60, s148_63, s148_64, s148_65, s148_66, s148_67, s148_70, s148_73, s148_76, k_0 hS, k_1 hS, k_2 hS, l_2 hS, k_3 hS, l_3 hS, k_4 hS, l_4 hS, k_5 hS, l_5 hS, k_6 hS, l_6 hS, k_7 hS, k_8 hS, l_8 hS, k_9 hS, l_9 hS, k_10 hS, k_11 hS, l_11 hS, k_12 hS, k_13 hS, l_13 hS, k_14 hS, k_15 hS, l_15 hS, k_16 hS, k_17 hS, l_17 hS, k_66 hS, k_67 hS, l_67 hS, k_68 hS, l_68 hS, k_69 hS, l_69 hS, k_70 hS, l_70 hS, k_71 hS, l_71 hS, k_72 hS, k_73 hS, l_73 hS, k_74 hS, l_74 hS, k_75 hS, k_76 hS, l_76 hS, k_77 hS, k_78 hS, l_78 hS, k_79 hS, k_80 hS, l_80 hS, k_81 hS, k_82 hS, l_82 hS, k_131 hS, k_132 hS, l_132 hS, k_133 hS, l_133 hS, k_134 hS, l_134 hS, k_135 hS, k_136 hS, l_136 hS, k_137 hS, l_137 hS, k_138 hS, l_138 hS, k_139 hS, l_139 hS, k_140 hS, k_141 hS, l_141 hS, k_142 hS, l_142 hS, k_143 hS, k_144 hS, l_144 hS, k_145 hS, k_146 hS, l_146 hS, k_147 hS, l_147 hS, k_148 hS, l_148 hS, k_153 hS, l_153 hS, k_154 hS, l_154 hS, k_155 hS, l_155 hS, k_156 hS, k_157 hS, l_157 hS, k_158 hS, l_158 hS, k_159 hS, l_159 hS, r_0_0 hS, r_0_1 hS, r_0_3 hS, r_0_4 hS, r_0_5 hS, r_0_6 hS, r_0_7 hS, r_0_8 hS, r_0_9 hS, r_0_10 hS, r_1_2 hS, r_1_3 hS, r_1_4 hS, r_1_5 hS, r_1_7 hS, r_1_9 hS, r_1_10 hS, r_1_12 hS, r_1_13 hS, r_1_14 hS, r_1_15 hS, r_7_1 hS, r_10_2 hS, r_12_2 hS, r_14_2 hS, r_16_2 hS, r_66_2 hS, r_66_3 hS, r_66_4 hS, r_66_5 hS, r_66_7 hS, r_66_9 hS, r_66_10 hS, r_66_12 hS, r_66_13 hS, r_66_14 hS, r_66_15 hS, r_72_1 hS, r_75_2 hS, r_77_2 hS, r_79_2 hS, r_81_2 hS, r_131_0 hS, r_131_6 hS, r_131_8 hS, r_135_0 hS, r_135_1 hS, r_135_2 hS, r_135_3 hS, r_140_0 hS, r_140_1 hS, r_143_2 hS, r_145_0 hS, r_145_1 hS, r_145_2 hS, r_145_3 hS, r_145_4 hS, r_145_5 hS, r_156_5 hS, k_pv hS, k_pvr hS, k_db hS, k_dbr hS, k_sh hS, l_pvr hS, l_dbr hS, l_sh hS, r_5 hS, r_6 hS, r_pv hS, r_db hS, r_148 hS, ol_s, ol_n, ln_0, ln_1, ln_2, ln_3, ln_4, eq_self, rf_s, rf_n, i01_0, i01_n0, i01_b, b01_0, b01_1, and_self, and_true, true_and, and_false, false_and, if_true, if_false, not_true_eq_false, not_false_eq_true, e10, e00, lt_bg, Nat.reduceLT, Nat.reduceLeDiff, a1, hlt, q, B, W0, M, W1, m3, nI_1]
      refine c148L hS hc hw hC hch h0 h1 n (i + 1) (k + 1) _ _ _ (by omega) sums ?_ kk
      have e : f_ls b (i + 1) = f_ls b i ++ [i] := if_pos q
      rw [e]
      refine hR.add i (fun j hj => ⟨?_, ?_⟩) ?_ ?_
      · show (if 2 * j = 2 * k + 1 then _ else if 2 * j = 2 * k + 0 then _ else w (2 * j)) = w (2 * j)
        rw [if_neg (by omega), if_neg (by omega)]
      · show (if 2 * j + 1 = 2 * k + 1 then _ else if 2 * j + 1 = 2 * k + 0 then _ else w (2 * j + 1)) = w (2 * j + 1)
        rw [if_neg (by omega), if_neg (by omega)]
      · show (if 2 * k = 2 * k + 1 then _ else if 2 * k = 2 * k + 0 then _ else w (2 * k)) = nI i
        rw [if_neg (by omega), if_pos (by omega)]
      · show (if 2 * k + 1 = 2 * k + 1 then _ else _) = _
        rw [if_pos rfl]
    · have q2 : ¬ (b >>> (nI i &&& 31) &&& 1 = 1) := q
      simp only [s148_19, s148_20, s148_23, s148_26, s148_29, s148_32, s148_33, s148_34, s148_35, s148_36, s148_37, s148_38, s148_41, s148_42, s148_45, s148_48, s148_49, s148_50, s148_53, s148_54, s148_55, s148_56, s148_59, s148_60, s148_63, s148_64, s148_65, s148_66, s148_67, s148_70, s148_73, s148_76, k_0 hS, k_1 hS, k_2 hS, l_2 hS, k_3 hS, l_3 hS, k_4 hS, l_4 hS, k_5 hS, l_5 hS, k_6 hS, l_6 hS, k_7 hS, k_8 hS, l_8 hS, k_9 hS, l_9 hS, k_10 hS, k_11 hS, l_11 hS, k_12 hS, k_13 hS, l_13 hS, k_14 hS, k_15 hS, l_15 hS, k_16 hS, k_17 hS, l_17 hS, k_66 hS, k_67 hS, l_67 hS, k_68 hS, l_68 hS, k_69 hS, l_69 hS, k_70 hS, l_70 hS, k_71 hS, l_71 hS, k_72 hS, k_73 hS, l_73 hS, k_74 hS, l_74 hS, k_75 hS, k_76 hS, l_76 hS, k_77 hS, k_78 hS, l_78 hS, k_79 hS, k_80 hS, l_80 hS, k_81 hS, k_82 hS, l_82 hS, k_131 hS, k_132 hS, l_132 hS, k_133 hS, l_133 hS, k_134 hS, l_134 hS, k_135 hS, k_136 hS, l_136 hS, k_137 hS, l_137 hS, k_138 hS, l_138 hS, k_139 hS, l_139 hS, k_140 hS, k_141 hS, l_141 hS, k_142 hS, l_142 hS, k_143 hS, k_144 hS, l_144 hS, k_145 hS, k_146 hS, l_146 hS, k_147 hS, l_147 hS, k_148 hS, l_148 hS, k_153 hS, l_153 hS, k_154 hS, l_154 hS, k_155 hS, l_155 hS, k_156 hS, k_157 hS, l_157 hS, k_158 hS, l_158 hS, k_159 hS, l_159 hS, r_0_0 hS, r_0_1 hS, r_0_3 hS, r_0_4 hS, r_0_5 hS, r_0_6 hS, r_0_7 hS, r_0_8 hS, r_0_9 hS, r_0_10 hS, r_1_2 hS, r_1_3 hS, r_1_4 hS, r_1_5 hS, r_1_7 hS, r_1_9 hS, r_1_10 hS, r_1_12 hS, r_1_13 hS, r_1_14 hS, r_1_15 hS, r_7_1 hS, r_10_2 hS, r_12_2 hS, r_14_2 hS, r_16_2 hS, r_66_2 hS, r_66_3 hS, r_66_4 hS, r_66_5 hS, r_66_7 hS, r_66_9 hS, r_66_10 hS, r_66_12 hS, r_66_13 hS, r_66_14 hS, r_66_15 hS, r_72_1 hS, r_75_2 hS, r_77_2 hS, r_79_2 hS, r_81_2 hS, r_131_0 hS, r_131_6 hS, r_131_8 hS, r_135_0 hS, r_135_1 hS, r_135_2 hS, r_135_3 hS, r_140_0 hS, r_140_1 hS, r_143_2 hS, r_145_0 hS, r_145_1 hS, r_145_2 hS, r_145_3 hS, r_145_4 hS, r_145_5 hS, r_156_5 hS, k_pv hS, k_pvr hS, k_db hS, k_dbr hS, k_sh hS, l_pvr hS, l_dbr hS, l_sh hS, r_5 hS, r_6 hS, r_pv hS, r_db hS, r_148 hS, ol_s, ol_n, ln_0, ln_1, ln_2, ln_3, ln_4, eq_self, rf_s, rf_n, i01_0, i01_n0, i01_b, b01_0, b01_1, and_self, and_true, true_and, and_false, false_and, if_true, if_false, not_true_eq_false, not_false_eq_true, e10, e00, lt_bg, Nat.reduceLT, Nat.reduceLeDiff, a1, hlt, q2, nI_1]
      refine c148L hS hc hw hC hch h0 h1 n (i + 1) k w r _ (by omega) (fun y hy => ?_) ?_ kk
      · rw [hr y hy, fold_snoc, Nat.zero_add]
        unfold f_sM
        rw [if_neg q]
      · have e : f_ls b (i + 1) = f_ls b i := if_neg q
        rw [e]
        exact hR
end OAO
