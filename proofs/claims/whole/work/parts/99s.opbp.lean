/-! a month, whole -/
section OBP
variable {d : Nat} {σ : am_I} {ρ : am_R} {g : am_J} {τ : am_T} {Q : am_Q}
theorem gv_rld {c : Cn} (hc : Rld 1 161 c σ ρ τ) : Rld 1 161 c (f_gvM (f_gvC σ (c 1)) (c 1)) ρ τ := by
  have b := hc.bn
  unfold Bn at b
  obtain ⟨⟨t, ht, t1, t2⟩, R⟩ := gv_rel hc (c 1) (Nat.le_refl _)
  have E0 : EqT σ (f_gvC σ (c 1)) := ⟨fun y h1 h2 => by rw [gvC_ne (by omega) (c 1) (fun i hi => by omega)]; exact ⟨fun _ => rfl, fun _ _ => rfl⟩, by rw [gvC_ne (by decide) (c 1) (fun i hi => by omega)]⟩
  obtain ⟨E1, E2⟩ := gvM_eq E0 (c 1)
  have cl : ∀ y, y ≠ 161 → y ≠ 169 → f_gvM (f_gvC σ (c 1)) (c 1) y = f_gvC σ (c 1) y := fun y h1 h2 => gvM_ne h1 h2 _
  have n0 : ∀ y, y ≠ 1 → y ≠ 161 → y ≠ 169 → (y < 18 ∨ 34 ≤ y) → f_gvM (f_gvC σ (c 1)) (c 1) y = σ y := fun y h1 h2 h3 h4 => by rw [cl y h2 h3, gvC_ne h1 _ (fun i hi => by omega)]
  have n1 : ∀ k, k ≠ 1 → k ≠ 2 → f_gvM (f_gvC σ (c 1)) (c 1) 1 k = σ 1 k := fun k h1 h2 => by rw [cl 1 (by decide) (by decide), gvC_k h1 h2]
  have n2 : ∀ k, k ≠ 8 → f_gvM (f_gvC σ (c 1)) (c 1) 161 k = σ 161 k := fun k hk => by rw [gvM_k hk, gvC_ne (by decide) _ (fun i hi => by omega)]
  have n3 : f_gvM (f_gvC σ (c 1)) (c 1) 1 1 = nI t := by rw [cl 1 (by decide) (by decide)]; exact t1
  have n4 : f_gvM (f_gvC σ (c 1)) (c 1) 161 8 = nI t := by rw [E2]; exact t2
  refine ⟨hc.bn, ?sc, hc.rh.cg ?_ ?_, ?pr, hc.db.cg (by omega) ?_ ?_, hc.st.cg ?_ ?_, hc.rw.cg ?_ ?_, hc.pa.cg ?_ ?_, hc.tk.cg ?_ ?_, hc.ch.cg ?_ ?_⟩
  case sc =>
    have s := hc.sc
    unfold Scal at s ⊢
    simp only [Nat.reduceAdd] at s ⊢
    rw [n1 0 (by decide) (by decide), n1 6 (by decide) (by decide), n1 8 (by decide) (by decide), n1 11 (by decide) (by decide), n2 0 (by decide), n2 1 (by decide), n2 2 (by decide), n2 3 (by decide), n2 4 (by decide), n2 5 (by decide), n2 6 (by decide), n2 7 (by decide), n3, n4, n0 10 (by decide) (by decide) (by decide) (by decide), n0 12 (by decide) (by decide) (by decide) (by decide), n0 14 (by decide) (by decide) (by decide) (by decide), n0 16 (by decide) (by decide) (by decide) (by decide)]
    exact ⟨s.1, s.2.1, s.2.2.1, s.2.2.2.1, s.2.2.2.2.1, s.2.2.2.2.2.1, s.2.2.2.2.2.2.1, s.2.2.2.2.2.2.2.1, EQ.of ht⟩
  case pr =>
    intro p hp
    obtain ⟨a1, a2, a3, a4, a5⟩ := hc.pr p hp
    have m0 : ∀ k, k ≠ 1 → k ≠ 2 → f_gvM (f_gvC σ (c 1)) (c 1) (18 + 2 * p) k = σ (18 + 2 * p) k := fun k h1 h2 => by rw [cl _ (by omega) (by omega), gvC_k h1 h2]
    have m1 : f_gvM (f_gvC σ (c 1)) (c 1) (18 + 2 * p) 1 = σ (18 + 2 * p) 1 := by rw [cl _ (by omega) (by omega), gvC_1]
    have m2 : f_gvM (f_gvC σ (c 1)) (c 1) (18 + 2 * p) 2 = f_gvM (f_gvC σ (c 1)) (c 1) 169 p := by
      rw [cl _ (by omega) (by omega), (E1 169 (by omega) (by omega)).1 (by decide)]
      exact R p hp
    have m3 : f_gvM (f_gvC σ (c 1)) (c 1) (19 + 2 * p) = σ (19 + 2 * p) := by rw [cl _ (by omega) (by omega), gvC_ne (by omega) _ (fun i hi => by omega)]
    simp only [Nat.reduceAdd] at a1 a2 a3 a4 a5 ⊢
    rw [m0 0 (by decide) (by decide), m1, m2, m0 3 (by decide) (by decide), m3, n0 167 (by decide) (by decide) (by decide) (by decide), n0 168 (by decide) (by decide) (by decide) (by decide), n0 166 (by decide) (by decide) (by decide) (by decide), n0 165 (by decide) (by decide) (by decide) (by decide)]
    exact ⟨a1, a2, rfl, a4, a5⟩
  all_goals first
    | exact n0 _ (by omega) (by omega) (by omega) (by omega)
    | exact fun y h1 h2 => n0 y (by omega) (by omega) (by omega) (by omega)
    | exact fun y h1 => n0 y (by omega) (by omega) (by omega) (by omega)
theorem mv_rld {c : Cn} (hc : Rld 1 161 c σ ρ τ) : Rld 1 161 c (f_mvM (f_mvC σ (c 2)) (c 2)) ρ τ := by
  have b := hc.bn
  unfold Bn at b
  have R := mv_rel hc (c 2) (Nat.le_refl _)
  have E0 : EqT σ (f_mvC σ (c 2)) := ⟨fun y h1 h2 => by rw [mvC_ne (c 2) (fun i hi => by omega)]; exact ⟨fun _ => rfl, fun _ _ => rfl⟩, by rw [mvC_ne (c 2) (fun i hi => by omega)]⟩
  obtain ⟨E1, E2⟩ := mvM_eq E0 (c 2)
  have cl : ∀ y, y ≠ 179 → f_mvM (f_mvC σ (c 2)) (c 2) y = f_mvC σ (c 2) y := fun y h1 => mvM_ne h1 _
  have n0 : ∀ y, y ≠ 179 → (y < 35 ∨ 66 ≤ y) → f_mvM (f_mvC σ (c 2)) (c 2) y = σ y := fun y h1 h4 => by rw [cl y h1, mvC_ne _ (fun i hi => by omega)]
  refine ⟨hc.bn, hc.sc.cg ?_ ?_ ?_ ?_ ?_ ?_, hc.rh.cg ?_ ?_, hc.pr.cg (by omega) ?_ ?_, ?db, hc.st.cg ?_ ?_, hc.rw.cg ?_ ?_, hc.pa.cg ?_ ?_, hc.tk.cg ?_ ?_, hc.ch.cg ?_ ?_⟩
  case db =>
    intro i hi
    obtain ⟨t0, t1, t2, t3, t4, t5, t6, t7, t8, t10⟩ := hc.db i hi
    have m0 : f_mvM (f_mvC σ (c 2)) (c 2) (34 + 2 * i) = σ (34 + 2 * i) := by rw [cl _ (by omega), mvC_ne _ (fun j hj => by omega)]
    have r0 : ∀ y, 170 ≤ y → y < 179 → f_mvM (f_mvC σ (c 2)) (c 2) y = σ y := fun y h1 h2 => n0 y (by omega) (by omega)
    unfold Debt1
    simp only [Nat.reduceAdd] at t0 t1 t2 t3 t4 t5 t6 t7 t8 t10 ⊢
    rw [m0, r0 170 (by decide) (by decide), r0 171 (by decide) (by decide), r0 172 (by decide) (by decide), r0 173 (by decide) (by decide), r0 174 (by decide) (by decide), r0 175 (by decide) (by decide), r0 176 (by decide) (by decide), r0 177 (by decide) (by decide), r0 178 (by decide) (by decide)]
    refine ⟨t0, t1, t2, t3, t4, t5, t6, t7, t8, fun h0 k hk => ?_⟩
    rw [cl _ (by omega), (E1 179 (by omega) (by omega)).1 (by decide)]
    exact R i hi h0 k hk
  all_goals first
    | exact n0 _ (by omega) (by omega)
    | exact fun y h1 h2 => n0 y (by omega) (by omega)
    | exact fun y h1 => n0 y (by omega) (by omega)
/-- a month begins -/
theorem now_rld {c : Cn} (hc : Rld 1 161 c σ ρ τ) (hN : c 0 ≤ 598) : Rld 1 161 (cu c 0 (c 0 + 1)) (am_u (am_u σ 1 0 (nI (c 0 + 1))) 161 0 (nI (c 0 + 1))) ρ τ := by
  have b := hc.bn
  unfold Bn at b
  refine ⟨?bn, ?sc, hc.rh.cg ?_ ?_, ?pr, ?db, ?st, ?rw, ?pa, ?tk, ?ch⟩
  case bn =>
    unfold Bn
    simp (disch := omega) only [cu_at, cu_ne]
    omega
  case sc =>
    have := hc.sc
    unfold Scal at this ⊢
    simp (disch := omega) only [Nat.reduceAdd, Nat.add_zero, u_ne, ur_ne, u_at, u_nk, ur_at, cu_at, cu_ne, and_self, true_and, and_true] at this ⊢
    exact this.2
  case pr => rw [cu_ne _ _ _ (by decide)]; refine hc.pr.cg (by omega) ?_ ?_ <;> (intros; simp (disch := omega) only [u_ne, ur_ne])
  case db => rw [cu_ne _ _ _ (by decide)]; refine hc.db.cg (by omega) ?_ ?_ <;> (intros; simp (disch := omega) only [u_ne, ur_ne])
  case st => rw [cu_ne _ _ _ (by decide)]; refine hc.st.cg ?_ ?_ <;> (intros; simp (disch := omega) only [u_ne, ur_ne])
  case rw => rw [cu_ne _ _ _ (by decide), cu_ne _ _ _ (by decide)]; refine hc.rw.cg ?_ ?_ <;> (intros; simp (disch := omega) only [u_ne, ur_ne])
  case pa => rw [cu_ne _ _ _ (by decide)]; refine hc.pa.cg ?_ ?_ <;> (intros; simp (disch := omega) only [u_ne, ur_ne])
  case tk => rw [cu_ne _ _ _ (by decide)]; refine hc.tk.cg ?_ ?_ <;> (intros; simp (disch := omega) only [u_ne, ur_ne])
  case ch => rw [cu_ne _ _ _ (by decide)]; refine hc.ch.cg ?_ ?_ <;> (intros; simp (disch := omega) only [u_ne, ur_ne])
  all_goals (intros; simp (disch := omega) only [u_ne, ur_ne])
def FrN (σ σ1 : am_I) : Prop := ∀ y, (y < 161 ∨ 201 ≤ y ∧ y < 214 ∨ 219 ≤ y) → σ1 y = σ y
theorem month (hS : Sh ρ τ) {c : Cn} (hc : Rld 1 161 c σ ρ τ) (hN : c 0 ≤ 598) : ∃ σ', Rld 1 161 (cu c 0 (c 0 + 1)) σ' ρ τ ∧ (∀ y, 2 ≤ y → y < 18 → σ' y = σ y) ∧
    (∀ σa, EqC σ σa → ∃ σa', EqC σ' σa' ∧ FrC σa σa' ∧ ∀ (d : Nat) (g : am_J) (Q : am_Q), AW (d + 8) 109 0 [.ref 0, am_jk] [] σa ρ g τ Q = Q none σa' ρ g τ) ∧
    (∀ σb, EqT σ σb → ∃ σb', EqT σ' σb' ∧ FrN σb σb' ∧ ∀ (d : Nat) (g : am_J) (Q : am_Q), AW (d + 8) 222 0 [.ref 160, am_jk, am_jk, am_jk, am_jk, am_jk] [] σb ρ g τ Q = Q none σb' ρ g τ) := by
  have b := hc.bn
  unfold Bn at b
  have z0' : nI 0 = (0 : Int32) := rfl
  have h1 := now_rld hc hN
  generalize eσ1 : am_u (am_u σ 1 0 (nI (c 0 + 1))) 161 0 (nI (c 0 + 1)) = σ1 at h1
  have c0 : cu c 0 (c 0 + 1) 0 = c 0 + 1 := cu_at _ _ _
  have c1 : cu c 0 (c 0 + 1) 1 = c 1 := cu_ne _ _ _ (by decide)
  have c2 : cu c 0 (c 0 + 1) 2 = c 2 := cu_ne _ _ _ (by decide)
  obtain ⟨P0, p0, q0⟩ := gath_n h1 (s := 0) (m := c 0 + 1) (by decide) (c 1) (by rw [c1]; exact Nat.le_refl _)
  obtain ⟨P1, p1, q1⟩ := gath_n h1 (s := 1) (m := c 0 + 1) (by decide) (c 1) (by rw [c1]; exact Nat.le_refl _)
  obtain ⟨P2, p2, q2⟩ := gath_n h1 (s := 2) (m := c 0 + 1) (by decide) (c 1) (by rw [c1]; exact Nat.le_refl _)
  obtain ⟨σ2, h2, k2, C2, M2⟩ := phase hS h1 (so := 0) (P := P0) (by decide) (by rw [c0, c1]; exact q0) (by omega)
  have s2 : ∀ y, 162 ≤ y → y < 176 → σ2 y = σ1 y := fun y a b => k2 y (Or.inr ⟨a, b⟩)
  obtain ⟨σ3, h3, k3, C3, M3⟩ := phase hS h2 (so := 1) (P := P1) (by decide) (by rw [c0, c1, gaM_cg s2, s2 162 (by omega) (by omega)]; exact q1) (by omega)
  have s3 : ∀ y, 162 ≤ y → y < 176 → σ3 y = σ1 y := fun y a b => by rw [k3 y (Or.inr ⟨a, b⟩), s2 y a b]
  obtain ⟨σ4, h4, k4, C4, M4⟩ := phase hS h3 (so := 2) (P := P2) (by decide) (by rw [c0, c1, gaM_cg s3, s3 162 (by omega) (by omega)]; exact q2) (by omega)
  have h5 := gv_rld h4
  have h6 := mv_rld h5
  rw [c1] at h5 h6
  rw [c2] at h6
  rw [c0] at M2 M3 M4
  refine ⟨f_mvM (f_mvC (f_gvM (f_gvC σ4 (c 1)) (c 1)) (c 2)) (c 2), h6, fun y a1 a2 => ?_, fun σa Ea => ?_, fun σb Eb => ?_⟩
  · rw [mvM_ne (by omega), mvC_ne _ (fun i hi => by omega), gvM_ne (by omega) (by omega), gvC_ne (by omega) _ (fun i hi => by omega), k4 y (Or.inl ⟨a1, a2⟩), k3 y (Or.inl ⟨a1, a2⟩), k2 y (Or.inl ⟨a1, a2⟩), ← eσ1, u_ne _ _ _ _ (by omega), u_ne _ _ _ _ (by omega)]
  · have a0 : σa 1 0 = nI (c 0) := by rw [Ea 1 (Or.inl (by decide))]; exact hc.sc.1.1
    generalize e1 : am_u σa 1 0 (nI (c 0 + 1)) = a1
    have E1 : EqC σ1 a1 := fun y hy => by
      rw [← eσ1, ← e1, u_ne _ _ _ _ (show y ≠ 161 by omega)]
      funext k
      simp only [u_eq, Ea y hy]
    obtain ⟨a2, E2, F2, R2⟩ := C2 a1 E1
    obtain ⟨a3, E3, F3, R3⟩ := C3 a2 E2
    obtain ⟨a4, E4, F4, R4⟩ := C4 a3 E3
    have z1' : nI (0 + 1) = nI 1 := rfl
    have z3' : nI (2 + 1) = 3 := by decide
    rw [z0'] at R2
    rw [z3'] at R4
    have l3 : ((3 : Int32) ≤ 3) = True := by decide
    have P6 : a4 1 6 = nI (c 1) := by rw [E4 1 (Or.inl (by decide))]; have := h4.sc.2.1.1; rw [c1] at this; exact this
    have G := fun (d : Nat) (g : am_J) (Q : am_Q) => c32L (d := d) (σ := a4) (g := g) (Q := Q) hS P6 b.2.1 (c 1) 0 (by omega)
    have g00 : f_gvC a4 0 = a4 := rfl
    rw [z0', g00] at G
    have D8 : f_gvC a4 (c 1) 1 8 = nI (c 2) := by rw [gvC_k (by decide) (by decide), E4 1 (Or.inl (by decide))]; have := h4.sc.2.2.1.1; rw [c2] at this; exact this
    have V := fun (d : Nat) (g : am_J) (Q : am_Q) => c33L (d := d) (σ := f_gvC a4 (c 1)) (g := g) (Q := Q) hS D8 b.2.2.1 (c 2) 0 (by omega)
    have v00 : f_mvC (f_gvC a4 (c 1)) 0 = f_gvC a4 (c 1) := rfl
    rw [z0', v00] at V
    have E5 := gvC_eq E4 (c 1) b.2.1
    have E5' : EqC (f_gvM (f_gvC σ4 (c 1)) (c 1)) (f_gvC a4 (c 1)) := fun y hy => by
      rw [gvM_ne (by omega) (by omega)]
      exact E5 y hy
    have E6 := mvC_eq E5' (c 2) b.2.2.1
    refine ⟨f_mvC (f_gvC a4 (c 1)) (c 2), fun y hy => ?_, fun y hy => ?_, fun d g Q => ?_⟩
    · rw [mvM_ne (by omega)]
      exact E6 y hy
    · rw [mvC_ne _ (fun i hi => by omega), gvC_ne (by omega) _ (fun i hi => by omega), F4 y hy, F3 y hy, F2 y hy, ← e1, u_ne _ _ _ _ (by omega)]
    · simp only [s109_0, s109_1, s109_4, s109_4r, s109_5, s109_8, s109_9, s109_10, s109_13, s109_14r, k_0 hS, k_1 hS, k_2 hS, l_2 hS, k_3 hS, l_3 hS, k_4 hS, l_4 hS, k_5 hS, l_5 hS, k_6 hS, l_6 hS, k_7 hS, k_8 hS, l_8 hS, k_9 hS, l_9 hS, k_10 hS, k_11 hS, l_11 hS, k_12 hS, k_13 hS, l_13 hS, k_14 hS, k_15 hS, l_15 hS, k_16 hS, k_17 hS, l_17 hS, k_66 hS, k_67 hS, l_67 hS, k_68 hS, l_68 hS, k_69 hS, l_69 hS, k_70 hS, l_70 hS, k_71 hS, l_71 hS, k_72 hS, k_73 hS, l_73 hS, k_74 hS, l_74 hS, k_75 hS, k_76 hS, l_76 hS, k_77 hS, k_78 hS, l_78 hS, k_79 hS, k_80 hS, l_80 hS, k_81 hS, k_82 hS, l_82 hS, k_131 hS, k_132 hS, l_132 hS, k_133 hS, l_133 hS, k_134 hS, l_134 hS, k_135 hS, k_136 hS, l_136 hS, k_137 hS, l_137 hS, k_138 hS, l_138 hS, k_139 hS, l_139 hS, k_140 hS, k_141 hS, l_141 hS, k_142 hS, l_142 hS, k_143 hS, k_144 hS, l_144 hS, k_145 hS, k_146 hS, l_146 hS, k_147 hS, l_147 hS, k_148 hS, l_148 hS, k_153 hS, l_153 hS, k_154 hS, l_154 hS, k_155 hS, l_155 hS, k_156 hS, k_157 hS, l_157 hS, k_158 hS, l_158 hS, k_159 hS, l_159 hS, r_0_0 hS, r_0_1 hS, r_0_3 hS, r_0_4 hS, r_0_5 hS, r_0_6 hS, r_0_7 hS, r_0_8 hS, r_0_9 hS, r_0_10 hS, r_1_2 hS, r_1_3 hS, r_1_4 hS, r_1_5 hS, r_1_7 hS, r_1_9 hS, r_1_10 hS, r_1_12 hS, r_1_13 hS, r_1_14 hS, r_1_15 hS, r_7_1 hS, r_10_2 hS, r_12_2 hS, r_14_2 hS, r_16_2 hS, r_66_2 hS, r_66_3 hS, r_66_4 hS, r_66_5 hS, r_66_7 hS, r_66_9 hS, r_66_10 hS, r_66_12 hS, r_66_13 hS, r_66_14 hS, r_66_15 hS, r_72_1 hS, r_75_2 hS, r_77_2 hS, r_79_2 hS, r_81_2 hS, r_131_0 hS, r_131_6 hS, r_131_8 hS, r_135_0 hS, r_135_1 hS, r_135_2 hS, r_135_3 hS, r_140_0 hS, r_140_1 hS, r_143_2 hS, r_145_0 hS, r_145_1 hS, r_145_2 hS, r_145_3 hS, r_145_4 hS, r_145_5 hS, r_156_5 hS, k_pv hS, k_pvr hS, k_db hS, k_dbr hS, k_sh hS, l_pvr hS, l_dbr hS, l_sh hS, r_5 hS, r_6 hS, r_pv hS, r_db hS, r_148 hS, ol_s, ol_n, ln_0, ln_1, ln_2, ln_3, ln_4, eq_self, rf_s, rf_n, i01_0, i01_n0, i01_b, b01_0, b01_1, and_self, and_true, true_and, and_false, false_and, if_true, if_false, not_true_eq_false, not_false_eq_true, e10, e00, lt_bg, Nat.reduceLT, Nat.reduceLeDiff, a0, nI_1, e1]
      rw [R2, z1', R3, R4]
      simp only [s109_15, s109_16, s109_17, s109_87, s109_88, s109_91, s109_94, s109_95, s109_98, s109_101, s32_0, s32_1r, s33_0, s33_1r, k_0 hS, k_1 hS, k_2 hS, l_2 hS, k_3 hS, l_3 hS, k_4 hS, l_4 hS, k_5 hS, l_5 hS, k_6 hS, l_6 hS, k_7 hS, k_8 hS, l_8 hS, k_9 hS, l_9 hS, k_10 hS, k_11 hS, l_11 hS, k_12 hS, k_13 hS, l_13 hS, k_14 hS, k_15 hS, l_15 hS, k_16 hS, k_17 hS, l_17 hS, k_66 hS, k_67 hS, l_67 hS, k_68 hS, l_68 hS, k_69 hS, l_69 hS, k_70 hS, l_70 hS, k_71 hS, l_71 hS, k_72 hS, k_73 hS, l_73 hS, k_74 hS, l_74 hS, k_75 hS, k_76 hS, l_76 hS, k_77 hS, k_78 hS, l_78 hS, k_79 hS, k_80 hS, l_80 hS, k_81 hS, k_82 hS, l_82 hS, k_131 hS, k_132 hS, l_132 hS, k_133 hS, l_133 hS, k_134 hS, l_134 hS, k_135 hS, k_136 hS, l_136 hS, k_137 hS, l_137 hS, k_138 hS, l_138 hS, k_139 hS, l_139 hS, k_140 hS, k_141 hS, l_141 hS, k_142 hS, l_142 hS, k_143 hS, k_144 hS, l_144 hS, k_145 hS, k_146 hS, l_146 hS, k_147 hS, l_147 hS, k_148 hS, l_148 hS, k_153 hS, l_153 hS, k_154 hS, l_154 hS, k_155 hS, l_155 hS, k_156 hS, k_157 hS, l_157 hS, k_158 hS, l_158 hS, k_159 hS, l_159 hS, r_0_0 hS, r_0_1 hS, r_0_3 hS, r_0_4 hS, r_0_5 hS, r_0_6 hS, r_0_7 hS, r_0_8 hS, r_0_9 hS, r_0_10 hS, r_1_2 hS, r_1_3 hS, r_1_4 hS, r_1_5 hS, r_1_7 hS, r_1_9 hS, r_1_10 hS, r_1_12 hS, r_1_13 hS, r_1_14 hS, r_1_15 hS, r_7_1 hS, r_10_2 hS, r_12_2 hS, r_14_2 hS, r_16_2 hS, r_66_2 hS, r_66_3 hS, r_66_4 hS, r_66_5 hS, r_66_7 hS, r_66_9 hS, r_66_10 hS, r_66_12 hS, r_66_13 hS, r_66_14 hS, r_66_15 hS, r_72_1 hS, r_75_2 hS, r_77_2 hS, r_79_2 hS, r_81_2 hS, r_131_0 hS, r_131_6 hS, r_131_8 hS, r_135_0 hS, r_135_1 hS, r_135_2 hS, r_135_3 hS, r_140_0 hS, r_140_1 hS, r_143_2 hS, r_145_0 hS, r_145_1 hS, r_145_2 hS, r_145_3 hS, r_145_4 hS, r_145_5 hS, r_156_5 hS, k_pv hS, k_pvr hS, k_db hS, k_dbr hS, k_sh hS, l_pvr hS, l_dbr hS, l_sh hS, r_5 hS, r_6 hS, r_pv hS, r_db hS, r_148 hS, ol_s, ol_n, ln_0, ln_1, ln_2, ln_3, ln_4, eq_self, rf_s, rf_n, i01_0, i01_n0, i01_b, b01_0, b01_1, and_self, and_true, true_and, and_false, false_and, if_true, if_false, not_true_eq_false, not_false_eq_true, e10, e00, lt_bg, Nat.reduceLT, Nat.reduceLeDiff, l3, G, V]
  · obtain ⟨Eb, Et⟩ := Eb
    have k0 : am_inb 0 9 = true := by decide
    have b0 : σb 161 0 = nI (c 0) := by rw [(Eb 161 (by omega) (by omega)).2 0 (by decide)]; exact hc.sc.1.2
    generalize e1 : am_u σb 161 0 (nI (c 0 + 1)) = b1
    have b10 : b1 161 0 = nI (c 0 + 1) := by rw [← e1, u_at]
    have E1 : EqT σ1 b1 := by
      refine ⟨fun y a1 a2 => ⟨fun hy => ?_, fun k hk => ?_⟩, ?_⟩
      · rw [← eσ1, ← e1, u_ne _ _ _ _ hy, u_ne _ _ _ _ hy, u_ne _ _ _ _ (show y ≠ 1 by omega)]
        exact (Eb y a1 a2).1 hy
      · rw [← eσ1, ← e1]
        simp only [u_eq, show ¬ y = 1 by omega, if_false]
        by_cases hy : y = 161
        · subst hy
          simp only [(Eb 161 a1 a2).2 k hk]
        · simp only [hy, if_false]
          exact (Eb y a1 a2).2 k hk
      · rw [← eσ1, ← e1, u_nk _ _ _ _ (by decide), u_nk _ _ _ _ (by decide), u_ne _ _ _ _ (by decide)]
        exact Et
    have gm : ∀ (x : am_I), (∀ y, y ≠ 218 → x y = b1 y) → ∀ (s : Nat) (hs : s < 3) (P : Nat), am_fold (f_gaM σ1 s (c 0 + 1) (σ1 162 s)) (c 1) 0 0 = nI P → ∀ (d : Nat) (g : am_J) (Q : am_Q), AW (d + 2) 171 0 [.ref 160, .int (nI s), .int (nI (c 0 + 1)), .int (x 162 s), am_jk, am_jk] [] x ρ g τ Q = Q (some (.int (nI P))) x ρ g τ := fun x hx s hs P hP d g Q => by
      have t : ∀ y, 162 ≤ y → y < 176 → x y = σ1 y := fun y a1 a2 => by rw [hx y (by omega)]; exact (E1.1 y (by omega) (by omega)).1 (by omega)
      have n : x 161 1 = nI (c 1) := by
        rw [hx 161 (by decide), (E1.1 161 (by omega) (by omega)).2 1 (by decide)]
        have := h1.sc.2.1.2
        rw [c1] at this
        exact this
      rw [c171 hS n b.2.1 hs (by omega), gaM_cg t, t 162 (by omega) (by omega), hP]
    have l0 : ((3 : Int32) ≤ 0) = False := by decide
    have l1 : ((3 : Int32) ≤ 1) = False := by decide
    have l2 : ((3 : Int32) ≤ 2) = False := by decide
    have l3 : ((3 : Int32) ≤ 3) = True := by decide
    have pp0 : (0 : Int32) + 1 = 1 := by decide
    have pp1 : (1 : Int32) + 1 = 2 := by decide
    have pp2 : (2 : Int32) + 1 = 3 := by decide
    have i0 : am_inb 0 3 = true := by decide
    have i1 : am_inb 1 3 = true := by decide
    have i2 : am_inb 2 3 = true := by decide
    have G0 := gm b1 (fun y _ => rfl) 0 (by decide) P0 q0
    rw [z0'] at G0
    generalize e2 : am_u b1 218 0 (nI P0) = b2
    have G1 := gm b2 (fun y hy => by rw [← e2, u_ne _ _ _ _ hy]) 1 (by decide) P1 q1
    rw [n_one] at G1
    generalize e3 : am_u b2 218 1 (nI P1) = b3
    have G2 := gm b3 (fun y hy => by rw [← e3, u_ne _ _ _ _ hy, ← e2, u_ne _ _ _ _ hy]) 2 (by decide) P2 q2
    rw [nI_2] at G2
    generalize e4 : am_u b3 218 2 (nI P2) = b4
    have E4 : EqT σ1 b4 := by
      have t : ∀ y, y ≠ 218 → b4 y = b1 y := fun y hy => by rw [← e4, ← e3, ← e2, u_ne _ _ _ _ hy, u_ne _ _ _ _ hy, u_ne _ _ _ _ hy]
      refine ⟨fun y a1 a2 => ?_, ?_⟩
      · rw [t y (by omega)]
        exact E1.1 y a1 a2
      · rw [t 161 (by decide)]
        exact E1.2
    have u0 : b4 218 0 = nI P0 := by rw [← e4, ← e3, ← e2]; simp (disch := omega) only [Nat.reduceAdd, Nat.add_zero, u_ne, ur_ne, u_at, u_nk, ur_at]
    have u1 : b4 218 1 = nI P1 := by rw [← e4, ← e3]; simp (disch := omega) only [Nat.reduceAdd, Nat.add_zero, u_ne, ur_ne, u_at, u_nk, ur_at]
    have u2 : b4 218 2 = nI P2 := by rw [← e4, u_at]
    obtain ⟨b5, E5, F5, R5⟩ := M2 b4 E4 u0
    obtain ⟨b6, E6, F6, R6⟩ := M3 b5 E5 (by rw [F5 218 (by omega)]; exact u1)
    obtain ⟨b7, E7, F7, R7⟩ := M4 b6 E6 (by rw [F6 218 (by omega), F5 218 (by omega)]; exact u2)
    obtain ⟨y3, y4, y5, R5⟩ := R5 am_jk am_jk am_jk
    obtain ⟨v3, v4, v5, R6⟩ := R6 y3 y4 y5
    obtain ⟨w3, w4, w5, R7⟩ := R7 v3 v4 v5
    have z1' : nI (0 + 1) = nI 1 := rfl
    have z3' : nI (2 + 1) = 3 := by decide
    rw [z0'] at R5
    rw [z3'] at R7
    have P6 : b7 161 1 = nI (c 1) := by rw [(E7.1 161 (by omega) (by omega)).2 1 (by decide)]; have := h4.sc.2.1.2; rw [c1] at this; exact this
    have Gv := fun (d : Nat) (g : am_J) (Q : am_Q) => c222g (d := d) (σ := b7) (g := g) (Q := Q) hS P6 b.2.1 (x1 := nI (c 0 + 1)) (x3 := w3) (x4 := w4) (x5 := w5) (c 1) 0 (by omega)
    have g00 : f_gvM b7 0 = b7 := rfl
    rw [z0', g00] at Gv
    have D8 : f_gvM b7 (c 1) 161 2 = nI (c 2) := by rw [gvM_k (by decide), (E7.1 161 (by omega) (by omega)).2 2 (by decide)]; have := h4.sc.2.2.1.2; rw [c2] at this; exact this
    have V := fun (d : Nat) (g : am_J) (Q : am_Q) => c222p (d := d) (σ := f_gvM b7 (c 1)) (g := g) (Q := Q) hS D8 b.2.2.1 (x1 := nI (c 0 + 1)) (x4 := w4) (x5 := w5) (c 2) 0 w3 (by omega)
    have v00 : f_mvM (f_gvM b7 (c 1)) 0 = f_gvM b7 (c 1) := rfl
    rw [z0', v00] at V
    have E7' : EqT (f_gvC σ4 (c 1)) b7 := ⟨fun y a1 a2 => by rw [gvC_ne (by omega) _ (fun i hi => by omega)]; exact E7.1 y a1 a2, by rw [gvC_ne (by decide) _ (fun i hi => by omega)]; exact E7.2⟩
    have E8 := gvM_eq E7' (c 1)
    have E8' : EqT (f_mvC (f_gvM (f_gvC σ4 (c 1)) (c 1)) (c 2)) (f_gvM b7 (c 1)) := ⟨fun y a1 a2 => by rw [mvC_ne _ (fun i hi => by omega)]; exact E8.1 y a1 a2, by rw [mvC_ne _ (fun i hi => by omega)]; exact E8.2⟩
    have E9 := mvM_eq E8' (c 2)
    refine ⟨f_mvM (f_gvM b7 (c 1)) (c 2), E9, fun y hy => ?_, fun d g Q => ?_⟩
    · rw [mvM_ne (by omega), gvM_ne (by omega) (by omega), F7 y (by omega), F6 y (by omega), F5 y (by omega), ← e4, u_ne _ _ _ _ (by omega), ← e3, u_ne _ _ _ _ (by omega), ← e2, u_ne _ _ _ _ (by omega), ← e1, u_ne _ _ _ _ (by omega)]
    · simp only [s222_0, s222_1, s222_4, s222_5, s222_6, s222_7, s222_8, s222_9, s222_10, s222_11, s222_14, s222_15, s222_16r, s222_17, s222_18, s222_19, s222_20, s222_21, s222_24, s222_25, s222_28, s222_29, s222_30, s222_31, s222_32, s222_33, s222_36, s222_37, s222_38, s222_41, s222_42, s222_45, s222_48, s222_49, k_160 hS, k_161 hS, l_161 hS, k_162 hS, l_162 hS, k_163 hS, l_163 hS, k_164 hS, l_164 hS, k_165 hS, l_165 hS, k_166 hS, l_166 hS, k_167 hS, l_167 hS, k_168 hS, l_168 hS, k_169 hS, l_169 hS, k_170 hS, l_170 hS, k_171 hS, l_171 hS, k_172 hS, l_172 hS, k_173 hS, l_173 hS, k_174 hS, l_174 hS, k_175 hS, l_175 hS, k_176 hS, l_176 hS, k_177 hS, l_177 hS, k_178 hS, l_178 hS, k_179 hS, l_179 hS, k_180 hS, l_180 hS, k_181 hS, l_181 hS, k_182 hS, l_182 hS, k_183 hS, l_183 hS, k_184 hS, l_184 hS, k_185 hS, l_185 hS, k_186 hS, l_186 hS, k_187 hS, l_187 hS, k_188 hS, l_188 hS, k_189 hS, l_189 hS, k_190 hS, l_190 hS, k_191 hS, l_191 hS, k_192 hS, l_192 hS, k_193 hS, l_193 hS, k_194 hS, l_194 hS, k_195 hS, l_195 hS, k_196 hS, l_196 hS, k_197 hS, l_197 hS, k_198 hS, l_198 hS, k_199 hS, l_199 hS, k_200 hS, l_200 hS, k_201 hS, l_201 hS, k_202 hS, l_202 hS, k_203 hS, l_203 hS, k_204 hS, l_204 hS, k_205 hS, l_205 hS, k_206 hS, l_206 hS, k_207 hS, l_207 hS, k_208 hS, l_208 hS, k_209 hS, l_209 hS, k_210 hS, l_210 hS, k_211 hS, l_211 hS, k_212 hS, l_212 hS, k_213 hS, l_213 hS, k_214 hS, l_214 hS, k_215 hS, l_215 hS, k_216 hS, l_216 hS, k_217 hS, l_217 hS, k_218 hS, l_218 hS, k_219 hS, l_219 hS, k_220 hS, l_220 hS, r_160_0 hS, r_160_1 hS, r_160_2 hS, r_160_3 hS, r_160_4 hS, r_160_5 hS, r_160_6 hS, r_160_7 hS, r_160_8 hS, r_160_9 hS, r_160_10 hS, r_160_11 hS, r_160_12 hS, r_160_13 hS, r_160_14 hS, r_160_15 hS, r_160_16 hS, r_160_17 hS, r_160_18 hS, r_160_19 hS, r_160_20 hS, r_160_21 hS, r_160_22 hS, r_160_23 hS, r_160_24 hS, r_160_25 hS, r_160_26 hS, r_160_27 hS, r_160_28 hS, r_160_29 hS, r_160_30 hS, r_160_31 hS, r_160_32 hS, r_160_33 hS, r_160_34 hS, r_160_35 hS, r_160_36 hS, r_160_37 hS, r_160_38 hS, r_160_39 hS, r_160_40 hS, r_160_41 hS, r_160_43 hS, r_160_45 hS, r_160_46 hS, r_160_48 hS, r_160_49 hS, r_160_50 hS, r_160_51 hS, r_160_52 hS, r_160_53 hS, r_160_54 hS, r_160_56 hS, r_160_63 hS, r_160_64 hS, r_160_65 hS, r_160_66 hS, r_160_67 hS, r_160_68 hS, r_160_69 hS, ol_s, ol_n, ln_0, ln_1, ln_2, ln_3, ln_4, eq_self, rf_s, rf_n, i01_0, i01_n0, i01_b, b01_0, b01_1, and_self, and_true, true_and, and_false, false_and, if_true, if_false, not_true_eq_false, not_false_eq_true, e10, e00, lt_bg, Nat.reduceLT, Nat.reduceLeDiff, k0, z0, z1, z2, b0, b10, nI_1, e1, l0, l1, l2, l3, pp0, pp1, pp2, i0, i1, i2, G0, e2, G1, e3, G2, e4]
      rw [R5, z1', R6, R7]
      simp only [s222_50, s222_51, s222_52, s222_178, s222_179, ol_s, ol_n, ln_0, ln_1, ln_2, ln_3, ln_4, eq_self, rf_s, rf_n, i01_0, i01_n0, i01_b, b01_0, b01_1, and_self, and_true, true_and, and_false, false_and, if_true, if_false, not_true_eq_false, not_false_eq_true, e10, e00, lt_bg, Nat.reduceLT, Nat.reduceLeDiff, l3, Gv]
      simp only [s222_248, s222_249, V]
end OBP
