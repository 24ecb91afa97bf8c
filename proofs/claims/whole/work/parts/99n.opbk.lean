/-! a month: a sort's pot, on both sides -/
section OBK
variable {d : Nat} {σ : am_I} {ρ : am_R} {g : am_J} {τ : am_T} {Q : am_Q}
theorem due_n {y h r : Nat} (hy : y ≤ 999) (hh : h ≤ 200) (hr : r ≤ 100) : ∃ e, e ≤ 1998 ∧ f_due (nI y) (nI h) (nI r) = nI e := by
  have h1 : y * h ≤ 999 * 200 := Nat.mul_le_mul hy hh
  have h2 : y * h / 100 ≤ 1998 := by omega
  have h3 : y * h / 100 * r ≤ 1998 * 100 := Nat.mul_le_mul h2 hr
  refine ⟨y * h / 100 * r / 100, by omega, ?_⟩
  unfold f_due
  have e1 : nI y * nI h / 100 = nI (y * h / 100) := by
    rw [nI_mulL]
    exact pk_div (d := 100) (by omega) (by decide) (by decide)
  rw [e1, nI_mulL]
  exact pk_div (d := 100) (by omega) (by decide) (by decide)
theorem round_n {e r w : Nat} (he : e ≤ 1998) (hr : r ≤ 100) (hw : w ≤ 9) : ∃ u, u ≤ e ∧ f_round (nI e) (nI r) (nI w) = nI u := by
  have h1 : e * r ≤ 1998 * 100 := Nat.mul_le_mul he hr
  have h2 : e * r / 100 ≤ e := by
    refine Nat.div_le_of_le_mul ?_
    rw [Nat.mul_comm]
    exact Nat.mul_le_mul_right _ hr
  have h3 : e * r / 100 * (10 - w) ≤ e * 10 := Nat.mul_le_mul h2 (by omega)
  refine ⟨e * r / 100 * (10 - w) / 10, by omega, ?_⟩
  unfold f_round
  have e1 : nI e * nI r / 100 = nI (e * r / 100) := by
    rw [nI_mulL]
    exact pk_div (d := 100) (by omega) (by decide) (by decide)
  have e2 : (10 : Int32) - nI w = nI (10 - w) := pk_sub (a := 10) (by omega)
  rw [e1, e2, nI_mulL]
  exact pk_div (d := 10) (by omega) (by decide) (by decide)
/-- what is gathered is a number -/
theorem gath_n {c : Cn} (hc : Rld 1 161 c σ ρ τ) {s m : Nat} (hs : s < 3) : ∀ n, n ≤ c 1 → ∃ P, P ≤ 1998 * n ∧ am_fold (f_gaM σ s m (σ 162 s)) n 0 0 = nI P
  | 0, _ => ⟨0, Nat.le_refl _, rfl⟩
  | n + 1, h => by
    obtain ⟨P, hP, e⟩ := gath_n hc (m := m) hs n (by omega)
    rw [fold_snoc, e, Nat.zero_add]
    obtain ⟨_, _, _, ⟨w, hw, _, w2⟩, t5⟩ := hc.pr n (by omega)
    obtain ⟨y, hy, _, y2⟩ := t5 s hs
    obtain ⟨hv, hh, _, h2⟩ := hc.rh.2.1 (m % 12) (by omega)
    obtain ⟨r, hr, _, r2⟩ := hc.rh.1 s hs
    have w2 : σ 166 n = nI w := w2
    have y2 : σ 165 (3 * n + s) = nI y := y2
    have h2 : σ 163 (m % 12) = nI hv := h2
    have r2 : σ 162 s = nI r := r2
    unfold f_gaM
    rw [w2, y2, h2, r2]
    obtain ⟨x, hx, ex⟩ := due_n hy hh hr
    rw [ex]
    obtain ⟨u, hu, eu⟩ := round_n hx hr hw
    rw [eu]
    by_cases q : σ 168 n ≤ σ 169 n
    · rw [if_pos q]
      exact ⟨P, by omega, rfl⟩
    · rw [if_neg q, pk_sub hu, nI_add]
      exact ⟨P + (x - u), by omega, rfl⟩
theorem gaM_cg {σ1 : am_I} (h : ∀ y, 162 ≤ y → y < 176 → σ1 y = σ y) (s m : Nat) (r : Int32) : f_gaM σ1 s m r = f_gaM σ s m r := by
  funext p a
  unfold f_gaM
  rw [h 163 (by omega) (by omega), h 165 (by omega) (by omega), h 166 (by omega) (by omega), h 168 (by omega) (by omega), h 169 (by omega) (by omega)]
theorem gaC_cg {σ1 : am_I} (h : ∀ y, y < 34 → σ1 y = σ y) {s m P : Nat} (hP : P ≤ 8) (r : Int32) : am_fold (f_gaC σ1 s m r) P 0 0 = am_fold (f_gaC σ s m r) P 0 0 := by
  refine am_fold_cong _ _ _ (fun p a _ hp => ?_)
  unfold f_gaC
  rw [h 3 (by omega), h (18 + 2 * p) (by omega), h (19 + 2 * p) (by omega)]
def EqT (σ σ1 : am_I) : Prop := EqM σ σ1 ∧ σ1 161 8 = σ 161 8
def FrC (σ σ1 : am_I) : Prop := ∀ y, (y = 0 ∨ 66 ≤ y ∧ y < 135 ∨ 140 ≤ y) → σ1 y = σ y
def FrM (σ σ1 : am_I) : Prop := ∀ y, (y < 161 ∨ 201 ≤ y ∧ y < 214 ∨ 218 ≤ y) → σ1 y = σ y
/-- the two lands after a sort's pot -/
def f_ph (B : Nat → Bool) (W G : Nat → Nat) (D : Nat) (T : Int32) (σ : am_I) : am_I := am_u (am_u (f_seM B W G (f_seC B W G σ 16) D) 1 1 T) 161 8 T
theorem ph_ne {B : Nat → Bool} {W G : Nat → Nat} {D : Nat} {T : Int32} {y : Nat} (h1 : y ≠ 1) (h2 : y ≠ 161) (h3 : y ≠ 176) (h4 : y ≠ 178) (h5 : ∀ i, i < 16 → y ≠ 34 + 2 * i) : f_ph B W G D T σ y = σ y := by
  unfold f_ph
  rw [u_ne _ _ _ _ h2, u_ne _ _ _ _ h1, seM_ne h3 h4, seC_ne 16 h5]
theorem ph_rld {c : Cn} (hc : Rld 1 161 c σ ρ τ) {B : Nat → Bool} {W G : Nat → Nat} {T : Nat} (hT : T ≤ 99999) (hB : ∀ i, B i = true → i < c 2) : Rld 1 161 c (f_ph B W G (c 2) (nI T) σ) ρ τ := by
  have b := hc.bn
  unfold Bn at b
  have n0 : ∀ y, y ≠ 1 → y ≠ 161 → y ≠ 176 → y ≠ 178 → (y < 34 ∨ 66 ≤ y) → f_ph B W G (c 2) (nI T) σ y = σ y := fun y h1 h2 h3 h4 h5 => ph_ne h1 h2 h3 h4 (fun i hi => by omega)
  have n1 : ∀ k, k ≠ 1 → f_ph B W G (c 2) (nI T) σ 1 k = σ 1 k := fun k hk => by
    unfold f_ph
    rw [u_ne _ _ _ _ (by decide), u_nk _ _ _ _ hk, seM_ne (by decide) (by decide), seC_ne 16 (fun i hi => by omega)]
  have n2 : ∀ k, k ≠ 8 → f_ph B W G (c 2) (nI T) σ 161 k = σ 161 k := fun k hk => by
    unfold f_ph
    rw [u_nk _ _ _ _ hk, u_ne _ _ _ _ (by decide), seM_ne (by decide) (by decide), seC_ne 16 (fun i hi => by omega)]
  have n3 : f_ph B W G (c 2) (nI T) σ 1 1 = nI T := by
    unfold f_ph
    rw [u_ne _ _ _ _ (by decide), u_at]
  have n4 : f_ph B W G (c 2) (nI T) σ 161 8 = nI T := by
    unfold f_ph
    rw [u_at]
  refine ⟨hc.bn, ?sc, hc.rh.cg ?_ ?_, hc.pr.cg (by omega) ?_ ?_, ?db, hc.st.cg ?_ ?_, hc.rw.cg ?_ ?_, hc.pa.cg ?_ ?_, hc.tk.cg ?_ ?_, hc.ch.cg ?_ ?_⟩
  case sc =>
    have s := hc.sc
    unfold Scal at s ⊢
    simp only [Nat.reduceAdd] at s ⊢
    rw [n1 0 (by decide), n1 6 (by decide), n1 8 (by decide), n1 11 (by decide), n2 0 (by decide), n2 1 (by decide), n2 2 (by decide), n2 3 (by decide), n2 4 (by decide), n2 5 (by decide), n2 6 (by decide), n2 7 (by decide), n3, n4, n0 10 (by decide) (by decide) (by decide) (by decide) (by decide), n0 12 (by decide) (by decide) (by decide) (by decide) (by decide), n0 14 (by decide) (by decide) (by decide) (by decide) (by decide), n0 16 (by decide) (by decide) (by decide) (by decide) (by decide)]
    exact ⟨s.1, s.2.1, s.2.2.1, s.2.2.2.1, s.2.2.2.2.1, s.2.2.2.2.2.1, s.2.2.2.2.2.2.1, s.2.2.2.2.2.2.2.1, EQ.of hT⟩
  case db =>
    intro i hi
    obtain ⟨t0, t1, t2, t3, t4, t5, t6, t7, t8, t10⟩ := hc.db i hi
    have m0 : ∀ k, k ≠ 6 → k ≠ 7 → f_ph B W G (c 2) (nI T) σ (34 + 2 * i) k = σ (34 + 2 * i) k := fun k h1 h2 => by
      unfold f_ph
      rw [u_ne _ _ _ _ (by omega), u_ne _ _ _ _ (by omega), seM_ne (by omega) (by omega), seC_k h1 h2]
    have m1 : f_ph B W G (c 2) (nI T) σ (35 + 2 * i) = σ (35 + 2 * i) := ph_ne (by omega) (by omega) (by omega) (by omega) (fun j hj => by omega)
    have m6 : f_ph B W G (c 2) (nI T) σ (34 + 2 * i) 6 = if i < 16 ∧ B i = true then nI (min 9999 (W i - G i)) else σ (34 + 2 * i) 6 := by
      unfold f_ph
      rw [u_ne _ _ _ _ (by omega), u_ne _ _ _ _ (by omega), seM_ne (by omega) (by omega)]
      exact (seC_at 16).1
    have m7 : f_ph B W G (c 2) (nI T) σ (34 + 2 * i) 7 = if i < 16 ∧ B i = true then σ (34 + 2 * i) 7 + nI (G i) else σ (34 + 2 * i) 7 := by
      unfold f_ph
      rw [u_ne _ _ _ _ (by omega), u_ne _ _ _ _ (by omega), seM_ne (by omega) (by omega)]
      exact (seC_at 16).2
    have m8 : f_ph B W G (c 2) (nI T) σ 176 i = if i < c 2 ∧ B i = true then nI (min 9999 (W i - G i)) else σ 176 i := by
      unfold f_ph
      rw [u_ne _ _ _ _ (by decide), u_ne _ _ _ _ (by decide), (seM_at (c 2)).1, seC_ne 16 (fun j hj => by omega)]
    have m9 : f_ph B W G (c 2) (nI T) σ 178 i = if i < c 2 ∧ B i = true then σ 178 i + nI (G i) else σ 178 i := by
      unfold f_ph
      rw [u_ne _ _ _ _ (by decide), u_ne _ _ _ _ (by decide), (seM_at (c 2)).2, seC_ne 16 (fun j hj => by omega)]
    have r0 : ∀ y, 170 ≤ y → y < 180 → y ≠ 176 → y ≠ 178 → f_ph B W G (c 2) (nI T) σ y = σ y := fun y h1 h2 h3 h4 => n0 y (by omega) (by omega) h3 h4 (by omega)
    unfold Debt1
    simp only [Nat.reduceAdd] at t0 t1 t2 t3 t4 t5 t6 t7 t8 t10 ⊢
    rw [m0 0 (by decide) (by decide), m0 1 (by decide) (by decide), m0 2 (by decide) (by decide), m0 3 (by decide) (by decide), m0 4 (by decide) (by decide), m0 5 (by decide) (by decide), m0 8 (by decide) (by decide), m1, m6, m7, m8, m9, r0 170 (by decide) (by decide) (by decide) (by decide), r0 171 (by decide) (by decide) (by decide) (by decide), r0 172 (by decide) (by decide) (by decide) (by decide), r0 173 (by decide) (by decide) (by decide) (by decide), r0 174 (by decide) (by decide) (by decide) (by decide), r0 175 (by decide) (by decide) (by decide) (by decide), r0 177 (by decide) (by decide) (by decide) (by decide), r0 179 (by decide) (by decide) (by decide) (by decide)]
    refine ⟨t0, t1, t2, t3, t4, t5, ?_, ?_, t8, t10⟩
    · by_cases q : B i = true
      · rw [if_pos ⟨by omega, q⟩, if_pos ⟨hi, q⟩]
        exact EQ.of (Nat.min_le_left _ _)
      · rw [if_neg (fun h => q h.2), if_neg (fun h => q h.2)]
        exact t6
    · by_cases q : B i = true
      · rw [if_pos ⟨by omega, q⟩, if_pos ⟨hi, q⟩, t7]
      · rw [if_neg (fun h => q h.2), if_neg (fun h => q h.2)]
        exact t7
  all_goals first
    | exact n0 _ (by omega) (by omega) (by omega) (by omega) (by omega)
    | exact fun y h1 h2 => n0 y (by omega) (by omega) (by omega) (by omega) (by omega)
    | exact fun y h1 => n0 y (by omega) (by omega) (by omega) (by omega) (by omega)
end OBK
