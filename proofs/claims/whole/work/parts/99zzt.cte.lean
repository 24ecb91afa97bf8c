/-! the relation holds at the start -/
section CTE
variable {xs : Nat → Int32} {L fl d : Nat} {Q : am_Q}
theorem cv {a k : Nat} {v : Int32} (h : a < 1000000) (e : lkS (cS.drop (470 - 470)) a k = v) : usn xs 470 a k = v := (usn_at h).trans e
theorem cv_sh : Sh (urn 315) (utn L fl 261) := by
  have A2 : ∀ e ∈ sh_R, lkR (cR.drop (315 - 315)) e.1 e.2.1 = some e.2.2 := by decide +kernel
  have A3 : ∀ p, p < 8 → lkR (cR.drop (315 - 315)) 5 p = some (18 + 2 * p) ∧ lkR (cR.drop (315 - 315)) 70 p = some (83 + 2 * p) ∧ lkR (cR.drop (315 - 315)) (18 + 2 * p) 4 = some (19 + 2 * p) ∧ lkR (cR.drop (315 - 315)) (83 + 2 * p) 4 = some (84 + 2 * p) := by decide +kernel
  have A4 : ∀ p, p < 16 → lkR (cR.drop (315 - 315)) 6 p = some (34 + 2 * p) ∧ lkR (cR.drop (315 - 315)) 71 p = some (99 + 2 * p) ∧ lkR (cR.drop (315 - 315)) (34 + 2 * p) 9 = some (35 + 2 * p) ∧ lkR (cR.drop (315 - 315)) (99 + 2 * p) 9 = some (100 + 2 * p) := by decide +kernel
  have A5 : ∀ p, p < 4 → lkR (cR.drop (315 - 315)) 148 p = some (149 + p) := by decide +kernel
  have A6 : ∀ p, p < 40 → lkR (cR.drop (315 - 315)) 201 p = some (161 + p) ∧ lkR (cR.drop (315 - 315)) 202 p = some (221 + p) := by decide +kernel
  exact ⟨fun a h => ⟨utn_k h, utn_l h⟩, fun e he => urn_at (A2 e he), fun p hp => ⟨urn_at (A3 p hp).1, urn_at (A3 p hp).2.1, urn_at (A3 p hp).2.2.1, urn_at (A3 p hp).2.2.2⟩, fun p hp => ⟨urn_at (A4 p hp).1, urn_at (A4 p hp).2.1, urn_at (A4 p hp).2.2.1, urn_at (A4 p hp).2.2.2⟩, fun p hp => urn_at (A5 p hp), fun p hp => ⟨urn_at (A6 p hp).1, urn_at (A6 p hp).2⟩, Nat.le_refl _⟩
theorem cv_o {a : Nat} (h : 261 ≤ a) : (utn L fl 261).1 a = (am_τ0 L fl).1 a ∧ (utn L fl 261).2.1 a = (am_τ0 L fl).2.1 a := ⟨if_neg (Nat.not_lt.mpr h), if_neg (Nat.not_lt.mpr h)⟩
theorem cv_t {i : Nat} : (am_τ0 L fl).1 (1000000 + i) = am_oK i ∧ (am_τ0 L fl).2.1 (1000000 + i) = am_oL L fl i := by
  have hB : am_BG = 1000000 := rfl
  have e : 1000000 + i - am_BG = i := by omega
  constructor
  · show (if 1000000 + i < am_BG then 99 else am_oK (1000000 + i - am_BG)) = _
    rw [if_neg (by omega), e]
  · show (if 1000000 + i < am_BG then 0 else am_oL L fl (1000000 + i - am_BG)) = _
    rw [if_neg (by omega), e]
theorem cv_bg : Bgd (usn xs 470) (utn L fl 261) := by
  intro i i1 i2
  have o := us_out (xs := xs) (a := 1000000 + i) (by omega) (cS.drop (470 - 470)) (by decide +kernel)
  obtain ⟨t1, t2⟩ := cv_o (L := L) (fl := fl) (a := 1000000 + i) (by omega)
  obtain ⟨t3, t4⟩ := cv_t (L := L) (fl := fl) (i := i)
  refine ⟨?_, t1.trans t3, (t2.trans t4).trans ?_⟩
  · show us xs (cS.drop (470 - 470)) (1000000 + i) = _
    rw [o, Nat.add_sub_cancel_left]
    funext j
    unfold am_oS
    by_cases h0 : i = 0
    · rw [if_pos h0, if_pos h0]
    rw [if_neg h0, if_neg h0]
    by_cases h1 : i = 1
    · rw [if_pos h1, if_pos h1]
    rw [if_neg h1, if_neg h1, if_neg i1, if_neg i1]
  · unfold am_oL
    by_cases h0 : i = 0
    · rw [if_pos h0, if_pos h0]
    rw [if_neg h0, if_neg h0]
    by_cases h1 : i = 1
    · rw [if_pos h1, if_pos h1]
    have h79 : ¬ i = 79 := by omega
    rw [if_neg h1, if_neg h1, if_neg i1, if_neg i1, if_neg h79, if_neg h79]
theorem cv_inv : INV (usn xs 470) (urn 315) am_g0 (utn L fl 261) := by
  have h1 : ∀ s, s < 3 → lkS (cS.drop (470 - 470)) 2 s = nI 10 ∧ lkS (cS.drop (470 - 470)) 162 s = nI 10 := by decide +kernel
  have h2 : ∀ s, s < 12 → lkS (cS.drop (470 - 470)) 3 s = nI 100 ∧ lkS (cS.drop (470 - 470)) 163 s = nI 100 := by decide +kernel
  have h3 : ∀ s, s < 5 → lkS (cS.drop (470 - 470)) 4 s = nI 0 ∧ lkS (cS.drop (470 - 470)) 164 s = nI 0 := by decide +kernel
  have h4 : ∀ k, k < 4 → lkS (cS.drop (470 - 470)) 146 k = -1 ∧ lkS (cS.drop (470 - 470)) 207 k = -1 ∧ lkS (cS.drop (470 - 470)) 147 k = nI 0 ∧ lkS (cS.drop (470 - 470)) 208 k = nI 0 ∧ lkS (cS.drop (470 - 470)) 153 k = nI 3 ∧ lkS (cS.drop (470 - 470)) 209 k = nI 3 := by decide +kernel
  have h5 : ∀ k, k < 4 → ∀ i, i < 40 → lkS (cS.drop (470 - 470)) (149 + k) i = 0 := by decide +kernel
  refine ⟨⟨cv_sh, cv_bg⟩, ⟨⟨⟨?_, ?_⟩, ⟨?_, ?_⟩, ⟨?_, ?_⟩, ⟨?_, ?_⟩⟩, ⟨⟨?_, ?_⟩, ⟨?_, ?_⟩, ⟨?_, ?_⟩, ⟨?_, ?_⟩⟩⟩, ⟨fun _ => 0, ?_, ?_, ?_, fun p hp => absurd hp (Nat.not_lt_zero _), fun p hp => absurd hp (Nat.not_lt_zero _), fun p hp => absurd hp (Nat.not_lt_zero _), fun p hp => absurd hp (Nat.not_lt_zero _), fun p hp => absurd hp (Nat.not_lt_zero _), fun p hp => absurd hp (Nat.not_lt_zero _), fun p hp => absurd hp (Nat.not_lt_zero _)⟩, Or.inl ⟨?_, ?_⟩, ⟨0, by decide, ?_, ?_, fun i hi => absurd hi (Nat.not_lt_zero _)⟩, ⟨?_, ?_, 0, by decide, ?_, ?_, fun i hi => absurd hi (Nat.not_lt_zero _)⟩, fun k hk => ?_, fun k hk => ?_, ⟨0, by decide, ?_, ?_, fun i hi => absurd hi (Nat.not_lt_zero _)⟩⟩
  iterate 16 exact cv (by decide) (by decide +kernel)
  · show 0 ≤ 599 ∧ 0 ≤ 8 ∧ 0 ≤ 16 ∧ 0 ≤ 8 ∧ 0 ≤ 6 ∧ 0 ≤ 20 ∧ 0 ≤ 16 ∧ 0 ≤ 8
    omega
  · refine ⟨⟨?_, ?_⟩, ⟨?_, ?_⟩, ⟨?_, ?_⟩, ⟨?_, ?_⟩, ⟨?_, ?_⟩, ⟨?_, ?_⟩, ⟨?_, ?_⟩, ⟨?_, ?_⟩, ⟨0, by decide, ?_, ?_⟩⟩
    all_goals exact cv (by decide) (by decide +kernel)
  · exact ⟨fun s hs => ⟨10, by decide, cv (by decide) (h1 s hs).1, cv (by decide) (h1 s hs).2⟩, fun s hs => ⟨100, by decide, cv (by decide) (h2 s hs).1, cv (by decide) (h2 s hs).2⟩, fun s hs => ⟨0, by decide, cv (by decide) (h3 s hs).1, cv (by decide) (h3 s hs).2⟩⟩
  iterate 8 exact cv (by decide) (by decide +kernel)
  · obtain ⟨a1, a2, a3, a4, _, _⟩ := h4 k hk
    have b2 : usn xs 470 207 k = -1 := cv (by decide) a2
    refine ⟨(cv (by decide) a1).trans b2.symm, Or.inl b2, ⟨0, by decide, cv (by decide) a3, cv (by decide) a4⟩, fun i hi => ?_⟩
    rw [cv (xs := xs) (a := 149 + k) (by omega) (h5 k hk i hi)]
    show (0 : Int64) = (0 : Int32).toInt64
    decide
  · obtain ⟨_, _, _, _, a5, a6⟩ := h4 k hk
    have b6 : usn xs 470 209 k = nI 3 := cv (by decide) a6
    refine ⟨⟨3, by decide, cv (by decide) a5, b6⟩, fun q => ?_, fun q => ?_⟩
    · rcases q with q | q
      · exact absurd (b6.symm.trans q) (by decide)
      · exact absurd (b6.symm.trans q) (by decide)
    · exact absurd (b6.symm.trans q) (by decide)
  iterate 2 exact cv (by decide) (by decide +kernel)
theorem st_aw : AW (d + 50) 279 0 [.ref 1000002, am_jk, am_jk, am_jk] [] (am_σ0 xs) am_ρ0 am_g0 (am_τ0 L fl) Q = AW (d + 50) 279 18 [.ref 1000002, .ref 0, .ref 160, .int 0] [] (usn xs 470) (urn 315) am_g0 (utn L fl 261) Q := by
  have e1 : am_σ0 xs = usn xs 0 := by
    have e : cS.drop (470 - 0) = [] := by decide +kernel
    show am_σ0 xs = us xs (cS.drop (470 - 0))
    rw [e]
    rfl
  have e2 : am_ρ0 = urn 0 := by
    have e : cR.drop (315 - 0) = [] := by decide +kernel
    show am_ρ0 = ur (cR.drop (315 - 0))
    rw [e]
    rfl
  have e3 : am_τ0 L fl = utn L fl 0 := by
    have f1 : (fun a => if a < 0 then sh_K.getD a 99 else (am_τ0 L fl).1 a) = (am_τ0 L fl).1 := by
      funext a
      exact if_neg (Nat.not_lt_zero a)
    have f2 : (fun a => if a < 0 then sh_L.getD a 0 else (am_τ0 L fl).2.1 a) = (am_τ0 L fl).2.1 := by
      funext a
      exact if_neg (Nat.not_lt_zero a)
    show _ = ((fun a => if a < 0 then sh_K.getD a 99 else (am_τ0 L fl).1 a), (fun a => if a < 0 then sh_L.getD a 0 else (am_τ0 L fl).2.1 a), 0, (sh_L.take 0).sum)
    rw [f1, f2]
    rfl
  rw [e1, e2, e3]
  simp only [s279_0, s279_3r, s279_4, s279_7r, s279_8, s279_11r, s279_12, s279_15r, s279_16, s279_17r, nw_0, nw_160, x99_1, x164_68, utn_c, ol_s, ol_n, ln_0, ln_1, ln_2, ln_3, ln_4, eq_self, rf_s, rf_n, i01_0, i01_n0, i01_b, b01_0, b01_1, and_self, and_true, true_and, and_false, false_and, if_true, if_false, not_true_eq_false, not_false_eq_true, e10, e00, lt_bg, Nat.reduceLT, Nat.reduceLeDiff]
end CTE
