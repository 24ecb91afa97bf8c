/-! a copied land is related as what it was copied from -/
section OBV
variable {d : Nat} {σ : am_I} {ρ : am_R} {g : am_J} {τ : am_T} {Q : am_Q}
theorem cp_line {A B v j l : Nat} {σ2 : am_I} {ρ' : am_R} (hj : j < 90) (hv : v < 8) (hl : 261 ≤ l) (h3 : ∀ k, k < 40 → ∀ t, t < lnR k → σ2 (A + k) t = σ (B + k) t) (h4 : ∀ z, 261 ≤ z → σ2 z = σ z) (h5 : ρ' l = ρ l) (h : Line1 B v j l σ ρ τ) : Line1 A v j l σ2 ρ' τ := by
  have r21 : ∀ t, t < 90 → σ2 (A + 21) t = σ (B + 21) t := by
    have t := h3 21 (by decide)
    rw [show lnR 21 = 90 by decide] at t
    exact t
  have r22 : ∀ t, t < 90 → σ2 (A + 22) t = σ (B + 22) t := by
    have t := h3 22 (by decide)
    rw [show lnR 22 = 90 by decide] at t
    exact t
  have r23 : ∀ t, t < 90 → σ2 (A + 23) t = σ (B + 23) t := by
    have t := h3 23 (by decide)
    rw [show lnR 23 = 90 by decide] at t
    exact t
  have r24 : ∀ t, t < 90 → σ2 (A + 24) t = σ (B + 24) t := by
    have t := h3 24 (by decide)
    rw [show lnR 24 = 90 by decide] at t
    exact t
  have r25 : ∀ t, t < 90 → σ2 (A + 25) t = σ (B + 25) t := by
    have t := h3 25 (by decide)
    rw [show lnR 25 = 90 by decide] at t
    exact t
  have r26 : ∀ t, t < 2304 → σ2 (A + 26) t = σ (B + 26) t := by
    have t := h3 26 (by decide)
    rw [show lnR 26 = 2304 by decide] at t
    exact t
  unfold Line1 at h ⊢
  rw [h4 l hl, h5, r21 j hj, r22 j hj, r23 j hj, r24 j hj, r25 j hj]
  obtain ⟨e1, e2, e3, e4, e5, e6, ts, f, e7, e8, e9, e10, e11, e12⟩ := h
  refine ⟨e1, e2, e3, e4, e5, e6, ts, f, e7, e8, e9, e10, fun k hk => ?_, ?_⟩
  · rw [r26 _ (by omega)]
    exact e11 k hk
  · rcases e12 with e | ⟨g1, g2, cd, g3, g4, g5, g6, g7, g8⟩
    · exact Or.inl e
    · refine Or.inr ⟨g1, g2, cd, g3, g4, g5, g6, g7, ?_⟩
      rw [h4 cd g7]
      exact g8
theorem cp_rld {a b A B : Nat} {c : Cn} {σ1 σ2 : am_I} {ρ' : am_R} (ha0 : 1 ≤ a) (ha : a + 65 ≤ 160) (hc : Rld b B c σ ρ τ) (h1 : CpC a b c σ ρ σ1 ρ') (h2 : ∀ z, 1 ≤ z ∧ z < 160 → σ2 z = σ1 z) (h3 : ∀ k, k < 40 → ∀ t, t < lnR k → σ2 (A + k) t = σ (B + k) t) (h4 : ∀ z, 261 ≤ z → σ2 z = σ z) : Rld a A c σ2 ρ' τ := by
  have bn := hc.bn
  unfold Bn at bn
  obtain ⟨_, ⟨s0, s1, s6, s8, s11⟩, ⟨a1, a2, a3⟩, cp, cd, ⟨_, l9, l10⟩, ⟨_, l11, l12⟩, ⟨_, l13, l14⟩, ⟨_, l15, l16⟩, R1, R2⟩ := h1
  have r0 : ∀ t, t < 9 → σ2 (A + 0) t = σ (B + 0) t := by
    have t := h3 0 (by decide)
    rw [show lnR 0 = 9 by decide] at t
    exact t
  have r1 : ∀ t, t < 3 → σ2 (A + 1) t = σ (B + 1) t := by
    have t := h3 1 (by decide)
    rw [show lnR 1 = 3 by decide] at t
    exact t
  have r2 : ∀ t, t < 12 → σ2 (A + 2) t = σ (B + 2) t := by
    have t := h3 2 (by decide)
    rw [show lnR 2 = 12 by decide] at t
    exact t
  have r3 : ∀ t, t < 5 → σ2 (A + 3) t = σ (B + 3) t := by
    have t := h3 3 (by decide)
    rw [show lnR 3 = 5 by decide] at t
    exact t
  have r4 : ∀ t, t < 24 → σ2 (A + 4) t = σ (B + 4) t := by
    have t := h3 4 (by decide)
    rw [show lnR 4 = 24 by decide] at t
    exact t
  have r5 : ∀ t, t < 8 → σ2 (A + 5) t = σ (B + 5) t := by
    have t := h3 5 (by decide)
    rw [show lnR 5 = 8 by decide] at t
    exact t
  have r6 : ∀ t, t < 8 → σ2 (A + 6) t = σ (B + 6) t := by
    have t := h3 6 (by decide)
    rw [show lnR 6 = 8 by decide] at t
    exact t
  have r7 : ∀ t, t < 8 → σ2 (A + 7) t = σ (B + 7) t := by
    have t := h3 7 (by decide)
    rw [show lnR 7 = 8 by decide] at t
    exact t
  have r8 : ∀ t, t < 8 → σ2 (A + 8) t = σ (B + 8) t := by
    have t := h3 8 (by decide)
    rw [show lnR 8 = 8 by decide] at t
    exact t
  have r9 : ∀ t, t < 16 → σ2 (A + 9) t = σ (B + 9) t := by
    have t := h3 9 (by decide)
    rw [show lnR 9 = 16 by decide] at t
    exact t
  have r10 : ∀ t, t < 16 → σ2 (A + 10) t = σ (B + 10) t := by
    have t := h3 10 (by decide)
    rw [show lnR 10 = 16 by decide] at t
    exact t
  have r11 : ∀ t, t < 16 → σ2 (A + 11) t = σ (B + 11) t := by
    have t := h3 11 (by decide)
    rw [show lnR 11 = 16 by decide] at t
    exact t
  have r12 : ∀ t, t < 16 → σ2 (A + 12) t = σ (B + 12) t := by
    have t := h3 12 (by decide)
    rw [show lnR 12 = 16 by decide] at t
    exact t
  have r13 : ∀ t, t < 16 → σ2 (A + 13) t = σ (B + 13) t := by
    have t := h3 13 (by decide)
    rw [show lnR 13 = 16 by decide] at t
    exact t
  have r14 : ∀ t, t < 16 → σ2 (A + 14) t = σ (B + 14) t := by
    have t := h3 14 (by decide)
    rw [show lnR 14 = 16 by decide] at t
    exact t
  have r15 : ∀ t, t < 16 → σ2 (A + 15) t = σ (B + 15) t := by
    have t := h3 15 (by decide)
    rw [show lnR 15 = 16 by decide] at t
    exact t
  have r16 : ∀ t, t < 16 → σ2 (A + 16) t = σ (B + 16) t := by
    have t := h3 16 (by decide)
    rw [show lnR 16 = 16 by decide] at t
    exact t
  have r17 : ∀ t, t < 16 → σ2 (A + 17) t = σ (B + 17) t := by
    have t := h3 17 (by decide)
    rw [show lnR 17 = 16 by decide] at t
    exact t
  have r18 : ∀ t, t < 112 → σ2 (A + 18) t = σ (B + 18) t := by
    have t := h3 18 (by decide)
    rw [show lnR 18 = 112 by decide] at t
    exact t
  have r19 : ∀ t, t < 9 → σ2 (A + 19) t = σ (B + 19) t := by
    have t := h3 19 (by decide)
    rw [show lnR 19 = 9 by decide] at t
    exact t
  have r20 : ∀ t, t < 9 → σ2 (A + 20) t = σ (B + 20) t := by
    have t := h3 20 (by decide)
    rw [show lnR 20 = 9 by decide] at t
    exact t
  have r27 : ∀ t, t < 6 → σ2 (A + 27) t = σ (B + 27) t := by
    have t := h3 27 (by decide)
    rw [show lnR 27 = 6 by decide] at t
    exact t
  have r28 : ∀ t, t < 6 → σ2 (A + 28) t = σ (B + 28) t := by
    have t := h3 28 (by decide)
    rw [show lnR 28 = 6 by decide] at t
    exact t
  have r29 : ∀ t, t < 6 → σ2 (A + 29) t = σ (B + 29) t := by
    have t := h3 29 (by decide)
    rw [show lnR 29 = 6 by decide] at t
    exact t
  have r30 : ∀ t, t < 20 → σ2 (A + 30) t = σ (B + 30) t := by
    have t := h3 30 (by decide)
    rw [show lnR 30 = 20 by decide] at t
    exact t
  have r31 : ∀ t, t < 20 → σ2 (A + 31) t = σ (B + 31) t := by
    have t := h3 31 (by decide)
    rw [show lnR 31 = 20 by decide] at t
    exact t
  have r32 : ∀ t, t < 20 → σ2 (A + 32) t = σ (B + 32) t := by
    have t := h3 32 (by decide)
    rw [show lnR 32 = 20 by decide] at t
    exact t
  have r33 : ∀ t, t < 20 → σ2 (A + 33) t = σ (B + 33) t := by
    have t := h3 33 (by decide)
    rw [show lnR 33 = 20 by decide] at t
    exact t
  have r34 : ∀ t, t < 20 → σ2 (A + 34) t = σ (B + 34) t := by
    have t := h3 34 (by decide)
    rw [show lnR 34 = 20 by decide] at t
    exact t
  have r35 : ∀ t, t < 16 → σ2 (A + 35) t = σ (B + 35) t := by
    have t := h3 35 (by decide)
    rw [show lnR 35 = 16 by decide] at t
    exact t
  have r36 : ∀ t, t < 16 → σ2 (A + 36) t = σ (B + 36) t := by
    have t := h3 36 (by decide)
    rw [show lnR 36 = 16 by decide] at t
    exact t
  have r37 : ∀ t, t < 16 → σ2 (A + 37) t = σ (B + 37) t := by
    have t := h3 37 (by decide)
    rw [show lnR 37 = 16 by decide] at t
    exact t
  have r38 : ∀ t, t < 24 → σ2 (A + 38) t = σ (B + 38) t := by
    have t := h3 38 (by decide)
    rw [show lnR 38 = 24 by decide] at t
    exact t
  have r39 : ∀ t, t < 8 → σ2 (A + 39) t = σ (B + 39) t := by
    have t := h3 39 (by decide)
    rw [show lnR 39 = 8 by decide] at t
    exact t
  have r0 : ∀ t, t < 9 → σ2 A t = σ B t := r0
  refine ⟨hc.bn, ?_, ⟨fun s hs => ?_, fun s hs => ?_, fun s hs => ?_⟩, fun p hp => ?_, fun i hi => ?_, fun v hv => ?_, fun i hi => ?_, fun i hi => ?_, fun i hi => ?_, fun i hi => ?_⟩
  · unfold Scal
    rw [h2 a (by omega), h2 (a + 9) (by omega), h2 (a + 11) (by omega), h2 (a + 13) (by omega), h2 (a + 15) (by omega), s0, s1, s6, s8, s11, l9, l11, l13, l15, r0 0 (by decide), r0 1 (by decide), r0 2 (by decide), r0 3 (by decide), r0 4 (by decide), r0 5 (by decide), r0 6 (by decide), r0 7 (by decide), r0 8 (by decide)]
    exact hc.sc
  · rw [h2 _ (by omega), a1 s hs, r1 s hs]
    exact hc.rh.1 s hs
  · rw [h2 _ (by omega), a2 s hs, r2 s hs]
    exact hc.rh.2.1 s hs
  · rw [h2 _ (by omega), a3 s hs, r3 s hs]
    exact hc.rh.2.2 s hs
  · obtain ⟨q1, q2⟩ := cp p hp
    have t := hc.pr p hp
    rw [h2 (a + 17 + 2 * p) (by omega), h2 (a + 18 + 2 * p) (by omega), q1 0 (by decide), q1 1 (by decide), q1 2 (by decide), q1 3 (by decide), r5 p (by omega), r6 p (by omega), r7 p (by omega), r8 p (by omega)]
    refine ⟨t.1, t.2.1, t.2.2.1, t.2.2.2.1, fun s hs => ?_⟩
    rw [q2 s hs, r4 _ (by omega)]
    exact t.2.2.2.2 s hs
  · obtain ⟨q1, q2⟩ := cd i hi
    have t := hc.db i hi
    unfold Debt1 at t ⊢
    rw [h2 (a + 33 + 2 * i) (by omega), h2 (a + 34 + 2 * i) (by omega), q1 0 (by decide), q1 1 (by decide), q1 2 (by decide), q1 3 (by decide), q1 4 (by decide), q1 5 (by decide), q1 6 (by decide), q1 7 (by decide), q1 8 (by decide), r9 i (by omega), r10 i (by omega), r11 i (by omega), r12 i (by omega), r13 i (by omega), r14 i (by omega), r15 i (by omega), r16 i (by omega), r17 i (by omega)]
    obtain ⟨t0, t1, t2, t3, t4, t5, t6, t7, t8, t9⟩ := t
    refine ⟨t0, t1, t2, t3, t4, t5, t6, t7, t8, fun hz k hk => ?_⟩
    rw [q2 k hk, r18 _ (by omega)]
    exact t9 hz k hk
  · obtain ⟨s, la, n, g1, g2, g3, g4, g5, g6, g7, g8, g9, g10, g11, g12, g13⟩ := hc.st v hv
    refine ⟨s, la, n, (R2 v hv).trans g1, g2, g3, g4, ?_, ?_, g7, g8, g9, g10, g11, ?_, fun i hi => ?_⟩
    · rw [h4 s g2, r19 v (by omega)]
      exact g5
    · rw [R1 s (by omega)]
      exact g6
    · rw [r20 v (by omega)]
      exact g12
    · obtain ⟨l, y1, y2, y3, y4⟩ := g13 i hi
      refine ⟨l, ?_, y2, y3, cp_line (by omega) (by omega) y2 h3 h4 (R1 l (by omega)) y4⟩
      rw [R1 la (by omega)]
      exact y1
  · rw [h2 _ (by omega), l10 _ (by omega), l10 _ (by omega), l10 _ (by omega), r27 i (by omega), r28 i (by omega), r29 i (by omega)]
    exact hc.rw i hi
  · rw [h2 _ (by omega), l12 _ (by omega), l12 _ (by omega), l12 _ (by omega), l12 _ (by omega), l12 _ (by omega), r30 i (by omega), r31 i (by omega), r32 i (by omega), r33 i (by omega), r34 i (by omega)]
    exact hc.pa i hi
  · rw [h2 _ (by omega), l14 _ (by omega), l14 _ (by omega), l14 _ (by omega), r35 i (by omega), r36 i (by omega), r37 i (by omega)]
    exact hc.tk i hi
  · obtain ⟨t1, t2⟩ := hc.ch i hi
    rw [h2 _ (by omega), l16 (4 * i + 3) (by omega), r39 i (by omega)]
    refine ⟨fun k hk => ?_, t2⟩
    rw [l16 _ (by omega), r38 _ (by omega)]
    exact t1 k hk
end OBV
