/-! the law, case by case -/
section LWA
variable {d L i : Nat} {σ : am_I} {ρ : am_R} {g : am_J} {τ : am_T} {Q : am_Q}
/-- what holds at the loop's head -/
def LwP (L i : Nat) (σ : am_I) (ρ : am_R) (g : am_J) (τ : am_T) : Prop := INV σ ρ g τ ∧ τ.1 1000002 = 15 ∧ τ.2.1 1000002 = L ∧ i + 5 ≤ L ∧ L ≤ 2560 ∧ τ.2.2.1 + 22 ≤ 1000000 ∧ ∀ a, 1000000 ≤ a → 13 ≤ τ.1 a
/-- how it goes on -/
def LwK (d L i : Nat) (τ : am_T) (Q : am_Q) : Prop := ∀ (σ' : am_I) (ρ' : am_R) (g' : am_J) (τ' : am_T), INV σ' ρ' g' τ' → τ'.1 1000002 = 15 → τ'.2.1 1000002 = L → τ'.2.2.1 ≤ τ.2.2.1 + 22 → τ'.2.2.2 ≤ τ.2.2.2 + 300 → (∀ a, 1000000 ≤ a → 13 ≤ τ'.1 a) → AW (d + 50) 279 1813 [.ref 1000002, .ref 0, .ref 160, .int (nI i)] [] σ' ρ' g' τ' Q
theorem sm_v {d' k' pc' : Nat} {ls' st' : List Value} {r : Option Value} {τ0 : am_T} {P : am_T → Prop} (h : AW d' k' pc' ls' st' σ ρ g τ (fun r' σ2 ρ2 g2 τ2 => Same τ0 r r' σ2 ρ2 g2 τ2 ∧ P τ2)) : ∃ v : Int32, r = some (.int v) := by
  obtain ⟨n, x, _, h2⟩ := h
  obtain ⟨v, e, _⟩ := h2.1.1
  exact ⟨v, e⟩
theorem lw_0 (P : LwP L i σ ρ g τ) (K : LwK d L i τ Q) : AW (d + 50) 279 228 [.ref 1000002, .ref 0, .ref 160, .int (nI i)] [] σ ρ g τ Q := by
  obtain ⟨h, k15, kL, hi, hL, hN, hk⟩ := P
  have hS := h.sh
  have h261 := hS.2.2.2.2.2.2
  have b1 : am_inb (nI (i + 1)) L = true := inb_n (by omega) (by omega)
  have b2 : am_inb (nI (i + 2)) L = true := inb_n (by omega) (by omega)
  have b3 : am_inb (nI (i + 3)) L = true := inb_n (by omega) (by omega)
  have b4 : am_inb (nI (i + 4)) L = true := inb_n (by omega) (by omega)
  have c1 : (nI (i + 1)).toNatClampNeg = i + 1 := nI_clamp (by omega)
  have c2 : (nI (i + 2)).toNatClampNeg = i + 2 := nI_clamp (by omega)
  have c3 : (nI (i + 3)).toNatClampNeg = i + 3 := nI_clamp (by omega)
  have c4 : (nI (i + 4)).toNatClampNeg = i + 4 := nI_clamp (by omega)
  have a1 : nI i + 1 = nI (i + 1) := nI_add i 1
  have a2 : nI i + 2 = nI (i + 2) := nI_add i 2
  have a3 : nI i + 3 = nI (i + 3) := nI_add i 3
  have a4 : nI i + 4 = nI (i + 4) := nI_add i 4
  simp only [s279_228, s279_229, s279_230, s279_231, s279_232, s279_233, s279_234, k_0 hS, k15, kL, a1, a2, a3, a4, b1, b2, b3, b4, c1, c2, c3, c4, ol_s, ol_n, ln_0, ln_1, ln_2, ln_3, ln_4, eq_self, rf_s, rf_n, i01_0, i01_n0, i01_b, b01_0, b01_1, and_self, and_true, true_and, and_false, false_and, if_true, if_false, not_true_eq_false, not_false_eq_true, e10, e00, lt_bg, Nat.reduceLT, Nat.reduceLeDiff]
  refine AW.mono (aw_two (o_months h) hN hk) (fun r σ1 ρ1 g1 τ1 ⟨f1, f2, f3⟩ => ?_)
  obtain ⟨v, e⟩ := sm_v (P := fun τ2 => ∀ a, am_BG ≤ a → τ2.1 a = τ.1 a) f3
  subst e
  obtain ⟨s1, t1, t2⟩ := f2 1000002 (by decide)
  have t1 := t1.trans k15
  have t2 := t2.trans kL
  have k160 : τ1.1 160 = 12 := (f1 160 (by omega)).trans (k_160 hS)
  simp only [s279_237, s279_238, s279_239, s279_240, s279_241, s279_242, s279_243, k160, t1, t2, s1, a1, a2, a3, a4, b1, b2, b3, b4, c1, c2, c3, c4, ol_s, ol_n, ln_0, ln_1, ln_2, ln_3, ln_4, eq_self, rf_s, rf_n, i01_0, i01_n0, i01_b, b01_0, b01_1, and_self, and_true, true_and, and_false, false_and, if_true, if_false, not_true_eq_false, not_false_eq_true, e10, e00, lt_bg, Nat.reduceLT, Nat.reduceLeDiff]
  refine AW.mono f3 (fun r' σ2 ρ2 g2 τ2 ⟨⟨⟨w, q1, q2⟩, q3, q4, q5, q6, q7⟩, q8⟩ => ?_)
  cases q1
  subst q2
  simp only [s279_246, ol_s, ol_n, ln_0, ln_1, ln_2, ln_3, ln_4, eq_self, rf_s, rf_n, i01_0, i01_n0, i01_b, b01_0, b01_1, and_self, and_true, true_and, and_false, false_and, if_true, if_false, not_true_eq_false, not_false_eq_true, e10, e00, lt_bg, Nat.reduceLT, Nat.reduceLeDiff]
  exact K σ2 ρ2 g2 τ2 q3 (q6.trans k15) (q7.trans kL) q4 q5 (fun a ha => by rw [q8 a ha]; exact hk a ha)
theorem lw_1 (P : LwP L i σ ρ g τ) (K : LwK d L i τ Q) : AW (d + 50) 279 251 [.ref 1000002, .ref 0, .ref 160, .int (nI i)] [] σ ρ g τ Q := by
  obtain ⟨h, k15, kL, hi, hL, hN, hk⟩ := P
  have hS := h.sh
  have h261 := hS.2.2.2.2.2.2
  have b1 : am_inb (nI (i + 1)) L = true := inb_n (by omega) (by omega)
  have b2 : am_inb (nI (i + 2)) L = true := inb_n (by omega) (by omega)
  have b3 : am_inb (nI (i + 3)) L = true := inb_n (by omega) (by omega)
  have b4 : am_inb (nI (i + 4)) L = true := inb_n (by omega) (by omega)
  have c1 : (nI (i + 1)).toNatClampNeg = i + 1 := nI_clamp (by omega)
  have c2 : (nI (i + 2)).toNatClampNeg = i + 2 := nI_clamp (by omega)
  have c3 : (nI (i + 3)).toNatClampNeg = i + 3 := nI_clamp (by omega)
  have c4 : (nI (i + 4)).toNatClampNeg = i + 4 := nI_clamp (by omega)
  have a1 : nI i + 1 = nI (i + 1) := nI_add i 1
  have a2 : nI i + 2 = nI (i + 2) := nI_add i 2
  have a3 : nI i + 3 = nI (i + 3) := nI_add i 3
  have a4 : nI i + 4 = nI (i + 4) := nI_add i 4
  simp only [s279_251, s279_252, s279_253, s279_254, s279_255, s279_256, s279_257, s279_258, s279_259, s279_260, s279_261, s279_262, k_0 hS, k15, kL, a1, a2, a3, a4, b1, b2, b3, b4, c1, c2, c3, c4, ol_s, ol_n, ln_0, ln_1, ln_2, ln_3, ln_4, eq_self, rf_s, rf_n, i01_0, i01_n0, i01_b, b01_0, b01_1, and_self, and_true, true_and, and_false, false_and, if_true, if_false, not_true_eq_false, not_false_eq_true, e10, e00, lt_bg, Nat.reduceLT, Nat.reduceLeDiff]
  refine AW.mono (aw_two (o_province h) hN hk) (fun r σ1 ρ1 g1 τ1 ⟨f1, f2, f3⟩ => ?_)
  obtain ⟨v, e⟩ := sm_v (P := fun τ2 => ∀ a, am_BG ≤ a → τ2.1 a = τ.1 a) f3
  subst e
  obtain ⟨s1, t1, t2⟩ := f2 1000002 (by decide)
  have t1 := t1.trans k15
  have t2 := t2.trans kL
  have k160 : τ1.1 160 = 12 := (f1 160 (by omega)).trans (k_160 hS)
  simp only [s279_265, s279_266, s279_267, s279_268, s279_269, s279_270, s279_271, s279_272, s279_273, s279_274, s279_275, s279_276, k160, t1, t2, s1, a1, a2, a3, a4, b1, b2, b3, b4, c1, c2, c3, c4, ol_s, ol_n, ln_0, ln_1, ln_2, ln_3, ln_4, eq_self, rf_s, rf_n, i01_0, i01_n0, i01_b, b01_0, b01_1, and_self, and_true, true_and, and_false, false_and, if_true, if_false, not_true_eq_false, not_false_eq_true, e10, e00, lt_bg, Nat.reduceLT, Nat.reduceLeDiff]
  refine AW.mono f3 (fun r' σ2 ρ2 g2 τ2 ⟨⟨⟨w, q1, q2⟩, q3, q4, q5, q6, q7⟩, q8⟩ => ?_)
  cases q1
  subst q2
  simp only [s279_279, ol_s, ol_n, ln_0, ln_1, ln_2, ln_3, ln_4, eq_self, rf_s, rf_n, i01_0, i01_n0, i01_b, b01_0, b01_1, and_self, and_true, true_and, and_false, false_and, if_true, if_false, not_true_eq_false, not_false_eq_true, e10, e00, lt_bg, Nat.reduceLT, Nat.reduceLeDiff]
  exact K σ2 ρ2 g2 τ2 q3 (q6.trans k15) (q7.trans kL) q4 q5 (fun a ha => by rw [q8 a ha]; exact hk a ha)
theorem lw_2 (P : LwP L i σ ρ g τ) (K : LwK d L i τ Q) : AW (d + 50) 279 284 [.ref 1000002, .ref 0, .ref 160, .int (nI i)] [] σ ρ g τ Q := by
  obtain ⟨h, k15, kL, hi, hL, hN, hk⟩ := P
  have hS := h.sh
  have h261 := hS.2.2.2.2.2.2
  have b1 : am_inb (nI (i + 1)) L = true := inb_n (by omega) (by omega)
  have b2 : am_inb (nI (i + 2)) L = true := inb_n (by omega) (by omega)
  have b3 : am_inb (nI (i + 3)) L = true := inb_n (by omega) (by omega)
  have b4 : am_inb (nI (i + 4)) L = true := inb_n (by omega) (by omega)
  have c1 : (nI (i + 1)).toNatClampNeg = i + 1 := nI_clamp (by omega)
  have c2 : (nI (i + 2)).toNatClampNeg = i + 2 := nI_clamp (by omega)
  have c3 : (nI (i + 3)).toNatClampNeg = i + 3 := nI_clamp (by omega)
  have c4 : (nI (i + 4)).toNatClampNeg = i + 4 := nI_clamp (by omega)
  have a1 : nI i + 1 = nI (i + 1) := nI_add i 1
  have a2 : nI i + 2 = nI (i + 2) := nI_add i 2
  have a3 : nI i + 3 = nI (i + 3) := nI_add i 3
  have a4 : nI i + 4 = nI (i + 4) := nI_add i 4
  simp only [s279_284, s279_285, s279_286, s279_287, s279_288, s279_289, s279_290, s279_291, s279_292, s279_293, s279_294, s279_295, s279_296, s279_297, s279_298, s279_299, s279_300, k_0 hS, k15, kL, a1, a2, a3, a4, b1, b2, b3, b4, c1, c2, c3, c4, ol_s, ol_n, ln_0, ln_1, ln_2, ln_3, ln_4, eq_self, rf_s, rf_n, i01_0, i01_n0, i01_b, b01_0, b01_1, and_self, and_true, true_and, and_false, false_and, if_true, if_false, not_true_eq_false, not_false_eq_true, e10, e00, lt_bg, Nat.reduceLT, Nat.reduceLeDiff]
  refine AW.mono (aw_two (o_yield1 h) hN hk) (fun r σ1 ρ1 g1 τ1 ⟨f1, f2, f3⟩ => ?_)
  obtain ⟨v, e⟩ := sm_v (P := fun τ2 => ∀ a, am_BG ≤ a → τ2.1 a = τ.1 a) f3
  subst e
  obtain ⟨s1, t1, t2⟩ := f2 1000002 (by decide)
  have t1 := t1.trans k15
  have t2 := t2.trans kL
  have k160 : τ1.1 160 = 12 := (f1 160 (by omega)).trans (k_160 hS)
  simp only [s279_303, s279_304, s279_305, s279_306, s279_307, s279_308, s279_309, s279_310, s279_311, s279_312, s279_313, s279_314, s279_315, s279_316, s279_317, s279_318, s279_319, k160, t1, t2, s1, a1, a2, a3, a4, b1, b2, b3, b4, c1, c2, c3, c4, ol_s, ol_n, ln_0, ln_1, ln_2, ln_3, ln_4, eq_self, rf_s, rf_n, i01_0, i01_n0, i01_b, b01_0, b01_1, and_self, and_true, true_and, and_false, false_and, if_true, if_false, not_true_eq_false, not_false_eq_true, e10, e00, lt_bg, Nat.reduceLT, Nat.reduceLeDiff]
  refine AW.mono f3 (fun r' σ2 ρ2 g2 τ2 ⟨⟨⟨w, q1, q2⟩, q3, q4, q5, q6, q7⟩, q8⟩ => ?_)
  cases q1
  subst q2
  simp only [s279_322, ol_s, ol_n, ln_0, ln_1, ln_2, ln_3, ln_4, eq_self, rf_s, rf_n, i01_0, i01_n0, i01_b, b01_0, b01_1, and_self, and_true, true_and, and_false, false_and, if_true, if_false, not_true_eq_false, not_false_eq_true, e10, e00, lt_bg, Nat.reduceLT, Nat.reduceLeDiff]
  exact K σ2 ρ2 g2 τ2 q3 (q6.trans k15) (q7.trans kL) q4 q5 (fun a ha => by rw [q8 a ha]; exact hk a ha)
theorem lw_3 (P : LwP L i σ ρ g τ) (K : LwK d L i τ Q) : AW (d + 50) 279 327 [.ref 1000002, .ref 0, .ref 160, .int (nI i)] [] σ ρ g τ Q := by
  obtain ⟨h, k15, kL, hi, hL, hN, hk⟩ := P
  have hS := h.sh
  have h261 := hS.2.2.2.2.2.2
  have b1 : am_inb (nI (i + 1)) L = true := inb_n (by omega) (by omega)
  have b2 : am_inb (nI (i + 2)) L = true := inb_n (by omega) (by omega)
  have b3 : am_inb (nI (i + 3)) L = true := inb_n (by omega) (by omega)
  have b4 : am_inb (nI (i + 4)) L = true := inb_n (by omega) (by omega)
  have c1 : (nI (i + 1)).toNatClampNeg = i + 1 := nI_clamp (by omega)
  have c2 : (nI (i + 2)).toNatClampNeg = i + 2 := nI_clamp (by omega)
  have c3 : (nI (i + 3)).toNatClampNeg = i + 3 := nI_clamp (by omega)
  have c4 : (nI (i + 4)).toNatClampNeg = i + 4 := nI_clamp (by omega)
  have a1 : nI i + 1 = nI (i + 1) := nI_add i 1
  have a2 : nI i + 2 = nI (i + 2) := nI_add i 2
  have a3 : nI i + 3 = nI (i + 3) := nI_add i 3
  have a4 : nI i + 4 = nI (i + 4) := nI_add i 4
  simp only [s279_327, s279_328, s279_329, s279_330, s279_331, s279_332, s279_333, s279_334, s279_335, s279_336, s279_337, s279_338, s279_339, s279_340, s279_341, s279_342, s279_343, k_0 hS, k15, kL, a1, a2, a3, a4, b1, b2, b3, b4, c1, c2, c3, c4, ol_s, ol_n, ln_0, ln_1, ln_2, ln_3, ln_4, eq_self, rf_s, rf_n, i01_0, i01_n0, i01_b, b01_0, b01_1, and_self, and_true, true_and, and_false, false_and, if_true, if_false, not_true_eq_false, not_false_eq_true, e10, e00, lt_bg, Nat.reduceLT, Nat.reduceLeDiff]
  refine AW.mono (aw_two (o_yields h) hN hk) (fun r σ1 ρ1 g1 τ1 ⟨f1, f2, f3⟩ => ?_)
  obtain ⟨v, e⟩ := sm_v (P := fun τ2 => ∀ a, am_BG ≤ a → τ2.1 a = τ.1 a) f3
  subst e
  obtain ⟨s1, t1, t2⟩ := f2 1000002 (by decide)
  have t1 := t1.trans k15
  have t2 := t2.trans kL
  have k160 : τ1.1 160 = 12 := (f1 160 (by omega)).trans (k_160 hS)
  simp only [s279_346, s279_347, s279_348, s279_349, s279_350, s279_351, s279_352, s279_353, s279_354, s279_355, s279_356, s279_357, s279_358, s279_359, s279_360, s279_361, s279_362, k160, t1, t2, s1, a1, a2, a3, a4, b1, b2, b3, b4, c1, c2, c3, c4, ol_s, ol_n, ln_0, ln_1, ln_2, ln_3, ln_4, eq_self, rf_s, rf_n, i01_0, i01_n0, i01_b, b01_0, b01_1, and_self, and_true, true_and, and_false, false_and, if_true, if_false, not_true_eq_false, not_false_eq_true, e10, e00, lt_bg, Nat.reduceLT, Nat.reduceLeDiff]
  refine AW.mono f3 (fun r' σ2 ρ2 g2 τ2 ⟨⟨⟨w, q1, q2⟩, q3, q4, q5, q6, q7⟩, q8⟩ => ?_)
  cases q1
  subst q2
  simp only [s279_365, ol_s, ol_n, ln_0, ln_1, ln_2, ln_3, ln_4, eq_self, rf_s, rf_n, i01_0, i01_n0, i01_b, b01_0, b01_1, and_self, and_true, true_and, and_false, false_and, if_true, if_false, not_true_eq_false, not_false_eq_true, e10, e00, lt_bg, Nat.reduceLT, Nat.reduceLeDiff]
  exact K σ2 ρ2 g2 τ2 q3 (q6.trans k15) (q7.trans kL) q4 q5 (fun a ha => by rw [q8 a ha]; exact hk a ha)
theorem lw_4 (P : LwP L i σ ρ g τ) (K : LwK d L i τ Q) : AW (d + 50) 279 370 [.ref 1000002, .ref 0, .ref 160, .int (nI i)] [] σ ρ g τ Q := by
  obtain ⟨h, k15, kL, hi, hL, hN, hk⟩ := P
  have hS := h.sh
  have h261 := hS.2.2.2.2.2.2
  have b1 : am_inb (nI (i + 1)) L = true := inb_n (by omega) (by omega)
  have b2 : am_inb (nI (i + 2)) L = true := inb_n (by omega) (by omega)
  have b3 : am_inb (nI (i + 3)) L = true := inb_n (by omega) (by omega)
  have b4 : am_inb (nI (i + 4)) L = true := inb_n (by omega) (by omega)
  have c1 : (nI (i + 1)).toNatClampNeg = i + 1 := nI_clamp (by omega)
  have c2 : (nI (i + 2)).toNatClampNeg = i + 2 := nI_clamp (by omega)
  have c3 : (nI (i + 3)).toNatClampNeg = i + 3 := nI_clamp (by omega)
  have c4 : (nI (i + 4)).toNatClampNeg = i + 4 := nI_clamp (by omega)
  have a1 : nI i + 1 = nI (i + 1) := nI_add i 1
  have a2 : nI i + 2 = nI (i + 2) := nI_add i 2
  have a3 : nI i + 3 = nI (i + 3) := nI_add i 3
  have a4 : nI i + 4 = nI (i + 4) := nI_add i 4
  simp only [s279_370, s279_371, s279_372, s279_373, s279_374, s279_375, s279_376, s279_377, s279_378, s279_379, s279_380, s279_381, k_0 hS, k15, kL, a1, a2, a3, a4, b1, b2, b3, b4, c1, c2, c3, c4, ol_s, ol_n, ln_0, ln_1, ln_2, ln_3, ln_4, eq_self, rf_s, rf_n, i01_0, i01_n0, i01_b, b01_0, b01_1, and_self, and_true, true_and, and_false, false_and, if_true, if_false, not_true_eq_false, not_false_eq_true, e10, e00, lt_bg, Nat.reduceLT, Nat.reduceLeDiff]
  refine AW.mono (aw_two (o_guards h) hN hk) (fun r σ1 ρ1 g1 τ1 ⟨f1, f2, f3⟩ => ?_)
  obtain ⟨v, e⟩ := sm_v (P := fun τ2 => ∀ a, am_BG ≤ a → τ2.1 a = τ.1 a) f3
  subst e
  obtain ⟨s1, t1, t2⟩ := f2 1000002 (by decide)
  have t1 := t1.trans k15
  have t2 := t2.trans kL
  have k160 : τ1.1 160 = 12 := (f1 160 (by omega)).trans (k_160 hS)
  simp only [s279_384, s279_385, s279_386, s279_387, s279_388, s279_389, s279_390, s279_391, s279_392, s279_393, s279_394, s279_395, k160, t1, t2, s1, a1, a2, a3, a4, b1, b2, b3, b4, c1, c2, c3, c4, ol_s, ol_n, ln_0, ln_1, ln_2, ln_3, ln_4, eq_self, rf_s, rf_n, i01_0, i01_n0, i01_b, b01_0, b01_1, and_self, and_true, true_and, and_false, false_and, if_true, if_false, not_true_eq_false, not_false_eq_true, e10, e00, lt_bg, Nat.reduceLT, Nat.reduceLeDiff]
  refine AW.mono f3 (fun r' σ2 ρ2 g2 τ2 ⟨⟨⟨w, q1, q2⟩, q3, q4, q5, q6, q7⟩, q8⟩ => ?_)
  cases q1
  subst q2
  simp only [s279_398, ol_s, ol_n, ln_0, ln_1, ln_2, ln_3, ln_4, eq_self, rf_s, rf_n, i01_0, i01_n0, i01_b, b01_0, b01_1, and_self, and_true, true_and, and_false, false_and, if_true, if_false, not_true_eq_false, not_false_eq_true, e10, e00, lt_bg, Nat.reduceLT, Nat.reduceLeDiff]
  exact K σ2 ρ2 g2 τ2 q3 (q6.trans k15) (q7.trans kL) q4 q5 (fun a ha => by rw [q8 a ha]; exact hk a ha)
theorem lw_5 (P : LwP L i σ ρ g τ) (K : LwK d L i τ Q) : AW (d + 50) 279 403 [.ref 1000002, .ref 0, .ref 160, .int (nI i)] [] σ ρ g τ Q := by
  obtain ⟨h, k15, kL, hi, hL, hN, hk⟩ := P
  have hS := h.sh
  have h261 := hS.2.2.2.2.2.2
  have b1 : am_inb (nI (i + 1)) L = true := inb_n (by omega) (by omega)
  have b2 : am_inb (nI (i + 2)) L = true := inb_n (by omega) (by omega)
  have b3 : am_inb (nI (i + 3)) L = true := inb_n (by omega) (by omega)
  have b4 : am_inb (nI (i + 4)) L = true := inb_n (by omega) (by omega)
  have c1 : (nI (i + 1)).toNatClampNeg = i + 1 := nI_clamp (by omega)
  have c2 : (nI (i + 2)).toNatClampNeg = i + 2 := nI_clamp (by omega)
  have c3 : (nI (i + 3)).toNatClampNeg = i + 3 := nI_clamp (by omega)
  have c4 : (nI (i + 4)).toNatClampNeg = i + 4 := nI_clamp (by omega)
  have a1 : nI i + 1 = nI (i + 1) := nI_add i 1
  have a2 : nI i + 2 = nI (i + 2) := nI_add i 2
  have a3 : nI i + 3 = nI (i + 3) := nI_add i 3
  have a4 : nI i + 4 = nI (i + 4) := nI_add i 4
  simp only [s279_403, s279_404, s279_405, s279_406, s279_407, s279_408, s279_409, s279_410, s279_411, s279_412, s279_413, s279_414, k_0 hS, k15, kL, a1, a2, a3, a4, b1, b2, b3, b4, c1, c2, c3, c4, ol_s, ol_n, ln_0, ln_1, ln_2, ln_3, ln_4, eq_self, rf_s, rf_n, i01_0, i01_n0, i01_b, b01_0, b01_1, and_self, and_true, true_and, and_false, false_and, if_true, if_false, not_true_eq_false, not_false_eq_true, e10, e00, lt_bg, Nat.reduceLT, Nat.reduceLeDiff]
  refine AW.mono (aw_two (o_rate h) hN hk) (fun r σ1 ρ1 g1 τ1 ⟨f1, f2, f3⟩ => ?_)
  obtain ⟨v, e⟩ := sm_v (P := fun τ2 => ∀ a, am_BG ≤ a → τ2.1 a = τ.1 a) f3
  subst e
  obtain ⟨s1, t1, t2⟩ := f2 1000002 (by decide)
  have t1 := t1.trans k15
  have t2 := t2.trans kL
  have k160 : τ1.1 160 = 12 := (f1 160 (by omega)).trans (k_160 hS)
  simp only [s279_417, s279_418, s279_419, s279_420, s279_421, s279_422, s279_423, s279_424, s279_425, s279_426, s279_427, s279_428, k160, t1, t2, s1, a1, a2, a3, a4, b1, b2, b3, b4, c1, c2, c3, c4, ol_s, ol_n, ln_0, ln_1, ln_2, ln_3, ln_4, eq_self, rf_s, rf_n, i01_0, i01_n0, i01_b, b01_0, b01_1, and_self, and_true, true_and, and_false, false_and, if_true, if_false, not_true_eq_false, not_false_eq_true, e10, e00, lt_bg, Nat.reduceLT, Nat.reduceLeDiff]
  refine AW.mono f3 (fun r' σ2 ρ2 g2 τ2 ⟨⟨⟨w, q1, q2⟩, q3, q4, q5, q6, q7⟩, q8⟩ => ?_)
  cases q1
  subst q2
  simp only [s279_431, ol_s, ol_n, ln_0, ln_1, ln_2, ln_3, ln_4, eq_self, rf_s, rf_n, i01_0, i01_n0, i01_b, b01_0, b01_1, and_self, and_true, true_and, and_false, false_and, if_true, if_false, not_true_eq_false, not_false_eq_true, e10, e00, lt_bg, Nat.reduceLT, Nat.reduceLeDiff]
  exact K σ2 ρ2 g2 τ2 q3 (q6.trans k15) (q7.trans kL) q4 q5 (fun a ha => by rw [q8 a ha]; exact hk a ha)
theorem lw_6 (P : LwP L i σ ρ g τ) (K : LwK d L i τ Q) : AW (d + 50) 279 436 [.ref 1000002, .ref 0, .ref 160, .int (nI i)] [] σ ρ g τ Q := by
  obtain ⟨h, k15, kL, hi, hL, hN, hk⟩ := P
  have hS := h.sh
  have h261 := hS.2.2.2.2.2.2
  have b1 : am_inb (nI (i + 1)) L = true := inb_n (by omega) (by omega)
  have b2 : am_inb (nI (i + 2)) L = true := inb_n (by omega) (by omega)
  have b3 : am_inb (nI (i + 3)) L = true := inb_n (by omega) (by omega)
  have b4 : am_inb (nI (i + 4)) L = true := inb_n (by omega) (by omega)
  have c1 : (nI (i + 1)).toNatClampNeg = i + 1 := nI_clamp (by omega)
  have c2 : (nI (i + 2)).toNatClampNeg = i + 2 := nI_clamp (by omega)
  have c3 : (nI (i + 3)).toNatClampNeg = i + 3 := nI_clamp (by omega)
  have c4 : (nI (i + 4)).toNatClampNeg = i + 4 := nI_clamp (by omega)
  have a1 : nI i + 1 = nI (i + 1) := nI_add i 1
  have a2 : nI i + 2 = nI (i + 2) := nI_add i 2
  have a3 : nI i + 3 = nI (i + 3) := nI_add i 3
  have a4 : nI i + 4 = nI (i + 4) := nI_add i 4
  simp only [s279_436, s279_437, s279_438, s279_439, s279_440, s279_441, s279_442, s279_443, s279_444, s279_445, s279_446, s279_447, k_0 hS, k15, kL, a1, a2, a3, a4, b1, b2, b3, b4, c1, c2, c3, c4, ol_s, ol_n, ln_0, ln_1, ln_2, ln_3, ln_4, eq_self, rf_s, rf_n, i01_0, i01_n0, i01_b, b01_0, b01_1, and_self, and_true, true_and, and_false, false_and, if_true, if_false, not_true_eq_false, not_false_eq_true, e10, e00, lt_bg, Nat.reduceLT, Nat.reduceLeDiff]
  refine AW.mono (aw_two (o_harvest h) hN hk) (fun r σ1 ρ1 g1 τ1 ⟨f1, f2, f3⟩ => ?_)
  obtain ⟨v, e⟩ := sm_v (P := fun τ2 => ∀ a, am_BG ≤ a → τ2.1 a = τ.1 a) f3
  subst e
  obtain ⟨s1, t1, t2⟩ := f2 1000002 (by decide)
  have t1 := t1.trans k15
  have t2 := t2.trans kL
  have k160 : τ1.1 160 = 12 := (f1 160 (by omega)).trans (k_160 hS)
  simp only [s279_450, s279_451, s279_452, s279_453, s279_454, s279_455, s279_456, s279_457, s279_458, s279_459, s279_460, s279_461, k160, t1, t2, s1, a1, a2, a3, a4, b1, b2, b3, b4, c1, c2, c3, c4, ol_s, ol_n, ln_0, ln_1, ln_2, ln_3, ln_4, eq_self, rf_s, rf_n, i01_0, i01_n0, i01_b, b01_0, b01_1, and_self, and_true, true_and, and_false, false_and, if_true, if_false, not_true_eq_false, not_false_eq_true, e10, e00, lt_bg, Nat.reduceLT, Nat.reduceLeDiff]
  refine AW.mono f3 (fun r' σ2 ρ2 g2 τ2 ⟨⟨⟨w, q1, q2⟩, q3, q4, q5, q6, q7⟩, q8⟩ => ?_)
  cases q1
  subst q2
  simp only [s279_464, ol_s, ol_n, ln_0, ln_1, ln_2, ln_3, ln_4, eq_self, rf_s, rf_n, i01_0, i01_n0, i01_b, b01_0, b01_1, and_self, and_true, true_and, and_false, false_and, if_true, if_false, not_true_eq_false, not_false_eq_true, e10, e00, lt_bg, Nat.reduceLT, Nat.reduceLeDiff]
  exact K σ2 ρ2 g2 τ2 q3 (q6.trans k15) (q7.trans kL) q4 q5 (fun a ha => by rw [q8 a ha]; exact hk a ha)
theorem lw_7 (P : LwP L i σ ρ g τ) (K : LwK d L i τ Q) : AW (d + 50) 279 469 [.ref 1000002, .ref 0, .ref 160, .int (nI i)] [] σ ρ g τ Q := by
  obtain ⟨h, k15, kL, hi, hL, hN, hk⟩ := P
  have hS := h.sh
  have h261 := hS.2.2.2.2.2.2
  have b1 : am_inb (nI (i + 1)) L = true := inb_n (by omega) (by omega)
  have b2 : am_inb (nI (i + 2)) L = true := inb_n (by omega) (by omega)
  have b3 : am_inb (nI (i + 3)) L = true := inb_n (by omega) (by omega)
  have b4 : am_inb (nI (i + 4)) L = true := inb_n (by omega) (by omega)
  have c1 : (nI (i + 1)).toNatClampNeg = i + 1 := nI_clamp (by omega)
  have c2 : (nI (i + 2)).toNatClampNeg = i + 2 := nI_clamp (by omega)
  have c3 : (nI (i + 3)).toNatClampNeg = i + 3 := nI_clamp (by omega)
  have c4 : (nI (i + 4)).toNatClampNeg = i + 4 := nI_clamp (by omega)
  have a1 : nI i + 1 = nI (i + 1) := nI_add i 1
  have a2 : nI i + 2 = nI (i + 2) := nI_add i 2
  have a3 : nI i + 3 = nI (i + 3) := nI_add i 3
  have a4 : nI i + 4 = nI (i + 4) := nI_add i 4
  simp only [s279_469, s279_470, s279_471, s279_472, s279_473, s279_474, s279_475, s279_476, s279_477, s279_478, s279_479, s279_480, s279_481, s279_482, s279_483, s279_484, s279_485, s279_486, s279_487, s279_488, s279_489, s279_490, k_0 hS, k15, kL, a1, a2, a3, a4, b1, b2, b3, b4, c1, c2, c3, c4, ol_s, ol_n, ln_0, ln_1, ln_2, ln_3, ln_4, eq_self, rf_s, rf_n, i01_0, i01_n0, i01_b, b01_0, b01_1, and_self, and_true, true_and, and_false, false_and, if_true, if_false, not_true_eq_false, not_false_eq_true, e10, e00, lt_bg, Nat.reduceLT, Nat.reduceLeDiff]
  refine AW.mono (aw_two (o_gather h) hN hk) (fun r σ1 ρ1 g1 τ1 ⟨f1, f2, f3⟩ => ?_)
  obtain ⟨v, e⟩ := sm_v (P := fun τ2 => ∀ a, am_BG ≤ a → τ2.1 a = τ.1 a) f3
  subst e
  obtain ⟨s1, t1, t2⟩ := f2 1000002 (by decide)
  have t1 := t1.trans k15
  have t2 := t2.trans kL
  have k160 : τ1.1 160 = 12 := (f1 160 (by omega)).trans (k_160 hS)
  simp only [s279_493, s279_494, s279_495, s279_496, s279_497, s279_498, s279_499, s279_500, s279_501, s279_502, s279_503, s279_504, s279_505, s279_506, s279_507, s279_508, s279_509, s279_510, s279_511, s279_512, s279_513, s279_514, k160, t1, t2, s1, a1, a2, a3, a4, b1, b2, b3, b4, c1, c2, c3, c4, ol_s, ol_n, ln_0, ln_1, ln_2, ln_3, ln_4, eq_self, rf_s, rf_n, i01_0, i01_n0, i01_b, b01_0, b01_1, and_self, and_true, true_and, and_false, false_and, if_true, if_false, not_true_eq_false, not_false_eq_true, e10, e00, lt_bg, Nat.reduceLT, Nat.reduceLeDiff]
  refine AW.mono f3 (fun r' σ2 ρ2 g2 τ2 ⟨⟨⟨w, q1, q2⟩, q3, q4, q5, q6, q7⟩, q8⟩ => ?_)
  cases q1
  subst q2
  simp only [s279_517, ol_s, ol_n, ln_0, ln_1, ln_2, ln_3, ln_4, eq_self, rf_s, rf_n, i01_0, i01_n0, i01_b, b01_0, b01_1, and_self, and_true, true_and, and_false, false_and, if_true, if_false, not_true_eq_false, not_false_eq_true, e10, e00, lt_bg, Nat.reduceLT, Nat.reduceLeDiff]
  exact K σ2 ρ2 g2 τ2 q3 (q6.trans k15) (q7.trans kL) q4 q5 (fun a ha => by rw [q8 a ha]; exact hk a ha)
theorem lw_8 (P : LwP L i σ ρ g τ) (K : LwK d L i τ Q) : AW (d + 50) 279 522 [.ref 1000002, .ref 0, .ref 160, .int (nI i)] [] σ ρ g τ Q := by
  obtain ⟨h, k15, kL, hi, hL, hN, hk⟩ := P
  have hS := h.sh
  have h261 := hS.2.2.2.2.2.2
  have b1 : am_inb (nI (i + 1)) L = true := inb_n (by omega) (by omega)
  have b2 : am_inb (nI (i + 2)) L = true := inb_n (by omega) (by omega)
  have b3 : am_inb (nI (i + 3)) L = true := inb_n (by omega) (by omega)
  have b4 : am_inb (nI (i + 4)) L = true := inb_n (by omega) (by omega)
  have c1 : (nI (i + 1)).toNatClampNeg = i + 1 := nI_clamp (by omega)
  have c2 : (nI (i + 2)).toNatClampNeg = i + 2 := nI_clamp (by omega)
  have c3 : (nI (i + 3)).toNatClampNeg = i + 3 := nI_clamp (by omega)
  have c4 : (nI (i + 4)).toNatClampNeg = i + 4 := nI_clamp (by omega)
  have a1 : nI i + 1 = nI (i + 1) := nI_add i 1
  have a2 : nI i + 2 = nI (i + 2) := nI_add i 2
  have a3 : nI i + 3 = nI (i + 3) := nI_add i 3
  have a4 : nI i + 4 = nI (i + 4) := nI_add i 4
  simp only [s279_522, s279_523, s279_524, s279_525, s279_526, s279_527, s279_528, s279_529, s279_530, s279_531, s279_532, s279_533, s279_534, s279_535, s279_536, s279_537, s279_538, k_0 hS, k15, kL, a1, a2, a3, a4, b1, b2, b3, b4, c1, c2, c3, c4, ol_s, ol_n, ln_0, ln_1, ln_2, ln_3, ln_4, eq_self, rf_s, rf_n, i01_0, i01_n0, i01_b, b01_0, b01_1, and_self, and_true, true_and, and_false, false_and, if_true, if_false, not_true_eq_false, not_false_eq_true, e10, e00, lt_bg, Nat.reduceLT, Nat.reduceLeDiff]
  refine AW.mono (aw_two (o_bestRate h) hN hk) (fun r σ1 ρ1 g1 τ1 ⟨f1, f2, f3⟩ => ?_)
  obtain ⟨v, e⟩ := sm_v (P := fun τ2 => ∀ a, am_BG ≤ a → τ2.1 a = τ.1 a) f3
  subst e
  obtain ⟨s1, t1, t2⟩ := f2 1000002 (by decide)
  have t1 := t1.trans k15
  have t2 := t2.trans kL
  have k160 : τ1.1 160 = 12 := (f1 160 (by omega)).trans (k_160 hS)
  simp only [s279_541, s279_542, s279_543, s279_544, s279_545, s279_546, s279_547, s279_548, s279_549, s279_550, s279_551, s279_552, s279_553, s279_554, s279_555, s279_556, s279_557, k160, t1, t2, s1, a1, a2, a3, a4, b1, b2, b3, b4, c1, c2, c3, c4, ol_s, ol_n, ln_0, ln_1, ln_2, ln_3, ln_4, eq_self, rf_s, rf_n, i01_0, i01_n0, i01_b, b01_0, b01_1, and_self, and_true, true_and, and_false, false_and, if_true, if_false, not_true_eq_false, not_false_eq_true, e10, e00, lt_bg, Nat.reduceLT, Nat.reduceLeDiff]
  refine AW.mono f3 (fun r' σ2 ρ2 g2 τ2 ⟨⟨⟨w, q1, q2⟩, q3, q4, q5, q6, q7⟩, q8⟩ => ?_)
  cases q1
  subst q2
  simp only [s279_560, ol_s, ol_n, ln_0, ln_1, ln_2, ln_3, ln_4, eq_self, rf_s, rf_n, i01_0, i01_n0, i01_b, b01_0, b01_1, and_self, and_true, true_and, and_false, false_and, if_true, if_false, not_true_eq_false, not_false_eq_true, e10, e00, lt_bg, Nat.reduceLT, Nat.reduceLeDiff]
  exact K σ2 ρ2 g2 τ2 q3 (q6.trans k15) (q7.trans kL) q4 q5 (fun a ha => by rw [q8 a ha]; exact hk a ha)
theorem lw_9 (P : LwP L i σ ρ g τ) (K : LwK d L i τ Q) : AW (d + 50) 279 565 [.ref 1000002, .ref 0, .ref 160, .int (nI i)] [] σ ρ g τ Q := by
  obtain ⟨h, k15, kL, hi, hL, hN, hk⟩ := P
  have hS := h.sh
  have h261 := hS.2.2.2.2.2.2
  have b1 : am_inb (nI (i + 1)) L = true := inb_n (by omega) (by omega)
  have b2 : am_inb (nI (i + 2)) L = true := inb_n (by omega) (by omega)
  have b3 : am_inb (nI (i + 3)) L = true := inb_n (by omega) (by omega)
  have b4 : am_inb (nI (i + 4)) L = true := inb_n (by omega) (by omega)
  have c1 : (nI (i + 1)).toNatClampNeg = i + 1 := nI_clamp (by omega)
  have c2 : (nI (i + 2)).toNatClampNeg = i + 2 := nI_clamp (by omega)
  have c3 : (nI (i + 3)).toNatClampNeg = i + 3 := nI_clamp (by omega)
  have c4 : (nI (i + 4)).toNatClampNeg = i + 4 := nI_clamp (by omega)
  have a1 : nI i + 1 = nI (i + 1) := nI_add i 1
  have a2 : nI i + 2 = nI (i + 2) := nI_add i 2
  have a3 : nI i + 3 = nI (i + 3) := nI_add i 3
  have a4 : nI i + 4 = nI (i + 4) := nI_add i 4
  simp only [s279_565, s279_566, s279_567, s279_568, s279_569, s279_570, s279_571, s279_572, s279_573, s279_574, s279_575, s279_576, s279_577, s279_578, s279_579, s279_580, s279_581, k_0 hS, k15, kL, a1, a2, a3, a4, b1, b2, b3, b4, c1, c2, c3, c4, ol_s, ol_n, ln_0, ln_1, ln_2, ln_3, ln_4, eq_self, rf_s, rf_n, i01_0, i01_n0, i01_b, b01_0, b01_1, and_self, and_true, true_and, and_false, false_and, if_true, if_false, not_true_eq_false, not_false_eq_true, e10, e00, lt_bg, Nat.reduceLT, Nat.reduceLeDiff]
  refine AW.mono (aw_two (o_least h) hN hk) (fun r σ1 ρ1 g1 τ1 ⟨f1, f2, f3⟩ => ?_)
  obtain ⟨v, e⟩ := sm_v (P := fun τ2 => ∀ a, am_BG ≤ a → τ2.1 a = τ.1 a) f3
  subst e
  obtain ⟨s1, t1, t2⟩ := f2 1000002 (by decide)
  have t1 := t1.trans k15
  have t2 := t2.trans kL
  have k160 : τ1.1 160 = 12 := (f1 160 (by omega)).trans (k_160 hS)
  simp only [s279_584, s279_585, s279_586, s279_587, s279_588, s279_589, s279_590, s279_591, s279_592, s279_593, s279_594, s279_595, s279_596, s279_597, s279_598, s279_599, s279_600, k160, t1, t2, s1, a1, a2, a3, a4, b1, b2, b3, b4, c1, c2, c3, c4, ol_s, ol_n, ln_0, ln_1, ln_2, ln_3, ln_4, eq_self, rf_s, rf_n, i01_0, i01_n0, i01_b, b01_0, b01_1, and_self, and_true, true_and, and_false, false_and, if_true, if_false, not_true_eq_false, not_false_eq_true, e10, e00, lt_bg, Nat.reduceLT, Nat.reduceLeDiff]
  refine AW.mono f3 (fun r' σ2 ρ2 g2 τ2 ⟨⟨⟨w, q1, q2⟩, q3, q4, q5, q6, q7⟩, q8⟩ => ?_)
  cases q1
  subst q2
  simp only [s279_603, ol_s, ol_n, ln_0, ln_1, ln_2, ln_3, ln_4, eq_self, rf_s, rf_n, i01_0, i01_n0, i01_b, b01_0, b01_1, and_self, and_true, true_and, and_false, false_and, if_true, if_false, not_true_eq_false, not_false_eq_true, e10, e00, lt_bg, Nat.reduceLT, Nat.reduceLeDiff]
  exact K σ2 ρ2 g2 τ2 q3 (q6.trans k15) (q7.trans kL) q4 q5 (fun a ha => by rw [q8 a ha]; exact hk a ha)
theorem lw_10 (P : LwP L i σ ρ g τ) (K : LwK d L i τ Q) : AW (d + 50) 279 608 [.ref 1000002, .ref 0, .ref 160, .int (nI i)] [] σ ρ g τ Q := by
  obtain ⟨h, k15, kL, hi, hL, hN, hk⟩ := P
  have hS := h.sh
  have h261 := hS.2.2.2.2.2.2
  have b1 : am_inb (nI (i + 1)) L = true := inb_n (by omega) (by omega)
  have b2 : am_inb (nI (i + 2)) L = true := inb_n (by omega) (by omega)
  have b3 : am_inb (nI (i + 3)) L = true := inb_n (by omega) (by omega)
  have b4 : am_inb (nI (i + 4)) L = true := inb_n (by omega) (by omega)
  have c1 : (nI (i + 1)).toNatClampNeg = i + 1 := nI_clamp (by omega)
  have c2 : (nI (i + 2)).toNatClampNeg = i + 2 := nI_clamp (by omega)
  have c3 : (nI (i + 3)).toNatClampNeg = i + 3 := nI_clamp (by omega)
  have c4 : (nI (i + 4)).toNatClampNeg = i + 4 := nI_clamp (by omega)
  have a1 : nI i + 1 = nI (i + 1) := nI_add i 1
  have a2 : nI i + 2 = nI (i + 2) := nI_add i 2
  have a3 : nI i + 3 = nI (i + 3) := nI_add i 3
  have a4 : nI i + 4 = nI (i + 4) := nI_add i 4
  simp only [s279_608, s279_609, s279_610, s279_611, s279_612, s279_613, s279_614, s279_615, s279_616, s279_617, s279_618, s279_619, k_0 hS, k15, kL, a1, a2, a3, a4, b1, b2, b3, b4, c1, c2, c3, c4, ol_s, ol_n, ln_0, ln_1, ln_2, ln_3, ln_4, eq_self, rf_s, rf_n, i01_0, i01_n0, i01_b, b01_0, b01_1, and_self, and_true, true_and, and_false, false_and, if_true, if_false, not_true_eq_false, not_false_eq_true, e10, e00, lt_bg, Nat.reduceLT, Nat.reduceLeDiff]
  refine AW.mono (aw_two (o_provinceOf h) hN hk) (fun r σ1 ρ1 g1 τ1 ⟨f1, f2, f3⟩ => ?_)
  obtain ⟨v, e⟩ := sm_v (P := fun τ2 => ∀ a, am_BG ≤ a → τ2.1 a = τ.1 a) f3
  subst e
  obtain ⟨s1, t1, t2⟩ := f2 1000002 (by decide)
  have t1 := t1.trans k15
  have t2 := t2.trans kL
  have k160 : τ1.1 160 = 12 := (f1 160 (by omega)).trans (k_160 hS)
  simp only [s279_622, s279_623, s279_624, s279_625, s279_626, s279_627, s279_628, s279_629, s279_630, s279_631, s279_632, s279_633, k160, t1, t2, s1, a1, a2, a3, a4, b1, b2, b3, b4, c1, c2, c3, c4, ol_s, ol_n, ln_0, ln_1, ln_2, ln_3, ln_4, eq_self, rf_s, rf_n, i01_0, i01_n0, i01_b, b01_0, b01_1, and_self, and_true, true_and, and_false, false_and, if_true, if_false, not_true_eq_false, not_false_eq_true, e10, e00, lt_bg, Nat.reduceLT, Nat.reduceLeDiff]
  refine AW.mono f3 (fun r' σ2 ρ2 g2 τ2 ⟨⟨⟨w, q1, q2⟩, q3, q4, q5, q6, q7⟩, q8⟩ => ?_)
  cases q1
  subst q2
  simp only [s279_636, ol_s, ol_n, ln_0, ln_1, ln_2, ln_3, ln_4, eq_self, rf_s, rf_n, i01_0, i01_n0, i01_b, b01_0, b01_1, and_self, and_true, true_and, and_false, false_and, if_true, if_false, not_true_eq_false, not_false_eq_true, e10, e00, lt_bg, Nat.reduceLT, Nat.reduceLeDiff]
  exact K σ2 ρ2 g2 τ2 q3 (q6.trans k15) (q7.trans kL) q4 q5 (fun a ha => by rw [q8 a ha]; exact hk a ha)
theorem lw_11 (P : LwP L i σ ρ g τ) (K : LwK d L i τ Q) : AW (d + 50) 279 641 [.ref 1000002, .ref 0, .ref 160, .int (nI i)] [] σ ρ g τ Q := by
  obtain ⟨h, k15, kL, hi, hL, hN, hk⟩ := P
  have hS := h.sh
  have h261 := hS.2.2.2.2.2.2
  have b1 : am_inb (nI (i + 1)) L = true := inb_n (by omega) (by omega)
  have b2 : am_inb (nI (i + 2)) L = true := inb_n (by omega) (by omega)
  have b3 : am_inb (nI (i + 3)) L = true := inb_n (by omega) (by omega)
  have b4 : am_inb (nI (i + 4)) L = true := inb_n (by omega) (by omega)
  have c1 : (nI (i + 1)).toNatClampNeg = i + 1 := nI_clamp (by omega)
  have c2 : (nI (i + 2)).toNatClampNeg = i + 2 := nI_clamp (by omega)
  have c3 : (nI (i + 3)).toNatClampNeg = i + 3 := nI_clamp (by omega)
  have c4 : (nI (i + 4)).toNatClampNeg = i + 4 := nI_clamp (by omega)
  have a1 : nI i + 1 = nI (i + 1) := nI_add i 1
  have a2 : nI i + 2 = nI (i + 2) := nI_add i 2
  have a3 : nI i + 3 = nI (i + 3) := nI_add i 3
  have a4 : nI i + 4 = nI (i + 4) := nI_add i 4
  simp only [s279_641, s279_642, s279_643, s279_644, s279_645, s279_646, s279_647, s279_648, s279_649, s279_650, s279_651, s279_652, s279_653, s279_654, s279_655, s279_656, s279_657, k_0 hS, k15, kL, a1, a2, a3, a4, b1, b2, b3, b4, c1, c2, c3, c4, ol_s, ol_n, ln_0, ln_1, ln_2, ln_3, ln_4, eq_self, rf_s, rf_n, i01_0, i01_n0, i01_b, b01_0, b01_1, and_self, and_true, true_and, and_false, false_and, if_true, if_false, not_true_eq_false, not_false_eq_true, e10, e00, lt_bg, Nat.reduceLT, Nat.reduceLeDiff]
  refine AW.mono (aw_two (o_debt h) hN hk) (fun r σ1 ρ1 g1 τ1 ⟨f1, f2, f3⟩ => ?_)
  obtain ⟨v, e⟩ := sm_v (P := fun τ2 => ∀ a, am_BG ≤ a → τ2.1 a = τ.1 a) f3
  subst e
  obtain ⟨s1, t1, t2⟩ := f2 1000002 (by decide)
  have t1 := t1.trans k15
  have t2 := t2.trans kL
  have k160 : τ1.1 160 = 12 := (f1 160 (by omega)).trans (k_160 hS)
  simp only [s279_660, s279_661, s279_662, s279_663, s279_664, s279_665, s279_666, s279_667, s279_668, s279_669, s279_670, s279_671, s279_672, s279_673, s279_674, s279_675, s279_676, k160, t1, t2, s1, a1, a2, a3, a4, b1, b2, b3, b4, c1, c2, c3, c4, ol_s, ol_n, ln_0, ln_1, ln_2, ln_3, ln_4, eq_self, rf_s, rf_n, i01_0, i01_n0, i01_b, b01_0, b01_1, and_self, and_true, true_and, and_false, false_and, if_true, if_false, not_true_eq_false, not_false_eq_true, e10, e00, lt_bg, Nat.reduceLT, Nat.reduceLeDiff]
  refine AW.mono f3 (fun r' σ2 ρ2 g2 τ2 ⟨⟨⟨w, q1, q2⟩, q3, q4, q5, q6, q7⟩, q8⟩ => ?_)
  cases q1
  subst q2
  simp only [s279_679, ol_s, ol_n, ln_0, ln_1, ln_2, ln_3, ln_4, eq_self, rf_s, rf_n, i01_0, i01_n0, i01_b, b01_0, b01_1, and_self, and_true, true_and, and_false, false_and, if_true, if_false, not_true_eq_false, not_false_eq_true, e10, e00, lt_bg, Nat.reduceLT, Nat.reduceLeDiff]
  exact K σ2 ρ2 g2 τ2 q3 (q6.trans k15) (q7.trans kL) q4 q5 (fun a ha => by rw [q8 a ha]; exact hk a ha)
theorem lw_12 (P : LwP L i σ ρ g τ) (K : LwK d L i τ Q) : AW (d + 50) 279 684 [.ref 1000002, .ref 0, .ref 160, .int (nI i)] [] σ ρ g τ Q := by
  obtain ⟨h, k15, kL, hi, hL, hN, hk⟩ := P
  have hS := h.sh
  have h261 := hS.2.2.2.2.2.2
  have b1 : am_inb (nI (i + 1)) L = true := inb_n (by omega) (by omega)
  have b2 : am_inb (nI (i + 2)) L = true := inb_n (by omega) (by omega)
  have b3 : am_inb (nI (i + 3)) L = true := inb_n (by omega) (by omega)
  have b4 : am_inb (nI (i + 4)) L = true := inb_n (by omega) (by omega)
  have c1 : (nI (i + 1)).toNatClampNeg = i + 1 := nI_clamp (by omega)
  have c2 : (nI (i + 2)).toNatClampNeg = i + 2 := nI_clamp (by omega)
  have c3 : (nI (i + 3)).toNatClampNeg = i + 3 := nI_clamp (by omega)
  have c4 : (nI (i + 4)).toNatClampNeg = i + 4 := nI_clamp (by omega)
  have a1 : nI i + 1 = nI (i + 1) := nI_add i 1
  have a2 : nI i + 2 = nI (i + 2) := nI_add i 2
  have a3 : nI i + 3 = nI (i + 3) := nI_add i 3
  have a4 : nI i + 4 = nI (i + 4) := nI_add i 4
  simp only [s279_684, s279_685, s279_686, s279_687, s279_688, s279_689, s279_690, s279_691, s279_692, s279_693, s279_694, s279_695, s279_696, s279_697, s279_698, s279_699, s279_700, k_0 hS, k15, kL, a1, a2, a3, a4, b1, b2, b3, b4, c1, c2, c3, c4, ol_s, ol_n, ln_0, ln_1, ln_2, ln_3, ln_4, eq_self, rf_s, rf_n, i01_0, i01_n0, i01_b, b01_0, b01_1, and_self, and_true, true_and, and_false, false_and, if_true, if_false, not_true_eq_false, not_false_eq_true, e10, e00, lt_bg, Nat.reduceLT, Nat.reduceLeDiff]
  refine AW.mono (aw_two (o_debtOf h) hN hk) (fun r σ1 ρ1 g1 τ1 ⟨f1, f2, f3⟩ => ?_)
  obtain ⟨v, e⟩ := sm_v (P := fun τ2 => ∀ a, am_BG ≤ a → τ2.1 a = τ.1 a) f3
  subst e
  obtain ⟨s1, t1, t2⟩ := f2 1000002 (by decide)
  have t1 := t1.trans k15
  have t2 := t2.trans kL
  have k160 : τ1.1 160 = 12 := (f1 160 (by omega)).trans (k_160 hS)
  simp only [s279_703, s279_704, s279_705, s279_706, s279_707, s279_708, s279_709, s279_710, s279_711, s279_712, s279_713, s279_714, s279_715, s279_716, s279_717, s279_718, s279_719, k160, t1, t2, s1, a1, a2, a3, a4, b1, b2, b3, b4, c1, c2, c3, c4, ol_s, ol_n, ln_0, ln_1, ln_2, ln_3, ln_4, eq_self, rf_s, rf_n, i01_0, i01_n0, i01_b, b01_0, b01_1, and_self, and_true, true_and, and_false, false_and, if_true, if_false, not_true_eq_false, not_false_eq_true, e10, e00, lt_bg, Nat.reduceLT, Nat.reduceLeDiff]
  refine AW.mono f3 (fun r' σ2 ρ2 g2 τ2 ⟨⟨⟨w, q1, q2⟩, q3, q4, q5, q6, q7⟩, q8⟩ => ?_)
  cases q1
  subst q2
  simp only [s279_722, ol_s, ol_n, ln_0, ln_1, ln_2, ln_3, ln_4, eq_self, rf_s, rf_n, i01_0, i01_n0, i01_b, b01_0, b01_1, and_self, and_true, true_and, and_false, false_and, if_true, if_false, not_true_eq_false, not_false_eq_true, e10, e00, lt_bg, Nat.reduceLT, Nat.reduceLeDiff]
  exact K σ2 ρ2 g2 τ2 q3 (q6.trans k15) (q7.trans kL) q4 q5 (fun a ha => by rw [q8 a ha]; exact hk a ha)
theorem lw_13 (P : LwP L i σ ρ g τ) (K : LwK d L i τ Q) : AW (d + 50) 279 727 [.ref 1000002, .ref 0, .ref 160, .int (nI i)] [] σ ρ g τ Q := by
  obtain ⟨h, k15, kL, hi, hL, hN, hk⟩ := P
  have hS := h.sh
  have h261 := hS.2.2.2.2.2.2
  have b1 : am_inb (nI (i + 1)) L = true := inb_n (by omega) (by omega)
  have b2 : am_inb (nI (i + 2)) L = true := inb_n (by omega) (by omega)
  have b3 : am_inb (nI (i + 3)) L = true := inb_n (by omega) (by omega)
  have b4 : am_inb (nI (i + 4)) L = true := inb_n (by omega) (by omega)
  have c1 : (nI (i + 1)).toNatClampNeg = i + 1 := nI_clamp (by omega)
  have c2 : (nI (i + 2)).toNatClampNeg = i + 2 := nI_clamp (by omega)
  have c3 : (nI (i + 3)).toNatClampNeg = i + 3 := nI_clamp (by omega)
  have c4 : (nI (i + 4)).toNatClampNeg = i + 4 := nI_clamp (by omega)
  have a1 : nI i + 1 = nI (i + 1) := nI_add i 1
  have a2 : nI i + 2 = nI (i + 2) := nI_add i 2
  have a3 : nI i + 3 = nI (i + 3) := nI_add i 3
  have a4 : nI i + 4 = nI (i + 4) := nI_add i 4
  simp only [s279_727, s279_728, s279_729, s279_730, s279_731, s279_732, s279_733, k_0 hS, k15, kL, a1, a2, a3, a4, b1, b2, b3, b4, c1, c2, c3, c4, ol_s, ol_n, ln_0, ln_1, ln_2, ln_3, ln_4, eq_self, rf_s, rf_n, i01_0, i01_n0, i01_b, b01_0, b01_1, and_self, and_true, true_and, and_false, false_and, if_true, if_false, not_true_eq_false, not_false_eq_true, e10, e00, lt_bg, Nat.reduceLT, Nat.reduceLeDiff]
  refine AW.mono (aw_two (o_voids h) hN hk) (fun r σ1 ρ1 g1 τ1 ⟨f1, f2, f3⟩ => ?_)
  obtain ⟨v, e⟩ := sm_v (P := fun τ2 => ∀ a, am_BG ≤ a → τ2.1 a = τ.1 a) f3
  subst e
  obtain ⟨s1, t1, t2⟩ := f2 1000002 (by decide)
  have t1 := t1.trans k15
  have t2 := t2.trans kL
  have k160 : τ1.1 160 = 12 := (f1 160 (by omega)).trans (k_160 hS)
  simp only [s279_736, s279_737, s279_738, s279_739, s279_740, s279_741, s279_742, k160, t1, t2, s1, a1, a2, a3, a4, b1, b2, b3, b4, c1, c2, c3, c4, ol_s, ol_n, ln_0, ln_1, ln_2, ln_3, ln_4, eq_self, rf_s, rf_n, i01_0, i01_n0, i01_b, b01_0, b01_1, and_self, and_true, true_and, and_false, false_and, if_true, if_false, not_true_eq_false, not_false_eq_true, e10, e00, lt_bg, Nat.reduceLT, Nat.reduceLeDiff]
  refine AW.mono f3 (fun r' σ2 ρ2 g2 τ2 ⟨⟨⟨w, q1, q2⟩, q3, q4, q5, q6, q7⟩, q8⟩ => ?_)
  cases q1
  subst q2
  simp only [s279_745, ol_s, ol_n, ln_0, ln_1, ln_2, ln_3, ln_4, eq_self, rf_s, rf_n, i01_0, i01_n0, i01_b, b01_0, b01_1, and_self, and_true, true_and, and_false, false_and, if_true, if_false, not_true_eq_false, not_false_eq_true, e10, e00, lt_bg, Nat.reduceLT, Nat.reduceLeDiff]
  exact K σ2 ρ2 g2 τ2 q3 (q6.trans k15) (q7.trans kL) q4 q5 (fun a ha => by rw [q8 a ha]; exact hk a ha)
theorem lw_14 (P : LwP L i σ ρ g τ) (K : LwK d L i τ Q) : AW (d + 50) 279 750 [.ref 1000002, .ref 0, .ref 160, .int (nI i)] [] σ ρ g τ Q := by
  obtain ⟨h, k15, kL, hi, hL, hN, hk⟩ := P
  have hS := h.sh
  have h261 := hS.2.2.2.2.2.2
  have b1 : am_inb (nI (i + 1)) L = true := inb_n (by omega) (by omega)
  have b2 : am_inb (nI (i + 2)) L = true := inb_n (by omega) (by omega)
  have b3 : am_inb (nI (i + 3)) L = true := inb_n (by omega) (by omega)
  have b4 : am_inb (nI (i + 4)) L = true := inb_n (by omega) (by omega)
  have c1 : (nI (i + 1)).toNatClampNeg = i + 1 := nI_clamp (by omega)
  have c2 : (nI (i + 2)).toNatClampNeg = i + 2 := nI_clamp (by omega)
  have c3 : (nI (i + 3)).toNatClampNeg = i + 3 := nI_clamp (by omega)
  have c4 : (nI (i + 4)).toNatClampNeg = i + 4 := nI_clamp (by omega)
  have a1 : nI i + 1 = nI (i + 1) := nI_add i 1
  have a2 : nI i + 2 = nI (i + 2) := nI_add i 2
  have a3 : nI i + 3 = nI (i + 3) := nI_add i 3
  have a4 : nI i + 4 = nI (i + 4) := nI_add i 4
  simp only [s279_750, s279_751, s279_752, s279_753, s279_754, s279_755, s279_756, s279_757, s279_759, s279_760, s279_761, s279_762, s279_763, s279_764, s279_765, s279_766, s279_769, s279_770, s279_771, s279_772, s279_773, s279_774, s279_775, s279_776, k_0 hS, k15, kL, a1, a2, a3, a4, b1, b2, b3, b4, c1, c2, c3, c4, ol_s, ol_n, ln_0, ln_1, ln_2, ln_3, ln_4, eq_self, rf_s, rf_n, i01_0, i01_n0, i01_b, b01_0, b01_1, and_self, and_true, true_and, and_false, false_and, if_true, if_false, not_true_eq_false, not_false_eq_true, e10, e00, lt_bg, Nat.reduceLT, Nat.reduceLeDiff]
  refine AW.mono (aw_two (o_feed h) hN hk) (fun r σ1 ρ1 g1 τ1 ⟨f1, f2, f3⟩ => ?_)
  obtain ⟨v, e⟩ := sm_v (P := fun τ2 => ∀ a, am_BG ≤ a → τ2.1 a = τ.1 a) f3
  subst e
  obtain ⟨s1, t1, t2⟩ := f2 1000002 (by decide)
  have t1 := t1.trans k15
  have t2 := t2.trans kL
  have k160 : τ1.1 160 = 12 := (f1 160 (by omega)).trans (k_160 hS)
  simp only [s279_779, s279_780, s279_781, s279_782, s279_783, s279_784, s279_785, s279_786, s279_788, s279_789, s279_790, s279_791, s279_792, s279_793, s279_794, s279_795, s279_798, s279_799, s279_800, s279_801, s279_802, s279_803, s279_804, s279_805, k160, t1, t2, s1, a1, a2, a3, a4, b1, b2, b3, b4, c1, c2, c3, c4, ol_s, ol_n, ln_0, ln_1, ln_2, ln_3, ln_4, eq_self, rf_s, rf_n, i01_0, i01_n0, i01_b, b01_0, b01_1, and_self, and_true, true_and, and_false, false_and, if_true, if_false, not_true_eq_false, not_false_eq_true, e10, e00, lt_bg, Nat.reduceLT, Nat.reduceLeDiff]
  refine AW.mono f3 (fun r' σ2 ρ2 g2 τ2 ⟨⟨⟨w, q1, q2⟩, q3, q4, q5, q6, q7⟩, q8⟩ => ?_)
  cases q1
  subst q2
  simp only [s279_808, ol_s, ol_n, ln_0, ln_1, ln_2, ln_3, ln_4, eq_self, rf_s, rf_n, i01_0, i01_n0, i01_b, b01_0, b01_1, and_self, and_true, true_and, and_false, false_and, if_true, if_false, not_true_eq_false, not_false_eq_true, e10, e00, lt_bg, Nat.reduceLT, Nat.reduceLeDiff]
  exact K σ2 ρ2 g2 τ2 q3 (q6.trans k15) (q7.trans kL) q4 q5 (fun a ha => by rw [q8 a ha]; exact hk a ha)
theorem lw_15 (P : LwP L i σ ρ g τ) (K : LwK d L i τ Q) : AW (d + 50) 279 813 [.ref 1000002, .ref 0, .ref 160, .int (nI i)] [] σ ρ g τ Q := by
  obtain ⟨h, k15, kL, hi, hL, hN, hk⟩ := P
  have hS := h.sh
  have h261 := hS.2.2.2.2.2.2
  have b1 : am_inb (nI (i + 1)) L = true := inb_n (by omega) (by omega)
  have b2 : am_inb (nI (i + 2)) L = true := inb_n (by omega) (by omega)
  have b3 : am_inb (nI (i + 3)) L = true := inb_n (by omega) (by omega)
  have b4 : am_inb (nI (i + 4)) L = true := inb_n (by omega) (by omega)
  have c1 : (nI (i + 1)).toNatClampNeg = i + 1 := nI_clamp (by omega)
  have c2 : (nI (i + 2)).toNatClampNeg = i + 2 := nI_clamp (by omega)
  have c3 : (nI (i + 3)).toNatClampNeg = i + 3 := nI_clamp (by omega)
  have c4 : (nI (i + 4)).toNatClampNeg = i + 4 := nI_clamp (by omega)
  have a1 : nI i + 1 = nI (i + 1) := nI_add i 1
  have a2 : nI i + 2 = nI (i + 2) := nI_add i 2
  have a3 : nI i + 3 = nI (i + 3) := nI_add i 3
  have a4 : nI i + 4 = nI (i + 4) := nI_add i 4
  simp only [s279_813, s279_814, k_0 hS, k15, kL, a1, a2, a3, a4, b1, b2, b3, b4, c1, c2, c3, c4, ol_s, ol_n, ln_0, ln_1, ln_2, ln_3, ln_4, eq_self, rf_s, rf_n, i01_0, i01_n0, i01_b, b01_0, b01_1, and_self, and_true, true_and, and_false, false_and, if_true, if_false, not_true_eq_false, not_false_eq_true, e10, e00, lt_bg, Nat.reduceLT, Nat.reduceLeDiff]
  refine AW.mono (aw_two (o_read h hN) hN hk) (fun r σ1 ρ1 g1 τ1 ⟨f1, f2, f3⟩ => ?_)
  obtain ⟨v, e⟩ := sm_v (P := fun τ2 => ∀ a, am_BG ≤ a → τ2.1 a = τ.1 a) f3
  subst e
  obtain ⟨s1, t1, t2⟩ := f2 1000002 (by decide)
  have t1 := t1.trans k15
  have t2 := t2.trans kL
  have k160 : τ1.1 160 = 12 := (f1 160 (by omega)).trans (k_160 hS)
  simp only [s279_817, s279_818, k160, t1, t2, s1, a1, a2, a3, a4, b1, b2, b3, b4, c1, c2, c3, c4, ol_s, ol_n, ln_0, ln_1, ln_2, ln_3, ln_4, eq_self, rf_s, rf_n, i01_0, i01_n0, i01_b, b01_0, b01_1, and_self, and_true, true_and, and_false, false_and, if_true, if_false, not_true_eq_false, not_false_eq_true, e10, e00, lt_bg, Nat.reduceLT, Nat.reduceLeDiff]
  refine AW.mono f3 (fun r' σ2 ρ2 g2 τ2 ⟨⟨⟨w, q1, q2⟩, q3, q4, q5, q6, q7⟩, q8⟩ => ?_)
  cases q1
  subst q2
  simp only [s279_821, ol_s, ol_n, ln_0, ln_1, ln_2, ln_3, ln_4, eq_self, rf_s, rf_n, i01_0, i01_n0, i01_b, b01_0, b01_1, and_self, and_true, true_and, and_false, false_and, if_true, if_false, not_true_eq_false, not_false_eq_true, e10, e00, lt_bg, Nat.reduceLT, Nat.reduceLeDiff]
  exact K σ2 ρ2 g2 τ2 q3 (q6.trans k15) (q7.trans kL) q4 q5 (fun a ha => by rw [q8 a ha]; exact hk a ha)
theorem lw_16 (P : LwP L i σ ρ g τ) (K : LwK d L i τ Q) : AW (d + 50) 279 826 [.ref 1000002, .ref 0, .ref 160, .int (nI i)] [] σ ρ g τ Q := by
  obtain ⟨h, k15, kL, hi, hL, hN, hk⟩ := P
  have hS := h.sh
  have h261 := hS.2.2.2.2.2.2
  have b1 : am_inb (nI (i + 1)) L = true := inb_n (by omega) (by omega)
  have b2 : am_inb (nI (i + 2)) L = true := inb_n (by omega) (by omega)
  have b3 : am_inb (nI (i + 3)) L = true := inb_n (by omega) (by omega)
  have b4 : am_inb (nI (i + 4)) L = true := inb_n (by omega) (by omega)
  have c1 : (nI (i + 1)).toNatClampNeg = i + 1 := nI_clamp (by omega)
  have c2 : (nI (i + 2)).toNatClampNeg = i + 2 := nI_clamp (by omega)
  have c3 : (nI (i + 3)).toNatClampNeg = i + 3 := nI_clamp (by omega)
  have c4 : (nI (i + 4)).toNatClampNeg = i + 4 := nI_clamp (by omega)
  have a1 : nI i + 1 = nI (i + 1) := nI_add i 1
  have a2 : nI i + 2 = nI (i + 2) := nI_add i 2
  have a3 : nI i + 3 = nI (i + 3) := nI_add i 3
  have a4 : nI i + 4 = nI (i + 4) := nI_add i 4
  simp only [s279_826, s279_827, s279_828, s279_829, s279_830, s279_831, s279_832, s279_833, s279_834, s279_835, s279_836, s279_837, s279_838, s279_839, s279_840, s279_841, s279_842, k_0 hS, k15, kL, a1, a2, a3, a4, b1, b2, b3, b4, c1, c2, c3, c4, ol_s, ol_n, ln_0, ln_1, ln_2, ln_3, ln_4, eq_self, rf_s, rf_n, i01_0, i01_n0, i01_b, b01_0, b01_1, and_self, and_true, true_and, and_false, false_and, if_true, if_false, not_true_eq_false, not_false_eq_true, e10, e00, lt_bg, Nat.reduceLT, Nat.reduceLeDiff]
  refine AW.mono (aw_two (o_line h) hN hk) (fun r σ1 ρ1 g1 τ1 ⟨f1, f2, f3⟩ => ?_)
  obtain ⟨v, e⟩ := sm_v (P := fun τ2 => ∀ a, am_BG ≤ a → τ2.1 a = τ.1 a) f3
  subst e
  obtain ⟨s1, t1, t2⟩ := f2 1000002 (by decide)
  have t1 := t1.trans k15
  have t2 := t2.trans kL
  have k160 : τ1.1 160 = 12 := (f1 160 (by omega)).trans (k_160 hS)
  simp only [s279_845, s279_846, s279_847, s279_848, s279_849, s279_850, s279_851, s279_852, s279_853, s279_854, s279_855, s279_856, s279_857, s279_858, s279_859, s279_860, s279_861, k160, t1, t2, s1, a1, a2, a3, a4, b1, b2, b3, b4, c1, c2, c3, c4, ol_s, ol_n, ln_0, ln_1, ln_2, ln_3, ln_4, eq_self, rf_s, rf_n, i01_0, i01_n0, i01_b, b01_0, b01_1, and_self, and_true, true_and, and_false, false_and, if_true, if_false, not_true_eq_false, not_false_eq_true, e10, e00, lt_bg, Nat.reduceLT, Nat.reduceLeDiff]
  refine AW.mono f3 (fun r' σ2 ρ2 g2 τ2 ⟨⟨⟨w, q1, q2⟩, q3, q4, q5, q6, q7⟩, q8⟩ => ?_)
  cases q1
  subst q2
  simp only [s279_864, ol_s, ol_n, ln_0, ln_1, ln_2, ln_3, ln_4, eq_self, rf_s, rf_n, i01_0, i01_n0, i01_b, b01_0, b01_1, and_self, and_true, true_and, and_false, false_and, if_true, if_false, not_true_eq_false, not_false_eq_true, e10, e00, lt_bg, Nat.reduceLT, Nat.reduceLeDiff]
  exact K σ2 ρ2 g2 τ2 q3 (q6.trans k15) (q7.trans kL) q4 q5 (fun a ha => by rw [q8 a ha]; exact hk a ha)
theorem lw_17 (P : LwP L i σ ρ g τ) (K : LwK d L i τ Q) : AW (d + 50) 279 869 [.ref 1000002, .ref 0, .ref 160, .int (nI i)] [] σ ρ g τ Q := by
  obtain ⟨h, k15, kL, hi, hL, hN, hk⟩ := P
  have hS := h.sh
  have h261 := hS.2.2.2.2.2.2
  have b1 : am_inb (nI (i + 1)) L = true := inb_n (by omega) (by omega)
  have b2 : am_inb (nI (i + 2)) L = true := inb_n (by omega) (by omega)
  have b3 : am_inb (nI (i + 3)) L = true := inb_n (by omega) (by omega)
  have b4 : am_inb (nI (i + 4)) L = true := inb_n (by omega) (by omega)
  have c1 : (nI (i + 1)).toNatClampNeg = i + 1 := nI_clamp (by omega)
  have c2 : (nI (i + 2)).toNatClampNeg = i + 2 := nI_clamp (by omega)
  have c3 : (nI (i + 3)).toNatClampNeg = i + 3 := nI_clamp (by omega)
  have c4 : (nI (i + 4)).toNatClampNeg = i + 4 := nI_clamp (by omega)
  have a1 : nI i + 1 = nI (i + 1) := nI_add i 1
  have a2 : nI i + 2 = nI (i + 2) := nI_add i 2
  have a3 : nI i + 3 = nI (i + 3) := nI_add i 3
  have a4 : nI i + 4 = nI (i + 4) := nI_add i 4
  simp only [s279_869, s279_870, s279_871, s279_872, s279_873, s279_874, s279_875, s279_876, s279_877, s279_878, s279_879, s279_880, s279_881, s279_882, s279_883, s279_884, s279_885, k_0 hS, k15, kL, a1, a2, a3, a4, b1, b2, b3, b4, c1, c2, c3, c4, ol_s, ol_n, ln_0, ln_1, ln_2, ln_3, ln_4, eq_self, rf_s, rf_n, i01_0, i01_n0, i01_b, b01_0, b01_1, and_self, and_true, true_and, and_false, false_and, if_true, if_false, not_true_eq_false, not_false_eq_true, e10, e00, lt_bg, Nat.reduceLT, Nat.reduceLeDiff]
  refine AW.mono (aw_two (o_why h) hN hk) (fun r σ1 ρ1 g1 τ1 ⟨f1, f2, f3⟩ => ?_)
  obtain ⟨v, e⟩ := sm_v (P := fun τ2 => ∀ a, am_BG ≤ a → τ2.1 a = τ.1 a) f3
  subst e
  obtain ⟨s1, t1, t2⟩ := f2 1000002 (by decide)
  have t1 := t1.trans k15
  have t2 := t2.trans kL
  have k160 : τ1.1 160 = 12 := (f1 160 (by omega)).trans (k_160 hS)
  simp only [s279_888, s279_889, s279_890, s279_891, s279_892, s279_893, s279_894, s279_895, s279_896, s279_897, s279_898, s279_899, s279_900, s279_901, s279_902, s279_903, s279_904, k160, t1, t2, s1, a1, a2, a3, a4, b1, b2, b3, b4, c1, c2, c3, c4, ol_s, ol_n, ln_0, ln_1, ln_2, ln_3, ln_4, eq_self, rf_s, rf_n, i01_0, i01_n0, i01_b, b01_0, b01_1, and_self, and_true, true_and, and_false, false_and, if_true, if_false, not_true_eq_false, not_false_eq_true, e10, e00, lt_bg, Nat.reduceLT, Nat.reduceLeDiff]
  refine AW.mono f3 (fun r' σ2 ρ2 g2 τ2 ⟨⟨⟨w, q1, q2⟩, q3, q4, q5, q6, q7⟩, q8⟩ => ?_)
  cases q1
  subst q2
  simp only [s279_907, ol_s, ol_n, ln_0, ln_1, ln_2, ln_3, ln_4, eq_self, rf_s, rf_n, i01_0, i01_n0, i01_b, b01_0, b01_1, and_self, and_true, true_and, and_false, false_and, if_true, if_false, not_true_eq_false, not_false_eq_true, e10, e00, lt_bg, Nat.reduceLT, Nat.reduceLeDiff]
  exact K σ2 ρ2 g2 τ2 q3 (q6.trans k15) (q7.trans kL) q4 q5 (fun a ha => by rw [q8 a ha]; exact hk a ha)
theorem lw_18 (P : LwP L i σ ρ g τ) (K : LwK d L i τ Q) : AW (d + 50) 279 912 [.ref 1000002, .ref 0, .ref 160, .int (nI i)] [] σ ρ g τ Q := by
  obtain ⟨h, k15, kL, hi, hL, hN, hk⟩ := P
  have hS := h.sh
  have h261 := hS.2.2.2.2.2.2
  have b1 : am_inb (nI (i + 1)) L = true := inb_n (by omega) (by omega)
  have b2 : am_inb (nI (i + 2)) L = true := inb_n (by omega) (by omega)
  have b3 : am_inb (nI (i + 3)) L = true := inb_n (by omega) (by omega)
  have b4 : am_inb (nI (i + 4)) L = true := inb_n (by omega) (by omega)
  have c1 : (nI (i + 1)).toNatClampNeg = i + 1 := nI_clamp (by omega)
  have c2 : (nI (i + 2)).toNatClampNeg = i + 2 := nI_clamp (by omega)
  have c3 : (nI (i + 3)).toNatClampNeg = i + 3 := nI_clamp (by omega)
  have c4 : (nI (i + 4)).toNatClampNeg = i + 4 := nI_clamp (by omega)
  have a1 : nI i + 1 = nI (i + 1) := nI_add i 1
  have a2 : nI i + 2 = nI (i + 2) := nI_add i 2
  have a3 : nI i + 3 = nI (i + 3) := nI_add i 3
  have a4 : nI i + 4 = nI (i + 4) := nI_add i 4
  simp only [s279_912, s279_913, s279_914, s279_915, s279_916, s279_917, s279_918, s279_919, s279_920, s279_921, s279_922, s279_923, s279_924, s279_925, s279_926, s279_927, s279_928, k_0 hS, k15, kL, a1, a2, a3, a4, b1, b2, b3, b4, c1, c2, c3, c4, ol_s, ol_n, ln_0, ln_1, ln_2, ln_3, ln_4, eq_self, rf_s, rf_n, i01_0, i01_n0, i01_b, b01_0, b01_1, and_self, and_true, true_and, and_false, false_and, if_true, if_false, not_true_eq_false, not_false_eq_true, e10, e00, lt_bg, Nat.reduceLT, Nat.reduceLeDiff]
  refine AW.mono (aw_two (o_gets h) hN hk) (fun r σ1 ρ1 g1 τ1 ⟨f1, f2, f3⟩ => ?_)
  obtain ⟨v, e⟩ := sm_v (P := fun τ2 => ∀ a, am_BG ≤ a → τ2.1 a = τ.1 a) f3
  subst e
  obtain ⟨s1, t1, t2⟩ := f2 1000002 (by decide)
  have t1 := t1.trans k15
  have t2 := t2.trans kL
  have k160 : τ1.1 160 = 12 := (f1 160 (by omega)).trans (k_160 hS)
  simp only [s279_931, s279_932, s279_933, s279_934, s279_935, s279_936, s279_937, s279_938, s279_939, s279_940, s279_941, s279_942, s279_943, s279_944, s279_945, s279_946, s279_947, k160, t1, t2, s1, a1, a2, a3, a4, b1, b2, b3, b4, c1, c2, c3, c4, ol_s, ol_n, ln_0, ln_1, ln_2, ln_3, ln_4, eq_self, rf_s, rf_n, i01_0, i01_n0, i01_b, b01_0, b01_1, and_self, and_true, true_and, and_false, false_and, if_true, if_false, not_true_eq_false, not_false_eq_true, e10, e00, lt_bg, Nat.reduceLT, Nat.reduceLeDiff]
  refine AW.mono f3 (fun r' σ2 ρ2 g2 τ2 ⟨⟨⟨w, q1, q2⟩, q3, q4, q5, q6, q7⟩, q8⟩ => ?_)
  cases q1
  subst q2
  simp only [s279_950, ol_s, ol_n, ln_0, ln_1, ln_2, ln_3, ln_4, eq_self, rf_s, rf_n, i01_0, i01_n0, i01_b, b01_0, b01_1, and_self, and_true, true_and, and_false, false_and, if_true, if_false, not_true_eq_false, not_false_eq_true, e10, e00, lt_bg, Nat.reduceLT, Nat.reduceLeDiff]
  exact K σ2 ρ2 g2 τ2 q3 (q6.trans k15) (q7.trans kL) q4 q5 (fun a ha => by rw [q8 a ha]; exact hk a ha)
theorem lw_19 (P : LwP L i σ ρ g τ) (K : LwK d L i τ Q) : AW (d + 50) 279 955 [.ref 1000002, .ref 0, .ref 160, .int (nI i)] [] σ ρ g τ Q := by
  obtain ⟨h, k15, kL, hi, hL, hN, hk⟩ := P
  have hS := h.sh
  have h261 := hS.2.2.2.2.2.2
  have b1 : am_inb (nI (i + 1)) L = true := inb_n (by omega) (by omega)
  have b2 : am_inb (nI (i + 2)) L = true := inb_n (by omega) (by omega)
  have b3 : am_inb (nI (i + 3)) L = true := inb_n (by omega) (by omega)
  have b4 : am_inb (nI (i + 4)) L = true := inb_n (by omega) (by omega)
  have c1 : (nI (i + 1)).toNatClampNeg = i + 1 := nI_clamp (by omega)
  have c2 : (nI (i + 2)).toNatClampNeg = i + 2 := nI_clamp (by omega)
  have c3 : (nI (i + 3)).toNatClampNeg = i + 3 := nI_clamp (by omega)
  have c4 : (nI (i + 4)).toNatClampNeg = i + 4 := nI_clamp (by omega)
  have a1 : nI i + 1 = nI (i + 1) := nI_add i 1
  have a2 : nI i + 2 = nI (i + 2) := nI_add i 2
  have a3 : nI i + 3 = nI (i + 3) := nI_add i 3
  have a4 : nI i + 4 = nI (i + 4) := nI_add i 4
  simp only [s279_955, s279_956, s279_957, s279_958, s279_959, s279_960, s279_961, s279_962, s279_963, s279_964, s279_965, s279_966, k_0 hS, k15, kL, a1, a2, a3, a4, b1, b2, b3, b4, c1, c2, c3, c4, ol_s, ol_n, ln_0, ln_1, ln_2, ln_3, ln_4, eq_self, rf_s, rf_n, i01_0, i01_n0, i01_b, b01_0, b01_1, and_self, and_true, true_and, and_false, false_and, if_true, if_false, not_true_eq_false, not_false_eq_true, e10, e00, lt_bg, Nat.reduceLT, Nat.reduceLeDiff]
  refine AW.mono (aw_two (o_lag h) hN hk) (fun r σ1 ρ1 g1 τ1 ⟨f1, f2, f3⟩ => ?_)
  obtain ⟨v, e⟩ := sm_v (P := fun τ2 => ∀ a, am_BG ≤ a → τ2.1 a = τ.1 a) f3
  subst e
  obtain ⟨s1, t1, t2⟩ := f2 1000002 (by decide)
  have t1 := t1.trans k15
  have t2 := t2.trans kL
  have k160 : τ1.1 160 = 12 := (f1 160 (by omega)).trans (k_160 hS)
  simp only [s279_969, s279_970, s279_971, s279_972, s279_973, s279_974, s279_975, s279_976, s279_977, s279_978, s279_979, s279_980, k160, t1, t2, s1, a1, a2, a3, a4, b1, b2, b3, b4, c1, c2, c3, c4, ol_s, ol_n, ln_0, ln_1, ln_2, ln_3, ln_4, eq_self, rf_s, rf_n, i01_0, i01_n0, i01_b, b01_0, b01_1, and_self, and_true, true_and, and_false, false_and, if_true, if_false, not_true_eq_false, not_false_eq_true, e10, e00, lt_bg, Nat.reduceLT, Nat.reduceLeDiff]
  refine AW.mono f3 (fun r' σ2 ρ2 g2 τ2 ⟨⟨⟨w, q1, q2⟩, q3, q4, q5, q6, q7⟩, q8⟩ => ?_)
  cases q1
  subst q2
  simp only [s279_983, ol_s, ol_n, ln_0, ln_1, ln_2, ln_3, ln_4, eq_self, rf_s, rf_n, i01_0, i01_n0, i01_b, b01_0, b01_1, and_self, and_true, true_and, and_false, false_and, if_true, if_false, not_true_eq_false, not_false_eq_true, e10, e00, lt_bg, Nat.reduceLT, Nat.reduceLeDiff]
  exact K σ2 ρ2 g2 τ2 q3 (q6.trans k15) (q7.trans kL) q4 q5 (fun a ha => by rw [q8 a ha]; exact hk a ha)
theorem lw_20 (P : LwP L i σ ρ g τ) (K : LwK d L i τ Q) : AW (d + 50) 279 988 [.ref 1000002, .ref 0, .ref 160, .int (nI i)] [] σ ρ g τ Q := by
  obtain ⟨h, k15, kL, hi, hL, hN, hk⟩ := P
  have hS := h.sh
  have h261 := hS.2.2.2.2.2.2
  have b1 : am_inb (nI (i + 1)) L = true := inb_n (by omega) (by omega)
  have b2 : am_inb (nI (i + 2)) L = true := inb_n (by omega) (by omega)
  have b3 : am_inb (nI (i + 3)) L = true := inb_n (by omega) (by omega)
  have b4 : am_inb (nI (i + 4)) L = true := inb_n (by omega) (by omega)
  have c1 : (nI (i + 1)).toNatClampNeg = i + 1 := nI_clamp (by omega)
  have c2 : (nI (i + 2)).toNatClampNeg = i + 2 := nI_clamp (by omega)
  have c3 : (nI (i + 3)).toNatClampNeg = i + 3 := nI_clamp (by omega)
  have c4 : (nI (i + 4)).toNatClampNeg = i + 4 := nI_clamp (by omega)
  have a1 : nI i + 1 = nI (i + 1) := nI_add i 1
  have a2 : nI i + 2 = nI (i + 2) := nI_add i 2
  have a3 : nI i + 3 = nI (i + 3) := nI_add i 3
  have a4 : nI i + 4 = nI (i + 4) := nI_add i 4
  simp only [s279_988, s279_989, s279_990, s279_991, s279_992, s279_993, s279_994, s279_995, s279_996, s279_997, s279_998, s279_999, k_0 hS, k15, kL, a1, a2, a3, a4, b1, b2, b3, b4, c1, c2, c3, c4, ol_s, ol_n, ln_0, ln_1, ln_2, ln_3, ln_4, eq_self, rf_s, rf_n, i01_0, i01_n0, i01_b, b01_0, b01_1, and_self, and_true, true_and, and_false, false_and, if_true, if_false, not_true_eq_false, not_false_eq_true, e10, e00, lt_bg, Nat.reduceLT, Nat.reduceLeDiff]
  refine AW.mono (aw_two (o_knows h) hN hk) (fun r σ1 ρ1 g1 τ1 ⟨f1, f2, f3⟩ => ?_)
  obtain ⟨v, e⟩ := sm_v (P := fun τ2 => ∀ a, am_BG ≤ a → τ2.1 a = τ.1 a) f3
  subst e
  obtain ⟨s1, t1, t2⟩ := f2 1000002 (by decide)
  have t1 := t1.trans k15
  have t2 := t2.trans kL
  have k160 : τ1.1 160 = 12 := (f1 160 (by omega)).trans (k_160 hS)
  simp only [s279_1002, s279_1003, s279_1004, s279_1005, s279_1006, s279_1007, s279_1008, s279_1009, s279_1010, s279_1011, s279_1012, s279_1013, k160, t1, t2, s1, a1, a2, a3, a4, b1, b2, b3, b4, c1, c2, c3, c4, ol_s, ol_n, ln_0, ln_1, ln_2, ln_3, ln_4, eq_self, rf_s, rf_n, i01_0, i01_n0, i01_b, b01_0, b01_1, and_self, and_true, true_and, and_false, false_and, if_true, if_false, not_true_eq_false, not_false_eq_true, e10, e00, lt_bg, Nat.reduceLT, Nat.reduceLeDiff]
  refine AW.mono f3 (fun r' σ2 ρ2 g2 τ2 ⟨⟨⟨w, q1, q2⟩, q3, q4, q5, q6, q7⟩, q8⟩ => ?_)
  cases q1
  subst q2
  simp only [s279_1016, ol_s, ol_n, ln_0, ln_1, ln_2, ln_3, ln_4, eq_self, rf_s, rf_n, i01_0, i01_n0, i01_b, b01_0, b01_1, and_self, and_true, true_and, and_false, false_and, if_true, if_false, not_true_eq_false, not_false_eq_true, e10, e00, lt_bg, Nat.reduceLT, Nat.reduceLeDiff]
  exact K σ2 ρ2 g2 τ2 q3 (q6.trans k15) (q7.trans kL) q4 q5 (fun a ha => by rw [q8 a ha]; exact hk a ha)
theorem lw_21 (P : LwP L i σ ρ g τ) (K : LwK d L i τ Q) : AW (d + 50) 279 1021 [.ref 1000002, .ref 0, .ref 160, .int (nI i)] [] σ ρ g τ Q := by
  obtain ⟨h, k15, kL, hi, hL, hN, hk⟩ := P
  have hS := h.sh
  have h261 := hS.2.2.2.2.2.2
  have b1 : am_inb (nI (i + 1)) L = true := inb_n (by omega) (by omega)
  have b2 : am_inb (nI (i + 2)) L = true := inb_n (by omega) (by omega)
  have b3 : am_inb (nI (i + 3)) L = true := inb_n (by omega) (by omega)
  have b4 : am_inb (nI (i + 4)) L = true := inb_n (by omega) (by omega)
  have c1 : (nI (i + 1)).toNatClampNeg = i + 1 := nI_clamp (by omega)
  have c2 : (nI (i + 2)).toNatClampNeg = i + 2 := nI_clamp (by omega)
  have c3 : (nI (i + 3)).toNatClampNeg = i + 3 := nI_clamp (by omega)
  have c4 : (nI (i + 4)).toNatClampNeg = i + 4 := nI_clamp (by omega)
  have a1 : nI i + 1 = nI (i + 1) := nI_add i 1
  have a2 : nI i + 2 = nI (i + 2) := nI_add i 2
  have a3 : nI i + 3 = nI (i + 3) := nI_add i 3
  have a4 : nI i + 4 = nI (i + 4) := nI_add i 4
  simp only [s279_1021, s279_1022, s279_1023, s279_1024, s279_1025, s279_1026, s279_1027, s279_1028, s279_1029, s279_1030, s279_1031, s279_1032, s279_1033, s279_1034, s279_1035, s279_1036, s279_1037, k_0 hS, k15, kL, a1, a2, a3, a4, b1, b2, b3, b4, c1, c2, c3, c4, ol_s, ol_n, ln_0, ln_1, ln_2, ln_3, ln_4, eq_self, rf_s, rf_n, i01_0, i01_n0, i01_b, b01_0, b01_1, and_self, and_true, true_and, and_false, false_and, if_true, if_false, not_true_eq_false, not_false_eq_true, e10, e00, lt_bg, Nat.reduceLT, Nat.reduceLeDiff]
  refine AW.mono (aw_two (o_swap h) hN hk) (fun r σ1 ρ1 g1 τ1 ⟨f1, f2, f3⟩ => ?_)
  obtain ⟨v, e⟩ := sm_v (P := fun τ2 => ∀ a, am_BG ≤ a → τ2.1 a = τ.1 a) f3
  subst e
  obtain ⟨s1, t1, t2⟩ := f2 1000002 (by decide)
  have t1 := t1.trans k15
  have t2 := t2.trans kL
  have k160 : τ1.1 160 = 12 := (f1 160 (by omega)).trans (k_160 hS)
  simp only [s279_1040, s279_1041, s279_1042, s279_1043, s279_1044, s279_1045, s279_1046, s279_1047, s279_1048, s279_1049, s279_1050, s279_1051, s279_1052, s279_1053, s279_1054, s279_1055, s279_1056, k160, t1, t2, s1, a1, a2, a3, a4, b1, b2, b3, b4, c1, c2, c3, c4, ol_s, ol_n, ln_0, ln_1, ln_2, ln_3, ln_4, eq_self, rf_s, rf_n, i01_0, i01_n0, i01_b, b01_0, b01_1, and_self, and_true, true_and, and_false, false_and, if_true, if_false, not_true_eq_false, not_false_eq_true, e10, e00, lt_bg, Nat.reduceLT, Nat.reduceLeDiff]
  refine AW.mono f3 (fun r' σ2 ρ2 g2 τ2 ⟨⟨⟨w, q1, q2⟩, q3, q4, q5, q6, q7⟩, q8⟩ => ?_)
  cases q1
  subst q2
  simp only [s279_1059, ol_s, ol_n, ln_0, ln_1, ln_2, ln_3, ln_4, eq_self, rf_s, rf_n, i01_0, i01_n0, i01_b, b01_0, b01_1, and_self, and_true, true_and, and_false, false_and, if_true, if_false, not_true_eq_false, not_false_eq_true, e10, e00, lt_bg, Nat.reduceLT, Nat.reduceLeDiff]
  exact K σ2 ρ2 g2 τ2 q3 (q6.trans k15) (q7.trans kL) q4 q5 (fun a ha => by rw [q8 a ha]; exact hk a ha)
theorem lw_22 (P : LwP L i σ ρ g τ) (K : LwK d L i τ Q) : AW (d + 50) 279 1064 [.ref 1000002, .ref 0, .ref 160, .int (nI i)] [] σ ρ g τ Q := by
  obtain ⟨h, k15, kL, hi, hL, hN, hk⟩ := P
  have hS := h.sh
  have h261 := hS.2.2.2.2.2.2
  have b1 : am_inb (nI (i + 1)) L = true := inb_n (by omega) (by omega)
  have b2 : am_inb (nI (i + 2)) L = true := inb_n (by omega) (by omega)
  have b3 : am_inb (nI (i + 3)) L = true := inb_n (by omega) (by omega)
  have b4 : am_inb (nI (i + 4)) L = true := inb_n (by omega) (by omega)
  have c1 : (nI (i + 1)).toNatClampNeg = i + 1 := nI_clamp (by omega)
  have c2 : (nI (i + 2)).toNatClampNeg = i + 2 := nI_clamp (by omega)
  have c3 : (nI (i + 3)).toNatClampNeg = i + 3 := nI_clamp (by omega)
  have c4 : (nI (i + 4)).toNatClampNeg = i + 4 := nI_clamp (by omega)
  have a1 : nI i + 1 = nI (i + 1) := nI_add i 1
  have a2 : nI i + 2 = nI (i + 2) := nI_add i 2
  have a3 : nI i + 3 = nI (i + 3) := nI_add i 3
  have a4 : nI i + 4 = nI (i + 4) := nI_add i 4
  simp only [s279_1064, s279_1065, s279_1066, s279_1067, s279_1068, s279_1069, s279_1070, s279_1071, s279_1072, s279_1073, s279_1074, s279_1075, k_0 hS, k15, kL, a1, a2, a3, a4, b1, b2, b3, b4, c1, c2, c3, c4, ol_s, ol_n, ln_0, ln_1, ln_2, ln_3, ln_4, eq_self, rf_s, rf_n, i01_0, i01_n0, i01_b, b01_0, b01_1, and_self, and_true, true_and, and_false, false_and, if_true, if_false, not_true_eq_false, not_false_eq_true, e10, e00, lt_bg, Nat.reduceLT, Nat.reduceLeDiff]
  refine AW.mono (aw_two (o_offer h) hN hk) (fun r σ1 ρ1 g1 τ1 ⟨f1, f2, f3⟩ => ?_)
  obtain ⟨v, e⟩ := sm_v (P := fun τ2 => ∀ a, am_BG ≤ a → τ2.1 a = τ.1 a) f3
  subst e
  obtain ⟨s1, t1, t2⟩ := f2 1000002 (by decide)
  have t1 := t1.trans k15
  have t2 := t2.trans kL
  have k160 : τ1.1 160 = 12 := (f1 160 (by omega)).trans (k_160 hS)
  simp only [s279_1078, s279_1079, s279_1080, s279_1081, s279_1082, s279_1083, s279_1084, s279_1085, s279_1086, s279_1087, s279_1088, s279_1089, k160, t1, t2, s1, a1, a2, a3, a4, b1, b2, b3, b4, c1, c2, c3, c4, ol_s, ol_n, ln_0, ln_1, ln_2, ln_3, ln_4, eq_self, rf_s, rf_n, i01_0, i01_n0, i01_b, b01_0, b01_1, and_self, and_true, true_and, and_false, false_and, if_true, if_false, not_true_eq_false, not_false_eq_true, e10, e00, lt_bg, Nat.reduceLT, Nat.reduceLeDiff]
  refine AW.mono f3 (fun r' σ2 ρ2 g2 τ2 ⟨⟨⟨w, q1, q2⟩, q3, q4, q5, q6, q7⟩, q8⟩ => ?_)
  cases q1
  subst q2
  simp only [s279_1092, ol_s, ol_n, ln_0, ln_1, ln_2, ln_3, ln_4, eq_self, rf_s, rf_n, i01_0, i01_n0, i01_b, b01_0, b01_1, and_self, and_true, true_and, and_false, false_and, if_true, if_false, not_true_eq_false, not_false_eq_true, e10, e00, lt_bg, Nat.reduceLT, Nat.reduceLeDiff]
  exact K σ2 ρ2 g2 τ2 q3 (q6.trans k15) (q7.trans kL) q4 q5 (fun a ha => by rw [q8 a ha]; exact hk a ha)
theorem lw_23 (P : LwP L i σ ρ g τ) (K : LwK d L i τ Q) : AW (d + 50) 279 1097 [.ref 1000002, .ref 0, .ref 160, .int (nI i)] [] σ ρ g τ Q := by
  obtain ⟨h, k15, kL, hi, hL, hN, hk⟩ := P
  have hS := h.sh
  have h261 := hS.2.2.2.2.2.2
  have b1 : am_inb (nI (i + 1)) L = true := inb_n (by omega) (by omega)
  have b2 : am_inb (nI (i + 2)) L = true := inb_n (by omega) (by omega)
  have b3 : am_inb (nI (i + 3)) L = true := inb_n (by omega) (by omega)
  have b4 : am_inb (nI (i + 4)) L = true := inb_n (by omega) (by omega)
  have c1 : (nI (i + 1)).toNatClampNeg = i + 1 := nI_clamp (by omega)
  have c2 : (nI (i + 2)).toNatClampNeg = i + 2 := nI_clamp (by omega)
  have c3 : (nI (i + 3)).toNatClampNeg = i + 3 := nI_clamp (by omega)
  have c4 : (nI (i + 4)).toNatClampNeg = i + 4 := nI_clamp (by omega)
  have a1 : nI i + 1 = nI (i + 1) := nI_add i 1
  have a2 : nI i + 2 = nI (i + 2) := nI_add i 2
  have a3 : nI i + 3 = nI (i + 3) := nI_add i 3
  have a4 : nI i + 4 = nI (i + 4) := nI_add i 4
  simp only [s279_1097, s279_1098, s279_1099, s279_1100, s279_1101, s279_1102, s279_1103, s279_1104, s279_1105, s279_1106, s279_1107, s279_1108, s279_1109, s279_1110, s279_1111, s279_1112, s279_1113, k_0 hS, k15, kL, a1, a2, a3, a4, b1, b2, b3, b4, c1, c2, c3, c4, ol_s, ol_n, ln_0, ln_1, ln_2, ln_3, ln_4, eq_self, rf_s, rf_n, i01_0, i01_n0, i01_b, b01_0, b01_1, and_self, and_true, true_and, and_false, false_and, if_true, if_false, not_true_eq_false, not_false_eq_true, e10, e00, lt_bg, Nat.reduceLT, Nat.reduceLeDiff]
  refine AW.mono (aw_two (o_railway h) hN hk) (fun r σ1 ρ1 g1 τ1 ⟨f1, f2, f3⟩ => ?_)
  obtain ⟨v, e⟩ := sm_v (P := fun τ2 => ∀ a, am_BG ≤ a → τ2.1 a = τ.1 a) f3
  subst e
  obtain ⟨s1, t1, t2⟩ := f2 1000002 (by decide)
  have t1 := t1.trans k15
  have t2 := t2.trans kL
  have k160 : τ1.1 160 = 12 := (f1 160 (by omega)).trans (k_160 hS)
  simp only [s279_1116, s279_1117, s279_1118, s279_1119, s279_1120, s279_1121, s279_1122, s279_1123, s279_1124, s279_1125, s279_1126, s279_1127, s279_1128, s279_1129, s279_1130, s279_1131, s279_1132, k160, t1, t2, s1, a1, a2, a3, a4, b1, b2, b3, b4, c1, c2, c3, c4, ol_s, ol_n, ln_0, ln_1, ln_2, ln_3, ln_4, eq_self, rf_s, rf_n, i01_0, i01_n0, i01_b, b01_0, b01_1, and_self, and_true, true_and, and_false, false_and, if_true, if_false, not_true_eq_false, not_false_eq_true, e10, e00, lt_bg, Nat.reduceLT, Nat.reduceLeDiff]
  refine AW.mono f3 (fun r' σ2 ρ2 g2 τ2 ⟨⟨⟨w, q1, q2⟩, q3, q4, q5, q6, q7⟩, q8⟩ => ?_)
  cases q1
  subst q2
  simp only [s279_1135, ol_s, ol_n, ln_0, ln_1, ln_2, ln_3, ln_4, eq_self, rf_s, rf_n, i01_0, i01_n0, i01_b, b01_0, b01_1, and_self, and_true, true_and, and_false, false_and, if_true, if_false, not_true_eq_false, not_false_eq_true, e10, e00, lt_bg, Nat.reduceLT, Nat.reduceLeDiff]
  exact K σ2 ρ2 g2 τ2 q3 (q6.trans k15) (q7.trans kL) q4 q5 (fun a ha => by rw [q8 a ha]; exact hk a ha)
theorem lw_24 (P : LwP L i σ ρ g τ) (K : LwK d L i τ Q) : AW (d + 50) 279 1140 [.ref 1000002, .ref 0, .ref 160, .int (nI i)] [] σ ρ g τ Q := by
  obtain ⟨h, k15, kL, hi, hL, hN, hk⟩ := P
  have hS := h.sh
  have h261 := hS.2.2.2.2.2.2
  have b1 : am_inb (nI (i + 1)) L = true := inb_n (by omega) (by omega)
  have b2 : am_inb (nI (i + 2)) L = true := inb_n (by omega) (by omega)
  have b3 : am_inb (nI (i + 3)) L = true := inb_n (by omega) (by omega)
  have b4 : am_inb (nI (i + 4)) L = true := inb_n (by omega) (by omega)
  have c1 : (nI (i + 1)).toNatClampNeg = i + 1 := nI_clamp (by omega)
  have c2 : (nI (i + 2)).toNatClampNeg = i + 2 := nI_clamp (by omega)
  have c3 : (nI (i + 3)).toNatClampNeg = i + 3 := nI_clamp (by omega)
  have c4 : (nI (i + 4)).toNatClampNeg = i + 4 := nI_clamp (by omega)
  have a1 : nI i + 1 = nI (i + 1) := nI_add i 1
  have a2 : nI i + 2 = nI (i + 2) := nI_add i 2
  have a3 : nI i + 3 = nI (i + 3) := nI_add i 3
  have a4 : nI i + 4 = nI (i + 4) := nI_add i 4
  simp only [s279_1140, s279_1141, s279_1142, s279_1143, s279_1144, s279_1145, s279_1146, s279_1147, s279_1148, s279_1149, s279_1150, s279_1151, k_0 hS, k15, kL, a1, a2, a3, a4, b1, b2, b3, b4, c1, c2, c3, c4, ol_s, ol_n, ln_0, ln_1, ln_2, ln_3, ln_4, eq_self, rf_s, rf_n, i01_0, i01_n0, i01_b, b01_0, b01_1, and_self, and_true, true_and, and_false, false_and, if_true, if_false, not_true_eq_false, not_false_eq_true, e10, e00, lt_bg, Nat.reduceLT, Nat.reduceLeDiff]
  refine AW.mono (aw_two (o_railwayOf h) hN hk) (fun r σ1 ρ1 g1 τ1 ⟨f1, f2, f3⟩ => ?_)
  obtain ⟨v, e⟩ := sm_v (P := fun τ2 => ∀ a, am_BG ≤ a → τ2.1 a = τ.1 a) f3
  subst e
  obtain ⟨s1, t1, t2⟩ := f2 1000002 (by decide)
  have t1 := t1.trans k15
  have t2 := t2.trans kL
  have k160 : τ1.1 160 = 12 := (f1 160 (by omega)).trans (k_160 hS)
  simp only [s279_1154, s279_1155, s279_1156, s279_1157, s279_1158, s279_1159, s279_1160, s279_1161, s279_1162, s279_1163, s279_1164, s279_1165, k160, t1, t2, s1, a1, a2, a3, a4, b1, b2, b3, b4, c1, c2, c3, c4, ol_s, ol_n, ln_0, ln_1, ln_2, ln_3, ln_4, eq_self, rf_s, rf_n, i01_0, i01_n0, i01_b, b01_0, b01_1, and_self, and_true, true_and, and_false, false_and, if_true, if_false, not_true_eq_false, not_false_eq_true, e10, e00, lt_bg, Nat.reduceLT, Nat.reduceLeDiff]
  refine AW.mono f3 (fun r' σ2 ρ2 g2 τ2 ⟨⟨⟨w, q1, q2⟩, q3, q4, q5, q6, q7⟩, q8⟩ => ?_)
  cases q1
  subst q2
  simp only [s279_1168, ol_s, ol_n, ln_0, ln_1, ln_2, ln_3, ln_4, eq_self, rf_s, rf_n, i01_0, i01_n0, i01_b, b01_0, b01_1, and_self, and_true, true_and, and_false, false_and, if_true, if_false, not_true_eq_false, not_false_eq_true, e10, e00, lt_bg, Nat.reduceLT, Nat.reduceLeDiff]
  exact K σ2 ρ2 g2 τ2 q3 (q6.trans k15) (q7.trans kL) q4 q5 (fun a ha => by rw [q8 a ha]; exact hk a ha)
theorem lw_25 (P : LwP L i σ ρ g τ) (K : LwK d L i τ Q) : AW (d + 50) 279 1173 [.ref 1000002, .ref 0, .ref 160, .int (nI i)] [] σ ρ g τ Q := by
  obtain ⟨h, k15, kL, hi, hL, hN, hk⟩ := P
  have hS := h.sh
  have h261 := hS.2.2.2.2.2.2
  have b1 : am_inb (nI (i + 1)) L = true := inb_n (by omega) (by omega)
  have b2 : am_inb (nI (i + 2)) L = true := inb_n (by omega) (by omega)
  have b3 : am_inb (nI (i + 3)) L = true := inb_n (by omega) (by omega)
  have b4 : am_inb (nI (i + 4)) L = true := inb_n (by omega) (by omega)
  have c1 : (nI (i + 1)).toNatClampNeg = i + 1 := nI_clamp (by omega)
  have c2 : (nI (i + 2)).toNatClampNeg = i + 2 := nI_clamp (by omega)
  have c3 : (nI (i + 3)).toNatClampNeg = i + 3 := nI_clamp (by omega)
  have c4 : (nI (i + 4)).toNatClampNeg = i + 4 := nI_clamp (by omega)
  have a1 : nI i + 1 = nI (i + 1) := nI_add i 1
  have a2 : nI i + 2 = nI (i + 2) := nI_add i 2
  have a3 : nI i + 3 = nI (i + 3) := nI_add i 3
  have a4 : nI i + 4 = nI (i + 4) := nI_add i 4
  simp only [s279_1173, s279_1174, s279_1175, s279_1176, s279_1177, s279_1178, s279_1179, s279_1180, s279_1181, s279_1182, s279_1183, s279_1184, s279_1185, s279_1186, s279_1187, s279_1188, s279_1189, s279_1190, s279_1191, s279_1192, s279_1193, s279_1194, k_0 hS, k15, kL, a1, a2, a3, a4, b1, b2, b3, b4, c1, c2, c3, c4, ol_s, ol_n, ln_0, ln_1, ln_2, ln_3, ln_4, eq_self, rf_s, rf_n, i01_0, i01_n0, i01_b, b01_0, b01_1, and_self, and_true, true_and, and_false, false_and, if_true, if_false, not_true_eq_false, not_false_eq_true, e10, e00, lt_bg, Nat.reduceLT, Nat.reduceLeDiff]
  refine AW.mono (aw_two (o_paper h) hN hk) (fun r σ1 ρ1 g1 τ1 ⟨f1, f2, f3⟩ => ?_)
  obtain ⟨v, e⟩ := sm_v (P := fun τ2 => ∀ a, am_BG ≤ a → τ2.1 a = τ.1 a) f3
  subst e
  obtain ⟨s1, t1, t2⟩ := f2 1000002 (by decide)
  have t1 := t1.trans k15
  have t2 := t2.trans kL
  have k160 : τ1.1 160 = 12 := (f1 160 (by omega)).trans (k_160 hS)
  simp only [s279_1197, s279_1198, s279_1199, s279_1200, s279_1201, s279_1202, s279_1203, s279_1204, s279_1205, s279_1206, s279_1207, s279_1208, s279_1209, s279_1210, s279_1211, s279_1212, s279_1213, s279_1214, s279_1215, s279_1216, s279_1217, s279_1218, k160, t1, t2, s1, a1, a2, a3, a4, b1, b2, b3, b4, c1, c2, c3, c4, ol_s, ol_n, ln_0, ln_1, ln_2, ln_3, ln_4, eq_self, rf_s, rf_n, i01_0, i01_n0, i01_b, b01_0, b01_1, and_self, and_true, true_and, and_false, false_and, if_true, if_false, not_true_eq_false, not_false_eq_true, e10, e00, lt_bg, Nat.reduceLT, Nat.reduceLeDiff]
  refine AW.mono f3 (fun r' σ2 ρ2 g2 τ2 ⟨⟨⟨w, q1, q2⟩, q3, q4, q5, q6, q7⟩, q8⟩ => ?_)
  cases q1
  subst q2
  simp only [s279_1221, ol_s, ol_n, ln_0, ln_1, ln_2, ln_3, ln_4, eq_self, rf_s, rf_n, i01_0, i01_n0, i01_b, b01_0, b01_1, and_self, and_true, true_and, and_false, false_and, if_true, if_false, not_true_eq_false, not_false_eq_true, e10, e00, lt_bg, Nat.reduceLT, Nat.reduceLeDiff]
  exact K σ2 ρ2 g2 τ2 q3 (q6.trans k15) (q7.trans kL) q4 q5 (fun a ha => by rw [q8 a ha]; exact hk a ha)
theorem lw_26 (P : LwP L i σ ρ g τ) (K : LwK d L i τ Q) : AW (d + 50) 279 1226 [.ref 1000002, .ref 0, .ref 160, .int (nI i)] [] σ ρ g τ Q := by
  obtain ⟨h, k15, kL, hi, hL, hN, hk⟩ := P
  have hS := h.sh
  have h261 := hS.2.2.2.2.2.2
  have b1 : am_inb (nI (i + 1)) L = true := inb_n (by omega) (by omega)
  have b2 : am_inb (nI (i + 2)) L = true := inb_n (by omega) (by omega)
  have b3 : am_inb (nI (i + 3)) L = true := inb_n (by omega) (by omega)
  have b4 : am_inb (nI (i + 4)) L = true := inb_n (by omega) (by omega)
  have c1 : (nI (i + 1)).toNatClampNeg = i + 1 := nI_clamp (by omega)
  have c2 : (nI (i + 2)).toNatClampNeg = i + 2 := nI_clamp (by omega)
  have c3 : (nI (i + 3)).toNatClampNeg = i + 3 := nI_clamp (by omega)
  have c4 : (nI (i + 4)).toNatClampNeg = i + 4 := nI_clamp (by omega)
  have a1 : nI i + 1 = nI (i + 1) := nI_add i 1
  have a2 : nI i + 2 = nI (i + 2) := nI_add i 2
  have a3 : nI i + 3 = nI (i + 3) := nI_add i 3
  have a4 : nI i + 4 = nI (i + 4) := nI_add i 4
  simp only [s279_1226, s279_1227, s279_1228, s279_1229, s279_1230, s279_1231, s279_1232, k_0 hS, k15, kL, a1, a2, a3, a4, b1, b2, b3, b4, c1, c2, c3, c4, ol_s, ol_n, ln_0, ln_1, ln_2, ln_3, ln_4, eq_self, rf_s, rf_n, i01_0, i01_n0, i01_b, b01_0, b01_1, and_self, and_true, true_and, and_false, false_and, if_true, if_false, not_true_eq_false, not_false_eq_true, e10, e00, lt_bg, Nat.reduceLT, Nat.reduceLeDiff]
  refine AW.mono (aw_two (o_bills h) hN hk) (fun r σ1 ρ1 g1 τ1 ⟨f1, f2, f3⟩ => ?_)
  obtain ⟨v, e⟩ := sm_v (P := fun τ2 => ∀ a, am_BG ≤ a → τ2.1 a = τ.1 a) f3
  subst e
  obtain ⟨s1, t1, t2⟩ := f2 1000002 (by decide)
  have t1 := t1.trans k15
  have t2 := t2.trans kL
  have k160 : τ1.1 160 = 12 := (f1 160 (by omega)).trans (k_160 hS)
  simp only [s279_1235, s279_1236, s279_1237, s279_1238, s279_1239, s279_1240, s279_1241, k160, t1, t2, s1, a1, a2, a3, a4, b1, b2, b3, b4, c1, c2, c3, c4, ol_s, ol_n, ln_0, ln_1, ln_2, ln_3, ln_4, eq_self, rf_s, rf_n, i01_0, i01_n0, i01_b, b01_0, b01_1, and_self, and_true, true_and, and_false, false_and, if_true, if_false, not_true_eq_false, not_false_eq_true, e10, e00, lt_bg, Nat.reduceLT, Nat.reduceLeDiff]
  refine AW.mono f3 (fun r' σ2 ρ2 g2 τ2 ⟨⟨⟨w, q1, q2⟩, q3, q4, q5, q6, q7⟩, q8⟩ => ?_)
  cases q1
  subst q2
  simp only [s279_1244, ol_s, ol_n, ln_0, ln_1, ln_2, ln_3, ln_4, eq_self, rf_s, rf_n, i01_0, i01_n0, i01_b, b01_0, b01_1, and_self, and_true, true_and, and_false, false_and, if_true, if_false, not_true_eq_false, not_false_eq_true, e10, e00, lt_bg, Nat.reduceLT, Nat.reduceLeDiff]
  exact K σ2 ρ2 g2 τ2 q3 (q6.trans k15) (q7.trans kL) q4 q5 (fun a ha => by rw [q8 a ha]; exact hk a ha)
theorem lw_27 (P : LwP L i σ ρ g τ) (K : LwK d L i τ Q) : AW (d + 50) 279 1249 [.ref 1000002, .ref 0, .ref 160, .int (nI i)] [] σ ρ g τ Q := by
  obtain ⟨h, k15, kL, hi, hL, hN, hk⟩ := P
  have hS := h.sh
  have h261 := hS.2.2.2.2.2.2
  have b1 : am_inb (nI (i + 1)) L = true := inb_n (by omega) (by omega)
  have b2 : am_inb (nI (i + 2)) L = true := inb_n (by omega) (by omega)
  have b3 : am_inb (nI (i + 3)) L = true := inb_n (by omega) (by omega)
  have b4 : am_inb (nI (i + 4)) L = true := inb_n (by omega) (by omega)
  have c1 : (nI (i + 1)).toNatClampNeg = i + 1 := nI_clamp (by omega)
  have c2 : (nI (i + 2)).toNatClampNeg = i + 2 := nI_clamp (by omega)
  have c3 : (nI (i + 3)).toNatClampNeg = i + 3 := nI_clamp (by omega)
  have c4 : (nI (i + 4)).toNatClampNeg = i + 4 := nI_clamp (by omega)
  have a1 : nI i + 1 = nI (i + 1) := nI_add i 1
  have a2 : nI i + 2 = nI (i + 2) := nI_add i 2
  have a3 : nI i + 3 = nI (i + 3) := nI_add i 3
  have a4 : nI i + 4 = nI (i + 4) := nI_add i 4
  simp only [s279_1249, s279_1250, s279_1251, s279_1252, s279_1253, s279_1254, s279_1255, s279_1256, s279_1257, s279_1258, s279_1259, s279_1260, k_0 hS, k15, kL, a1, a2, a3, a4, b1, b2, b3, b4, c1, c2, c3, c4, ol_s, ol_n, ln_0, ln_1, ln_2, ln_3, ln_4, eq_self, rf_s, rf_n, i01_0, i01_n0, i01_b, b01_0, b01_1, and_self, and_true, true_and, and_false, false_and, if_true, if_false, not_true_eq_false, not_false_eq_true, e10, e00, lt_bg, Nat.reduceLT, Nat.reduceLeDiff]
  refine AW.mono (aw_two (o_taking h) hN hk) (fun r σ1 ρ1 g1 τ1 ⟨f1, f2, f3⟩ => ?_)
  obtain ⟨v, e⟩ := sm_v (P := fun τ2 => ∀ a, am_BG ≤ a → τ2.1 a = τ.1 a) f3
  subst e
  obtain ⟨s1, t1, t2⟩ := f2 1000002 (by decide)
  have t1 := t1.trans k15
  have t2 := t2.trans kL
  have k160 : τ1.1 160 = 12 := (f1 160 (by omega)).trans (k_160 hS)
  simp only [s279_1263, s279_1264, s279_1265, s279_1266, s279_1267, s279_1268, s279_1269, s279_1270, s279_1271, s279_1272, s279_1273, s279_1274, k160, t1, t2, s1, a1, a2, a3, a4, b1, b2, b3, b4, c1, c2, c3, c4, ol_s, ol_n, ln_0, ln_1, ln_2, ln_3, ln_4, eq_self, rf_s, rf_n, i01_0, i01_n0, i01_b, b01_0, b01_1, and_self, and_true, true_and, and_false, false_and, if_true, if_false, not_true_eq_false, not_false_eq_true, e10, e00, lt_bg, Nat.reduceLT, Nat.reduceLeDiff]
  refine AW.mono f3 (fun r' σ2 ρ2 g2 τ2 ⟨⟨⟨w, q1, q2⟩, q3, q4, q5, q6, q7⟩, q8⟩ => ?_)
  cases q1
  subst q2
  simp only [s279_1277, ol_s, ol_n, ln_0, ln_1, ln_2, ln_3, ln_4, eq_self, rf_s, rf_n, i01_0, i01_n0, i01_b, b01_0, b01_1, and_self, and_true, true_and, and_false, false_and, if_true, if_false, not_true_eq_false, not_false_eq_true, e10, e00, lt_bg, Nat.reduceLT, Nat.reduceLeDiff]
  exact K σ2 ρ2 g2 τ2 q3 (q6.trans k15) (q7.trans kL) q4 q5 (fun a ha => by rw [q8 a ha]; exact hk a ha)
theorem lw_28 (P : LwP L i σ ρ g τ) (K : LwK d L i τ Q) : AW (d + 50) 279 1282 [.ref 1000002, .ref 0, .ref 160, .int (nI i)] [] σ ρ g τ Q := by
  obtain ⟨h, k15, kL, hi, hL, hN, hk⟩ := P
  have hS := h.sh
  have h261 := hS.2.2.2.2.2.2
  have b1 : am_inb (nI (i + 1)) L = true := inb_n (by omega) (by omega)
  have b2 : am_inb (nI (i + 2)) L = true := inb_n (by omega) (by omega)
  have b3 : am_inb (nI (i + 3)) L = true := inb_n (by omega) (by omega)
  have b4 : am_inb (nI (i + 4)) L = true := inb_n (by omega) (by omega)
  have c1 : (nI (i + 1)).toNatClampNeg = i + 1 := nI_clamp (by omega)
  have c2 : (nI (i + 2)).toNatClampNeg = i + 2 := nI_clamp (by omega)
  have c3 : (nI (i + 3)).toNatClampNeg = i + 3 := nI_clamp (by omega)
  have c4 : (nI (i + 4)).toNatClampNeg = i + 4 := nI_clamp (by omega)
  have a1 : nI i + 1 = nI (i + 1) := nI_add i 1
  have a2 : nI i + 2 = nI (i + 2) := nI_add i 2
  have a3 : nI i + 3 = nI (i + 3) := nI_add i 3
  have a4 : nI i + 4 = nI (i + 4) := nI_add i 4
  simp only [s279_1282, s279_1283, s279_1284, s279_1285, s279_1286, s279_1287, s279_1288, k_0 hS, k15, kL, a1, a2, a3, a4, b1, b2, b3, b4, c1, c2, c3, c4, ol_s, ol_n, ln_0, ln_1, ln_2, ln_3, ln_4, eq_self, rf_s, rf_n, i01_0, i01_n0, i01_b, b01_0, b01_1, and_self, and_true, true_and, and_false, false_and, if_true, if_false, not_true_eq_false, not_false_eq_true, e10, e00, lt_bg, Nat.reduceLT, Nat.reduceLeDiff]
  refine AW.mono (aw_two (o_takings h) hN hk) (fun r σ1 ρ1 g1 τ1 ⟨f1, f2, f3⟩ => ?_)
  obtain ⟨v, e⟩ := sm_v (P := fun τ2 => ∀ a, am_BG ≤ a → τ2.1 a = τ.1 a) f3
  subst e
  obtain ⟨s1, t1, t2⟩ := f2 1000002 (by decide)
  have t1 := t1.trans k15
  have t2 := t2.trans kL
  have k160 : τ1.1 160 = 12 := (f1 160 (by omega)).trans (k_160 hS)
  simp only [s279_1291, s279_1292, s279_1293, s279_1294, s279_1295, s279_1296, s279_1297, k160, t1, t2, s1, a1, a2, a3, a4, b1, b2, b3, b4, c1, c2, c3, c4, ol_s, ol_n, ln_0, ln_1, ln_2, ln_3, ln_4, eq_self, rf_s, rf_n, i01_0, i01_n0, i01_b, b01_0, b01_1, and_self, and_true, true_and, and_false, false_and, if_true, if_false, not_true_eq_false, not_false_eq_true, e10, e00, lt_bg, Nat.reduceLT, Nat.reduceLeDiff]
  refine AW.mono f3 (fun r' σ2 ρ2 g2 τ2 ⟨⟨⟨w, q1, q2⟩, q3, q4, q5, q6, q7⟩, q8⟩ => ?_)
  cases q1
  subst q2
  simp only [s279_1300, ol_s, ol_n, ln_0, ln_1, ln_2, ln_3, ln_4, eq_self, rf_s, rf_n, i01_0, i01_n0, i01_b, b01_0, b01_1, and_self, and_true, true_and, and_false, false_and, if_true, if_false, not_true_eq_false, not_false_eq_true, e10, e00, lt_bg, Nat.reduceLT, Nat.reduceLeDiff]
  exact K σ2 ρ2 g2 τ2 q3 (q6.trans k15) (q7.trans kL) q4 q5 (fun a ha => by rw [q8 a ha]; exact hk a ha)
theorem lw_29 (P : LwP L i σ ρ g τ) (K : LwK d L i τ Q) : AW (d + 50) 279 1305 [.ref 1000002, .ref 0, .ref 160, .int (nI i)] [] σ ρ g τ Q := by
  obtain ⟨h, k15, kL, hi, hL, hN, hk⟩ := P
  have hS := h.sh
  have h261 := hS.2.2.2.2.2.2
  have b1 : am_inb (nI (i + 1)) L = true := inb_n (by omega) (by omega)
  have b2 : am_inb (nI (i + 2)) L = true := inb_n (by omega) (by omega)
  have b3 : am_inb (nI (i + 3)) L = true := inb_n (by omega) (by omega)
  have b4 : am_inb (nI (i + 4)) L = true := inb_n (by omega) (by omega)
  have c1 : (nI (i + 1)).toNatClampNeg = i + 1 := nI_clamp (by omega)
  have c2 : (nI (i + 2)).toNatClampNeg = i + 2 := nI_clamp (by omega)
  have c3 : (nI (i + 3)).toNatClampNeg = i + 3 := nI_clamp (by omega)
  have c4 : (nI (i + 4)).toNatClampNeg = i + 4 := nI_clamp (by omega)
  have a1 : nI i + 1 = nI (i + 1) := nI_add i 1
  have a2 : nI i + 2 = nI (i + 2) := nI_add i 2
  have a3 : nI i + 3 = nI (i + 3) := nI_add i 3
  have a4 : nI i + 4 = nI (i + 4) := nI_add i 4
  simp only [s279_1305, s279_1306, s279_1307, s279_1308, s279_1309, s279_1310, s279_1311, s279_1312, s279_1313, s279_1314, s279_1315, s279_1316, s279_1317, s279_1318, s279_1319, s279_1320, s279_1321, s279_1322, s279_1323, s279_1324, s279_1325, s279_1326, k_0 hS, k15, kL, a1, a2, a3, a4, b1, b2, b3, b4, c1, c2, c3, c4, ol_s, ol_n, ln_0, ln_1, ln_2, ln_3, ln_4, eq_self, rf_s, rf_n, i01_0, i01_n0, i01_b, b01_0, b01_1, and_self, and_true, true_and, and_false, false_and, if_true, if_false, not_true_eq_false, not_false_eq_true, e10, e00, lt_bg, Nat.reduceLT, Nat.reduceLeDiff]
  refine AW.mono (aw_two (o_choice h) hN hk) (fun r σ1 ρ1 g1 τ1 ⟨f1, f2, f3⟩ => ?_)
  obtain ⟨v, e⟩ := sm_v (P := fun τ2 => ∀ a, am_BG ≤ a → τ2.1 a = τ.1 a) f3
  subst e
  obtain ⟨s1, t1, t2⟩ := f2 1000002 (by decide)
  have t1 := t1.trans k15
  have t2 := t2.trans kL
  have k160 : τ1.1 160 = 12 := (f1 160 (by omega)).trans (k_160 hS)
  simp only [s279_1329, s279_1330, s279_1331, s279_1332, s279_1333, s279_1334, s279_1335, s279_1336, s279_1337, s279_1338, s279_1339, s279_1340, s279_1341, s279_1342, s279_1343, s279_1344, s279_1345, s279_1346, s279_1347, s279_1348, s279_1349, s279_1350, k160, t1, t2, s1, a1, a2, a3, a4, b1, b2, b3, b4, c1, c2, c3, c4, ol_s, ol_n, ln_0, ln_1, ln_2, ln_3, ln_4, eq_self, rf_s, rf_n, i01_0, i01_n0, i01_b, b01_0, b01_1, and_self, and_true, true_and, and_false, false_and, if_true, if_false, not_true_eq_false, not_false_eq_true, e10, e00, lt_bg, Nat.reduceLT, Nat.reduceLeDiff]
  refine AW.mono f3 (fun r' σ2 ρ2 g2 τ2 ⟨⟨⟨w, q1, q2⟩, q3, q4, q5, q6, q7⟩, q8⟩ => ?_)
  cases q1
  subst q2
  simp only [s279_1353, ol_s, ol_n, ln_0, ln_1, ln_2, ln_3, ln_4, eq_self, rf_s, rf_n, i01_0, i01_n0, i01_b, b01_0, b01_1, and_self, and_true, true_and, and_false, false_and, if_true, if_false, not_true_eq_false, not_false_eq_true, e10, e00, lt_bg, Nat.reduceLT, Nat.reduceLeDiff]
  exact K σ2 ρ2 g2 τ2 q3 (q6.trans k15) (q7.trans kL) q4 q5 (fun a ha => by rw [q8 a ha]; exact hk a ha)
theorem lw_30 (P : LwP L i σ ρ g τ) (K : LwK d L i τ Q) : AW (d + 50) 279 1358 [.ref 1000002, .ref 0, .ref 160, .int (nI i)] [] σ ρ g τ Q := by
  obtain ⟨h, k15, kL, hi, hL, hN, hk⟩ := P
  have hS := h.sh
  have h261 := hS.2.2.2.2.2.2
  have b1 : am_inb (nI (i + 1)) L = true := inb_n (by omega) (by omega)
  have b2 : am_inb (nI (i + 2)) L = true := inb_n (by omega) (by omega)
  have b3 : am_inb (nI (i + 3)) L = true := inb_n (by omega) (by omega)
  have b4 : am_inb (nI (i + 4)) L = true := inb_n (by omega) (by omega)
  have c1 : (nI (i + 1)).toNatClampNeg = i + 1 := nI_clamp (by omega)
  have c2 : (nI (i + 2)).toNatClampNeg = i + 2 := nI_clamp (by omega)
  have c3 : (nI (i + 3)).toNatClampNeg = i + 3 := nI_clamp (by omega)
  have c4 : (nI (i + 4)).toNatClampNeg = i + 4 := nI_clamp (by omega)
  have a1 : nI i + 1 = nI (i + 1) := nI_add i 1
  have a2 : nI i + 2 = nI (i + 2) := nI_add i 2
  have a3 : nI i + 3 = nI (i + 3) := nI_add i 3
  have a4 : nI i + 4 = nI (i + 4) := nI_add i 4
  simp only [s279_1358, s279_1359, s279_1360, s279_1361, s279_1362, s279_1363, s279_1364, k_0 hS, k15, kL, a1, a2, a3, a4, b1, b2, b3, b4, c1, c2, c3, c4, ol_s, ol_n, ln_0, ln_1, ln_2, ln_3, ln_4, eq_self, rf_s, rf_n, i01_0, i01_n0, i01_b, b01_0, b01_1, and_self, and_true, true_and, and_false, false_and, if_true, if_false, not_true_eq_false, not_false_eq_true, e10, e00, lt_bg, Nat.reduceLT, Nat.reduceLeDiff]
  refine AW.mono (aw_two (o_choose h) hN hk) (fun r σ1 ρ1 g1 τ1 ⟨f1, f2, f3⟩ => ?_)
  obtain ⟨v, e⟩ := sm_v (P := fun τ2 => ∀ a, am_BG ≤ a → τ2.1 a = τ.1 a) f3
  subst e
  obtain ⟨s1, t1, t2⟩ := f2 1000002 (by decide)
  have t1 := t1.trans k15
  have t2 := t2.trans kL
  have k160 : τ1.1 160 = 12 := (f1 160 (by omega)).trans (k_160 hS)
  simp only [s279_1367, s279_1368, s279_1369, s279_1370, s279_1371, s279_1372, s279_1373, k160, t1, t2, s1, a1, a2, a3, a4, b1, b2, b3, b4, c1, c2, c3, c4, ol_s, ol_n, ln_0, ln_1, ln_2, ln_3, ln_4, eq_self, rf_s, rf_n, i01_0, i01_n0, i01_b, b01_0, b01_1, and_self, and_true, true_and, and_false, false_and, if_true, if_false, not_true_eq_false, not_false_eq_true, e10, e00, lt_bg, Nat.reduceLT, Nat.reduceLeDiff]
  refine AW.mono f3 (fun r' σ2 ρ2 g2 τ2 ⟨⟨⟨w, q1, q2⟩, q3, q4, q5, q6, q7⟩, q8⟩ => ?_)
  cases q1
  subst q2
  simp only [s279_1376, ol_s, ol_n, ln_0, ln_1, ln_2, ln_3, ln_4, eq_self, rf_s, rf_n, i01_0, i01_n0, i01_b, b01_0, b01_1, and_self, and_true, true_and, and_false, false_and, if_true, if_false, not_true_eq_false, not_false_eq_true, e10, e00, lt_bg, Nat.reduceLT, Nat.reduceLeDiff]
  exact K σ2 ρ2 g2 τ2 q3 (q6.trans k15) (q7.trans kL) q4 q5 (fun a ha => by rw [q8 a ha]; exact hk a ha)
theorem lw_31 (P : LwP L i σ ρ g τ) (K : LwK d L i τ Q) : AW (d + 50) 279 1381 [.ref 1000002, .ref 0, .ref 160, .int (nI i)] [] σ ρ g τ Q := by
  obtain ⟨h, k15, kL, hi, hL, hN, hk⟩ := P
  have hS := h.sh
  have h261 := hS.2.2.2.2.2.2
  have b1 : am_inb (nI (i + 1)) L = true := inb_n (by omega) (by omega)
  have b2 : am_inb (nI (i + 2)) L = true := inb_n (by omega) (by omega)
  have b3 : am_inb (nI (i + 3)) L = true := inb_n (by omega) (by omega)
  have b4 : am_inb (nI (i + 4)) L = true := inb_n (by omega) (by omega)
  have c1 : (nI (i + 1)).toNatClampNeg = i + 1 := nI_clamp (by omega)
  have c2 : (nI (i + 2)).toNatClampNeg = i + 2 := nI_clamp (by omega)
  have c3 : (nI (i + 3)).toNatClampNeg = i + 3 := nI_clamp (by omega)
  have c4 : (nI (i + 4)).toNatClampNeg = i + 4 := nI_clamp (by omega)
  have a1 : nI i + 1 = nI (i + 1) := nI_add i 1
  have a2 : nI i + 2 = nI (i + 2) := nI_add i 2
  have a3 : nI i + 3 = nI (i + 3) := nI_add i 3
  have a4 : nI i + 4 = nI (i + 4) := nI_add i 4
  simp only [s279_1381, s279_1382, s279_1383, s279_1384, s279_1385, s279_1386, s279_1387, s279_1388, s279_1389, s279_1390, s279_1391, s279_1392, k_0 hS, k15, kL, a1, a2, a3, a4, b1, b2, b3, b4, c1, c2, c3, c4, ol_s, ol_n, ln_0, ln_1, ln_2, ln_3, ln_4, eq_self, rf_s, rf_n, i01_0, i01_n0, i01_b, b01_0, b01_1, and_self, and_true, true_and, and_false, false_and, if_true, if_false, not_true_eq_false, not_false_eq_true, e10, e00, lt_bg, Nat.reduceLT, Nat.reduceLeDiff]
  refine AW.mono (aw_two (o_row h) hN hk) (fun r σ1 ρ1 g1 τ1 ⟨f1, f2, f3⟩ => ?_)
  obtain ⟨v, e⟩ := sm_v (P := fun τ2 => ∀ a, am_BG ≤ a → τ2.1 a = τ.1 a) f3
  subst e
  obtain ⟨s1, t1, t2⟩ := f2 1000002 (by decide)
  have t1 := t1.trans k15
  have t2 := t2.trans kL
  have k160 : τ1.1 160 = 12 := (f1 160 (by omega)).trans (k_160 hS)
  simp only [s279_1395, s279_1396, s279_1397, s279_1398, s279_1399, s279_1400, s279_1401, s279_1402, s279_1403, s279_1404, s279_1405, s279_1406, k160, t1, t2, s1, a1, a2, a3, a4, b1, b2, b3, b4, c1, c2, c3, c4, ol_s, ol_n, ln_0, ln_1, ln_2, ln_3, ln_4, eq_self, rf_s, rf_n, i01_0, i01_n0, i01_b, b01_0, b01_1, and_self, and_true, true_and, and_false, false_and, if_true, if_false, not_true_eq_false, not_false_eq_true, e10, e00, lt_bg, Nat.reduceLT, Nat.reduceLeDiff]
  refine AW.mono f3 (fun r' σ2 ρ2 g2 τ2 ⟨⟨⟨w, q1, q2⟩, q3, q4, q5, q6, q7⟩, q8⟩ => ?_)
  cases q1
  subst q2
  simp only [s279_1409, ol_s, ol_n, ln_0, ln_1, ln_2, ln_3, ln_4, eq_self, rf_s, rf_n, i01_0, i01_n0, i01_b, b01_0, b01_1, and_self, and_true, true_and, and_false, false_and, if_true, if_false, not_true_eq_false, not_false_eq_true, e10, e00, lt_bg, Nat.reduceLT, Nat.reduceLeDiff]
  exact K σ2 ρ2 g2 τ2 q3 (q6.trans k15) (q7.trans kL) q4 q5 (fun a ha => by rw [q8 a ha]; exact hk a ha)
theorem lw_32 (P : LwP L i σ ρ g τ) (K : LwK d L i τ Q) : AW (d + 50) 279 1414 [.ref 1000002, .ref 0, .ref 160, .int (nI i)] [] σ ρ g τ Q := by
  obtain ⟨h, k15, kL, hi, hL, hN, hk⟩ := P
  have hS := h.sh
  have h261 := hS.2.2.2.2.2.2
  have b1 : am_inb (nI (i + 1)) L = true := inb_n (by omega) (by omega)
  have b2 : am_inb (nI (i + 2)) L = true := inb_n (by omega) (by omega)
  have b3 : am_inb (nI (i + 3)) L = true := inb_n (by omega) (by omega)
  have b4 : am_inb (nI (i + 4)) L = true := inb_n (by omega) (by omega)
  have c1 : (nI (i + 1)).toNatClampNeg = i + 1 := nI_clamp (by omega)
  have c2 : (nI (i + 2)).toNatClampNeg = i + 2 := nI_clamp (by omega)
  have c3 : (nI (i + 3)).toNatClampNeg = i + 3 := nI_clamp (by omega)
  have c4 : (nI (i + 4)).toNatClampNeg = i + 4 := nI_clamp (by omega)
  have a1 : nI i + 1 = nI (i + 1) := nI_add i 1
  have a2 : nI i + 2 = nI (i + 2) := nI_add i 2
  have a3 : nI i + 3 = nI (i + 3) := nI_add i 3
  have a4 : nI i + 4 = nI (i + 4) := nI_add i 4
  simp only [s279_1414, s279_1415, s279_1416, s279_1417, s279_1418, s279_1419, s279_1420, s279_1421, s279_1422, s279_1423, s279_1424, s279_1425, s279_1426, s279_1427, s279_1428, s279_1429, s279_1430, k_0 hS, k15, kL, a1, a2, a3, a4, b1, b2, b3, b4, c1, c2, c3, c4, ol_s, ol_n, ln_0, ln_1, ln_2, ln_3, ln_4, eq_self, rf_s, rf_n, i01_0, i01_n0, i01_b, b01_0, b01_1, and_self, and_true, true_and, and_false, false_and, if_true, if_false, not_true_eq_false, not_false_eq_true, e10, e00, lt_bg, Nat.reduceLT, Nat.reduceLeDiff]
  refine AW.mono (aw_two (o_alterRow h) hN hk) (fun r σ1 ρ1 g1 τ1 ⟨f1, f2, f3⟩ => ?_)
  obtain ⟨v, e⟩ := sm_v (P := fun τ2 => ∀ a, am_BG ≤ a → τ2.1 a = τ.1 a) f3
  subst e
  obtain ⟨s1, t1, t2⟩ := f2 1000002 (by decide)
  have t1 := t1.trans k15
  have t2 := t2.trans kL
  have k160 : τ1.1 160 = 12 := (f1 160 (by omega)).trans (k_160 hS)
  simp only [s279_1433, s279_1434, s279_1435, s279_1436, s279_1437, s279_1438, s279_1439, s279_1440, s279_1441, s279_1442, s279_1443, s279_1444, s279_1445, s279_1446, s279_1447, s279_1448, s279_1449, k160, t1, t2, s1, a1, a2, a3, a4, b1, b2, b3, b4, c1, c2, c3, c4, ol_s, ol_n, ln_0, ln_1, ln_2, ln_3, ln_4, eq_self, rf_s, rf_n, i01_0, i01_n0, i01_b, b01_0, b01_1, and_self, and_true, true_and, and_false, false_and, if_true, if_false, not_true_eq_false, not_false_eq_true, e10, e00, lt_bg, Nat.reduceLT, Nat.reduceLeDiff]
  refine AW.mono f3 (fun r' σ2 ρ2 g2 τ2 ⟨⟨⟨w, q1, q2⟩, q3, q4, q5, q6, q7⟩, q8⟩ => ?_)
  cases q1
  subst q2
  simp only [s279_1452, ol_s, ol_n, ln_0, ln_1, ln_2, ln_3, ln_4, eq_self, rf_s, rf_n, i01_0, i01_n0, i01_b, b01_0, b01_1, and_self, and_true, true_and, and_false, false_and, if_true, if_false, not_true_eq_false, not_false_eq_true, e10, e00, lt_bg, Nat.reduceLT, Nat.reduceLeDiff]
  exact K σ2 ρ2 g2 τ2 q3 (q6.trans k15) (q7.trans kL) q4 q5 (fun a ha => by rw [q8 a ha]; exact hk a ha)
theorem lw_33 (P : LwP L i σ ρ g τ) (K : LwK d L i τ Q) : AW (d + 50) 279 1457 [.ref 1000002, .ref 0, .ref 160, .int (nI i)] [] σ ρ g τ Q := by
  obtain ⟨h, k15, kL, hi, hL, hN, hk⟩ := P
  have hS := h.sh
  have h261 := hS.2.2.2.2.2.2
  have b1 : am_inb (nI (i + 1)) L = true := inb_n (by omega) (by omega)
  have b2 : am_inb (nI (i + 2)) L = true := inb_n (by omega) (by omega)
  have b3 : am_inb (nI (i + 3)) L = true := inb_n (by omega) (by omega)
  have b4 : am_inb (nI (i + 4)) L = true := inb_n (by omega) (by omega)
  have c1 : (nI (i + 1)).toNatClampNeg = i + 1 := nI_clamp (by omega)
  have c2 : (nI (i + 2)).toNatClampNeg = i + 2 := nI_clamp (by omega)
  have c3 : (nI (i + 3)).toNatClampNeg = i + 3 := nI_clamp (by omega)
  have c4 : (nI (i + 4)).toNatClampNeg = i + 4 := nI_clamp (by omega)
  have a1 : nI i + 1 = nI (i + 1) := nI_add i 1
  have a2 : nI i + 2 = nI (i + 2) := nI_add i 2
  have a3 : nI i + 3 = nI (i + 3) := nI_add i 3
  have a4 : nI i + 4 = nI (i + 4) := nI_add i 4
  simp only [s279_1457, s279_1458, k_0 hS, k15, kL, a1, a2, a3, a4, b1, b2, b3, b4, c1, c2, c3, c4, ol_s, ol_n, ln_0, ln_1, ln_2, ln_3, ln_4, eq_self, rf_s, rf_n, i01_0, i01_n0, i01_b, b01_0, b01_1, and_self, and_true, true_and, and_false, false_and, if_true, if_false, not_true_eq_false, not_false_eq_true, e10, e00, lt_bg, Nat.reduceLT, Nat.reduceLeDiff]
  refine AW.mono (aw_two (o_dropRow h) hN hk) (fun r σ1 ρ1 g1 τ1 ⟨f1, f2, f3⟩ => ?_)
  obtain ⟨v, e⟩ := sm_v (P := fun τ2 => ∀ a, am_BG ≤ a → τ2.1 a = τ.1 a) f3
  subst e
  obtain ⟨s1, t1, t2⟩ := f2 1000002 (by decide)
  have t1 := t1.trans k15
  have t2 := t2.trans kL
  have k160 : τ1.1 160 = 12 := (f1 160 (by omega)).trans (k_160 hS)
  simp only [s279_1461, s279_1462, k160, t1, t2, s1, a1, a2, a3, a4, b1, b2, b3, b4, c1, c2, c3, c4, ol_s, ol_n, ln_0, ln_1, ln_2, ln_3, ln_4, eq_self, rf_s, rf_n, i01_0, i01_n0, i01_b, b01_0, b01_1, and_self, and_true, true_and, and_false, false_and, if_true, if_false, not_true_eq_false, not_false_eq_true, e10, e00, lt_bg, Nat.reduceLT, Nat.reduceLeDiff]
  refine AW.mono f3 (fun r' σ2 ρ2 g2 τ2 ⟨⟨⟨w, q1, q2⟩, q3, q4, q5, q6, q7⟩, q8⟩ => ?_)
  cases q1
  subst q2
  simp only [s279_1465, ol_s, ol_n, ln_0, ln_1, ln_2, ln_3, ln_4, eq_self, rf_s, rf_n, i01_0, i01_n0, i01_b, b01_0, b01_1, and_self, and_true, true_and, and_false, false_and, if_true, if_false, not_true_eq_false, not_false_eq_true, e10, e00, lt_bg, Nat.reduceLT, Nat.reduceLeDiff]
  exact K σ2 ρ2 g2 τ2 q3 (q6.trans k15) (q7.trans kL) q4 q5 (fun a ha => by rw [q8 a ha]; exact hk a ha)
theorem lw_34 (P : LwP L i σ ρ g τ) (K : LwK d L i τ Q) : AW (d + 50) 279 1470 [.ref 1000002, .ref 0, .ref 160, .int (nI i)] [] σ ρ g τ Q := by
  obtain ⟨h, k15, kL, hi, hL, hN, hk⟩ := P
  have hS := h.sh
  have h261 := hS.2.2.2.2.2.2
  have b1 : am_inb (nI (i + 1)) L = true := inb_n (by omega) (by omega)
  have b2 : am_inb (nI (i + 2)) L = true := inb_n (by omega) (by omega)
  have b3 : am_inb (nI (i + 3)) L = true := inb_n (by omega) (by omega)
  have b4 : am_inb (nI (i + 4)) L = true := inb_n (by omega) (by omega)
  have c1 : (nI (i + 1)).toNatClampNeg = i + 1 := nI_clamp (by omega)
  have c2 : (nI (i + 2)).toNatClampNeg = i + 2 := nI_clamp (by omega)
  have c3 : (nI (i + 3)).toNatClampNeg = i + 3 := nI_clamp (by omega)
  have c4 : (nI (i + 4)).toNatClampNeg = i + 4 := nI_clamp (by omega)
  have a1 : nI i + 1 = nI (i + 1) := nI_add i 1
  have a2 : nI i + 2 = nI (i + 2) := nI_add i 2
  have a3 : nI i + 3 = nI (i + 3) := nI_add i 3
  have a4 : nI i + 4 = nI (i + 4) := nI_add i 4
  simp only [s279_1470, s279_1471, s279_1472, s279_1473, s279_1474, s279_1475, s279_1476, k_0 hS, k15, kL, a1, a2, a3, a4, b1, b2, b3, b4, c1, c2, c3, c4, ol_s, ol_n, ln_0, ln_1, ln_2, ln_3, ln_4, eq_self, rf_s, rf_n, i01_0, i01_n0, i01_b, b01_0, b01_1, and_self, and_true, true_and, and_false, false_and, if_true, if_false, not_true_eq_false, not_false_eq_true, e10, e00, lt_bg, Nat.reduceLT, Nat.reduceLeDiff]
  refine AW.mono (aw_two (o_judge h) hN hk) (fun r σ1 ρ1 g1 τ1 ⟨f1, f2, f3⟩ => ?_)
  obtain ⟨v, e⟩ := sm_v (P := fun τ2 => ∀ a, am_BG ≤ a → τ2.1 a = τ.1 a) f3
  subst e
  obtain ⟨s1, t1, t2⟩ := f2 1000002 (by decide)
  have t1 := t1.trans k15
  have t2 := t2.trans kL
  have k160 : τ1.1 160 = 12 := (f1 160 (by omega)).trans (k_160 hS)
  simp only [s279_1479, s279_1480, s279_1481, s279_1482, s279_1483, s279_1484, s279_1485, k160, t1, t2, s1, a1, a2, a3, a4, b1, b2, b3, b4, c1, c2, c3, c4, ol_s, ol_n, ln_0, ln_1, ln_2, ln_3, ln_4, eq_self, rf_s, rf_n, i01_0, i01_n0, i01_b, b01_0, b01_1, and_self, and_true, true_and, and_false, false_and, if_true, if_false, not_true_eq_false, not_false_eq_true, e10, e00, lt_bg, Nat.reduceLT, Nat.reduceLeDiff]
  refine AW.mono f3 (fun r' σ2 ρ2 g2 τ2 ⟨⟨⟨w, q1, q2⟩, q3, q4, q5, q6, q7⟩, q8⟩ => ?_)
  cases q1
  subst q2
  simp only [s279_1488, ol_s, ol_n, ln_0, ln_1, ln_2, ln_3, ln_4, eq_self, rf_s, rf_n, i01_0, i01_n0, i01_b, b01_0, b01_1, and_self, and_true, true_and, and_false, false_and, if_true, if_false, not_true_eq_false, not_false_eq_true, e10, e00, lt_bg, Nat.reduceLT, Nat.reduceLeDiff]
  exact K σ2 ρ2 g2 τ2 q3 (q6.trans k15) (q7.trans kL) q4 q5 (fun a ha => by rw [q8 a ha]; exact hk a ha)
theorem lw_35 (P : LwP L i σ ρ g τ) (K : LwK d L i τ Q) : AW (d + 50) 279 1493 [.ref 1000002, .ref 0, .ref 160, .int (nI i)] [] σ ρ g τ Q := by
  obtain ⟨h, k15, kL, hi, hL, hN, hk⟩ := P
  have hS := h.sh
  have h261 := hS.2.2.2.2.2.2
  have b1 : am_inb (nI (i + 1)) L = true := inb_n (by omega) (by omega)
  have b2 : am_inb (nI (i + 2)) L = true := inb_n (by omega) (by omega)
  have b3 : am_inb (nI (i + 3)) L = true := inb_n (by omega) (by omega)
  have b4 : am_inb (nI (i + 4)) L = true := inb_n (by omega) (by omega)
  have c1 : (nI (i + 1)).toNatClampNeg = i + 1 := nI_clamp (by omega)
  have c2 : (nI (i + 2)).toNatClampNeg = i + 2 := nI_clamp (by omega)
  have c3 : (nI (i + 3)).toNatClampNeg = i + 3 := nI_clamp (by omega)
  have c4 : (nI (i + 4)).toNatClampNeg = i + 4 := nI_clamp (by omega)
  have a1 : nI i + 1 = nI (i + 1) := nI_add i 1
  have a2 : nI i + 2 = nI (i + 2) := nI_add i 2
  have a3 : nI i + 3 = nI (i + 3) := nI_add i 3
  have a4 : nI i + 4 = nI (i + 4) := nI_add i 4
  simp only [s279_1493, s279_1494, s279_1495, s279_1496, s279_1497, s279_1498, s279_1499, s279_1500, s279_1501, s279_1502, s279_1503, s279_1504, s279_1505, s279_1506, s279_1507, s279_1508, s279_1509, k_0 hS, k15, kL, a1, a2, a3, a4, b1, b2, b3, b4, c1, c2, c3, c4, ol_s, ol_n, ln_0, ln_1, ln_2, ln_3, ln_4, eq_self, rf_s, rf_n, i01_0, i01_n0, i01_b, b01_0, b01_1, and_self, and_true, true_and, and_false, false_and, if_true, if_false, not_true_eq_false, not_false_eq_true, e10, e00, lt_bg, Nat.reduceLT, Nat.reduceLeDiff]
  refine AW.mono (aw_two (o_sheet h) hN hk) (fun r σ1 ρ1 g1 τ1 ⟨f1, f2, f3⟩ => ?_)
  obtain ⟨v, e⟩ := sm_v (P := fun τ2 => ∀ a, am_BG ≤ a → τ2.1 a = τ.1 a) f3
  subst e
  obtain ⟨s1, t1, t2⟩ := f2 1000002 (by decide)
  have t1 := t1.trans k15
  have t2 := t2.trans kL
  have k160 : τ1.1 160 = 12 := (f1 160 (by omega)).trans (k_160 hS)
  simp only [s279_1512, s279_1513, s279_1514, s279_1515, s279_1516, s279_1517, s279_1518, s279_1519, s279_1520, s279_1521, s279_1522, s279_1523, s279_1524, s279_1525, s279_1526, s279_1527, s279_1528, k160, t1, t2, s1, a1, a2, a3, a4, b1, b2, b3, b4, c1, c2, c3, c4, ol_s, ol_n, ln_0, ln_1, ln_2, ln_3, ln_4, eq_self, rf_s, rf_n, i01_0, i01_n0, i01_b, b01_0, b01_1, and_self, and_true, true_and, and_false, false_and, if_true, if_false, not_true_eq_false, not_false_eq_true, e10, e00, lt_bg, Nat.reduceLT, Nat.reduceLeDiff]
  refine AW.mono f3 (fun r' σ2 ρ2 g2 τ2 ⟨⟨⟨w, q1, q2⟩, q3, q4, q5, q6, q7⟩, q8⟩ => ?_)
  cases q1
  subst q2
  simp only [s279_1531, ol_s, ol_n, ln_0, ln_1, ln_2, ln_3, ln_4, eq_self, rf_s, rf_n, i01_0, i01_n0, i01_b, b01_0, b01_1, and_self, and_true, true_and, and_false, false_and, if_true, if_false, not_true_eq_false, not_false_eq_true, e10, e00, lt_bg, Nat.reduceLT, Nat.reduceLeDiff]
  exact K σ2 ρ2 g2 τ2 q3 (q6.trans k15) (q7.trans kL) q4 q5 (fun a ha => by rw [q8 a ha]; exact hk a ha)
theorem lw_36 (P : LwP L i σ ρ g τ) (K : LwK d L i τ Q) : AW (d + 50) 279 1536 [.ref 1000002, .ref 0, .ref 160, .int (nI i)] [] σ ρ g τ Q := by
  obtain ⟨h, k15, kL, hi, hL, hN, hk⟩ := P
  have hS := h.sh
  have h261 := hS.2.2.2.2.2.2
  have b1 : am_inb (nI (i + 1)) L = true := inb_n (by omega) (by omega)
  have b2 : am_inb (nI (i + 2)) L = true := inb_n (by omega) (by omega)
  have b3 : am_inb (nI (i + 3)) L = true := inb_n (by omega) (by omega)
  have b4 : am_inb (nI (i + 4)) L = true := inb_n (by omega) (by omega)
  have c1 : (nI (i + 1)).toNatClampNeg = i + 1 := nI_clamp (by omega)
  have c2 : (nI (i + 2)).toNatClampNeg = i + 2 := nI_clamp (by omega)
  have c3 : (nI (i + 3)).toNatClampNeg = i + 3 := nI_clamp (by omega)
  have c4 : (nI (i + 4)).toNatClampNeg = i + 4 := nI_clamp (by omega)
  have a1 : nI i + 1 = nI (i + 1) := nI_add i 1
  have a2 : nI i + 2 = nI (i + 2) := nI_add i 2
  have a3 : nI i + 3 = nI (i + 3) := nI_add i 3
  have a4 : nI i + 4 = nI (i + 4) := nI_add i 4
  simp only [s279_1536, s279_1537, s279_1538, s279_1539, s279_1540, s279_1541, s279_1542, s279_1543, s279_1544, s279_1545, s279_1546, s279_1547, s279_1548, s279_1549, s279_1550, s279_1551, s279_1552, k_0 hS, k15, kL, a1, a2, a3, a4, b1, b2, b3, b4, c1, c2, c3, c4, ol_s, ol_n, ln_0, ln_1, ln_2, ln_3, ln_4, eq_self, rf_s, rf_n, i01_0, i01_n0, i01_b, b01_0, b01_1, and_self, and_true, true_and, and_false, false_and, if_true, if_false, not_true_eq_false, not_false_eq_true, e10, e00, lt_bg, Nat.reduceLT, Nat.reduceLeDiff]
  refine AW.mono (aw_two (o_put h) hN hk) (fun r σ1 ρ1 g1 τ1 ⟨f1, f2, f3⟩ => ?_)
  obtain ⟨v, e⟩ := sm_v (P := fun τ2 => ∀ a, am_BG ≤ a → τ2.1 a = τ.1 a) f3
  subst e
  obtain ⟨s1, t1, t2⟩ := f2 1000002 (by decide)
  have t1 := t1.trans k15
  have t2 := t2.trans kL
  have k160 : τ1.1 160 = 12 := (f1 160 (by omega)).trans (k_160 hS)
  simp only [s279_1555, s279_1556, s279_1557, s279_1558, s279_1559, s279_1560, s279_1561, s279_1562, s279_1563, s279_1564, s279_1565, s279_1566, s279_1567, s279_1568, s279_1569, s279_1570, s279_1571, k160, t1, t2, s1, a1, a2, a3, a4, b1, b2, b3, b4, c1, c2, c3, c4, ol_s, ol_n, ln_0, ln_1, ln_2, ln_3, ln_4, eq_self, rf_s, rf_n, i01_0, i01_n0, i01_b, b01_0, b01_1, and_self, and_true, true_and, and_false, false_and, if_true, if_false, not_true_eq_false, not_false_eq_true, e10, e00, lt_bg, Nat.reduceLT, Nat.reduceLeDiff]
  refine AW.mono f3 (fun r' σ2 ρ2 g2 τ2 ⟨⟨⟨w, q1, q2⟩, q3, q4, q5, q6, q7⟩, q8⟩ => ?_)
  cases q1
  subst q2
  simp only [s279_1574, ol_s, ol_n, ln_0, ln_1, ln_2, ln_3, ln_4, eq_self, rf_s, rf_n, i01_0, i01_n0, i01_b, b01_0, b01_1, and_self, and_true, true_and, and_false, false_and, if_true, if_false, not_true_eq_false, not_false_eq_true, e10, e00, lt_bg, Nat.reduceLT, Nat.reduceLeDiff]
  exact K σ2 ρ2 g2 τ2 q3 (q6.trans k15) (q7.trans kL) q4 q5 (fun a ha => by rw [q8 a ha]; exact hk a ha)
theorem lw_37 (P : LwP L i σ ρ g τ) (K : LwK d L i τ Q) : AW (d + 50) 279 1579 [.ref 1000002, .ref 0, .ref 160, .int (nI i)] [] σ ρ g τ Q := by
  obtain ⟨h, k15, kL, hi, hL, hN, hk⟩ := P
  have hS := h.sh
  have h261 := hS.2.2.2.2.2.2
  have b1 : am_inb (nI (i + 1)) L = true := inb_n (by omega) (by omega)
  have b2 : am_inb (nI (i + 2)) L = true := inb_n (by omega) (by omega)
  have b3 : am_inb (nI (i + 3)) L = true := inb_n (by omega) (by omega)
  have b4 : am_inb (nI (i + 4)) L = true := inb_n (by omega) (by omega)
  have c1 : (nI (i + 1)).toNatClampNeg = i + 1 := nI_clamp (by omega)
  have c2 : (nI (i + 2)).toNatClampNeg = i + 2 := nI_clamp (by omega)
  have c3 : (nI (i + 3)).toNatClampNeg = i + 3 := nI_clamp (by omega)
  have c4 : (nI (i + 4)).toNatClampNeg = i + 4 := nI_clamp (by omega)
  have a1 : nI i + 1 = nI (i + 1) := nI_add i 1
  have a2 : nI i + 2 = nI (i + 2) := nI_add i 2
  have a3 : nI i + 3 = nI (i + 3) := nI_add i 3
  have a4 : nI i + 4 = nI (i + 4) := nI_add i 4
  simp only [s279_1579, s279_1580, s279_1581, s279_1582, s279_1583, s279_1584, s279_1585, s279_1586, s279_1587, s279_1588, s279_1589, s279_1590, s279_1591, s279_1592, s279_1593, s279_1594, s279_1595, k_0 hS, k15, kL, a1, a2, a3, a4, b1, b2, b3, b4, c1, c2, c3, c4, ol_s, ol_n, ln_0, ln_1, ln_2, ln_3, ln_4, eq_self, rf_s, rf_n, i01_0, i01_n0, i01_b, b01_0, b01_1, and_self, and_true, true_and, and_false, false_and, if_true, if_false, not_true_eq_false, not_false_eq_true, e10, e00, lt_bg, Nat.reduceLT, Nat.reduceLeDiff]
  refine AW.mono (aw_two (o_item h) hN hk) (fun r σ1 ρ1 g1 τ1 ⟨f1, f2, f3⟩ => ?_)
  obtain ⟨v, e⟩ := sm_v (P := fun τ2 => ∀ a, am_BG ≤ a → τ2.1 a = τ.1 a) f3
  subst e
  obtain ⟨s1, t1, t2⟩ := f2 1000002 (by decide)
  have t1 := t1.trans k15
  have t2 := t2.trans kL
  have k160 : τ1.1 160 = 12 := (f1 160 (by omega)).trans (k_160 hS)
  simp only [s279_1598, s279_1599, s279_1600, s279_1601, s279_1602, s279_1603, s279_1604, s279_1605, s279_1606, s279_1607, s279_1608, s279_1609, s279_1610, s279_1611, s279_1612, s279_1613, s279_1614, k160, t1, t2, s1, a1, a2, a3, a4, b1, b2, b3, b4, c1, c2, c3, c4, ol_s, ol_n, ln_0, ln_1, ln_2, ln_3, ln_4, eq_self, rf_s, rf_n, i01_0, i01_n0, i01_b, b01_0, b01_1, and_self, and_true, true_and, and_false, false_and, if_true, if_false, not_true_eq_false, not_false_eq_true, e10, e00, lt_bg, Nat.reduceLT, Nat.reduceLeDiff]
  refine AW.mono f3 (fun r' σ2 ρ2 g2 τ2 ⟨⟨⟨w, q1, q2⟩, q3, q4, q5, q6, q7⟩, q8⟩ => ?_)
  cases q1
  subst q2
  simp only [s279_1617, ol_s, ol_n, ln_0, ln_1, ln_2, ln_3, ln_4, eq_self, rf_s, rf_n, i01_0, i01_n0, i01_b, b01_0, b01_1, and_self, and_true, true_and, and_false, false_and, if_true, if_false, not_true_eq_false, not_false_eq_true, e10, e00, lt_bg, Nat.reduceLT, Nat.reduceLeDiff]
  exact K σ2 ρ2 g2 τ2 q3 (q6.trans k15) (q7.trans kL) q4 q5 (fun a ha => by rw [q8 a ha]; exact hk a ha)
theorem lw_38 (P : LwP L i σ ρ g τ) (K : LwK d L i τ Q) : AW (d + 50) 279 1622 [.ref 1000002, .ref 0, .ref 160, .int (nI i)] [] σ ρ g τ Q := by
  obtain ⟨h, k15, kL, hi, hL, hN, hk⟩ := P
  have hS := h.sh
  have h261 := hS.2.2.2.2.2.2
  have b1 : am_inb (nI (i + 1)) L = true := inb_n (by omega) (by omega)
  have b2 : am_inb (nI (i + 2)) L = true := inb_n (by omega) (by omega)
  have b3 : am_inb (nI (i + 3)) L = true := inb_n (by omega) (by omega)
  have b4 : am_inb (nI (i + 4)) L = true := inb_n (by omega) (by omega)
  have c1 : (nI (i + 1)).toNatClampNeg = i + 1 := nI_clamp (by omega)
  have c2 : (nI (i + 2)).toNatClampNeg = i + 2 := nI_clamp (by omega)
  have c3 : (nI (i + 3)).toNatClampNeg = i + 3 := nI_clamp (by omega)
  have c4 : (nI (i + 4)).toNatClampNeg = i + 4 := nI_clamp (by omega)
  have a1 : nI i + 1 = nI (i + 1) := nI_add i 1
  have a2 : nI i + 2 = nI (i + 2) := nI_add i 2
  have a3 : nI i + 3 = nI (i + 3) := nI_add i 3
  have a4 : nI i + 4 = nI (i + 4) := nI_add i 4
  simp only [s279_1622, s279_1623, s279_1624, s279_1625, s279_1626, s279_1627, s279_1628, s279_1629, s279_1630, s279_1631, s279_1632, s279_1633, s279_1634, s279_1635, s279_1636, s279_1637, s279_1638, k_0 hS, k15, kL, a1, a2, a3, a4, b1, b2, b3, b4, c1, c2, c3, c4, ol_s, ol_n, ln_0, ln_1, ln_2, ln_3, ln_4, eq_self, rf_s, rf_n, i01_0, i01_n0, i01_b, b01_0, b01_1, and_self, and_true, true_and, and_false, false_and, if_true, if_false, not_true_eq_false, not_false_eq_true, e10, e00, lt_bg, Nat.reduceLT, Nat.reduceLeDiff]
  refine AW.mono (aw_two (o_shelf h) hN hk) (fun r σ1 ρ1 g1 τ1 ⟨f1, f2, f3⟩ => ?_)
  obtain ⟨v, e⟩ := sm_v (P := fun τ2 => ∀ a, am_BG ≤ a → τ2.1 a = τ.1 a) f3
  subst e
  obtain ⟨s1, t1, t2⟩ := f2 1000002 (by decide)
  have t1 := t1.trans k15
  have t2 := t2.trans kL
  have k160 : τ1.1 160 = 12 := (f1 160 (by omega)).trans (k_160 hS)
  simp only [s279_1641, s279_1642, s279_1643, s279_1644, s279_1645, s279_1646, s279_1647, s279_1648, s279_1649, s279_1650, s279_1651, s279_1652, s279_1653, s279_1654, s279_1655, s279_1656, s279_1657, k160, t1, t2, s1, a1, a2, a3, a4, b1, b2, b3, b4, c1, c2, c3, c4, ol_s, ol_n, ln_0, ln_1, ln_2, ln_3, ln_4, eq_self, rf_s, rf_n, i01_0, i01_n0, i01_b, b01_0, b01_1, and_self, and_true, true_and, and_false, false_and, if_true, if_false, not_true_eq_false, not_false_eq_true, e10, e00, lt_bg, Nat.reduceLT, Nat.reduceLeDiff]
  refine AW.mono f3 (fun r' σ2 ρ2 g2 τ2 ⟨⟨⟨w, q1, q2⟩, q3, q4, q5, q6, q7⟩, q8⟩ => ?_)
  cases q1
  subst q2
  simp only [s279_1660, ol_s, ol_n, ln_0, ln_1, ln_2, ln_3, ln_4, eq_self, rf_s, rf_n, i01_0, i01_n0, i01_b, b01_0, b01_1, and_self, and_true, true_and, and_false, false_and, if_true, if_false, not_true_eq_false, not_false_eq_true, e10, e00, lt_bg, Nat.reduceLT, Nat.reduceLeDiff]
  exact K σ2 ρ2 g2 τ2 q3 (q6.trans k15) (q7.trans kL) q4 q5 (fun a ha => by rw [q8 a ha]; exact hk a ha)
theorem lw_39 (P : LwP L i σ ρ g τ) (K : LwK d L i τ Q) : AW (d + 50) 279 1665 [.ref 1000002, .ref 0, .ref 160, .int (nI i)] [] σ ρ g τ Q := by
  obtain ⟨h, k15, kL, hi, hL, hN, hk⟩ := P
  have hS := h.sh
  have h261 := hS.2.2.2.2.2.2
  have b1 : am_inb (nI (i + 1)) L = true := inb_n (by omega) (by omega)
  have b2 : am_inb (nI (i + 2)) L = true := inb_n (by omega) (by omega)
  have b3 : am_inb (nI (i + 3)) L = true := inb_n (by omega) (by omega)
  have b4 : am_inb (nI (i + 4)) L = true := inb_n (by omega) (by omega)
  have c1 : (nI (i + 1)).toNatClampNeg = i + 1 := nI_clamp (by omega)
  have c2 : (nI (i + 2)).toNatClampNeg = i + 2 := nI_clamp (by omega)
  have c3 : (nI (i + 3)).toNatClampNeg = i + 3 := nI_clamp (by omega)
  have c4 : (nI (i + 4)).toNatClampNeg = i + 4 := nI_clamp (by omega)
  have a1 : nI i + 1 = nI (i + 1) := nI_add i 1
  have a2 : nI i + 2 = nI (i + 2) := nI_add i 2
  have a3 : nI i + 3 = nI (i + 3) := nI_add i 3
  have a4 : nI i + 4 = nI (i + 4) := nI_add i 4
  simp only [s279_1665, s279_1666, s279_1667, s279_1668, s279_1669, s279_1670, s279_1671, s279_1672, s279_1673, s279_1674, s279_1675, s279_1676, k_0 hS, k15, kL, a1, a2, a3, a4, b1, b2, b3, b4, c1, c2, c3, c4, ol_s, ol_n, ln_0, ln_1, ln_2, ln_3, ln_4, eq_self, rf_s, rf_n, i01_0, i01_n0, i01_b, b01_0, b01_1, and_self, and_true, true_and, and_false, false_and, if_true, if_false, not_true_eq_false, not_false_eq_true, e10, e00, lt_bg, Nat.reduceLT, Nat.reduceLeDiff]
  refine AW.mono (aw_two (o_taken h) hN hk) (fun r σ1 ρ1 g1 τ1 ⟨f1, f2, f3⟩ => ?_)
  obtain ⟨v, e⟩ := sm_v (P := fun τ2 => ∀ a, am_BG ≤ a → τ2.1 a = τ.1 a) f3
  subst e
  obtain ⟨s1, t1, t2⟩ := f2 1000002 (by decide)
  have t1 := t1.trans k15
  have t2 := t2.trans kL
  have k160 : τ1.1 160 = 12 := (f1 160 (by omega)).trans (k_160 hS)
  simp only [s279_1679, s279_1680, s279_1681, s279_1682, s279_1683, s279_1684, s279_1685, s279_1686, s279_1687, s279_1688, s279_1689, s279_1690, k160, t1, t2, s1, a1, a2, a3, a4, b1, b2, b3, b4, c1, c2, c3, c4, ol_s, ol_n, ln_0, ln_1, ln_2, ln_3, ln_4, eq_self, rf_s, rf_n, i01_0, i01_n0, i01_b, b01_0, b01_1, and_self, and_true, true_and, and_false, false_and, if_true, if_false, not_true_eq_false, not_false_eq_true, e10, e00, lt_bg, Nat.reduceLT, Nat.reduceLeDiff]
  refine AW.mono f3 (fun r' σ2 ρ2 g2 τ2 ⟨⟨⟨w, q1, q2⟩, q3, q4, q5, q6, q7⟩, q8⟩ => ?_)
  cases q1
  subst q2
  simp only [s279_1693, ol_s, ol_n, ln_0, ln_1, ln_2, ln_3, ln_4, eq_self, rf_s, rf_n, i01_0, i01_n0, i01_b, b01_0, b01_1, and_self, and_true, true_and, and_false, false_and, if_true, if_false, not_true_eq_false, not_false_eq_true, e10, e00, lt_bg, Nat.reduceLT, Nat.reduceLeDiff]
  exact K σ2 ρ2 g2 τ2 q3 (q6.trans k15) (q7.trans kL) q4 q5 (fun a ha => by rw [q8 a ha]; exact hk a ha)
theorem lw_40 (P : LwP L i σ ρ g τ) (K : LwK d L i τ Q) : AW (d + 50) 279 1698 [.ref 1000002, .ref 0, .ref 160, .int (nI i)] [] σ ρ g τ Q := by
  obtain ⟨h, k15, kL, hi, hL, hN, hk⟩ := P
  have hS := h.sh
  have h261 := hS.2.2.2.2.2.2
  have b1 : am_inb (nI (i + 1)) L = true := inb_n (by omega) (by omega)
  have b2 : am_inb (nI (i + 2)) L = true := inb_n (by omega) (by omega)
  have b3 : am_inb (nI (i + 3)) L = true := inb_n (by omega) (by omega)
  have b4 : am_inb (nI (i + 4)) L = true := inb_n (by omega) (by omega)
  have c1 : (nI (i + 1)).toNatClampNeg = i + 1 := nI_clamp (by omega)
  have c2 : (nI (i + 2)).toNatClampNeg = i + 2 := nI_clamp (by omega)
  have c3 : (nI (i + 3)).toNatClampNeg = i + 3 := nI_clamp (by omega)
  have c4 : (nI (i + 4)).toNatClampNeg = i + 4 := nI_clamp (by omega)
  have a1 : nI i + 1 = nI (i + 1) := nI_add i 1
  have a2 : nI i + 2 = nI (i + 2) := nI_add i 2
  have a3 : nI i + 3 = nI (i + 3) := nI_add i 3
  have a4 : nI i + 4 = nI (i + 4) := nI_add i 4
  simp only [s279_1698, s279_1699, s279_1700, s279_1701, s279_1702, s279_1703, s279_1704, s279_1705, s279_1706, s279_1707, s279_1708, s279_1709, s279_1710, s279_1711, s279_1712, s279_1713, s279_1714, k_0 hS, k15, kL, a1, a2, a3, a4, b1, b2, b3, b4, c1, c2, c3, c4, ol_s, ol_n, ln_0, ln_1, ln_2, ln_3, ln_4, eq_self, rf_s, rf_n, i01_0, i01_n0, i01_b, b01_0, b01_1, and_self, and_true, true_and, and_false, false_and, if_true, if_false, not_true_eq_false, not_false_eq_true, e10, e00, lt_bg, Nat.reduceLT, Nat.reduceLeDiff]
  refine AW.mono (aw_two (o_deal h) hN hk) (fun r σ1 ρ1 g1 τ1 ⟨f1, f2, f3⟩ => ?_)
  obtain ⟨v, e⟩ := sm_v (P := fun τ2 => ∀ a, am_BG ≤ a → τ2.1 a = τ.1 a) f3
  subst e
  obtain ⟨s1, t1, t2⟩ := f2 1000002 (by decide)
  have t1 := t1.trans k15
  have t2 := t2.trans kL
  have k160 : τ1.1 160 = 12 := (f1 160 (by omega)).trans (k_160 hS)
  simp only [s279_1717, s279_1718, s279_1719, s279_1720, s279_1721, s279_1722, s279_1723, s279_1724, s279_1725, s279_1726, s279_1727, s279_1728, s279_1729, s279_1730, s279_1731, s279_1732, s279_1733, k160, t1, t2, s1, a1, a2, a3, a4, b1, b2, b3, b4, c1, c2, c3, c4, ol_s, ol_n, ln_0, ln_1, ln_2, ln_3, ln_4, eq_self, rf_s, rf_n, i01_0, i01_n0, i01_b, b01_0, b01_1, and_self, and_true, true_and, and_false, false_and, if_true, if_false, not_true_eq_false, not_false_eq_true, e10, e00, lt_bg, Nat.reduceLT, Nat.reduceLeDiff]
  refine AW.mono f3 (fun r' σ2 ρ2 g2 τ2 ⟨⟨⟨w, q1, q2⟩, q3, q4, q5, q6, q7⟩, q8⟩ => ?_)
  cases q1
  subst q2
  simp only [s279_1736, ol_s, ol_n, ln_0, ln_1, ln_2, ln_3, ln_4, eq_self, rf_s, rf_n, i01_0, i01_n0, i01_b, b01_0, b01_1, and_self, and_true, true_and, and_false, false_and, if_true, if_false, not_true_eq_false, not_false_eq_true, e10, e00, lt_bg, Nat.reduceLT, Nat.reduceLeDiff]
  exact K σ2 ρ2 g2 τ2 q3 (q6.trans k15) (q7.trans kL) q4 q5 (fun a ha => by rw [q8 a ha]; exact hk a ha)
theorem lw_41 (P : LwP L i σ ρ g τ) (K : LwK d L i τ Q) : AW (d + 50) 279 1741 [.ref 1000002, .ref 0, .ref 160, .int (nI i)] [] σ ρ g τ Q := by
  obtain ⟨h, k15, kL, hi, hL, hN, hk⟩ := P
  have hS := h.sh
  have h261 := hS.2.2.2.2.2.2
  have b1 : am_inb (nI (i + 1)) L = true := inb_n (by omega) (by omega)
  have b2 : am_inb (nI (i + 2)) L = true := inb_n (by omega) (by omega)
  have b3 : am_inb (nI (i + 3)) L = true := inb_n (by omega) (by omega)
  have b4 : am_inb (nI (i + 4)) L = true := inb_n (by omega) (by omega)
  have c1 : (nI (i + 1)).toNatClampNeg = i + 1 := nI_clamp (by omega)
  have c2 : (nI (i + 2)).toNatClampNeg = i + 2 := nI_clamp (by omega)
  have c3 : (nI (i + 3)).toNatClampNeg = i + 3 := nI_clamp (by omega)
  have c4 : (nI (i + 4)).toNatClampNeg = i + 4 := nI_clamp (by omega)
  have a1 : nI i + 1 = nI (i + 1) := nI_add i 1
  have a2 : nI i + 2 = nI (i + 2) := nI_add i 2
  have a3 : nI i + 3 = nI (i + 3) := nI_add i 3
  have a4 : nI i + 4 = nI (i + 4) := nI_add i 4
  simp only [s279_1741, s279_1742, s279_1743, s279_1744, s279_1745, s279_1746, s279_1747, k_0 hS, k15, kL, a1, a2, a3, a4, b1, b2, b3, b4, c1, c2, c3, c4, ol_s, ol_n, ln_0, ln_1, ln_2, ln_3, ln_4, eq_self, rf_s, rf_n, i01_0, i01_n0, i01_b, b01_0, b01_1, and_self, and_true, true_and, and_false, false_and, if_true, if_false, not_true_eq_false, not_false_eq_true, e10, e00, lt_bg, Nat.reduceLT, Nat.reduceLeDiff]
  refine AW.mono (aw_two (o_trace h) hN hk) (fun r σ1 ρ1 g1 τ1 ⟨f1, f2, f3⟩ => ?_)
  obtain ⟨v, e⟩ := sm_v (P := fun τ2 => ∀ a, am_BG ≤ a → τ2.1 a = τ.1 a) f3
  subst e
  obtain ⟨s1, t1, t2⟩ := f2 1000002 (by decide)
  have t1 := t1.trans k15
  have t2 := t2.trans kL
  have k160 : τ1.1 160 = 12 := (f1 160 (by omega)).trans (k_160 hS)
  simp only [s279_1750, s279_1751, s279_1752, s279_1753, s279_1754, s279_1755, s279_1756, k160, t1, t2, s1, a1, a2, a3, a4, b1, b2, b3, b4, c1, c2, c3, c4, ol_s, ol_n, ln_0, ln_1, ln_2, ln_3, ln_4, eq_self, rf_s, rf_n, i01_0, i01_n0, i01_b, b01_0, b01_1, and_self, and_true, true_and, and_false, false_and, if_true, if_false, not_true_eq_false, not_false_eq_true, e10, e00, lt_bg, Nat.reduceLT, Nat.reduceLeDiff]
  refine AW.mono f3 (fun r' σ2 ρ2 g2 τ2 ⟨⟨⟨w, q1, q2⟩, q3, q4, q5, q6, q7⟩, q8⟩ => ?_)
  cases q1
  subst q2
  simp only [s279_1759, ol_s, ol_n, ln_0, ln_1, ln_2, ln_3, ln_4, eq_self, rf_s, rf_n, i01_0, i01_n0, i01_b, b01_0, b01_1, and_self, and_true, true_and, and_false, false_and, if_true, if_false, not_true_eq_false, not_false_eq_true, e10, e00, lt_bg, Nat.reduceLT, Nat.reduceLeDiff]
  exact K σ2 ρ2 g2 τ2 q3 (q6.trans k15) (q7.trans kL) q4 q5 (fun a ha => by rw [q8 a ha]; exact hk a ha)
theorem lw_42 (P : LwP L i σ ρ g τ) (K : LwK d L i τ Q) : AW (d + 50) 279 1764 [.ref 1000002, .ref 0, .ref 160, .int (nI i)] [] σ ρ g τ Q := by
  obtain ⟨h, k15, kL, hi, hL, hN, hk⟩ := P
  have hS := h.sh
  have h261 := hS.2.2.2.2.2.2
  have b1 : am_inb (nI (i + 1)) L = true := inb_n (by omega) (by omega)
  have b2 : am_inb (nI (i + 2)) L = true := inb_n (by omega) (by omega)
  have b3 : am_inb (nI (i + 3)) L = true := inb_n (by omega) (by omega)
  have b4 : am_inb (nI (i + 4)) L = true := inb_n (by omega) (by omega)
  have c1 : (nI (i + 1)).toNatClampNeg = i + 1 := nI_clamp (by omega)
  have c2 : (nI (i + 2)).toNatClampNeg = i + 2 := nI_clamp (by omega)
  have c3 : (nI (i + 3)).toNatClampNeg = i + 3 := nI_clamp (by omega)
  have c4 : (nI (i + 4)).toNatClampNeg = i + 4 := nI_clamp (by omega)
  have a1 : nI i + 1 = nI (i + 1) := nI_add i 1
  have a2 : nI i + 2 = nI (i + 2) := nI_add i 2
  have a3 : nI i + 3 = nI (i + 3) := nI_add i 3
  have a4 : nI i + 4 = nI (i + 4) := nI_add i 4
  simp only [s279_1764, s279_1765, s279_1766, s279_1767, s279_1768, s279_1769, s279_1770, k_0 hS, k15, kL, a1, a2, a3, a4, b1, b2, b3, b4, c1, c2, c3, c4, ol_s, ol_n, ln_0, ln_1, ln_2, ln_3, ln_4, eq_self, rf_s, rf_n, i01_0, i01_n0, i01_b, b01_0, b01_1, and_self, and_true, true_and, and_false, false_and, if_true, if_false, not_true_eq_false, not_false_eq_true, e10, e00, lt_bg, Nat.reduceLT, Nat.reduceLeDiff]
  refine AW.mono (aw_two (o_many h) hN hk) (fun r σ1 ρ1 g1 τ1 ⟨f1, f2, f3⟩ => ?_)
  obtain ⟨v, e⟩ := sm_v (P := fun τ2 => ∀ a, am_BG ≤ a → τ2.1 a = τ.1 a) f3
  subst e
  obtain ⟨s1, t1, t2⟩ := f2 1000002 (by decide)
  have t1 := t1.trans k15
  have t2 := t2.trans kL
  have k160 : τ1.1 160 = 12 := (f1 160 (by omega)).trans (k_160 hS)
  simp only [s279_1773, s279_1774, s279_1775, s279_1776, s279_1777, s279_1778, s279_1779, k160, t1, t2, s1, a1, a2, a3, a4, b1, b2, b3, b4, c1, c2, c3, c4, ol_s, ol_n, ln_0, ln_1, ln_2, ln_3, ln_4, eq_self, rf_s, rf_n, i01_0, i01_n0, i01_b, b01_0, b01_1, and_self, and_true, true_and, and_false, false_and, if_true, if_false, not_true_eq_false, not_false_eq_true, e10, e00, lt_bg, Nat.reduceLT, Nat.reduceLeDiff]
  refine AW.mono f3 (fun r' σ2 ρ2 g2 τ2 ⟨⟨⟨w, q1, q2⟩, q3, q4, q5, q6, q7⟩, q8⟩ => ?_)
  cases q1
  subst q2
  simp only [s279_1782, ol_s, ol_n, ln_0, ln_1, ln_2, ln_3, ln_4, eq_self, rf_s, rf_n, i01_0, i01_n0, i01_b, b01_0, b01_1, and_self, and_true, true_and, and_false, false_and, if_true, if_false, not_true_eq_false, not_false_eq_true, e10, e00, lt_bg, Nat.reduceLT, Nat.reduceLeDiff]
  exact K σ2 ρ2 g2 τ2 q3 (q6.trans k15) (q7.trans kL) q4 q5 (fun a ha => by rw [q8 a ha]; exact hk a ha)
theorem lw_43 (P : LwP L i σ ρ g τ) (K : LwK d L i τ Q) : AW (d + 50) 279 1787 [.ref 1000002, .ref 0, .ref 160, .int (nI i)] [] σ ρ g τ Q := by
  obtain ⟨h, k15, kL, hi, hL, hN, hk⟩ := P
  have hS := h.sh
  have h261 := hS.2.2.2.2.2.2
  have b1 : am_inb (nI (i + 1)) L = true := inb_n (by omega) (by omega)
  have b2 : am_inb (nI (i + 2)) L = true := inb_n (by omega) (by omega)
  have b3 : am_inb (nI (i + 3)) L = true := inb_n (by omega) (by omega)
  have b4 : am_inb (nI (i + 4)) L = true := inb_n (by omega) (by omega)
  have c1 : (nI (i + 1)).toNatClampNeg = i + 1 := nI_clamp (by omega)
  have c2 : (nI (i + 2)).toNatClampNeg = i + 2 := nI_clamp (by omega)
  have c3 : (nI (i + 3)).toNatClampNeg = i + 3 := nI_clamp (by omega)
  have c4 : (nI (i + 4)).toNatClampNeg = i + 4 := nI_clamp (by omega)
  have a1 : nI i + 1 = nI (i + 1) := nI_add i 1
  have a2 : nI i + 2 = nI (i + 2) := nI_add i 2
  have a3 : nI i + 3 = nI (i + 3) := nI_add i 3
  have a4 : nI i + 4 = nI (i + 4) := nI_add i 4
  simp only [s279_1787, s279_1788, k_0 hS, k15, kL, a1, a2, a3, a4, b1, b2, b3, b4, c1, c2, c3, c4, ol_s, ol_n, ln_0, ln_1, ln_2, ln_3, ln_4, eq_self, rf_s, rf_n, i01_0, i01_n0, i01_b, b01_0, b01_1, and_self, and_true, true_and, and_false, false_and, if_true, if_false, not_true_eq_false, not_false_eq_true, e10, e00, lt_bg, Nat.reduceLT, Nat.reduceLeDiff]
  refine AW.mono (aw_two (o_keep h (by omega)) hN hk) (fun r σ1 ρ1 g1 τ1 ⟨f1, f2, f3⟩ => ?_)
  obtain ⟨v, e⟩ := sm_v (P := fun τ2 => ∀ a, am_BG ≤ a → τ2.1 a = τ.1 a) f3
  subst e
  obtain ⟨s1, t1, t2⟩ := f2 1000002 (by decide)
  have t1 := t1.trans k15
  have t2 := t2.trans kL
  have k160 : τ1.1 160 = 12 := (f1 160 (by omega)).trans (k_160 hS)
  simp only [s279_1791, s279_1792, k160, t1, t2, s1, a1, a2, a3, a4, b1, b2, b3, b4, c1, c2, c3, c4, ol_s, ol_n, ln_0, ln_1, ln_2, ln_3, ln_4, eq_self, rf_s, rf_n, i01_0, i01_n0, i01_b, b01_0, b01_1, and_self, and_true, true_and, and_false, false_and, if_true, if_false, not_true_eq_false, not_false_eq_true, e10, e00, lt_bg, Nat.reduceLT, Nat.reduceLeDiff]
  refine AW.mono f3 (fun r' σ2 ρ2 g2 τ2 ⟨⟨⟨w, q1, q2⟩, q3, q4, q5, q6, q7⟩, q8⟩ => ?_)
  cases q1
  subst q2
  simp only [s279_1795, ol_s, ol_n, ln_0, ln_1, ln_2, ln_3, ln_4, eq_self, rf_s, rf_n, i01_0, i01_n0, i01_b, b01_0, b01_1, and_self, and_true, true_and, and_false, false_and, if_true, if_false, not_true_eq_false, not_false_eq_true, e10, e00, lt_bg, Nat.reduceLT, Nat.reduceLeDiff]
  exact K σ2 ρ2 g2 τ2 q3 (q6.trans k15) (q7.trans kL) q4 q5 (fun a ha => by rw [q8 a ha]; exact hk a ha)
theorem lw_44 (P : LwP L i σ ρ g τ) (K : LwK d L i τ Q) : AW (d + 50) 279 1800 [.ref 1000002, .ref 0, .ref 160, .int (nI i)] [] σ ρ g τ Q := by
  obtain ⟨h, k15, kL, hi, hL, hN, hk⟩ := P
  have hS := h.sh
  have h261 := hS.2.2.2.2.2.2
  have b1 : am_inb (nI (i + 1)) L = true := inb_n (by omega) (by omega)
  have b2 : am_inb (nI (i + 2)) L = true := inb_n (by omega) (by omega)
  have b3 : am_inb (nI (i + 3)) L = true := inb_n (by omega) (by omega)
  have b4 : am_inb (nI (i + 4)) L = true := inb_n (by omega) (by omega)
  have c1 : (nI (i + 1)).toNatClampNeg = i + 1 := nI_clamp (by omega)
  have c2 : (nI (i + 2)).toNatClampNeg = i + 2 := nI_clamp (by omega)
  have c3 : (nI (i + 3)).toNatClampNeg = i + 3 := nI_clamp (by omega)
  have c4 : (nI (i + 4)).toNatClampNeg = i + 4 := nI_clamp (by omega)
  have a1 : nI i + 1 = nI (i + 1) := nI_add i 1
  have a2 : nI i + 2 = nI (i + 2) := nI_add i 2
  have a3 : nI i + 3 = nI (i + 3) := nI_add i 3
  have a4 : nI i + 4 = nI (i + 4) := nI_add i 4
  simp only [s279_1800, s279_1801, k_0 hS, k15, kL, a1, a2, a3, a4, b1, b2, b3, b4, c1, c2, c3, c4, ol_s, ol_n, ln_0, ln_1, ln_2, ln_3, ln_4, eq_self, rf_s, rf_n, i01_0, i01_n0, i01_b, b01_0, b01_1, and_self, and_true, true_and, and_false, false_and, if_true, if_false, not_true_eq_false, not_false_eq_true, e10, e00, lt_bg, Nat.reduceLT, Nat.reduceLeDiff]
  refine AW.mono (aw_two (o_again h (by omega)) hN hk) (fun r σ1 ρ1 g1 τ1 ⟨f1, f2, f3⟩ => ?_)
  obtain ⟨v, e⟩ := sm_v (P := fun τ2 => ∀ a, am_BG ≤ a → τ2.1 a = τ.1 a) f3
  subst e
  obtain ⟨s1, t1, t2⟩ := f2 1000002 (by decide)
  have t1 := t1.trans k15
  have t2 := t2.trans kL
  have k160 : τ1.1 160 = 12 := (f1 160 (by omega)).trans (k_160 hS)
  simp only [s279_1804, s279_1805, k160, t1, t2, s1, a1, a2, a3, a4, b1, b2, b3, b4, c1, c2, c3, c4, ol_s, ol_n, ln_0, ln_1, ln_2, ln_3, ln_4, eq_self, rf_s, rf_n, i01_0, i01_n0, i01_b, b01_0, b01_1, and_self, and_true, true_and, and_false, false_and, if_true, if_false, not_true_eq_false, not_false_eq_true, e10, e00, lt_bg, Nat.reduceLT, Nat.reduceLeDiff]
  refine AW.mono f3 (fun r' σ2 ρ2 g2 τ2 ⟨⟨⟨w, q1, q2⟩, q3, q4, q5, q6, q7⟩, q8⟩ => ?_)
  cases q1
  subst q2
  simp only [s279_1808, ol_s, ol_n, ln_0, ln_1, ln_2, ln_3, ln_4, eq_self, rf_s, rf_n, i01_0, i01_n0, i01_b, b01_0, b01_1, and_self, and_true, true_and, and_false, false_and, if_true, if_false, not_true_eq_false, not_false_eq_true, e10, e00, lt_bg, Nat.reduceLT, Nat.reduceLeDiff]
  exact K σ2 ρ2 g2 τ2 q3 (q6.trans k15) (q7.trans kL) q4 q5 (fun a ha => by rw [q8 a ha]; exact hk a ha)
end LWA
