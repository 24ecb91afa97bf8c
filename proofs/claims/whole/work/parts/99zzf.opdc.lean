/-! read: a line by itself; the class's small pieces -/
section ODC
variable {d : Nat} {σ : am_I} {ρ : am_R} {g : am_J} {τ : am_T} {Q : am_Q}
def lso (b : Nat → Nat) (l p : Nat) : Nat := if nm b l p 0 = true then 0 else if nm b l p 1 = true then 1 else if nm b l p 2 = true then 2 else if nm b l p 3 = true then 3 else if nm b l p 4 = true then 4 else 5
def mst (s : Nat) : Nat := if s = 0 then 9 else if s = 3 then 999 else 100
/-- a line read: well or not, where, its sort, number, SORT, condition -/
abbrev Lr := Bool × Nat × Nat × Int32 × Int32 × List Tk
def pBad (p : Nat) : Lr := (false, p, 0, 0, 0, [])
def pEnd (b : Nat → Nat) (l q s : Nat) (num sof : Int32) (ts : List Tk) : Lr := if ot b l q 59 = true then (true, nx b l q, s, num, sof, ts) else pBad q
def pCnd (b : Nat → Nat) (l q s : Nat) (num : Int32) : Lr :=
  if s = 3 then (if nm b l q 5 = true then (if srt b l (nx b l q) < 3 then pEnd b l (nx b l (nx b l q)) s num (nI (srt b l (nx b l q))) [] else pBad (nx b l q)) else pBad q)
  else if s ≠ 4 ∧ nm b l q 9 = true then (if (pcC b l 4 (nx b l q)).1 = true then pEnd b l (pcC b l 4 (nx b l q)).2.1 s num (-9) (pcC b l 4 (nx b l q)).2.2 else pBad (pcC b l 4 (nx b l q)).2.1)
  else if s = 2 then pBad q else pEnd b l q s num (-9) []
def pLn (b : Nat → Nat) (l p : Nat) : Lr :=
  if lso b l p < 5 then (if lso b l p = 2 then pCnd b l (nx b l p) 2 (-9) else if nu b l (nx b l p) (mst (lso b l p)) = true then pCnd b l (nx b l (nx b l p)) (lso b l p) (nI (vl b l (nx b l p))) else pBad (nx b l p))
  else pBad p
theorem lso_kd {b : Nat → Nat} {l p : Nat} (h : lso b l p < 5) : kd b l p ≠ 0 := by
  unfold lso at h
  by_cases a0 : nm b l p 0 = true
  · exact nm_kd a0
  by_cases a1 : nm b l p 1 = true
  · exact nm_kd a1
  by_cases a2 : nm b l p 2 = true
  · exact nm_kd a2
  by_cases a3 : nm b l p 3 = true
  · exact nm_kd a3
  by_cases a4 : nm b l p 4 = true
  · exact nm_kd a4
  rw [if_neg a0, if_neg a1, if_neg a2, if_neg a3, if_neg a4] at h
  exact absurd h (by decide)
/-- what is true of a line that was read well -/
def Lw (l p : Nat) (r : Lr) : Prop := p ≤ r.2.1 ∧ r.2.1 ≤ l ∧ (r.1 = true → p + r.2.2.2.2.2.length < r.2.1 ∧ r.2.2.1 ≤ 4 ∧ (r.2.2.1 ≠ 2 → ∃ v, v ≤ mst r.2.2.1 ∧ r.2.2.2.1 = nI v) ∧ (r.2.2.1 = 4 → r.2.2.2.2.1 = -9) ∧ (∀ t ∈ r.2.2.2.2.2, tk_ok t) ∧ (r.2.2.2.2.2 = [] ∨ r.2.2.2.2.2 ≠ [] ∧ tk_run r.2.2.2.2.2 0 = some 1))
theorem pEnd_w {b : Nat → Nat} {l p q s : Nat} {num sof : Int32} {ts : List Tk} (hp : p ≤ q) (hq : q ≤ l) (h1 : p + ts.length ≤ q) (h2 : s ≤ 4) (h3 : s ≠ 2 → ∃ v, v ≤ mst s ∧ num = nI v) (h4 : s = 4 → sof = -9) (h5 : ∀ t ∈ ts, tk_ok t) (h6 : ts = [] ∨ ts ≠ [] ∧ tk_run ts 0 = some 1) : Lw l p (pEnd b l q s num sof ts) := by
  unfold pEnd
  obtain ⟨n1, n2, n3⟩ := nx_b (b := b) hq
  by_cases z : ot b l q 59 = true
  · rw [if_pos z]
    have n3 := n3 (ot_kd z)
    refine ⟨by show p ≤ nx b l q; omega, n2, fun _ => ⟨by show p + ts.length < nx b l q; omega, h2, h3, h4, h5, h6⟩⟩
  · rw [if_neg z]
    exact ⟨hp, hq, fun y => absurd y (by show ¬ (false = true); decide)⟩
theorem pBad_w {l p q : Nat} (hp : p ≤ q) (hq : q ≤ l) : Lw l p (pBad q) := ⟨hp, hq, fun y => absurd y (by show ¬ (false = true); decide)⟩
theorem pCnd_w {b : Nat → Nat} {l p q s : Nat} {num : Int32} (hp : p ≤ q) (hq : q ≤ l) (h2 : s ≤ 4) (h3 : s ≠ 2 → ∃ v, v ≤ mst s ∧ num = nI v) : Lw l p (pCnd b l q s num) := by
  unfold pCnd
  obtain ⟨n1, n2, n3⟩ := nx_b (b := b) hq
  obtain ⟨m1, m2, m3⟩ := nx_b (b := b) n2
  by_cases c : s = 3
  · rw [if_pos c]
    by_cases e : nm b l q 5 = true
    · rw [if_pos e]
      by_cases f : srt b l (nx b l q) < 3
      · rw [if_pos f]
        exact pEnd_w (by omega) m2 (by show p + 0 ≤ _; omega) h2 h3 (fun z => by omega) (fun t ht => absurd ht List.not_mem_nil) (Or.inl rfl)
      · rw [if_neg f]
        exact pBad_w (by omega) n2
    · rw [if_neg e]
      exact pBad_w hp hq
  rw [if_neg c]
  by_cases e : s ≠ 4 ∧ nm b l q 9 = true
  · rw [if_pos e]
    obtain ⟨w1, w2, w3⟩ := pcC_wf (b := b) (k := 4) n2
    by_cases f : (pcC b l 4 (nx b l q)).1 = true
    · rw [if_pos f]
      obtain ⟨y1, y2, y3, y4⟩ := w3 f
      have run := y4 0 [] (by decide)
      rw [List.append_nil] at run
      have run : tk_run (pcC b l 4 (nx b l q)).2.2 0 = some 1 := run
      have ne : (pcC b l 4 (nx b l q)).2.2 ≠ [] := fun z => by
        rw [z] at run
        exact absurd run (by decide)
      exact pEnd_w (by omega) w2 (by omega) h2 h3 (fun z => absurd z e.1) y3 (Or.inr ⟨ne, run⟩)
    · rw [if_neg f]
      exact pBad_w (by omega) w2
  rw [if_neg e]
  by_cases f : s = 2
  · rw [if_pos f]
    exact pBad_w hp hq
  · rw [if_neg f]
    exact pEnd_w hp hq (by show p + 0 ≤ _; omega) h2 h3 (fun _ => rfl) (fun t ht => absurd ht List.not_mem_nil) (Or.inl rfl)
theorem pLn_w {b : Nat → Nat} {l p : Nat} (hp : p ≤ l) : Lw l p (pLn b l p) := by
  unfold pLn
  obtain ⟨n1, n2, n3⟩ := nx_b (b := b) hp
  obtain ⟨m1, m2, m3⟩ := nx_b (b := b) n2
  by_cases a : lso b l p < 5
  rotate_left
  · rw [if_neg a]
    exact pBad_w (Nat.le_refl _) hp
  rw [if_pos a]
  by_cases c : lso b l p = 2
  · rw [if_pos c]
    exact pCnd_w n1 n2 (by decide) (fun z => absurd rfl z)
  rw [if_neg c]
  by_cases e : nu b l (nx b l p) (mst (lso b l p)) = true
  · rw [if_pos e]
    have v := (of_decide_eq_true e).2.2
    exact pCnd_w (by omega) m2 (by omega) (fun _ => ⟨vl b l (nx b l p), v, rfl⟩)
  · rw [if_neg e]
    exact pBad_w n1 n2
theorem c88 (hS : Sh ρ τ) (hb : Bgd σ τ) {b : Nat → Nat} {l p : Nat} (hT : TC b l σ) (hp : p ≤ l) (hc : CT b l p σ) : AW (d + 5) 88 0 [.ref 131] [] σ ρ g τ Q = Q (some (.int (rI (lso b l p) 5))) σ ρ g τ := by
  have N0 := fun (d : Nat) (Q : am_Q) => c83n (d := d) (g := g) (Q := Q) hS hb hT hp hc (i := 0) (N := am_BG + 3) (by decide) rfl
  have N1 := fun (d : Nat) (Q : am_Q) => c83n (d := d) (g := g) (Q := Q) hS hb hT hp hc (i := 1) (N := am_BG + 4) (by decide) rfl
  have N2 := fun (d : Nat) (Q : am_Q) => c83n (d := d) (g := g) (Q := Q) hS hb hT hp hc (i := 2) (N := am_BG + 5) (by decide) rfl
  have N3 := fun (d : Nat) (Q : am_Q) => c83n (d := d) (g := g) (Q := Q) hS hb hT hp hc (i := 3) (N := am_BG + 6) (by decide) rfl
  have N4 := fun (d : Nat) (Q : am_Q) => c83n (d := d) (g := g) (Q := Q) hS hb hT hp hc (i := 4) (N := am_BG + 7) (by decide) rfl
  by_cases a0 : nm b l p 0 = true
  · have e : lso b l p = 0 := if_pos a0
    have w := bI_t a0
    have v : rI (lso b l p) 5 = 0 := by rw [e]; rfl
    simp only [s88_0, s88_1, s88_3, s88_6, s88_9, s88_10, s88_11, s88_12, s88_14, s88_17, s88_20, s88_21, s88_22, s88_23, s88_25, s88_28, s88_31, s88_32, s88_33, s88_34, s88_36, s88_39, s88_42, s88_43, s88_44, s88_45, s88_47, s88_50, s88_53, s88_54, s88_57, s88_58, k_0 hS, k_1 hS, k_2 hS, l_2 hS, k_3 hS, l_3 hS, k_4 hS, l_4 hS, k_5 hS, l_5 hS, k_6 hS, l_6 hS, k_7 hS, k_8 hS, l_8 hS, k_9 hS, l_9 hS, k_10 hS, k_11 hS, l_11 hS, k_12 hS, k_13 hS, l_13 hS, k_14 hS, k_15 hS, l_15 hS, k_16 hS, k_17 hS, l_17 hS, k_66 hS, k_67 hS, l_67 hS, k_68 hS, l_68 hS, k_69 hS, l_69 hS, k_70 hS, l_70 hS, k_71 hS, l_71 hS, k_72 hS, k_73 hS, l_73 hS, k_74 hS, l_74 hS, k_75 hS, k_76 hS, l_76 hS, k_77 hS, k_78 hS, l_78 hS, k_79 hS, k_80 hS, l_80 hS, k_81 hS, k_82 hS, l_82 hS, k_131 hS, k_132 hS, l_132 hS, k_133 hS, l_133 hS, k_134 hS, l_134 hS, k_135 hS, k_136 hS, l_136 hS, k_137 hS, l_137 hS, k_138 hS, l_138 hS, k_139 hS, l_139 hS, k_140 hS, k_141 hS, l_141 hS, k_142 hS, l_142 hS, k_143 hS, k_144 hS, l_144 hS, k_145 hS, k_146 hS, l_146 hS, k_147 hS, l_147 hS, k_148 hS, l_148 hS, k_153 hS, l_153 hS, k_154 hS, l_154 hS, k_155 hS, l_155 hS, k_156 hS, k_157 hS, l_157 hS, k_158 hS, l_158 hS, k_159 hS, l_159 hS, r_0_0 hS, r_0_1 hS, r_0_3 hS, r_0_4 hS, r_0_5 hS, r_0_6 hS, r_0_7 hS, r_0_8 hS, r_0_9 hS, r_0_10 hS, r_1_2 hS, r_1_3 hS, r_1_4 hS, r_1_5 hS, r_1_7 hS, r_1_9 hS, r_1_10 hS, r_1_12 hS, r_1_13 hS, r_1_14 hS, r_1_15 hS, r_7_1 hS, r_10_2 hS, r_12_2 hS, r_14_2 hS, r_16_2 hS, r_66_2 hS, r_66_3 hS, r_66_4 hS, r_66_5 hS, r_66_7 hS, r_66_9 hS, r_66_10 hS, r_66_12 hS, r_66_13 hS, r_66_14 hS, r_66_15 hS, r_72_1 hS, r_75_2 hS, r_77_2 hS, r_79_2 hS, r_81_2 hS, r_131_0 hS, r_131_6 hS, r_131_8 hS, r_135_0 hS, r_135_1 hS, r_135_2 hS, r_135_3 hS, r_140_0 hS, r_140_1 hS, r_143_2 hS, r_145_0 hS, r_145_1 hS, r_145_2 hS, r_145_3 hS, r_145_4 hS, r_145_5 hS, r_156_5 hS, k_pv hS, k_pvr hS, k_db hS, k_dbr hS, k_sh hS, l_pvr hS, l_dbr hS, l_sh hS, r_5 hS, r_6 hS, r_pv hS, r_db hS, r_148 hS, ol_s, ol_n, ln_0, ln_1, ln_2, ln_3, ln_4, eq_self, rf_s, rf_n, i01_0, i01_n0, i01_b, b01_0, b01_1, and_self, and_true, true_and, and_false, false_and, if_true, if_false, not_true_eq_false, not_false_eq_true, e10, e00, lt_bg, Nat.reduceLT, Nat.reduceLeDiff, N0, w, v]
  have f0 : bI (nm b l p 0) = 0 := if_neg a0
  by_cases a1 : nm b l p 1 = true
  · have e : lso b l p = 1 := by
      unfold lso
      rw [if_neg a0, if_pos a1]
    have w := bI_t a1
    have v : rI (lso b l p) 5 = 1 := by rw [e]; rfl
    simp only [s88_0, s88_1, s88_3, s88_6, s88_9, s88_10, s88_11, s88_12, s88_14, s88_17, s88_20, s88_21, s88_22, s88_23, s88_25, s88_28, s88_31, s88_32, s88_33, s88_34, s88_36, s88_39, s88_42, s88_43, s88_44, s88_45, s88_47, s88_50, s88_53, s88_54, s88_57, s88_58, k_0 hS, k_1 hS, k_2 hS, l_2 hS, k_3 hS, l_3 hS, k_4 hS, l_4 hS, k_5 hS, l_5 hS, k_6 hS, l_6 hS, k_7 hS, k_8 hS, l_8 hS, k_9 hS, l_9 hS, k_10 hS, k_11 hS, l_11 hS, k_12 hS, k_13 hS, l_13 hS, k_14 hS, k_15 hS, l_15 hS, k_16 hS, k_17 hS, l_17 hS, k_66 hS, k_67 hS, l_67 hS, k_68 hS, l_68 hS, k_69 hS, l_69 hS, k_70 hS, l_70 hS, k_71 hS, l_71 hS, k_72 hS, k_73 hS, l_73 hS, k_74 hS, l_74 hS, k_75 hS, k_76 hS, l_76 hS, k_77 hS, k_78 hS, l_78 hS, k_79 hS, k_80 hS, l_80 hS, k_81 hS, k_82 hS, l_82 hS, k_131 hS, k_132 hS, l_132 hS, k_133 hS, l_133 hS, k_134 hS, l_134 hS, k_135 hS, k_136 hS, l_136 hS, k_137 hS, l_137 hS, k_138 hS, l_138 hS, k_139 hS, l_139 hS, k_140 hS, k_141 hS, l_141 hS, k_142 hS, l_142 hS, k_143 hS, k_144 hS, l_144 hS, k_145 hS, k_146 hS, l_146 hS, k_147 hS, l_147 hS, k_148 hS, l_148 hS, k_153 hS, l_153 hS, k_154 hS, l_154 hS, k_155 hS, l_155 hS, k_156 hS, k_157 hS, l_157 hS, k_158 hS, l_158 hS, k_159 hS, l_159 hS, r_0_0 hS, r_0_1 hS, r_0_3 hS, r_0_4 hS, r_0_5 hS, r_0_6 hS, r_0_7 hS, r_0_8 hS, r_0_9 hS, r_0_10 hS, r_1_2 hS, r_1_3 hS, r_1_4 hS, r_1_5 hS, r_1_7 hS, r_1_9 hS, r_1_10 hS, r_1_12 hS, r_1_13 hS, r_1_14 hS, r_1_15 hS, r_7_1 hS, r_10_2 hS, r_12_2 hS, r_14_2 hS, r_16_2 hS, r_66_2 hS, r_66_3 hS, r_66_4 hS, r_66_5 hS, r_66_7 hS, r_66_9 hS, r_66_10 hS, r_66_12 hS, r_66_13 hS, r_66_14 hS, r_66_15 hS, r_72_1 hS, r_75_2 hS, r_77_2 hS, r_79_2 hS, r_81_2 hS, r_131_0 hS, r_131_6 hS, r_131_8 hS, r_135_0 hS, r_135_1 hS, r_135_2 hS, r_135_3 hS, r_140_0 hS, r_140_1 hS, r_143_2 hS, r_145_0 hS, r_145_1 hS, r_145_2 hS, r_145_3 hS, r_145_4 hS, r_145_5 hS, r_156_5 hS, k_pv hS, k_pvr hS, k_db hS, k_dbr hS, k_sh hS, l_pvr hS, l_dbr hS, l_sh hS, r_5 hS, r_6 hS, r_pv hS, r_db hS, r_148 hS, ol_s, ol_n, ln_0, ln_1, ln_2, ln_3, ln_4, eq_self, rf_s, rf_n, i01_0, i01_n0, i01_b, b01_0, b01_1, and_self, and_true, true_and, and_false, false_and, if_true, if_false, not_true_eq_false, not_false_eq_true, e10, e00, lt_bg, Nat.reduceLT, Nat.reduceLeDiff, N0, N1, f0, w, v]
  have f1 : bI (nm b l p 1) = 0 := if_neg a1
  by_cases a2 : nm b l p 2 = true
  · have e : lso b l p = 2 := by
      unfold lso
      rw [if_neg a0, if_neg a1, if_pos a2]
    have w := bI_t a2
    have v : rI (lso b l p) 5 = 2 := by rw [e]; rfl
    simp only [s88_0, s88_1, s88_3, s88_6, s88_9, s88_10, s88_11, s88_12, s88_14, s88_17, s88_20, s88_21, s88_22, s88_23, s88_25, s88_28, s88_31, s88_32, s88_33, s88_34, s88_36, s88_39, s88_42, s88_43, s88_44, s88_45, s88_47, s88_50, s88_53, s88_54, s88_57, s88_58, k_0 hS, k_1 hS, k_2 hS, l_2 hS, k_3 hS, l_3 hS, k_4 hS, l_4 hS, k_5 hS, l_5 hS, k_6 hS, l_6 hS, k_7 hS, k_8 hS, l_8 hS, k_9 hS, l_9 hS, k_10 hS, k_11 hS, l_11 hS, k_12 hS, k_13 hS, l_13 hS, k_14 hS, k_15 hS, l_15 hS, k_16 hS, k_17 hS, l_17 hS, k_66 hS, k_67 hS, l_67 hS, k_68 hS, l_68 hS, k_69 hS, l_69 hS, k_70 hS, l_70 hS, k_71 hS, l_71 hS, k_72 hS, k_73 hS, l_73 hS, k_74 hS, l_74 hS, k_75 hS, k_76 hS, l_76 hS, k_77 hS, k_78 hS, l_78 hS, k_79 hS, k_80 hS, l_80 hS, k_81 hS, k_82 hS, l_82 hS, k_131 hS, k_132 hS, l_132 hS, k_133 hS, l_133 hS, k_134 hS, l_134 hS, k_135 hS, k_136 hS, l_136 hS, k_137 hS, l_137 hS, k_138 hS, l_138 hS, k_139 hS, l_139 hS, k_140 hS, k_141 hS, l_141 hS, k_142 hS, l_142 hS, k_143 hS, k_144 hS, l_144 hS, k_145 hS, k_146 hS, l_146 hS, k_147 hS, l_147 hS, k_148 hS, l_148 hS, k_153 hS, l_153 hS, k_154 hS, l_154 hS, k_155 hS, l_155 hS, k_156 hS, k_157 hS, l_157 hS, k_158 hS, l_158 hS, k_159 hS, l_159 hS, r_0_0 hS, r_0_1 hS, r_0_3 hS, r_0_4 hS, r_0_5 hS, r_0_6 hS, r_0_7 hS, r_0_8 hS, r_0_9 hS, r_0_10 hS, r_1_2 hS, r_1_3 hS, r_1_4 hS, r_1_5 hS, r_1_7 hS, r_1_9 hS, r_1_10 hS, r_1_12 hS, r_1_13 hS, r_1_14 hS, r_1_15 hS, r_7_1 hS, r_10_2 hS, r_12_2 hS, r_14_2 hS, r_16_2 hS, r_66_2 hS, r_66_3 hS, r_66_4 hS, r_66_5 hS, r_66_7 hS, r_66_9 hS, r_66_10 hS, r_66_12 hS, r_66_13 hS, r_66_14 hS, r_66_15 hS, r_72_1 hS, r_75_2 hS, r_77_2 hS, r_79_2 hS, r_81_2 hS, r_131_0 hS, r_131_6 hS, r_131_8 hS, r_135_0 hS, r_135_1 hS, r_135_2 hS, r_135_3 hS, r_140_0 hS, r_140_1 hS, r_143_2 hS, r_145_0 hS, r_145_1 hS, r_145_2 hS, r_145_3 hS, r_145_4 hS, r_145_5 hS, r_156_5 hS, k_pv hS, k_pvr hS, k_db hS, k_dbr hS, k_sh hS, l_pvr hS, l_dbr hS, l_sh hS, r_5 hS, r_6 hS, r_pv hS, r_db hS, r_148 hS, ol_s, ol_n, ln_0, ln_1, ln_2, ln_3, ln_4, eq_self, rf_s, rf_n, i01_0, i01_n0, i01_b, b01_0, b01_1, and_self, and_true, true_and, and_false, false_and, if_true, if_false, not_true_eq_false, not_false_eq_true, e10, e00, lt_bg, Nat.reduceLT, Nat.reduceLeDiff, N0, N1, N2, f0, f1, w, v]
  have f2 : bI (nm b l p 2) = 0 := if_neg a2
  by_cases a3 : nm b l p 3 = true
  · have e : lso b l p = 3 := by
      unfold lso
      rw [if_neg a0, if_neg a1, if_neg a2, if_pos a3]
    have w := bI_t a3
    have v : rI (lso b l p) 5 = 3 := by rw [e]; rfl
    simp only [s88_0, s88_1, s88_3, s88_6, s88_9, s88_10, s88_11, s88_12, s88_14, s88_17, s88_20, s88_21, s88_22, s88_23, s88_25, s88_28, s88_31, s88_32, s88_33, s88_34, s88_36, s88_39, s88_42, s88_43, s88_44, s88_45, s88_47, s88_50, s88_53, s88_54, s88_57, s88_58, k_0 hS, k_1 hS, k_2 hS, l_2 hS, k_3 hS, l_3 hS, k_4 hS, l_4 hS, k_5 hS, l_5 hS, k_6 hS, l_6 hS, k_7 hS, k_8 hS, l_8 hS, k_9 hS, l_9 hS, k_10 hS, k_11 hS, l_11 hS, k_12 hS, k_13 hS, l_13 hS, k_14 hS, k_15 hS, l_15 hS, k_16 hS, k_17 hS, l_17 hS, k_66 hS, k_67 hS, l_67 hS, k_68 hS, l_68 hS, k_69 hS, l_69 hS, k_70 hS, l_70 hS, k_71 hS, l_71 hS, k_72 hS, k_73 hS, l_73 hS, k_74 hS, l_74 hS, k_75 hS, k_76 hS, l_76 hS, k_77 hS, k_78 hS, l_78 hS, k_79 hS, k_80 hS, l_80 hS, k_81 hS, k_82 hS, l_82 hS, k_131 hS, k_132 hS, l_132 hS, k_133 hS, l_133 hS, k_134 hS, l_134 hS, k_135 hS, k_136 hS, l_136 hS, k_137 hS, l_137 hS, k_138 hS, l_138 hS, k_139 hS, l_139 hS, k_140 hS, k_141 hS, l_141 hS, k_142 hS, l_142 hS, k_143 hS, k_144 hS, l_144 hS, k_145 hS, k_146 hS, l_146 hS, k_147 hS, l_147 hS, k_148 hS, l_148 hS, k_153 hS, l_153 hS, k_154 hS, l_154 hS, k_155 hS, l_155 hS, k_156 hS, k_157 hS, l_157 hS, k_158 hS, l_158 hS, k_159 hS, l_159 hS, r_0_0 hS, r_0_1 hS, r_0_3 hS, r_0_4 hS, r_0_5 hS, r_0_6 hS, r_0_7 hS, r_0_8 hS, r_0_9 hS, r_0_10 hS, r_1_2 hS, r_1_3 hS, r_1_4 hS, r_1_5 hS, r_1_7 hS, r_1_9 hS, r_1_10 hS, r_1_12 hS, r_1_13 hS, r_1_14 hS, r_1_15 hS, r_7_1 hS, r_10_2 hS, r_12_2 hS, r_14_2 hS, r_16_2 hS, r_66_2 hS, r_66_3 hS, r_66_4 hS, r_66_5 hS, r_66_7 hS, r_66_9 hS, r_66_10 hS, r_66_12 hS, r_66_13 hS, r_66_14 hS, r_66_15 hS, r_72_1 hS, r_75_2 hS, r_77_2 hS, r_79_2 hS, r_81_2 hS, r_131_0 hS, r_131_6 hS, r_131_8 hS, r_135_0 hS, r_135_1 hS, r_135_2 hS, r_135_3 hS, r_140_0 hS, r_140_1 hS, r_143_2 hS, r_145_0 hS, r_145_1 hS, r_145_2 hS, r_145_3 hS, r_145_4 hS, r_145_5 hS, r_156_5 hS, k_pv hS, k_pvr hS, k_db hS, k_dbr hS, k_sh hS, l_pvr hS, l_dbr hS, l_sh hS, r_5 hS, r_6 hS, r_pv hS, r_db hS, r_148 hS, ol_s, ol_n, ln_0, ln_1, ln_2, ln_3, ln_4, eq_self, rf_s, rf_n, i01_0, i01_n0, i01_b, b01_0, b01_1, and_self, and_true, true_and, and_false, false_and, if_true, if_false, not_true_eq_false, not_false_eq_true, e10, e00, lt_bg, Nat.reduceLT, Nat.reduceLeDiff, N0, N1, N2, N3, f0, f1, f2, w, v]
  have f3 : bI (nm b l p 3) = 0 := if_neg a3
  by_cases a4 : nm b l p 4 = true
  · have e : lso b l p = 4 := by
      unfold lso
      rw [if_neg a0, if_neg a1, if_neg a2, if_neg a3, if_pos a4]
    have w := bI_t a4
    have v : rI (lso b l p) 5 = 4 := by rw [e]; rfl
    simp only [s88_0, s88_1, s88_3, s88_6, s88_9, s88_10, s88_11, s88_12, s88_14, s88_17, s88_20, s88_21, s88_22, s88_23, s88_25, s88_28, s88_31, s88_32, s88_33, s88_34, s88_36, s88_39, s88_42, s88_43, s88_44, s88_45, s88_47, s88_50, s88_53, s88_54, s88_57, s88_58, k_0 hS, k_1 hS, k_2 hS, l_2 hS, k_3 hS, l_3 hS, k_4 hS, l_4 hS, k_5 hS, l_5 hS, k_6 hS, l_6 hS, k_7 hS, k_8 hS, l_8 hS, k_9 hS, l_9 hS, k_10 hS, k_11 hS, l_11 hS, k_12 hS, k_13 hS, l_13 hS, k_14 hS, k_15 hS, l_15 hS, k_16 hS, k_17 hS, l_17 hS, k_66 hS, k_67 hS, l_67 hS, k_68 hS, l_68 hS, k_69 hS, l_69 hS, k_70 hS, l_70 hS, k_71 hS, l_71 hS, k_72 hS, k_73 hS, l_73 hS, k_74 hS, l_74 hS, k_75 hS, k_76 hS, l_76 hS, k_77 hS, k_78 hS, l_78 hS, k_79 hS, k_80 hS, l_80 hS, k_81 hS, k_82 hS, l_82 hS, k_131 hS, k_132 hS, l_132 hS, k_133 hS, l_133 hS, k_134 hS, l_134 hS, k_135 hS, k_136 hS, l_136 hS, k_137 hS, l_137 hS, k_138 hS, l_138 hS, k_139 hS, l_139 hS, k_140 hS, k_141 hS, l_141 hS, k_142 hS, l_142 hS, k_143 hS, k_144 hS, l_144 hS, k_145 hS, k_146 hS, l_146 hS, k_147 hS, l_147 hS, k_148 hS, l_148 hS, k_153 hS, l_153 hS, k_154 hS, l_154 hS, k_155 hS, l_155 hS, k_156 hS, k_157 hS, l_157 hS, k_158 hS, l_158 hS, k_159 hS, l_159 hS, r_0_0 hS, r_0_1 hS, r_0_3 hS, r_0_4 hS, r_0_5 hS, r_0_6 hS, r_0_7 hS, r_0_8 hS, r_0_9 hS, r_0_10 hS, r_1_2 hS, r_1_3 hS, r_1_4 hS, r_1_5 hS, r_1_7 hS, r_1_9 hS, r_1_10 hS, r_1_12 hS, r_1_13 hS, r_1_14 hS, r_1_15 hS, r_7_1 hS, r_10_2 hS, r_12_2 hS, r_14_2 hS, r_16_2 hS, r_66_2 hS, r_66_3 hS, r_66_4 hS, r_66_5 hS, r_66_7 hS, r_66_9 hS, r_66_10 hS, r_66_12 hS, r_66_13 hS, r_66_14 hS, r_66_15 hS, r_72_1 hS, r_75_2 hS, r_77_2 hS, r_79_2 hS, r_81_2 hS, r_131_0 hS, r_131_6 hS, r_131_8 hS, r_135_0 hS, r_135_1 hS, r_135_2 hS, r_135_3 hS, r_140_0 hS, r_140_1 hS, r_143_2 hS, r_145_0 hS, r_145_1 hS, r_145_2 hS, r_145_3 hS, r_145_4 hS, r_145_5 hS, r_156_5 hS, k_pv hS, k_pvr hS, k_db hS, k_dbr hS, k_sh hS, l_pvr hS, l_dbr hS, l_sh hS, r_5 hS, r_6 hS, r_pv hS, r_db hS, r_148 hS, ol_s, ol_n, ln_0, ln_1, ln_2, ln_3, ln_4, eq_self, rf_s, rf_n, i01_0, i01_n0, i01_b, b01_0, b01_1, and_self, and_true, true_and, and_false, false_and, if_true, if_false, not_true_eq_false, not_false_eq_true, e10, e00, lt_bg, Nat.reduceLT, Nat.reduceLeDiff, N0, N1, N2, N3, N4, f0, f1, f2, f3, w, v]
  have f4 : bI (nm b l p 4) = 0 := if_neg a4
  have e : lso b l p = 5 := by
    unfold lso
    rw [if_neg a0, if_neg a1, if_neg a2, if_neg a3, if_neg a4]
  have v : rI (lso b l p) 5 = -1 := by rw [e]; rfl
  simp only [s88_0, s88_1, s88_3, s88_6, s88_9, s88_10, s88_11, s88_12, s88_14, s88_17, s88_20, s88_21, s88_22, s88_23, s88_25, s88_28, s88_31, s88_32, s88_33, s88_34, s88_36, s88_39, s88_42, s88_43, s88_44, s88_45, s88_47, s88_50, s88_53, s88_54, s88_57, s88_58, k_0 hS, k_1 hS, k_2 hS, l_2 hS, k_3 hS, l_3 hS, k_4 hS, l_4 hS, k_5 hS, l_5 hS, k_6 hS, l_6 hS, k_7 hS, k_8 hS, l_8 hS, k_9 hS, l_9 hS, k_10 hS, k_11 hS, l_11 hS, k_12 hS, k_13 hS, l_13 hS, k_14 hS, k_15 hS, l_15 hS, k_16 hS, k_17 hS, l_17 hS, k_66 hS, k_67 hS, l_67 hS, k_68 hS, l_68 hS, k_69 hS, l_69 hS, k_70 hS, l_70 hS, k_71 hS, l_71 hS, k_72 hS, k_73 hS, l_73 hS, k_74 hS, l_74 hS, k_75 hS, k_76 hS, l_76 hS, k_77 hS, k_78 hS, l_78 hS, k_79 hS, k_80 hS, l_80 hS, k_81 hS, k_82 hS, l_82 hS, k_131 hS, k_132 hS, l_132 hS, k_133 hS, l_133 hS, k_134 hS, l_134 hS, k_135 hS, k_136 hS, l_136 hS, k_137 hS, l_137 hS, k_138 hS, l_138 hS, k_139 hS, l_139 hS, k_140 hS, k_141 hS, l_141 hS, k_142 hS, l_142 hS, k_143 hS, k_144 hS, l_144 hS, k_145 hS, k_146 hS, l_146 hS, k_147 hS, l_147 hS, k_148 hS, l_148 hS, k_153 hS, l_153 hS, k_154 hS, l_154 hS, k_155 hS, l_155 hS, k_156 hS, k_157 hS, l_157 hS, k_158 hS, l_158 hS, k_159 hS, l_159 hS, r_0_0 hS, r_0_1 hS, r_0_3 hS, r_0_4 hS, r_0_5 hS, r_0_6 hS, r_0_7 hS, r_0_8 hS, r_0_9 hS, r_0_10 hS, r_1_2 hS, r_1_3 hS, r_1_4 hS, r_1_5 hS, r_1_7 hS, r_1_9 hS, r_1_10 hS, r_1_12 hS, r_1_13 hS, r_1_14 hS, r_1_15 hS, r_7_1 hS, r_10_2 hS, r_12_2 hS, r_14_2 hS, r_16_2 hS, r_66_2 hS, r_66_3 hS, r_66_4 hS, r_66_5 hS, r_66_7 hS, r_66_9 hS, r_66_10 hS, r_66_12 hS, r_66_13 hS, r_66_14 hS, r_66_15 hS, r_72_1 hS, r_75_2 hS, r_77_2 hS, r_79_2 hS, r_81_2 hS, r_131_0 hS, r_131_6 hS, r_131_8 hS, r_135_0 hS, r_135_1 hS, r_135_2 hS, r_135_3 hS, r_140_0 hS, r_140_1 hS, r_143_2 hS, r_145_0 hS, r_145_1 hS, r_145_2 hS, r_145_3 hS, r_145_4 hS, r_145_5 hS, r_156_5 hS, k_pv hS, k_pvr hS, k_db hS, k_dbr hS, k_sh hS, l_pvr hS, l_dbr hS, l_sh hS, r_5 hS, r_6 hS, r_pv hS, r_db hS, r_148 hS, ol_s, ol_n, ln_0, ln_1, ln_2, ln_3, ln_4, eq_self, rf_s, rf_n, i01_0, i01_n0, i01_b, b01_0, b01_1, and_self, and_true, true_and, and_false, false_and, if_true, if_false, not_true_eq_false, not_false_eq_true, e10, e00, lt_bg, Nat.reduceLT, Nat.reduceLeDiff, N0, N1, N2, N3, N4, f0, f1, f2, f3, f4, v]
theorem c89 {s : Nat} (hs : s < 5) : AW d 89 0 [.int (nI s)] [] σ ρ g τ Q = Q (some (.int (nI (mst s)))) σ ρ g τ := by
  have e0 : nI 0 = (0 : Int32) := by decide
  have e1 : nI 1 = (1 : Int32) := by decide
  have e2 : nI 2 = (2 : Int32) := by decide
  have e3 : nI 3 = (3 : Int32) := by decide
  have e4 : nI 4 = (4 : Int32) := by decide
  have m0 : nI (mst 0) = (9 : Int32) := by decide
  have m1 : nI (mst 1) = (100 : Int32) := by decide
  have m2 : nI (mst 2) = (100 : Int32) := by decide
  have m3 : nI (mst 3) = (999 : Int32) := by decide
  have m4 : nI (mst 4) = (100 : Int32) := by decide
  have z1 : ((1 : Int32) = 0) = False := by decide
  have z2 : ((2 : Int32) = 0) = False := by decide
  have z3 : ((3 : Int32) = 0) = False := by decide
  have z4 : ((4 : Int32) = 0) = False := by decide
  have t1 : ((1 : Int32) = 3) = False := by decide
  have t2 : ((2 : Int32) = 3) = False := by decide
  have t4 : ((4 : Int32) = 3) = False := by decide
  match s, hs with
  | 0, _ => simp only [s89_0, s89_1, s89_4, s89_6, s89_7, s89_8, s89_9, s89_12, s89_15, s89_18, s89_20, ol_s, ol_n, ln_0, ln_1, ln_2, ln_3, ln_4, eq_self, rf_s, rf_n, i01_0, i01_n0, i01_b, b01_0, b01_1, and_self, and_true, true_and, and_false, false_and, if_true, if_false, not_true_eq_false, not_false_eq_true, e10, e00, lt_bg, Nat.reduceLT, Nat.reduceLeDiff, e0, m0]
  | 1, _ => simp only [s89_0, s89_1, s89_4, s89_6, s89_7, s89_8, s89_9, s89_12, s89_15, s89_18, s89_20, ol_s, ol_n, ln_0, ln_1, ln_2, ln_3, ln_4, eq_self, rf_s, rf_n, i01_0, i01_n0, i01_b, b01_0, b01_1, and_self, and_true, true_and, and_false, false_and, if_true, if_false, not_true_eq_false, not_false_eq_true, e10, e00, lt_bg, Nat.reduceLT, Nat.reduceLeDiff, e1, m1, z1, t1]
  | 2, _ => simp only [s89_0, s89_1, s89_4, s89_6, s89_7, s89_8, s89_9, s89_12, s89_15, s89_18, s89_20, ol_s, ol_n, ln_0, ln_1, ln_2, ln_3, ln_4, eq_self, rf_s, rf_n, i01_0, i01_n0, i01_b, b01_0, b01_1, and_self, and_true, true_and, and_false, false_and, if_true, if_false, not_true_eq_false, not_false_eq_true, e10, e00, lt_bg, Nat.reduceLT, Nat.reduceLeDiff, e2, m2, z2, t2]
  | 3, _ => simp only [s89_0, s89_1, s89_4, s89_6, s89_7, s89_8, s89_9, s89_12, s89_15, s89_18, s89_20, ol_s, ol_n, ln_0, ln_1, ln_2, ln_3, ln_4, eq_self, rf_s, rf_n, i01_0, i01_n0, i01_b, b01_0, b01_1, and_self, and_true, true_and, and_false, false_and, if_true, if_false, not_true_eq_false, not_false_eq_true, e10, e00, lt_bg, Nat.reduceLT, Nat.reduceLeDiff, e3, m3, z3]
  | 4, _ => simp only [s89_0, s89_1, s89_4, s89_6, s89_7, s89_8, s89_9, s89_12, s89_15, s89_18, s89_20, ol_s, ol_n, ln_0, ln_1, ln_2, ln_3, ln_4, eq_self, rf_s, rf_n, i01_0, i01_n0, i01_b, b01_0, b01_1, and_self, and_true, true_and, and_false, false_and, if_true, if_false, not_true_eq_false, not_false_eq_true, e10, e00, lt_bg, Nat.reduceLT, Nat.reduceLeDiff, e4, m4, z4, t4]
  | s + 5, h => exact absurd h (by omega)
theorem c87 {s : Nat} (hs : s < 5) : AW d 87 0 [.int (nI s)] [] σ ρ g τ Q = Q (some (.int (if s = 3 ∨ s = 4 then 0 else 1))) σ ρ g τ := by
  have E3 := nI_eqp (a := s) (b := 3) (by omega) (by decide)
  have E4 := nI_eqp (a := s) (b := 4) (by omega) (by decide)
  have e3 : nI 3 = (3 : Int32) := by decide
  have e4 : nI 4 = (4 : Int32) := by decide
  rw [e3] at E3
  rw [e4] at E4
  by_cases a : s = 3
  · have E3 := E3.trans (eq_true a)
    rw [if_pos (Or.inl a)]
    simp only [s87_0, s87_1, s87_2, s87_5, s87_6, s87_7, s87_10, s87_11, s87_14, s87_15, ol_s, ol_n, ln_0, ln_1, ln_2, ln_3, ln_4, eq_self, rf_s, rf_n, i01_0, i01_n0, i01_b, b01_0, b01_1, and_self, and_true, true_and, and_false, false_and, if_true, if_false, not_true_eq_false, not_false_eq_true, e10, e00, lt_bg, Nat.reduceLT, Nat.reduceLeDiff, E3]
  have E3 := E3.trans (eq_false a)
  by_cases c : s = 4
  · have E4 := E4.trans (eq_true c)
    rw [if_pos (Or.inr c)]
    simp only [s87_0, s87_1, s87_2, s87_5, s87_6, s87_7, s87_10, s87_11, s87_14, s87_15, ol_s, ol_n, ln_0, ln_1, ln_2, ln_3, ln_4, eq_self, rf_s, rf_n, i01_0, i01_n0, i01_b, b01_0, b01_1, and_self, and_true, true_and, and_false, false_and, if_true, if_false, not_true_eq_false, not_false_eq_true, e10, e00, lt_bg, Nat.reduceLT, Nat.reduceLeDiff, E3, E4]
  have E4 := E4.trans (eq_false c)
  rw [if_neg (fun z => by omega)]
  simp only [s87_0, s87_1, s87_2, s87_5, s87_6, s87_7, s87_10, s87_11, s87_14, s87_15, ol_s, ol_n, ln_0, ln_1, ln_2, ln_3, ln_4, eq_self, rf_s, rf_n, i01_0, i01_n0, i01_b, b01_0, b01_1, and_self, and_true, true_and, and_false, false_and, if_true, if_false, not_true_eq_false, not_false_eq_true, e10, e00, lt_bg, Nat.reduceLT, Nat.reduceLeDiff, E3, E4]
theorem adv_adv {b : Nat → Nat} {l p q : Nat} : adv b l (adv b l σ p) q = adv b l σ q := by
  refine (adv_of (fun z hz => ?_) ?_ ?_ ?_ ?_ (fun k a b c d => ?_))
  · rw [adv_ne hz, adv_ne hz]
  · exact (adv_ct (b := b) (l := l) (p := q)).1
  · exact (adv_ct (b := b) (l := l) (p := q)).2.1
  · exact (adv_ct (b := b) (l := l) (p := q)).2.2.1
  · exact (adv_ct (b := b) (l := l) (p := q)).2.2.2
  · rw [adv_k a b c d, adv_k a b c d]
theorem adv_self {b : Nat → Nat} {l p : Nat} (h : CT b l p σ) : adv b l σ p = σ := (adv_of (fun _ _ => rfl) h.1 h.2.1 h.2.2.1 h.2.2.2 (fun _ _ _ _ _ => rfl)).symm
theorem c80a (hS : Sh ρ τ) {b : Nat → Nat} {l p : Nat} (hT : TC b l σ) (hp : p ≤ l) : AW (d + 1) 80 0 [.ref 131, am_jk] [] (adv b l σ p) ρ g τ Q = Q none (adv b l σ (nx b l p)) ρ g τ := by
  rw [c80 hS hT.adv (te_b (b := b) hp).2.1 adv_ct.2.1, adv_adv]
  rfl
theorem c90 (hS : Sh ρ τ) (hb : Bgd σ τ) {b : Nat → Nat} {l q : Nat} (hT : TC b l σ) (hq : q ≤ l) : AW (d + 6) 90 0 [.ref 131, am_jk] [] (adv b l σ q) ρ g τ Q = if nm b l q 5 = true then Q (some (.int (rI (srt b l (nx b l q)) 3))) (adv b l σ (if srt b l (nx b l q) < 3 then nx b l (nx b l q) else nx b l q)) ρ g τ else Q (some (.int (-1))) (adv b l σ q) ρ g τ := by
  have hb1 : ∀ q, Bgd (adv b l σ q) τ := fun q => hb.cg (fun y hy => adv_ne (by omega))
  have N := fun (d : Nat) (Q : am_Q) => c83n (d := d) (g := g) (Q := Q) hS (hb1 q) hT.adv hq adv_ct (i := 5) (N := am_BG + 8) (by decide) rfl
  obtain ⟨n1, n2, n3⟩ := nx_b (b := b) hq
  by_cases a : nm b l q 5 = true
  rotate_left
  · rw [if_neg a]
    have w : bI (nm b l q 5) = 0 := if_neg a
    simp only [s90_0, s90_1, s90_3, s90_6, s90_9, s90_10, k_0 hS, k_1 hS, k_2 hS, l_2 hS, k_3 hS, l_3 hS, k_4 hS, l_4 hS, k_5 hS, l_5 hS, k_6 hS, l_6 hS, k_7 hS, k_8 hS, l_8 hS, k_9 hS, l_9 hS, k_10 hS, k_11 hS, l_11 hS, k_12 hS, k_13 hS, l_13 hS, k_14 hS, k_15 hS, l_15 hS, k_16 hS, k_17 hS, l_17 hS, k_66 hS, k_67 hS, l_67 hS, k_68 hS, l_68 hS, k_69 hS, l_69 hS, k_70 hS, l_70 hS, k_71 hS, l_71 hS, k_72 hS, k_73 hS, l_73 hS, k_74 hS, l_74 hS, k_75 hS, k_76 hS, l_76 hS, k_77 hS, k_78 hS, l_78 hS, k_79 hS, k_80 hS, l_80 hS, k_81 hS, k_82 hS, l_82 hS, k_131 hS, k_132 hS, l_132 hS, k_133 hS, l_133 hS, k_134 hS, l_134 hS, k_135 hS, k_136 hS, l_136 hS, k_137 hS, l_137 hS, k_138 hS, l_138 hS, k_139 hS, l_139 hS, k_140 hS, k_141 hS, l_141 hS, k_142 hS, l_142 hS, k_143 hS, k_144 hS, l_144 hS, k_145 hS, k_146 hS, l_146 hS, k_147 hS, l_147 hS, k_148 hS, l_148 hS, k_153 hS, l_153 hS, k_154 hS, l_154 hS, k_155 hS, l_155 hS, k_156 hS, k_157 hS, l_157 hS, k_158 hS, l_158 hS, k_159 hS, l_159 hS, r_0_0 hS, r_0_1 hS, r_0_3 hS, r_0_4 hS, r_0_5 hS, r_0_6 hS, r_0_7 hS, r_0_8 hS, r_0_9 hS, r_0_10 hS, r_1_2 hS, r_1_3 hS, r_1_4 hS, r_1_5 hS, r_1_7 hS, r_1_9 hS, r_1_10 hS, r_1_12 hS, r_1_13 hS, r_1_14 hS, r_1_15 hS, r_7_1 hS, r_10_2 hS, r_12_2 hS, r_14_2 hS, r_16_2 hS, r_66_2 hS, r_66_3 hS, r_66_4 hS, r_66_5 hS, r_66_7 hS, r_66_9 hS, r_66_10 hS, r_66_12 hS, r_66_13 hS, r_66_14 hS, r_66_15 hS, r_72_1 hS, r_75_2 hS, r_77_2 hS, r_79_2 hS, r_81_2 hS, r_131_0 hS, r_131_6 hS, r_131_8 hS, r_135_0 hS, r_135_1 hS, r_135_2 hS, r_135_3 hS, r_140_0 hS, r_140_1 hS, r_143_2 hS, r_145_0 hS, r_145_1 hS, r_145_2 hS, r_145_3 hS, r_145_4 hS, r_145_5 hS, r_156_5 hS, k_pv hS, k_pvr hS, k_db hS, k_dbr hS, k_sh hS, l_pvr hS, l_dbr hS, l_sh hS, r_5 hS, r_6 hS, r_pv hS, r_db hS, r_148 hS, ol_s, ol_n, ln_0, ln_1, ln_2, ln_3, ln_4, eq_self, rf_s, rf_n, i01_0, i01_n0, i01_b, b01_0, b01_1, and_self, and_true, true_and, and_false, false_and, if_true, if_false, not_true_eq_false, not_false_eq_true, e10, e00, lt_bg, Nat.reduceLT, Nat.reduceLeDiff, N, w]
  rw [if_pos a]
  have w := bI_t a
  have V := fun (d : Nat) (Q : am_Q) => c80a (d := d) (g := g) (Q := Q) hS hT hq
  have S := fun (d : Nat) (Q : am_Q) => c91 (d := d) (g := g) (Q := Q) hS (hb1 (nx b l q)) hT.adv n2 adv_ct
  have V2 := fun (d : Nat) (Q : am_Q) => c80a (d := d) (g := g) (Q := Q) hS hT n2
  by_cases c : srt b l (nx b l q) < 3
  · have v : rI (srt b l (nx b l q)) 3 = nI (srt b l (nx b l q)) := if_pos c
    have lt : ¬ nI (srt b l (nx b l q)) < 0 := Int32.not_lt.mpr (nI_le (a := 0) (Nat.zero_le _) (by omega))
    rw [if_pos c, v]
    simp only [s90_0, s90_1, s90_3, s90_6, s90_11, s90_12, s90_15, s90_16, s90_19r, s90_20, s90_21, s90_24, s90_25, s90_28, s90_29, k_0 hS, k_1 hS, k_2 hS, l_2 hS, k_3 hS, l_3 hS, k_4 hS, l_4 hS, k_5 hS, l_5 hS, k_6 hS, l_6 hS, k_7 hS, k_8 hS, l_8 hS, k_9 hS, l_9 hS, k_10 hS, k_11 hS, l_11 hS, k_12 hS, k_13 hS, l_13 hS, k_14 hS, k_15 hS, l_15 hS, k_16 hS, k_17 hS, l_17 hS, k_66 hS, k_67 hS, l_67 hS, k_68 hS, l_68 hS, k_69 hS, l_69 hS, k_70 hS, l_70 hS, k_71 hS, l_71 hS, k_72 hS, k_73 hS, l_73 hS, k_74 hS, l_74 hS, k_75 hS, k_76 hS, l_76 hS, k_77 hS, k_78 hS, l_78 hS, k_79 hS, k_80 hS, l_80 hS, k_81 hS, k_82 hS, l_82 hS, k_131 hS, k_132 hS, l_132 hS, k_133 hS, l_133 hS, k_134 hS, l_134 hS, k_135 hS, k_136 hS, l_136 hS, k_137 hS, l_137 hS, k_138 hS, l_138 hS, k_139 hS, l_139 hS, k_140 hS, k_141 hS, l_141 hS, k_142 hS, l_142 hS, k_143 hS, k_144 hS, l_144 hS, k_145 hS, k_146 hS, l_146 hS, k_147 hS, l_147 hS, k_148 hS, l_148 hS, k_153 hS, l_153 hS, k_154 hS, l_154 hS, k_155 hS, l_155 hS, k_156 hS, k_157 hS, l_157 hS, k_158 hS, l_158 hS, k_159 hS, l_159 hS, r_0_0 hS, r_0_1 hS, r_0_3 hS, r_0_4 hS, r_0_5 hS, r_0_6 hS, r_0_7 hS, r_0_8 hS, r_0_9 hS, r_0_10 hS, r_1_2 hS, r_1_3 hS, r_1_4 hS, r_1_5 hS, r_1_7 hS, r_1_9 hS, r_1_10 hS, r_1_12 hS, r_1_13 hS, r_1_14 hS, r_1_15 hS, r_7_1 hS, r_10_2 hS, r_12_2 hS, r_14_2 hS, r_16_2 hS, r_66_2 hS, r_66_3 hS, r_66_4 hS, r_66_5 hS, r_66_7 hS, r_66_9 hS, r_66_10 hS, r_66_12 hS, r_66_13 hS, r_66_14 hS, r_66_15 hS, r_72_1 hS, r_75_2 hS, r_77_2 hS, r_79_2 hS, r_81_2 hS, r_131_0 hS, r_131_6 hS, r_131_8 hS, r_135_0 hS, r_135_1 hS, r_135_2 hS, r_135_3 hS, r_140_0 hS, r_140_1 hS, r_143_2 hS, r_145_0 hS, r_145_1 hS, r_145_2 hS, r_145_3 hS, r_145_4 hS, r_145_5 hS, r_156_5 hS, k_pv hS, k_pvr hS, k_db hS, k_dbr hS, k_sh hS, l_pvr hS, l_dbr hS, l_sh hS, r_5 hS, r_6 hS, r_pv hS, r_db hS, r_148 hS, ol_s, ol_n, ln_0, ln_1, ln_2, ln_3, ln_4, eq_self, rf_s, rf_n, i01_0, i01_n0, i01_b, b01_0, b01_1, and_self, and_true, true_and, and_false, false_and, if_true, if_false, not_true_eq_false, not_false_eq_true, e10, e00, lt_bg, Nat.reduceLT, Nat.reduceLeDiff, N, w, V, S, v, lt, V2]
  · have v : rI (srt b l (nx b l q)) 3 = -1 := if_neg c
    have lt : ((-1 : Int32) < 0) = True := by decide
    rw [if_neg c, v]
    simp only [s90_0, s90_1, s90_3, s90_6, s90_11, s90_12, s90_15, s90_16, s90_19r, s90_20, s90_21, s90_24, s90_25, s90_28, s90_29, k_0 hS, k_1 hS, k_2 hS, l_2 hS, k_3 hS, l_3 hS, k_4 hS, l_4 hS, k_5 hS, l_5 hS, k_6 hS, l_6 hS, k_7 hS, k_8 hS, l_8 hS, k_9 hS, l_9 hS, k_10 hS, k_11 hS, l_11 hS, k_12 hS, k_13 hS, l_13 hS, k_14 hS, k_15 hS, l_15 hS, k_16 hS, k_17 hS, l_17 hS, k_66 hS, k_67 hS, l_67 hS, k_68 hS, l_68 hS, k_69 hS, l_69 hS, k_70 hS, l_70 hS, k_71 hS, l_71 hS, k_72 hS, k_73 hS, l_73 hS, k_74 hS, l_74 hS, k_75 hS, k_76 hS, l_76 hS, k_77 hS, k_78 hS, l_78 hS, k_79 hS, k_80 hS, l_80 hS, k_81 hS, k_82 hS, l_82 hS, k_131 hS, k_132 hS, l_132 hS, k_133 hS, l_133 hS, k_134 hS, l_134 hS, k_135 hS, k_136 hS, l_136 hS, k_137 hS, l_137 hS, k_138 hS, l_138 hS, k_139 hS, l_139 hS, k_140 hS, k_141 hS, l_141 hS, k_142 hS, l_142 hS, k_143 hS, k_144 hS, l_144 hS, k_145 hS, k_146 hS, l_146 hS, k_147 hS, l_147 hS, k_148 hS, l_148 hS, k_153 hS, l_153 hS, k_154 hS, l_154 hS, k_155 hS, l_155 hS, k_156 hS, k_157 hS, l_157 hS, k_158 hS, l_158 hS, k_159 hS, l_159 hS, r_0_0 hS, r_0_1 hS, r_0_3 hS, r_0_4 hS, r_0_5 hS, r_0_6 hS, r_0_7 hS, r_0_8 hS, r_0_9 hS, r_0_10 hS, r_1_2 hS, r_1_3 hS, r_1_4 hS, r_1_5 hS, r_1_7 hS, r_1_9 hS, r_1_10 hS, r_1_12 hS, r_1_13 hS, r_1_14 hS, r_1_15 hS, r_7_1 hS, r_10_2 hS, r_12_2 hS, r_14_2 hS, r_16_2 hS, r_66_2 hS, r_66_3 hS, r_66_4 hS, r_66_5 hS, r_66_7 hS, r_66_9 hS, r_66_10 hS, r_66_12 hS, r_66_13 hS, r_66_14 hS, r_66_15 hS, r_72_1 hS, r_75_2 hS, r_77_2 hS, r_79_2 hS, r_81_2 hS, r_131_0 hS, r_131_6 hS, r_131_8 hS, r_135_0 hS, r_135_1 hS, r_135_2 hS, r_135_3 hS, r_140_0 hS, r_140_1 hS, r_143_2 hS, r_145_0 hS, r_145_1 hS, r_145_2 hS, r_145_3 hS, r_145_4 hS, r_145_5 hS, r_156_5 hS, k_pv hS, k_pvr hS, k_db hS, k_dbr hS, k_sh hS, l_pvr hS, l_dbr hS, l_sh hS, r_5 hS, r_6 hS, r_pv hS, r_db hS, r_148 hS, ol_s, ol_n, ln_0, ln_1, ln_2, ln_3, ln_4, eq_self, rf_s, rf_n, i01_0, i01_n0, i01_b, b01_0, b01_1, and_self, and_true, true_and, and_false, false_and, if_true, if_false, not_true_eq_false, not_false_eq_true, e10, e00, lt_bg, Nat.reduceLT, Nat.reduceLeDiff, N, w, V, S, v, lt]
/-! what is made -/
theorem nw_s {k n z : Nat} (h : z ≠ τ.2.2.1) : (am_new k n σ ρ g τ).1 z = σ z := ur_ne _ _ _ h
theorem nw_r {k n z : Nat} (h : z ≠ τ.2.2.1) : (am_new k n σ ρ g τ).2.1 z = ρ z := ur_ne _ _ _ h
theorem nw_g {k n z : Nat} (h : z ≠ τ.2.2.1) : (am_new k n σ ρ g τ).2.2.1 z = g z := ur_ne _ _ _ h
theorem nw_k {k n z : Nat} (h : z ≠ τ.2.2.1) : (am_new k n σ ρ g τ).2.2.2.1 z = τ.1 z := if_neg h
theorem nw_l {k n z : Nat} (h : z ≠ τ.2.2.1) : (am_new k n σ ρ g τ).2.2.2.2.1 z = τ.2.1 z := if_neg h
theorem nw_k0 {k n : Nat} : (am_new k n σ ρ g τ).2.2.2.1 τ.2.2.1 = k := if_pos rfl
theorem nw_l0 {k n : Nat} : (am_new k n σ ρ g τ).2.2.2.2.1 τ.2.2.1 = n := if_pos rfl
theorem nw_c {k n : Nat} : (am_new k n σ ρ g τ).2.2.2.2.2.1 = τ.2.2.1 + 1 := rfl
theorem nw_t {k n : Nat} : (am_new k n σ ρ g τ).2.2.2.2.2.2 = τ.2.2.2 + n := rfl
theorem sh_nw (hS : Sh ρ τ) {k n : Nat} : Sh (am_new k n σ ρ g τ).2.1 (am_new k n σ ρ g τ).2.2.2 := by
  have hN := hS.2.2.2.2.2.2
  obtain ⟨h1, h2, h3, h4, h5, h6, h7⟩ := hS
  have R : ∀ z, z < 261 → (am_new k n σ ρ g τ).2.1 z = ρ z := fun z hz => nw_r (by omega)
  have sR : ∀ e ∈ sh_R, e.1 < 261 := by decide
  refine ⟨fun a ha => ?_, fun e he => ?_, fun p hp => ?_, fun p hp => ?_, fun p hp => ?_, fun p hp => ?_, ?_⟩
  · rw [nw_k (by omega), nw_l (by omega)]
    exact h1 a ha
  · rw [R _ (sR e he)]
    exact h2 e he
  · rw [R _ (by decide), R 70 (by decide), R (18 + 2 * p) (by omega), R (83 + 2 * p) (by omega)]
    exact h3 p hp
  · rw [R _ (by decide), R 71 (by decide), R (34 + 2 * p) (by omega), R (99 + 2 * p) (by omega)]
    exact h4 p hp
  · rw [R _ (by decide)]
    exact h5 p hp
  · rw [R _ (by decide), R 202 (by decide)]
    exact h6 p hp
  · rw [nw_c]
    omega
end ODC
