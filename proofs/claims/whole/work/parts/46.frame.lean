/-! what stays when other cells change -/
theorem Line1.cg {B v j l : Nat} {σ σ' : am_I} {ρ : am_R} {τ : am_T} (h : Line1 B v j l σ ρ τ) (hl : 261 ≤ l) (e2 : ∀ y, B + 19 ≤ y → y < B + 27 → σ' y = σ y) (e3 : ∀ y, 261 ≤ y → σ' y = σ y) : Line1 B v j l σ' ρ τ := by
  obtain ⟨h1, h2, h3, h4, h5, h6, ts, f, h7, h8, h9, h10, h11, h12⟩ := h
  have q : ∀ y, B + 19 ≤ y → y < B + 27 → σ' y = σ y := e2
  refine ⟨h1, ?_, ?_, ?_, ?_, ?_, ts, f, h7, h8, ?_, ?_, ?_, ?_⟩
  · rw [e3 l hl, e2 (B + 21) (by omega) (by omega)]; exact h2
  · rw [e3 l hl, e2 (B + 22) (by omega) (by omega)]; exact h3
  · rw [e3 l hl, e2 (B + 22) (by omega) (by omega), e2 (B + 21) (by omega) (by omega)]; exact h4
  · rw [e3 l hl, e2 (B + 23) (by omega) (by omega)]; exact h5
  · rw [e3 l hl, e2 (B + 21) (by omega) (by omega)]; exact h6
  · rw [e2 (B + 24) (by omega) (by omega)]; exact h9
  · rw [e2 (B + 25) (by omega) (by omega)]; exact h10
  · rw [e2 (B + 26) (by omega) (by omega)]; exact h11
  · rcases h12 with h | ⟨g1, g2, cd, g3, g4, g5, g6, g7, g8⟩
    · exact Or.inl h
    · refine Or.inr ⟨g1, g2, cd, g3, g4, g5, g6, g7, ?_⟩
      rw [e3 cd g7]; exact g8
theorem Stats.cg {a B V : Nat} {σ σ' : am_I} {ρ : am_R} {τ : am_T} (h : Stats a B V σ ρ τ) (e2 : ∀ y, B + 19 ≤ y → y < B + 27 → σ' y = σ y) (e3 : ∀ y, 261 ≤ y → σ' y = σ y) : Stats a B V σ' ρ τ := by
  intro v hv
  obtain ⟨s, la, n, h1, h2, h3, h4, h5, h6, h7, h8, h9, h10, h11, h12, h13⟩ := h v hv
  refine ⟨s, la, n, h1, h2, h3, h4, ?_, h6, h7, h8, h9, h10, h11, ?_, fun i hi => ?_⟩
  · rw [e3 s h2, e2 (B + 19) (by omega) (by omega)]; exact h5
  · rw [e2 (B + 20) (by omega) (by omega)]; exact h12
  · obtain ⟨l, g1, g2, g3, g4⟩ := h13 i hi
    exact ⟨l, g1, g2, g3, g4.cg g2 e2 e3⟩
theorem Rld.cg {a B : Nat} {c : Cn} {σ σ' : am_I} {ρ : am_R} {τ : am_T} (h : Rld a B c σ ρ τ) (e1 : ∀ y, a ≤ y → y < a + 65 → σ' y = σ y) (e2 : ∀ y, B ≤ y → y < B + 40 → σ' y = σ y) (e3 : ∀ y, 261 ≤ y → σ' y = σ y) : Rld a B c σ' ρ τ := by
  have b := h.bn
  unfold Bn at b
  refine ⟨h.bn, h.sc.cg ?_ ?_ ?_ ?_ ?_ ?_, h.rh.cg ?_ ?_, h.pr.cg (by omega) ?_ ?_, h.db.cg (by omega) ?_ ?_, h.st.cg ?_ e3, h.rw.cg ?_ ?_, h.pa.cg ?_ ?_, h.tk.cg ?_ ?_, h.ch.cg ?_ ?_⟩
  all_goals first
    | exact e1 _ (by omega) (by omega)
    | exact e2 _ (by omega) (by omega)
    | exact fun y h1 h2 => e1 y (by omega) (by omega)
    | exact fun y h1 h2 => e2 y (by omega) (by omega)
theorem INV.fr {σ σ' : am_I} {ρ : am_R} {g : am_J} {τ : am_T} (h : INV σ ρ g τ) (hR : ∃ c, Rld 1 161 c σ' ρ τ) (hl : Led 1 σ') (e0 : ∀ y, 66 ≤ y → y < 135 → σ' y = σ y) (e1 : ∀ y, 143 ≤ y → y < 156 → σ' y = σ y) (e2 : σ' 157 = σ 157) (e3 : ∀ y, 203 ≤ y → y < 213 → σ' y = σ y) (e4 : ∀ y, 221 ≤ y → σ' y = σ y) (e5 : σ' 0 2 = σ 0 2) (e6 : σ' 160 42 = σ 160 42) (e7 : σ' 160 44 = σ 160 44) (e8 : σ' 160 47 = σ 160 47) (e9 : σ' 160 55 = σ 160 55) (e10 : σ' 156 6 = σ 156 6) : INV σ' ρ g τ := by
  refine ⟨⟨h.sh, h.bg.cg e4⟩, ⟨hl, h.ld.2.cg ?_ ?_ ?_ ?_⟩, hR, ?_, ?_, ?_, ?_, ?_, ?_⟩
  · exact e0 _ (by omega) (by omega)
  · exact e0 _ (by omega) (by omega)
  · exact e0 _ (by omega) (by omega)
  · exact e0 _ (by omega) (by omega)
  · rw [e5, e6]
    rcases h.kep with q | ⟨q1, q2, c, q3⟩
    · exact Or.inl q
    · exact Or.inr ⟨q1, q2, c, q3.cg (fun y h1 h2 => e0 y (by omega) (by omega)) (fun y h1 h2 => e4 y (by omega)) (fun y h1 => e4 y (by omega))⟩
  · unfold Tape
    rw [e7, e0 131 (by omega) (by omega), e0 132 (by omega) (by omega), e3 203 (by omega) (by omega)]
    exact h.tap
  · unfold Rows
    rw [e8, e1 143 (by omega) (by omega), e1 144 (by omega) (by omega), e3 204 (by omega) (by omega), e3 205 (by omega) (by omega)]
    exact h.row
  · intro k hk
    rw [e1 146 (by omega) (by omega), e1 147 (by omega) (by omega), e1 (149 + k) (by omega) (by omega), e3 207 (by omega) (by omega), e3 208 (by omega) (by omega)]
    exact h.she k hk
  · unfold Shelves
    rw [e1 153 (by omega) (by omega), e1 154 (by omega) (by omega), e1 155 (by omega) (by omega), e3 209 (by omega) (by omega), e3 210 (by omega) (by omega), e3 211 (by omega) (by omega)]
    exact h.slv
  · unfold Trac
    rw [e9, e10, e2, e3 212 (by omega) (by omega)]
    exact h.tra
/-- only what is reckoned with changes -/
theorem INV.scr {σ σ' : am_I} {ρ : am_R} {g : am_J} {τ : am_T} (h : INV σ ρ g τ) (e0 : ∀ y, y < 135 → σ' y = σ y) (e1 : ∀ y, 143 ≤ y → y < 156 → σ' y = σ y) (e2 : σ' 157 = σ 157) (e3 : ∀ y, 161 ≤ y → y < 213 → σ' y = σ y) (e4 : ∀ y, 221 ≤ y → σ' y = σ y) (e6 : σ' 160 42 = σ 160 42) (e7 : σ' 160 44 = σ 160 44) (e8 : σ' 160 47 = σ 160 47) (e9 : σ' 160 55 = σ 160 55) (e10 : σ' 156 6 = σ 156 6) : INV σ' ρ g τ := by
  obtain ⟨c, hc⟩ := h.cur
  refine h.fr ⟨c, hc.cg (fun y h1 h2 => e0 y (by omega)) (fun y h1 h2 => e3 y (by omega) (by omega)) (fun y h1 => e4 y (by omega))⟩ (h.ld.1.cg ?_ ?_ ?_ ?_) (fun y h1 h2 => e0 y h2) e1 e2 (fun y h1 h2 => e3 y (by omega) h2) e4 ?_ e6 e7 e8 e9 e10
  · exact e0 _ (by omega)
  · exact e0 _ (by omega)
  · exact e0 _ (by omega)
  · exact e0 _ (by omega)
  · rw [e0 0 (by omega)]
/-- both sides answered alike -/
def Same (τ : am_T) (r : Option Value) : am_Q := fun r' σ' ρ' g' τ' => (∃ i : Int32, r = some (.int i) ∧ r' = some (.int i)) ∧ INV σ' ρ' g' τ' ∧ τ'.2.2.1 ≤ τ.2.2.1 + 22 ∧ τ'.2.2.2 ≤ τ.2.2.2 + 300 ∧ τ'.1 1000002 = τ.1 1000002 ∧ τ'.2.1 1000002 = τ.2.1 1000002
theorem Same.of {τ : am_T} {i j : Int32} {σ : am_I} {ρ : am_R} {g : am_J} (e : i = j) (h : INV σ ρ g τ) : Same τ (some (.int i)) (some (.int j)) σ ρ g τ := ⟨⟨i, rfl, by rw [e]⟩, h, by omega, by omega, rfl, rfl⟩
