/-! read: the call -/
section ODJ
variable {d : Nat} {σ : am_I} {ρ : am_R} {g : am_J} {τ : am_T} {Q : am_Q}
/-- one line, out of both records -/
theorem ln_of {v j L N f l p : Nat} {r : Lr} (hC : LnR σ ρ τ N L r) (hN : 261 ≤ N) (hQ : LnQ v j f σ r) (hw : Lw l p r) (ht : r.1 = true) : Line1 161 v j L σ ρ τ := by
  obtain ⟨_, _, w⟩ := hw
  obtain ⟨_, w2, w3, w4, w5, w6⟩ := w ht
  obtain ⟨q1, ⟨q2, q3, q4, q5⟩, q6, q7⟩ := hQ
  obtain ⟨a1, a2, a3, a4, a5⟩ := hC
  have e182 : σ (161 + 21) j = nI r.2.2.1 := q2
  have e2 : nI 2 = (2 : Int32) := by decide
  have e4 : nI 4 = (4 : Int32) := by decide
  refine ⟨a1, ⟨r.2.2.1, w2, a2, q2⟩, a3.trans q3.symm, fun ne => ?_, a4.trans q4.symm, fun e => ?_, r.2.2.2.2.2, f, w5, q1, q5, q6, q7, ?_⟩
  · have n2 : r.2.2.1 ≠ 2 := fun q => ne (by rw [e182, q, e2])
    obtain ⟨x, x1, x2⟩ := w3 n2
    rw [e182, lmx_n w2]
    exact ⟨x, x1, a3.trans x2, q3.trans x2⟩
  · have n4 : r.2.2.1 = 4 := by
      by_cases q : r.2.2.1 = 4
      · exact q
      · have z := nI_nj q (by omega) (by omega)
        rw [e4] at z
        exact absurd (e182.symm.trans e) z
    exact a4.trans (w4 n4)
  · rcases a5 with ⟨b1, b2⟩ | ⟨b1, cd, b2, b3, b4, b5, b6, b7⟩
    · exact Or.inl ⟨b1, b2⟩
    · exact Or.inr ⟨b1, (w6.resolve_left b1).2, cd, b2, b4, b5, b6, by omega, b7⟩
/-- what the class's read leaves -/
def RDe (σ : am_I) (ρ : am_R) (g : am_J) (τ : am_T) (σ' : am_I) (ρ' : am_R) (g' : am_J) (τ' : am_T) : Prop :=
  (τ.2.2.1 ≤ τ'.2.2.1 ∧ τ'.2.2.1 ≤ τ.2.2.1 + 22 ∧ τ'.2.2.2 ≤ τ.2.2.2 + 300) ∧
  ((∀ z, z ≠ 1 → z ≠ 131 → z ≠ 133 → z < τ.2.2.1 ∨ τ'.2.2.1 ≤ z → σ' z = σ z) ∧ (∀ k, k ≠ 11 → σ' 1 k = σ 1 k) ∧ σ' 131 1 = 0) ∧
  (∀ z, z ≠ 9 → z ≠ 134 → z < τ.2.2.1 ∨ τ'.2.2.1 ≤ z → ρ' z = ρ z) ∧
  ((∀ z, z < τ.2.2.1 ∨ τ'.2.2.1 ≤ z → g' z = g z) ∧ (∀ z, z < τ.2.2.1 ∨ τ'.2.2.1 ≤ z → τ'.1 z = τ.1 z ∧ τ'.2.1 z = τ.2.1 z) ∧ Sh ρ' τ')
variable {σ' σF : am_I} {ρ' : am_R} {g' : am_J} {τ' : am_T}
theorem RDe.tr (E : RDe σ ρ g τ σ' ρ' g' τ') (h261 : 261 ≤ τ.2.2.1) {b : Nat → Nat} {l : Nat} (h : TR b l σ) : TR b l σ' :=
  h.cg (by rw [E.2.1.1 160 (by decide) (by decide) (by decide) (by omega)]) (E.2.1.1 203 (by decide) (by decide) (by decide) (by omega))
theorem RDe.bg (E : RDe σ ρ g τ σ' ρ' g' τ') (hN : τ.2.2.1 + 22 ≤ 1000000) (h : Bgd σ τ) : Bgd σ' τ' := fun i i1 i2 => by
  have e := E.1
  obtain ⟨x1, x2⟩ := E.2.2.2.2.1 (1000000 + i) (by omega)
  rw [E.2.1.1 (1000000 + i) (by omega) (by omega) (by omega) (by omega), x1, x2]
  exact h i i1 i2
/-- what stood in the cells 261 and on -/
theorem RDe.old (E : RDe σ ρ g τ σ' ρ' g' τ') {ver : Nat} (F : RDr ver σ' σF) : ∀ z, 261 ≤ z → z < τ.2.2.1 → σF z = σ z ∧ ρ' z = ρ z ∧ τ'.1 z = τ.1 z ∧ τ'.2.1 z = τ.2.1 z := fun z z1 z2 => by
  obtain ⟨x1, x2⟩ := E.2.2.2.2.1 z (Or.inl z2)
  refine ⟨?_, E.2.2.1 z (by omega) (by omega) (Or.inl z2), x1, x2⟩
  rw [F.1 z (by omega) (by omega) (by omega), E.2.1.1 z (by omega) (by omega) (by omega) (Or.inl z2)]
theorem rd_st (E : RDe σ ρ g τ σ' ρ' g' τ') (h261 : 261 ≤ τ.2.2.1) {V : Nat} (F : RDr V σ' σF) (h9 : ∀ k, k < V → ρ' 9 k = ρ 9 k) (h : Stats 1 161 V σ ρ τ) : Stats 1 161 V σF ρ' τ' := by
  have n : ∀ z, 180 ≤ z → z ≤ 187 → σ' z = σ z := fun z z1 z2 => E.2.1.1 z (by omega) (by omega) (by omega) (by omega)
  refine h.ex (E.old F) E.1.1 h9 (fun v hv => ⟨?_, ?_⟩) (fun z z1 z2 k hk => ?_) (fun k hk => ?_)
  · show σF 180 v = σ 180 v
    rw [F.2.2.2.2.1 180 (Or.inl rfl) v hv, n 180 (by omega) (by omega)]
  · show σF 181 v = σ 181 v
    rw [F.2.2.2.2.1 181 (Or.inr rfl) v hv, n 181 (by omega) (by omega)]
  · rw [F.2.2.2.2.2.1 z (by omega) (by omega) k hk, n z (by omega) (by omega)]
  · show σF 187 k = σ 187 k
    rw [F.2.2.2.2.2.2 k hk, n 187 (by omega) (by omega)]
theorem rd_inv (h : INV σ ρ g τ) (hN : τ.2.2.1 + 22 ≤ 1000000) {c : Cn} (hc : Rld 1 161 c σ ρ τ) (E : RDe σ ρ g τ σ' ρ' g' τ') {ver V : Nat} (F : RDr ver σ' σF) (hV : V ≤ 8) (x11 : σF 1 11 = nI V) (x3 : σF 161 3 = nI V) (hst : Stats 1 161 V σF ρ' τ') : INV σF ρ' g' τ' := by
  have h261 : 261 ≤ τ.2.2.1 := h.sh.2.2.2.2.2.2
  have old := E.old F
  obtain ⟨⟨a1, a2, a3⟩, ⟨b1, b2, b3⟩, r1, ⟨g1, t1, S1⟩⟩ := E
  obtain ⟨f1, f2, f3, f4, f5, f6, f7⟩ := F
  have n : ∀ z, z ≠ 1 → z ≠ 131 → z ≠ 133 → z ≠ 160 → z ≠ 161 → z < 180 ∨ 187 < z → z < τ.2.2.1 ∨ τ'.2.2.1 ≤ z → σF z = σ z := fun z h1 h2 h3 h4 h5 h6 h7 => by rw [f1 z h4 h5 h6, b1 z h1 h2 h3 h7]
  have n1 : ∀ k, k ≠ 11 → σF 1 k = σ 1 k := fun k hk => by rw [f1 1 (by decide) (by decide) (by decide), b2 k hk]
  have n161 : ∀ k, k ≠ 3 → σF 161 k = σ 161 k := fun k hk => by rw [f4 k hk, b1 161 (by decide) (by decide) (by decide) (by omega)]
  have n160 : ∀ k, k < 57 ∨ 62 < k → k ≠ 44 → σF 160 k = σ 160 k := fun k hk h4 => by rw [f2 k hk h4, b1 160 (by decide) (by decide) (by decide) (by omega)]
  have bn := hc.bn
  unfold Bn at bn
  refine ⟨⟨S1, fun i i1 i2 => ?_⟩, ⟨h.ld.1.cg ?_ ?_ ?_ ?_, h.ld.2.cg ?_ ?_ ?_ ?_⟩, ⟨fun i => if i = 3 then V else c i, ?_⟩, ?_, ?_, ?_, ?_, ?_, ?_⟩
  · obtain ⟨y1, y2⟩ := t1 (1000000 + i) (by omega)
    rw [n (1000000 + i) (by omega) (by omega) (by omega) (by omega) (by omega) (by omega) (by omega), y1, y2]
    exact h.bg i i1 i2
  iterate 8 exact n _ (by omega) (by omega) (by omega) (by omega) (by omega) (by omega) (by omega)
  · refine ⟨?_, ?_, hc.rh.cg (fun y h1 h2 => n y (by omega) (by omega) (by omega) (by omega) (by omega) (by omega) (by omega)) (fun y h1 h2 => n y (by omega) (by omega) (by omega) (by omega) (by omega) (by omega) (by omega)), hc.pr.cg (by omega) (fun y h1 h2 => n y (by omega) (by omega) (by omega) (by omega) (by omega) (by omega) (by omega)) (fun y h1 h2 => n y (by omega) (by omega) (by omega) (by omega) (by omega) (by omega) (by omega)), hc.db.cg (by omega) (fun y h1 h2 => n y (by omega) (by omega) (by omega) (by omega) (by omega) (by omega) (by omega)) (fun y h1 h2 => n y (by omega) (by omega) (by omega) (by omega) (by omega) (by omega) (by omega)), hst, hc.rw.cg (n _ (by omega) (by omega) (by omega) (by omega) (by omega) (by omega) (by omega)) (fun y h1 h2 => n y (by omega) (by omega) (by omega) (by omega) (by omega) (by omega) (by omega)), hc.pa.cg (n _ (by omega) (by omega) (by omega) (by omega) (by omega) (by omega) (by omega)) (fun y h1 h2 => n y (by omega) (by omega) (by omega) (by omega) (by omega) (by omega) (by omega)), hc.tk.cg (n _ (by omega) (by omega) (by omega) (by omega) (by omega) (by omega) (by omega)) (fun y h1 h2 => n y (by omega) (by omega) (by omega) (by omega) (by omega) (by omega) (by omega)), hc.ch.cg (n _ (by omega) (by omega) (by omega) (by omega) (by omega) (by omega) (by omega)) (fun y h1 h2 => n y (by omega) (by omega) (by omega) (by omega) (by omega) (by omega) (by omega))⟩
    · show c 0 ≤ 599 ∧ c 1 ≤ 8 ∧ c 2 ≤ 16 ∧ V ≤ 8 ∧ c 4 ≤ 6 ∧ c 5 ≤ 20 ∧ c 6 ≤ 16 ∧ c 7 ≤ 8
      omega
    · obtain ⟨⟨y0, y1⟩, ⟨y2, y3⟩, ⟨y4, y5⟩, _, ⟨y6, y7⟩, ⟨y8, y9⟩, ⟨y10, y11⟩, ⟨y12, y13⟩, y14⟩ := hc.sc
      show (σF 1 0 = nI (c 0) ∧ σF 161 0 = nI (c 0)) ∧ (σF 1 6 = nI (c 1) ∧ σF 161 1 = nI (c 1)) ∧ (σF 1 8 = nI (c 2) ∧ σF 161 2 = nI (c 2)) ∧ (σF 1 11 = nI V ∧ σF 161 3 = nI V) ∧ (σF 10 3 = nI (c 4) ∧ σF 161 4 = nI (c 4)) ∧ (σF 12 3 = nI (c 5) ∧ σF 161 5 = nI (c 5)) ∧ (σF 14 3 = nI (c 6) ∧ σF 161 6 = nI (c 6)) ∧ (σF 16 3 = nI (c 7) ∧ σF 161 7 = nI (c 7)) ∧ EQ 99999 (σF 1 1) (σF 161 8)
      rw [n1 0 (by decide), n1 6 (by decide), n1 8 (by decide), n1 1 (by decide), n161 0 (by decide), n161 1 (by decide), n161 2 (by decide), n161 4 (by decide), n161 5 (by decide), n161 6 (by decide), n161 7 (by decide), n161 8 (by decide), n 10 (by omega) (by omega) (by omega) (by omega) (by omega) (by omega) (by omega), n 12 (by omega) (by omega) (by omega) (by omega) (by omega) (by omega) (by omega), n 14 (by omega) (by omega) (by omega) (by omega) (by omega) (by omega) (by omega), n 16 (by omega) (by omega) (by omega) (by omega) (by omega) (by omega) (by omega)]
      exact ⟨⟨y0, y1⟩, ⟨y2, y3⟩, ⟨y4, y5⟩, ⟨x11, x3⟩, ⟨y6, y7⟩, ⟨y8, y9⟩, ⟨y10, y11⟩, ⟨y12, y13⟩, y14⟩
  · rw [n 0 (by omega) (by omega) (by omega) (by omega) (by omega) (by omega) (by omega), n160 42 (by omega) (by omega)]
    rcases h.kep with q | ⟨q1, q2, k, q3⟩
    · exact Or.inl q
    · have bk := q3.bn
      unfold Bn at bk
      refine Or.inr ⟨q1, q2, k, q3.bn, q3.sc.cg ?_ ?_ ?_ ?_ ?_ ?_, q3.rh.cg ?_ ?_, q3.pr.cg (by omega) ?_ ?_, q3.db.cg (by omega) ?_ ?_, q3.st.ex old a1 (fun v hv => ?_) (fun v hv => ⟨?_, ?_⟩) (fun z z1 z2 j hj => ?_) (fun j hj => ?_), q3.rw.cg ?_ ?_, q3.pa.cg ?_ ?_, q3.tk.cg ?_ ?_, q3.ch.cg ?_ ?_⟩
      all_goals first
        | exact n _ (by omega) (by omega) (by omega) (by omega) (by omega) (by omega) (by omega)
        | exact fun y h1 h2 => n y (by omega) (by omega) (by omega) (by omega) (by omega) (by omega) (by omega)
        | rw [n _ (by omega) (by omega) (by omega) (by omega) (by omega) (by omega) (by omega)]
        | rw [r1 _ (by omega) (by omega) (by omega)]
  · exact ⟨0, by omega, (by rw [f1 131 (by decide) (by decide) (by decide)]; exact b3), f3, fun i hi => absurd hi (Nat.not_lt_zero _)⟩
  · unfold Rows
    rw [n160 47 (by omega) (by omega), n 143 (by omega) (by omega) (by omega) (by omega) (by omega) (by omega) (by omega), n 144 (by omega) (by omega) (by omega) (by omega) (by omega) (by omega) (by omega), n 204 (by omega) (by omega) (by omega) (by omega) (by omega) (by omega) (by omega), n 205 (by omega) (by omega) (by omega) (by omega) (by omega) (by omega) (by omega)]
    exact h.row
  · intro k hk
    rw [g1 206 (by omega), n 146 (by omega) (by omega) (by omega) (by omega) (by omega) (by omega) (by omega), n 147 (by omega) (by omega) (by omega) (by omega) (by omega) (by omega) (by omega), n (149 + k) (by omega) (by omega) (by omega) (by omega) (by omega) (by omega) (by omega), n 207 (by omega) (by omega) (by omega) (by omega) (by omega) (by omega) (by omega), n 208 (by omega) (by omega) (by omega) (by omega) (by omega) (by omega) (by omega)]
    exact h.she k hk
  · unfold Shelves
    rw [n 153 (by omega) (by omega) (by omega) (by omega) (by omega) (by omega) (by omega), n 154 (by omega) (by omega) (by omega) (by omega) (by omega) (by omega) (by omega), n 155 (by omega) (by omega) (by omega) (by omega) (by omega) (by omega) (by omega), n 209 (by omega) (by omega) (by omega) (by omega) (by omega) (by omega) (by omega), n 210 (by omega) (by omega) (by omega) (by omega) (by omega) (by omega) (by omega), n 211 (by omega) (by omega) (by omega) (by omega) (by omega) (by omega) (by omega)]
    exact h.slv
  · unfold Trac
    rw [n160 55 (by omega) (by omega), n 156 (by omega) (by omega) (by omega) (by omega) (by omega) (by omega) (by omega), n 157 (by omega) (by omega) (by omega) (by omega) (by omega) (by omega) (by omega), n 212 (by omega) (by omega) (by omega) (by omega) (by omega) (by omega) (by omega)]
    exact h.tra
theorem o_read (h : INV σ ρ g τ) (hN : τ.2.2.1 + 22 ≤ 1000000) : AW (d + 30) 127 0 [.ref 0, am_jk] [] σ ρ g τ (fun r σ1 ρ1 g1 τ1 => AW (d + 30) 201 0 [.ref 160, am_jk] [] σ1 ρ1 g1 τ1 (Same τ r)) := by
  have hS := h.sh
  have h261 := hS.2.2.2.2.2.2
  obtain ⟨c, hc⟩ := h.cur
  have bn := hc.bn
  unfold Bn at bn
  obtain ⟨⟨sa0, sb0⟩, _, _, ⟨sa3, sb3⟩, _⟩ := hc.sc
  obtain ⟨l, hl, h1, h44, hb⟩ := h.tap
  have hB : ∀ i, ∃ b : Nat, i < l → b < 256 ∧ σ 203 i = nI b ∧ σ 132 i = sg8 b := fun i => by
    by_cases q : i < l
    · obtain ⟨b, x⟩ := hb i q
      exact ⟨b, fun _ => x⟩
    · exact ⟨0, fun z => absurd z q⟩
  obtain ⟨b, hb⟩ := Classical.axiomOfChoice hB
  have T1 : TC b l σ := ⟨hl, h1, fun i hi => ⟨(hb i hi).1, (hb i hi).2.2⟩⟩
  have T2 : TR b l σ := ⟨hl, h44, fun i hi => ⟨(hb i hi).1, (hb i hi).2.1⟩⟩
  obtain ⟨_, pl⟩ := sk_b (b := b) (l := l) (i := 0) (Nat.zero_le _)
  obtain ⟨s, σ1, ρ1, g1, τ1, ⟨F1, F2⟩, K, C, R⟩ := c78 (g := g) hS h.bg T1 (by omega)
  have pb := pTx_b (b := b) (l := l) 10 (sk b l 0) pl
  have pr := pTx_r (b := b) (l := l) 10 (sk b l 0) pl
  have V := fun (σ' : am_I) (ρ' : am_R) (g' : am_J) (τ' : am_T) (hS : Sh ρ' τ') (hb : Bgd σ' τ') (hT : TR b l σ') (h3 : σ' 161 3 = nI (c 3)) => c201 (σ := σ') (ρ := ρ') (g := g') (τ := τ') hS hb (b := b) (l := l) (ver := c 3) (by omega) hT h3
  generalize pTx b l 10 (sk b l 0) = P at K C R pb pr V
  obtain ⟨pb1, pb2, pb3⟩ := pb
  obtain ⟨⟨k1, k2, k3⟩, ⟨l1, l2, l3⟩, ⟨m1, m2⟩, ⟨n1, n2, n3⟩, o1⟩ := K
  rw [Nat.zero_add] at l3
  generalize e2 : am_u σ1 131 1 0 = σ2
  have x2 : ∀ z, z ≠ 131 → z ≠ 133 → z < τ.2.2.1 ∨ τ1.2.2.1 ≤ z → σ2 z = σ z := fun z z1 z2 z3 => by rw [← e2, u_ne _ _ _ _ z1, l1 z z1 z2 z3, F1 z z1]
  have y2 : ∀ z, 261 ≤ z → σ2 z = σ1 z := fun z z1 => by rw [← e2, u_ne _ _ _ _ (by omega)]
  have E2 : RDe σ ρ g τ σ2 ρ1 g1 τ1 := ⟨⟨k1, by omega, by omega⟩, ⟨fun z z1 z2 z3 z4 => x2 z z2 z3 z4, fun k _ => by rw [x2 1 (by decide) (by decide) (by omega)], by rw [← e2, u_at]⟩, fun z _ z2 z3 => m1 z z2 z3, n1, n2, n3⟩
  have R0 : AW (d + 30) 127 0 [.ref 0, am_jk] [] σ ρ g τ (fun r σ1 ρ1 g1 τ1 => AW (d + 30) 201 0 [.ref 160, am_jk] [] σ1 ρ1 g1 τ1 (Same τ r)) = AW (d + 30) 127 16 [.ref 0, .int (bI P.1)] [] σ2 ρ1 g1 τ1 (fun r σ1 ρ1 g1 τ1 => AW (d + 30) 201 0 [.ref 160, am_jk] [] σ1 ρ1 g1 τ1 (Same τ r)) := by
    simp only [s127_0, s127_1, s127_4, s127_7r, s127_8, k_0 hS, k_1 hS, k_2 hS, l_2 hS, k_3 hS, l_3 hS, k_4 hS, l_4 hS, k_5 hS, l_5 hS, k_6 hS, l_6 hS, k_7 hS, k_8 hS, l_8 hS, k_9 hS, l_9 hS, k_10 hS, k_11 hS, l_11 hS, k_12 hS, k_13 hS, l_13 hS, k_14 hS, k_15 hS, l_15 hS, k_16 hS, k_17 hS, l_17 hS, k_66 hS, k_67 hS, l_67 hS, k_68 hS, l_68 hS, k_69 hS, l_69 hS, k_70 hS, l_70 hS, k_71 hS, l_71 hS, k_72 hS, k_73 hS, l_73 hS, k_74 hS, l_74 hS, k_75 hS, k_76 hS, l_76 hS, k_77 hS, k_78 hS, l_78 hS, k_79 hS, k_80 hS, l_80 hS, k_81 hS, k_82 hS, l_82 hS, k_131 hS, k_132 hS, l_132 hS, k_133 hS, l_133 hS, k_134 hS, l_134 hS, k_135 hS, k_136 hS, l_136 hS, k_137 hS, l_137 hS, k_138 hS, l_138 hS, k_139 hS, l_139 hS, k_140 hS, k_141 hS, l_141 hS, k_142 hS, l_142 hS, k_143 hS, k_144 hS, l_144 hS, k_145 hS, k_146 hS, l_146 hS, k_147 hS, l_147 hS, k_148 hS, l_148 hS, k_153 hS, l_153 hS, k_154 hS, l_154 hS, k_155 hS, l_155 hS, k_156 hS, k_157 hS, l_157 hS, k_158 hS, l_158 hS, k_159 hS, l_159 hS, r_0_0 hS, r_0_1 hS, r_0_3 hS, r_0_4 hS, r_0_5 hS, r_0_6 hS, r_0_7 hS, r_0_8 hS, r_0_9 hS, r_0_10 hS, r_1_2 hS, r_1_3 hS, r_1_4 hS, r_1_5 hS, r_1_7 hS, r_1_9 hS, r_1_10 hS, r_1_12 hS, r_1_13 hS, r_1_14 hS, r_1_15 hS, r_7_1 hS, r_10_2 hS, r_12_2 hS, r_14_2 hS, r_16_2 hS, r_66_2 hS, r_66_3 hS, r_66_4 hS, r_66_5 hS, r_66_7 hS, r_66_9 hS, r_66_10 hS, r_66_12 hS, r_66_13 hS, r_66_14 hS, r_66_15 hS, r_72_1 hS, r_75_2 hS, r_77_2 hS, r_79_2 hS, r_81_2 hS, r_131_0 hS, r_131_6 hS, r_131_8 hS, r_135_0 hS, r_135_1 hS, r_135_2 hS, r_135_3 hS, r_140_0 hS, r_140_1 hS, r_143_2 hS, r_145_0 hS, r_145_1 hS, r_145_2 hS, r_145_3 hS, r_145_4 hS, r_145_5 hS, r_156_5 hS, k_pv hS, k_pvr hS, k_db hS, k_dbr hS, k_sh hS, l_pvr hS, l_dbr hS, l_sh hS, r_5 hS, r_6 hS, r_pv hS, r_db hS, r_148 hS, ol_s, ol_n, ln_0, ln_1, ln_2, ln_3, ln_4, eq_self, rf_s, rf_n, i01_0, i01_n0, i01_b, b01_0, b01_1, and_self, and_true, true_and, and_false, false_and, if_true, if_false, not_true_eq_false, not_false_eq_true, e10, e00, lt_bg, Nat.reduceLT, Nat.reduceLeDiff, R]
    have hS := n3
    simp only [s127_9, s127_12, s127_13, k_0 hS, k_1 hS, k_2 hS, l_2 hS, k_3 hS, l_3 hS, k_4 hS, l_4 hS, k_5 hS, l_5 hS, k_6 hS, l_6 hS, k_7 hS, k_8 hS, l_8 hS, k_9 hS, l_9 hS, k_10 hS, k_11 hS, l_11 hS, k_12 hS, k_13 hS, l_13 hS, k_14 hS, k_15 hS, l_15 hS, k_16 hS, k_17 hS, l_17 hS, k_66 hS, k_67 hS, l_67 hS, k_68 hS, l_68 hS, k_69 hS, l_69 hS, k_70 hS, l_70 hS, k_71 hS, l_71 hS, k_72 hS, k_73 hS, l_73 hS, k_74 hS, l_74 hS, k_75 hS, k_76 hS, l_76 hS, k_77 hS, k_78 hS, l_78 hS, k_79 hS, k_80 hS, l_80 hS, k_81 hS, k_82 hS, l_82 hS, k_131 hS, k_132 hS, l_132 hS, k_133 hS, l_133 hS, k_134 hS, l_134 hS, k_135 hS, k_136 hS, l_136 hS, k_137 hS, l_137 hS, k_138 hS, l_138 hS, k_139 hS, l_139 hS, k_140 hS, k_141 hS, l_141 hS, k_142 hS, l_142 hS, k_143 hS, k_144 hS, l_144 hS, k_145 hS, k_146 hS, l_146 hS, k_147 hS, l_147 hS, k_148 hS, l_148 hS, k_153 hS, l_153 hS, k_154 hS, l_154 hS, k_155 hS, l_155 hS, k_156 hS, k_157 hS, l_157 hS, k_158 hS, l_158 hS, k_159 hS, l_159 hS, r_0_0 hS, r_0_1 hS, r_0_3 hS, r_0_4 hS, r_0_5 hS, r_0_6 hS, r_0_7 hS, r_0_8 hS, r_0_9 hS, r_0_10 hS, r_1_2 hS, r_1_3 hS, r_1_4 hS, r_1_5 hS, r_1_7 hS, r_1_9 hS, r_1_10 hS, r_1_12 hS, r_1_13 hS, r_1_14 hS, r_1_15 hS, r_7_1 hS, r_10_2 hS, r_12_2 hS, r_14_2 hS, r_16_2 hS, r_66_2 hS, r_66_3 hS, r_66_4 hS, r_66_5 hS, r_66_7 hS, r_66_9 hS, r_66_10 hS, r_66_12 hS, r_66_13 hS, r_66_14 hS, r_66_15 hS, r_72_1 hS, r_75_2 hS, r_77_2 hS, r_79_2 hS, r_81_2 hS, r_131_0 hS, r_131_6 hS, r_131_8 hS, r_135_0 hS, r_135_1 hS, r_135_2 hS, r_135_3 hS, r_140_0 hS, r_140_1 hS, r_143_2 hS, r_145_0 hS, r_145_1 hS, r_145_2 hS, r_145_3 hS, r_145_4 hS, r_145_5 hS, r_156_5 hS, k_pv hS, k_pvr hS, k_db hS, k_dbr hS, k_sh hS, l_pvr hS, l_dbr hS, l_sh hS, r_5 hS, r_6 hS, r_pv hS, r_db hS, r_148 hS, ol_s, ol_n, ln_0, ln_1, ln_2, ln_3, ln_4, eq_self, rf_s, rf_n, i01_0, i01_n0, i01_b, b01_0, b01_1, and_self, and_true, true_and, and_false, false_and, if_true, if_false, not_true_eq_false, not_false_eq_true, e10, e00, lt_bg, Nat.reduceLT, Nat.reduceLeDiff, e2]
  rw [R0]
  have hv : σ2 1 11 = nI (c 3) := by rw [x2 1 (by decide) (by decide) (by omega)]; exact sa3
  have w3 : σ2 161 3 = nI (c 3) := by rw [x2 161 (by decide) (by decide) (by omega)]; exact sb3
  have wt : bI true = 1 := rfl
  have wf : bI false = 0 := rfl
  have b2 := E2.bg hN h.bg
  have t2 := E2.tr h261 T2
  have kk : ∀ {τ' : am_T}, (∀ z, z < τ.2.2.1 ∨ τ'.2.2.1 ≤ z → τ'.1 z = τ.1 z ∧ τ'.2.1 z = τ.2.1 z) → τ'.2.2.1 ≤ 1000000 → τ'.1 1000002 = τ.1 1000002 ∧ τ'.2.1 1000002 = τ.2.1 1000002 := fun q q2 => q 1000002 (by omega)
  have kk2 := kk n2 (by omega)
  have r9 : ∀ k, k < c 3 → ρ1 9 k = ρ 9 k := fun k _ => by rw [m1 9 (by decide) (by omega)]
  cases hP : P.1
  · have s2 : σ2 131 2 = nI P.2.1 := by rw [← e2, u_nk _ _ _ _ (by decide)]; exact C.1
    have R1 : ∀ (Q : am_Q), AW (d + 30) 127 16 [.ref 0, .int (bI false)] [] σ2 ρ1 g1 τ1 Q = Q (some (.int (-100 - nI P.2.1))) σ2 ρ1 g1 τ1 := fun Q => by
      have hS := n3
      simp only [s127_16, s127_17, s127_20, s127_22, s127_23, s127_26, s127_29, s127_30, k_0 hS, k_1 hS, k_2 hS, l_2 hS, k_3 hS, l_3 hS, k_4 hS, l_4 hS, k_5 hS, l_5 hS, k_6 hS, l_6 hS, k_7 hS, k_8 hS, l_8 hS, k_9 hS, l_9 hS, k_10 hS, k_11 hS, l_11 hS, k_12 hS, k_13 hS, l_13 hS, k_14 hS, k_15 hS, l_15 hS, k_16 hS, k_17 hS, l_17 hS, k_66 hS, k_67 hS, l_67 hS, k_68 hS, l_68 hS, k_69 hS, l_69 hS, k_70 hS, l_70 hS, k_71 hS, l_71 hS, k_72 hS, k_73 hS, l_73 hS, k_74 hS, l_74 hS, k_75 hS, k_76 hS, l_76 hS, k_77 hS, k_78 hS, l_78 hS, k_79 hS, k_80 hS, l_80 hS, k_81 hS, k_82 hS, l_82 hS, k_131 hS, k_132 hS, l_132 hS, k_133 hS, l_133 hS, k_134 hS, l_134 hS, k_135 hS, k_136 hS, l_136 hS, k_137 hS, l_137 hS, k_138 hS, l_138 hS, k_139 hS, l_139 hS, k_140 hS, k_141 hS, l_141 hS, k_142 hS, l_142 hS, k_143 hS, k_144 hS, l_144 hS, k_145 hS, k_146 hS, l_146 hS, k_147 hS, l_147 hS, k_148 hS, l_148 hS, k_153 hS, l_153 hS, k_154 hS, l_154 hS, k_155 hS, l_155 hS, k_156 hS, k_157 hS, l_157 hS, k_158 hS, l_158 hS, k_159 hS, l_159 hS, r_0_0 hS, r_0_1 hS, r_0_3 hS, r_0_4 hS, r_0_5 hS, r_0_6 hS, r_0_7 hS, r_0_8 hS, r_0_9 hS, r_0_10 hS, r_1_2 hS, r_1_3 hS, r_1_4 hS, r_1_5 hS, r_1_7 hS, r_1_9 hS, r_1_10 hS, r_1_12 hS, r_1_13 hS, r_1_14 hS, r_1_15 hS, r_7_1 hS, r_10_2 hS, r_12_2 hS, r_14_2 hS, r_16_2 hS, r_66_2 hS, r_66_3 hS, r_66_4 hS, r_66_5 hS, r_66_7 hS, r_66_9 hS, r_66_10 hS, r_66_12 hS, r_66_13 hS, r_66_14 hS, r_66_15 hS, r_72_1 hS, r_75_2 hS, r_77_2 hS, r_79_2 hS, r_81_2 hS, r_131_0 hS, r_131_6 hS, r_131_8 hS, r_135_0 hS, r_135_1 hS, r_135_2 hS, r_135_3 hS, r_140_0 hS, r_140_1 hS, r_143_2 hS, r_145_0 hS, r_145_1 hS, r_145_2 hS, r_145_3 hS, r_145_4 hS, r_145_5 hS, r_156_5 hS, k_pv hS, k_pvr hS, k_db hS, k_dbr hS, k_sh hS, l_pvr hS, l_dbr hS, l_sh hS, r_5 hS, r_6 hS, r_pv hS, r_db hS, r_148 hS, ol_s, ol_n, ln_0, ln_1, ln_2, ln_3, ln_4, eq_self, rf_s, rf_n, i01_0, i01_n0, i01_b, b01_0, b01_1, and_self, and_true, true_and, and_false, false_and, if_true, if_false, not_true_eq_false, not_false_eq_true, e10, e00, lt_bg, Nat.reduceLT, Nat.reduceLeDiff, wf, s2]
    rw [R1]
    obtain ⟨σF, F, q | q | q⟩ := V σ2 ρ1 g1 τ1 n3 b2 t2 w3
    · obtain ⟨_, q3, R2⟩ := q
      show AW (d + 30) 201 0 [.ref 160, am_jk] [] σ2 ρ1 g1 τ1 (Same τ (some (.int (-100 - nI P.2.1))))
      rw [R2]
      exact ⟨⟨_, rfl, rfl⟩, rd_inv h hN hc E2 F (by omega) (by rw [F.1 1 (by decide) (by decide) (by decide)]; exact hv) q3 (rd_st E2 h261 F r9 hc.st), E2.1.2.1, E2.1.2.2, kk2.1, kk2.2⟩
    · exact absurd (hP.symm.trans q.1) (by decide)
    · exact absurd (hP.symm.trans q.1) (by decide)
  by_cases q8 : c 3 = 8
  · have lt : ¬ nI (c 3) < (8 : Int32) := by rw [q8]; decide
    have R1 : ∀ (Q : am_Q), AW (d + 30) 127 16 [.ref 0, .int (bI true)] [] σ2 ρ1 g1 τ1 Q = Q (some (.int (-2))) σ2 ρ1 g1 τ1 := fun Q => by
      have hS := n3
      have ne : ¬ (1 : Int32) = 0 := by decide
      simp only [s127_16, s127_17, s127_31, s127_32, s127_35, s127_38, s127_40, s127_43, s127_45, k_0 hS, k_1 hS, k_2 hS, l_2 hS, k_3 hS, l_3 hS, k_4 hS, l_4 hS, k_5 hS, l_5 hS, k_6 hS, l_6 hS, k_7 hS, k_8 hS, l_8 hS, k_9 hS, l_9 hS, k_10 hS, k_11 hS, l_11 hS, k_12 hS, k_13 hS, l_13 hS, k_14 hS, k_15 hS, l_15 hS, k_16 hS, k_17 hS, l_17 hS, k_66 hS, k_67 hS, l_67 hS, k_68 hS, l_68 hS, k_69 hS, l_69 hS, k_70 hS, l_70 hS, k_71 hS, l_71 hS, k_72 hS, k_73 hS, l_73 hS, k_74 hS, l_74 hS, k_75 hS, k_76 hS, l_76 hS, k_77 hS, k_78 hS, l_78 hS, k_79 hS, k_80 hS, l_80 hS, k_81 hS, k_82 hS, l_82 hS, k_131 hS, k_132 hS, l_132 hS, k_133 hS, l_133 hS, k_134 hS, l_134 hS, k_135 hS, k_136 hS, l_136 hS, k_137 hS, l_137 hS, k_138 hS, l_138 hS, k_139 hS, l_139 hS, k_140 hS, k_141 hS, l_141 hS, k_142 hS, l_142 hS, k_143 hS, k_144 hS, l_144 hS, k_145 hS, k_146 hS, l_146 hS, k_147 hS, l_147 hS, k_148 hS, l_148 hS, k_153 hS, l_153 hS, k_154 hS, l_154 hS, k_155 hS, l_155 hS, k_156 hS, k_157 hS, l_157 hS, k_158 hS, l_158 hS, k_159 hS, l_159 hS, r_0_0 hS, r_0_1 hS, r_0_3 hS, r_0_4 hS, r_0_5 hS, r_0_6 hS, r_0_7 hS, r_0_8 hS, r_0_9 hS, r_0_10 hS, r_1_2 hS, r_1_3 hS, r_1_4 hS, r_1_5 hS, r_1_7 hS, r_1_9 hS, r_1_10 hS, r_1_12 hS, r_1_13 hS, r_1_14 hS, r_1_15 hS, r_7_1 hS, r_10_2 hS, r_12_2 hS, r_14_2 hS, r_16_2 hS, r_66_2 hS, r_66_3 hS, r_66_4 hS, r_66_5 hS, r_66_7 hS, r_66_9 hS, r_66_10 hS, r_66_12 hS, r_66_13 hS, r_66_14 hS, r_66_15 hS, r_72_1 hS, r_75_2 hS, r_77_2 hS, r_79_2 hS, r_81_2 hS, r_131_0 hS, r_131_6 hS, r_131_8 hS, r_135_0 hS, r_135_1 hS, r_135_2 hS, r_135_3 hS, r_140_0 hS, r_140_1 hS, r_143_2 hS, r_145_0 hS, r_145_1 hS, r_145_2 hS, r_145_3 hS, r_145_4 hS, r_145_5 hS, r_156_5 hS, k_pv hS, k_pvr hS, k_db hS, k_dbr hS, k_sh hS, l_pvr hS, l_dbr hS, l_sh hS, r_5 hS, r_6 hS, r_pv hS, r_db hS, r_148 hS, ol_s, ol_n, ln_0, ln_1, ln_2, ln_3, ln_4, eq_self, rf_s, rf_n, i01_0, i01_n0, i01_b, b01_0, b01_1, and_self, and_true, true_and, and_false, false_and, if_true, if_false, not_true_eq_false, not_false_eq_true, e10, e00, lt_bg, Nat.reduceLT, Nat.reduceLeDiff, wt, ne, hv, lt]
    rw [R1]
    obtain ⟨σF, F, q | q | q⟩ := V σ2 ρ1 g1 τ1 n3 b2 t2 w3
    · exact absurd (hP.symm.trans q.1) (by decide)
    · obtain ⟨_, _, q3, R2⟩ := q
      show AW (d + 30) 201 0 [.ref 160, am_jk] [] σ2 ρ1 g1 τ1 (Same τ (some (.int (-2))))
      rw [R2]
      exact ⟨⟨_, rfl, rfl⟩, rd_inv h hN hc E2 F (by omega) (by rw [F.1 1 (by decide) (by decide) (by decide)]; exact hv) q3 (rd_st E2 h261 F r9 hc.st), E2.1.2.1, E2.1.2.2, kk2.1, kk2.2⟩
    · exact absurd q8 (by omega)
  · have e8 : nI 8 = (8 : Int32) := by decide
    have lt : (nI (c 3) < (8 : Int32)) = True := eq_true (by rw [← e8]; exact Int32.not_le.mp (nI_ge (by omega) (by omega)))
    obtain ⟨σ4, ρ4, g4, τ4, K4, R4⟩ := c127t (σ := σ2) (ρ := ρ1) (g := g1) (τ := τ1) n3 (ver := c 3) (n := P.2.2.length) (now := nI (c 0)) (x1 := 1) (by omega) hv (by rw [x2 1 (by decide) (by decide) (by omega)]; exact sa0) pb3 (by rw [← e2, u_nk _ _ _ _ (by decide)]; exact l3) (fun i hi => by
      obtain ⟨L, y1, _, y3, y4⟩ := o1 i hi
      rw [Nat.zero_add] at y1
      exact ⟨L, y1, y4.1, y3⟩) (by omega)
    have R1 : AW (d + 30) 127 16 [.ref 0, .int (bI true)] [] σ2 ρ1 g1 τ1 (fun r σ1 ρ1 g1 τ1 => AW (d + 30) 201 0 [.ref 160, am_jk] [] σ1 ρ1 g1 τ1 (Same τ r)) = AW (d + 30) 127 46 [.ref 0, .int 1] [] σ2 ρ1 g1 τ1 (fun r σ1 ρ1 g1 τ1 => AW (d + 30) 201 0 [.ref 160, am_jk] [] σ1 ρ1 g1 τ1 (Same τ r)) := by
      have hS := n3
      have ne : ¬ (1 : Int32) = 0 := by decide
      simp only [s127_16, s127_17, s127_31, s127_32, s127_35, s127_38, s127_40, k_0 hS, k_1 hS, k_2 hS, l_2 hS, k_3 hS, l_3 hS, k_4 hS, l_4 hS, k_5 hS, l_5 hS, k_6 hS, l_6 hS, k_7 hS, k_8 hS, l_8 hS, k_9 hS, l_9 hS, k_10 hS, k_11 hS, l_11 hS, k_12 hS, k_13 hS, l_13 hS, k_14 hS, k_15 hS, l_15 hS, k_16 hS, k_17 hS, l_17 hS, k_66 hS, k_67 hS, l_67 hS, k_68 hS, l_68 hS, k_69 hS, l_69 hS, k_70 hS, l_70 hS, k_71 hS, l_71 hS, k_72 hS, k_73 hS, l_73 hS, k_74 hS, l_74 hS, k_75 hS, k_76 hS, l_76 hS, k_77 hS, k_78 hS, l_78 hS, k_79 hS, k_80 hS, l_80 hS, k_81 hS, k_82 hS, l_82 hS, k_131 hS, k_132 hS, l_132 hS, k_133 hS, l_133 hS, k_134 hS, l_134 hS, k_135 hS, k_136 hS, l_136 hS, k_137 hS, l_137 hS, k_138 hS, l_138 hS, k_139 hS, l_139 hS, k_140 hS, k_141 hS, l_141 hS, k_142 hS, l_142 hS, k_143 hS, k_144 hS, l_144 hS, k_145 hS, k_146 hS, l_146 hS, k_147 hS, l_147 hS, k_148 hS, l_148 hS, k_153 hS, l_153 hS, k_154 hS, l_154 hS, k_155 hS, l_155 hS, k_156 hS, k_157 hS, l_157 hS, k_158 hS, l_158 hS, k_159 hS, l_159 hS, r_0_0 hS, r_0_1 hS, r_0_3 hS, r_0_4 hS, r_0_5 hS, r_0_6 hS, r_0_7 hS, r_0_8 hS, r_0_9 hS, r_0_10 hS, r_1_2 hS, r_1_3 hS, r_1_4 hS, r_1_5 hS, r_1_7 hS, r_1_9 hS, r_1_10 hS, r_1_12 hS, r_1_13 hS, r_1_14 hS, r_1_15 hS, r_7_1 hS, r_10_2 hS, r_12_2 hS, r_14_2 hS, r_16_2 hS, r_66_2 hS, r_66_3 hS, r_66_4 hS, r_66_5 hS, r_66_7 hS, r_66_9 hS, r_66_10 hS, r_66_12 hS, r_66_13 hS, r_66_14 hS, r_66_15 hS, r_72_1 hS, r_75_2 hS, r_77_2 hS, r_79_2 hS, r_81_2 hS, r_131_0 hS, r_131_6 hS, r_131_8 hS, r_135_0 hS, r_135_1 hS, r_135_2 hS, r_135_3 hS, r_140_0 hS, r_140_1 hS, r_143_2 hS, r_145_0 hS, r_145_1 hS, r_145_2 hS, r_145_3 hS, r_145_4 hS, r_145_5 hS, r_156_5 hS, k_pv hS, k_pvr hS, k_db hS, k_dbr hS, k_sh hS, l_pvr hS, l_dbr hS, l_sh hS, r_5 hS, r_6 hS, r_pv hS, r_db hS, r_148 hS, ol_s, ol_n, ln_0, ln_1, ln_2, ln_3, ln_4, eq_self, rf_s, rf_n, i01_0, i01_n0, i01_b, b01_0, b01_1, and_self, and_true, true_and, and_false, false_and, if_true, if_false, not_true_eq_false, not_false_eq_true, e10, e00, lt_bg, Nat.reduceLT, Nat.reduceLeDiff, wt, ne, hv, lt]
    have R4 := R4 (d + 28) (fun r σ1 ρ1 g1 τ1 => AW (d + 30) 201 0 [.ref 160, am_jk] [] σ1 ρ1 g1 τ1 (Same τ r))
    rw [R1]
    refine Eq.mpr R4 ?_
    obtain ⟨⟨i1, i2⟩, ⟨j1, j2, j3, j4⟩, ⟨u1, u2, u3, u4, u5⟩, v1, v2, v3, v4, v5, v6⟩ := K4
    have h261' : 261 ≤ τ1.2.2.1 := by omega
    have E4 : RDe σ ρ g τ σ4 ρ4 g4 τ4 := by
      refine ⟨⟨by omega, by omega, by omega⟩, ⟨fun z z1 z2 z3 z4 => ?_, fun k hk => ?_, ?_⟩, fun z z1 z2 z3 => ?_, fun z z1 => ?_, fun z z1 => ?_, v6⟩
      · rw [j1 z z1 (by omega), x2 z z2 z3 (by omega)]
      · rw [j2 k hk, x2 1 (by decide) (by decide) (by omega)]
      · rw [j1 131 (by decide) (by omega)]
        exact E2.2.1.2.2
      · rw [u1 z z1 (by omega), m1 z z2 (by omega)]
      · rw [v1 z (by omega), n1 z (by omega)]
      · obtain ⟨y1, y2⟩ := v2 z (by omega)
        obtain ⟨y3, y4⟩ := n2 z (by omega)
        exact ⟨y1.trans y3, y2.trans y4⟩
    have kk4 := kk E4.2.2.2.2.1 (by omega)
    obtain ⟨σF, F, q | q | q⟩ := V σ4 ρ4 g4 τ4 v6 (E4.bg hN h.bg) (E4.tr h261 T2) (by rw [j1 161 (by decide) (by omega)]; exact w3)
    · exact absurd (hP.symm.trans q.1) (by decide)
    · exact absurd q.2.1 q8
    obtain ⟨_, _, q3, q4, q5, q6, R2⟩ := q
    show AW (d + 30) 201 0 [.ref 160, am_jk] [] σ4 ρ4 g4 τ4 (Same τ (some (.int (nI (c 3)))))
    rw [R2]
    have nF : ∀ z, 261 ≤ z → σF z = σ4 z := fun z hz => F.1 z (by omega) (by omega) (by omega)
    have st : Stats 1 161 (c 3 + 1) σF ρ4 τ4 := fun v hv => by
      by_cases z : v < c 3
      · exact rd_st E4 h261 F (fun k hk => by rw [u2 k (by omega)]; exact r9 k hk) hc.st v z
      have z : v = c 3 := by omega
      subst z
      refine ⟨τ1.2.2.1, τ1.2.2.1 + 1, P.2.2.length, u3, h261', by omega, v3, ⟨c 0, by omega, ?_, ?_⟩, u4, by omega, by omega, v4, v5, pb3, q4, fun i hi => ?_⟩
      · rw [nF _ h261']
        exact j4
      · show σF 180 (c 3) = nI (c 0)
        rw [q5, j1 161 (by decide) (by omega), x2 161 (by decide) (by decide) (by omega)]
        exact sb0
      · obtain ⟨L, y1, y5, y3, y4⟩ := o1 i hi
        rw [Nat.zero_add] at y1
        obtain ⟨f, yf⟩ := q6 i hi
        obtain ⟨pp, w1, w2, w3⟩ := pr i hi
        refine ⟨L, by rw [u5 i hi]; exact y1, by omega, by omega, ?_⟩
        have y6 : LnR σF ρ4 τ4 τ.2.2.1 L (P.2.2.getD i lr0) := LnC.cg y4 h261 y5 (M := τ1.2.2.1) y3 (Nat.le_refl _) (by omega) (fun w w1 w2 => by
          obtain ⟨t3, t4⟩ := v2 w (by omega)
          refine ⟨?_, u1 w (by omega) (by omega), t3, t4⟩
          rw [nF w w1, j1 w (by omega) (by omega), y2 w w1])
        exact ln_of y6 h261 yf w2 w3
    exact ⟨⟨_, rfl, rfl⟩, rd_inv h hN hc E4 F (by omega) (by rw [F.1 1 (by decide) (by decide) (by decide)]; exact j3) q3 st, E4.1.2.1, E4.1.2.2, kk4.1, kk4.2⟩
end ODJ
