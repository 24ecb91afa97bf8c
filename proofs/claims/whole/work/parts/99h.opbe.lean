/-! shares of a pot: what the class is told of each debt -/
section OBE
variable {d : Nat} {σ : am_I} {ρ : am_R} {g : am_J} {τ : am_T} {Q : am_Q}
/-- a debt's numbers, by the reference's rows -/
def dSo (σ : am_I) (i : Nat) : Nat := (σ 172 i).toNatClampNeg
def dSm (σ : am_I) (i : Nat) : Nat := (σ 173 i).toNatClampNeg
def dEv (σ : am_I) (i : Nat) : Nat := (σ 174 i).toNatClampNeg
def dCm (σ : am_I) (i : Nat) : Nat := (σ 175 i).toNatClampNeg
def dOw (σ : am_I) (i : Nat) : Nat := (σ 176 i).toNatClampNeg
def dVo (σ : am_I) (i : Nat) : Nat := (σ 177 i).toNatClampNeg
theorem dN {i : Nat} (hd : Debt1 1 161 i σ) : (dSo σ i ≤ 2 ∧ dSm σ i ≤ 999 ∧ dEv σ i ≤ 12 ∧ 0 < dEv σ i ∧ dCm σ i ≤ 599 ∧ dOw σ i ≤ 9999 ∧ dVo σ i ≤ 1) ∧
    (σ (34 + 2 * i) 2 = nI (dSo σ i) ∧ σ (34 + 2 * i) 3 = nI (dSm σ i) ∧ σ (34 + 2 * i) 4 = nI (dEv σ i) ∧ σ (34 + 2 * i) 5 = nI (dCm σ i) ∧ σ (34 + 2 * i) 6 = nI (dOw σ i) ∧ σ (34 + 2 * i) 8 = nI (dVo σ i)) ∧
    (σ 172 i = nI (dSo σ i) ∧ σ 173 i = nI (dSm σ i) ∧ σ 174 i = nI (dEv σ i) ∧ σ 175 i = nI (dCm σ i) ∧ σ 176 i = nI (dOw σ i) ∧ σ 177 i = nI (dVo σ i)) := by
  obtain ⟨ho, fo, so, sm, ev, cm, ow, vo, ⟨q1, q2, q3, q4, q5, q6, q7, q8, q9⟩, ⟨a0, a1, a2, a3, a4, a5, a6, a8⟩, ⟨e0, e1, e2, e3, e4, e5, e6, e8⟩⟩ := debt_n hd
  unfold dSo dSm dEv dCm dOw dVo
  rw [e2, e3, e4, e5, e6, e8, nI_clamp (by omega), nI_clamp (by omega), nI_clamp (by omega), nI_clamp (by omega), nI_clamp (by omega), nI_clamp (by omega)]
  exact ⟨⟨q3, q4, q5, q6, q7, q8, q9⟩, ⟨a2, a3, a4, a5, a6, a8⟩, ⟨rfl, rfl, rfl, rfl, rfl, rfl⟩⟩
/-- what a month's statute says of a debt -/
def SY (σ : am_I) (ρ : am_R) (τ : am_T) (m s i : Nat) (x : Nat × Nat × Bool) : Prop := x.1 ≤ 9 ∧ x.2.1 ≤ 100 ∧
    (∀ (σ1 : am_I) (d : Nat) (g : am_J) (Q : am_Q), EqC σ σ1 → AW (d + 3) 70 0 [.ref s, .ref (34 + 2 * i), .int (nI m), am_jk] [] σ1 ρ g τ Q = Q (some (.int (nI x.1))) σ1 ρ g τ) ∧
    (∀ (σ1 : am_I) (d : Nat) (g : am_J) (Q : am_Q), EqC σ σ1 → AW (d + 3) 72 0 [.ref s, .ref (34 + 2 * i), .int (nI m)] [] σ1 ρ g τ Q = Q (some (.int (b2i x.2.2))) σ1 ρ g τ) ∧
    (∀ (σ1 : am_I) (d : Nat) (g : am_J) (Q : am_Q), EqC σ σ1 → AW (d + 4) 74 0 [.ref s, .ref (34 + 2 * i), .int (nI m)] [] σ1 ρ g τ Q = Q (some (.int (nI (f_cs (dSm σ i) (dEv σ i) (dCm σ i) m x.2.1)))) σ1 ρ g τ) ∧
    (∀ (σ1 : am_I) (p : Nat → Int32), EqM σ σ1 → ∃ p', ∀ (d : Nat) (g : am_J) (Q : am_Q), AW (d + 3) 207 0 [.ref 160, .int 0, .int (nI i), .int (nI m), .int 9, am_jk] [] (am_ur σ1 214 p) ρ g τ Q = Q (some (.int (nI x.1))) (am_ur σ1 214 p') ρ g τ) ∧
    (∀ (σ1 : am_I) (p : Nat → Int32), EqM σ σ1 → ∃ p', ∀ (d : Nat) (g : am_J) (Q : am_Q), AW (d + 3) 209 0 [.ref 160, .int (nI i), .int (nI m)] [] (am_ur σ1 214 p) ρ g τ Q = Q (some (.int (b2i (decide (dVo σ i = 1) || x.2.2)))) (am_ur σ1 214 p') ρ g τ) ∧
    (∀ (σ1 : am_I) (p : Nat → Int32), EqM σ σ1 → ∃ p', ∀ (d : Nat) (g : am_J) (Q : am_Q), AW (d + 4) 210 0 [.ref 160, .int (nI i), .int (nI m), am_jk] [] (am_ur σ1 214 p) ρ g τ Q = Q (some (.int (if (decide (dVo σ i = 1) || x.2.2) = true then 0 else nI (f_cs (dSm σ i) (dEv σ i) (dCm σ i) m x.2.1)))) (am_ur σ1 214 p') ρ g τ)
/-- a month's statute, and what it says of all -/
theorem sy_ex (hS : Sh ρ τ) {c : Cn} (hc : Rld 1 161 c σ ρ τ) {m : Nat} (hm : m ≤ 599) : ∃ (s v : Nat) (f : Nat → Nat × Nat × Bool), τ.1 s = 9 ∧ v ≤ 100 ∧
    (∀ (σ1 : am_I) (d : Nat) (g : am_J) (Q : am_Q), EqC σ σ1 → AW d 26 0 [.ref 1, .int (nI m), am_jk] [] σ1 ρ g τ Q = Q (some (.ref s)) σ1 ρ g τ) ∧
    (∀ (σ1 : am_I) (d : Nat) (g : am_J) (Q : am_Q), EqC σ σ1 → AW d 75 0 [.ref s, .int 4, .int (-9), am_jk] [] σ1 ρ g τ Q = Q (some (.int (nI v))) σ1 ρ g τ) ∧
    (∀ (σ1 : am_I) (d : Nat) (g : am_J) (Q : am_Q), EqM σ σ1 → AW (d + 1) 208 0 [.ref 160, .int 4, .int (-1), .int (nI m), am_jk, am_jk, am_jk] [] σ1 ρ g τ Q = Q (some (.int (nI v))) σ1 ρ g τ) ∧
    ∀ i, i < c 2 → SY σ ρ τ m s i (f i) := by
  obtain ⟨n, s, la, N, S, C, M⟩ := stat_of hS hc hm
  obtain ⟨v, v1, v2, v3⟩ := spare_of hS S M
  have ex : ∃ f : Nat → Nat × Nat × Bool, ∀ i, i < c 2 → SY σ ρ τ m s i (f i) := by
    refine (Classical.skolem (b := fun _ : Nat => Nat × Nat × Bool) (p := fun i x => i < c 2 → SY σ ρ τ m s i x)).mp (fun i => ?_)
    by_cases hi : i < c 2
    · obtain ⟨⟨q1, q2, q3, q4, q5, q6, q7⟩, ⟨a1, a2, a3, a4, a5, a6⟩, ⟨b1, b2, b3, b4, b5, b6⟩⟩ := dN (hc.db i hi)
      obtain ⟨rk, ct, br, k1, k2, k3, k4, k5, k6, k7, k8, k9, k10, k11⟩ := says hS hc hm S M hi q2 q4 q3 q5 q7 a2 a3 a4 b2 b3 b4 b6
      exact ⟨(rk, ct, br), fun _ => ⟨k1, k2, k3, k5, k6, k7, k9, k11⟩⟩
    · exact ⟨(0, 0, false), fun h => absurd h hi⟩
  obtain ⟨f, hf⟩ := ex
  exact ⟨s, v, f, S.1, v1, C, v2, v3, hf⟩
/-- who shares in a pot of a sort; what it wants; its rank -/
def shB (σ : am_I) (D so : Nat) (f : Nat → Nat × Nat × Bool) (i : Nat) : Bool := decide (i < D) && decide (dSo σ i = so) && !(decide (dVo σ i = 1) || (f i).2.2)
def shW (σ : am_I) (D so m : Nat) (f : Nat → Nat × Nat × Bool) (i : Nat) : Nat := if shB σ D so f i = true then f_cs (dSm σ i) (dEv σ i) (dCm σ i) m (f i).2.1 + dOw σ i else 0
def shK (σ : am_I) (D so : Nat) (f : Nat → Nat × Nat × Bool) (i : Nat) : Nat := if shB σ D so f i = true then (f i).1 else 10
def f_tw (σ : am_I) (v : Nat) (a b c w : Nat → Int32) : am_I := am_ur (am_ur (am_ur (am_ur (am_u σ 135 4 (nI v)) 136 a) 137 b) 138 c) 139 w
theorem tw_ne {v : Nat} {a b c w : Nat → Int32} {y : Nat} (h1 : y ≠ 135) (h2 : y ≠ 136) (h3 : y ≠ 137) (h4 : y ≠ 138) (h5 : y ≠ 139) : f_tw σ v a b c w y = σ y := by
  unfold f_tw
  rw [ur_ne _ _ _ h5, ur_ne _ _ _ h4, ur_ne _ _ _ h3, ur_ne _ _ _ h2, u_ne _ _ _ _ h1]
theorem tw_a (v : Nat) (a b c w : Nat → Int32) (i : Nat) (x : Int32) : am_u (f_tw σ v a b c w) 136 i x = f_tw σ v (fun j => if j = i then x else a j) b c w := by
  funext y j
  unfold f_tw am_u am_ur
  by_cases e : y = 136
  · subst e; by_cases q : j = i <;> simp [q]
  · by_cases e9 : y = 139
    · simp [e9]
    · by_cases e8 : y = 138
      · simp [e8]
      · by_cases e7 : y = 137
        · simp [e7]
        · simp [e, e7, e8, e9]
theorem tw_b (v : Nat) (a b c w : Nat → Int32) (i : Nat) (x : Int32) : am_u (f_tw σ v a b c w) 137 i x = f_tw σ v a (fun j => if j = i then x else b j) c w := by
  funext y j
  unfold f_tw am_u am_ur
  by_cases e : y = 137
  · subst e; by_cases q : j = i <;> simp [q]
  · by_cases e9 : y = 139
    · simp [e9]
    · by_cases e8 : y = 138
      · simp [e8]
      · simp [e, e8, e9]
theorem tw_c (v : Nat) (a b c w : Nat → Int32) (i : Nat) (x : Int32) : am_u (f_tw σ v a b c w) 138 i x = f_tw σ v a b (fun j => if j = i then x else c j) w := by
  funext y j
  unfold f_tw am_u am_ur
  by_cases e : y = 138
  · subst e; by_cases q : j = i <;> simp [q]
  · by_cases e9 : y = 139
    · simp [e9]
    · simp [e, e9]
theorem tw_w (v : Nat) (a b c w : Nat → Int32) (i : Nat) (x : Int32) : am_u (f_tw σ v a b c w) 139 i x = f_tw σ v a b c (fun j => if j = i then x else w j) := by
  funext y j
  unfold f_tw am_u am_ur
  by_cases e : y = 139
  · subst e; by_cases q : j = i <;> simp [q]
  · simp [e]
theorem tw_136 (v : Nat) (a b c w : Nat → Int32) : f_tw σ v a b c w 136 = a := by
  unfold f_tw
  rw [ur_ne _ _ _ (by decide), ur_ne _ _ _ (by decide), ur_ne _ _ _ (by decide), ur_at]
/-- the rows below a place -/
def TW (σ : am_I) (D so m : Nat) (f : Nat → Nat × Nat × Bool) (i : Nat) (a b c w : Nat → Int32) : Prop := ∀ j, j < i → a j = b2i (shB σ D so f j) ∧ b j = nI (if shB σ D so f j = true then (f j).1 else 0) ∧ c j = nI (shW σ D so m f j) ∧ w j = 0
theorem TW.s {D so m : Nat} {f : Nat → Nat × Nat × Bool} {i : Nat} {a b c w : Nat → Int32} (h : TW σ D so m f i a b c w) {x1 x2 x3 x4 : Int32} (e1 : x1 = b2i (shB σ D so f i)) (e2 : x2 = nI (if shB σ D so f i = true then (f i).1 else 0)) (e3 : x3 = nI (shW σ D so m f i)) (e4 : x4 = 0) : TW σ D so m f (i + 1) (fun j => if j = i then x1 else a j) (fun j => if j = i then x2 else b j) (fun j => if j = i then x3 else c j) (fun j => if j = i then x4 else w j) := by
  intro j hj
  show (if j = i then x1 else a j) = _ ∧ (if j = i then x2 else b j) = _ ∧ (if j = i then x3 else c j) = _ ∧ (if j = i then x4 else w j) = 0
  by_cases e : j = i
  · subst e
    rw [if_pos rfl, if_pos rfl, if_pos rfl, if_pos rfl]
    exact ⟨e1, e2, e3, e4⟩
  · rw [if_neg e, if_neg e, if_neg e, if_neg e]
    exact h j (by omega)
theorem c64L (hS : Sh ρ τ) {c : Cn} (hc : Rld 1 161 c σ ρ τ) {m so s v : Nat} (hso : so ≤ 2) {f : Nat → Nat × Nat × Bool} (hs : τ.1 s = 9) (hf : ∀ i, i < c 2 → SY σ ρ τ m s i (f i)) {σb : am_I} (hE : EqC σ σb) : ∀ (n i : Nat) (ra rb rc rw : Nat → Int32) (x6 : Value), i + n = 16 → TW σ (c 2) so m f i ra rb rc rw → ∃ ra' rb' rc' rw', TW σ (c 2) so m f 16 ra' rb' rc' rw' ∧ ∀ (d : Nat) (g : am_J) (Q : am_Q),
    AW (d + 5) 64 22 [.ref 135, .ref 1, .int (nI so), .int (nI m), .ref s, .int (nI i), x6] [] (f_tw σb v ra rb rc rw) ρ g τ Q = Q none (f_tw σb v ra' rb' rc' rw') ρ g τ
  | 0, i, ra, rb, rc, rw, x6, h, hT => by
    have e : i = 16 := by omega
    subst e
    refine ⟨ra, rb, rc, rw, hT, fun d g Q => ?_⟩
    have hle : (16 : Int32) ≤ nI 16 := by decide
    simp only [s64_22, s64_24, s64_26, s64_165, ol_s, ol_n, ln_0, ln_1, ln_2, ln_3, ln_4, eq_self, rf_s, rf_n, i01_0, i01_n0, i01_b, b01_0, b01_1, and_self, and_true, true_and, and_false, false_and, if_true, if_false, not_true_eq_false, not_false_eq_true, e10, e00, lt_bg, Nat.reduceLT, Nat.reduceLeDiff, hle]
  | n + 1, i, ra, rb, rc, rw, x6, h, hT => by
    have b := hc.bn
    unfold Bn at b
    have hlt : ¬ 16 ≤ nI i := nI_ge (b := 16) (by omega) (by omega)
    have hi : am_inb (nI i) 16 = true := inb_n (by omega) (by decide)
    have hci : (nI i).toNatClampNeg = i := nI_clamp (by omega)
    have hi16 : i < 16 := by omega
    have hP : σ 1 8 = nI (c 2) := hc.sc.2.2.1.1
    have t0 : ∀ a b c w y, (y < 135 ∨ 261 ≤ y) → f_tw σb v a b c w y = σ y := fun a b c w y hy => by rw [tw_ne (by omega) (by omega) (by omega) (by omega) (by omega)]; exact hE y hy
    have tE : ∀ a b c w, EqC σ (f_tw σb v a b c w) := fun a b c w y hy => t0 a b c w y hy
    have t1 : ∀ a b c' w, f_tw σb v a b c' w 1 8 = nI (c 2) := fun a b c' w => by rw [t0 _ _ _ _ _ (Or.inl (by decide))]; exact hP
    have b1 : am_b01 1 = true := by decide
    have b0 : am_b01 0 = true := by decide
    have k17 : τ.1 136 = 14 ∨ τ.1 136 = 17 := Or.inr (k_136 hS)
    have y1 : b2i true = 1 := by decide
    have y0 : b2i false = 0 := by decide
    have at1 : ∀ (x : Int32) (r : Nat → Int32), (fun j => if j = i then x else r j) i = x := fun x r => if_pos rfl
    by_cases hD : i < c 2
    · have ic := in_cnt hD (by omega)
      obtain ⟨⟨q1, q2, q3, q4, q5, q6, q7⟩, ⟨a1, a2, a3, a4, a5, a6⟩, _⟩ := dN (hc.db i hD)
      obtain ⟨s1, s2, s3, s4, s5, _⟩ := hf i hD
      have u1 : ∀ a b c w, f_tw σb v a b c w (34 + 2 * i) 2 = nI (dSo σ i) := fun a b c w => by rw [t0 _ _ _ _ _ (Or.inl (by omega))]; exact a1
      have u8 : ∀ a b c w, f_tw σb v a b c w (34 + 2 * i) 8 = nI (dVo σ i) := fun a b c w => by rw [t0 _ _ _ _ _ (Or.inl (by omega))]; exact a6
      have u6 : ∀ a b c w, f_tw σb v a b c w (34 + 2 * i) 6 = nI (dOw σ i) := fun a b c w => by rw [t0 _ _ _ _ _ (Or.inl (by omega))]; exact a5
      have S70 := fun a b c w (d : Nat) (g : am_J) (Q : am_Q) => s3 (f_tw σb v a b c w) d g Q (tE a b c w)
      have S72 := fun a b c w (d : Nat) (g : am_J) (Q : am_Q) => s4 (f_tw σb v a b c w) d g Q (tE a b c w)
      have S74 := fun a b c w (d : Nat) (g : am_J) (Q : am_Q) => s5 (f_tw σb v a b c w) d g Q (tE a b c w)
      by_cases sh : shB σ (c 2) so f i = true
      · have sh2 := sh
        unfold shB at sh2
        simp only [Bool.and_eq_true, decide_eq_true_eq, Bool.not_eq_true', Bool.or_eq_false_iff, decide_eq_false_iff_not] at sh2
        obtain ⟨⟨_, z1⟩, z2, z3⟩ := sh2
        have v0 : dVo σ i = 0 := by omega
        rw [v0, nI_0] at u8
        rw [z3, y0] at S72
        have z1' : nI (dSo σ i) = nI so := by rw [z1]
        obtain ⟨ra', rb', rc', rw', P1, P2⟩ := c64L hS hc hso hs hf hE (v := v) n (i + 1) _ _ _ _ (.ref (34 + 2 * i)) (by omega) (hT.s (x1 := 1) (x2 := nI (f i).1) (x3 := nI (f_cs (dSm σ i) (dEv σ i) (dCm σ i) m (f i).2.1 + dOw σ i)) (x4 := 0) (by rw [sh, y1]) (by rw [if_pos sh]) (by unfold shW; rw [if_pos sh]) rfl)
        refine ⟨ra', rb', rc', rw', P1, fun d g Q => ?_⟩
        have P2 := P2 d g Q
        rw [s64_22]
        simp only [s64_24, s64_26, s64_29, s64_30, s64_33, s64_35, s64_36, s64_38, s64_39, s64_42, s64_44, s64_45, s64_47, s64_50, s64_53, s64_55, s64_58, s64_59, s64_62, s64_64, s64_67, s64_70, s64_72, s64_74, s64_75, s64_78, s64_81, s64_82, s64_85, s64_86, s64_87, s64_88, s64_91, s64_93, s64_94, s64_97, s64_99, s64_100, s64_103, s64_105, s64_107, s64_108, s64_111, s64_114, s64_115, s64_116, s64_117, s64_120, s64_122, s64_123, s64_126, s64_128, s64_129, s64_132, s64_134, s64_136, s64_137, s64_140, s64_142, s64_145, s64_146, s64_149, s64_150, s64_151, s64_152, s64_155, s64_157, s64_158, s64_159r, s64_162, k_0 hS, k_1 hS, k_2 hS, l_2 hS, k_3 hS, l_3 hS, k_4 hS, l_4 hS, k_5 hS, l_5 hS, k_6 hS, l_6 hS, k_7 hS, k_8 hS, l_8 hS, k_9 hS, l_9 hS, k_10 hS, k_11 hS, l_11 hS, k_12 hS, k_13 hS, l_13 hS, k_14 hS, k_15 hS, l_15 hS, k_16 hS, k_17 hS, l_17 hS, k_66 hS, k_67 hS, l_67 hS, k_68 hS, l_68 hS, k_69 hS, l_69 hS, k_70 hS, l_70 hS, k_71 hS, l_71 hS, k_72 hS, k_73 hS, l_73 hS, k_74 hS, l_74 hS, k_75 hS, k_76 hS, l_76 hS, k_77 hS, k_78 hS, l_78 hS, k_79 hS, k_80 hS, l_80 hS, k_81 hS, k_82 hS, l_82 hS, k_131 hS, k_132 hS, l_132 hS, k_133 hS, l_133 hS, k_134 hS, l_134 hS, k_135 hS, k_136 hS, l_136 hS, k_137 hS, l_137 hS, k_138 hS, l_138 hS, k_139 hS, l_139 hS, k_140 hS, k_141 hS, l_141 hS, k_142 hS, l_142 hS, k_143 hS, k_144 hS, l_144 hS, k_145 hS, k_146 hS, l_146 hS, k_147 hS, l_147 hS, k_148 hS, l_148 hS, k_153 hS, l_153 hS, k_154 hS, l_154 hS, k_155 hS, l_155 hS, k_156 hS, k_157 hS, l_157 hS, k_158 hS, l_158 hS, k_159 hS, l_159 hS, r_0_0 hS, r_0_1 hS, r_0_3 hS, r_0_4 hS, r_0_5 hS, r_0_6 hS, r_0_7 hS, r_0_8 hS, r_0_9 hS, r_0_10 hS, r_1_2 hS, r_1_3 hS, r_1_4 hS, r_1_5 hS, r_1_7 hS, r_1_9 hS, r_1_10 hS, r_1_12 hS, r_1_13 hS, r_1_14 hS, r_1_15 hS, r_7_1 hS, r_10_2 hS, r_12_2 hS, r_14_2 hS, r_16_2 hS, r_66_2 hS, r_66_3 hS, r_66_4 hS, r_66_5 hS, r_66_7 hS, r_66_9 hS, r_66_10 hS, r_66_12 hS, r_66_13 hS, r_66_14 hS, r_66_15 hS, r_72_1 hS, r_75_2 hS, r_77_2 hS, r_79_2 hS, r_81_2 hS, r_131_0 hS, r_131_6 hS, r_131_8 hS, r_135_0 hS, r_135_1 hS, r_135_2 hS, r_135_3 hS, r_140_0 hS, r_140_1 hS, r_143_2 hS, r_145_0 hS, r_145_1 hS, r_145_2 hS, r_145_3 hS, r_145_4 hS, r_145_5 hS, r_156_5 hS, k_pv hS, k_pvr hS, k_db hS, k_dbr hS, k_sh hS, l_pvr hS, l_dbr hS, l_sh hS, r_5 hS, r_6 hS, r_pv hS, r_db hS, r_148 hS, ol_s, ol_n, ln_0, ln_1, ln_2, ln_3, ln_4, eq_self, rf_s, rf_n, i01_0, i01_n0, i01_b, b01_0, b01_1, and_self, and_true, true_and, and_false, false_and, if_true, if_false, not_true_eq_false, not_false_eq_true, e10, e00, lt_bg, Nat.reduceLT, Nat.reduceLeDiff, or_true, hlt, hi, hci, hi16, hs, c24 hS, t1, ic, u1, u8, u6, z1', S70, S72, S74, b1, tw_a, tw_b, tw_c, tw_w, tw_136, nI_add, nI_1]
        exact P2
      · have sh2 : shB σ (c 2) so f i = false := by
          cases hh : shB σ (c 2) so f i
          · rfl
          · exact absurd hh sh
        have w0 : shW σ (c 2) so m f i = 0 := if_neg sh
        obtain ⟨ra', rb', rc', rw', P1, P2⟩ := c64L hS hc hso hs hf hE (v := v) n (i + 1) _ _ _ _ (.ref (34 + 2 * i)) (by omega) (hT.s (x1 := 0) (x2 := 0) (x3 := 0) (x4 := 0) (by rw [sh2, y0]) (by rw [if_neg sh]; rfl) (by rw [w0]; rfl) rfl)
        refine ⟨ra', rb', rc', rw', P1, fun d g Q => ?_⟩
        have P2 := P2 d g Q
        rw [s64_22]
        by_cases z1 : dSo σ i = so
        · have z1' : nI (dSo σ i) = nI so := by rw [z1]
          have hvo : dVo σ i = 0 ∨ dVo σ i = 1 := by omega
          rcases hvo with v0 | v0
          · rw [v0, nI_0] at u8
            have z3 : (f i).2.2 = true := by
              unfold shB at sh2
              simp only [hD, z1, v0, decide_true, Bool.true_and, show ¬ (0 : Nat) = 1 by decide, decide_false, Bool.false_or, Bool.not_eq_false'] at sh2
              exact sh2
            rw [z3, y1] at S72
            simp only [s64_24, s64_26, s64_29, s64_30, s64_33, s64_35, s64_36, s64_38, s64_39, s64_42, s64_44, s64_45, s64_47, s64_50, s64_53, s64_55, s64_58, s64_59, s64_62, s64_64, s64_67, s64_70, s64_72, s64_74, s64_75, s64_78, s64_81, s64_82, s64_85, s64_86, s64_87, s64_88, s64_91, s64_93, s64_94, s64_97, s64_99, s64_100, s64_103, s64_105, s64_107, s64_108, s64_111, s64_114, s64_115, s64_116, s64_117, s64_120, s64_122, s64_123, s64_126, s64_128, s64_129, s64_132, s64_134, s64_136, s64_137, s64_140, s64_142, s64_145, s64_146, s64_149, s64_150, s64_151, s64_152, s64_155, s64_157, s64_158, s64_159r, s64_162, k_0 hS, k_1 hS, k_2 hS, l_2 hS, k_3 hS, l_3 hS, k_4 hS, l_4 hS, k_5 hS, l_5 hS, k_6 hS, l_6 hS, k_7 hS, k_8 hS, l_8 hS, k_9 hS, l_9 hS, k_10 hS, k_11 hS, l_11 hS, k_12 hS, k_13 hS, l_13 hS, k_14 hS, k_15 hS, l_15 hS, k_16 hS, k_17 hS, l_17 hS, k_66 hS, k_67 hS, l_67 hS, k_68 hS, l_68 hS, k_69 hS, l_69 hS, k_70 hS, l_70 hS, k_71 hS, l_71 hS, k_72 hS, k_73 hS, l_73 hS, k_74 hS, l_74 hS, k_75 hS, k_76 hS, l_76 hS, k_77 hS, k_78 hS, l_78 hS, k_79 hS, k_80 hS, l_80 hS, k_81 hS, k_82 hS, l_82 hS, k_131 hS, k_132 hS, l_132 hS, k_133 hS, l_133 hS, k_134 hS, l_134 hS, k_135 hS, k_136 hS, l_136 hS, k_137 hS, l_137 hS, k_138 hS, l_138 hS, k_139 hS, l_139 hS, k_140 hS, k_141 hS, l_141 hS, k_142 hS, l_142 hS, k_143 hS, k_144 hS, l_144 hS, k_145 hS, k_146 hS, l_146 hS, k_147 hS, l_147 hS, k_148 hS, l_148 hS, k_153 hS, l_153 hS, k_154 hS, l_154 hS, k_155 hS, l_155 hS, k_156 hS, k_157 hS, l_157 hS, k_158 hS, l_158 hS, k_159 hS, l_159 hS, r_0_0 hS, r_0_1 hS, r_0_3 hS, r_0_4 hS, r_0_5 hS, r_0_6 hS, r_0_7 hS, r_0_8 hS, r_0_9 hS, r_0_10 hS, r_1_2 hS, r_1_3 hS, r_1_4 hS, r_1_5 hS, r_1_7 hS, r_1_9 hS, r_1_10 hS, r_1_12 hS, r_1_13 hS, r_1_14 hS, r_1_15 hS, r_7_1 hS, r_10_2 hS, r_12_2 hS, r_14_2 hS, r_16_2 hS, r_66_2 hS, r_66_3 hS, r_66_4 hS, r_66_5 hS, r_66_7 hS, r_66_9 hS, r_66_10 hS, r_66_12 hS, r_66_13 hS, r_66_14 hS, r_66_15 hS, r_72_1 hS, r_75_2 hS, r_77_2 hS, r_79_2 hS, r_81_2 hS, r_131_0 hS, r_131_6 hS, r_131_8 hS, r_135_0 hS, r_135_1 hS, r_135_2 hS, r_135_3 hS, r_140_0 hS, r_140_1 hS, r_143_2 hS, r_145_0 hS, r_145_1 hS, r_145_2 hS, r_145_3 hS, r_145_4 hS, r_145_5 hS, r_156_5 hS, k_pv hS, k_pvr hS, k_db hS, k_dbr hS, k_sh hS, l_pvr hS, l_dbr hS, l_sh hS, r_5 hS, r_6 hS, r_pv hS, r_db hS, r_148 hS, ol_s, ol_n, ln_0, ln_1, ln_2, ln_3, ln_4, eq_self, rf_s, rf_n, i01_0, i01_n0, i01_b, b01_0, b01_1, and_self, and_true, true_and, and_false, false_and, if_true, if_false, not_true_eq_false, not_false_eq_true, e10, e00, lt_bg, Nat.reduceLT, Nat.reduceLeDiff, or_true, hlt, hi, hci, hi16, hs, c24 hS, t1, ic, u1, u8, z1', S72, b0, tw_a, tw_b, tw_c, tw_w, tw_136, nI_1]
            exact P2
          · rw [v0, n_one] at u8
            simp only [s64_24, s64_26, s64_29, s64_30, s64_33, s64_35, s64_36, s64_38, s64_39, s64_42, s64_44, s64_45, s64_47, s64_50, s64_53, s64_55, s64_58, s64_59, s64_62, s64_64, s64_67, s64_70, s64_72, s64_74, s64_75, s64_78, s64_81, s64_82, s64_85, s64_86, s64_87, s64_88, s64_91, s64_93, s64_94, s64_97, s64_99, s64_100, s64_103, s64_105, s64_107, s64_108, s64_111, s64_114, s64_115, s64_116, s64_117, s64_120, s64_122, s64_123, s64_126, s64_128, s64_129, s64_132, s64_134, s64_136, s64_137, s64_140, s64_142, s64_145, s64_146, s64_149, s64_150, s64_151, s64_152, s64_155, s64_157, s64_158, s64_159r, s64_162, k_0 hS, k_1 hS, k_2 hS, l_2 hS, k_3 hS, l_3 hS, k_4 hS, l_4 hS, k_5 hS, l_5 hS, k_6 hS, l_6 hS, k_7 hS, k_8 hS, l_8 hS, k_9 hS, l_9 hS, k_10 hS, k_11 hS, l_11 hS, k_12 hS, k_13 hS, l_13 hS, k_14 hS, k_15 hS, l_15 hS, k_16 hS, k_17 hS, l_17 hS, k_66 hS, k_67 hS, l_67 hS, k_68 hS, l_68 hS, k_69 hS, l_69 hS, k_70 hS, l_70 hS, k_71 hS, l_71 hS, k_72 hS, k_73 hS, l_73 hS, k_74 hS, l_74 hS, k_75 hS, k_76 hS, l_76 hS, k_77 hS, k_78 hS, l_78 hS, k_79 hS, k_80 hS, l_80 hS, k_81 hS, k_82 hS, l_82 hS, k_131 hS, k_132 hS, l_132 hS, k_133 hS, l_133 hS, k_134 hS, l_134 hS, k_135 hS, k_136 hS, l_136 hS, k_137 hS, l_137 hS, k_138 hS, l_138 hS, k_139 hS, l_139 hS, k_140 hS, k_141 hS, l_141 hS, k_142 hS, l_142 hS, k_143 hS, k_144 hS, l_144 hS, k_145 hS, k_146 hS, l_146 hS, k_147 hS, l_147 hS, k_148 hS, l_148 hS, k_153 hS, l_153 hS, k_154 hS, l_154 hS, k_155 hS, l_155 hS, k_156 hS, k_157 hS, l_157 hS, k_158 hS, l_158 hS, k_159 hS, l_159 hS, r_0_0 hS, r_0_1 hS, r_0_3 hS, r_0_4 hS, r_0_5 hS, r_0_6 hS, r_0_7 hS, r_0_8 hS, r_0_9 hS, r_0_10 hS, r_1_2 hS, r_1_3 hS, r_1_4 hS, r_1_5 hS, r_1_7 hS, r_1_9 hS, r_1_10 hS, r_1_12 hS, r_1_13 hS, r_1_14 hS, r_1_15 hS, r_7_1 hS, r_10_2 hS, r_12_2 hS, r_14_2 hS, r_16_2 hS, r_66_2 hS, r_66_3 hS, r_66_4 hS, r_66_5 hS, r_66_7 hS, r_66_9 hS, r_66_10 hS, r_66_12 hS, r_66_13 hS, r_66_14 hS, r_66_15 hS, r_72_1 hS, r_75_2 hS, r_77_2 hS, r_79_2 hS, r_81_2 hS, r_131_0 hS, r_131_6 hS, r_131_8 hS, r_135_0 hS, r_135_1 hS, r_135_2 hS, r_135_3 hS, r_140_0 hS, r_140_1 hS, r_143_2 hS, r_145_0 hS, r_145_1 hS, r_145_2 hS, r_145_3 hS, r_145_4 hS, r_145_5 hS, r_156_5 hS, k_pv hS, k_pvr hS, k_db hS, k_dbr hS, k_sh hS, l_pvr hS, l_dbr hS, l_sh hS, r_5 hS, r_6 hS, r_pv hS, r_db hS, r_148 hS, ol_s, ol_n, ln_0, ln_1, ln_2, ln_3, ln_4, eq_self, rf_s, rf_n, i01_0, i01_n0, i01_b, b01_0, b01_1, and_self, and_true, true_and, and_false, false_and, if_true, if_false, not_true_eq_false, not_false_eq_true, e10, e00, lt_bg, Nat.reduceLT, Nat.reduceLeDiff, or_true, hlt, hi, hci, hi16, hs, c24 hS, t1, ic, u1, u8, z1', b0, tw_a, tw_b, tw_c, tw_w, tw_136, nI_1]
            exact P2
        · have z1' : ¬ nI (dSo σ i) = nI so := fun e => z1 ((nI_eq (by omega) (by omega)).mp e)
          simp only [s64_24, s64_26, s64_29, s64_30, s64_33, s64_35, s64_36, s64_38, s64_39, s64_42, s64_44, s64_45, s64_47, s64_50, s64_53, s64_55, s64_58, s64_59, s64_62, s64_64, s64_67, s64_70, s64_72, s64_74, s64_75, s64_78, s64_81, s64_82, s64_85, s64_86, s64_87, s64_88, s64_91, s64_93, s64_94, s64_97, s64_99, s64_100, s64_103, s64_105, s64_107, s64_108, s64_111, s64_114, s64_115, s64_116, s64_117, s64_120, s64_122, s64_123, s64_126, s64_128, s64_129, s64_132, s64_134, s64_136, s64_137, s64_140, s64_142, s64_145, s64_146, s64_149, s64_150, s64_151, s64_152, s64_155, s64_157, s64_158, s64_159r, s64_162, k_0 hS, k_1 hS, k_2 hS, l_2 hS, k_3 hS, l_3 hS, k_4 hS, l_4 hS, k_5 hS, l_5 hS, k_6 hS, l_6 hS, k_7 hS, k_8 hS, l_8 hS, k_9 hS, l_9 hS, k_10 hS, k_11 hS, l_11 hS, k_12 hS, k_13 hS, l_13 hS, k_14 hS, k_15 hS, l_15 hS, k_16 hS, k_17 hS, l_17 hS, k_66 hS, k_67 hS, l_67 hS, k_68 hS, l_68 hS, k_69 hS, l_69 hS, k_70 hS, l_70 hS, k_71 hS, l_71 hS, k_72 hS, k_73 hS, l_73 hS, k_74 hS, l_74 hS, k_75 hS, k_76 hS, l_76 hS, k_77 hS, k_78 hS, l_78 hS, k_79 hS, k_80 hS, l_80 hS, k_81 hS, k_82 hS, l_82 hS, k_131 hS, k_132 hS, l_132 hS, k_133 hS, l_133 hS, k_134 hS, l_134 hS, k_135 hS, k_136 hS, l_136 hS, k_137 hS, l_137 hS, k_138 hS, l_138 hS, k_139 hS, l_139 hS, k_140 hS, k_141 hS, l_141 hS, k_142 hS, l_142 hS, k_143 hS, k_144 hS, l_144 hS, k_145 hS, k_146 hS, l_146 hS, k_147 hS, l_147 hS, k_148 hS, l_148 hS, k_153 hS, l_153 hS, k_154 hS, l_154 hS, k_155 hS, l_155 hS, k_156 hS, k_157 hS, l_157 hS, k_158 hS, l_158 hS, k_159 hS, l_159 hS, r_0_0 hS, r_0_1 hS, r_0_3 hS, r_0_4 hS, r_0_5 hS, r_0_6 hS, r_0_7 hS, r_0_8 hS, r_0_9 hS, r_0_10 hS, r_1_2 hS, r_1_3 hS, r_1_4 hS, r_1_5 hS, r_1_7 hS, r_1_9 hS, r_1_10 hS, r_1_12 hS, r_1_13 hS, r_1_14 hS, r_1_15 hS, r_7_1 hS, r_10_2 hS, r_12_2 hS, r_14_2 hS, r_16_2 hS, r_66_2 hS, r_66_3 hS, r_66_4 hS, r_66_5 hS, r_66_7 hS, r_66_9 hS, r_66_10 hS, r_66_12 hS, r_66_13 hS, r_66_14 hS, r_66_15 hS, r_72_1 hS, r_75_2 hS, r_77_2 hS, r_79_2 hS, r_81_2 hS, r_131_0 hS, r_131_6 hS, r_131_8 hS, r_135_0 hS, r_135_1 hS, r_135_2 hS, r_135_3 hS, r_140_0 hS, r_140_1 hS, r_143_2 hS, r_145_0 hS, r_145_1 hS, r_145_2 hS, r_145_3 hS, r_145_4 hS, r_145_5 hS, r_156_5 hS, k_pv hS, k_pvr hS, k_db hS, k_dbr hS, k_sh hS, l_pvr hS, l_dbr hS, l_sh hS, r_5 hS, r_6 hS, r_pv hS, r_db hS, r_148 hS, ol_s, ol_n, ln_0, ln_1, ln_2, ln_3, ln_4, eq_self, rf_s, rf_n, i01_0, i01_n0, i01_b, b01_0, b01_1, and_self, and_true, true_and, and_false, false_and, if_true, if_false, not_true_eq_false, not_false_eq_true, e10, e00, lt_bg, Nat.reduceLT, Nat.reduceLeDiff, or_true, hlt, hi, hci, hi16, hs, c24 hS, t1, ic, u1, z1', b0, tw_a, tw_b, tw_c, tw_w, tw_136, nI_1]
          exact P2
    · have oc := out_cnt hD (by omega) (by omega)
      have sh2 : shB σ (c 2) so f i = false := by
        unfold shB
        rw [decide_eq_false hD]
        rfl
      have sh : ¬ shB σ (c 2) so f i = true := by rw [sh2]; decide
      have w0 : shW σ (c 2) so m f i = 0 := if_neg sh
      obtain ⟨ra', rb', rc', rw', P1, P2⟩ := c64L hS hc hso hs hf hE (v := v) n (i + 1) _ _ _ _ (.ref (34 + 2 * i)) (by omega) (hT.s (x1 := 0) (x2 := 0) (x3 := 0) (x4 := 0) (by rw [sh2, y0]) (by rw [if_neg sh]; rfl) (by rw [w0]; rfl) rfl)
      refine ⟨ra', rb', rc', rw', P1, fun d g Q => ?_⟩
      have P2 := P2 d g Q
      rw [s64_22]
      simp only [s64_24, s64_26, s64_29, s64_30, s64_33, s64_35, s64_36, s64_38, s64_39, s64_42, s64_44, s64_45, s64_47, s64_50, s64_53, s64_55, s64_58, s64_59, s64_62, s64_64, s64_67, s64_70, s64_72, s64_74, s64_75, s64_78, s64_81, s64_82, s64_85, s64_86, s64_87, s64_88, s64_91, s64_93, s64_94, s64_97, s64_99, s64_100, s64_103, s64_105, s64_107, s64_108, s64_111, s64_114, s64_115, s64_116, s64_117, s64_120, s64_122, s64_123, s64_126, s64_128, s64_129, s64_132, s64_134, s64_136, s64_137, s64_140, s64_142, s64_145, s64_146, s64_149, s64_150, s64_151, s64_152, s64_155, s64_157, s64_158, s64_159r, s64_162, k_0 hS, k_1 hS, k_2 hS, l_2 hS, k_3 hS, l_3 hS, k_4 hS, l_4 hS, k_5 hS, l_5 hS, k_6 hS, l_6 hS, k_7 hS, k_8 hS, l_8 hS, k_9 hS, l_9 hS, k_10 hS, k_11 hS, l_11 hS, k_12 hS, k_13 hS, l_13 hS, k_14 hS, k_15 hS, l_15 hS, k_16 hS, k_17 hS, l_17 hS, k_66 hS, k_67 hS, l_67 hS, k_68 hS, l_68 hS, k_69 hS, l_69 hS, k_70 hS, l_70 hS, k_71 hS, l_71 hS, k_72 hS, k_73 hS, l_73 hS, k_74 hS, l_74 hS, k_75 hS, k_76 hS, l_76 hS, k_77 hS, k_78 hS, l_78 hS, k_79 hS, k_80 hS, l_80 hS, k_81 hS, k_82 hS, l_82 hS, k_131 hS, k_132 hS, l_132 hS, k_133 hS, l_133 hS, k_134 hS, l_134 hS, k_135 hS, k_136 hS, l_136 hS, k_137 hS, l_137 hS, k_138 hS, l_138 hS, k_139 hS, l_139 hS, k_140 hS, k_141 hS, l_141 hS, k_142 hS, l_142 hS, k_143 hS, k_144 hS, l_144 hS, k_145 hS, k_146 hS, l_146 hS, k_147 hS, l_147 hS, k_148 hS, l_148 hS, k_153 hS, l_153 hS, k_154 hS, l_154 hS, k_155 hS, l_155 hS, k_156 hS, k_157 hS, l_157 hS, k_158 hS, l_158 hS, k_159 hS, l_159 hS, r_0_0 hS, r_0_1 hS, r_0_3 hS, r_0_4 hS, r_0_5 hS, r_0_6 hS, r_0_7 hS, r_0_8 hS, r_0_9 hS, r_0_10 hS, r_1_2 hS, r_1_3 hS, r_1_4 hS, r_1_5 hS, r_1_7 hS, r_1_9 hS, r_1_10 hS, r_1_12 hS, r_1_13 hS, r_1_14 hS, r_1_15 hS, r_7_1 hS, r_10_2 hS, r_12_2 hS, r_14_2 hS, r_16_2 hS, r_66_2 hS, r_66_3 hS, r_66_4 hS, r_66_5 hS, r_66_7 hS, r_66_9 hS, r_66_10 hS, r_66_12 hS, r_66_13 hS, r_66_14 hS, r_66_15 hS, r_72_1 hS, r_75_2 hS, r_77_2 hS, r_79_2 hS, r_81_2 hS, r_131_0 hS, r_131_6 hS, r_131_8 hS, r_135_0 hS, r_135_1 hS, r_135_2 hS, r_135_3 hS, r_140_0 hS, r_140_1 hS, r_143_2 hS, r_145_0 hS, r_145_1 hS, r_145_2 hS, r_145_3 hS, r_145_4 hS, r_145_5 hS, r_156_5 hS, k_pv hS, k_pvr hS, k_db hS, k_dbr hS, k_sh hS, l_pvr hS, l_dbr hS, l_sh hS, r_5 hS, r_6 hS, r_pv hS, r_db hS, r_148 hS, ol_s, ol_n, ln_0, ln_1, ln_2, ln_3, ln_4, eq_self, rf_s, rf_n, i01_0, i01_n0, i01_b, b01_0, b01_1, and_self, and_true, true_and, and_false, false_and, if_true, if_false, not_true_eq_false, not_false_eq_true, e10, e00, lt_bg, Nat.reduceLT, Nat.reduceLeDiff, or_true, hlt, hi, hci, hi16, hs, c24 hS, t1, oc, b0, tw_a, tw_b, tw_c, tw_w, tw_136, nI_1]
      exact P2
end OBE
