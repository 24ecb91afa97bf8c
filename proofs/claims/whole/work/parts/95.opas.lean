/-! conditions: a pile of truths in the bits of a long -/
def b2i (b : Bool) : Int32 := if b = true then 1 else 0
def ev1 (F : Nat → Int32) (so : Int32) (t : Tk) (st : List Bool) : List Bool :=
  if t.1 = 0 then f_cmp t.2.2.1 (F t.2.1) t.2.2.2 :: st
  else if t.1 = 1 then decide (so = nI t.2.2.2) :: st
  else match t.1, st with
    | 2, a :: r => (!a) :: r
    | 3, a :: b :: r => (b && a) :: r
    | 4, a :: b :: r => (b || a) :: r
    | _, r => r
def evs (F : Nat → Int32) (so : Int32) : List Tk → List Bool → List Bool
  | [], st => st
  | t :: ts, st => evs F so ts (ev1 F so t st)
/-- the bits of a long are the truths, the latest lowest -/
def BR (x : Int64) (st : List Bool) : Prop := ∀ j, j < 64 → x.toBitVec.getLsbD j = st.getD j false
theorem bv_one (j : Nat) : (1 : Int64).toBitVec.getLsbD j = decide (j = 0) := by
  show (1#64).getLsbD j = _
  rw [BitVec.getLsbD_one]
  simp
theorem BR.push {x : Int64} {st : List Bool} (h : BR x st) (b : Bool) : BR (x <<< ((1 : Int32).toInt64 &&& 63) ||| (b2i b).toInt64) (b :: st) := by
  intro j hj
  have e : ((1 : Int32).toInt64 &&& 63) = 1 := by decide
  have e2 : ((1 : Int64).toBitVec.smod 64).toNat = 1 := by decide
  rw [e, Int64.toBitVec_or, BitVec.getLsbD_or, Int64.toBitVec_shiftLeft, BitVec.getLsbD_shiftLeft', e2]
  have eb : (b2i b).toInt64.toBitVec.getLsbD j = (b && decide (j = 0)) := by
    cases b
    · show (0#64).getLsbD j = _
      simp
    · show (1 : Int64).toBitVec.getLsbD j = _
      rw [bv_one]
      simp
  rw [eb]
  cases j with
  | zero => simp
  | succ j =>
    have q := h j (by omega)
    simp [hj, q]
theorem BR.not {x : Int64} {a : Bool} {st : List Bool} (h : BR x (a :: st)) : BR (x ^^^ 1) ((!a) :: st) := by
  intro j hj
  rw [Int64.toBitVec_xor, BitVec.getLsbD_xor, bv_one, h j hj]
  cases j with
  | zero => simp
  | succ j => simp
theorem shr1 (x : Int64) (j : Nat) (hj : j < 64) : (x >>> ((1 : Int32).toInt64 &&& 63)).toBitVec.getLsbD j = if 1 + j < 64 then x.toBitVec.getLsbD (1 + j) else x.toBitVec.getLsbD 63 := by
  have e : ((1 : Int32).toInt64 &&& 63) = 1 := by decide
  rw [e, Int64.toBitVec_shiftRight]
  have e2 : ((1 : Int64).toBitVec.smod 64).toNat = 1 := by decide
  show (x.toBitVec.sshiftRight ((1 : Int64).toBitVec.smod 64).toNat).getLsbD j = _
  rw [e2, BitVec.getLsbD_sshiftRight, BitVec.msb_eq_getLsbD_last]
  simp [hj]
theorem getD_big {st : List Bool} {j : Nat} (h : st.length ≤ j) : st.getD j false = false := by
  simp [List.getD, List.getElem?_eq_none h]
theorem BR.and {x : Int64} {a b : Bool} {st : List Bool} (h : BR x (a :: b :: st)) (hl : st.length ≤ 40) : BR (x >>> ((1 : Int32).toInt64 &&& 63) &&& (x ||| (-2))) ((b && a) :: st) := by
  intro j hj
  have e2 : (-2 : Int64).toBitVec.getLsbD j = decide (j ≠ 0) := by
    have q : ∀ j, j < 64 → (-2 : Int64).toBitVec.getLsbD j = decide (j ≠ 0) := by decide
    exact q j hj
  rw [Int64.toBitVec_and, BitVec.getLsbD_and, shr1 x j hj, Int64.toBitVec_or, BitVec.getLsbD_or, e2, h j hj]
  cases j with
  | zero =>
    rw [if_pos (by decide), h (1 + 0) (by decide)]
    simp
  | succ j =>
    by_cases q : 1 + (j + 1) < 64
    · rw [if_pos q, h _ q]
      have e3 : 1 + (j + 1) = j + 1 + 1 := by omega
      rw [e3]
      simp
    · rw [if_neg q, h 63 (by decide), getD_big (by simp only [List.length_cons]; omega)]
      have e4 : j = 62 := by omega
      subst e4
      have g0 : st[62]?.getD false = false := by simp [List.getElem?_eq_none (show st.length ≤ 62 by omega)]
      simp [g0]
theorem BR.or {x : Int64} {a b : Bool} {st : List Bool} (h : BR x (a :: b :: st)) (hl : st.length ≤ 40) : BR (x >>> ((1 : Int32).toInt64 &&& 63) ||| x &&& 1) ((b || a) :: st) := by
  intro j hj
  rw [Int64.toBitVec_or, BitVec.getLsbD_or, shr1 x j hj, Int64.toBitVec_and, BitVec.getLsbD_and, bv_one, h j hj]
  cases j with
  | zero =>
    rw [if_pos (by decide), h (1 + 0) (by decide)]
    simp
  | succ j =>
    by_cases q : 1 + (j + 1) < 64
    · rw [if_pos q, h _ q]
      have e3 : 1 + (j + 1) = j + 1 + 1 := by omega
      rw [e3]
      simp
    · rw [if_neg q, h 63 (by decide), getD_big (by simp only [List.length_cons]; omega)]
      have e4 : j = 62 := by omega
      subst e4
      have g0 : st[62]?.getD false = false := by simp [List.getElem?_eq_none (show st.length ≤ 62 by omega)]
      simp [g0]
theorem BR.top {x : Int64} {st : List Bool} (h : BR x st) : (lg_cmp (x &&& 1) 1 = 0) = (st.getD 0 false = true) := by
  refine propext ((lg_cmp_eq _ _).trans ?_)
  have q := h 0 (by decide)
  constructor
  · intro e
    have e1 : (x &&& 1).toBitVec.getLsbD 0 = true := by rw [e]; decide
    rw [Int64.toBitVec_and, BitVec.getLsbD_and, bv_one, q] at e1
    simpa using e1
  · intro e
    rw [e] at q
    apply Int64.toBitVec_inj.mp
    apply BitVec.eq_of_getLsbD_eq
    intro j hj
    rw [Int64.toBitVec_and, BitVec.getLsbD_and, bv_one]
    by_cases e0 : j = 0
    · subst e0
      simp [q]
    · simp [e0]
theorem BR.nil : BR 0 [] := by
  intro j hj
  show (0#64).getLsbD j = _
  simp
section OAS
variable {d : Nat} {σ : am_I} {ρ : am_R} {g : am_J} {τ : am_T} {Q : am_Q}
theorem drop_c {ts : List Tk} {k : Nat} (h : k < ts.length) : ts.drop k = ts.getD k tk_no :: ts.drop (k + 1) := by
  rw [List.drop_eq_getElem_cons h]
  congr 1
  simp [List.getD, List.getElem?_eq_getElem h]
/-- a word that may stand there: what the pile is -/
theorem run_c {t : Tk} {ts : List Tk} {st : List Bool} {F : Nat → Int32} {so : Int32} (ht : tk_ok t) (h : tk_run (t :: ts) st.length = some 1) (hl : st.length ≤ 20) :
    (t.1 = 0 ∧ st.length < 20 ∧ ev1 F so t st = f_cmp t.2.2.1 (F t.2.1) t.2.2.2 :: st ∧ tk_run ts (st.length + 1) = some 1) ∨
    (t.1 = 1 ∧ st.length < 20 ∧ ev1 F so t st = decide (so = nI t.2.2.2) :: st ∧ tk_run ts (st.length + 1) = some 1) ∨
    (t.1 = 2 ∧ ∃ a r, st = a :: r ∧ ev1 F so t st = (!a) :: r ∧ tk_run ts st.length = some 1) ∨
    (t.1 = 3 ∧ ∃ a b r, st = a :: b :: r ∧ ev1 F so t st = (b && a) :: r ∧ tk_run ts (st.length - 1) = some 1) ∨
    (t.1 = 4 ∧ ∃ a b r, st = a :: b :: r ∧ ev1 F so t st = (b || a) :: r ∧ tk_run ts (st.length - 1) = some 1) := by
  have h4 : t.1 ≤ 4 := by
    rcases ht with ⟨h1, _⟩ | ⟨h1, _⟩ | ⟨_, h1, _⟩ <;> omega
  unfold tk_run at h
  have hc : t.1 = 0 ∨ t.1 = 1 ∨ t.1 = 2 ∨ t.1 = 3 ∨ t.1 = 4 := by omega
  rcases hc with e | e | e | e | e
  · rw [if_pos (by omega)] at h
    by_cases q : st.length < 20
    · rw [if_pos q] at h
      exact Or.inl ⟨e, q, by unfold ev1; rw [if_pos e], h⟩
    · rw [if_neg q] at h
      cases h
  · rw [if_pos (by omega)] at h
    by_cases q : st.length < 20
    · rw [if_pos q] at h
      exact Or.inr (Or.inl ⟨e, q, by unfold ev1; rw [if_neg (by omega), if_pos e], h⟩)
    · rw [if_neg q] at h
      cases h
  · rw [if_neg (by omega), if_pos e] at h
    by_cases q : 1 ≤ st.length
    · rw [if_pos q] at h
      cases st with
      | nil => exact absurd q (by simp)
      | cons a r => exact Or.inr (Or.inr (Or.inl ⟨e, a, r, rfl, by unfold ev1; rw [if_neg (by omega), if_neg (by omega)]; simp only [e], h⟩))
    · rw [if_neg q] at h
      cases h
  · rw [if_neg (by omega), if_neg (by omega)] at h
    by_cases q : 2 ≤ st.length
    · rw [if_pos q] at h
      cases st with
      | nil => exact absurd q (by simp)
      | cons a r =>
        cases r with
        | nil => exact absurd q (by simp)
        | cons b r => exact Or.inr (Or.inr (Or.inr (Or.inl ⟨e, a, b, r, rfl, by unfold ev1; rw [if_neg (by omega), if_neg (by omega)]; simp only [e], h⟩)))
    · rw [if_neg q] at h
      cases h
  · rw [if_neg (by omega), if_neg (by omega)] at h
    by_cases q : 2 ≤ st.length
    · rw [if_pos q] at h
      cases st with
      | nil => exact absurd q (by simp)
      | cons a r =>
        cases r with
        | nil => exact absurd q (by simp)
        | cons b r => exact Or.inr (Or.inr (Or.inr (Or.inr ⟨e, a, b, r, rfl, by unfold ev1; rw [if_neg (by omega), if_neg (by omega)]; simp only [e], h⟩)))
    · rw [if_neg q] at h
      cases h
theorem c52L (hS : Sh ρ τ) {l cd i m : Nat} {ts : List Tk} (hl : τ.1 l = 5) (hr : ρ l 3 = some cd) (hk : τ.1 cd = 15) (hn : τ.2.1 cd = ts.length) (hts : ∀ t ∈ ts, tk_ok t) (hlen : ts.length ≤ 240) (hcd : ∀ k, k < ts.length → σ cd k = nI (tk_C (ts.getD k tk_no))) (hi : i < 16) {F : Nat → Int32} {so : Int32} (H11 : ∀ (k d : Nat) (Q : am_Q), k ≤ 5 → AW d 11 0 [.ref (34 + 2 * i), .int (nI k), .int (nI m)] [] σ ρ g τ Q = Q (some (.int (F k))) σ ρ g τ) (E2 : σ (34 + 2 * i) 2 = so) : ∀ (n k : Nat) (x : Int64) (st : List Bool), k + n = ts.length → BR x st → st.length ≤ 20 → tk_run (ts.drop k) st.length = some 1 →
    AW (d + 1) 52 14 [.ref l, .ref (34 + 2 * i), .int (nI m), .long x, am_jk, .int (nI k)] [] σ ρ g τ Q = Q (some (.int (b2i ((evs F so (ts.drop k) st).getD 0 false)))) σ ρ g τ
  | 0, k, x, st, h, hb, hl20, hrun => by
    have e : k = ts.length := by omega
    have e2 : ts.drop k = [] := List.drop_eq_nil_of_le (by omega)
    have ra : 14 ≤ τ.1 cd ∧ τ.1 cd ≤ 22 := by omega
    have hle : nI ts.length ≤ nI k := nI_le (by omega) (by omega)
    have T := hb.top
    rw [e2]
    unfold evs b2i
    by_cases q : st.getD 0 false = true
    · rw [if_pos q]
      have T2 : lg_cmp (x &&& 1) 1 = 0 := by rw [T]; exact q
      simp only [s52_14, s52_16, s52_17, s52_20, s52_21, s52_173, s52_174, s52_175, s52_176, s52_177, s52_178, s52_181, s52_182, s52_185, s52_186, ol_s, ol_n, ln_0, ln_1, ln_2, ln_3, ln_4, eq_self, rf_s, rf_n, i01_0, i01_n0, i01_b, b01_0, b01_1, and_self, and_true, true_and, and_false, false_and, if_true, if_false, not_true_eq_false, not_false_eq_true, e10, e00, lt_bg, Nat.reduceLT, Nat.reduceLeDiff, hl, hr, hn, ra, hle, T2]
    · rw [if_neg q]
      have T2 : ¬ lg_cmp (x &&& 1) 1 = 0 := by rw [T]; exact q
      simp only [s52_14, s52_16, s52_17, s52_20, s52_21, s52_173, s52_174, s52_175, s52_176, s52_177, s52_178, s52_181, s52_182, s52_185, s52_186, ol_s, ol_n, ln_0, ln_1, ln_2, ln_3, ln_4, eq_self, rf_s, rf_n, i01_0, i01_n0, i01_b, b01_0, b01_1, and_self, and_true, true_and, and_false, false_and, if_true, if_false, not_true_eq_false, not_false_eq_true, e10, e00, lt_bg, Nat.reduceLT, Nat.reduceLeDiff, hl, hr, hn, ra, hle, T2]
  | n + 1, k, x, st, h, hb, hl20, hrun => by
    have hkl : k < ts.length := by omega
    have ra : 14 ≤ τ.1 cd ∧ τ.1 cd ≤ 22 := by omega
    have hlt : ¬ nI ts.length ≤ nI k := nI_ge (by omega) (by omega)
    have hin : am_inb (nI k) ts.length = true := inb_n (by omega) (by omega)
    have hck : (nI k).toNatClampNeg = k := nI_clamp (by omega)
    have hw := hcd k hkl
    rw [drop_c hkl] at hrun ⊢
    have hmem : ts.getD k tk_no ∈ ts := by
      simp only [List.getD, List.getElem?_eq_getElem hkl, Option.getD_some]
      exact List.getElem_mem hkl
    have ht := hts _ hmem
    generalize ts.getD k tk_no = t at hrun hw ht ⊢
    have op := tkC_op ht
    rw [s52_14]
    have ih := fun (y : Int64) (st' : List Bool) (hb' : BR y st') (hl' : st'.length ≤ 20) (hr' : tk_run (ts.drop (k + 1)) st'.length = some 1) => c52L hS hl hr hk hn hts hlen hcd hi H11 E2 n (k + 1) y st' (by omega) hb' hl' hr'
    show _ = Q (some (.int (b2i ((evs F so (ts.drop (k + 1)) (ev1 F so t st)).getD 0 false)))) σ ρ g τ
    rcases run_c (F := F) (so := so) ht hrun hl20 with ⟨e, q, e2, r2⟩ | ⟨e, q, e2, r2⟩ | ⟨e, a, r, rfl, e2, r2⟩ | ⟨e, a, b, r, rfl, e2, r2⟩ | ⟨e, a, b, r, rfl, e2, r2⟩
    · rw [e2, ← ih _ _ (hb.push _) (by simp only [List.length_cons]; omega) r2]
      rw [e, nI_0] at op
      have hf5 : t.2.1 ≤ 5 := by
        rcases ht with ⟨_, h2, _⟩ | ⟨h1, _⟩ | ⟨h1, _⟩ <;> omega
      unfold b2i
      by_cases z : f_cmp t.2.2.1 (F t.2.1) t.2.2.2 = true
      · simp only [s52_16, s52_17, s52_20, s52_21, s52_24, s52_25, s52_28, s52_30, s52_31, s52_33, s52_34_0, s52_34_1, s52_34_2, s52_34_3, s52_34_d, s52_64, s52_65, s52_66, s52_67, s52_68, s52_69, s52_72, s52_74, s52_75, s52_76, s52_77, s52_79, s52_80, s52_81, s52_84, s52_85, s52_88, s52_90, s52_91, s52_94, s52_97, s52_98, s52_101, s52_102, s52_103, s52_104, s52_105, s52_108, s52_109, s52_110, s52_111, s52_112, s52_115, s52_116, s52_119, s52_121, s52_122, s52_124, s52_125, s52_128, s52_129, s52_132, s52_133, s52_134, s52_135, s52_136, s52_139, s52_140, s52_141, s52_142, s52_143, s52_146, s52_147, s52_148, s52_149, s52_150, s52_153, s52_154, s52_155, s52_156, s52_159, s52_160, s52_161, s52_162, s52_163, s52_164, s52_165, s52_166, s52_167x, s52_170, k_0 hS, k_1 hS, k_2 hS, l_2 hS, k_3 hS, l_3 hS, k_4 hS, l_4 hS, k_5 hS, l_5 hS, k_6 hS, l_6 hS, k_7 hS, k_8 hS, l_8 hS, k_9 hS, l_9 hS, k_10 hS, k_11 hS, l_11 hS, k_12 hS, k_13 hS, l_13 hS, k_14 hS, k_15 hS, l_15 hS, k_16 hS, k_17 hS, l_17 hS, k_66 hS, k_67 hS, l_67 hS, k_68 hS, l_68 hS, k_69 hS, l_69 hS, k_70 hS, l_70 hS, k_71 hS, l_71 hS, k_72 hS, k_73 hS, l_73 hS, k_74 hS, l_74 hS, k_75 hS, k_76 hS, l_76 hS, k_77 hS, k_78 hS, l_78 hS, k_79 hS, k_80 hS, l_80 hS, k_81 hS, k_82 hS, l_82 hS, k_131 hS, k_132 hS, l_132 hS, k_133 hS, l_133 hS, k_134 hS, l_134 hS, k_135 hS, k_136 hS, l_136 hS, k_137 hS, l_137 hS, k_138 hS, l_138 hS, k_139 hS, l_139 hS, k_140 hS, k_141 hS, l_141 hS, k_142 hS, l_142 hS, k_143 hS, k_144 hS, l_144 hS, k_145 hS, k_146 hS, l_146 hS, k_147 hS, l_147 hS, k_148 hS, l_148 hS, k_153 hS, l_153 hS, k_154 hS, l_154 hS, k_155 hS, l_155 hS, k_156 hS, k_157 hS, l_157 hS, k_158 hS, l_158 hS, k_159 hS, l_159 hS, r_0_0 hS, r_0_1 hS, r_0_3 hS, r_0_4 hS, r_0_5 hS, r_0_6 hS, r_0_7 hS, r_0_8 hS, r_0_9 hS, r_0_10 hS, r_1_2 hS, r_1_3 hS, r_1_4 hS, r_1_5 hS, r_1_7 hS, r_1_9 hS, r_1_10 hS, r_1_12 hS, r_1_13 hS, r_1_14 hS, r_1_15 hS, r_7_1 hS, r_10_2 hS, r_12_2 hS, r_14_2 hS, r_16_2 hS, r_66_2 hS, r_66_3 hS, r_66_4 hS, r_66_5 hS, r_66_7 hS, r_66_9 hS, r_66_10 hS, r_66_12 hS, r_66_13 hS, r_66_14 hS, r_66_15 hS, r_72_1 hS, r_75_2 hS, r_77_2 hS, r_79_2 hS, r_81_2 hS, r_131_0 hS, r_131_6 hS, r_131_8 hS, r_135_0 hS, r_135_1 hS, r_135_2 hS, r_135_3 hS, r_140_0 hS, r_140_1 hS, r_143_2 hS, r_145_0 hS, r_145_1 hS, r_145_2 hS, r_145_3 hS, r_145_4 hS, r_145_5 hS, r_156_5 hS, k_pv hS, k_pvr hS, k_db hS, k_dbr hS, k_sh hS, l_pvr hS, l_dbr hS, l_sh hS, r_5 hS, r_6 hS, r_pv hS, r_db hS, r_148 hS, ol_s, ol_n, ln_0, ln_1, ln_2, ln_3, ln_4, eq_self, rf_s, rf_n, i01_0, i01_n0, i01_b, b01_0, b01_1, and_self, and_true, true_and, and_false, false_and, if_true, if_false, not_true_eq_false, not_false_eq_true, e10, e00, lt_bg, Nat.reduceLT, Nat.reduceLeDiff, hl, hr, hn, hk, ra, hlt, hin, hck, hw, op, tkC_fact ht e, H11 t.2.1 _ _ hf5, c53 ht e, hi, z, nI_1]
      · simp only [s52_16, s52_17, s52_20, s52_21, s52_24, s52_25, s52_28, s52_30, s52_31, s52_33, s52_34_0, s52_34_1, s52_34_2, s52_34_3, s52_34_d, s52_64, s52_65, s52_66, s52_67, s52_68, s52_69, s52_72, s52_74, s52_75, s52_76, s52_77, s52_79, s52_80, s52_81, s52_84, s52_85, s52_88, s52_90, s52_91, s52_94, s52_97, s52_98, s52_101, s52_102, s52_103, s52_104, s52_105, s52_108, s52_109, s52_110, s52_111, s52_112, s52_115, s52_116, s52_119, s52_121, s52_122, s52_124, s52_125, s52_128, s52_129, s52_132, s52_133, s52_134, s52_135, s52_136, s52_139, s52_140, s52_141, s52_142, s52_143, s52_146, s52_147, s52_148, s52_149, s52_150, s52_153, s52_154, s52_155, s52_156, s52_159, s52_160, s52_161, s52_162, s52_163, s52_164, s52_165, s52_166, s52_167x, s52_170, k_0 hS, k_1 hS, k_2 hS, l_2 hS, k_3 hS, l_3 hS, k_4 hS, l_4 hS, k_5 hS, l_5 hS, k_6 hS, l_6 hS, k_7 hS, k_8 hS, l_8 hS, k_9 hS, l_9 hS, k_10 hS, k_11 hS, l_11 hS, k_12 hS, k_13 hS, l_13 hS, k_14 hS, k_15 hS, l_15 hS, k_16 hS, k_17 hS, l_17 hS, k_66 hS, k_67 hS, l_67 hS, k_68 hS, l_68 hS, k_69 hS, l_69 hS, k_70 hS, l_70 hS, k_71 hS, l_71 hS, k_72 hS, k_73 hS, l_73 hS, k_74 hS, l_74 hS, k_75 hS, k_76 hS, l_76 hS, k_77 hS, k_78 hS, l_78 hS, k_79 hS, k_80 hS, l_80 hS, k_81 hS, k_82 hS, l_82 hS, k_131 hS, k_132 hS, l_132 hS, k_133 hS, l_133 hS, k_134 hS, l_134 hS, k_135 hS, k_136 hS, l_136 hS, k_137 hS, l_137 hS, k_138 hS, l_138 hS, k_139 hS, l_139 hS, k_140 hS, k_141 hS, l_141 hS, k_142 hS, l_142 hS, k_143 hS, k_144 hS, l_144 hS, k_145 hS, k_146 hS, l_146 hS, k_147 hS, l_147 hS, k_148 hS, l_148 hS, k_153 hS, l_153 hS, k_154 hS, l_154 hS, k_155 hS, l_155 hS, k_156 hS, k_157 hS, l_157 hS, k_158 hS, l_158 hS, k_159 hS, l_159 hS, r_0_0 hS, r_0_1 hS, r_0_3 hS, r_0_4 hS, r_0_5 hS, r_0_6 hS, r_0_7 hS, r_0_8 hS, r_0_9 hS, r_0_10 hS, r_1_2 hS, r_1_3 hS, r_1_4 hS, r_1_5 hS, r_1_7 hS, r_1_9 hS, r_1_10 hS, r_1_12 hS, r_1_13 hS, r_1_14 hS, r_1_15 hS, r_7_1 hS, r_10_2 hS, r_12_2 hS, r_14_2 hS, r_16_2 hS, r_66_2 hS, r_66_3 hS, r_66_4 hS, r_66_5 hS, r_66_7 hS, r_66_9 hS, r_66_10 hS, r_66_12 hS, r_66_13 hS, r_66_14 hS, r_66_15 hS, r_72_1 hS, r_75_2 hS, r_77_2 hS, r_79_2 hS, r_81_2 hS, r_131_0 hS, r_131_6 hS, r_131_8 hS, r_135_0 hS, r_135_1 hS, r_135_2 hS, r_135_3 hS, r_140_0 hS, r_140_1 hS, r_143_2 hS, r_145_0 hS, r_145_1 hS, r_145_2 hS, r_145_3 hS, r_145_4 hS, r_145_5 hS, r_156_5 hS, k_pv hS, k_pvr hS, k_db hS, k_dbr hS, k_sh hS, l_pvr hS, l_dbr hS, l_sh hS, r_5 hS, r_6 hS, r_pv hS, r_db hS, r_148 hS, ol_s, ol_n, ln_0, ln_1, ln_2, ln_3, ln_4, eq_self, rf_s, rf_n, i01_0, i01_n0, i01_b, b01_0, b01_1, and_self, and_true, true_and, and_false, false_and, if_true, if_false, not_true_eq_false, not_false_eq_true, e10, e00, lt_bg, Nat.reduceLT, Nat.reduceLeDiff, hl, hr, hn, hk, ra, hlt, hin, hck, hw, op, tkC_fact ht e, H11 t.2.1 _ _ hf5, c53 ht e, hi, z, Bool.false_eq_true, nI_1]
    · rw [e2, ← ih _ _ (hb.push _) (by simp only [List.length_cons]; omega) r2]
      rw [e, n_one] at op
      unfold b2i
      by_cases z : so = nI t.2.2.2
      · simp only [s52_16, s52_17, s52_20, s52_21, s52_24, s52_25, s52_28, s52_30, s52_31, s52_33, s52_34_0, s52_34_1, s52_34_2, s52_34_3, s52_34_d, s52_64, s52_65, s52_66, s52_67, s52_68, s52_69, s52_72, s52_74, s52_75, s52_76, s52_77, s52_79, s52_80, s52_81, s52_84, s52_85, s52_88, s52_90, s52_91, s52_94, s52_97, s52_98, s52_101, s52_102, s52_103, s52_104, s52_105, s52_108, s52_109, s52_110, s52_111, s52_112, s52_115, s52_116, s52_119, s52_121, s52_122, s52_124, s52_125, s52_128, s52_129, s52_132, s52_133, s52_134, s52_135, s52_136, s52_139, s52_140, s52_141, s52_142, s52_143, s52_146, s52_147, s52_148, s52_149, s52_150, s52_153, s52_154, s52_155, s52_156, s52_159, s52_160, s52_161, s52_162, s52_163, s52_164, s52_165, s52_166, s52_167x, s52_170, k_0 hS, k_1 hS, k_2 hS, l_2 hS, k_3 hS, l_3 hS, k_4 hS, l_4 hS, k_5 hS, l_5 hS, k_6 hS, l_6 hS, k_7 hS, k_8 hS, l_8 hS, k_9 hS, l_9 hS, k_10 hS, k_11 hS, l_11 hS, k_12 hS, k_13 hS, l_13 hS, k_14 hS, k_15 hS, l_15 hS, k_16 hS, k_17 hS, l_17 hS, k_66 hS, k_67 hS, l_67 hS, k_68 hS, l_68 hS, k_69 hS, l_69 hS, k_70 hS, l_70 hS, k_71 hS, l_71 hS, k_72 hS, k_73 hS, l_73 hS, k_74 hS, l_74 hS, k_75 hS, k_76 hS, l_76 hS, k_77 hS, k_78 hS, l_78 hS, k_79 hS, k_80 hS, l_80 hS, k_81 hS, k_82 hS, l_82 hS, k_131 hS, k_132 hS, l_132 hS, k_133 hS, l_133 hS, k_134 hS, l_134 hS, k_135 hS, k_136 hS, l_136 hS, k_137 hS, l_137 hS, k_138 hS, l_138 hS, k_139 hS, l_139 hS, k_140 hS, k_141 hS, l_141 hS, k_142 hS, l_142 hS, k_143 hS, k_144 hS, l_144 hS, k_145 hS, k_146 hS, l_146 hS, k_147 hS, l_147 hS, k_148 hS, l_148 hS, k_153 hS, l_153 hS, k_154 hS, l_154 hS, k_155 hS, l_155 hS, k_156 hS, k_157 hS, l_157 hS, k_158 hS, l_158 hS, k_159 hS, l_159 hS, r_0_0 hS, r_0_1 hS, r_0_3 hS, r_0_4 hS, r_0_5 hS, r_0_6 hS, r_0_7 hS, r_0_8 hS, r_0_9 hS, r_0_10 hS, r_1_2 hS, r_1_3 hS, r_1_4 hS, r_1_5 hS, r_1_7 hS, r_1_9 hS, r_1_10 hS, r_1_12 hS, r_1_13 hS, r_1_14 hS, r_1_15 hS, r_7_1 hS, r_10_2 hS, r_12_2 hS, r_14_2 hS, r_16_2 hS, r_66_2 hS, r_66_3 hS, r_66_4 hS, r_66_5 hS, r_66_7 hS, r_66_9 hS, r_66_10 hS, r_66_12 hS, r_66_13 hS, r_66_14 hS, r_66_15 hS, r_72_1 hS, r_75_2 hS, r_77_2 hS, r_79_2 hS, r_81_2 hS, r_131_0 hS, r_131_6 hS, r_131_8 hS, r_135_0 hS, r_135_1 hS, r_135_2 hS, r_135_3 hS, r_140_0 hS, r_140_1 hS, r_143_2 hS, r_145_0 hS, r_145_1 hS, r_145_2 hS, r_145_3 hS, r_145_4 hS, r_145_5 hS, r_156_5 hS, k_pv hS, k_pvr hS, k_db hS, k_dbr hS, k_sh hS, l_pvr hS, l_dbr hS, l_sh hS, r_5 hS, r_6 hS, r_pv hS, r_db hS, r_148 hS, ol_s, ol_n, ln_0, ln_1, ln_2, ln_3, ln_4, eq_self, rf_s, rf_n, i01_0, i01_n0, i01_b, b01_0, b01_1, and_self, and_true, true_and, and_false, false_and, if_true, if_false, not_true_eq_false, not_false_eq_true, e10, e00, lt_bg, Nat.reduceLT, Nat.reduceLeDiff, hl, hr, hn, hk, ra, hlt, hin, hck, hw, op, tkC_num ht (by omega), hi, E2, z, decide_true, nI_1]
      · simp only [s52_16, s52_17, s52_20, s52_21, s52_24, s52_25, s52_28, s52_30, s52_31, s52_33, s52_34_0, s52_34_1, s52_34_2, s52_34_3, s52_34_d, s52_64, s52_65, s52_66, s52_67, s52_68, s52_69, s52_72, s52_74, s52_75, s52_76, s52_77, s52_79, s52_80, s52_81, s52_84, s52_85, s52_88, s52_90, s52_91, s52_94, s52_97, s52_98, s52_101, s52_102, s52_103, s52_104, s52_105, s52_108, s52_109, s52_110, s52_111, s52_112, s52_115, s52_116, s52_119, s52_121, s52_122, s52_124, s52_125, s52_128, s52_129, s52_132, s52_133, s52_134, s52_135, s52_136, s52_139, s52_140, s52_141, s52_142, s52_143, s52_146, s52_147, s52_148, s52_149, s52_150, s52_153, s52_154, s52_155, s52_156, s52_159, s52_160, s52_161, s52_162, s52_163, s52_164, s52_165, s52_166, s52_167x, s52_170, k_0 hS, k_1 hS, k_2 hS, l_2 hS, k_3 hS, l_3 hS, k_4 hS, l_4 hS, k_5 hS, l_5 hS, k_6 hS, l_6 hS, k_7 hS, k_8 hS, l_8 hS, k_9 hS, l_9 hS, k_10 hS, k_11 hS, l_11 hS, k_12 hS, k_13 hS, l_13 hS, k_14 hS, k_15 hS, l_15 hS, k_16 hS, k_17 hS, l_17 hS, k_66 hS, k_67 hS, l_67 hS, k_68 hS, l_68 hS, k_69 hS, l_69 hS, k_70 hS, l_70 hS, k_71 hS, l_71 hS, k_72 hS, k_73 hS, l_73 hS, k_74 hS, l_74 hS, k_75 hS, k_76 hS, l_76 hS, k_77 hS, k_78 hS, l_78 hS, k_79 hS, k_80 hS, l_80 hS, k_81 hS, k_82 hS, l_82 hS, k_131 hS, k_132 hS, l_132 hS, k_133 hS, l_133 hS, k_134 hS, l_134 hS, k_135 hS, k_136 hS, l_136 hS, k_137 hS, l_137 hS, k_138 hS, l_138 hS, k_139 hS, l_139 hS, k_140 hS, k_141 hS, l_141 hS, k_142 hS, l_142 hS, k_143 hS, k_144 hS, l_144 hS, k_145 hS, k_146 hS, l_146 hS, k_147 hS, l_147 hS, k_148 hS, l_148 hS, k_153 hS, l_153 hS, k_154 hS, l_154 hS, k_155 hS, l_155 hS, k_156 hS, k_157 hS, l_157 hS, k_158 hS, l_158 hS, k_159 hS, l_159 hS, r_0_0 hS, r_0_1 hS, r_0_3 hS, r_0_4 hS, r_0_5 hS, r_0_6 hS, r_0_7 hS, r_0_8 hS, r_0_9 hS, r_0_10 hS, r_1_2 hS, r_1_3 hS, r_1_4 hS, r_1_5 hS, r_1_7 hS, r_1_9 hS, r_1_10 hS, r_1_12 hS, r_1_13 hS, r_1_14 hS, r_1_15 hS, r_7_1 hS, r_10_2 hS, r_12_2 hS, r_14_2 hS, r_16_2 hS, r_66_2 hS, r_66_3 hS, r_66_4 hS, r_66_5 hS, r_66_7 hS, r_66_9 hS, r_66_10 hS, r_66_12 hS, r_66_13 hS, r_66_14 hS, r_66_15 hS, r_72_1 hS, r_75_2 hS, r_77_2 hS, r_79_2 hS, r_81_2 hS, r_131_0 hS, r_131_6 hS, r_131_8 hS, r_135_0 hS, r_135_1 hS, r_135_2 hS, r_135_3 hS, r_140_0 hS, r_140_1 hS, r_143_2 hS, r_145_0 hS, r_145_1 hS, r_145_2 hS, r_145_3 hS, r_145_4 hS, r_145_5 hS, r_156_5 hS, k_pv hS, k_pvr hS, k_db hS, k_dbr hS, k_sh hS, l_pvr hS, l_dbr hS, l_sh hS, r_5 hS, r_6 hS, r_pv hS, r_db hS, r_148 hS, ol_s, ol_n, ln_0, ln_1, ln_2, ln_3, ln_4, eq_self, rf_s, rf_n, i01_0, i01_n0, i01_b, b01_0, b01_1, and_self, and_true, true_and, and_false, false_and, if_true, if_false, not_true_eq_false, not_false_eq_true, e10, e00, lt_bg, Nat.reduceLT, Nat.reduceLeDiff, hl, hr, hn, hk, ra, hlt, hin, hck, hw, op, tkC_num ht (by omega), hi, E2, z, decide_false, Bool.false_eq_true, nI_1]
    · rw [e2, ← ih _ _ hb.not hl20 r2]
      rw [e, nI_2] at op
      simp only [s52_16, s52_17, s52_20, s52_21, s52_24, s52_25, s52_28, s52_30, s52_31, s52_33, s52_34_0, s52_34_1, s52_34_2, s52_34_3, s52_34_d, s52_64, s52_65, s52_66, s52_67, s52_68, s52_69, s52_72, s52_74, s52_75, s52_76, s52_77, s52_79, s52_80, s52_81, s52_84, s52_85, s52_88, s52_90, s52_91, s52_94, s52_97, s52_98, s52_101, s52_102, s52_103, s52_104, s52_105, s52_108, s52_109, s52_110, s52_111, s52_112, s52_115, s52_116, s52_119, s52_121, s52_122, s52_124, s52_125, s52_128, s52_129, s52_132, s52_133, s52_134, s52_135, s52_136, s52_139, s52_140, s52_141, s52_142, s52_143, s52_146, s52_147, s52_148, s52_149, s52_150, s52_153, s52_154, s52_155, s52_156, s52_159, s52_160, s52_161, s52_162, s52_163, s52_164, s52_165, s52_166, s52_167x, s52_170, ol_s, ol_n, ln_0, ln_1, ln_2, ln_3, ln_4, eq_self, rf_s, rf_n, i01_0, i01_n0, i01_b, b01_0, b01_1, and_self, and_true, true_and, and_false, false_and, if_true, if_false, not_true_eq_false, not_false_eq_true, e10, e00, lt_bg, Nat.reduceLT, Nat.reduceLeDiff, hl, hr, hn, hk, ra, hlt, hin, hck, hw, op, nI_1]
    · simp only [List.length_cons] at hl20 r2
      rw [e2, ← ih _ _ (hb.and (by omega)) (by simp only [List.length_cons]; omega) r2]
      rw [e, nI_3] at op
      simp only [s52_16, s52_17, s52_20, s52_21, s52_24, s52_25, s52_28, s52_30, s52_31, s52_33, s52_34_0, s52_34_1, s52_34_2, s52_34_3, s52_34_d, s52_64, s52_65, s52_66, s52_67, s52_68, s52_69, s52_72, s52_74, s52_75, s52_76, s52_77, s52_79, s52_80, s52_81, s52_84, s52_85, s52_88, s52_90, s52_91, s52_94, s52_97, s52_98, s52_101, s52_102, s52_103, s52_104, s52_105, s52_108, s52_109, s52_110, s52_111, s52_112, s52_115, s52_116, s52_119, s52_121, s52_122, s52_124, s52_125, s52_128, s52_129, s52_132, s52_133, s52_134, s52_135, s52_136, s52_139, s52_140, s52_141, s52_142, s52_143, s52_146, s52_147, s52_148, s52_149, s52_150, s52_153, s52_154, s52_155, s52_156, s52_159, s52_160, s52_161, s52_162, s52_163, s52_164, s52_165, s52_166, s52_167x, s52_170, ol_s, ol_n, ln_0, ln_1, ln_2, ln_3, ln_4, eq_self, rf_s, rf_n, i01_0, i01_n0, i01_b, b01_0, b01_1, and_self, and_true, true_and, and_false, false_and, if_true, if_false, not_true_eq_false, not_false_eq_true, e10, e00, lt_bg, Nat.reduceLT, Nat.reduceLeDiff, hl, hr, hn, hk, ra, hlt, hin, hck, hw, op, nI_1]
    · simp only [List.length_cons] at hl20 r2
      rw [e2, ← ih _ _ (hb.or (by omega)) (by simp only [List.length_cons]; omega) r2]
      rw [e, nI_4] at op
      have sw : (4 : Int32).toInt < 0 ∨ 3 < (4 : Int32).toInt := by decide
      simp only [s52_16, s52_17, s52_20, s52_21, s52_24, s52_25, s52_28, s52_30, s52_31, s52_33, s52_34_0, s52_34_1, s52_34_2, s52_34_3, s52_34_d, s52_64, s52_65, s52_66, s52_67, s52_68, s52_69, s52_72, s52_74, s52_75, s52_76, s52_77, s52_79, s52_80, s52_81, s52_84, s52_85, s52_88, s52_90, s52_91, s52_94, s52_97, s52_98, s52_101, s52_102, s52_103, s52_104, s52_105, s52_108, s52_109, s52_110, s52_111, s52_112, s52_115, s52_116, s52_119, s52_121, s52_122, s52_124, s52_125, s52_128, s52_129, s52_132, s52_133, s52_134, s52_135, s52_136, s52_139, s52_140, s52_141, s52_142, s52_143, s52_146, s52_147, s52_148, s52_149, s52_150, s52_153, s52_154, s52_155, s52_156, s52_159, s52_160, s52_161, s52_162, s52_163, s52_164, s52_165, s52_166, s52_167x, s52_170, ol_s, ol_n, ln_0, ln_1, ln_2, ln_3, ln_4, eq_self, rf_s, rf_n, i01_0, i01_n0, i01_b, b01_0, b01_1, and_self, and_true, true_and, and_false, false_and, if_true, if_false, not_true_eq_false, not_false_eq_true, e10, e00, lt_bg, Nat.reduceLT, Nat.reduceLeDiff, hl, hr, hn, hk, ra, hlt, hin, hck, hw, op, sw, nI_1]
end OAS
