/-! the relation between the class's cells and the reference's -/
/-- both hold one number, at most m -/
def EQ (m : Nat) (x y : Int32) : Prop := ∃ n : Nat, n ≤ m ∧ x = nI n ∧ y = nI n
/-- how many there are: 0 now, 1 provinces, 2 debts, 3 versions, 4 railways, 5 papers, 6 takings, 7 choices -/
abbrev Cn := Nat → Nat
def Bn (c : Cn) : Prop := c 0 ≤ 599 ∧ c 1 ≤ 8 ∧ c 2 ≤ 16 ∧ c 3 ≤ 8 ∧ c 4 ≤ 6 ∧ c 5 ≤ 20 ∧ c 6 ≤ 16 ∧ c 7 ≤ 8
def Scal (a B : Nat) (c : Cn) (σ : am_I) : Prop :=
  (σ a 0 = nI (c 0) ∧ σ B 0 = nI (c 0)) ∧ (σ a 6 = nI (c 1) ∧ σ B 1 = nI (c 1)) ∧ (σ a 8 = nI (c 2) ∧ σ B 2 = nI (c 2)) ∧ (σ a 11 = nI (c 3) ∧ σ B 3 = nI (c 3)) ∧
  (σ (a + 9) 3 = nI (c 4) ∧ σ B 4 = nI (c 4)) ∧ (σ (a + 11) 3 = nI (c 5) ∧ σ B 5 = nI (c 5)) ∧ (σ (a + 13) 3 = nI (c 6) ∧ σ B 6 = nI (c 6)) ∧ (σ (a + 15) 3 = nI (c 7) ∧ σ B 7 = nI (c 7)) ∧
  EQ 99999 (σ a 1) (σ B 8)
/-- what never changes in a land's ledgers -/
def Led (a : Nat) (σ : am_I) : Prop :=
  (σ (a + 9) 0 = nI 6 ∧ σ (a + 9) 1 = nI 3) ∧ (σ (a + 11) 0 = nI 20 ∧ σ (a + 11) 1 = nI 5) ∧ (σ (a + 13) 0 = nI 16 ∧ σ (a + 13) 1 = nI 3) ∧ (σ (a + 15) 0 = nI 8 ∧ σ (a + 15) 1 = nI 4)
def Rhl (a B : Nat) (σ : am_I) : Prop :=
  (∀ s, s < 3 → EQ 100 (σ (a + 1) s) (σ (B + 1) s)) ∧ (∀ s, s < 12 → EQ 200 (σ (a + 2) s) (σ (B + 2) s)) ∧ (∀ s, s < 5 → EQ 6 (σ (a + 3) s) (σ (B + 3) s))
def Prov (a B P : Nat) (σ : am_I) : Prop :=
  ∀ p, p < P → EQ 99 (σ (a + 17 + 2 * p) 0) (σ (B + 6) p) ∧ EQ 12 (σ (a + 17 + 2 * p) 1) (σ (B + 7) p) ∧ σ (a + 17 + 2 * p) 2 = σ (B + 8) p ∧ EQ 9 (σ (a + 17 + 2 * p) 3) (σ (B + 5) p) ∧
    ∀ s, s < 3 → EQ 999 (σ (a + 18 + 2 * p) s) (σ (B + 4) (3 * p + s))
def Debt1 (a B i : Nat) (σ : am_I) : Prop :=
  EQ 4 (σ (a + 33 + 2 * i) 0) (σ (B + 10) i) ∧ EQ 3 (σ (a + 33 + 2 * i) 1) (σ (B + 9) i) ∧ EQ 2 (σ (a + 33 + 2 * i) 2) (σ (B + 11) i) ∧
  EQ 999 (σ (a + 33 + 2 * i) 3) (σ (B + 12) i) ∧ (EQ 12 (σ (a + 33 + 2 * i) 4) (σ (B + 13) i) ∧ σ (B + 13) i ≠ 0) ∧ EQ 599 (σ (a + 33 + 2 * i) 5) (σ (B + 14) i) ∧
  EQ 9999 (σ (a + 33 + 2 * i) 6) (σ (B + 15) i) ∧ σ (a + 33 + 2 * i) 7 = σ (B + 17) i ∧ EQ 1 (σ (a + 33 + 2 * i) 8) (σ (B + 16) i) ∧
  (σ (B + 9) i = 0 → ∀ k, k < 7 → EQ 100 (σ (a + 34 + 2 * i) k) (σ (B + 18) (7 * i + k)))
def Debts (a B D : Nat) (σ : am_I) : Prop := ∀ i, i < D → Debt1 a B i σ
def Rail (a B R P : Nat) (σ : am_I) : Prop :=
  ∀ i, i < R → (∃ p, p < P ∧ σ (a + 10) (3 * i) = nI p ∧ σ (B + 27) i = nI p) ∧ EQ 400 (σ (a + 10) (3 * i + 1)) (σ (B + 28) i) ∧ EQ 99 (σ (a + 10) (3 * i + 2)) (σ (B + 29) i)
def Pap (a B A : Nat) (σ : am_I) : Prop :=
  ∀ i, i < A → EQ 1 (σ (a + 12) (5 * i)) (σ (B + 30) i) ∧ EQ 999 (σ (a + 12) (5 * i + 1)) (σ (B + 31) i) ∧ EQ 4 (σ (a + 12) (5 * i + 2)) (σ (B + 32) i) ∧
    EQ 9 (σ (a + 12) (5 * i + 3)) (σ (B + 33) i) ∧ EQ 599 (σ (a + 12) (5 * i + 4)) (σ (B + 34) i)
def Tak (a B T : Nat) (σ : am_I) : Prop :=
  ∀ i, i < T → EQ 2 (σ (a + 14) (3 * i)) (σ (B + 35) i) ∧ EQ 999 (σ (a + 14) (3 * i + 1)) (σ (B + 36) i) ∧ EQ 599 (σ (a + 14) (3 * i + 2)) (σ (B + 37) i)
def Cho (a B C : Nat) (σ : am_I) : Prop :=
  ∀ i, i < C → (∀ k, k < 3 → σ (a + 16) (4 * i + k) = σ (B + 38) (3 * i + k)) ∧ EQ 9 (σ (a + 16) (4 * i + 3)) (σ (B + 39) i)
/-- the words of a condition, each behind what it works on: sort (0 a comparison, 1 a SORT, 2 not, 3 and, 4 or), fact, sign, number -/
abbrev Tk := Nat × Nat × Nat × Nat
def tk_no : Tk := (2, 0, 0, 0)
def tk_C (t : Tk) : Nat := if t.1 = 0 then 16 * t.2.1 + 256 * (60 + t.2.2.1) + 65536 * t.2.2.2 else t.1 + 65536 * t.2.2.2
def tk_M (t : Tk) : Nat := 1000000 * (t.1 + 1) + 100000 * t.2.1 + 10000 * t.2.2.1 + t.2.2.2
def tk_ok (t : Tk) : Prop := (t.1 = 0 ∧ t.2.1 ≤ 5 ∧ t.2.2.1 ≤ 2 ∧ t.2.2.2 ≤ 999) ∨ (t.1 = 1 ∧ t.2.1 = 0 ∧ t.2.2.1 = 0 ∧ t.2.2.2 ≤ 2) ∨ (2 ≤ t.1 ∧ t.1 ≤ 4 ∧ t.2.1 = 0 ∧ t.2.2.1 = 0 ∧ t.2.2.2 = 0)
/-- how many truths stand then; none where there are too few or too many -/
def tk_run : List Tk → Nat → Option Nat
  | [], h => some h
  | t :: ts, h => if t.1 ≤ 1 then (if h < 20 then tk_run ts (h + 1) else none) else if t.1 = 2 then (if 1 ≤ h then tk_run ts h else none) else (if 2 ≤ h then tk_run ts (h - 1) else none)
/-- how great a line's number may be -/
def lmx (s : Int32) : Nat := if s = 0 then 9 else if s = 3 then 999 else 100
/-- one line -/
def Line1 (B v j l : Nat) (σ : am_I) (ρ : am_R) (τ : am_T) : Prop :=
  τ.1 l = 5 ∧ EQ 4 (σ l 0) (σ (B + 21) j) ∧ σ l 1 = σ (B + 22) j ∧ (σ (B + 21) j ≠ 2 → EQ (lmx (σ (B + 21) j)) (σ l 1) (σ (B + 22) j)) ∧ σ l 2 = σ (B + 23) j ∧ (σ (B + 21) j = 4 → σ l 2 = -9) ∧
  ∃ (ts : List Tk) (f : Nat), (∀ t ∈ ts, tk_ok t) ∧ f + ts.length ≤ 240 ∧ σ (B + 24) j = nI f ∧ σ (B + 25) j = nI (f + ts.length) ∧
    (∀ k, k < ts.length → σ (B + 26) (256 * v + f + k) = nI (tk_M (ts.getD k tk_no))) ∧
    (ts = [] ∧ ρ l 3 = none ∨ ts ≠ [] ∧ tk_run ts 0 = some 1 ∧ ∃ cd, ρ l 3 = some cd ∧ cd < τ.2.2.1 ∧ τ.1 cd = 15 ∧ τ.2.1 cd = ts.length ∧ 261 ≤ cd ∧ ∀ k, k < ts.length → σ cd k = nI (tk_C (ts.getD k tk_no)))
/-- one version -/
def Stat1 (a B v : Nat) (σ : am_I) (ρ : am_R) (τ : am_T) : Prop :=
  ∃ s la n : Nat, ρ (a + 8) v = some s ∧ 261 ≤ s ∧ s < τ.2.2.1 ∧ τ.1 s = 9 ∧ EQ 599 (σ s 0) (σ (B + 19) v) ∧ ρ s 1 = some la ∧ 261 ≤ la ∧ la < τ.2.2.1 ∧ τ.1 la = 19 ∧ τ.2.1 la = n ∧ n ≤ 10 ∧
    σ (B + 20) v = nI n ∧ ∀ i, i < n → ∃ l, ρ la i = some l ∧ 261 ≤ l ∧ l < τ.2.2.1 ∧ Line1 B v (10 * v + i) l σ ρ τ
def Stats (a B V : Nat) (σ : am_I) (ρ : am_R) (τ : am_T) : Prop := ∀ v, v < V → Stat1 a B v σ ρ τ
def Rld (a B : Nat) (c : Cn) (σ : am_I) (ρ : am_R) (τ : am_T) : Prop := (Bn c) ∧ (Scal a B c σ) ∧ (Rhl a B σ) ∧ (Prov a B (c 1) σ) ∧ (Debts a B (c 2) σ) ∧ (Stats a B (c 3) σ ρ τ) ∧ (Rail a B (c 4) (c 1) σ) ∧ (Pap a B (c 5) σ) ∧ (Tak a B (c 6) σ) ∧ (Cho a B (c 7) σ)
theorem Rld.bn {a B : Nat} {c : Cn} {σ : am_I} {ρ : am_R} {τ : am_T} (h : Rld a B c σ ρ τ) : Bn c := h.1
theorem Rld.sc {a B : Nat} {c : Cn} {σ : am_I} {ρ : am_R} {τ : am_T} (h : Rld a B c σ ρ τ) : Scal a B c σ := h.2.1
theorem Rld.rh {a B : Nat} {c : Cn} {σ : am_I} {ρ : am_R} {τ : am_T} (h : Rld a B c σ ρ τ) : Rhl a B σ := h.2.2.1
theorem Rld.pr {a B : Nat} {c : Cn} {σ : am_I} {ρ : am_R} {τ : am_T} (h : Rld a B c σ ρ τ) : Prov a B (c 1) σ := h.2.2.2.1
theorem Rld.db {a B : Nat} {c : Cn} {σ : am_I} {ρ : am_R} {τ : am_T} (h : Rld a B c σ ρ τ) : Debts a B (c 2) σ := h.2.2.2.2.1
theorem Rld.st {a B : Nat} {c : Cn} {σ : am_I} {ρ : am_R} {τ : am_T} (h : Rld a B c σ ρ τ) : Stats a B (c 3) σ ρ τ := h.2.2.2.2.2.1
theorem Rld.rw {a B : Nat} {c : Cn} {σ : am_I} {ρ : am_R} {τ : am_T} (h : Rld a B c σ ρ τ) : Rail a B (c 4) (c 1) σ := h.2.2.2.2.2.2.1
theorem Rld.pa {a B : Nat} {c : Cn} {σ : am_I} {ρ : am_R} {τ : am_T} (h : Rld a B c σ ρ τ) : Pap a B (c 5) σ := h.2.2.2.2.2.2.2.1
theorem Rld.tk {a B : Nat} {c : Cn} {σ : am_I} {ρ : am_R} {τ : am_T} (h : Rld a B c σ ρ τ) : Tak a B (c 6) σ := h.2.2.2.2.2.2.2.2.1
theorem Rld.ch {a B : Nat} {c : Cn} {σ : am_I} {ρ : am_R} {τ : am_T} (h : Rld a B c σ ρ τ) : Cho a B (c 7) σ := h.2.2.2.2.2.2.2.2.2
/-- THE TAPE -/
def sg8 (b : Nat) : Int32 := if b < 128 then nI b else nI b - 256
def Tape (σ : am_I) : Prop := ∃ l : Nat, l ≤ 240 ∧ σ 131 1 = nI l ∧ σ 160 44 = nI l ∧ ∀ i, i < l → ∃ b : Nat, b < 256 ∧ σ 203 i = nI b ∧ σ 132 i = sg8 b
def Rows (σ : am_I) : Prop := σ 143 0 = nI 8 ∧ σ 143 1 = nI 2 ∧ ∃ r : Nat, r ≤ 8 ∧ σ 143 3 = nI r ∧ σ 160 47 = nI r ∧ ∀ i, i < r → σ 144 (2 * i) = σ 204 i ∧ σ 144 (2 * i + 1) = σ 205 i
def Sheets (σ : am_I) (g : am_J) : Prop :=
  ∀ k, k < 4 → σ 146 k = σ 207 k ∧ (σ 207 k = -1 ∨ ∃ s, s ≤ 4 ∧ σ 207 k = nI s) ∧ EQ 40 (σ 147 k) (σ 208 k) ∧ ∀ i, i < 40 → g 206 (40 * k + i) = (σ (149 + k) i).toInt64
def Shelves (σ : am_I) : Prop :=
  ∀ k, k < 4 → EQ 3 (σ 153 k) (σ 209 k) ∧ ((σ 209 k = 0 ∨ σ 209 k = 1) → EQ 20 (σ 154 k) (σ 210 k)) ∧ (σ 209 k = 2 → EQ 4 (σ 155 k) (σ 210 k) ∧ EQ 40 (σ 154 k) (σ 211 k))
def Trac (σ : am_I) : Prop := ∃ t : Nat, t ≤ 30 ∧ σ 156 6 = nI t ∧ σ 160 55 = nI t ∧ ∀ i, i < t → σ 157 i = σ 212 i
/-- what stands outside: the tables, the names -/
def Bgd (σ : am_I) (τ : am_T) : Prop := ∀ i, i ≠ 2 → i < 79 → σ (1000000 + i) = am_oS (fun _ => 0) i ∧ τ.1 (1000000 + i) = am_oK i ∧ τ.2.1 (1000000 + i) = am_oL 0 0 i
def INV (σ : am_I) (ρ : am_R) (g : am_J) (τ : am_T) : Prop := (Sh ρ τ ∧ Bgd σ τ) ∧ (Led 1 σ ∧ Led 66 σ) ∧ (∃ c, Rld 1 161 c σ ρ τ) ∧ (σ 0 2 = 0 ∧ σ 160 42 = 0 ∨ σ 0 2 = 1 ∧ σ 160 42 = 1 ∧ ∃ c, Rld 66 221 c σ ρ τ) ∧ (Tape σ) ∧ (Rows σ) ∧ (Sheets σ g) ∧ (Shelves σ) ∧ (Trac σ)
theorem INV.sh {σ : am_I} {ρ : am_R} {g : am_J} {τ : am_T} (h : INV σ ρ g τ) : Sh ρ τ := h.1.1
theorem INV.bg {σ : am_I} {ρ : am_R} {g : am_J} {τ : am_T} (h : INV σ ρ g τ) : Bgd σ τ := h.1.2
theorem Bgd.cg {σ σ' : am_I} {τ : am_T} (h : Bgd σ τ) (e : ∀ y, 221 ≤ y → σ' y = σ y) : Bgd σ' τ := by
  intro i h1 h2
  rw [e _ (by omega)]
  exact h i h1 h2
theorem INV.ld {σ : am_I} {ρ : am_R} {g : am_J} {τ : am_T} (h : INV σ ρ g τ) : Led 1 σ ∧ Led 66 σ := h.2.1
theorem INV.cur {σ : am_I} {ρ : am_R} {g : am_J} {τ : am_T} (h : INV σ ρ g τ) : ∃ c, Rld 1 161 c σ ρ τ := h.2.2.1
theorem INV.kep {σ : am_I} {ρ : am_R} {g : am_J} {τ : am_T} (h : INV σ ρ g τ) : σ 0 2 = 0 ∧ σ 160 42 = 0 ∨ σ 0 2 = 1 ∧ σ 160 42 = 1 ∧ ∃ c, Rld 66 221 c σ ρ τ := h.2.2.2.1
theorem INV.tap {σ : am_I} {ρ : am_R} {g : am_J} {τ : am_T} (h : INV σ ρ g τ) : Tape σ := h.2.2.2.2.1
theorem INV.row {σ : am_I} {ρ : am_R} {g : am_J} {τ : am_T} (h : INV σ ρ g τ) : Rows σ := h.2.2.2.2.2.1
theorem INV.she {σ : am_I} {ρ : am_R} {g : am_J} {τ : am_T} (h : INV σ ρ g τ) : Sheets σ g := h.2.2.2.2.2.2.1
theorem INV.slv {σ : am_I} {ρ : am_R} {g : am_J} {τ : am_T} (h : INV σ ρ g τ) : Shelves σ := h.2.2.2.2.2.2.2.1
theorem INV.tra {σ : am_I} {ρ : am_R} {g : am_J} {τ : am_T} (h : INV σ ρ g τ) : Trac σ := h.2.2.2.2.2.2.2.2
/-! what a component looks at -/
theorem u_ne {α : Type} (f : Nat → Nat → α) (a k : Nat) (v : α) {b : Nat} (h : b ≠ a) : am_u f a k v b = f b := by
  funext j
  rw [u_eq, if_neg h]
theorem Scal.cg {a B : Nat} {c : Cn} {σ σ' : am_I} (h : Scal a B c σ) (e1 : σ' a = σ a) (e2 : σ' B = σ B) (e3 : σ' (a + 9) = σ (a + 9)) (e4 : σ' (a + 11) = σ (a + 11)) (e5 : σ' (a + 13) = σ (a + 13)) (e6 : σ' (a + 15) = σ (a + 15)) : Scal a B c σ' := by
  unfold Scal at *
  rw [e1, e2, e3, e4, e5, e6]
  exact h
theorem Led.cg {a : Nat} {σ σ' : am_I} (h : Led a σ) (e3 : σ' (a + 9) = σ (a + 9)) (e4 : σ' (a + 11) = σ (a + 11)) (e5 : σ' (a + 13) = σ (a + 13)) (e6 : σ' (a + 15) = σ (a + 15)) : Led a σ' := by
  unfold Led at *
  rw [e3, e4, e5, e6]
  exact h
theorem Rhl.cg {a B : Nat} {σ σ' : am_I} (h : Rhl a B σ) (e1 : ∀ y, a + 1 ≤ y → y < a + 4 → σ' y = σ y) (e2 : ∀ y, B + 1 ≤ y → y < B + 4 → σ' y = σ y) : Rhl a B σ' := by
  unfold Rhl at *
  rw [e1 (a + 1) (by omega) (by omega), e1 (a + 2) (by omega) (by omega), e1 (a + 3) (by omega) (by omega), e2 (B + 1) (by omega) (by omega), e2 (B + 2) (by omega) (by omega), e2 (B + 3) (by omega) (by omega)]
  exact h
theorem Prov.cg {a B P : Nat} {σ σ' : am_I} (h : Prov a B P σ) (hP : P ≤ 8) (e1 : ∀ y, a + 17 ≤ y → y < a + 33 → σ' y = σ y) (e2 : ∀ y, B + 4 ≤ y → y < B + 9 → σ' y = σ y) : Prov a B P σ' := by
  intro p hp
  rw [e1 (a + 17 + 2 * p) (by omega) (by omega), e1 (a + 18 + 2 * p) (by omega) (by omega), e2 (B + 4) (by omega) (by omega), e2 (B + 5) (by omega) (by omega), e2 (B + 6) (by omega) (by omega), e2 (B + 7) (by omega) (by omega), e2 (B + 8) (by omega) (by omega)]
  exact h p hp
theorem Debt1.cg {a B i : Nat} {σ σ' : am_I} (h : Debt1 a B i σ) (e1 : σ' (a + 33 + 2 * i) = σ (a + 33 + 2 * i)) (e3 : σ' (a + 34 + 2 * i) = σ (a + 34 + 2 * i)) (e2 : ∀ y, B + 9 ≤ y → y < B + 19 → σ' y = σ y) : Debt1 a B i σ' := by
  unfold Debt1 at *
  rw [e1, e3, e2 (B + 9) (by omega) (by omega), e2 (B + 10) (by omega) (by omega), e2 (B + 11) (by omega) (by omega), e2 (B + 12) (by omega) (by omega), e2 (B + 13) (by omega) (by omega), e2 (B + 14) (by omega) (by omega), e2 (B + 15) (by omega) (by omega), e2 (B + 16) (by omega) (by omega), e2 (B + 17) (by omega) (by omega), e2 (B + 18) (by omega) (by omega)]
  exact h
theorem Debts.cg {a B D : Nat} {σ σ' : am_I} (h : Debts a B D σ) (hD : D ≤ 16) (e1 : ∀ y, a + 33 ≤ y → y < a + 65 → σ' y = σ y) (e2 : ∀ y, B + 9 ≤ y → y < B + 19 → σ' y = σ y) : Debts a B D σ' :=
  fun i hi => (h i hi).cg (e1 _ (by omega) (by omega)) (e1 _ (by omega) (by omega)) e2
theorem Rail.cg {a B R P : Nat} {σ σ' : am_I} (h : Rail a B R P σ) (e1 : σ' (a + 10) = σ (a + 10)) (e2 : ∀ y, B + 27 ≤ y → y < B + 30 → σ' y = σ y) : Rail a B R P σ' := by
  intro p hp
  rw [e1, e2 (B + 27) (by omega) (by omega), e2 (B + 28) (by omega) (by omega), e2 (B + 29) (by omega) (by omega)]
  exact h p hp
theorem Pap.cg {a B A : Nat} {σ σ' : am_I} (h : Pap a B A σ) (e1 : σ' (a + 12) = σ (a + 12)) (e2 : ∀ y, B + 30 ≤ y → y < B + 35 → σ' y = σ y) : Pap a B A σ' := by
  intro p hp
  rw [e1, e2 (B + 30) (by omega) (by omega), e2 (B + 31) (by omega) (by omega), e2 (B + 32) (by omega) (by omega), e2 (B + 33) (by omega) (by omega), e2 (B + 34) (by omega) (by omega)]
  exact h p hp
theorem Tak.cg {a B T : Nat} {σ σ' : am_I} (h : Tak a B T σ) (e1 : σ' (a + 14) = σ (a + 14)) (e2 : ∀ y, B + 35 ≤ y → y < B + 38 → σ' y = σ y) : Tak a B T σ' := by
  intro p hp
  rw [e1, e2 (B + 35) (by omega) (by omega), e2 (B + 36) (by omega) (by omega), e2 (B + 37) (by omega) (by omega)]
  exact h p hp
theorem Cho.cg {a B C : Nat} {σ σ' : am_I} (h : Cho a B C σ) (e1 : σ' (a + 16) = σ (a + 16)) (e2 : ∀ y, B + 38 ≤ y → y < B + 40 → σ' y = σ y) : Cho a B C σ' := by
  intro p hp
  rw [e1, e2 (B + 38) (by omega) (by omega), e2 (B + 39) (by omega) (by omega)]
  exact h p hp
