/-! read: the tape by itself -/
def rn (P : Nat → Bool) (b : Nat → Nat) : Nat → Nat → Nat
  | 0, i => i
  | n + 1, i => if P (b i) = true then rn P b n (i + 1) else i
theorem rn_sp {P : Nat → Bool} {b : Nat → Nat} : ∀ n i, i ≤ rn P b n i ∧ rn P b n i ≤ i + n ∧ (∀ t, i ≤ t → t < rn P b n i → P (b t) = true) ∧ (rn P b n i < i + n → P (b (rn P b n i)) = false)
  | 0, i => ⟨Nat.le_refl _, Nat.le_refl _, fun t h1 h2 => absurd h2 (by show ¬ t < i; omega), fun h => absurd h (by show ¬ i < i + 0; omega)⟩
  | n + 1, i => by
    by_cases q : P (b i) = true
    · have u : rn P b (n + 1) i = rn P b n (i + 1) := if_pos q
      obtain ⟨h1, h2, h3, h4⟩ := rn_sp (P := P) (b := b) n (i + 1)
      rw [u]
      refine ⟨by omega, by omega, fun t t1 t2 => ?_, fun h => h4 (by omega)⟩
      by_cases z : t = i
      · rw [z]
        exact q
      · exact h3 t (by omega) t2
    · have u : rn P b (n + 1) i = i := if_neg q
      rw [u]
      refine ⟨Nat.le_refl _, by omega, fun t t1 t2 => absurd t2 (by omega), fun _ => ?_⟩
      cases z : P (b i)
      · rfl
      · exact absurd z q
theorem rn_un {P : Nat → Bool} {b : Nat → Nat} {n i e : Nat} (h1 : i ≤ e) (h2 : e ≤ i + n) (h3 : ∀ t, i ≤ t → t < e → P (b t) = true) (h4 : e < i + n → P (b e) = false) : rn P b n i = e := by
  obtain ⟨g1, g2, g3, g4⟩ := rn_sp (P := P) (b := b) n i
  by_cases q : rn P b n i < e
  · have a := h3 _ g1 q
    have c := g4 (by omega)
    rw [a] at c
    exact absurd c (by decide)
  · by_cases z : e < rn P b n i
    · have a := g3 e h1 z
      have c := h4 (by omega)
      rw [a] at c
      exact absurd c (by decide)
    · omega
def isS (x : Nat) : Bool := decide (x = 32)
def isL (x : Nat) : Bool := decide (97 ≤ x ∧ x ≤ 122)
def isD (x : Nat) : Bool := decide (48 ≤ x ∧ x ≤ 57)
/-- behind the spaces -/
def sk (b : Nat → Nat) (l i : Nat) : Nat := rn isS b (l - i) i
/-- the sort of the token at p: 0 the end, 1 a name, 2 a number, 3 another sign -/
def kd (b : Nat → Nat) (l p : Nat) : Nat := if l ≤ p then 0 else if isL (b p) = true then 1 else if isD (b p) = true then 2 else 3
/-- behind the token at p -/
def te (b : Nat → Nat) (l p : Nat) : Nat := if kd b l p = 0 then p else if kd b l p = 1 then rn isL b (l - p) p else if kd b l p = 2 then rn isD b (l - p) p else p + 1
/-- k digits from p on -/
def dg (b : Nat → Nat) (p : Nat) : Nat → Nat
  | 0 => 0
  | k + 1 => 10 * dg b p k + (b (p + k) - 48)
def tvl (b : Nat → Nat) (l p : Nat) : Int32 := if kd b l p = 2 then (if te b l p - p ≤ 3 then nI (dg b p (te b l p - p)) else -1) else if kd b l p = 3 then sg8 (b p) else 0
def nx (b : Nat → Nat) (l p : Nat) : Nat := sk b l (te b l p)
theorem kd_0 {b : Nat → Nat} {l p : Nat} (h : l ≤ p) : kd b l p = 0 := if_pos h
theorem kd_1 {b : Nat → Nat} {l p : Nat} (h : p < l) (h1 : isL (b p) = true) : kd b l p = 1 := by
  unfold kd
  rw [if_neg (by omega), if_pos h1]
theorem kd_2 {b : Nat → Nat} {l p : Nat} (h : p < l) (h1 : isL (b p) = false) (h2 : isD (b p) = true) : kd b l p = 2 := by
  unfold kd
  rw [if_neg (by omega), if_neg (by rw [h1]; decide), if_pos h2]
theorem kd_3 {b : Nat → Nat} {l p : Nat} (h : p < l) (h1 : isL (b p) = false) (h2 : isD (b p) = false) : kd b l p = 3 := by
  unfold kd
  rw [if_neg (by omega), if_neg (by rw [h1]; decide), if_neg (by rw [h2]; decide)]
theorem kd_c (b : Nat → Nat) (l p : Nat) : (l ≤ p ∧ kd b l p = 0) ∨ (p < l ∧ isL (b p) = true ∧ kd b l p = 1) ∨ (p < l ∧ isL (b p) = false ∧ isD (b p) = true ∧ kd b l p = 2) ∨ (p < l ∧ isL (b p) = false ∧ isD (b p) = false ∧ kd b l p = 3) := by
  by_cases h : l ≤ p
  · exact Or.inl ⟨h, kd_0 h⟩
  have h : p < l := by omega
  cases h1 : isL (b p)
  · cases h2 : isD (b p)
    · exact Or.inr (Or.inr (Or.inr ⟨h, rfl, rfl, kd_3 h h1 h2⟩))
    · exact Or.inr (Or.inr (Or.inl ⟨h, rfl, rfl, kd_2 h h1 h2⟩))
  · exact Or.inr (Or.inl ⟨h, rfl, kd_1 h h1⟩)
theorem te_0 {b : Nat → Nat} {l p : Nat} (h : kd b l p = 0) : te b l p = p := if_pos h
theorem te_1 {b : Nat → Nat} {l p : Nat} (h : kd b l p = 1) : te b l p = rn isL b (l - p) p := by
  unfold te
  rw [if_neg (by omega), if_pos h]
theorem te_2 {b : Nat → Nat} {l p : Nat} (h : kd b l p = 2) : te b l p = rn isD b (l - p) p := by
  unfold te
  rw [if_neg (by omega), if_neg (by omega), if_pos h]
theorem te_3 {b : Nat → Nat} {l p : Nat} (h : kd b l p = 3) : te b l p = p + 1 := by
  unfold te
  rw [if_neg (by omega), if_neg (by omega), if_neg (by omega)]
theorem rn_pos {P : Nat → Bool} {b : Nat → Nat} {l p : Nat} (h : p < l) (hp : P (b p) = true) : p < rn P b (l - p) p := by
  obtain ⟨h1, h2, h3, h4⟩ := rn_sp (P := P) (b := b) (l - p) p
  by_cases q : rn P b (l - p) p = p
  · rw [q] at h4
    have := h4 (by omega)
    rw [hp] at this
    exact absurd this (by decide)
  · omega
theorem te_b {b : Nat → Nat} {l p : Nat} (h : p ≤ l) : p ≤ te b l p ∧ te b l p ≤ l ∧ (kd b l p ≠ 0 → p < te b l p) := by
  rcases kd_c b l p with ⟨h1, h2⟩ | ⟨h1, h2, h3⟩ | ⟨h1, h2, h3, h4⟩ | ⟨h1, h2, h3, h4⟩
  · rw [te_0 h2]
    exact ⟨Nat.le_refl _, h, fun q => absurd h2 q⟩
  · rw [te_1 h3]
    obtain ⟨g1, g2, _⟩ := rn_sp (P := isL) (b := b) (l - p) p
    exact ⟨g1, by omega, fun _ => rn_pos h1 h2⟩
  · rw [te_2 h4]
    obtain ⟨g1, g2, _⟩ := rn_sp (P := isD) (b := b) (l - p) p
    exact ⟨g1, by omega, fun _ => rn_pos h1 h3⟩
  · rw [te_3 h4]
    exact ⟨by omega, by omega, fun _ => by omega⟩
theorem sk_b {b : Nat → Nat} {l i : Nat} (h : i ≤ l) : i ≤ sk b l i ∧ sk b l i ≤ l := by
  obtain ⟨g1, g2, _⟩ := rn_sp (P := isS) (b := b) (l - i) i
  unfold sk
  omega
theorem sk_sk {b : Nat → Nat} {l i : Nat} (h : i ≤ l) : sk b l (sk b l i) = sk b l i := by
  obtain ⟨g1, g2, g3, g4⟩ := rn_sp (P := isS) (b := b) (l - i) i
  have s := sk_b (b := b) h
  have e : sk b l i = rn isS b (l - i) i := rfl
  refine rn_un (Nat.le_refl _) (by omega) (fun t t1 t2 => absurd t2 (by omega)) (fun q => ?_)
  rw [e] at q ⊢
  exact g4 (by omega)
theorem nx_b {b : Nat → Nat} {l p : Nat} (h : p ≤ l) : p ≤ nx b l p ∧ nx b l p ≤ l ∧ (kd b l p ≠ 0 → p < nx b l p) := by
  obtain ⟨t1, t2, t3⟩ := te_b (b := b) h
  obtain ⟨s1, s2⟩ := sk_b (b := b) (i := te b l p) t2
  have e : nx b l p = sk b l (te b l p) := rfl
  refine ⟨by omega, by omega, fun q => ?_⟩
  have := t3 q
  omega
/-! the names -/
def nmL (i : Nat) : Nat := (am_SB.getD i []).length
def nmC (i k : Nat) : Nat := ((am_SB.getD i []).getD k 0).toNatClampNeg
/-- the token at p is just this name -/
def nm (b : Nat → Nat) (l p i : Nat) : Bool := decide (kd b l p = 1 ∧ te b l p = p + nmL i ∧ ∀ k, k < nmL i → b (p + k) = nmC i k)
theorem nm_two : ∀ i : Fin 19, am_SB.getD (i.1 + 19) [] = am_SB.getD i.1 [] := by decide
theorem nmL2 {i : Nat} (h : i < 19) : nmL (i + 19) = nmL i := by
  unfold nmL
  rw [nm_two ⟨i, h⟩]
theorem nmC2 {i k : Nat} (h : i < 19) : nmC (i + 19) k = nmC i k := by
  unfold nmC
  rw [nm_two ⟨i, h⟩]
theorem nm_all : ∀ i : Fin 38, (1 ≤ nmL i.1 ∧ nmL i.1 ≤ 7) ∧ ∀ k : Fin 7, k.1 < nmL i.1 → isL (nmC i.1 k.1) = true ∧ nmC i.1 k.1 < 128 ∧ (am_SB.getD i.1 []).getD k.1 0 = nI (nmC i.1 k.1) := by decide +kernel
theorem nm_len {i : Nat} (h : i < 38) : 1 ≤ nmL i ∧ nmL i ≤ 7 := (nm_all ⟨i, h⟩).1
theorem nm_ch {i k : Nat} (h : i < 38) (hk : k < nmL i) : isL (nmC i k) = true ∧ nmC i k < 128 ∧ (am_SB.getD i []).getD k 0 = nI (nmC i k) := (nm_all ⟨i, h⟩).2 ⟨k, by have := nm_len h; omega⟩ hk
theorem sg_L : ∀ b : Fin 256, decide ((97 : Int32) ≤ sg8 b.1 ∧ sg8 b.1 ≤ 122) = isL b.1 := by decide +kernel
theorem sg_D : ∀ b : Fin 256, decide ((48 : Int32) ≤ sg8 b.1 ∧ sg8 b.1 ≤ 57) = isD b.1 := by decide +kernel
theorem sg_S : ∀ b : Fin 256, decide (sg8 b.1 = 32) = isS b.1 := by decide +kernel
theorem nI_L : ∀ b : Fin 256, decide ((97 : Int32) ≤ nI b.1 ∧ nI b.1 ≤ 122) = isL b.1 := by decide +kernel
theorem nI_D : ∀ b : Fin 256, decide ((48 : Int32) ≤ nI b.1 ∧ nI b.1 ≤ 57) = isD b.1 := by decide +kernel
theorem nI_S : ∀ b : Fin 256, decide (nI b.1 = 32) = isS b.1 := by decide +kernel
theorem sg_c {x c : Nat} (hx : x < 256) (hc : c < 128) : (sg8 x = nI c) = (x = c) := by
  have k : ∀ x : Fin 256, sg8 x.1 = nI x.1 ∨ sg8 x.1 < 0 := by decide +kernel
  refine propext ⟨fun h => ?_, fun h => ?_⟩
  · rcases k ⟨x, hx⟩ with e | e
    · have e : sg8 x = nI x := e
      rw [e] at h
      by_cases q : x = c
      · exact q
      · exact absurd h (nI_nj q (by omega) (by omega))
    · have e : sg8 x < 0 := e
      rw [h] at e
      exact absurd e (Int32.not_lt.mpr (nI_le (a := 0) (Nat.zero_le _) (by omega)))
  · rw [h]
    exact if_pos hc
theorem isL_D {x : Nat} (h : isL x = true) : isD x = false := by
  have := of_decide_eq_true h
  exact decide_eq_false (by omega)
theorem isL_S {x : Nat} (h : isL x = true) : isS x = false := by
  have := of_decide_eq_true h
  exact decide_eq_false (by omega)
/-- k bytes match, and no letter follows: just the name -/
theorem nm_of {b : Nat → Nat} {l p i : Nat} (hi : i < 38) (hm : ∀ k, k < nmL i → b (p + k) = nmC i k) (hl : p + nmL i ≤ l) (hn : p + nmL i < l → isL (b (p + nmL i)) = false) : nm b l p i = true := by
  obtain ⟨n1, n2⟩ := nm_len hi
  have L : ∀ t, p ≤ t → t < p + nmL i → isL (b t) = true := fun t t1 t2 => by
    have := hm (t - p) (by omega)
    rw [show p + (t - p) = t by omega] at this
    rw [this]
    exact (nm_ch hi (by omega)).1
  have k1 : kd b l p = 1 := kd_1 (by omega) (L p (Nat.le_refl _) (by omega))
  have t1 : te b l p = p + nmL i := by
    rw [te_1 k1]
    exact rn_un (by omega) (by omega) L (fun q => hn (by omega))
  exact decide_eq_true ⟨k1, t1, hm⟩
theorem nm_t {b : Nat → Nat} {l p i : Nat} (h : nm b l p i = true) : kd b l p = 1 ∧ te b l p = p + nmL i ∧ ∀ k, k < nmL i → b (p + k) = nmC i k := of_decide_eq_true h
