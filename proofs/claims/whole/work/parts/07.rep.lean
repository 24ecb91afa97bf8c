/-! the two heaps -/
def am_va (E : am_E) (σ : am_I) (ρ : am_R) (g : am_J) (kd a j : Nat) : Value := if kd = 16 then .long (g a j) else if 18 ≤ kd then va_rf ((ρ a j).map (am_ad E)) else .int (σ a j)
def am_vo (E : am_E) (σ : am_I) (ρ : am_R) (ci a k : Nat) : Value := if am_iR ci k = true then va_rf ((ρ a k).map (am_ad E)) else .int (σ a k)
def am_PC (E : am_E) (σ : am_I) (ρ : am_R) (g : am_J) (τ : am_T) (H : Heap) (a : Nat) : Prop :=
  (τ.1 a < 13 ∧ ∃ r : vw_C, vwCl[τ.1 a]? = some r ∧ t_OB (eB E + a) (eC E (τ.1 a)) r.2.2 (eI E (τ.1 a)) H (am_vo E σ ρ (τ.1 a) a)) ∨
  ((14 ≤ τ.1 a ∧ τ.1 a ≤ 22) ∧ H[eB E + a]? = some (arrV (eY E (τ.1 a)) (τ.2.1 a) (am_va E σ ρ g (τ.1 a) a)))
def am_RP (E : am_E) (σ : am_I) (ρ : am_R) (g : am_J) (τ : am_T) (H : Heap) : Prop :=
  H.size = eB E + τ.2.2.1 ∧ τ.2.2.1 ≤ am_BG ∧ (∀ a, a < τ.2.2.1 → am_PC E σ ρ g τ H a) ∧ (∀ a, τ.2.2.1 ≤ a → a < am_BG → τ.1 a = 99) ∧ ∀ a, am_BG ≤ a → τ.1 a = eK E a ∧ τ.2.1 a = eL E a ∧ σ a = eS E a
def am_A (E : am_E) : Nat → Prop := fun q => eB E ≤ q
def am_tyK : Nat → FieldType
  | 14 => .byte
  | 15 => .int
  | 16 => .long
  | 17 => .boolean
  | 18 => .object RX1
  | 19 => .object RX5
  | 20 => .object RX7
  | 21 => .object RX9
  | _ => .array .int
def am_AO (U : State) : Prop := (Cond.arrayOver (.array .int)).before #[] U = true
theorem am_AO_moved {u U : State} (hvm : u.vm.Alike U.vm) (h : am_AO u) : am_AO U := by
  obtain ⟨comp, c, k, h1, h2, h3, h4, h5⟩ := arrayOverA_spec h
  obtain ⟨k', hk', he⟩ := hvm.2.2 _ _ h3
  have e1 := va_idx_bare u.vm comp
  have e2 := va_idx_bare U.vm comp
  first | rw [hvm.bare_eq] at e1 | rw [← hvm.bare_eq] at e1
  have hi := e2.symm.trans (e1.trans h2)
  have hkind : k'.kind = .array comp (.array .int) := by rw [he]; exact h4
  have f1 : U.vm.findClass (FieldType.array .int).toString = some comp := by rw [hvm.findClass]; exact h1
  have f2 : U.vm.findClass ("[" ++ (FieldType.array .int).toString) = some c := by rw [hvm.findClass]; exact h5
  unfold am_AO Cond.before Cond.holds
  simp only [Cond.value]
  rw [f1, Option.bind_some]
  refine (congrArg (fun o : Option Nat => (o.bind (fun c => (U.vm.classes[c]?).map fun (k : Class) => match k.kind with | .array _ ty => decide (ty = FieldType.array .int) && decide (U.vm.findClass ("[" ++ (FieldType.array .int).toString) = some c) | _ => false) == some true)) hi).trans ?_
  simp [hk', hkind, f2]
/-- what stands outside, and what the tables say, at a state -/
def am_WD (E : am_E) (s : State) : Prop :=
  (∀ (c : Nat) (q : vw_C), vwCl[c]? = some q → u_Kn s q.1 q.2.1 q.2.2 (eC E c) (eI E c)) ∧
  (∀ kd, 14 ≤ kd → kd ≤ 22 → ArrOfT s (eY E kd) (am_tyK kd) ∧ va_RA s (eY E kd) (am_tyK kd)) ∧
  (∀ a, am_BG ≤ a → eK E a = 15 → va_T .int (eO E (a - am_BG)) (eL E a) (fun j => .int (eS E a j)) (am_A E) s s.heap) ∧
  (∀ a, am_BG ≤ a → eK E a = 14 → va_T .byte (eO E (a - am_BG)) (eL E a) (fun j => .int (eS E a j)) (am_A E) s s.heap) ∧
  (∀ a, am_BG ≤ a → eK E a = 13 → va_O "java/lang/String" (eO E (a - am_BG)) (am_A E) s s.heap ∧ va_OF "java/lang/String" "coder" "B" (.int 0) (eO E (a - am_BG)) (am_A E) s s.heap ∧ va_OF "java/lang/String" "value" "[B" (.ref (eO E (a + 38 - am_BG))) (eO E (a - am_BG)) (am_A E) s s.heap) ∧
  (∀ a, am_BG ≤ a → eK E a = 13 ∨ eK E a = 14 ∨ eK E a = 15 ∨ eK E a = 99) ∧
  (va_Z "DebtCouncil" "ABOVE" "[I" (.ref (eO E 0)) (am_A E) s s.heap ∧ va_Z "DebtCouncil" "BODIES" "[I" (.ref (eO E 1)) (am_A E) s s.heap ∧ va_Z "java/lang/String" "COMPACT_STRINGS" "Z" (.int 1) (am_A E) s s.heap ∧ va_Z "jdk/internal/util/Preconditions" "SIOOBE_FORMATTER" "Ljava/util/function/BiFunction;" (va_rf (eF E)) (am_A E) s s.heap) ∧
  (∀ (i : Nat) (q : String × Nat × String), am_S[i]? = some q → vk_R q.1 q.2.1 q.2.2 (eO E (3 + i)) s) ∧
  (∀ (o : String) (i : Nat) (x : MethodName) (h : String), Cond.methodLinkNest o i x h ∈ lw_tbl → va_Nw (.methodLinkNest o i x h) s) ∧
  (∀ (o : String) (i : Nat) (b n d h : String), Cond.fieldLinkNest o i b n d h ∈ lw_tbl → va_Nw (.fieldLinkNest o i b n d h) s) ∧
  (∀ C : String, Cond.arrayOver (.object C) ∈ lw_tbl → va_AO C s) ∧
  am_AO s
theorem am_WD.pass {E : am_E} {s U : State} {H : Heap} (h : am_WD E s) (hk : ∀ q : Nat, q < s.heap.size → ¬ am_A E q → H[q]? = s.heap[q]?) (hU : U.heap = H) (hW : s.WarmedH U.vm) : am_WD E U := by
  obtain ⟨h1, h2, h3, h4, h5, h6, h7, h8, h9, h10, h11, h12⟩ := h
  subst hU
  refine ⟨fun c q hq => u_Kn_moved hW.alike (h1 c q hq), fun kd a b => ⟨arrOfT_moved hW.alike (h2 kd a b).1, (h2 kd a b).2.moved hW.alike⟩, fun a b c => ((h3 a b c).moved hW.alike).kept hk, fun a b c => ((h4 a b c).moved hW.alike).kept hk, fun a b c => ?_, h6, ⟨(h7.1.moved hW.alike).kept hk, (h7.2.1.moved hW.alike).kept hk, (h7.2.2.1.moved hW.alike).kept hk, (h7.2.2.2.moved hW.alike).kept hk⟩, fun i q hq => (h8 i q hq).warm hW, fun o i x h hm => (h9 o i x h hm).warmM hW, fun o i b n d h hm => (h10 o i b n d h hm).warmF hW, fun C hC => (h11 C hC).moved hW.alike, am_AO_moved hW.alike h12⟩
  obtain ⟨a1, a2, a3⟩ := h5 a b c
  exact ⟨(va_O.moved hW.alike a1).kept hk, (va_OF.moved hW.alike a2).kept hk, (va_OF.moved hW.alike a3).kept hk⟩
theorem am_PC.cong {E : am_E} {σ σ' : am_I} {ρ ρ' : am_R} {g g' : am_J} {τ τ' : am_T} {H H' : Heap} {a : Nat} (h : am_PC E σ ρ g τ H a) (e1 : σ' a = σ a) (e2 : ρ' a = ρ a) (e3 : g' a = g a) (e4 : τ'.1 a = τ.1 a) (e5 : τ'.2.1 a = τ.2.1 a) (e6 : H'[eB E + a]? = H[eB E + a]?) : am_PC E σ' ρ' g' τ' H' a := by
  have v1 : am_vo E σ' ρ' (τ.1 a) a = am_vo E σ ρ (τ.1 a) a := by
    funext k
    simp only [am_vo, e1, e2]
  have v2 : am_va E σ' ρ' g' (τ.1 a) a = am_va E σ ρ g (τ.1 a) a := by
    funext k
    simp only [am_va, e1, e2, e3]
  unfold am_PC
  rw [e4, e5, v1, v2, e6]
  rcases h with ⟨h1, r, h2, h3⟩ | h
  · exact Or.inl ⟨h1, r, h2, h3.kept e6⟩
  · exact Or.inr h
theorem am_RP.put {E : am_E} {σ σ' : am_I} {ρ ρ' : am_R} {g g' : am_J} {τ : am_T} {H H' : Heap} {a : Nat} (h : am_RP E σ ρ g τ H) (ha : a < τ.2.2.1) (e1 : ∀ b, b ≠ a → σ' b = σ b) (e2 : ∀ b, b ≠ a → ρ' b = ρ b) (e3 : ∀ b, b ≠ a → g' b = g b)
    (hz : H'.size = H.size) (ho : ∀ q, q ≠ eB E + a → H'[q]? = H[q]?) (hp : am_PC E σ' ρ' g' τ H' a) : am_RP E σ' ρ' g' τ H' := by
  refine ⟨hz.trans h.1, h.2.1, fun b hb => ?_, h.2.2.2.1, fun b hb => ?_⟩
  · by_cases e : b = a
    · subst e
      exact hp
    · exact (h.2.2.1 b hb).cong (e1 b e) (e2 b e) (e3 b e) rfl rfl (ho _ (by omega))
  · have hne : b ≠ a := by
      have := h.2.1
      omega
    rw [e1 b hne]
    exact h.2.2.2.2 b hb
theorem am_RP.push {E : am_E} {σ : am_I} {ρ : am_R} {g : am_J} {τ : am_T} {H H' : Heap} {kd N : Nat} (h : am_RP E σ ρ g τ H) (hn : τ.2.2.1 + 1 ≤ am_BG) (hz : H'.size = H.size + 1) (ho : ∀ q, q < H.size → H'[q]? = H[q]?)
    (hp : am_PC E (am_new kd N σ ρ g τ).1 (am_new kd N σ ρ g τ).2.1 (am_new kd N σ ρ g τ).2.2.1 (am_new kd N σ ρ g τ).2.2.2 H' τ.2.2.1) : am_RP E (am_new kd N σ ρ g τ).1 (am_new kd N σ ρ g τ).2.1 (am_new kd N σ ρ g τ).2.2.1 (am_new kd N σ ρ g τ).2.2.2 H' := by
  have hs := h.1
  refine ⟨by show _ = _ + (_ + 1); omega, hn, fun b hb => ?_, fun b hb hb2 => ?_, fun b hb => ?_⟩
  · have hb' : b < τ.2.2.1 + 1 := hb
    by_cases e : b = τ.2.2.1
    · subst e
      exact hp
    · exact (h.2.2.1 b (by omega)).cong (if_neg e) (if_neg e) (if_neg e) (if_neg e) (if_neg e) (ho _ (by omega))
  · have hb' : τ.2.2.1 + 1 ≤ b := hb
    show (if b = τ.2.2.1 then kd else τ.1 b) = 99
    rw [if_neg (by omega)]
    exact h.2.2.2.1 b (by omega) hb2
  · have e : b ≠ τ.2.2.1 := by omega
    show (if b = τ.2.2.1 then kd else τ.1 b) = _ ∧ (if b = τ.2.2.1 then N else τ.2.1 b) = _ ∧ (if b = τ.2.2.1 then (fun _ => 0) else σ b) = _
    rw [if_neg e, if_neg e, if_neg e]
    exact h.2.2.2.2 b hb
/-- a cell of the pool: by its kind -/
theorem am_RP.in {E : am_E} {σ : am_I} {ρ : am_R} {g : am_J} {τ : am_T} {H : Heap} {s : State} (h : am_RP E σ ρ g τ H) (hW : am_WD E s) {a kd : Nat} (hk : τ.1 a = kd) (h99 : kd ≠ 99) (hk2 : (kd ≠ 13 ∧ kd ≠ 14 ∧ kd ≠ 15) ∨ a < am_BG) : a < τ.2.2.1 := by
  by_cases hb : a < am_BG
  · by_cases hn : a < τ.2.2.1
    · exact hn
    · exact absurd (hk.symm.trans (h.2.2.2.1 a (by omega) hb)) h99
  · obtain ⟨e, -, -⟩ := h.2.2.2.2 a (by omega)
    have h6 := hW.2.2.2.2.2.1 a (by omega)
    rw [← e, hk] at h6
    rcases hk2 with ⟨q1, q2, q3⟩ | q
    · rcases h6 with z | z | z | z
      · exact absurd z q1
      · exact absurd z q2
      · exact absurd z q3
      · exact absurd z h99
    · exact absurd q hb
theorem am_ad_in {E : am_E} {a : Nat} (h : a < am_BG) : am_ad E a = eB E + a := if_pos h
theorem am_ad_out {E : am_E} {a : Nat} (h : am_BG ≤ a) : am_ad E a = eO E (a - am_BG) := if_neg (by omega)
/-- an object of the pool -/
theorem am_RP.ob {E : am_E} {σ : am_I} {ρ : am_R} {g : am_J} {τ : am_T} {H : Heap} (h : am_RP E σ ρ g τ H) {a : Nat} (ha : a < τ.2.2.1) {r : vw_C} (hr : vwCl[τ.1 a]? = some r) : t_OB (am_ad E a) (eC E (τ.1 a)) r.2.2 (eI E (τ.1 a)) H (am_vo E σ ρ (τ.1 a) a) := by
  have hb : a < am_BG := by
    have := h.2.1
    omega
  rw [am_ad_in hb]
  rcases h.2.2.1 a ha with ⟨-, r', h1, h2⟩ | ⟨h1, -⟩
  · cases hr.symm.trans h1
    exact h2
  · have : τ.1 a < 13 := (List.getElem?_eq_some_iff.mp hr).1
    omega
/-- an array of the pool -/
theorem am_RP.ar {E : am_E} {σ : am_I} {ρ : am_R} {g : am_J} {τ : am_T} {H : Heap} (h : am_RP E σ ρ g τ H) {a : Nat} (ha : a < τ.2.2.1) (hk : 14 ≤ τ.1 a) : H[am_ad E a]? = some (arrV (eY E (τ.1 a)) (τ.2.1 a) (am_va E σ ρ g (τ.1 a) a)) := by
  have hb : a < am_BG := by
    have := h.2.1
    omega
  rw [am_ad_in hb]
  rcases h.2.2.1 a ha with ⟨h0, -⟩ | ⟨-, h1⟩
  · omega
  · exact h1
/-- an array that is read: of the pool, or outside -/
theorem am_rd {E : am_E} {σ : am_I} {ρ : am_R} {g : am_J} {τ : am_T} {H : Heap} {s : State} {locs : List Loc} (h : am_RP E σ ρ g τ H) (hW : am_WD E s) (hS : va_S (am_A E) s.heap H locs) {a : Nat} (hk : 14 ≤ τ.1 a) (hk2 : τ.1 a ≤ 22) :
    ∃ cell : Cell, H[am_ad E a]? = some cell ∧ s.isArrayOf cell (am_tyK (τ.1 a)) ∧ cell.vm ≠ .unknown ∧ τ.2.1 a ≤ cell.slots.size ∧ cell.slots.size.toInt32 = Int32.ofNat (τ.2.1 a) ∧ ∀ j : Nat, j < τ.2.1 a → cell.slots[j]? = some (am_va E σ ρ g (τ.1 a) a j) := by
  by_cases hn : a < τ.2.2.1
  · refine ⟨_, h.ar hn hk, (hW.2.1 _ hk hk2).1 _ _, (fun q => by cases q), (by rw [arrV_size]; exact Nat.le_refl _), (by rw [arrV_size]), fun j hj => arrV_read _ _ hj⟩
  · have hb : am_BG ≤ a := by
      by_cases hb : a < am_BG
      · have := h.2.2.2.1 a (by omega) hb
        omega
      · omega
    obtain ⟨e1, e2, e3⟩ := h.2.2.2.2 a hb
    rw [am_ad_out hb]
    rcases hW.2.2.2.2.2.1 a hb with z | z | z | z
    · omega
    · have hT := (hW.2.2.2.1 a hb z).kept hS.2.1
      obtain ⟨cell, h1, h2, h3, h4, h5, h6, h7⟩ := hT
      rw [e1, z, e2]
      refine ⟨cell, h1, h2, h3, h4, h5, fun j hj => ?_⟩
      rw [h6 j hj, ← e3]
      rfl
    · have hT := (hW.2.2.1 a hb z).kept hS.2.1
      obtain ⟨cell, h1, h2, h3, h4, h5, h6, h7⟩ := hT
      rw [e1, z, e2]
      refine ⟨cell, h1, h2, h3, h4, h5, fun j hj => ?_⟩
      rw [h6 j hj, ← e3]
      rfl
    · omega
