/-! bills: the search of a partner, by itself -/
abbrev Pt := Nat → Nat
abbrev Sn := Nat → Bool
def fu {α : Type} (p : Nat → α) (j : Nat) (v : α) : Nat → α := fun k => if k = j then v else p k
theorem fu_at {α : Type} (p : Nat → α) (j : Nat) (v : α) : fu p j v j = v := if_pos rfl
theorem fu_ne {α : Type} (p : Nat → α) {j k : Nat} (v : α) (h : k ≠ j) : fu p j v k = p k := if_neg h
/-- over the papers from j on -/
def bl (F : Nat → Pt → Sn → Bool × Pt × Sn) (x : Nat → Nat → Nat) (i : Nat) : Nat → Nat → Pt → Sn → Bool × Pt × Sn
  | 0, _, pt, sn => (false, pt, sn)
  | n + 1, j, pt, sn =>
    if sn j = true ∨ mb x i j = false then bl F x i n (j + 1) pt sn
    else if pt j = 0 then (true, fu pt j (i + 1), fu sn j true)
    else if (F (pt j - 1) pt (fu sn j true)).1 = true then (true, fu (F (pt j - 1) pt (fu sn j true)).2.1 j (i + 1), (F (pt j - 1) pt (fu sn j true)).2.2)
    else bl F x i n (j + 1) (F (pt j - 1) pt (fu sn j true)).2.1 (F (pt j - 1) pt (fu sn j true)).2.2
def bf (x : Nat → Nat → Nat) (A : Nat) : Nat → Nat → Pt → Sn → Bool × Pt × Sn
  | 0, _, pt, sn => (false, pt, sn)
  | f + 1, i, pt, sn => bl (bf x A f) x i A 0 pt sn
/-- how many are not seen -/
def un (sn : Sn) : Nat → Nat
  | 0 => 0
  | n + 1 => un sn n + (if sn n = true then 0 else 1)
theorem un_le {sn : Sn} : ∀ n, un sn n ≤ n
  | 0 => Nat.le_refl _
  | n + 1 => by
    have i := un_le (sn := sn) n
    have u : un sn (n + 1) = un sn n + (if sn n = true then 0 else 1) := rfl
    rw [u]
    split <;> omega
theorem un_ge {sn : Sn} {j : Nat} {v : Bool} : ∀ n, n ≤ j → un (fu sn j v) n = un sn n
  | 0, _ => rfl
  | n + 1, h => by
    have i := un_ge (sn := sn) (j := j) (v := v) n (by omega)
    have u : un (fu sn j v) (n + 1) = un (fu sn j v) n + (if fu sn j v n = true then 0 else 1) := rfl
    have u2 : un sn (n + 1) = un sn n + (if sn n = true then 0 else 1) := rfl
    rw [u, u2, i, fu_ne _ _ (by omega)]
theorem un_up {sn : Sn} {j : Nat} (hs : ¬ sn j = true) : ∀ n, j < n → un (fu sn j true) n + 1 = un sn n
  | 0, h => absurd h (Nat.not_lt_zero _)
  | n + 1, h => by
    have u : un (fu sn j true) (n + 1) = un (fu sn j true) n + (if fu sn j true n = true then 0 else 1) := rfl
    have u2 : un sn (n + 1) = un sn n + (if sn n = true then 0 else 1) := rfl
    rw [u, u2]
    by_cases q : j = n
    · subst q
      rw [un_ge _ (Nat.le_refl _), fu_at, if_pos rfl, if_neg hs]
    · have i := un_up hs n (by omega)
      rw [fu_ne _ _ (fun z => q z.symm)]
      omega
/-- what those with a partner weigh -/
def sw (wt : Nat → Nat) (pt : Pt) : Nat → Nat
  | 0 => 0
  | n + 1 => sw wt pt n + (if pt n = 0 then 0 else wt n)
theorem sw_ge {wt : Nat → Nat} {pt : Pt} {j v : Nat} : ∀ n, n ≤ j → sw wt (fu pt j v) n = sw wt pt n
  | 0, _ => rfl
  | n + 1, h => by
    have i := sw_ge (wt := wt) (pt := pt) (j := j) (v := v) n (by omega)
    have u : sw wt (fu pt j v) (n + 1) = sw wt (fu pt j v) n + (if fu pt j v n = 0 then 0 else wt n) := rfl
    have u2 : sw wt pt (n + 1) = sw wt pt n + (if pt n = 0 then 0 else wt n) := rfl
    rw [u, u2, i, fu_ne _ _ (by omega)]
theorem sw_up {wt : Nat → Nat} {pt : Pt} {j v : Nat} (hv : v ≠ 0) : ∀ n, j < n → sw wt (fu pt j v) n = sw wt pt n + (if pt j = 0 then wt j else 0)
  | 0, h => absurd h (Nat.not_lt_zero _)
  | n + 1, h => by
    have u : sw wt (fu pt j v) (n + 1) = sw wt (fu pt j v) n + (if fu pt j v n = 0 then 0 else wt n) := rfl
    have u2 : sw wt pt (n + 1) = sw wt pt n + (if pt n = 0 then 0 else wt n) := rfl
    rw [u, u2]
    by_cases q : j = n
    · subst q
      rw [sw_ge _ (Nat.le_refl _), fu_at, if_neg hv]
      by_cases z : pt j = 0
      · rw [if_pos z, if_pos z]
        omega
      · rw [if_neg z, if_neg z]
        omega
    · have i := sw_up (wt := wt) (pt := pt) (j := j) hv n (by omega)
      rw [i, fu_ne _ _ (fun z => q z.symm)]
      omega
/-- partners are of the other book -/
def Ok (A : Nat) (x : Nat → Nat → Nat) (pt : Pt) : Prop := ∀ j, j < A → pt j ≠ 0 → pt j ≤ A ∧ x 0 (pt j - 1) = 0 ∧ mb x (pt j - 1) j = true
theorem Ok.up {A : Nat} {x : Nat → Nat → Nat} {pt : Pt} (h : Ok A x pt) {i j : Nat} (hi : i < A) (h0 : x 0 i = 0) (hm : mb x i j = true) : Ok A x (fu pt j (i + 1)) := by
  intro k hk hn
  by_cases q : k = j
  · subst q
    rw [fu_at, Nat.add_sub_cancel]
    exact ⟨by omega, h0, hm⟩
  · rw [fu_ne _ _ q] at hn ⊢
    exact h k hk hn
/-- what a search does, whatever it finds -/
def Good (A : Nat) (x : Nat → Nat → Nat) (i : Nat) (pt : Pt) (sn : Sn) (r : Bool × Pt × Sn) : Prop :=
  un r.2.2 A ≤ un sn A ∧ Ok A x r.2.1 ∧ (r.1 = false → r.2.1 = pt) ∧ (r.1 = true → ∀ wt : Nat → Nat, (∀ a b, mb x a b = true → wt a = wt b) → sw wt r.2.1 A = sw wt pt A + wt i) ∧ ∀ j, pt j ≠ 0 → r.2.1 j ≠ 0
theorem bl_good {A : Nat} {x : Nat → Nat → Nat} {F : Nat → Pt → Sn → Bool × Pt × Sn} (hF : ∀ i pt sn, i < A → x 0 i = 0 → Ok A x pt → Good A x i pt sn (F i pt sn)) {i : Nat} (hi : i < A) (h0 : x 0 i = 0) : ∀ (n j : Nat) (pt : Pt) (sn : Sn), j + n ≤ A → Ok A x pt → Good A x i pt sn (bl F x i n j pt sn)
  | 0, j, pt, sn, _, ok => ⟨Nat.le_refl _, ok, fun _ => rfl, fun q => absurd q (by show ¬ (false = true); decide), fun _ q => q⟩
  | n + 1, j, pt, sn, hj, ok => by
    by_cases q1 : sn j = true ∨ mb x i j = false
    · have u : bl F x i (n + 1) j pt sn = bl F x i n (j + 1) pt sn := if_pos q1
      rw [u]
      exact bl_good hF hi h0 n (j + 1) pt sn (by omega) ok
    have ns : ¬ sn j = true := fun q => q1 (Or.inl q)
    have hm : mb x i j = true := by
      cases z : mb x i j
      · exact absurd (Or.inr z) q1
      · rfl
    have uu := un_up (sn := sn) ns A (by omega)
    by_cases q2 : pt j = 0
    · have u : bl F x i (n + 1) j pt sn = (true, fu pt j (i + 1), fu sn j true) := by
        unfold bl
        rw [if_neg q1, if_pos q2]
      rw [u]
      refine ⟨by show un (fu sn j true) A ≤ un sn A; omega, ok.up hi h0 hm, fun q => absurd q (by show ¬ (true = false); decide), fun _ wt hw => ?_, fun k hk => ?_⟩
      · show sw wt (fu pt j (i + 1)) A = _
        rw [sw_up (by omega) A (by omega), if_pos q2, hw i j hm]
      · show fu pt j (i + 1) k ≠ 0
        by_cases z : k = j
        · subst z
          exact absurd q2 hk
        · rw [fu_ne _ _ z]
          exact hk
    obtain ⟨o1, o2, o3⟩ := ok j (by omega) q2
    obtain ⟨g1, g2, g3, g4, g5⟩ := hF (pt j - 1) pt (fu sn j true) (by omega) o2 ok
    by_cases q3 : (F (pt j - 1) pt (fu sn j true)).1 = true
    · have u : bl F x i (n + 1) j pt sn = (true, fu (F (pt j - 1) pt (fu sn j true)).2.1 j (i + 1), (F (pt j - 1) pt (fu sn j true)).2.2) := by
        show (if sn j = true ∨ mb x i j = false then _ else _) = _
        rw [if_neg q1, if_neg q2, if_pos q3]
      rw [u]
      refine ⟨by show un (F (pt j - 1) pt (fu sn j true)).2.2 A ≤ un sn A; omega, g2.up hi h0 hm, fun q => absurd q (by show ¬ (true = false); decide), fun _ wt hw => ?_, fun k hk => ?_⟩
      · show sw wt (fu (F (pt j - 1) pt (fu sn j true)).2.1 j (i + 1)) A = _
        rw [sw_up (by omega) A (by omega), if_neg (g5 j q2), g4 q3 wt hw, hw _ _ o3, hw i j hm, Nat.add_zero]
      · show fu (F (pt j - 1) pt (fu sn j true)).2.1 j (i + 1) k ≠ 0
        by_cases z : k = j
        · subst z
          rw [fu_at]
          omega
        · rw [fu_ne _ _ z]
          exact g5 k hk
    · have u : bl F x i (n + 1) j pt sn = bl F x i n (j + 1) (F (pt j - 1) pt (fu sn j true)).2.1 (F (pt j - 1) pt (fu sn j true)).2.2 := by
        show (if sn j = true ∨ mb x i j = false then _ else _) = _
        rw [if_neg q1, if_neg q2, if_neg q3]
      have q3' : (F (pt j - 1) pt (fu sn j true)).1 = false := by
        cases z : (F (pt j - 1) pt (fu sn j true)).1
        · rfl
        · exact absurd z q3
      have e := g3 q3'
      rw [e] at u
      rw [u]
      obtain ⟨k1, k2, k3, k4, k5⟩ := bl_good hF hi h0 n (j + 1) pt (F (pt j - 1) pt (fu sn j true)).2.2 (by omega) ok
      exact ⟨by omega, k2, k3, k4, k5⟩
theorem bf_good {A : Nat} {x : Nat → Nat → Nat} : ∀ (f i : Nat) (pt : Pt) (sn : Sn), i < A → x 0 i = 0 → Ok A x pt → Good A x i pt sn (bf x A f i pt sn)
  | 0, i, pt, sn, _, _, ok => ⟨Nat.le_refl _, ok, fun _ => rfl, fun q => absurd q (by show ¬ (false = true); decide), fun _ q => q⟩
  | f + 1, i, pt, sn, hi, h0, ok => bl_good (F := bf x A f) (fun i pt sn h1 h2 h3 => bf_good f i pt sn h1 h2 h3) hi h0 A 0 pt sn (by omega) ok
