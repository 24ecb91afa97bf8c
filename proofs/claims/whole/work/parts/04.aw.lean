/-! what the lean machine comes to: an answer and a heap with Q. All rules are equations. -/
abbrev am_Q : Type := Option Value → am_I → am_R → am_J → am_T → Prop
def AW (d k pc : Nat) (ls st : List Value) (σ : am_I) (ρ : am_R) (g : am_J) (τ : am_T) (Q : am_Q) : Prop :=
  ∃ (n : Nat) (x : am_O), am_run n d k pc ls st σ ρ g τ = some x ∧ Q x.1 x.2.1 x.2.2.1 x.2.2.2.1 x.2.2.2.2
theorem am_run_s (n d k pc : Nat) (ls st : List Value) (σ : am_I) (ρ : am_R) (g : am_J) (τ : am_T) : am_run (n + 1) d k pc ls st σ ρ g τ = (match am_M[k]? with
    | none => none
    | some M => match decode M.2.1 pc with
      | .error _ => none
      | .ok il => if am_ln il.1 il.2 = true then match am_rc M il.1 st τ with
        | some (.inl r) => some (r, σ, ρ, g, τ)
        | some (.inr c) => if am_okc c.1 c.2.1 = true then match d with
          | 0 => none
          | d' + 1 => match am_run n d' c.1 0 (am_en c.1 c.2.1) [] σ ρ g τ with
            | none => none
            | some x => am_run n (d' + 1) k (pc + 3) ls (x.1.toList ++ c.2.2) x.2.1 x.2.2.1 x.2.2.2.1 x.2.2.2.2
          else none
        | none => match am_nx M il.1 pc il.2 ls st σ ρ g τ with
          | none => none
          | some x => am_run n d k x.1 x.2.1 x.2.2.1 x.2.2.2.1 x.2.2.2.2.1 x.2.2.2.2.2.1 x.2.2.2.2.2.2
        else none) := by
  rfl
theorem am_mono1 : ∀ (n d k pc : Nat) (ls st : List Value) (σ : am_I) (ρ : am_R) (g : am_J) (τ : am_T) (x : am_O), am_run n d k pc ls st σ ρ g τ = some x → am_run (n + 1) d k pc ls st σ ρ g τ = some x := by
  intro n
  induction n with
  | zero =>
    intro d k pc ls st σ ρ g τ x h
    simp [am_run] at h
  | succ n ih =>
    intro d k pc ls st σ ρ g τ x h
    rw [am_run_s] at h
    rw [am_run_s]
    cases hm : am_M[k]? with
    | none => simp [hm] at h
    | some M =>
      simp only [hm] at h ⊢
      cases hd : decode M.2.1 pc with
      | error _ => simp [hd] at h
      | ok il =>
        simp only [hd] at h ⊢
        by_cases hl : am_ln il.1 il.2 = true
        rotate_left
        · rw [if_neg hl] at h
          cases h
        rw [if_pos hl] at h ⊢
        cases hr : am_rc M il.1 st τ with
        | some y =>
          cases y with
          | inl r =>
            simp only [hr] at h ⊢
            exact h
          | inr c =>
            simp only [hr] at h ⊢
            by_cases hk : am_okc c.1 c.2.1 = true
            rotate_left
            · rw [if_neg hk] at h
              cases h
            rw [if_pos hk] at h ⊢
            cases d with
            | zero => simp at h
            | succ d' =>
              simp only at h ⊢
              cases hc : am_run n d' c.1 0 (am_en c.1 c.2.1) [] σ ρ g τ with
              | none => simp [hc] at h
              | some y =>
                simp only [hc] at h
                rw [ih _ _ _ _ _ _ _ _ _ _ hc]
                exact ih _ _ _ _ _ _ _ _ _ _ h
        | none =>
          simp only [hr] at h ⊢
          cases hn : am_nx M il.1 pc il.2 ls st σ ρ g τ with
          | none => simp [hn] at h
          | some y =>
            simp only [hn] at h ⊢
            exact ih _ _ _ _ _ _ _ _ _ _ h
theorem am_mono {n n' d k pc : Nat} {ls st : List Value} {σ : am_I} {ρ : am_R} {g : am_J} {τ : am_T} {x : am_O} (hn : n ≤ n') (h : am_run n d k pc ls st σ ρ g τ = some x) : am_run n' d k pc ls st σ ρ g τ = some x := by
  induction hn with
  | refl => exact h
  | step _ ih => exact am_mono1 _ _ _ _ _ _ _ _ _ _ _ ih
section AWR
variable {d k pc len j : Nat} {ls st st' args : List Value} {σ : am_I} {ρ : am_R} {g : am_J} {τ : am_T} {Q : am_Q} {M : am_ME} {i : Instr}
theorem aw_nx {x : Nat × List Value × am_H5} (hm : am_M[k]? = some M) (hd : decode M.2.1 pc = .ok (i, len)) (hl : am_ln i len = true) (hr : am_rc M i st τ = none) (hn : am_nx M i pc len ls st σ ρ g τ = some x) :
    AW d k pc ls st σ ρ g τ Q = AW d k x.1 x.2.1 x.2.2.1 x.2.2.2.1 x.2.2.2.2.1 x.2.2.2.2.2.1 x.2.2.2.2.2.2 Q := by
  apply propext
  constructor
  · rintro ⟨n, y, h, hq⟩
    cases n with
    | zero => simp [am_run] at h
    | succ n =>
      rw [am_run_s] at h
      simp only [hm, hd, hl, if_true, hr, hn] at h
      exact ⟨n, y, h, hq⟩
  · rintro ⟨n, y, h, hq⟩
    refine ⟨n + 1, y, ?_, hq⟩
    rw [am_run_s]
    simp only [hm, hd, hl, if_true, hr, hn]
    exact h
theorem aw_ret {r : Option Value} (hm : am_M[k]? = some M) (hd : decode M.2.1 pc = .ok (i, len)) (hl : am_ln i len = true) (hr : am_rc M i st τ = some (.inl r)) : AW d k pc ls st σ ρ g τ Q = Q r σ ρ g τ := by
  apply propext
  constructor
  · rintro ⟨n, y, h, hq⟩
    cases n with
    | zero => simp [am_run] at h
    | succ n =>
      rw [am_run_s] at h
      simp only [hm, hd, hl, if_true, hr] at h
      cases h
      exact hq
  · intro hq
    refine ⟨1, (r, σ, ρ, g, τ), ?_, hq⟩
    rw [am_run_s]
    simp only [hm, hd, hl, if_true, hr]
theorem aw_call (hm : am_M[k]? = some M) (hd : decode M.2.1 pc = .ok (i, len)) (hl : am_ln i len = true) (hr : am_rc M i st τ = some (.inr (j, args, st'))) (hk : am_okc j args = true) :
    AW (d + 1) k pc ls st σ ρ g τ Q = AW d j 0 (am_en j args) [] σ ρ g τ (fun r σ ρ g τ => AW (d + 1) k (pc + 3) ls (r.toList ++ st') σ ρ g τ Q) := by
  apply propext
  constructor
  · rintro ⟨n, y, h, hq⟩
    cases n with
    | zero => simp [am_run] at h
    | succ n =>
      rw [am_run_s] at h
      simp only [hm, hd, hl, if_true, hr, hk] at h
      cases hc : am_run n d j 0 (am_en j args) [] σ ρ g τ with
      | none => simp [hc] at h
      | some x =>
        simp only [hc] at h
        exact ⟨n, x, hc, n, y, h, hq⟩
  · rintro ⟨n, x, h, n', y, h', hq⟩
    refine ⟨max n n' + 1, y, ?_, hq⟩
    rw [am_run_s]
    simp only [hm, hd, hl, if_true, hr, hk]
    rw [am_mono (Nat.le_max_left n n') h]
    exact am_mono (Nat.le_max_right n n') h'
end AWR
