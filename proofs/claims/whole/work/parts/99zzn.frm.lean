/-! what no run changes: the kinds of the cells that are there, and what stands outside -/
def Frm (σ : am_I) (τ : am_T) (σ' : am_I) (τ' : am_T) : Prop :=
  τ.2.2.1 ≤ τ'.2.2.1 ∧ (∀ a, a < τ.2.2.1 → τ'.1 a = τ.1 a) ∧ (τ'.2.2.1 ≤ am_BG → (∀ a, am_BG ≤ a → 13 ≤ τ.1 a) → ∀ a, am_BG ≤ a → σ' a = σ a ∧ τ'.1 a = τ.1 a ∧ τ'.2.1 a = τ.2.1 a)
theorem Frm.same {σ : am_I} {τ : am_T} : Frm σ τ σ τ := ⟨Nat.le_refl _, fun _ _ => rfl, fun _ _ _ _ => ⟨rfl, rfl, rfl⟩⟩
theorem Frm.tr {σ σ1 σ2 : am_I} {τ τ1 τ2 : am_T} (h1 : Frm σ τ σ1 τ1) (h2 : Frm σ1 τ1 σ2 τ2) : Frm σ τ σ2 τ2 := by
  obtain ⟨a1, a2, a3⟩ := h1
  obtain ⟨b1, b2, b3⟩ := h2
  refine ⟨Nat.le_trans a1 b1, fun a ha => (b2 a (Nat.lt_of_lt_of_le ha a1)).trans (a2 a ha), fun hB hk a ha => ?_⟩
  have c := a3 (Nat.le_trans b1 hB) hk
  obtain ⟨c1, c2, c3⟩ := c a ha
  obtain ⟨e1, e2, e3⟩ := b3 hB (fun b hb => by rw [(c b hb).2.1]; exact hk b hb) a ha
  exact ⟨e1.trans c1, e2.trans c2, e3.trans c3⟩
theorem Frm.u {σ : am_I} {τ : am_T} {a k : Nat} {v : Int32} (h : a < am_BG ∨ τ.1 a < 13) : Frm σ τ (am_u σ a k v) τ := by
  refine ⟨Nat.le_refl _, fun _ _ => rfl, fun _ hk b hb => ⟨?_, rfl, rfl⟩⟩
  refine u_ne _ _ _ _ (fun e => ?_)
  have := hk b hb
  subst e
  omega
theorem Frm.ur {σ : am_I} {τ : am_T} {a : Nat} {r : Nat → Int32} (h : a < am_BG) : Frm σ τ (am_ur σ a r) τ :=
  ⟨Nat.le_refl _, fun _ _ => rfl, fun _ _ b hb => ⟨ur_ne _ _ _ (by omega), rfl, rfl⟩⟩
theorem Frm.nw {σ : am_I} {ρ : am_R} {g : am_J} {τ : am_T} {k n : Nat} : Frm σ τ (am_new k n σ ρ g τ).1 (am_new k n σ ρ g τ).2.2.2 := by
  refine ⟨Nat.le_succ _, fun a ha => if_neg (by omega), fun hB _ b hb => ?_⟩
  have hB : τ.2.2.1 + 1 ≤ am_BG := hB
  exact ⟨ur_ne _ _ _ (by omega), if_neg (by omega), if_neg (by omega)⟩
theorem Frm.mna {σ : am_I} {ρ : am_R} {g : am_J} {τ : am_T} {n k : Nat} : Frm σ τ (am_mna n k σ ρ g τ).1 (am_mna n k σ ρ g τ).2.2.2 := by
  refine ⟨by show τ.2.2.1 ≤ τ.2.2.1 + 1 + n; omega, fun a ha => ?_, fun hB _ b hb => ?_⟩
  · show (if a = τ.2.2.1 then 22 else if τ.2.2.1 ≤ a ∧ a ≤ τ.2.2.1 + n then 15 else τ.1 a) = _
    rw [if_neg (by omega), if_neg (by omega)]
  · have hB : τ.2.2.1 + 1 + n ≤ am_BG := hB
    refine ⟨?_, ?_, ?_⟩
    · show (if τ.2.2.1 ≤ b ∧ b ≤ τ.2.2.1 + n then (fun _ => 0) else σ b) = _
      rw [if_neg (by omega)]
    · show (if b = τ.2.2.1 then 22 else if τ.2.2.1 ≤ b ∧ b ≤ τ.2.2.1 + n then 15 else τ.1 b) = _
      rw [if_neg (by omega), if_neg (by omega)]
    · show (if b = τ.2.2.1 then n else if τ.2.2.1 ≤ b ∧ b ≤ τ.2.2.1 + n then k else τ.2.1 b) = _
      rw [if_neg (by omega), if_neg (by omega)]
theorem am_K1 {o i ci k : Nat} (hk : am_K o i = (1, ci, k)) : ci < 13 := by
  obtain ⟨ps, hc⟩ := am_K_ck hk (Nat.succ_ne_zero _)
  simp only [am_ck] at hc
  split at hc
  rotate_left
  · cases hc
  rename_i q hq
  exact (List.getElem?_eq_some_iff.mp hq).1
theorem am_hp_fr {M : am_ME} {i : Instr} {st : List Value} {σ : am_I} {ρ : am_R} {g : am_J} {τ : am_T} {y : am_H5} (h : am_hp M i st σ ρ g τ = some y) : Frm σ τ y.2.1 y.2.2.2.2 := by
  have hsame : y.2.1 = σ → y.2.2.2.2 = τ → Frm σ τ y.2.1 y.2.2.2.2 := fun e1 e2 => by rw [e1, e2]; exact Frm.same
  cases i with
  | ldc x => simp only [am_hp] at h; split at h <;> first | (cases h; done) | (cases h; exact hsame rfl rfl)
  | ldc_w x => simp only [am_hp] at h; split at h <;> first | (cases h; done) | (cases h; exact hsame rfl rfl)
  | ldc2_w x => simp only [am_hp] at h; split at h <;> first | (cases h; done) | (cases h; exact hsame rfl rfl)
  | getstatic x => simp only [am_hp] at h; split at h <;> first | (cases h; done) | (cases h; exact hsame rfl rfl)
  | getfield x => simp only [am_hp] at h; (repeat' split at h) <;> first | (cases h; done) | (cases h; exact hsame rfl rfl)
  | putfield x =>
    simp only [am_hp] at h
    split at h
    · rename_i v a r
      split at h
      rotate_left
      · cases h
      rename_i ci k hk
      split at h
      rotate_left
      · cases h
      rename_i hcond
      cases h
      have hlt := am_K1 hk
      exact Frm.u (Or.inr (by rw [hcond.1]; exact hlt))
    · (repeat' split at h) <;> first | (cases h; done) | (cases h; exact hsame rfl rfl)
    · (repeat' split at h) <;> first | (cases h; done) | (cases h; exact hsame rfl rfl)
    · cases h
  | iaload => simp only [am_hp] at h; (repeat' split at h) <;> first | (cases h; done) | (cases h; exact hsame rfl rfl)
  | baload => simp only [am_hp] at h; (repeat' split at h) <;> first | (cases h; done) | (cases h; exact hsame rfl rfl)
  | laload => simp only [am_hp] at h; (repeat' split at h) <;> first | (cases h; done) | (cases h; exact hsame rfl rfl)
  | aaload => simp only [am_hp] at h; (repeat' split at h) <;> first | (cases h; done) | (cases h; exact hsame rfl rfl)
  | iastore =>
    simp only [am_hp] at h
    split at h
    rotate_left
    · cases h
    split at h
    rotate_left
    · cases h
    rename_i hcond
    cases h
    exact Frm.u (Or.inl hcond.2.1)
  | bastore =>
    simp only [am_hp] at h
    split at h
    rotate_left
    · cases h
    split at h
    rotate_left
    · cases h
    rename_i hcond
    split at h
    · cases h
      exact Frm.u (Or.inl hcond.2)
    · split at h
      · cases h
        exact Frm.u (Or.inl hcond.2)
      · cases h
  | lastore => simp only [am_hp] at h; (repeat' split at h) <;> first | (cases h; done) | (cases h; exact hsame rfl rfl)
  | aastore => simp only [am_hp] at h; (repeat' split at h) <;> first | (cases h; done) | (cases h; exact hsame rfl rfl)
  | arraylength => simp only [am_hp] at h; (repeat' split at h) <;> first | (cases h; done) | (cases h; exact hsame rfl rfl)
  | newarray ty => simp only [am_hp] at h; (repeat' split at h) <;> first | (cases h; done) | (cases h; exact Frm.nw)
  | anewarray x => simp only [am_hp] at h; (repeat' split at h) <;> first | (cases h; done) | (cases h; exact Frm.nw)
  | new x => simp only [am_hp] at h; (repeat' split at h) <;> first | (cases h; done) | (cases h; exact Frm.nw)
  | multianewarray x d =>
    by_cases hd : d = 2
    · subst hd
      simp only [am_hp] at h
      (repeat' split at h) <;> first | (cases h; done) | (cases h; exact Frm.mna)
    · exfalso
      unfold am_hp at h
      split at h <;> simp_all
  | invokespecial x => simp only [am_hp] at h; (repeat' split at h) <;> first | (cases h; done) | (cases h; exact hsame rfl rfl)
  | invokestatic x =>
    simp only [am_hp] at h
    split at h
    · split at h
      · cases h
        exact hsame rfl rfl
      · cases h
    · split at h
      · cases h
        exact hsame rfl rfl
      · cases h
    · split at h
      · cases h
        exact hsame rfl rfl
      · cases h
    · split at h
      · rename_i hcond
        cases h
        exact Frm.ur hcond.2.2.2.2.1
      · cases h
    · cases h
  | _ => cases h
theorem am_run_fr : ∀ (n d k pc : Nat) (ls st : List Value) (σ : am_I) (ρ : am_R) (g : am_J) (τ : am_T) (x : am_O), am_run n d k pc ls st σ ρ g τ = some x → Frm σ τ x.2.1 x.2.2.2.2 := by
  intro n
  induction n with
  | zero =>
    intro d k pc ls st σ ρ g τ x h
    simp [am_run] at h
  | succ n ih =>
    intro d k pc ls st σ ρ g τ x h
    rw [am_run_s] at h
    cases hm : am_M[k]? with
    | none => simp [hm] at h
    | some M =>
      simp only [hm] at h
      cases hd : decode M.2.1 pc with
      | error _ => simp [hd] at h
      | ok il =>
        simp only [hd] at h
        by_cases hl : am_ln il.1 il.2 = true
        rotate_left
        · rw [if_neg hl] at h
          cases h
        rw [if_pos hl] at h
        cases hr : am_rc M il.1 st τ with
        | some y =>
          cases y with
          | inl r =>
            simp only [hr] at h
            cases h
            exact Frm.same
          | inr c =>
            simp only [hr] at h
            by_cases hk : am_okc c.1 c.2.1 = true
            rotate_left
            · rw [if_neg hk] at h
              cases h
            rw [if_pos hk] at h
            cases d with
            | zero => simp at h
            | succ d' =>
              simp only at h
              cases hc : am_run n d' c.1 0 (am_en c.1 c.2.1) [] σ ρ g τ with
              | none => simp [hc] at h
              | some y =>
                simp only [hc] at h
                have h1 := ih _ _ _ _ _ _ _ _ _ _ hc
                have h2 := ih _ _ _ _ _ _ _ _ _ _ h
                exact h1.tr h2
        | none =>
          simp only [hr] at h
          cases hn : am_nx M il.1 pc il.2 ls st σ ρ g τ with
          | none => simp [hn] at h
          | some y =>
            simp only [hn] at h
            have h2 := ih _ _ _ _ _ _ _ _ _ _ h
            unfold am_nx at hn
            split at hn
            · cases hn
              exact h2
            · split at hn
              · rename_i y' hy
                cases hn
                exact (am_hp_fr hy).tr h2
              · cases hn
theorem AW.mono {d k pc : Nat} {ls st : List Value} {σ : am_I} {ρ : am_R} {g : am_J} {τ : am_T} {Q Q' : am_Q} (h : AW d k pc ls st σ ρ g τ Q) (e : ∀ r σ1 ρ1 g1 τ1, Q r σ1 ρ1 g1 τ1 → Q' r σ1 ρ1 g1 τ1) : AW d k pc ls st σ ρ g τ Q' := by
  obtain ⟨n, x, h1, h2⟩ := h
  exact ⟨n, x, h1, e _ _ _ _ _ h2⟩
/-- both calls, the first one's frame told -/
theorem aw_two {d k pc d' k' pc' : Nat} {ls st ls' st' : List Value} {σ : am_I} {ρ : am_R} {g : am_J} {τ : am_T} (h : AW d k pc ls st σ ρ g τ (fun r σ1 ρ1 g1 τ1 => AW d' k' pc' ls' st' σ1 ρ1 g1 τ1 (Same τ r))) (hN : τ.2.2.1 + 22 ≤ am_BG) (hk : ∀ a, am_BG ≤ a → 13 ≤ τ.1 a) : AW d k pc ls st σ ρ g τ (fun r σ1 ρ1 g1 τ1 => (∀ a, a < τ.2.2.1 → τ1.1 a = τ.1 a) ∧ (∀ a, am_BG ≤ a → σ1 a = σ a ∧ τ1.1 a = τ.1 a ∧ τ1.2.1 a = τ.2.1 a) ∧ AW d' k' pc' ls' st' σ1 ρ1 g1 τ1 (fun r' σ2 ρ2 g2 τ2 => Same τ r r' σ2 ρ2 g2 τ2 ∧ ∀ a, am_BG ≤ a → τ2.1 a = τ.1 a)) := by
  obtain ⟨n, x, h1, m, y, h2, h3⟩ := h
  have f1 := am_run_fr _ _ _ _ _ _ _ _ _ _ _ h1
  have f2 := am_run_fr _ _ _ _ _ _ _ _ _ _ _ h2
  have c := h3.2.2.1
  have c2 := f2.1
  have g1 := f1.2.2 (by omega) hk
  have g2 := f2.2.2 (by omega) (fun a ha => by rw [(g1 a ha).2.1]; exact hk a ha)
  exact ⟨n, x, h1, f1.2.1, g1, m, y, h2, h3, fun a ha => ((g2 a ha).2.1).trans (g1 a ha).2.1⟩
