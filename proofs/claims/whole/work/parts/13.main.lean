/-! the lean machine's counts go up; then: THE LEAN MACHINE IS SOUND -/
theorem am_hp_up {M : am_ME} {i : Instr} {st : List Value} {σ : am_I} {ρ : am_R} {g : am_J} {τ : am_T} {y : am_H5} (h : am_hp M i st σ ρ g τ = some y) : τ.2.2.1 ≤ y.2.2.2.2.2.2.1 ∧ τ.2.2.2 ≤ y.2.2.2.2.2.2.2 := by
  have hsame : y.2.2.2.2 = τ → τ.2.2.1 ≤ y.2.2.2.2.2.2.1 ∧ τ.2.2.2 ≤ y.2.2.2.2.2.2.2 := fun e => by rw [e]; exact ⟨Nat.le_refl _, Nat.le_refl _⟩
  cases i with
  | ldc x => simp only [am_hp] at h; split at h <;> first | (cases h; done) | (cases h; exact hsame rfl)
  | ldc_w x => simp only [am_hp] at h; split at h <;> first | (cases h; done) | (cases h; exact hsame rfl)
  | ldc2_w x => simp only [am_hp] at h; split at h <;> first | (cases h; done) | (cases h; exact hsame rfl)
  | getstatic x => simp only [am_hp] at h; split at h <;> first | (cases h; done) | (cases h; exact hsame rfl)
  | getfield x => simp only [am_hp] at h; (repeat' split at h) <;> first | (cases h; done) | (cases h; exact hsame rfl)
  | putfield x => simp only [am_hp] at h; (repeat' split at h) <;> first | (cases h; done) | (cases h; exact hsame rfl)
  | iaload => simp only [am_hp] at h; (repeat' split at h) <;> first | (cases h; done) | (cases h; exact hsame rfl)
  | baload => simp only [am_hp] at h; (repeat' split at h) <;> first | (cases h; done) | (cases h; exact hsame rfl)
  | laload => simp only [am_hp] at h; (repeat' split at h) <;> first | (cases h; done) | (cases h; exact hsame rfl)
  | aaload => simp only [am_hp] at h; (repeat' split at h) <;> first | (cases h; done) | (cases h; exact hsame rfl)
  | iastore => simp only [am_hp] at h; (repeat' split at h) <;> first | (cases h; done) | (cases h; exact hsame rfl)
  | bastore => simp only [am_hp] at h; (repeat' split at h) <;> first | (cases h; done) | (cases h; exact hsame rfl)
  | lastore => simp only [am_hp] at h; (repeat' split at h) <;> first | (cases h; done) | (cases h; exact hsame rfl)
  | aastore => simp only [am_hp] at h; (repeat' split at h) <;> first | (cases h; done) | (cases h; exact hsame rfl)
  | arraylength => simp only [am_hp] at h; (repeat' split at h) <;> first | (cases h; done) | (cases h; exact hsame rfl)
  | newarray ty => simp only [am_hp] at h; (repeat' split at h) <;> first | (cases h; done) | (cases h; exact ⟨Nat.le_succ _, Nat.le_add_right _ _⟩)
  | anewarray x => simp only [am_hp] at h; (repeat' split at h) <;> first | (cases h; done) | (cases h; exact ⟨Nat.le_succ _, Nat.le_add_right _ _⟩)
  | new x => simp only [am_hp] at h; (repeat' split at h) <;> first | (cases h; done) | (cases h; exact ⟨Nat.le_succ _, Nat.le_add_right _ _⟩)
  | multianewarray x d =>
    by_cases hd : d = 2
    · subst hd
      simp only [am_hp] at h
      (repeat' split at h) <;> first | (cases h; done) | (cases h; exact ⟨by show _ ≤ _ + 1 + _; omega, by show _ ≤ _ + _ + _; omega⟩)
    · exfalso
      unfold am_hp at h
      split at h <;> simp_all
  | invokespecial x => simp only [am_hp] at h; (repeat' split at h) <;> first | (cases h; done) | (cases h; exact hsame rfl)
  | invokestatic x => simp only [am_hp] at h; (repeat' split at h) <;> first | (cases h; done) | (cases h; exact hsame rfl)
  | _ => cases h
theorem am_run_up : ∀ (n d k pc : Nat) (ls st : List Value) (σ : am_I) (ρ : am_R) (g : am_J) (τ : am_T) (x : am_O), am_run n d k pc ls st σ ρ g τ = some x → τ.2.2.1 ≤ x.2.2.2.2.2.2.1 ∧ τ.2.2.2 ≤ x.2.2.2.2.2.2.2 := by
  intro n
  induction n with
  | zero =>
    intro d k pc ls st σ ρ g τ x h
    simp [am_run] at h
  | succ n ih =>
    intro d k pc ls st σ ρ g τ x h
    rw [am_run_s] at h
    cases hm : am_M[k]? with
    | none => simp [hm] at h
    | some M =>
      simp only [hm] at h
      cases hd : decode M.2.1 pc with
      | error _ => simp [hd] at h
      | ok il =>
        simp only [hd] at h
        by_cases hl : am_ln il.1 il.2 = true
        rotate_left
        · rw [if_neg hl] at h
          cases h
        rw [if_pos hl] at h
        cases hr : am_rc M il.1 st τ with
        | some y =>
          cases y with
          | inl r =>
            simp only [hr] at h
            cases h
            exact ⟨Nat.le_refl _, Nat.le_refl _⟩
          | inr c =>
            simp only [hr] at h
            by_cases hk : am_okc c.1 c.2.1 = true
            rotate_left
            · rw [if_neg hk] at h
              cases h
            rw [if_pos hk] at h
            cases d with
            | zero => simp at h
            | succ d' =>
              simp only at h
              cases hc : am_run n d' c.1 0 (am_en c.1 c.2.1) [] σ ρ g τ with
              | none => simp [hc] at h
              | some y =>
                simp only [hc] at h
                have h1 := ih _ _ _ _ _ _ _ _ _ _ hc
                have h2 := ih _ _ _ _ _ _ _ _ _ _ h
                exact ⟨Nat.le_trans h1.1 h2.1, Nat.le_trans h1.2 h2.2⟩
        | none =>
          simp only [hr] at h
          cases hn : am_nx M il.1 pc il.2 ls st σ ρ g τ with
          | none => simp [hn] at h
          | some y =>
            simp only [hn] at h
            have h2 := ih _ _ _ _ _ _ _ _ _ _ h
            unfold am_nx at hn
            split at hn
            · cases hn
              exact h2
            · split at hn
              · rename_i y9 hy9
                cases hn
                have h1 := am_hp_up hy9
                exact ⟨Nat.le_trans h1.1 h2.1, Nat.le_trans h1.2 h2.2⟩
              · cases hn
/-- a method's contract, out of a run -/
def am_Pc (E : am_E) (vs : List Value) (σ : am_I) (ρ : am_R) (g : am_J) (τ : am_T) : Array Value → State → Prop := fun v U => v = (vs.map (am_sh E)).toArray ∧ am_RP E σ ρ g τ U.heap ∧ am_WD E U
def am_Qc (E : am_E) (x : am_O) : Array Value → State → Outcome → State → Prop := fun _ st oc t => oc = .returned (x.1.map (am_sh E)) ∧ am_RP E x.2.1 x.2.2.1 x.2.2.2.1 x.2.2.2.2 t.heap ∧ va_F (am_A E) st t
theorem am_Pc_blind {E : am_E} {vs : List Value} {σ : am_I} {ρ : am_R} {g : am_J} {τ : am_T} : FrameBlind (am_Pc E vs σ ρ g τ) := by
  intro a U gg mk h
  exact ⟨h.1, h.2.1, h.2.2.pass (H := U.heap) (fun _ _ _ => rfl) rfl (State.WarmedH.refl U)⟩
theorem am_sl_len {E : am_E} : ∀ {vs : List Value}, vs.all am_real = true → (lg_sl (vs.map (am_sh E))).length = (am_ar vs).length
  | [], _ => rfl
  | v :: vs, h => by
    simp only [List.all_cons, Bool.and_eq_true] at h
    have ih := am_sl_len (E := E) h.2
    have hc := am_sh_cat E v
    cases v <;> simp_all [lg_sl, am_ar, am_real, Value.category]
theorem am_ar_mem {E : am_E} : ∀ {vs : List Value} (o : Nat), vs.all am_real = true → ∀ {i : Nat} {v : Value}, (am_ar vs)[i]? = some v → am_real v = true → (o + i, am_sh E v) ∈ lv_args o (vs.map (am_sh E))
  | [], o, _, i, v, hv, _ => by simp [am_ar] at hv
  | u :: vs, o, h, i, v, hv, hr => by
    simp only [List.all_cons, Bool.and_eq_true] at h
    by_cases hc : u.category = 2
    · have hu : ∃ z, u = .long z := by
        cases u <;> simp_all [Value.category, am_real]
      obtain ⟨z, rfl⟩ := hu
      simp only [am_ar] at hv
      match i, hv with
      | 0, hv =>
        cases hv
        simp [lv_args, am_sh]
      | 1, hv =>
        cases hv
        exact absurd hr am_jk_real
      | j + 2, hv =>
        have h9 := am_ar_mem (E := E) (vs := vs) (o + 2) h.2 (i := j) (v := v) (by simpa using hv) hr
        simp only [List.map_cons, lv_args]
        rw [if_pos (by rw [am_sh_cat]; exact hc), show o + (j + 2) = o + 2 + j by omega]
        exact List.mem_cons_of_mem _ h9
    · have e : am_ar (u :: vs) = u :: am_ar vs := by
        cases u <;> simp_all [am_ar, Value.category]
      rw [e] at hv
      match i, hv with
      | 0, hv =>
        cases hv
        simp [lv_args]
      | j + 1, hv =>
        have h9 := am_ar_mem (E := E) (vs := vs) (o + 1) h.2 (i := j) (v := v) (by simpa using hv) hr
        simp only [List.map_cons, lv_args]
        rw [if_neg (by rw [am_sh_cat]; exact hc), show o + (j + 1) = o + 1 + j by omega]
        exact List.mem_cons_of_mem _ h9
theorem am_LV_entry {E : am_E} {vs : List Value} {n : Nat} (hr : vs.all am_real = true) (hn : (am_ar vs).length ≤ n) : am_LV E ((lg_sl (vs.map (am_sh E)) ++ List.replicate (n - (lg_sl (vs.map (am_sh E))).length) Slot.unset).toArray) n (am_ar vs ++ List.replicate (n - (am_ar vs).length) am_jk) := by
  have hl := lv_entry (vs.map (am_sh E)) (n := n) (by rw [am_sl_len hr]; exact hn)
  refine ⟨hl.1, hl.2.1, by simp; omega, fun i v hv hrv => ?_⟩
  by_cases hi : i < (am_ar vs).length
  · rw [List.getElem?_append_left hi] at hv
    have h := am_ar_mem (E := E) 0 hr hv hrv
    rw [Nat.zero_add] at h
    exact hl.2.2 _ h
  · rw [List.getElem?_append_right (by omega)] at hv
    have h := List.eq_of_mem_replicate (List.mem_of_getElem? hv)
    rw [h] at hrv
    exact absurd hrv am_jk_real
