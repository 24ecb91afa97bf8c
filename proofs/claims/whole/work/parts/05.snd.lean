/-! THE LEAN MACHINE IS SOUND: what it comes to, the machine comes to. First: stack and locals. -/
abbrev am_E : Type := Nat × (Nat → Nat) × (Nat → ClassId) × (Nat → Nat → Nat) × (Nat → ClassId) × (Nat → Nat) × (Nat → Nat) × (Nat → Nat → Int32)
def eB (E : am_E) : Nat := E.1
def eO (E : am_E) : Nat → Nat := E.2.1
def eC (E : am_E) : Nat → ClassId := E.2.2.1
def eI (E : am_E) : Nat → Nat → Nat := E.2.2.2.1
def eY (E : am_E) : Nat → ClassId := E.2.2.2.2.1
def eK (E : am_E) : Nat → Nat := E.2.2.2.2.2.1
def eL (E : am_E) : Nat → Nat := E.2.2.2.2.2.2.1
def eS (E : am_E) : Nat → Nat → Int32 := E.2.2.2.2.2.2.2
/-- where a cell lies -/
def am_ad (E : am_E) (a : Nat) : Nat := if a < am_BG then eB E + a else eO E (a - am_BG)
/-- the library's formatter: an object, or nothing; the lean machine has .float 1 for it -/
def eF (E : am_E) : Option Nat := if eL E (am_BG + 79) = 0 then none else some (eO E 79)
def am_sh (E : am_E) : Value → Value
  | .ref a => .ref (am_ad E a)
  | .float b => if b = 1 then va_rf (eF E) else .float b
  | v => v
/-- the locals of the two machines -/
def am_LV (E : am_E) (LS : Array Slot) (nL : Nat) (ls : List Value) : Prop :=
  LS.size = nL ∧ lv_wf LS ∧ ls.length = nL ∧ ∀ (i : Nat) (v : Value), ls[i]? = some v → am_real v = true → LS[i]? = some (.val (am_sh E v))
theorem am_sh_cat (E : am_E) (v : Value) : (am_sh E v).category = v.category := by
  cases v with
  | float b =>
    simp only [am_sh]
    split
    · cases eF E <;> rfl
    · rfl
  | _ => rfl
theorem am_sh_f (E : am_E) : am_sh E (.float 1) = va_rf (eF E) := by simp [am_sh]
theorem am_jk_real : ¬ am_real am_jk = true := by decide
theorem am_rf_sh (E : am_E) (r : Option Nat) : am_sh E (va_rf r) = va_rf (r.map (am_ad E)) := by cases r <;> rfl
/-- the locals as a list of places -/
def am_prs (E : am_E) (ls : List Value) : List (Nat × Value) := (List.range ls.length).filterMap fun i => match ls[i]? with
  | some v => if am_real v = true then some (i, am_sh E v) else none
  | none => none
theorem am_prs_mem {E : am_E} {ls : List Value} {i : Nat} {w : Value} : (i, w) ∈ am_prs E ls ↔ ∃ v, ls[i]? = some v ∧ am_real v = true ∧ w = am_sh E v := by
  unfold am_prs
  rw [List.mem_filterMap]
  constructor
  · rintro ⟨j, hj, h⟩
    cases hv : ls[j]? with
    | none => simp [hv] at h
    | some v =>
      simp only [hv] at h
      by_cases hr : am_real v = true
      · rw [if_pos hr] at h
        cases h
        exact ⟨v, hv, hr, rfl⟩
      · rw [if_neg hr] at h
        cases h
  · rintro ⟨v, hv, hr, rfl⟩
    refine ⟨i, List.mem_range.mpr (List.getElem?_eq_some_iff.mp hv).1, ?_⟩
    simp [hv, hr]
theorem am_LV.has {E : am_E} {LS : Array Slot} {nL : Nat} {ls : List Value} (h : am_LV E LS nL ls) : lv_has LS nL (am_prs E ls) :=
  ⟨h.1, h.2.1, fun q hq => by
    obtain ⟨v, h1, h2, h3⟩ := am_prs_mem.mp (show (q.1, q.2) ∈ am_prs E ls from hq)
    rw [h3]
    exact h.2.2.2 _ _ h1 h2⟩
theorem am_LV.at {E : am_E} {LS : Array Slot} {nL : Nat} {ls : List Value} (h : am_LV E LS nL ls) {i : Nat} {v : Value} (hv : ls[i]? = some v) (hr : am_real v = true) : LS[i]? = some (.val (am_sh E v)) := h.2.2.2 i v hv hr
theorem am_nol_ok {ls : List Value} {i j : Nat} {v : Value} (h : am_nol ls i = true) (hj : j + 1 = i) (hv : ls[j]? = some v) (hr : am_real v = true) : v.category = 1 := by
  subst hj
  unfold am_nol at h
  simp only [hv] at h
  cases v <;> simp_all [am_real, Value.category]
theorem am_LV.st1 {E : am_E} {LS LS' : Array Slot} {nL : Nat} {ls : List Value} {i : Nat} {v : Value} (h : am_LV E LS nL ls) (hi : i < ls.length) (hn : am_nol ls i = true)
    (h' : lv_has LS' nL ((i, am_sh E v) :: (am_prs E ls).filter (fun q => !(q.1 == i) && !(q.1 + 1 == i && q.2.category == 2)))) : am_LV E LS' nL (ls.set i v) := by
  refine ⟨h'.1, h'.2.1, by rw [List.length_set]; exact h.2.2.1, fun j w hj hr => ?_⟩
  by_cases e : j = i
  · subst e
    rw [List.getElem?_set_self hi] at hj
    cases hj
    exact h'.2.2 (j, am_sh E v) List.mem_cons_self
  · rw [List.getElem?_set_ne (fun q => e q.symm)] at hj
    refine h'.2.2 (j, am_sh E w) (List.mem_cons_of_mem _ (List.mem_filter.mpr ⟨am_prs_mem.mpr ⟨w, hj, hr, rfl⟩, ?_⟩))
    simp only [Bool.and_eq_true, Bool.not_eq_true', beq_eq_false_iff_ne, ne_eq, Bool.and_eq_false_iff]
    refine ⟨e, ?_⟩
    by_cases e2 : j + 1 = i
    · right
      rw [am_sh_cat, am_nol_ok hn e2 hj hr]
      decide
    · left
      exact e2
theorem am_LV.st2 {E : am_E} {LS LS' : Array Slot} {nL : Nat} {ls : List Value} {i : Nat} {v : Value} (h : am_LV E LS nL ls) (hi : i + 1 < ls.length) (hn : am_nol ls i = true)
    (h' : lv_has LS' nL ((i, am_sh E v) :: (am_prs E ls).filter (fun q => !(q.1 == i) && (!(q.1 == i + 1) && !(q.1 + 1 == i && q.2.category == 2))))) : am_LV E LS' nL ((ls.set i v).set (i + 1) am_jk) := by
  refine ⟨h'.1, h'.2.1, by rw [List.length_set, List.length_set]; exact h.2.2.1, fun j w hj hr => ?_⟩
  by_cases e0 : j = i + 1
  · subst e0
    rw [List.getElem?_set_self (by rw [List.length_set]; exact hi)] at hj
    cases hj
    exact absurd hr am_jk_real
  rw [List.getElem?_set_ne (fun q => e0 q.symm)] at hj
  by_cases e : j = i
  · subst e
    rw [List.getElem?_set_self (by omega)] at hj
    cases hj
    exact h'.2.2 (j, am_sh E v) List.mem_cons_self
  · rw [List.getElem?_set_ne (fun q => e q.symm)] at hj
    refine h'.2.2 (j, am_sh E w) (List.mem_cons_of_mem _ (List.mem_filter.mpr ⟨am_prs_mem.mpr ⟨w, hj, hr, rfl⟩, ?_⟩))
    simp only [Bool.and_eq_true, Bool.not_eq_true', beq_eq_false_iff_ne, ne_eq, Bool.and_eq_false_iff]
    refine ⟨e, e0, ?_⟩
    by_cases e2 : j + 1 = i
    · right
      rw [am_sh_cat, am_nol_ok hn e2 hj hr]
      decide
    · left
      exact e2
theorem am_ld_ok {ls : List Value} {x t : Nat} {v : Value} (h : am_ld ls x t = some v) : ls[x]? = some v ∧ ((t = 0 ∧ ∃ y, v = .int y) ∨ (t = 1 ∧ ∃ y, v = .long y) ∨ (t = 2 ∧ ((∃ y, v = .ref y) ∨ v = .null))) := by
  unfold am_ld at h
  split at h <;> first | (cases h; simp_all; done) | (cases h; exact ⟨by assumption, by simp⟩) | cases h
theorem am_jp_ok {pc : Nat} {off : Int} {t : Nat} (h : am_jp pc off = some t) : (pc : Int) + off = (t : Int) := by
  unfold am_jp at h
  by_cases h0 : 0 ≤ (pc : Int) + off
  · rw [if_pos h0] at h
    cases h
    omega
  · rw [if_neg h0] at h
    cases h
