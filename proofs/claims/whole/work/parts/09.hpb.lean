/-! the instructions of the heap: field writes, arrays, Object(), Math -/
theorem am_pc_of {E : am_E} {σ : am_I} {ρ : am_R} {g : am_J} {τ : am_T} {H : Heap} {a : Nat} {r : vw_C} (hr : vwCl[τ.1 a]? = some r) (h : t_OB (eB E + a) (eC E (τ.1 a)) r.2.2 (eI E (τ.1 a)) H (am_vo E σ ρ (τ.1 a) a)) : am_PC E σ ρ g τ H a :=
  Or.inl ⟨(List.getElem?_eq_some_iff.mp hr).1, r, hr, h⟩
theorem am_u_ne {α : Type} {f : Nat → Nat → α} {a k : Nat} {v : α} {b : Nat} (h : b ≠ a) : am_u f a k v b = f b := by
  funext j
  simp [am_u, h]
theorem am_u_at {α : Type} {f : Nat → Nat → α} {a k : Nat} {v : α} (j : Nat) : am_u f a k v a j = if j = k then v else f a j := by
  simp [am_u]
theorem am_b01_ok {v : Int32} (h : am_b01 v = true) : v = 0 ∨ v = 1 := by
  simpa [am_b01] using h
theorem am_cn_ok {ci : Nat} {q : vw_C} (h : vwCl[ci]? = some q) : am_cn[ci]? = some q.1 := by
  match ci, h with
  | 0, h => cases h; rfl
  | 1, h => cases h; rfl
  | 2, h => cases h; rfl
  | 3, h => cases h; rfl
  | 4, h => cases h; rfl
  | 5, h => cases h; rfl
  | 6, h => cases h; rfl
  | 7, h => cases h; rfl
  | 8, h => cases h; rfl
  | 9, h => cases h; rfl
  | 10, h => cases h; rfl
  | 11, h => cases h; rfl
  | 12, h => cases h; rfl
  | n + 13, h => simp [vwCl] at h
section AMHQ
variable {p : Program} {l : Launch} {e : Env} {R : Room} {s : State} {m : MethodId} {args : Array Value} {below : List Frame} {meth : Method} {c : Code} {H : Heap} {locs : List Loc} {cells slots : Nat} {Q : State → Prop}
variable {pc len : Nat} {E : am_E} {LS : Array Slot} {st : List Value} {M : am_ME} {σ : am_I} {ρ : am_R} {g : am_J} {τ : am_T} {y : am_H5}
/-- putfield, of an object of the pool -/
theorem am_putW {i ci k a : Nat} {q : vw_C} {v : Value} {rest : List Value} (C : am_CX E p s m args meth c M) (hRP : am_RP E σ ρ g τ H) (hS : va_S (am_A E) s.heap H locs) (hq : vwCl[ci]? = some q) (hk : k < q.2.2) (hlink : (Cond.fieldLink M.1.cls i q.1 (q.2.1 k).2.1 (q.2.1 k).2.2.1) ∈ am_TB) (hdc : (q.2.1 k).1 = q.1) (hki : τ.1 a = ci) (ha : a < τ.2.2.1)
    (hn : narrow (am_tyF ci k) v = v) (hfit : fits (am_tyF ci k) v = true) (hfin : am_fin ci k = false ∨ (M.1.name = "<init>" ∧ M.2.2.2.2 = ci)) (hdg : decode M.2.1 pc = .ok (.putfield i, 3))
    (kk : ∀ (H' : Heap) (locs' : List Loc), t_OB (eB E + a) (eC E ci) q.2.2 (eI E ci) H' (updV (am_vo E σ ρ ci a) k v) → H'.size = H.size → (∀ z, z ≠ eB E + a → H'[z]? = H[z]?) → va_S (am_A E) s.heap H' locs' → W p l e R s m args below meth c H' locs' cells slots Q (F0 m (pc + 3) LS rest)) : W p l e R s m args below meth c H locs cells slots Q (F0 m pc LS (v :: .ref (am_ad E a) :: rest)) := by
  obtain ⟨hx, hb, hml, hown, hcn, hin, hts, hW⟩ := C
  have hbg : a < am_BG := by
    have := hRP.2.1
    omega
  have hob := hRP.ob ha (r := q) (by rw [hki]; exact hq)
  rw [hki] at hob
  obtain ⟨cell, q1, q2, q3, q4⟩ := hob
  obtain ⟨hSl, hfc, kC, hkC, hkind⟩ := hW.1 ci _ hq
  obtain ⟨cf, kf, fi, f, hi, hsl⟩ := hSl k hk
  have hap : ∀ x z, x < q.2.2 → z < q.2.2 → x ≠ z → eI E ci x ≠ eI E ci z := by
    intro x z hx1 hz1 hne
    obtain ⟨_, _, _, fa, hia, ea⟩ := hSl x hx1
    obtain ⟨_, _, _, fb, hib, eb⟩ := hSl z hz1
    rw [← ea, ← eb]
    refine u_apart (u_lays hts (am_cls hq).1 hx1) (u_lays hts (am_cls hq).1 hz1) hia hib ?_
    rw [(State.fieldFound?_type hia ((am_cls hq).2.1 x hx1)).1, (State.fieldFound?_type hib ((am_cls hq).2.1 z hz1)).1]
    exact (am_cls hq).2.2 x hx1 z hz1 hne
  have hlay := hts _ ((am_cls hq).1 _ (u_in_lay hk))
  unfold u_lay at hlay
  have hst := (u_facts hfc hkC (u_lays hts (am_cls hq).1 hk) hi).1
  have hi2 : s.fieldFound? q.1 (q.2.1 k).2.1 (q.2.1 k).2.2.1 = some (cf, kf, fi, f) := by rw [hdc] at hi; exact hi
  have hd := (am_cls hq).2.1 k hk
  have hA : am_A E (am_ad E a) := by rw [am_ad_in hbg]; exact Nat.le_add_right _ _
  have hfe : am_fin ci k = (q.2.1 k).2.2.2 := by simp only [am_fin, hq]
  by_cases hfi : (q.2.1 k).2.2.2 = true
  · rw [if_pos hfi] at hlay
    rcases hfin with hz | ⟨hi9, hci⟩
    · rw [hfe, hfi] at hz
      cases hz
    have hcl : M.1.cls = q.1 := by
      have h1 := hcn
      rw [hci] at h1
      have h2 : am_cn[ci]? = some q.1 := am_cn_ok hq
      exact Option.some.inj (h1.symm.trans h2)
    have hcf : m.cls = cf := by
      obtain ⟨_, _, c', _, _, _, -, -, hf', -, -, -, hown2, -⟩ := Cond.laysFinal_spec hlay
      have e1 : c' = cf := by have := hi.symm.trans hf'; simp at this; exact this.1.symm
      rw [hdc, ← hcl] at hown2
      rw [← e1]; exact Option.some.inj (hown.symm.trans hown2)
    have h6 := u_fits hfc hkC hkind (Or.inr hlay) hi hd hn hfit
    refine W.putFinK hx hb hown (hts _ hlink) hi2 hst hcf (hin hi9) (by rw [q2]; exact h6) q1 q3 (by rw [hsl]; exact k2_hasslot (q4 k hk)) rfl rfl hdg fun H' e1 e2 e3 => ?_
    rw [hsl] at e1 ⊢
    have hS2 := hS.put (k := eI E ci k) e2 e3 hA
    rw [am_ad_in hbg] at e1 e3
    exact kk H' _ ⟨_, e1, q2, q3, t_set q4 hap hk v⟩ e2 e3 hS2
  · rw [if_neg hfi] at hlay
    have h6 := u_store hfc hkC hkind hlay hi hd hn hfit
    refine W.putK hx hb (f := f) ⟨hown, hts _ hlink, ⟨_, _, _, hi2⟩, hst⟩ (by rw [q2]; exact h6) q1 q3 (by rw [hsl]; exact k2_hasslot (q4 k hk)) rfl rfl hdg fun H' e1 e2 e3 => ?_
    rw [hsl] at e1 ⊢
    have hS2 := hS.put (k := eI E ci k) e2 e3 hA
    rw [am_ad_in hbg] at e1 e3
    exact kk H' _ ⟨_, e1, q2, q3, t_set q4 hap hk v⟩ e2 e3 hS2
theorem am_hp_putfield (C : am_CX E p s m args meth c M) (hRP : am_RP E σ ρ g τ H) (hS : va_S (am_A E) s.heap H locs) {i : Nat} (hdg : decode M.2.1 pc = .ok (.putfield i, 3)) (h : am_hp M (.putfield i) st σ ρ g τ = some y) (kk : ∀ (H' : Heap) (locs' : List Loc) (cells' slots' : Nat), am_RP E y.2.1 y.2.2.1 y.2.2.2.1 y.2.2.2.2 H' → va_S (am_A E) s.heap H' locs' → cells' + τ.2.2.1 = cells + y.2.2.2.2.2.2.1 → slots' + τ.2.2.2 = slots + y.2.2.2.2.2.2.2 → W p l e R s m args below meth c H' locs' cells' slots' Q (F0 m (pc + 3) LS (y.1.map (am_sh E)))) : W p l e R s m args below meth c H locs cells slots Q (F0 m pc LS (st.map (am_sh E))) := by
  simp only [am_hp] at h
  split at h
  · rename_i v a r
    split at h
    rotate_left
    · cases h
    rename_i ci k hk
    split at h
    rotate_left
    · cases h
    rename_i hcond
    cases h
    obtain ⟨hki, hiR, hty, hfn⟩ := hcond
    obtain ⟨ps, hc⟩ := am_K_ck hk (Nat.succ_ne_zero _)
    simp only [am_ck] at hc
    split at hc
    rotate_left
    · cases hc
    rename_i q hq
    simp only [Bool.and_eq_true, decide_eq_true_eq] at hc
    obtain ⟨⟨c1, c2⟩, c3⟩ := hc
    rw [am_cnD C.2.2.2.2.1] at c2
    have hlt : ci < 13 := (List.getElem?_eq_some_iff.mp hq).1
    have ha : a < τ.2.2.1 := hRP.in C.2.2.2.2.2.2.2 hki (by omega) (Or.inl ⟨by omega, by omega, by omega⟩)
    have hnf : narrow (am_tyF ci k) (.int v) = .int v ∧ fits (am_tyF ci k) (.int v) = true := by
      rcases hty with z | ⟨z, z2⟩
      · rw [z]; exact ⟨rfl, rfl⟩
      · rw [z]
        rcases am_b01_ok z2 with rfl | rfl <;> exact ⟨rfl, rfl⟩
    refine am_putW C hRP hS hq c1 (am_at_mem c2) c3 hki ha hnf.1 hnf.2 hfn hdg (fun H' locs' h1 h2 h3 h4 => ?_)
    refine kk H' locs' cells slots (hRP.put ha (fun b hb => am_u_ne hb) (fun _ _ => rfl) (fun _ _ => rfl) h2 h3 (am_pc_of (r := q) (by rw [hki]; exact hq) ?_)) h4 rfl rfl
    rw [hki]
    refine h1.to (fun j hj => ?_)
    simp only [updV, am_vo, am_u_at]
    by_cases e : j = k
    · subst e
      simp [hiR, am_sh]
    · simp [e]
  · rename_i b a r
    split at h
    rotate_left
    · cases h
    rename_i ci k hk
    split at h
    rotate_left
    · cases h
    rename_i hcond
    cases h
    obtain ⟨hki, hiR, hfn⟩ := hcond
    obtain ⟨ps, hc⟩ := am_K_ck hk (Nat.succ_ne_zero _)
    simp only [am_ck] at hc
    split at hc
    rotate_left
    · cases hc
    rename_i q hq
    simp only [Bool.and_eq_true, decide_eq_true_eq] at hc
    obtain ⟨⟨c1, c2⟩, c3⟩ := hc
    rw [am_cnD C.2.2.2.2.1] at c2
    have hlt : ci < 13 := (List.getElem?_eq_some_iff.mp hq).1
    have ha : a < τ.2.2.1 := hRP.in C.2.2.2.2.2.2.2 hki (by omega) (Or.inl ⟨by omega, by omega, by omega⟩)
    have hnf : narrow (am_tyF ci k) (.ref (am_ad E b)) = (.ref (am_ad E b)) ∧ fits (am_tyF ci k) (.ref (am_ad E b)) = true := by
      unfold am_iR at hiR
      cases hz : am_tyF ci k <;> rw [hz] at hiR <;> first | (cases hiR; done) | exact ⟨rfl, rfl⟩
    refine am_putW C hRP hS hq c1 (am_at_mem c2) c3 hki ha hnf.1 hnf.2 hfn hdg (fun H' locs' h1 h2 h3 h4 => ?_)
    refine kk H' locs' cells slots (hRP.put ha (fun _ _ => rfl) (fun b hb => am_u_ne hb) (fun _ _ => rfl) h2 h3 (am_pc_of (r := q) (by rw [hki]; exact hq) ?_)) h4 rfl rfl
    rw [hki]
    refine h1.to (fun j hj => ?_)
    simp only [updV, am_vo, am_u_at]
    by_cases e : j = k
    · subst e
      simp [hiR, va_rf, am_sh]
    · simp [e]
  · rename_i a r
    split at h
    rotate_left
    · cases h
    rename_i ci k hk
    split at h
    rotate_left
    · cases h
    rename_i hcond
    cases h
    obtain ⟨hki, hiR, hfn⟩ := hcond
    obtain ⟨ps, hc⟩ := am_K_ck hk (Nat.succ_ne_zero _)
    simp only [am_ck] at hc
    split at hc
    rotate_left
    · cases hc
    rename_i q hq
    simp only [Bool.and_eq_true, decide_eq_true_eq] at hc
    obtain ⟨⟨c1, c2⟩, c3⟩ := hc
    rw [am_cnD C.2.2.2.2.1] at c2
    have hlt : ci < 13 := (List.getElem?_eq_some_iff.mp hq).1
    have ha : a < τ.2.2.1 := hRP.in C.2.2.2.2.2.2.2 hki (by omega) (Or.inl ⟨by omega, by omega, by omega⟩)
    have hnf : narrow (am_tyF ci k) (.null) = (.null) ∧ fits (am_tyF ci k) (.null) = true := by
      unfold am_iR at hiR
      cases hz : am_tyF ci k <;> rw [hz] at hiR <;> first | (cases hiR; done) | exact ⟨rfl, rfl⟩
    refine am_putW C hRP hS hq c1 (am_at_mem c2) c3 hki ha hnf.1 hnf.2 hfn hdg (fun H' locs' h1 h2 h3 h4 => ?_)
    refine kk H' locs' cells slots (hRP.put ha (fun _ _ => rfl) (fun b hb => am_u_ne hb) (fun _ _ => rfl) h2 h3 (am_pc_of (r := q) (by rw [hki]; exact hq) ?_)) h4 rfl rfl
    rw [hki]
    refine h1.to (fun j hj => ?_)
    simp only [updV, am_vo, am_u_at]
    by_cases e : j = k
    · subst e
      simp [hiR, va_rf, am_sh]
    · simp [e]
  · cases h
theorem am_hp_iaload (C : am_CX E p s m args meth c M) (hRP : am_RP E σ ρ g τ H) (hS : va_S (am_A E) s.heap H locs) (hdg : decode M.2.1 pc = .ok (.iaload, 1)) (h : am_hp M (.iaload) st σ ρ g τ = some y) (kk : ∀ (H' : Heap) (locs' : List Loc) (cells' slots' : Nat), am_RP E y.2.1 y.2.2.1 y.2.2.2.1 y.2.2.2.2 H' → va_S (am_A E) s.heap H' locs' → cells' + τ.2.2.1 = cells + y.2.2.2.2.2.2.1 → slots' + τ.2.2.2 = slots + y.2.2.2.2.2.2.2 → W p l e R s m args below meth c H' locs' cells' slots' Q (F0 m (pc + 1) LS (y.1.map (am_sh E)))) : W p l e R s m args below meth c H locs cells slots Q (F0 m pc LS (st.map (am_sh E))) := by
  simp only [am_hp] at h
  split at h
  rotate_left
  · cases h
  rename_i j a r
  split at h
  rotate_left
  · cases h
  rename_i hcond
  cases h
  obtain ⟨hx, hb, hml, hown, hcn, hin, hts, hW⟩ := C
  obtain ⟨hk, hi⟩ := hcond
  obtain ⟨cell, z1, z2, z3, z4, z5, z6⟩ := am_rd hRP hW hS (a := a) (by omega) (by omega)
  rw [hk] at z2 z6
  have hj : j.toNatClampNeg < τ.2.1 a := Nat.not_le.mp fun z => (of_decide_eq_true hi) (Or.inr z)
  have hi9 : ¬ (j < 0 ∨ cell.slots.size ≤ j.toNatClampNeg) := fun z => z.elim (fun z => (of_decide_eq_true hi) (Or.inl z)) (fun z => by omega)
  exact W.iald hx hb z1 z2 z3 hi9 (z6 _ hj) rfl rfl hdg (kk H locs cells slots hRP hS rfl rfl)
theorem am_hp_laload (C : am_CX E p s m args meth c M) (hRP : am_RP E σ ρ g τ H) (hS : va_S (am_A E) s.heap H locs) (hdg : decode M.2.1 pc = .ok (.laload, 1)) (h : am_hp M (.laload) st σ ρ g τ = some y) (kk : ∀ (H' : Heap) (locs' : List Loc) (cells' slots' : Nat), am_RP E y.2.1 y.2.2.1 y.2.2.2.1 y.2.2.2.2 H' → va_S (am_A E) s.heap H' locs' → cells' + τ.2.2.1 = cells + y.2.2.2.2.2.2.1 → slots' + τ.2.2.2 = slots + y.2.2.2.2.2.2.2 → W p l e R s m args below meth c H' locs' cells' slots' Q (F0 m (pc + 1) LS (y.1.map (am_sh E)))) : W p l e R s m args below meth c H locs cells slots Q (F0 m pc LS (st.map (am_sh E))) := by
  simp only [am_hp] at h
  split at h
  rotate_left
  · cases h
  rename_i j a r
  split at h
  rotate_left
  · cases h
  rename_i hcond
  cases h
  obtain ⟨hx, hb, hml, hown, hcn, hin, hts, hW⟩ := C
  obtain ⟨hk, hi⟩ := hcond
  obtain ⟨cell, z1, z2, z3, z4, z5, z6⟩ := am_rd hRP hW hS (a := a) (by omega) (by omega)
  rw [hk] at z2 z6
  have hj : j.toNatClampNeg < τ.2.1 a := Nat.not_le.mp fun z => (of_decide_eq_true hi) (Or.inr z)
  have hi9 : ¬ (j < 0 ∨ cell.slots.size ≤ j.toNatClampNeg) := fun z => z.elim (fun z => (of_decide_eq_true hi) (Or.inl z)) (fun z => by omega)
  exact W.lald hx hb z1 z2 z3 hi9 (z6 _ hj) rfl rfl hdg (kk H locs cells slots hRP hS rfl rfl)
theorem am_hp_baload (C : am_CX E p s m args meth c M) (hRP : am_RP E σ ρ g τ H) (hS : va_S (am_A E) s.heap H locs) (hdg : decode M.2.1 pc = .ok (.baload, 1)) (h : am_hp M (.baload) st σ ρ g τ = some y) (kk : ∀ (H' : Heap) (locs' : List Loc) (cells' slots' : Nat), am_RP E y.2.1 y.2.2.1 y.2.2.2.1 y.2.2.2.2 H' → va_S (am_A E) s.heap H' locs' → cells' + τ.2.2.1 = cells + y.2.2.2.2.2.2.1 → slots' + τ.2.2.2 = slots + y.2.2.2.2.2.2.2 → W p l e R s m args below meth c H' locs' cells' slots' Q (F0 m (pc + 1) LS (y.1.map (am_sh E)))) : W p l e R s m args below meth c H locs cells slots Q (F0 m pc LS (st.map (am_sh E))) := by
  simp only [am_hp] at h
  split at h
  rotate_left
  · cases h
  rename_i j a r
  split at h
  rotate_left
  · cases h
  rename_i hcond
  cases h
  obtain ⟨hx, hb, hml, hown, hcn, hin, hts, hW⟩ := C
  obtain ⟨hk, hi⟩ := hcond
  obtain ⟨cell, z1, z2, z3, z4, z5, z6⟩ := am_rd hRP hW hS (a := a) (by omega) (by omega)
  have hj : j.toNatClampNeg < τ.2.1 a := Nat.not_le.mp fun z => (of_decide_eq_true hi) (Or.inr z)
  have hi9 : ¬ (j < 0 ∨ cell.slots.size ≤ j.toNatClampNeg) := fun z => z.elim (fun z => (of_decide_eq_true hi) (Or.inl z)) (fun z => by omega)
  rcases hk with hk | hk
  · rw [hk] at z2 z6
    exact W.bald hx hb z1 z2 z3 hi9 (z6 _ hj) rfl rfl hdg (kk H locs cells slots hRP hS rfl rfl)
  · rw [hk] at z2 z6
    exact W.zald hx hb z1 z2 z3 hi9 (z6 _ hj) rfl rfl hdg (kk H locs cells slots hRP hS rfl rfl)
theorem am_tyK_ref {kd : Nat} (h1 : 18 ≤ kd) (h2 : kd ≤ 22) : (am_tyK kd).isReference = true := by
  rcases (show kd = 18 ∨ kd = 19 ∨ kd = 20 ∨ kd = 21 ∨ kd = 22 by omega) with rfl | rfl | rfl | rfl | rfl <;> rfl
theorem am_va_ref {kd a j : Nat} (h1 : 18 ≤ kd) : am_va E σ ρ g kd a j = va_rf ((ρ a j).map (am_ad E)) := by
  unfold am_va
  rw [if_neg (by omega), if_pos h1]
theorem am_hp_aaload (C : am_CX E p s m args meth c M) (hRP : am_RP E σ ρ g τ H) (hS : va_S (am_A E) s.heap H locs) (hdg : decode M.2.1 pc = .ok (.aaload, 1)) (h : am_hp M (.aaload) st σ ρ g τ = some y) (kk : ∀ (H' : Heap) (locs' : List Loc) (cells' slots' : Nat), am_RP E y.2.1 y.2.2.1 y.2.2.2.1 y.2.2.2.2 H' → va_S (am_A E) s.heap H' locs' → cells' + τ.2.2.1 = cells + y.2.2.2.2.2.2.1 → slots' + τ.2.2.2 = slots + y.2.2.2.2.2.2.2 → W p l e R s m args below meth c H' locs' cells' slots' Q (F0 m (pc + 1) LS (y.1.map (am_sh E)))) : W p l e R s m args below meth c H locs cells slots Q (F0 m pc LS (st.map (am_sh E))) := by
  simp only [am_hp] at h
  split at h
  rotate_left
  · cases h
  rename_i j a r
  split at h
  rotate_left
  · cases h
  rename_i hcond
  cases h
  obtain ⟨hx, hb, hml, hown, hcn, hin, hts, hW⟩ := C
  obtain ⟨hk, hk2, hi⟩ := hcond
  obtain ⟨cell, z1, z2, z3, z4, z5, z6⟩ := am_rd hRP hW hS (a := a) (by omega) (by omega)
  have hj : j.toNatClampNeg < τ.2.1 a := Nat.not_le.mp fun z => (of_decide_eq_true hi) (Or.inr z)
  have hi9 : ¬ (j < 0 ∨ cell.slots.size ≤ j.toNatClampNeg) := fun z => z.elim (fun z => (of_decide_eq_true hi) (Or.inl z)) (fun z => by omega)
  have z7 := z6 _ hj
  rw [am_va_ref hk, am_rfg] at z7
  exact W.aald hx hb z1 z2 (am_tyK_ref hk hk2) z3 hi9 z7 rfl rfl hdg (kk H locs cells slots hRP hS rfl rfl)
theorem am_hp_arraylength (C : am_CX E p s m args meth c M) (hRP : am_RP E σ ρ g τ H) (hS : va_S (am_A E) s.heap H locs) (hdg : decode M.2.1 pc = .ok (.arraylength, 1)) (h : am_hp M (.arraylength) st σ ρ g τ = some y) (kk : ∀ (H' : Heap) (locs' : List Loc) (cells' slots' : Nat), am_RP E y.2.1 y.2.2.1 y.2.2.2.1 y.2.2.2.2 H' → va_S (am_A E) s.heap H' locs' → cells' + τ.2.2.1 = cells + y.2.2.2.2.2.2.1 → slots' + τ.2.2.2 = slots + y.2.2.2.2.2.2.2 → W p l e R s m args below meth c H' locs' cells' slots' Q (F0 m (pc + 1) LS (y.1.map (am_sh E)))) : W p l e R s m args below meth c H locs cells slots Q (F0 m pc LS (st.map (am_sh E))) := by
  simp only [am_hp] at h
  split at h
  rotate_left
  · cases h
  rename_i a r
  split at h
  rotate_left
  · cases h
  rename_i hcond
  cases h
  obtain ⟨hx, hb, hml, hown, hcn, hin, hts, hW⟩ := C
  obtain ⟨cell, z1, z2, z3, z4, z5, z6⟩ := am_rd hRP hW hS (a := a) hcond.1 hcond.2
  exact W.alen hx hb z1 z2 z5 rfl rfl hdg (kk H locs cells slots hRP hS rfl rfl)
end AMHQ
