/-! the instructions of the heap: array writes, making, Object(), Math, arraycopy -/
theorem am_ac_byte : Cond.arrayClass .byte ∈ am_TB := am_at_mem (p := 363) (by decide +kernel)
theorem am_ac_int : Cond.arrayClass .int ∈ am_TB := am_at_mem (p := 140) (by decide +kernel)
theorem am_ac_long : Cond.arrayClass .long ∈ am_TB := am_at_mem (p := 1496) (by decide +kernel)
theorem am_ac_boolean : Cond.arrayClass .boolean ∈ am_TB := am_at_mem (p := 390) (by decide +kernel)
theorem am_ov1 : Cond.arrayOver (.object RX1) ∈ lw_tbl := am_an_mem (p := 122) (by decide +kernel)
theorem am_ov5 : Cond.arrayOver (.object RX5) ∈ lw_tbl := am_an_mem (p := 126) (by decide +kernel)
theorem am_ov7 : Cond.arrayOver (.object RX7) ∈ lw_tbl := am_an_mem (p := 120) (by decide +kernel)
theorem am_ov9 : Cond.arrayOver (.object RX9) ∈ lw_tbl := am_an_mem (p := 141) (by decide +kernel)
theorem am_cp1 : Cond.native arraycopyName ∈ am_TB := am_at_mem (p := 926) (by decide +kernel)
theorem am_cp2 : Cond.static arraycopyName ∈ am_TB := am_at_mem (p := 925) (by decide +kernel)
theorem am_cp3 : Cond.initialized "java/lang/System" ∈ am_TB := am_at_mem (p := 104) (by decide +kernel)
theorem am_oi1 : Cond.instanceMethod objectInit ∈ am_TB := am_at_mem (p := 111) (by decide +kernel)
theorem am_oi2 : Cond.code objectInit ⟨#[0xb1]⟩ 1 none ∈ am_TB := am_at_mem (p := 112) (by decide +kernel)
theorem am_in0 : Cond.instantiable RX0 7 ∈ am_TB ∧ Cond.initialized RX0 ∈ am_TB := ⟨am_at_mem (p := 448) (by decide +kernel), am_at_mem (p := 97) (by decide +kernel)⟩
theorem am_in1 : Cond.instantiable RX1 10 ∈ am_TB ∧ Cond.initialized RX1 ∈ am_TB := ⟨am_at_mem (p := 199) (by decide +kernel), am_at_mem (p := 92) (by decide +kernel)⟩
theorem am_in2 : Cond.instantiable RX2 6 ∈ am_TB ∧ Cond.initialized RX2 ∈ am_TB := ⟨am_at_mem (p := 415) (by decide +kernel), am_at_mem (p := 96) (by decide +kernel)⟩
theorem am_in3 : Cond.instantiable RX3 16 ∈ am_TB ∧ Cond.initialized RX3 ∈ am_TB := ⟨am_at_mem (p := 114) (by decide +kernel), am_at_mem (p := 86) (by decide +kernel)⟩
theorem am_in4 : Cond.instantiable RX4 4 ∈ am_TB ∧ Cond.initialized RX4 ∈ am_TB := ⟨am_at_mem (p := 143) (by decide +kernel), am_at_mem (p := 88) (by decide +kernel)⟩
theorem am_in5 : Cond.instantiable RX5 4 ∈ am_TB ∧ Cond.initialized RX5 ∈ am_TB := ⟨am_at_mem (p := 927) (by decide +kernel), am_at_mem (p := 99) (by decide +kernel)⟩
theorem am_in6 : Cond.instantiable RX6 4 ∈ am_TB ∧ Cond.initialized RX6 ∈ am_TB := ⟨am_at_mem (p := 392) (by decide +kernel), am_at_mem (p := 95) (by decide +kernel)⟩
theorem am_in7 : Cond.instantiable RX7 5 ∈ am_TB ∧ Cond.initialized RX7 ∈ am_TB := ⟨am_at_mem (p := 169) (by decide +kernel), am_at_mem (p := 91) (by decide +kernel)⟩
theorem am_in8 : Cond.instantiable RX8 6 ∈ am_TB ∧ Cond.initialized RX8 ∈ am_TB := ⟨am_at_mem (p := 365) (by decide +kernel), am_at_mem (p := 94) (by decide +kernel)⟩
theorem am_in9 : Cond.instantiable RX9 2 ∈ am_TB ∧ Cond.initialized RX9 ∈ am_TB := ⟨am_at_mem (p := 124) (by decide +kernel), am_at_mem (p := 87) (by decide +kernel)⟩
theorem am_in10 : Cond.instantiable RX10 10 ∈ am_TB ∧ Cond.initialized RX10 ∈ am_TB := ⟨am_at_mem (p := 324) (by decide +kernel), am_at_mem (p := 93) (by decide +kernel)⟩
theorem am_in11 : Cond.instantiable RX11 11 ∈ am_TB ∧ Cond.initialized RX11 ∈ am_TB := ⟨am_at_mem (p := 106) (by decide +kernel), am_at_mem (p := 85) (by decide +kernel)⟩
theorem am_in12 : Cond.instantiable RX12 75 ∈ am_TB ∧ Cond.initialized RX12 ∈ am_TB := ⟨am_at_mem (p := 1264) (by decide +kernel), am_at_mem (p := 98) (by decide +kernel)⟩
theorem am_inA {ci : Nat} {q : vw_C} (h : vwCl[ci]? = some q) : Cond.instantiable q.1 q.2.2 ∈ am_TB ∧ Cond.initialized q.1 ∈ am_TB := by
  match ci, h with
  | 0, h => cases h; exact am_in0
  | 1, h => cases h; exact am_in1
  | 2, h => cases h; exact am_in2
  | 3, h => cases h; exact am_in3
  | 4, h => cases h; exact am_in4
  | 5, h => cases h; exact am_in5
  | 6, h => cases h; exact am_in6
  | 7, h => cases h; exact am_in7
  | 8, h => cases h; exact am_in8
  | 9, h => cases h; exact am_in9
  | 10, h => cases h; exact am_in10
  | 11, h => cases h; exact am_in11
  | 12, h => cases h; exact am_in12
  | n + 13, h => simp [vwCl] at h
section AMHR
variable {p : Program} {l : Launch} {e : Env} {R : Room} {s : State} {m : MethodId} {args : Array Value} {below : List Frame} {meth : Method} {c : Code} {H : Heap} {locs : List Loc} {cells slots : Nat} {Q : State → Prop}
variable {pc len : Nat} {E : am_E} {LS : Array Slot} {st : List Value} {M : am_ME} {σ : am_I} {ρ : am_R} {g : am_J} {τ : am_T} {y : am_H5}
theorem am_pc_ar {a : Nat} (hk : 14 ≤ τ.1 a) (hk2 : τ.1 a ≤ 22) {V : Nat → Value} (h : H[eB E + a]? = some (arrV (eY E (τ.1 a)) (τ.2.1 a) V)) (hv : V = am_va E σ ρ g (τ.1 a) a) : am_PC E σ ρ g τ H a := Or.inr ⟨⟨hk, hk2⟩, by rw [← hv]; exact h⟩
theorem am_va_i {kd a j : Nat} (h : kd = 14 ∨ kd = 15 ∨ kd = 17) : am_va E σ ρ g kd a j = .int (σ a j) := by
  unfold am_va
  rw [if_neg (by omega), if_neg (by omega)]
theorem am_upV {a j : Nat} {x : Int32} {kd : Nat} (h : kd = 14 ∨ kd = 15 ∨ kd = 17) : updV (am_va E σ ρ g kd a) j (.int x) = am_va E (am_u σ a j x) ρ g kd a := by
  funext q
  rw [am_va_i h, am_u_at]
  unfold updV
  by_cases e : q = j
  · rw [if_pos e, if_pos e]
  · rw [if_neg e, if_neg e, am_va_i h]
theorem am_upL {a j : Nat} {x : Int64} : updV (am_va E σ ρ g 16 a) j (.long x) = am_va E σ ρ (am_u g a j x) 16 a := by
  funext q
  unfold updV am_va
  rw [if_pos rfl, if_pos rfl, am_u_at]
  by_cases e : q = j
  · rw [if_pos e, if_pos e]
  · rw [if_neg e, if_neg e]
theorem am_upR {a j b : Nat} {kd : Nat} (h : 18 ≤ kd) : updV (am_va E σ ρ g kd a) j (.ref (am_ad E b)) = am_va E σ (am_u ρ a j (some b)) g kd a := by
  funext q
  rw [am_va_ref h, am_u_at]
  unfold updV
  by_cases e : q = j
  · rw [if_pos e, if_pos e]
    rfl
  · rw [if_neg e, if_neg e, am_va_ref h]
theorem am_A_ad {a : Nat} (h : a < am_BG) : am_A E (am_ad E a) := by rw [am_ad_in h]; exact Nat.le_add_right _ _
theorem am_hp_iastore (C : am_CX E p s m args meth c M) (hRP : am_RP E σ ρ g τ H) (hS : va_S (am_A E) s.heap H locs) (hdg : decode M.2.1 pc = .ok (.iastore, 1)) (h : am_hp M (.iastore) st σ ρ g τ = some y) (kk : ∀ (H' : Heap) (locs' : List Loc) (cells' slots' : Nat), am_RP E y.2.1 y.2.2.1 y.2.2.2.1 y.2.2.2.2 H' → va_S (am_A E) s.heap H' locs' → cells' + τ.2.2.1 = cells + y.2.2.2.2.2.2.1 → slots' + τ.2.2.2 = slots + y.2.2.2.2.2.2.2 → W p l e R s m args below meth c H' locs' cells' slots' Q (F0 m (pc + 1) LS (y.1.map (am_sh E)))) : W p l e R s m args below meth c H locs cells slots Q (F0 m pc LS (st.map (am_sh E))) := by
  simp only [am_hp] at h
  split at h
  rotate_left
  · cases h
  rename_i x j a r
  split at h
  rotate_left
  · cases h
  rename_i hcond
  obtain ⟨hk, hab, hi⟩ := hcond
  cases h
  obtain ⟨hx, hb, hml, hown, hcn, hin, hts, hW⟩ := C
  have ha : a < τ.2.2.1 := hRP.in hW hk (by omega) (Or.inr hab)
  have hcell := hRP.ar ha (by omega)
  rw [hk] at hcell
  have hj : j.toNatClampNeg < τ.2.1 a := Nat.not_le.mp fun z => (of_decide_eq_true hi) (Or.inr z)
  refine W.iast hx hb hcell ((hW.2.1 15 (by omega) (by omega)).1 _ _) (fun z => by cases z) (fun z => z.elim (fun z => (of_decide_eq_true hi) (Or.inl z)) (fun z => by rw [arrV_size] at z; omega)) rfl rfl hdg fun H' e z oq => ?_
  have hS2 := hS.put (k := j.toNatClampNeg) z oq (am_A_ad hab)
  rw [am_ad_in hab] at e oq
  rw [arrV_store] at e
  exact kk H' _ cells slots (hRP.put ha (fun b hb => am_u_ne hb) (fun _ _ => rfl) (fun _ _ => rfl) z oq (am_pc_ar (by omega) (by omega) (by rw [hk]; exact e) (by rw [hk]; exact am_upV (by omega)))) hS2 rfl rfl
theorem am_hp_lastore (C : am_CX E p s m args meth c M) (hRP : am_RP E σ ρ g τ H) (hS : va_S (am_A E) s.heap H locs) (hdg : decode M.2.1 pc = .ok (.lastore, 1)) (h : am_hp M (.lastore) st σ ρ g τ = some y) (kk : ∀ (H' : Heap) (locs' : List Loc) (cells' slots' : Nat), am_RP E y.2.1 y.2.2.1 y.2.2.2.1 y.2.2.2.2 H' → va_S (am_A E) s.heap H' locs' → cells' + τ.2.2.1 = cells + y.2.2.2.2.2.2.1 → slots' + τ.2.2.2 = slots + y.2.2.2.2.2.2.2 → W p l e R s m args below meth c H' locs' cells' slots' Q (F0 m (pc + 1) LS (y.1.map (am_sh E)))) : W p l e R s m args below meth c H locs cells slots Q (F0 m pc LS (st.map (am_sh E))) := by
  simp only [am_hp] at h
  split at h
  rotate_left
  · cases h
  rename_i x j a r
  split at h
  rotate_left
  · cases h
  rename_i hcond
  obtain ⟨hk, hi⟩ := hcond
  cases h
  obtain ⟨hx, hb, hml, hown, hcn, hin, hts, hW⟩ := C
  have hab : a < am_BG := Nat.lt_of_lt_of_le (hRP.in hW hk (by omega) (Or.inl ⟨by omega, by omega, by omega⟩)) hRP.2.1
  have ha : a < τ.2.2.1 := hRP.in hW hk (by omega) (Or.inr hab)
  have hcell := hRP.ar ha (by omega)
  rw [hk] at hcell
  have hj : j.toNatClampNeg < τ.2.1 a := Nat.not_le.mp fun z => (of_decide_eq_true hi) (Or.inr z)
  refine W.last hx hb hcell ((hW.2.1 16 (by omega) (by omega)).1 _ _) (fun z => by cases z) (fun z => z.elim (fun z => (of_decide_eq_true hi) (Or.inl z)) (fun z => by rw [arrV_size] at z; omega)) rfl rfl hdg fun H' e z oq => ?_
  have hS2 := hS.put (k := j.toNatClampNeg) z oq (am_A_ad hab)
  rw [am_ad_in hab] at e oq
  rw [arrV_store] at e
  exact kk H' _ cells slots (hRP.put ha (fun _ _ => rfl) (fun _ _ => rfl) (fun b hb => am_u_ne hb) z oq (am_pc_ar (by omega) (by omega) (by rw [hk]; exact e) (by rw [hk]; exact am_upL))) hS2 rfl rfl
theorem am_hp_bastore (C : am_CX E p s m args meth c M) (hRP : am_RP E σ ρ g τ H) (hS : va_S (am_A E) s.heap H locs) (hdg : decode M.2.1 pc = .ok (.bastore, 1)) (h : am_hp M (.bastore) st σ ρ g τ = some y) (kk : ∀ (H' : Heap) (locs' : List Loc) (cells' slots' : Nat), am_RP E y.2.1 y.2.2.1 y.2.2.2.1 y.2.2.2.2 H' → va_S (am_A E) s.heap H' locs' → cells' + τ.2.2.1 = cells + y.2.2.2.2.2.2.1 → slots' + τ.2.2.2 = slots + y.2.2.2.2.2.2.2 → W p l e R s m args below meth c H' locs' cells' slots' Q (F0 m (pc + 1) LS (y.1.map (am_sh E)))) : W p l e R s m args below meth c H locs cells slots Q (F0 m pc LS (st.map (am_sh E))) := by
  simp only [am_hp] at h
  split at h
  rotate_left
  · cases h
  rename_i x j a r
  split at h
  rotate_left
  · cases h
  rename_i hcond
  obtain ⟨hi, hab⟩ := hcond
  obtain ⟨hx, hb, hml, hown, hcn, hin, hts, hW⟩ := C
  split at h
  · rename_i hk
    cases h
    have ha : a < τ.2.2.1 := hRP.in hW hk (by omega) (Or.inr hab)
    have hcell := hRP.ar ha (by omega)
    rw [hk] at hcell
    have hj : j.toNatClampNeg < τ.2.1 a := Nat.not_le.mp fun z => (of_decide_eq_true hi) (Or.inr z)
    refine W.bast hx hb hcell ((hW.2.1 14 (by omega) (by omega)).1 _ _) (fun z => by cases z) (fun z => z.elim (fun z => (of_decide_eq_true hi) (Or.inl z)) (fun z => by rw [arrV_size] at z; omega)) rfl rfl hdg fun H' e z oq => ?_
    have hS2 := hS.put (k := j.toNatClampNeg) z oq (am_A_ad hab)
    rw [am_ad_in hab] at e oq
    rw [arrV_store] at e
    exact kk H' _ cells slots (hRP.put ha (fun b hb => am_u_ne hb) (fun _ _ => rfl) (fun _ _ => rfl) z oq (am_pc_ar (by omega) (by omega) (by rw [hk]; exact e) (by rw [hk]; exact am_upV (by omega)))) hS2 rfl rfl
  · split at h
    · rename_i hk
      obtain ⟨hk, hb01⟩ := hk
      cases h
      have ha : a < τ.2.2.1 := hRP.in hW hk (by omega) (Or.inr hab)
      have hcell := hRP.ar ha (by omega)
      rw [hk] at hcell
      have hj : j.toNatClampNeg < τ.2.1 a := Nat.not_le.mp fun z => (of_decide_eq_true hi) (Or.inr z)
      refine W.zast hx hb hcell ((hW.2.1 17 (by omega) (by omega)).1 _ _) (fun z => by cases z) (fun z => z.elim (fun z => (of_decide_eq_true hi) (Or.inl z)) (fun z => by rw [arrV_size] at z; omega)) rfl rfl hdg fun H' e z oq => ?_
      have hS2 := hS.put (k := j.toNatClampNeg) z oq (am_A_ad hab)
      rw [am_ad_in hab] at e oq
      rw [arrV_store, show narrow .boolean (.int x) = .int x from by rcases am_b01_ok hb01 with rfl | rfl <;> rfl] at e
      exact kk H' _ cells slots (hRP.put ha (fun b hb => am_u_ne hb) (fun _ _ => rfl) (fun _ _ => rfl) z oq (am_pc_ar (by omega) (by omega) (by rw [hk]; exact e) (by rw [hk]; exact am_upV (by omega)))) hS2 rfl rfl
    · cases h
theorem am_elem {kd : Nat} (hW : am_WD E s) (h1 : 18 ≤ kd) (h2 : kd ≤ 22) : ∃ (kA : Class) (comp : ClassId) (kc : Class), s.vm.classes[eY E kd]? = some kA ∧ kA.kind = .array comp (am_tyK kd) ∧ s.vm.classes[comp]? = some kc ∧ (kd ≤ 21 → comp = eC E (am_elK kd)) ∧ (kd = 22 → comp = eY E 15) := by
  have ho : ∀ (ci : Nat) (q : vw_C), vwCl[ci]? = some q → va_RA s (eY E kd) (.object q.1) → ∃ (kA : Class) (comp : ClassId) (kc : Class), s.vm.classes[eY E kd]? = some kA ∧ kA.kind = .array comp (.object q.1) ∧ s.vm.classes[comp]? = some kc ∧ comp = eC E ci := by
    intro ci q hq hRA
    obtain ⟨kA, comp, k1, k2, k3, -⟩ := hRA
    obtain ⟨-, hfc, kC, hkC, -⟩ := hW.1 ci _ hq
    have hcomp : comp = eC E ci := Option.some.inj (k3.symm.trans hfc)
    exact ⟨kA, comp, kC, k1, k2, by rw [hcomp]; exact hkC, hcomp⟩
  have hR := (hW.2.1 kd (by omega) h2).2
  rcases (show kd = 18 ∨ kd = 19 ∨ kd = 20 ∨ kd = 21 ∨ kd = 22 by omega) with rfl | rfl | rfl | rfl | rfl
  · obtain ⟨kA, comp, kc, a1, a2, a3, a4⟩ := ho 1 _ rfl hR
    exact ⟨kA, comp, kc, a1, a2, a3, fun _ => a4, fun z => by omega⟩
  · obtain ⟨kA, comp, kc, a1, a2, a3, a4⟩ := ho 5 _ rfl hR
    exact ⟨kA, comp, kc, a1, a2, a3, fun _ => a4, fun z => by omega⟩
  · obtain ⟨kA, comp, kc, a1, a2, a3, a4⟩ := ho 7 _ rfl hR
    exact ⟨kA, comp, kc, a1, a2, a3, fun _ => a4, fun z => by omega⟩
  · obtain ⟨kA, comp, kc, a1, a2, a3, a4⟩ := ho 9 _ rfl hR
    exact ⟨kA, comp, kc, a1, a2, a3, fun _ => a4, fun z => by omega⟩
  · obtain ⟨comp, c0, k0, b1, -, b3, b4, b5⟩ := arrayOverA_spec hW.2.2.2.2.2.2.2.2.2.2.2
    have e1 : c0 = eY E 22 := Option.some.inj (b5.symm.trans hR)
    have e2 : comp = eY E 15 := Option.some.inj (b1.symm.trans (hW.2.1 15 (by omega) (by omega)).2)
    obtain ⟨-, k9, hk9, -⟩ := (hW.2.1 15 (by omega) (by omega)).1 0 (fun _ => .null)
    exact ⟨k0, comp, k9, by rw [← e1]; exact b3, b4, by rw [e2]; exact hk9, fun z => by omega, fun _ => e2⟩
theorem am_hp_aastore (C : am_CX E p s m args meth c M) (hRP : am_RP E σ ρ g τ H) (hS : va_S (am_A E) s.heap H locs) (hdg : decode M.2.1 pc = .ok (.aastore, 1)) (h : am_hp M (.aastore) st σ ρ g τ = some y) (kk : ∀ (H' : Heap) (locs' : List Loc) (cells' slots' : Nat), am_RP E y.2.1 y.2.2.1 y.2.2.2.1 y.2.2.2.2 H' → va_S (am_A E) s.heap H' locs' → cells' + τ.2.2.1 = cells + y.2.2.2.2.2.2.1 → slots' + τ.2.2.2 = slots + y.2.2.2.2.2.2.2 → W p l e R s m args below meth c H' locs' cells' slots' Q (F0 m (pc + 1) LS (y.1.map (am_sh E)))) : W p l e R s m args below meth c H locs cells slots Q (F0 m pc LS (st.map (am_sh E))) := by
  simp only [am_hp] at h
  split at h
  rotate_left
  · cases h
  rename_i b j a r
  split at h
  rotate_left
  · cases h
  rename_i hcond
  obtain ⟨hk, hk2, hi, hkb, hbb⟩ := hcond
  cases h
  obtain ⟨hx, hb, hml, hown, hcn, hin, hts, hW⟩ := C
  have ha : a < τ.2.2.1 := hRP.in hW rfl (by omega) (Or.inl ⟨by omega, by omega, by omega⟩)
  have hab : a < am_BG := Nat.lt_of_lt_of_le ha hRP.2.1
  have hcell := hRP.ar ha (by omega)
  have hj : j.toNatClampNeg < τ.2.1 a := Nat.not_le.mp fun z => (of_decide_eq_true hi) (Or.inr z)
  obtain ⟨kA, comp, kc, a1, a2, a3, a4, a5⟩ := am_elem hW hk hk2
  have hb99 : τ.1 b ≠ 99 := by
    rw [hkb]
    rcases (show τ.1 a = 18 ∨ τ.1 a = 19 ∨ τ.1 a = 20 ∨ τ.1 a = 21 ∨ τ.1 a = 22 by omega) with z | z | z | z | z <;> rw [z] <;> decide
  have hbn : b < τ.2.2.1 := hRP.in hW rfl hb99 (Or.inr hbb)
  obtain ⟨cv, kv, v1, v2, v3, v4⟩ : ∃ (cv : Cell) (kv : Class), H[am_ad E b]? = some cv ∧ (∀ q, cv.vm ≠ .statics q) ∧ s.vm.classes[cv.cls]? = some kv ∧ cv.cls = comp := by
    by_cases h22 : τ.1 a = 22
    · have hb15 : τ.1 b = 15 := by rw [hkb, h22]; rfl
      have hc2 := hRP.ar hbn (by omega)
      rw [hb15] at hc2
      exact ⟨_, kc, hc2, (fun q z => by cases z), by show s.vm.classes[eY E 15]? = _; rw [← a5 h22]; exact a3, (a5 h22).symm⟩
    · have hlt : τ.1 b < 13 := by
        rw [hkb]
        rcases (show τ.1 a = 18 ∨ τ.1 a = 19 ∨ τ.1 a = 20 ∨ τ.1 a = 21 by omega) with z | z | z | z <;> rw [z] <;> decide
      have hq9 : ∃ q, vwCl[τ.1 b]? = some q := ⟨_, List.getElem?_eq_getElem (by show τ.1 b < 13; exact hlt)⟩
      obtain ⟨q, hq⟩ := hq9
      obtain ⟨cell, q1, q2, q3, -⟩ := hRP.ob hbn hq
      have e4 := a4 (by omega)
      rw [← hkb] at e4
      exact ⟨cell, kc, q1, (fun z y => by rw [q3] at y; cases y), by rw [q2, ← e4]; exact a3, by rw [q2, e4]⟩
  refine W.aast hx hb hcell (fun q z => by cases z) (fun z => by cases z) a1 a2 (am_tyK_ref hk hk2) a3 ⟨fun z => (of_decide_eq_true hi) (Or.inl z), by rw [arrV_size]; exact hj⟩ v1 v2 v3 (by rw [v4]; exact va_asg _ _) rfl rfl hdg fun H' e z oq => ?_
  have hS2 := hS.put (k := j.toNatClampNeg) z oq (am_A_ad hab)
  rw [am_ad_in hab] at e oq
  rw [arrV_store] at e
  exact kk H' _ cells slots (hRP.put ha (fun _ _ => rfl) (fun b hb => am_u_ne hb) (fun _ _ => rfl) z oq (am_pc_ar (by omega) (by omega) e (am_upR hk))) hS2 rfl rfl
end AMHR
