/-! the instructions of the heap: making, Object(), Math, arraycopy; then all of them -/
section AMHS
variable {p : Program} {l : Launch} {e : Env} {R : Room} {s : State} {m : MethodId} {args : Array Value} {below : List Frame} {meth : Method} {c : Code} {H : Heap} {locs : List Loc} {cells slots : Nat} {Q : State → Prop}
variable {pc len : Nat} {E : am_E} {LS : Array Slot} {st : List Value} {M : am_ME} {σ : am_I} {ρ : am_R} {g : am_J} {τ : am_T} {y : am_H5}
theorem am_S_push {H' : Heap} (hS : va_S (am_A E) s.heap H locs) (hz : H'.size = H.size + 1) (ho : ∀ q, q < H.size → H'[q]? = H[q]?) : va_S (am_A E) s.heap H' locs :=
  ⟨Nat.le_trans hS.1 (by omega), fun x h1 h2 => (ho x (Nat.lt_of_lt_of_le h1 hS.1)).trans (hS.2.1 x h1 h2), hS.2.2⟩
theorem am_new_ar {H' : Heap} {kd N : Nat} {v : Value} (hk : 14 ≤ kd) (hk2 : kd ≤ 22) (h : H'[eB E + τ.2.2.1]? = some (arrV (eY E kd) N (fun _ => v))) (hv : v = (if kd = 16 then .long 0 else if 18 ≤ kd then .null else .int 0)) : am_PC E (am_new kd N σ ρ g τ).1 (am_new kd N σ ρ g τ).2.1 (am_new kd N σ ρ g τ).2.2.1 (am_new kd N σ ρ g τ).2.2.2 H' τ.2.2.1 := by
  have e1 : (am_new kd N σ ρ g τ).2.2.2.1 τ.2.2.1 = kd := if_pos rfl
  have e2 : (am_new kd N σ ρ g τ).2.2.2.2.1 τ.2.2.1 = N := if_pos rfl
  refine am_pc_ar (by rw [e1]; exact hk) (by rw [e1]; exact hk2) (by rw [e1, e2]; exact h) ?_
  rw [e1]
  funext j
  unfold am_va
  have f1 : (am_new kd N σ ρ g τ).1 τ.2.2.1 j = 0 := by simp [am_new, am_ur]
  have f2 : (am_new kd N σ ρ g τ).2.1 τ.2.2.1 j = none := by simp [am_new, am_ur]
  have f3 : (am_new kd N σ ρ g τ).2.2.1 τ.2.2.1 j = 0 := by simp [am_new, am_ur]
  rw [f1, f2, f3, hv]
  rfl
theorem am_at_ty {ty : ArrayType} (h : am_atK ty ≠ 99) : 14 ≤ am_atK ty ∧ am_atK ty ≤ 17 ∧ newarray.typeOf ty = am_tyK (am_atK ty) ∧ Cond.arrayClass (newarray.typeOf ty) ∈ am_TB ∧ defaultValue (newarray.typeOf ty) = (if am_atK ty = 16 then .long 0 else if 18 ≤ am_atK ty then .null else .int 0) ∧ componentBytes (newarray.typeOf ty) ≤ 8 := by
  cases ty <;> first | exact absurd rfl h | exact ⟨by decide, by decide, rfl, am_ac_byte, rfl, by decide⟩ | exact ⟨by decide, by decide, rfl, am_ac_int, rfl, by decide⟩ | exact ⟨by decide, by decide, rfl, am_ac_long, rfl, by decide⟩ | exact ⟨by decide, by decide, rfl, am_ac_boolean, rfl, by decide⟩
theorem am_RA_prim {kd : Nat} (h1 : 14 ≤ kd) (h2 : kd ≤ 17 ∨ kd = 22) {cA : ClassId} (hW : am_WD E s) (h : s.vm.findClass ("[" ++ (am_tyK kd).toString) = some cA) : cA = eY E kd := by
  have hR := (hW.2.1 kd h1 (by omega)).2
  rcases (show kd = 14 ∨ kd = 15 ∨ kd = 16 ∨ kd = 17 ∨ kd = 22 by omega) with rfl | rfl | rfl | rfl | rfl <;> exact Option.some.inj (h.symm.trans hR)
theorem am_bnd {n b : Nat} (h : n ≤ 10000) (hb : b ≤ 8) : n * b ≤ 536870912 := Nat.le_trans (Nat.mul_le_mul h hb) (by decide)
theorem am_hp_newarray (C : am_CX E p s m args meth c M) (hRP : am_RP E σ ρ g τ H) (hS : va_S (am_A E) s.heap H locs) (hf : 1 ≤ R.frames) (hlo : 64 ≤ R.locals) (hR1 : cells + y.2.2.2.2.2.2.1 ≤ R.cells + τ.2.2.1) (hR2 : slots + y.2.2.2.2.2.2.2 ≤ R.slots + τ.2.2.2) (hBG : y.2.2.2.2.2.2.1 ≤ am_BG) {ty : ArrayType} (hdg : decode M.2.1 pc = .ok (.newarray ty, 2)) (h : am_hp M (.newarray ty) st σ ρ g τ = some y) (kk : ∀ (H' : Heap) (locs' : List Loc) (cells' slots' : Nat), am_RP E y.2.1 y.2.2.1 y.2.2.2.1 y.2.2.2.2 H' → va_S (am_A E) s.heap H' locs' → cells' + τ.2.2.1 = cells + y.2.2.2.2.2.2.1 → slots' + τ.2.2.2 = slots + y.2.2.2.2.2.2.2 → W p l e R s m args below meth c H' locs' cells' slots' Q (F0 m (pc + 2) LS (y.1.map (am_sh E)))) : W p l e R s m args below meth c H locs cells slots Q (F0 m pc LS (st.map (am_sh E))) := by
  simp only [am_hp] at h
  split at h
  rotate_left
  · cases h
  rename_i n r
  split at h
  rotate_left
  · cases h
  rename_i hcond
  obtain ⟨hn, hn2, hty⟩ := hcond
  cases h
  obtain ⟨hx, hb, hml, hown, hcn, hin, hts, hW⟩ := C
  obtain ⟨t1, t2, t3, t4, t5, t6⟩ := am_at_ty hty
  have hz := hRP.1
  have hBG2 : τ.2.2.1 + 1 ≤ am_BG := hBG
  have hr1 : cells + (τ.2.2.1 + 1) ≤ R.cells + τ.2.2.1 := hR1
  have hr2 : slots + (τ.2.2.2 + n.toNatClampNeg) ≤ R.slots + τ.2.2.2 := hR2
  refine va_newaK hx hb (hts _ t4) rfl hdg rfl hn rfl (am_bnd hn2 t6) (by omega) (by omega) hz fun H1 cA e1 z1 o1 hAr hNm => ?_
  have hcA : cA = eY E (am_atK ty) := am_RA_prim t1 (Or.inl t2) hW (by rw [← t3]; exact hNm)
  subst hcA
  have hN := am_ad_in (E := E) (a := τ.2.2.1) (by omega)
  have k := kk H1 locs (cells + 1) (slots + n.toNatClampNeg) (hRP.push hBG2 (by rw [z1, hz]) (fun q hq => o1 q (by rw [← hz]; exact hq)) (am_new_ar t1 (by omega) e1 t5)) (am_S_push hS (by rw [z1, hz]) (fun q hq => o1 q (by rw [← hz]; exact hq))) (by show _ = _ + (_ + 1); omega) (by show _ = _ + (_ + _); omega)
  simp only [List.map_cons, am_sh, hN] at k
  exact k
theorem am_tyF_ok (ci k : Nat) : am_tyF ci k = .int ∨ am_tyF ci k = .boolean ∨ am_isRf (am_tyF ci k) = true := by
  unfold am_tyF
  split
  · unfold tyX0
    split <;> first | exact Or.inl rfl | exact Or.inr (Or.inl rfl) | exact Or.inr (Or.inr rfl)
  · unfold tyX1
    split <;> first | exact Or.inl rfl | exact Or.inr (Or.inl rfl) | exact Or.inr (Or.inr rfl)
  · unfold tyX2
    split <;> first | exact Or.inl rfl | exact Or.inr (Or.inl rfl) | exact Or.inr (Or.inr rfl)
  · unfold tyX3
    split <;> first | exact Or.inl rfl | exact Or.inr (Or.inl rfl) | exact Or.inr (Or.inr rfl)
  · unfold tyX4
    split <;> first | exact Or.inl rfl | exact Or.inr (Or.inl rfl) | exact Or.inr (Or.inr rfl)
  · unfold tyX5
    split <;> first | exact Or.inl rfl | exact Or.inr (Or.inl rfl) | exact Or.inr (Or.inr rfl)
  · unfold tyX6
    split <;> first | exact Or.inl rfl | exact Or.inr (Or.inl rfl) | exact Or.inr (Or.inr rfl)
  · unfold tyX7
    split <;> first | exact Or.inl rfl | exact Or.inr (Or.inl rfl) | exact Or.inr (Or.inr rfl)
  · unfold tyX8
    split <;> first | exact Or.inl rfl | exact Or.inr (Or.inl rfl) | exact Or.inr (Or.inr rfl)
  · unfold tyX9
    split <;> first | exact Or.inl rfl | exact Or.inr (Or.inl rfl) | exact Or.inr (Or.inr rfl)
  · unfold tyX10
    split <;> first | exact Or.inl rfl | exact Or.inr (Or.inl rfl) | exact Or.inr (Or.inr rfl)
  · unfold tyX11
    split <;> first | exact Or.inl rfl | exact Or.inr (Or.inl rfl) | exact Or.inr (Or.inr rfl)
  · unfold tyX12
    split <;> first | exact Or.inl rfl | exact Or.inr (Or.inl rfl) | exact Or.inr (Or.inr rfl)
theorem am_new_ob {ci N : Nat} (k : Nat) : defaultValue (am_tyF ci k) = am_vo E (am_new ci N σ ρ g τ).1 (am_new ci N σ ρ g τ).2.1 ci τ.2.2.1 k := by
  have f1 : (am_new ci N σ ρ g τ).1 τ.2.2.1 k = 0 := by simp [am_new, am_ur]
  have f2 : (am_new ci N σ ρ g τ).2.1 τ.2.2.1 k = none := by simp [am_new, am_ur]
  unfold am_vo
  rw [f1, f2]
  unfold am_iR
  have hall : ∀ t : FieldType, (t = .int ∨ t = .boolean ∨ am_isRf t = true) → defaultValue t = (if am_isRf t = true then va_rf ((none : Option Nat).map (am_ad E)) else .int 0) := by
    intro t ht
    rcases ht with rfl | rfl | ht
    · rfl
    · rfl
    · rw [if_pos ht]
      cases t <;> first | rfl | cases ht
  exact hall _ (am_tyF_ok ci k)
theorem am_arK_ok {ci : Nat} {q : vw_C} (h : am_arK ci ≠ 99) (hq : vwCl[ci]? = some q) : 18 ≤ am_arK ci ∧ am_arK ci ≤ 21 ∧ am_tyK (am_arK ci) = .object q.1 ∧ Cond.arrayOver (.object q.1) ∈ lw_tbl := by
  have h4 : ci = 1 ∨ ci = 5 ∨ ci = 7 ∨ ci = 9 := by
    unfold am_arK at h
    split at h <;> first | omega | exact absurd rfl h
  rcases h4 with rfl | rfl | rfl | rfl
  · cases hq; exact ⟨by decide, by decide, rfl, am_ov1⟩
  · cases hq; exact ⟨by decide, by decide, rfl, am_ov5⟩
  · cases hq; exact ⟨by decide, by decide, rfl, am_ov7⟩
  · cases hq; exact ⟨by decide, by decide, rfl, am_ov9⟩
theorem am_AO_use {A : Array Value} {U : State} (h : am_AO U) : (Cond.arrayOver (.array .int)).before A U = true := h
theorem am_hp_new (C : am_CX E p s m args meth c M) (hRP : am_RP E σ ρ g τ H) (hS : va_S (am_A E) s.heap H locs) (hf : 1 ≤ R.frames) (hlo : 64 ≤ R.locals) (hR1 : cells + y.2.2.2.2.2.2.1 ≤ R.cells + τ.2.2.1) (hR2 : slots + y.2.2.2.2.2.2.2 ≤ R.slots + τ.2.2.2) (hBG : y.2.2.2.2.2.2.1 ≤ am_BG) {i : Nat} (hdg : decode M.2.1 pc = .ok (.new i, 3)) (h : am_hp M (.new i) st σ ρ g τ = some y) (kk : ∀ (H' : Heap) (locs' : List Loc) (cells' slots' : Nat), am_RP E y.2.1 y.2.2.1 y.2.2.2.1 y.2.2.2.2 H' → va_S (am_A E) s.heap H' locs' → cells' + τ.2.2.1 = cells + y.2.2.2.2.2.2.1 → slots' + τ.2.2.2 = slots + y.2.2.2.2.2.2.2 → W p l e R s m args below meth c H' locs' cells' slots' Q (F0 m (pc + 3) LS (y.1.map (am_sh E)))) : W p l e R s m args below meth c H locs cells slots Q (F0 m pc LS (st.map (am_sh E))) := by
  simp only [am_hp] at h
  split at h
  rotate_left
  · cases h
  rename_i ci N hk
  split at h
  rotate_left
  · cases h
  rename_i hci
  cases h
  obtain ⟨hx, hb, hml, hown, hcn, hin, hts, hW⟩ := C
  obtain ⟨ps, hc⟩ := am_K_ck hk (Nat.succ_ne_zero _)
  simp only [am_ck] at hc
  split at hc
  rotate_left
  · cases hc
  rename_i q hq
  simp only [Bool.and_eq_true, decide_eq_true_eq] at hc
  obtain ⟨c1, c2⟩ := hc
  rw [am_cnD hcn] at c1
  subst c2
  have hz := hRP.1
  have hBG2 : τ.2.2.1 + 1 ≤ am_BG := hBG
  have hr1 : cells + (τ.2.2.1 + 1) ≤ R.cells + τ.2.2.1 := hR1
  have hr2 : slots + (τ.2.2.2 + q.2.2) ≤ R.slots + τ.2.2.2 := hR2
  have hKn := hW.1 ci _ hq
  refine W.newcK hx hb hown (hts _ (am_at_mem c1)) (hts _ (am_inA hq).1) (hts _ (am_inA hq).2) rfl hdg (by omega) (by omega) hKn.2.1 hz fun H1 kC hkC e1 z1 o1 => ?_
  have hborn := u_born (am_tyF ci) hts (am_cls hq).1 hKn hkC e1 (am_cls hq).2.1
  have hN := am_ad_in (E := E) (a := τ.2.2.1) (by omega)
  have ek : (am_new ci q.2.2 σ ρ g τ).2.2.2.1 τ.2.2.1 = ci := if_pos rfl
  have k := kk H1 locs (cells + 1) (slots + q.2.2) (hRP.push hBG2 (by rw [z1, hz]) (fun z hz2 => o1 z (by rw [← hz]; exact hz2)) (am_pc_of (r := q) (by rw [ek]; exact hq) (by rw [ek]; exact hborn.to (fun k hk2 => am_new_ob k)))) (am_S_push hS (by rw [z1, hz]) (fun z hz2 => o1 z (by rw [← hz]; exact hz2))) (by show _ = _ + (_ + 1); omega) (by show _ = _ + (_ + _); omega)
  simp only [List.map_cons, am_sh, hN] at k
  exact k
theorem am_hp_anewarray (C : am_CX E p s m args meth c M) (hRP : am_RP E σ ρ g τ H) (hS : va_S (am_A E) s.heap H locs) (hf : 1 ≤ R.frames) (hlo : 64 ≤ R.locals) (hR1 : cells + y.2.2.2.2.2.2.1 ≤ R.cells + τ.2.2.1) (hR2 : slots + y.2.2.2.2.2.2.2 ≤ R.slots + τ.2.2.2) (hBG : y.2.2.2.2.2.2.1 ≤ am_BG) {i : Nat} (hdg : decode M.2.1 pc = .ok (.anewarray i, 3)) (h : am_hp M (.anewarray i) st σ ρ g τ = some y) (kk : ∀ (H' : Heap) (locs' : List Loc) (cells' slots' : Nat), am_RP E y.2.1 y.2.2.1 y.2.2.2.1 y.2.2.2.2 H' → va_S (am_A E) s.heap H' locs' → cells' + τ.2.2.1 = cells + y.2.2.2.2.2.2.1 → slots' + τ.2.2.2 = slots + y.2.2.2.2.2.2.2 → W p l e R s m args below meth c H' locs' cells' slots' Q (F0 m (pc + 3) LS (y.1.map (am_sh E)))) : W p l e R s m args below meth c H locs cells slots Q (F0 m pc LS (st.map (am_sh E))) := by
  simp only [am_hp] at h
  split at h
  rotate_left
  · cases h
  rename_i n r
  split at h
  · rename_i ci N hk
    split at h
    rotate_left
    · cases h
    rename_i hcond
    obtain ⟨hn, hn2, har⟩ := hcond
    cases h
    obtain ⟨hx, hb, hml, hown, hcn, hin, hts, hW⟩ := C
    obtain ⟨ps, hc⟩ := am_K_ck hk (Nat.succ_ne_zero _)
    simp only [am_ck] at hc
    split at hc
    rotate_left
    · cases hc
    rename_i q hq
    simp only [Bool.and_eq_true, decide_eq_true_eq] at hc
    obtain ⟨c1, c2⟩ := hc
    rw [am_cnD hcn] at c1
    have hz := hRP.1
    have hBG2 : τ.2.2.1 + 1 ≤ am_BG := hBG
    have hr1 : cells + (τ.2.2.1 + 1) ≤ R.cells + τ.2.2.1 := hR1
    have hr2 : slots + (τ.2.2.2 + n.toNatClampNeg) ≤ R.slots + τ.2.2.2 := hR2
    obtain ⟨t1, t2, t3, t4⟩ := am_arK_ok har hq
    refine W.anew hx hb hown (hts _ (am_at_mem c1)) (va_AO.use (hW.2.2.2.2.2.2.2.2.2.2.1 _ t4)) rfl hdg rfl hn (am_bnd hn2 (by decide)) (by omega) (by omega) fun cA kA comp f1 f2 f3 f4 => ?_
    have hcA : cA = eY E (am_arK ci) := by
      have hR := (hW.2.1 (am_arK ci) (by omega) (by omega)).2
      rw [t3] at hR
      obtain ⟨_, _, _, _, _, r4⟩ := hR
      exact Option.some.inj (f1.symm.trans r4)
    subst hcA
    have hN := am_ad_in (E := E) (a := τ.2.2.1) (by omega)
    have z1 : (H.push ({ cls := eY E (am_arK ci), slots := Array.replicate n.toNatClampNeg .null, vm := .none } : Cell)).size = H.size + 1 := Array.size_push _
    have o1 : ∀ q : Nat, q < H.size → (H.push ({ cls := eY E (am_arK ci), slots := Array.replicate n.toNatClampNeg .null, vm := .none } : Cell))[q]? = H[q]? := fun q hq => by rw [Array.getElem?_push, if_neg (Nat.ne_of_lt hq)]
    have e1 : (H.push ({ cls := eY E (am_arK ci), slots := Array.replicate n.toNatClampNeg .null, vm := .none } : Cell))[eB E + τ.2.2.1]? = some (arrV (eY E (am_arK ci)) n.toNatClampNeg (fun _ => .null)) := by rw [← hz, Array.getElem?_push_size, ← arrV_new]
    have k := kk _ locs (cells + 1) (slots + n.toNatClampNeg) (hRP.push hBG2 z1 o1 (am_new_ar (kd := am_arK ci) (by omega) (by omega) e1 (by rw [if_neg (by omega), if_pos (by omega)]))) (am_S_push hS z1 o1) (by show _ = _ + (_ + 1); omega) (by show _ = _ + (_ + _); omega)
    simp only [List.map_cons, am_sh, hN, ← hz] at k
    exact k
  · rename_i u1 u2 hk
    split at h
    rotate_left
    · cases h
    rename_i hcond
    obtain ⟨hn, hn2⟩ := hcond
    cases h
    obtain ⟨hx, hb, hml, hown, hcn, hin, hts, hW⟩ := C
    obtain ⟨ps, hc⟩ := am_K_ck hk (Nat.succ_ne_zero _)
    have c1 : am_at (ps.getD 0 0) (.classLink (am_cn.getD M.2.2.2.2 "") i "[I") = true := hc
    rw [am_cnD hcn] at c1
    have hz := hRP.1
    have hBG2 : τ.2.2.1 + 1 ≤ am_BG := hBG
    have hr1 : cells + (τ.2.2.1 + 1) ≤ R.cells + τ.2.2.1 := hR1
    have hr2 : slots + (τ.2.2.2 + n.toNatClampNeg) ≤ R.slots + τ.2.2.2 := hR2
    refine W.anewA (t := .int) hx hb hown (hts _ (am_at_mem c1)) (am_AO_use hW.2.2.2.2.2.2.2.2.2.2.2) rfl hdg rfl hn (am_bnd hn2 (by decide)) (by omega) (by omega) fun cA kA comp f1 f2 f3 f4 => ?_
    have hcA : cA = eY E 22 := am_RA_prim (by omega) (Or.inr rfl) hW f1
    subst hcA
    have hN := am_ad_in (E := E) (a := τ.2.2.1) (by omega)
    have z1 : (H.push ({ cls := eY E 22, slots := Array.replicate n.toNatClampNeg .null, vm := .none } : Cell)).size = H.size + 1 := Array.size_push _
    have o1 : ∀ q : Nat, q < H.size → (H.push ({ cls := eY E 22, slots := Array.replicate n.toNatClampNeg .null, vm := .none } : Cell))[q]? = H[q]? := fun q hq => by rw [Array.getElem?_push, if_neg (Nat.ne_of_lt hq)]
    have e1 : (H.push ({ cls := eY E 22, slots := Array.replicate n.toNatClampNeg .null, vm := .none } : Cell))[eB E + τ.2.2.1]? = some (arrV (eY E 22) n.toNatClampNeg (fun _ => .null)) := by rw [← hz, Array.getElem?_push_size, ← arrV_new]
    have k := kk _ locs (cells + 1) (slots + n.toNatClampNeg) (hRP.push hBG2 z1 o1 (am_new_ar (kd := 22) (by omega) (by omega) e1 rfl)) (am_S_push hS z1 o1) (by show _ = _ + (_ + 1); omega) (by show _ = _ + (_ + _); omega)
    simp only [List.map_cons, am_sh, hN, ← hz] at k
    exact k
  · cases h
theorem am_rm {r : List Value} (h : (r.map (am_sh E)).length ≤ 10) : 2 * (F0 m pc LS st).monitorRoom + ((r.map (am_sh E)).map fun v => v.category).sum ≤ 20 := by
  have h2 : ∀ l : List Value, (l.map fun v => v.category).sum ≤ 2 * l.length := by
    intro l
    induction l with
    | nil => simp
    | cons v l ih =>
      have : v.category ≤ 2 := by cases v <;> simp [Value.category]
      simp only [List.map_cons, List.sum_cons, List.length_cons]
      omega
  have h3 := h2 (r.map (am_sh E))
  show 2 * 0 + _ ≤ 20
  omega
theorem am_hp_objinit (hLS : LS.size = c.maxLocals) (C : am_CX E p s m args meth c M) (hRP : am_RP E σ ρ g τ H) (hS : va_S (am_A E) s.heap H locs) (hf : 1 ≤ R.frames) (hlo : 64 ≤ R.locals) (hR1 : cells + y.2.2.2.2.2.2.1 ≤ R.cells + τ.2.2.1) (hR2 : slots + y.2.2.2.2.2.2.2 ≤ R.slots + τ.2.2.2) (hBG : y.2.2.2.2.2.2.1 ≤ am_BG) {i : Nat} (hdg : decode M.2.1 pc = .ok (.invokespecial i, 3)) (h : am_hp M (.invokespecial i) st σ ρ g τ = some y) (kk : ∀ (H' : Heap) (locs' : List Loc) (cells' slots' : Nat), am_RP E y.2.1 y.2.2.1 y.2.2.2.1 y.2.2.2.2 H' → va_S (am_A E) s.heap H' locs' → cells' + τ.2.2.1 = cells + y.2.2.2.2.2.2.1 → slots' + τ.2.2.2 = slots + y.2.2.2.2.2.2.2 → W p l e R s m args below meth c H' locs' cells' slots' Q (F0 m (pc + 3) LS (y.1.map (am_sh E)))) : W p l e R s m args below meth c H locs cells slots Q (F0 m pc LS (st.map (am_sh E))) := by
  simp only [am_hp] at h
  split at h
  rotate_left
  · cases h
  rename_i a r
  split at h
  rotate_left
  · cases h
  rename_i u1 u2 hk
  split at h
  rotate_left
  · cases h
  rename_i hr4
  cases h
  obtain ⟨hx, hb, hml, hown, hcn, hin, hts, hW⟩ := C
  obtain ⟨ps, hc⟩ := am_K_ck hk (Nat.succ_ne_zero _)
  have c1 : am_at (ps.getD 0 0) (.methodLink (am_cn.getD M.2.2.2.2 "") i objectInit) = true := hc
  rw [am_cnD hcn] at c1
  exact W.objInit hx hb hown (hts _ (am_at_mem c1)) (hts _ am_oi1) (hts _ am_oi2) rfl hLS rfl hdg hf (Nat.le_trans (Nat.add_le_add_right (am_rm (by rw [List.length_map]; omega)) 12) (Nat.le_trans (by decide) hlo)) (kk H locs cells slots hRP hS rfl rfl)
end AMHS
