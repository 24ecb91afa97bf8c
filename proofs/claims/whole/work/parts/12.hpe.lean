/-! Math, arraycopy, new int[n][k]; then all instructions of the heap -/
section AMHT
variable {p : Program} {l : Launch} {e : Env} {R : Room} {s : State} {m : MethodId} {args : Array Value} {below : List Frame} {meth : Method} {c : Code} {H : Heap} {locs : List Loc} {cells slots : Nat} {Q : State → Prop}
variable {pc len : Nat} {E : am_E} {LS : Array Slot} {st : List Value} {M : am_ME} {σ : am_I} {ρ : am_R} {g : am_J} {τ : am_T} {y : am_H5}
theorem am_cat {r : List Value} (h : r.length ≤ 10) : ((r.map (am_sh E)).map fun v => v.category).sum ≤ 20 := by
  have h2 : ∀ l : List Value, (l.map fun v => v.category).sum ≤ 2 * l.length := by
    intro l
    induction l with
    | nil => simp
    | cons v l ih =>
      have : v.category ≤ 2 := by cases v <;> simp [Value.category]
      simp only [List.map_cons, List.sum_cons, List.length_cons]
      omega
  have h3 := h2 (r.map (am_sh E))
  rw [List.length_map] at h3
  omega
/-- System.arraycopy, of two int rows of the pool -/
theorem am_copyW {i a b : Nat} {sp dp n : Int32} {rest : List Value} (C : am_CX E p s m args meth c M) (hRP : am_RP E σ ρ g τ H) (hS : va_S (am_A E) s.heap H locs) (hLS : LS.size = c.maxLocals) (hlink : (Cond.methodLink M.1.cls i arraycopyName) ∈ am_TB)
    (hka : τ.1 a = 15) (hkb : τ.1 b = 15) (ha : a < am_BG) (hb2 : b < am_BG) (h1 : ¬ sp < 0) (h2 : ¬ dp < 0) (h3 : ¬ n < 0) (h4 : sp.toNatClampNeg + n.toNatClampNeg ≤ τ.2.1 a) (h5 : dp.toNatClampNeg + n.toNatClampNeg ≤ τ.2.1 b)
    (hframes : 1 ≤ R.frames) (hlocals : (rest.map fun v => v.category).sum + (nativeFrameWords "java/lang/System" "arraycopy" 5 + 11) ≤ R.locals) (hdg : decode M.2.1 pc = .ok (.invokestatic i, 3))
    (kk : ∀ (H1 : Heap) (locs1 : List Loc), am_RP E (am_ur σ b (va_cpy (σ a) (σ b) sp.toNatClampNeg dp.toNatClampNeg n.toNatClampNeg)) ρ g τ H1 → va_S (am_A E) s.heap H1 locs1 → W p l e R s m args below meth c H1 locs1 cells slots Q (F0 m (pc + 3) LS rest)) : W p l e R s m args below meth c H locs cells slots Q (F0 m pc LS (.int n :: .int dp :: .ref (am_ad E b) :: .int sp :: .ref (am_ad E a) :: rest)) := by
  obtain ⟨hx, hb, hml, hown, hcn, hin, hts, hW⟩ := C
  have nn : ∀ z : Int32, ¬ z < 0 → z.toInt = (z.toNatClampNeg : Int) := by
    intro z hz
    have hz0 : (0 : Int) ≤ z.toInt := by
      have := Int32.not_lt.mp hz
      simpa using Int32.le_iff_toInt_le.mp this
    show z.toInt = ((z.toInt.toNat : Nat) : Int)
    omega
  have han := hRP.in hW hka (by omega) (Or.inr ha)
  have hbn := hRP.in hW hkb (by omega) (Or.inr hb2)
  have ea : am_va E σ ρ g 15 a = fun j => .int (σ a j) := by funext j; exact am_va_i (by omega)
  have eb : am_va E σ ρ g 15 b = fun j => .int (σ b j) := by funext j; exact am_va_i (by omega)
  have hc0 : H[am_ad E a]? = some (vp_cell (eY E 15) (τ.2.1 a, .inl (σ a))) := by
    have h := hRP.ar han (by omega)
    rw [hka, ea] at h
    exact h
  have hc1 : H[am_ad E b]? = some (vp_cell (eY E 15) (τ.2.1 b, .inl (σ b))) := by
    have h := hRP.ar hbn (by omega)
    rw [hkb, eb] at h
    exact h
  intro T hT X
  obtain ⟨-, k0, hk0, cm0, hkk0⟩ := (hW.2.1 15 (by omega) (by omega)).1 (τ.2.1 a) (fun j => .int (σ a j))
  obtain ⟨-, k1, hk1, cm1, hkk1⟩ := (hW.2.1 15 (by omega) (by omega)).1 (τ.2.1 b) (fun j => .int (σ b j))
  obtain ⟨vm', X', step⟩ := X.arraycopy hx hown (hts _ hlink) (hts _ am_cp1) (hts _ am_cp2) (hts _ am_cp3) (src := am_ad E a) (dst := am_ad E b) (cs := vp_cell (eY E 15) (τ.2.1 a, .inl (σ a))) (cd := vp_cell (eY E 15) (τ.2.1 b, .inl (σ b))) (srcPos := sp) (destPos := dp) (n := n) (by rw [hT]; exact hc0) (by rw [hT]; exact hc1)
    (fun _ h => by cases h) (fun _ h => by cases h) (fun h => by cases h) (fun h => by cases h) hk0 hk1 hkk0 hkk1 (by rfl) h1 h2 h3
    (by rw [nn sp h1, nn n h3]; show ¬ _ > ((arrV _ (τ.2.1 a) (fun j => .int (σ a j))).slots.size : Int); rw [arrV_size]; omega)
    (by rw [nn dp h2, nn n h3]; show ¬ _ > ((arrV _ (τ.2.1 b) (fun j => .int (σ b j))).slots.size : Int); rw [arrV_size]; omega)
    (fun vm₁ _ i hi => by
      have e : (vp_cell (eY E 15) (τ.2.1 a, .inl (σ a))).slots.getD (sp.toNatClampNeg + i) .null = .int (σ a (sp.toNatClampNeg + i)) := by
        show (arrV _ (τ.2.1 a) (fun j => .int (σ a j))).slots.getD _ _ = _
        rw [Array.getD_eq_getD_getElem?, arrV_read _ _ (by omega)]
        rfl
      refine ⟨?_, ?_⟩
      · rw [e]
        rfl
      · rw [e]
        exact trivial)
    (g := F0 m pc LS (.int n :: .int dp :: .ref (am_ad E b) :: .int sp :: .ref (am_ad E a) :: rest)) rfl hLS (rest := rest) rfl (by rw [hb]; exact hdg) hframes (by show 2 * 0 + _ + _ ≤ _; omega)
  have e1 : copied (vp_cell (eY E 15) (τ.2.1 a, .inl (σ a))) (vp_cell (eY E 15) (τ.2.1 b, .inl (σ b))) sp dp n = vp_cell (eY E 15) (τ.2.1 b, .inl (va_cpy (σ a) (σ b) sp.toNatClampNeg dp.toNatClampNeg n.toNatClampNeg)) := va_copied (fun z => .int z) _ _ (σ a) (σ b) h4
  rw [e1] at X' step
  have hl : am_ad E b < H.size := (Array.getElem?_eq_some_iff.mp hc1).1
  have hheap : ((T.setVm vm').setCell (am_ad E b) (vp_cell (eY E 15) (τ.2.1 b, .inl (va_cpy (σ a) (σ b) sp.toNatClampNeg dp.toNatClampNeg n.toNatClampNeg)))).heap = H.setIfInBounds (am_ad E b) (vp_cell (eY E 15) (τ.2.1 b, .inl (va_cpy (σ a) (σ b) sp.toNatClampNeg dp.toNatClampNeg n.toNatClampNeg))) := by rw [← hT]; rfl
  have oq : ∀ q : Nat, q ≠ am_ad E b → (H.setIfInBounds (am_ad E b) (vp_cell (eY E 15) (τ.2.1 b, .inl (va_cpy (σ a) (σ b) sp.toNatClampNeg dp.toNatClampNeg n.toNatClampNeg))))[q]? = H[q]? := fun q hq => by simp [Array.getElem?_setIfInBounds, Ne.symm hq]
  have sz : (H.setIfInBounds (am_ad E b) (vp_cell (eY E 15) (τ.2.1 b, .inl (va_cpy (σ a) (σ b) sp.toNatClampNeg dp.toNatClampNeg n.toNatClampNeg)))).size = H.size := by simp
  have ee : (H.setIfInBounds (am_ad E b) (vp_cell (eY E 15) (τ.2.1 b, .inl (va_cpy (σ a) (σ b) sp.toNatClampNeg dp.toNatClampNeg n.toNatClampNeg))))[am_ad E b]? = some (vp_cell (eY E 15) (τ.2.1 b, .inl (va_cpy (σ a) (σ b) sp.toNatClampNeg dp.toNatClampNeg n.toNatClampNeg))) := by simp [Array.getElem?_setIfInBounds, hl]
  have oq2 := oq
  rw [am_ad_in hb2] at ee oq2
  obtain ⟨t, a1, b1⟩ := kk _ _ (hRP.put hbn (fun z hz => if_neg hz) (fun _ _ => rfl) (fun _ _ => rfl) (by rw [am_ad_in hb2] at sz; exact sz) oq2 (am_pc_ar (by omega) (by omega) (V := fun j => .int (va_cpy (σ a) (σ b) sp.toNatClampNeg dp.toNatClampNeg n.toNatClampNeg j)) (by rw [hkb]; exact ee) (by
      funext j
      rw [hkb, am_va_i (by omega)]
      simp [am_ur]))) ⟨by rw [← am_ad_in hb2, sz]; exact hS.1, fun q g1 g2 => by
      rw [← am_ad_in hb2, oq q (fun e => g2 (by rw [e]; exact am_A_ad hb2))]
      exact hS.2.1 q g1 g2, fun q hq => by
      rcases List.mem_append.mp hq with h | h
      · exact hS.2.2 q h
      · obtain ⟨z, -, hz⟩ := List.mem_map.mp h
        rw [← hz]
        exact am_A_ad hb2⟩ _ (by rw [← am_ad_in hb2]; exact hheap) X'
  exact ⟨t, step t a1, b1⟩
theorem am_hp_lib (hLS : LS.size = c.maxLocals) (C : am_CX E p s m args meth c M) (hRP : am_RP E σ ρ g τ H) (hS : va_S (am_A E) s.heap H locs) (hf : 1 ≤ R.frames) (hlo : 64 ≤ R.locals) (hR1 : cells + y.2.2.2.2.2.2.1 ≤ R.cells + τ.2.2.1) (hR2 : slots + y.2.2.2.2.2.2.2 ≤ R.slots + τ.2.2.2) (hBG : y.2.2.2.2.2.2.1 ≤ am_BG) {i : Nat} (hdg : decode M.2.1 pc = .ok (.invokestatic i, 3)) (h : am_hp M (.invokestatic i) st σ ρ g τ = some y) (kk : ∀ (H' : Heap) (locs' : List Loc) (cells' slots' : Nat), am_RP E y.2.1 y.2.2.1 y.2.2.2.1 y.2.2.2.2 H' → va_S (am_A E) s.heap H' locs' → cells' + τ.2.2.1 = cells + y.2.2.2.2.2.2.1 → slots' + τ.2.2.2 = slots + y.2.2.2.2.2.2.2 → W p l e R s m args below meth c H' locs' cells' slots' Q (F0 m (pc + 3) LS (y.1.map (am_sh E)))) : W p l e R s m args below meth c H locs cells slots Q (F0 m pc LS (st.map (am_sh E))) := by
  simp only [am_hp] at h
  split at h
  · rename_i u1 v u r hk
    split at h
    rotate_left
    · cases h
    rename_i hr4
    cases h
    obtain ⟨hx, hb, hml, hown, hcn, hin, hts, hW⟩ := C
    obtain ⟨ps, hc⟩ := am_K_ck hk (Nat.succ_ne_zero _)
    have hc2 : (am_at (ps.getD 0 0) (.methodLink (am_cn.getD M.2.2.2.2 "") i Lib.Math.min.name) && am_at (ps.getD 1 0) (.static Lib.Math.min.name) && am_at (ps.getD 2 0) (.initialized "java/lang/Math")) = true := hc
    rw [am_cnD hcn] at hc2
    simp only [Bool.and_eq_true] at hc2
    obtain ⟨⟨c1, c2⟩, c3⟩ := hc2
    exact va_mmin hx hb hLS.symm hown (hts _ (am_at_mem c1)) (hts _ (am_at_mem c2)) (hts _ (am_at_mem c3)) (hts _ am_m_min) hf (by have := am_cat (E := E) (r := r) (by omega); omega) (by have : cells + τ.2.2.1 ≤ R.cells + τ.2.2.1 := hR1; omega) (by have : slots + τ.2.2.2 ≤ R.slots + τ.2.2.2 := hR2; omega) hdg (kk H locs cells slots hRP hS rfl rfl)
  · rename_i u1 v u r hk
    split at h
    rotate_left
    · cases h
    rename_i hr4
    cases h
    obtain ⟨hx, hb, hml, hown, hcn, hin, hts, hW⟩ := C
    obtain ⟨ps, hc⟩ := am_K_ck hk (Nat.succ_ne_zero _)
    have hc2 : (am_at (ps.getD 0 0) (.methodLink (am_cn.getD M.2.2.2.2 "") i Lib.Math.max.name) && am_at (ps.getD 1 0) (.static Lib.Math.max.name) && am_at (ps.getD 2 0) (.initialized "java/lang/Math")) = true := hc
    rw [am_cnD hcn] at hc2
    simp only [Bool.and_eq_true] at hc2
    obtain ⟨⟨c1, c2⟩, c3⟩ := hc2
    exact va_mmax hx hb hLS.symm hown (hts _ (am_at_mem c1)) (hts _ (am_at_mem c2)) (hts _ (am_at_mem c3)) (hts _ am_m_max) hf (by have := am_cat (E := E) (r := r) (by omega); omega) (by have : cells + τ.2.2.1 ≤ R.cells + τ.2.2.1 := hR1; omega) (by have : slots + τ.2.2.2 ≤ R.slots + τ.2.2.2 := hR2; omega) hdg (kk H locs cells slots hRP hS rfl rfl)
  · rename_i u1 u r hk
    split at h
    rotate_left
    · cases h
    rename_i hr4
    cases h
    obtain ⟨hx, hb, hml, hown, hcn, hin, hts, hW⟩ := C
    obtain ⟨ps, hc⟩ := am_K_ck hk (Nat.succ_ne_zero _)
    have hc2 : (am_at (ps.getD 0 0) (.methodLink (am_cn.getD M.2.2.2.2 "") i Lib.Math.abs.name) && am_at (ps.getD 1 0) (.static Lib.Math.abs.name) && am_at (ps.getD 2 0) (.initialized "java/lang/Math")) = true := hc
    rw [am_cnD hcn] at hc2
    simp only [Bool.and_eq_true] at hc2
    obtain ⟨⟨c1, c2⟩, c3⟩ := hc2
    exact va_mabs hx hb hLS.symm hown (hts _ (am_at_mem c1)) (hts _ (am_at_mem c2)) (hts _ (am_at_mem c3)) (hts _ am_m_abs) hf (by have := am_cat (E := E) (r := r) (by omega); omega) (by have : cells + τ.2.2.1 ≤ R.cells + τ.2.2.1 := hR1; omega) (by have : slots + τ.2.2.2 ≤ R.slots + τ.2.2.2 := hR2; omega) hdg (kk H locs cells slots hRP hS rfl rfl)
  · rename_i u1 u2 n dp b sp a r hk
    split at h
    rotate_left
    · cases h
    rename_i hcond
    cases h
    obtain ⟨hr4, k1, k2, k3, k4, k5, k6, k7, k8, k9, k10⟩ := hcond
    obtain ⟨ps, hc⟩ := am_K_ck hk (Nat.succ_ne_zero _)
    have c1 : am_at (ps.getD 0 0) (.methodLink (am_cn.getD M.2.2.2.2 "") i arraycopyName) = true := hc
    rw [am_cnD C.2.2.2.2.1] at c1
    exact am_copyW C hRP hS hLS (am_at_mem c1) k1 k2 k3 k4 k7 k8 k6 k9 k10 hf (by have := am_cat (E := E) (r := r) (by omega); have h9 : nativeFrameWords "java/lang/System" "arraycopy" 5 ≤ 30 := (by decide +kernel); omega) hdg (fun H1 locs1 q1 q2 => kk H1 locs1 cells slots q1 q2 rfl rfl)
  · cases h
theorem am_hp_mna (C : am_CX E p s m args meth c M) (hRP : am_RP E σ ρ g τ H) (hS : va_S (am_A E) s.heap H locs) (hf : 1 ≤ R.frames) (hlo : 64 ≤ R.locals) (hR1 : cells + y.2.2.2.2.2.2.1 ≤ R.cells + τ.2.2.1) (hR2 : slots + y.2.2.2.2.2.2.2 ≤ R.slots + τ.2.2.2) (hBG : y.2.2.2.2.2.2.1 ≤ am_BG) {i : Nat} (hdg : decode M.2.1 pc = .ok (.multianewarray i 2, 4)) (h : am_hp M (.multianewarray i 2) st σ ρ g τ = some y) (kk : ∀ (H' : Heap) (locs' : List Loc) (cells' slots' : Nat), am_RP E y.2.1 y.2.2.1 y.2.2.2.1 y.2.2.2.2 H' → va_S (am_A E) s.heap H' locs' → cells' + τ.2.2.1 = cells + y.2.2.2.2.2.2.1 → slots' + τ.2.2.2 = slots + y.2.2.2.2.2.2.2 → W p l e R s m args below meth c H' locs' cells' slots' Q (F0 m (pc + 4) LS (y.1.map (am_sh E)))) : W p l e R s m args below meth c H locs cells slots Q (F0 m pc LS (st.map (am_sh E))) := by
  simp only [am_hp] at h
  split at h
  rotate_left
  · cases h
  rename_i k n r
  split at h
  rotate_left
  · cases h
  rename_i u1 u2 hk
  split at h
  rotate_left
  · cases h
  rename_i hcond
  obtain ⟨hn, hkk, hn2, hk2⟩ := hcond
  cases h
  obtain ⟨hx, hb, hml, hown, hcn, hin, hts, hW⟩ := C
  obtain ⟨ps, hc⟩ := am_K_ck hk (Nat.succ_ne_zero _)
  have c1 : am_at (ps.getD 0 0) (.classLink (am_cn.getD M.2.2.2.2 "") i "[[I") = true := hc
  rw [am_cnD hcn] at c1
  have hz := hRP.1
  have hBG2 : τ.2.2.1 + 1 + n.toNatClampNeg ≤ am_BG := hBG
  have hr1 : cells + (τ.2.2.1 + 1 + n.toNatClampNeg) ≤ R.cells + τ.2.2.1 := hR1
  have hr2 : slots + (τ.2.2.2 + n.toNatClampNeg + n.toNatClampNeg * k.toNatClampNeg) ≤ R.slots + τ.2.2.2 := hR2
  have hN := am_ad_in (E := E) (a := τ.2.2.1) (by omega)
  refine mn_W hx hb hown (hts _ (am_at_mem c1)) (am_AO_use hW.2.2.2.2.2.2.2.2.2.2.2) (hts _ am_ac_int) hdg hn hkk hn2 hk2 (by omega) (by omega) fun cA comp F fA fC hL => ?_
  have ec : cA = eY E 22 := am_RA_prim (by omega) (Or.inr rfl) hW fA
  have ed : comp = eY E 15 := Option.some.inj (fC.symm.trans (hW.2.1 15 (by omega) (by omega)).2)
  subst ec
  subst ed
  obtain ⟨f1, f2, hold, hrow⟩ := hL
  have hRP2 : am_RP E (am_mna n.toNatClampNeg k.toNatClampNeg σ ρ g τ).1 (am_mna n.toNatClampNeg k.toNatClampNeg σ ρ g τ).2.1 (am_mna n.toNatClampNeg k.toNatClampNeg σ ρ g τ).2.2.1 (am_mna n.toNatClampNeg k.toNatClampNeg σ ρ g τ).2.2.2 F := by
    refine ⟨by rw [f1, hz]; show _ = _ + (_ + 1 + _); omega, hBG2, fun b hb9 => ?_, fun b hb9 hb8 => ?_, fun b hb9 => ?_⟩
    · have hb1 : b < τ.2.2.1 + 1 + n.toNatClampNeg := hb9
      by_cases e1 : b = τ.2.2.1
      · subst e1
        have k1 : (am_mna n.toNatClampNeg k.toNatClampNeg σ ρ g τ).2.2.2.1 τ.2.2.1 = 22 := if_pos rfl
        have k2 : (am_mna n.toNatClampNeg k.toNatClampNeg σ ρ g τ).2.2.2.2.1 τ.2.2.1 = n.toNatClampNeg := if_pos rfl
        refine am_pc_ar (by rw [k1]; decide) (by rw [k1]; decide) (by rw [k1, k2, ← hz]; exact f2) ?_
        rw [k1]
        funext j
        rw [am_va_ref (by decide)]
        have k3 : (am_mna n.toNatClampNeg k.toNatClampNeg σ ρ g τ).2.1 τ.2.2.1 j = if j < n.toNatClampNeg then some (τ.2.2.1 + 1 + j) else none := by simp [am_mna]
        rw [k3]
        unfold mn_o
        by_cases hj : j < n.toNatClampNeg
        · rw [if_pos hj, if_pos hj, Option.map_some, am_ad_in (by omega), hz]
          exact congrArg (fun z => va_rf (some z)) (by omega)
        · rw [if_neg hj, if_neg hj]
          rfl
      · by_cases e2 : b < τ.2.2.1
        · have hno : ¬ (τ.2.2.1 ≤ b ∧ b ≤ τ.2.2.1 + n.toNatClampNeg) := by omega
          refine (hRP.2.2.1 b e2).cong (if_neg hno) ?_ (if_neg hno) ?_ ?_ (hold _ (by omega))
          · show (if b = τ.2.2.1 then _ else if _ then _ else ρ b) = _
            rw [if_neg e1, if_neg hno]
          · show (if b = τ.2.2.1 then _ else if _ then _ else τ.1 b) = _
            rw [if_neg e1, if_neg hno]
          · show (if b = τ.2.2.1 then _ else if _ then _ else τ.2.1 b) = _
            rw [if_neg e1, if_neg hno]
        · have hyes : τ.2.2.1 ≤ b ∧ b ≤ τ.2.2.1 + n.toNatClampNeg := by omega
          have k1 : (am_mna n.toNatClampNeg k.toNatClampNeg σ ρ g τ).2.2.2.1 b = 15 := by
            show (if b = τ.2.2.1 then _ else if _ then _ else τ.1 b) = _
            rw [if_neg e1, if_pos hyes]
          have k2 : (am_mna n.toNatClampNeg k.toNatClampNeg σ ρ g τ).2.2.2.2.1 b = k.toNatClampNeg := by
            show (if b = τ.2.2.1 then _ else if _ then _ else τ.2.1 b) = _
            rw [if_neg e1, if_pos hyes]
          have hr9 := hrow (b - (τ.2.2.1 + 1)) (by omega)
          rw [show H.size + 1 + (b - (τ.2.2.1 + 1)) = eB E + b by omega] at hr9
          refine am_pc_ar (by rw [k1]; decide) (by rw [k1]; decide) (by rw [k1, k2]; exact hr9) ?_
          rw [k1]
          funext j
          rw [am_va_i (by omega)]
          show _ = Value.int ((if τ.2.2.1 ≤ b ∧ b ≤ τ.2.2.1 + n.toNatClampNeg then (fun _ => (0 : Int32)) else σ b) j)
          rw [if_pos hyes]
    · have hb1 : τ.2.2.1 + 1 + n.toNatClampNeg ≤ b := hb9
      show (if b = τ.2.2.1 then _ else if τ.2.2.1 ≤ b ∧ b ≤ τ.2.2.1 + n.toNatClampNeg then _ else τ.1 b) = 99
      rw [if_neg (by omega), if_neg (by omega)]
      exact hRP.2.2.2.1 b (by omega) hb8
    · have hno : ¬ (τ.2.2.1 ≤ b ∧ b ≤ τ.2.2.1 + n.toNatClampNeg) := by omega
      have e1 : b ≠ τ.2.2.1 := by omega
      have h9 := hRP.2.2.2.2 b hb9
      refine ⟨?_, ?_, ?_⟩
      · show (if b = τ.2.2.1 then _ else if _ then _ else τ.1 b) = _
        rw [if_neg e1, if_neg hno]
        exact h9.1
      · show (if b = τ.2.2.1 then _ else if _ then _ else τ.2.1 b) = _
        rw [if_neg e1, if_neg hno]
        exact h9.2.1
      · show (if _ then _ else σ b) = _
        rw [if_neg hno]
        exact h9.2.2
  have hend := kk F locs (cells + 1 + n.toNatClampNeg) (slots + n.toNatClampNeg + n.toNatClampNeg * k.toNatClampNeg) hRP2 ⟨by rw [f1]; have := hS.1; omega, fun x h1 h2 => (hold x (Nat.lt_of_lt_of_le h1 hS.1)).trans (hS.2.1 x h1 h2), hS.2.2⟩ (by show _ = _ + (_ + 1 + _); omega) (by show _ = _ + (_ + _ + _); omega)
  simp only [List.map_cons, am_sh, hN] at hend
  rw [hz]
  exact hend
theorem am_hp_snd (hLS : LS.size = c.maxLocals) (C : am_CX E p s m args meth c M) (hRP : am_RP E σ ρ g τ H) (hS : va_S (am_A E) s.heap H locs) (hf : 1 ≤ R.frames) (hlo : 64 ≤ R.locals) (hR1 : cells + y.2.2.2.2.2.2.1 ≤ R.cells + τ.2.2.1) (hR2 : slots + y.2.2.2.2.2.2.2 ≤ R.slots + τ.2.2.2) (hBG : y.2.2.2.2.2.2.1 ≤ am_BG) {i : Instr} (hl : am_ln i len = true) (hdg : decode M.2.1 pc = .ok (i, len)) (h : am_hp M i st σ ρ g τ = some y) (kk : ∀ (H' : Heap) (locs' : List Loc) (cells' slots' : Nat), am_RP E y.2.1 y.2.2.1 y.2.2.2.1 y.2.2.2.2 H' → va_S (am_A E) s.heap H' locs' → cells' + τ.2.2.1 = cells + y.2.2.2.2.2.2.1 → slots' + τ.2.2.2 = slots + y.2.2.2.2.2.2.2 → W p l e R s m args below meth c H' locs' cells' slots' Q (F0 m (pc + len) LS (y.1.map (am_sh E)))) : W p l e R s m args below meth c H locs cells slots Q (F0 m pc LS (st.map (am_sh E))) := by
  cases i with
  | ldc i => have e := eq_of_beq hl; subst e; exact am_hp_ldc C hRP hS hdg h kk
  | ldc_w i => have e := eq_of_beq hl; subst e; exact am_hp_ldc_w C hRP hS hdg h kk
  | ldc2_w i => have e := eq_of_beq hl; subst e; exact am_hp_ldc2_w C hRP hS hdg h kk
  | getstatic i => have e := eq_of_beq hl; subst e; exact am_hp_getstatic C hRP hS hdg h kk
  | getfield i => have e := eq_of_beq hl; subst e; exact am_hp_getfield C hRP hS hdg h kk
  | putfield i => have e := eq_of_beq hl; subst e; exact am_hp_putfield C hRP hS hdg h kk
  | iaload => have e := eq_of_beq hl; subst e; exact am_hp_iaload C hRP hS hdg h kk
  | laload => have e := eq_of_beq hl; subst e; exact am_hp_laload C hRP hS hdg h kk
  | baload => have e := eq_of_beq hl; subst e; exact am_hp_baload C hRP hS hdg h kk
  | aaload => have e := eq_of_beq hl; subst e; exact am_hp_aaload C hRP hS hdg h kk
  | arraylength => have e := eq_of_beq hl; subst e; exact am_hp_arraylength C hRP hS hdg h kk
  | iastore => have e := eq_of_beq hl; subst e; exact am_hp_iastore C hRP hS hdg h kk
  | lastore => have e := eq_of_beq hl; subst e; exact am_hp_lastore C hRP hS hdg h kk
  | bastore => have e := eq_of_beq hl; subst e; exact am_hp_bastore C hRP hS hdg h kk
  | aastore => have e := eq_of_beq hl; subst e; exact am_hp_aastore C hRP hS hdg h kk
  | newarray ty => have e := eq_of_beq hl; subst e; exact am_hp_newarray C hRP hS hf hlo hR1 hR2 hBG hdg h kk
  | new i => have e := eq_of_beq hl; subst e; exact am_hp_new C hRP hS hf hlo hR1 hR2 hBG hdg h kk
  | anewarray i => have e := eq_of_beq hl; subst e; exact am_hp_anewarray C hRP hS hf hlo hR1 hR2 hBG hdg h kk
  | invokespecial i => have e := eq_of_beq hl; subst e; exact am_hp_objinit hLS C hRP hS hf hlo hR1 hR2 hBG hdg h kk
  | invokestatic i => have e := eq_of_beq hl; subst e; exact am_hp_lib hLS C hRP hS hf hlo hR1 hR2 hBG hdg h kk
  | multianewarray i d => 
    have e := eq_of_beq hl
    subst e
    by_cases hd : d = 2
    · subst hd
      exact am_hp_mna C hRP hS hf hlo hR1 hR2 hBG hdg h kk
    · exfalso
      unfold am_hp at h
      split at h <;> simp_all
  | _ => cases h
end AMHT
