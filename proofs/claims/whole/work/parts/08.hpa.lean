/-! the instructions of the heap: constants, statics, reads -/
def am_CX (E : am_E) (p : Program) (s : State) (m : MethodId) (args : Array Value) (meth : Method) (c : Code) (M : am_ME) : Prop :=
  p.tables.exec = Jvm.exec ∧ c.code = M.2.1 ∧ c.maxLocals = M.2.2.1 ∧ s.vm.findClass M.1.cls = some m.cls ∧ am_cn[M.2.2.2.2]? = some M.1.cls ∧ (M.1.name = "<init>" → meth.name = "<init>") ∧ (∀ w ∈ am_TB, w.before args s = true) ∧ am_WD E s
theorem am_cnD {o : Nat} {x : String} (h : am_cn[o]? = some x) : am_cn.getD o "" = x := by
  rw [List.getD_eq_getElem?_getD, h]
  rfl
/-- ldc_w of a text -/
theorem am_ldcwS {p : Program} {l : Launch} {e : Env} {R : Room} {s : State} {m : MethodId} {args : Array Value} {below : List Frame} {meth : Method} {c : Code} {T : State} {locs : List Loc} {cells slots : Nat}
    (X : Stand p l e R s m args below meth c T locs cells slots) (hexec : p.tables.exec = Jvm.exec) {own text : String} {index : Nat} {a : Addr} (hown : s.vm.findClass own = some m.cls)
    (hconst : (Cond.stringRef own index text).before args s = true) (hev : (Term.string own index).eval args s none [] s = some (.ref a)) {g : JFrame} (hg : g.method = m) (hdg : decode c.code g.pc = .ok (.ldc_w index, 3)) :
    ∀ target, Steps p.tables e below (T.setTop { g with pc := g.pc + 3, stack := .ref a :: g.stack }) target → Steps p.tables e below (T.setTop g) target := by
  obtain ⟨k, cf, i, a', hk, hcf, hcp, -, hr, hev'⟩ := Cond.stringRef_spec hown hconst
  cases hev.symm.trans hev'
  obtain ⟨k', hk', he⟩ := X.warmed.alike.2.2 _ _ hk
  have hr' : k'.resolved[index]? = some (some (.string a)) := by
    rcases X.warmed.entry hk hk' index with h | ⟨h, -⟩
    · rw [h]; exact hr
    · rw [hr] at h; cases h
  intro target hrest
  subst hg
  jvm_step X.here [hexec, hdg, ldc_w.wp_string (e := e) (s := T) (f := g) X.here.top hk' (by rw [he]; exact hcf) hcp hr']
  exact hrest
section AMHP
variable {p : Program} {l : Launch} {e : Env} {R : Room} {s : State} {m : MethodId} {args : Array Value} {below : List Frame} {meth : Method} {c : Code} {H : Heap} {locs : List Loc} {cells slots : Nat} {Q : State → Prop}
variable {pc len : Nat} {E : am_E} {LS : Array Slot} {st : List Value} {M : am_ME} {σ : am_I} {ρ : am_R} {g : am_J} {τ : am_T} {y : am_H5}
theorem am_ldcSw {cc : ByteArray} {rest : List Value} (hexec : p.tables.exec = Jvm.exec) (hb : c.code = cc) {own tx : String} {index q : Nat} (hown : s.vm.findClass own = some m.cls) (hZ : vk_R own index tx q s) (hdg : decode cc pc = .ok (.ldc_w index, 3))
    (k : W p l e R s m args below meth c H locs cells slots Q (F0 m (pc + 3) LS (.ref q :: rest))) : W p l e R s m args below meth c H locs cells slots Q (F0 m pc LS rest) := by
  intro T hT X
  obtain ⟨t, a1, b1⟩ := k T hT X
  exact ⟨t, am_ldcwS X hexec hown (text := tx) (a := q) hZ.1 hZ.2 (g := F0 m pc LS rest) rfl (by rw [hb]; exact hdg) t a1, b1⟩
theorem am_hp_ldc (C : am_CX E p s m args meth c M) (hRP : am_RP E σ ρ g τ H) (hS : va_S (am_A E) s.heap H locs) {i : Nat} (hdg : decode M.2.1 pc = .ok (.ldc i, 2)) (h : am_hp M (.ldc i) st σ ρ g τ = some y) (kk : ∀ (H' : Heap) (locs' : List Loc) (cells' slots' : Nat), am_RP E y.2.1 y.2.2.1 y.2.2.2.1 y.2.2.2.2 H' → va_S (am_A E) s.heap H' locs' → cells' + τ.2.2.1 = cells + y.2.2.2.2.2.2.1 → slots' + τ.2.2.2 = slots + y.2.2.2.2.2.2.2 → W p l e R s m args below meth c H' locs' cells' slots' Q (F0 m (pc + 2) LS (y.1.map (am_sh E)))) : W p l e R s m args below meth c H locs cells slots Q (F0 m pc LS (st.map (am_sh E))) := by
  obtain ⟨hx, hb, hml, hown, hcn, hin, hts, hW⟩ := C
  simp only [am_hp] at h
  split at h
  · rename_i v u hk
    cases h
    obtain ⟨ps, hc⟩ := am_K_ck hk (Nat.succ_ne_zero _)
    have hc2 : am_at (ps.getD 0 0) (.constant (am_cn.getD M.2.2.2.2 "") i (Int32.ofNat v)) = true := hc
    rw [am_cnD hcn] at hc2
    exact lv_ldc hx hb hown (hts _ (am_at_mem hc2)) hdg (kk H locs cells slots hRP hS rfl rfl)
  · rename_i j u hk
    cases h
    obtain ⟨ps, hc⟩ := am_K_ck hk (Nat.succ_ne_zero _)
    simp only [am_ck] at hc
    split at hc
    · rename_i q hq
      simp only [Bool.and_eq_true, decide_eq_true_eq] at hc
      obtain ⟨⟨⟨-, c1⟩, c2⟩, c3⟩ := hc
      have hZ := hW.2.2.2.2.2.2.2.1 _ q hq
      rw [c2, am_cnD hcn, c3, show 3 + (j - 3) = j by omega] at hZ
      have k := (kk H locs cells slots hRP hS rfl rfl)
      have e : am_sh E (.ref (am_BG + j)) = .ref (eO E j) := by
        show Value.ref (am_ad E (am_BG + j)) = _
        rw [am_ad_out (by omega), show am_BG + j - am_BG = j by omega]
      simp only [List.map_cons, e] at k
      exact va_ldcS hx hb hown hZ hdg k
    · cases hc
  · cases h
theorem am_hp_ldc_w (C : am_CX E p s m args meth c M) (hRP : am_RP E σ ρ g τ H) (hS : va_S (am_A E) s.heap H locs) {i : Nat} (hdg : decode M.2.1 pc = .ok (.ldc_w i, 3)) (h : am_hp M (.ldc_w i) st σ ρ g τ = some y) (kk : ∀ (H' : Heap) (locs' : List Loc) (cells' slots' : Nat), am_RP E y.2.1 y.2.2.1 y.2.2.2.1 y.2.2.2.2 H' → va_S (am_A E) s.heap H' locs' → cells' + τ.2.2.1 = cells + y.2.2.2.2.2.2.1 → slots' + τ.2.2.2 = slots + y.2.2.2.2.2.2.2 → W p l e R s m args below meth c H' locs' cells' slots' Q (F0 m (pc + 3) LS (y.1.map (am_sh E)))) : W p l e R s m args below meth c H locs cells slots Q (F0 m pc LS (st.map (am_sh E))) := by
  obtain ⟨hx, hb, hml, hown, hcn, hin, hts, hW⟩ := C
  simp only [am_hp] at h
  split at h
  · rename_i v u hk
    cases h
    obtain ⟨ps, hc⟩ := am_K_ck hk (Nat.succ_ne_zero _)
    have hc2 : am_at (ps.getD 0 0) (.constant (am_cn.getD M.2.2.2.2 "") i (Int32.ofNat v)) = true := hc
    rw [am_cnD hcn] at hc2
    exact lv_ldcw hx hb hown (hts _ (am_at_mem hc2)) hdg (kk H locs cells slots hRP hS rfl rfl)
  · rename_i j u hk
    cases h
    obtain ⟨ps, hc⟩ := am_K_ck hk (Nat.succ_ne_zero _)
    simp only [am_ck] at hc
    split at hc
    · rename_i q hq
      simp only [Bool.and_eq_true, decide_eq_true_eq] at hc
      obtain ⟨⟨⟨-, c1⟩, c2⟩, c3⟩ := hc
      have hZ := hW.2.2.2.2.2.2.2.1 _ q hq
      rw [c2, am_cnD hcn, c3, show 3 + (j - 3) = j by omega] at hZ
      have k := (kk H locs cells slots hRP hS rfl rfl)
      have e : am_sh E (.ref (am_BG + j)) = .ref (eO E j) := by
        show Value.ref (am_ad E (am_BG + j)) = _
        rw [am_ad_out (by omega), show am_BG + j - am_BG = j by omega]
      simp only [List.map_cons, e] at k
      exact am_ldcSw hx hb hown hZ hdg k
    · cases hc
  · cases h
theorem am_hp_ldc2_w (C : am_CX E p s m args meth c M) (hRP : am_RP E σ ρ g τ H) (hS : va_S (am_A E) s.heap H locs) {i : Nat} (hdg : decode M.2.1 pc = .ok (.ldc2_w i, 3)) (h : am_hp M (.ldc2_w i) st σ ρ g τ = some y) (kk : ∀ (H' : Heap) (locs' : List Loc) (cells' slots' : Nat), am_RP E y.2.1 y.2.2.1 y.2.2.2.1 y.2.2.2.2 H' → va_S (am_A E) s.heap H' locs' → cells' + τ.2.2.1 = cells + y.2.2.2.2.2.2.1 → slots' + τ.2.2.2 = slots + y.2.2.2.2.2.2.2 → W p l e R s m args below meth c H' locs' cells' slots' Q (F0 m (pc + 3) LS (y.1.map (am_sh E)))) : W p l e R s m args below meth c H locs cells slots Q (F0 m pc LS (st.map (am_sh E))) := by
  obtain ⟨hx, hb, hml, hown, hcn, hin, hts, hW⟩ := C
  simp only [am_hp] at h
  split at h
  · rename_i v u hk
    cases h
    obtain ⟨ps, hc⟩ := am_K_ck hk (Nat.succ_ne_zero _)
    have hc2 : am_at (ps.getD 0 0) (.constantLong (am_cn.getD M.2.2.2.2 "") i (Int64.ofNat v)) = true := hc
    rw [am_cnD hcn] at hc2
    exact lv_ldc2 hx hb hown (hts _ (am_at_mem hc2)) hdg (kk H locs cells slots hRP hS rfl rfl)
  · cases h
theorem am_hp_getstatic (C : am_CX E p s m args meth c M) (hRP : am_RP E σ ρ g τ H) (hS : va_S (am_A E) s.heap H locs) {i : Nat} (hdg : decode M.2.1 pc = .ok (.getstatic i, 3)) (h : am_hp M (.getstatic i) st σ ρ g τ = some y) (kk : ∀ (H' : Heap) (locs' : List Loc) (cells' slots' : Nat), am_RP E y.2.1 y.2.2.1 y.2.2.2.1 y.2.2.2.2 H' → va_S (am_A E) s.heap H' locs' → cells' + τ.2.2.1 = cells + y.2.2.2.2.2.2.1 → slots' + τ.2.2.2 = slots + y.2.2.2.2.2.2.2 → W p l e R s m args below meth c H' locs' cells' slots' Q (F0 m (pc + 3) LS (y.1.map (am_sh E)))) : W p l e R s m args below meth c H locs cells slots Q (F0 m pc LS (st.map (am_sh E))) := by
  obtain ⟨hx, hb, hml, hown, hcn, hin, hts, hW⟩ := C
  simp only [am_hp] at h
  split at h
  · rename_i u hk
    cases h
    obtain ⟨ps, hc⟩ := am_K_ck hk (Nat.succ_ne_zero _)
    have hc2 : am_at (ps.getD 0 0) (.fieldLink (am_cn.getD M.2.2.2.2 "") i "java/lang/String" "COMPACT_STRINGS" "Z") = true := hc
    rw [am_cnD hcn] at hc2
    have hl := hts _ (am_at_mem hc2)
    have k := (kk H locs cells slots hRP hS rfl rfl)
    exact va_gets hx hb hW.2.2.2.2.2.2.1.2.2.1 hS hown hl (fun _ z => z) hdg k
  · rename_i u hk
    cases h
    obtain ⟨ps, hc⟩ := am_K_ck hk (Nat.succ_ne_zero _)
    have hc2 : am_at (ps.getD 0 0) (.fieldLink (am_cn.getD M.2.2.2.2 "") i "jdk/internal/util/Preconditions" "SIOOBE_FORMATTER" "Ljava/util/function/BiFunction;") = true := hc
    rw [am_cnD hcn] at hc2
    have hl := hts _ (am_at_mem hc2)
    have k := (kk H locs cells slots hRP hS rfl rfl)
    simp only [List.map_cons, am_sh_f] at k
    exact va_gets hx hb hW.2.2.2.2.2.2.1.2.2.2 hS hown hl (fun _ z => z) hdg k
  · rename_i u hk
    cases h
    obtain ⟨ps, hc⟩ := am_K_ck hk (Nat.succ_ne_zero _)
    have hc2 : am_an (ps.getD 0 0) (.fieldLinkNest (am_cn.getD M.2.2.2.2 "") i "DebtCouncil" "ABOVE" "[I" "DebtCouncil") = true := hc
    rw [am_cnD hcn] at hc2
    have hl := (hW.2.2.2.2.2.2.2.2.2.1 _ _ _ _ _ _ (am_an_mem hc2)).use rfl (A := args)
    have k := (kk H locs cells slots hRP hS rfl rfl)
    have e : am_sh E (.ref am_BG) = .ref (eO E 0) := by
      show Value.ref (am_ad E _) = _
      rw [am_ad_out (by omega)]
      exact congrArg (fun z => Value.ref (eO E z)) (by omega)
    simp only [List.map_cons, e] at k
    exact va_getsN hx hb hW.2.2.2.2.2.2.1.1 hS hown hl (fun _ z => z) hdg k
  · rename_i u hk
    cases h
    obtain ⟨ps, hc⟩ := am_K_ck hk (Nat.succ_ne_zero _)
    have hc2 : am_an (ps.getD 0 0) (.fieldLinkNest (am_cn.getD M.2.2.2.2 "") i "DebtCouncil" "BODIES" "[I" "DebtCouncil") = true := hc
    rw [am_cnD hcn] at hc2
    have hl := (hW.2.2.2.2.2.2.2.2.2.1 _ _ _ _ _ _ (am_an_mem hc2)).use rfl (A := args)
    have k := (kk H locs cells slots hRP hS rfl rfl)
    have e : am_sh E (.ref (am_BG + 1)) = .ref (eO E 1) := by
      show Value.ref (am_ad E _) = _
      rw [am_ad_out (by omega)]
      exact congrArg (fun z => Value.ref (eO E z)) (by omega)
    simp only [List.map_cons, e] at k
    exact va_getsN hx hb hW.2.2.2.2.2.2.1.2.1 hS hown hl (fun _ z => z) hdg k
  · cases h
/-- the words of a class of the list -/
theorem am_cls {ci : Nat} {r : vw_C} (h : vwCl[ci]? = some r) : (∀ w ∈ u_ws r.1 r.2.1 r.2.2, w ∈ am_TB) ∧ (∀ k, k < r.2.2 → parseFieldDescriptor (r.2.1 k).2.2.1 = some (am_tyF ci k)) ∧ (∀ a, a < r.2.2 → ∀ b, b < r.2.2 → a ≠ b → (r.2.1 a).2.1 ≠ (r.2.1 b).2.1) := by
  match ci, h with
  | 0, h => cases h; exact ⟨am_uw0, tyX0_ok, nmX0⟩
  | 1, h => cases h; exact ⟨am_uw1, tyX1_ok, nmX1⟩
  | 2, h => cases h; exact ⟨am_uw2, tyX2_ok, nmX2⟩
  | 3, h => cases h; exact ⟨am_uw3, tyX3_ok, nmX3⟩
  | 4, h => cases h; exact ⟨am_uw4, tyX4_ok, nmX4⟩
  | 5, h => cases h; exact ⟨am_uw5, tyX5_ok, nmX5⟩
  | 6, h => cases h; exact ⟨am_uw6, tyX6_ok, nmX6⟩
  | 7, h => cases h; exact ⟨am_uw7, tyX7_ok, nmX7⟩
  | 8, h => cases h; exact ⟨am_uw8, tyX8_ok, nmX8⟩
  | 9, h => cases h; exact ⟨am_uw9, tyX9_ok, nmX9⟩
  | 10, h => cases h; exact ⟨am_uw10, tyX10_ok, nmX10⟩
  | 11, h => cases h; exact ⟨am_uw11, tyX11_ok, nmX11⟩
  | 12, h => cases h; exact ⟨am_uw12, tyX12_ok, nmX12⟩
  | n + 13, h => simp [vwCl] at h
theorem am_rfg (E : am_E) (r : Option Nat) : va_rf (r.map (am_ad E)) = am_sh E (va_rf r) := (am_rf_sh E r).symm
theorem am_hp_getfield (C : am_CX E p s m args meth c M) (hRP : am_RP E σ ρ g τ H) (hS : va_S (am_A E) s.heap H locs) {i : Nat} (hdg : decode M.2.1 pc = .ok (.getfield i, 3)) (h : am_hp M (.getfield i) st σ ρ g τ = some y) (kk : ∀ (H' : Heap) (locs' : List Loc) (cells' slots' : Nat), am_RP E y.2.1 y.2.2.1 y.2.2.2.1 y.2.2.2.2 H' → va_S (am_A E) s.heap H' locs' → cells' + τ.2.2.1 = cells + y.2.2.2.2.2.2.1 → slots' + τ.2.2.2 = slots + y.2.2.2.2.2.2.2 → W p l e R s m args below meth c H' locs' cells' slots' Q (F0 m (pc + 3) LS (y.1.map (am_sh E)))) : W p l e R s m args below meth c H locs cells slots Q (F0 m pc LS (st.map (am_sh E))) := by
  obtain ⟨hx, hb, hml, hown, hcn, hin, hts, hW⟩ := C
  simp only [am_hp] at h
  split at h
  rotate_left
  · cases h
  rename_i a r
  split at h
  · rename_i ci k hk
    split at h
    rotate_left
    · cases h
    rename_i hki
    obtain ⟨ps, hc⟩ := am_K_ck hk (Nat.succ_ne_zero _)
    simp only [am_ck] at hc
    split at hc
    rotate_left
    · cases hc
    rename_i q hq
    simp only [Bool.and_eq_true, decide_eq_true_eq] at hc
    obtain ⟨⟨c1, c2⟩, c3⟩ := hc
    rw [am_cnD hcn] at c2
    have hlt : ci < 13 := (List.getElem?_eq_some_iff.mp hq).1
    have ha : a < τ.2.2.1 := hRP.in hW hki (by omega) (Or.inl ⟨by omega, by omega, by omega⟩)
    have hob := hRP.ob ha (r := q) (by rw [hki]; exact hq)
    rw [hki] at hob
    obtain ⟨cell, q1, q2, q3, q4⟩ := hob
    obtain ⟨hSl, hfc, kC, hkC, hkind⟩ := hW.1 ci _ hq
    obtain ⟨cf, kf, fi, f, hi, hsl⟩ := hSl k c1
    have hval : y.1.map (am_sh E) = am_vo E σ ρ ci a k :: r.map (am_sh E) ∧ y.2 = (σ, ρ, g, τ) := by
      unfold am_vo
      split at h
      · rename_i hR
        cases h
        rw [if_pos hR]
        exact ⟨by rw [List.map_cons, am_rfg], rfl⟩
      · rename_i hR
        cases h
        rw [if_neg hR]
        exact ⟨rfl, rfl⟩
    have k9 := kk H locs cells slots (by rw [hval.2]; exact hRP) hS (by rw [hval.2]) (by rw [hval.2])
    rw [hval.1] at k9
    refine W.getf hx hb hown (hts _ (am_at_mem c2)) (by rw [c3] at hi; exact hi) (u_facts hfc hkC (u_lays hts (am_cls hq).1 c1) hi).1 q1 (by rw [q3]; exact fun z => by cases z) (v := am_vo E σ ρ ci a k) ?_ rfl rfl hdg k9
    rw [hsl, q4 k c1]
  · rename_i u hk
    split at h
    rotate_left
    · cases h
    rename_i hki
    cases h
    obtain ⟨ps, hc⟩ := am_K_ck hk (Nat.succ_ne_zero _)
    have hc2 : am_at (ps.getD 0 0) (.fieldLink (am_cn.getD M.2.2.2.2 "") i "java/lang/String" "value" "[B") = true := hc
    rw [am_cnD hcn] at hc2
    have hba : am_BG ≤ a := by
      by_cases hb2 : a < am_BG
      · have ha : a < τ.2.2.1 := hRP.in hW hki (by omega) (Or.inr hb2)
        rcases hRP.2.2.1 a ha with ⟨z, -⟩ | ⟨z, -⟩ <;> omega
      · exact Nat.not_lt.mp hb2
    obtain ⟨e1, -, -⟩ := hRP.2.2.2.2 a hba
    have hE := (hW.2.2.2.2.1 a hba (by rw [← e1]; exact hki)).2.2
    have k := (kk H locs cells slots hRP hS rfl rfl)
    simp only [List.map_cons, am_sh] at k
    rw [am_ad_out (by omega : am_BG ≤ a + 38)] at k
    show W p l e R s m args below meth c H locs cells slots Q (F0 m pc LS (.ref (am_ad E a) :: r.map (am_sh E)))
    rw [am_ad_out hba]
    exact vk_getf hx hb hE hS hown (hts _ (am_at_mem hc2)) (fun _ z => z) hdg k
  · rename_i u hk
    split at h
    rotate_left
    · cases h
    rename_i hki
    cases h
    obtain ⟨ps, hc⟩ := am_K_ck hk (Nat.succ_ne_zero _)
    have hc2 : am_at (ps.getD 0 0) (.fieldLink (am_cn.getD M.2.2.2.2 "") i "java/lang/String" "coder" "B") = true := hc
    rw [am_cnD hcn] at hc2
    have hba : am_BG ≤ a := by
      by_cases hb2 : a < am_BG
      · have ha : a < τ.2.2.1 := hRP.in hW hki (by omega) (Or.inr hb2)
        rcases hRP.2.2.1 a ha with ⟨z, -⟩ | ⟨z, -⟩ <;> omega
      · exact Nat.not_lt.mp hb2
    obtain ⟨e1, -, -⟩ := hRP.2.2.2.2 a hba
    have hE := (hW.2.2.2.2.1 a hba (by rw [← e1]; exact hki)).2.1
    have k := (kk H locs cells slots hRP hS rfl rfl)
    simp only [List.map_cons, am_sh] at k
    show W p l e R s m args below meth c H locs cells slots Q (F0 m pc LS (.ref (am_ad E a) :: r.map (am_sh E)))
    rw [am_ad_out hba]
    exact vk_getf hx hb hE hS hown (hts _ (am_at_mem hc2)) (fun _ z => z) hdg k
  · cases h
end AMHP
