/-! the instructions of stack and locals -/
section AMLC
variable {p : Program} {l : Launch} {e : Env} {R : Room} {s : State} {m : MethodId} {args : Array Value} {below : List Frame} {meth : Method} {c : Code} {H : Heap} {locs : List Loc} {cells slots : Nat} {Q : State → Prop}
variable {cc : ByteArray} {pc len nL : Nat} {E : am_E} {LS : Array Slot} {ls st : List Value}
theorem am_W_cong {g g' : JFrame} (h : g = g') (k : W p l e R s m args below meth c H locs cells slots Q g') : W p l e R s m args below meth c H locs cells slots Q g := h ▸ k
theorem am_brT {b : Bool} {t u : Nat} (h : b = true) {sk : List Value} (k : W p l e R s m args below meth c H locs cells slots Q (F0 m (if b = true then t else u) LS sk)) : W p l e R s m args below meth c H locs cells slots Q (F0 m t LS sk) := by
  rw [if_pos h] at k
  exact k
theorem am_brF {b : Bool} {t u : Nat} (h : ¬ b = true) {sk : List Value} (k : W p l e R s m args below meth c H locs cells slots Q (F0 m (if b = true then t else u) LS sk)) : W p l e R s m args below meth c H locs cells slots Q (F0 m u LS sk) := by
  rw [if_neg h] at k
  exact k
theorem am_store1 (hx : p.tables.exec = Jvm.exec) (hb : c.code = cc) {i x : Nat} {v : Value} (hL : am_LV E LS nL ls) {l' : List Value} (hs : am_s1 ls x v = some l')
    (row : ∀ lv', (x, am_sh E v) :: (am_prs E ls).filter (fun q => !(q.1 == x) && !(q.1 + 1 == x && q.2.category == 2)) = lv' → x < nL → (∀ LS', lv_has LS' nL lv' → W p l e R s m args below meth c H locs cells slots Q (F0 m i LS' (st.map (am_sh E)))) → W p l e R s m args below meth c H locs cells slots Q (F0 m pc LS (am_sh E v :: st.map (am_sh E))))
    (kk : ∀ LS' : Array Slot, am_LV E LS' nL l' → W p l e R s m args below meth c H locs cells slots Q (F0 m i LS' (st.map (am_sh E)))) : W p l e R s m args below meth c H locs cells slots Q (F0 m pc LS (am_sh E v :: st.map (am_sh E))) := by
  unfold am_s1 at hs
  by_cases h : x < ls.length ∧ am_nol ls x = true
  · rw [if_pos h] at hs
    cases hs
    exact row _ rfl (by rw [← hL.2.2.1]; exact h.1) (fun LS' h' => kk LS' (hL.st1 h.1 h.2 h'))
  · rw [if_neg h] at hs
    cases hs
theorem am_store2 (hx : p.tables.exec = Jvm.exec) (hb : c.code = cc) {i x : Nat} {v : Value} (hL : am_LV E LS nL ls) {l' : List Value} (hs : am_s2 ls x v = some l')
    (row : ∀ lv', (x, am_sh E v) :: (am_prs E ls).filter (fun q => !(q.1 == x) && (!(q.1 == x + 1) && !(q.1 + 1 == x && q.2.category == 2))) = lv' → x + 1 < nL → (∀ LS', lv_has LS' nL lv' → W p l e R s m args below meth c H locs cells slots Q (F0 m i LS' (st.map (am_sh E)))) → W p l e R s m args below meth c H locs cells slots Q (F0 m pc LS (am_sh E v :: st.map (am_sh E))))
    (kk : ∀ LS' : Array Slot, am_LV E LS' nL l' → W p l e R s m args below meth c H locs cells slots Q (F0 m i LS' (st.map (am_sh E)))) : W p l e R s m args below meth c H locs cells slots Q (F0 m pc LS (am_sh E v :: st.map (am_sh E))) := by
  unfold am_s2 at hs
  by_cases h : x + 1 < ls.length ∧ am_nol ls x = true
  · rw [if_pos h] at hs
    cases hs
    exact row _ rfl (by rw [← hL.2.2.1]; exact h.1) (fun LS' h' => kk LS' (hL.st2 h.1 h.2 h'))
  · rw [if_neg h] at hs
    cases hs
theorem am_lc_iconst (hx : p.tables.exec = Jvm.exec) (hb : c.code = cc) (hL : am_LV E LS nL ls) {n : Int} {x : am_L3} (hdg : decode cc pc = .ok (.iconst n, 1)) (h : am_lc (.iconst n) pc ls st = some x) (kk : ∀ LS' : Array Slot, am_LV E LS' nL x.2.1 → W p l e R s m args below meth c H locs cells slots Q (F0 m x.1 LS' (x.2.2.map (am_sh E)))) : W p l e R s m args below meth c H locs cells slots Q (F0 m pc LS (st.map (am_sh E))) := by
  cases h
  exact lv_iconst hx hb hdg rfl (kk LS hL)
theorem am_lc_bipush (hx : p.tables.exec = Jvm.exec) (hb : c.code = cc) (hL : am_LV E LS nL ls) {n : Int} {x : am_L3} (hdg : decode cc pc = .ok (.bipush n, 2)) (h : am_lc (.bipush n) pc ls st = some x) (kk : ∀ LS' : Array Slot, am_LV E LS' nL x.2.1 → W p l e R s m args below meth c H locs cells slots Q (F0 m x.1 LS' (x.2.2.map (am_sh E)))) : W p l e R s m args below meth c H locs cells slots Q (F0 m pc LS (st.map (am_sh E))) := by
  cases h
  exact lv_bipush hx hb hdg rfl (kk LS hL)
theorem am_lc_sipush (hx : p.tables.exec = Jvm.exec) (hb : c.code = cc) (hL : am_LV E LS nL ls) {n : Int} {x : am_L3} (hdg : decode cc pc = .ok (.sipush n, 3)) (h : am_lc (.sipush n) pc ls st = some x) (kk : ∀ LS' : Array Slot, am_LV E LS' nL x.2.1 → W p l e R s m args below meth c H locs cells slots Q (F0 m x.1 LS' (x.2.2.map (am_sh E)))) : W p l e R s m args below meth c H locs cells slots Q (F0 m pc LS (st.map (am_sh E))) := by
  cases h
  exact lv_sipush hx hb hdg rfl (kk LS hL)
theorem am_lc_lconst (hx : p.tables.exec = Jvm.exec) (hb : c.code = cc) (hL : am_LV E LS nL ls) {n : Fin 2} {x : am_L3} (hdg : decode cc pc = .ok (.lconst n, 1)) (h : am_lc (.lconst n) pc ls st = some x) (kk : ∀ LS' : Array Slot, am_LV E LS' nL x.2.1 → W p l e R s m args below meth c H locs cells slots Q (F0 m x.1 LS' (x.2.2.map (am_sh E)))) : W p l e R s m args below meth c H locs cells slots Q (F0 m pc LS (st.map (am_sh E))) := by
  cases h
  exact lv_lconst hx hb hdg rfl (kk LS hL)
theorem am_lc_null (hx : p.tables.exec = Jvm.exec) (hb : c.code = cc) (hL : am_LV E LS nL ls) {x : am_L3} (hdg : decode cc pc = .ok (.aconst_null, 1)) (h : am_lc (.aconst_null) pc ls st = some x) (kk : ∀ LS' : Array Slot, am_LV E LS' nL x.2.1 → W p l e R s m args below meth c H locs cells slots Q (F0 m x.1 LS' (x.2.2.map (am_sh E)))) : W p l e R s m args below meth c H locs cells slots Q (F0 m pc LS (st.map (am_sh E))) := by
  cases h
  exact lv_null hx hb hdg (kk LS hL)
theorem am_lc_iload (hx : p.tables.exec = Jvm.exec) (hb : c.code = cc) (hL : am_LV E LS nL ls) {i : Nat} {x : am_L3} (hdg : decode cc pc = .ok (.iload i, 2)) (h : am_lc (.iload i) pc ls st = some x) (kk : ∀ LS' : Array Slot, am_LV E LS' nL x.2.1 → W p l e R s m args below meth c H locs cells slots Q (F0 m x.1 LS' (x.2.2.map (am_sh E)))) : W p l e R s m args below meth c H locs cells slots Q (F0 m pc LS (st.map (am_sh E))) := by
  simp only [am_lc, Option.map_eq_some_iff] at h
  obtain ⟨v, hv, rfl⟩ := h
  obtain ⟨h1, h2⟩ := am_ld_ok hv
  rcases h2 with ⟨-, y, rfl⟩ | ⟨h3, -⟩ | ⟨h3, -⟩
  · exact lv_iload hx hb hdg (hL.at h1 rfl) (kk LS hL)
  · cases h3
  · cases h3
theorem am_lc_iload_n (hx : p.tables.exec = Jvm.exec) (hb : c.code = cc) (hL : am_LV E LS nL ls) {i : Fin 4} {x : am_L3} (hdg : decode cc pc = .ok (.iload_n i, 1)) (h : am_lc (.iload_n i) pc ls st = some x) (kk : ∀ LS' : Array Slot, am_LV E LS' nL x.2.1 → W p l e R s m args below meth c H locs cells slots Q (F0 m x.1 LS' (x.2.2.map (am_sh E)))) : W p l e R s m args below meth c H locs cells slots Q (F0 m pc LS (st.map (am_sh E))) := by
  simp only [am_lc, Option.map_eq_some_iff] at h
  obtain ⟨v, hv, rfl⟩ := h
  obtain ⟨h1, h2⟩ := am_ld_ok hv
  rcases h2 with ⟨-, y, rfl⟩ | ⟨h3, -⟩ | ⟨h3, -⟩
  · exact lv_iload_n hx hb hdg rfl (hL.at h1 rfl) (kk LS hL)
  · cases h3
  · cases h3
theorem am_lc_lload (hx : p.tables.exec = Jvm.exec) (hb : c.code = cc) (hL : am_LV E LS nL ls) {i : Nat} {x : am_L3} (hdg : decode cc pc = .ok (.lload i, 2)) (h : am_lc (.lload i) pc ls st = some x) (kk : ∀ LS' : Array Slot, am_LV E LS' nL x.2.1 → W p l e R s m args below meth c H locs cells slots Q (F0 m x.1 LS' (x.2.2.map (am_sh E)))) : W p l e R s m args below meth c H locs cells slots Q (F0 m pc LS (st.map (am_sh E))) := by
  simp only [am_lc, Option.map_eq_some_iff] at h
  obtain ⟨v, hv, rfl⟩ := h
  obtain ⟨h1, h2⟩ := am_ld_ok hv
  rcases h2 with ⟨h3, -⟩ | ⟨-, y, rfl⟩ | ⟨h3, -⟩
  · cases h3
  · exact lv_lload hx hb hdg (hL.at h1 rfl) (kk LS hL)
  · cases h3
theorem am_lc_lload_n (hx : p.tables.exec = Jvm.exec) (hb : c.code = cc) (hL : am_LV E LS nL ls) {i : Fin 4} {x : am_L3} (hdg : decode cc pc = .ok (.lload_n i, 1)) (h : am_lc (.lload_n i) pc ls st = some x) (kk : ∀ LS' : Array Slot, am_LV E LS' nL x.2.1 → W p l e R s m args below meth c H locs cells slots Q (F0 m x.1 LS' (x.2.2.map (am_sh E)))) : W p l e R s m args below meth c H locs cells slots Q (F0 m pc LS (st.map (am_sh E))) := by
  simp only [am_lc, Option.map_eq_some_iff] at h
  obtain ⟨v, hv, rfl⟩ := h
  obtain ⟨h1, h2⟩ := am_ld_ok hv
  rcases h2 with ⟨h3, -⟩ | ⟨-, y, rfl⟩ | ⟨h3, -⟩
  · cases h3
  · exact lv_lload_n hx hb hdg rfl (hL.at h1 rfl) (kk LS hL)
  · cases h3
theorem am_lc_aload (hx : p.tables.exec = Jvm.exec) (hb : c.code = cc) (hL : am_LV E LS nL ls) {i : Nat} {x : am_L3} (hdg : decode cc pc = .ok (.aload i, 2)) (h : am_lc (.aload i) pc ls st = some x) (kk : ∀ LS' : Array Slot, am_LV E LS' nL x.2.1 → W p l e R s m args below meth c H locs cells slots Q (F0 m x.1 LS' (x.2.2.map (am_sh E)))) : W p l e R s m args below meth c H locs cells slots Q (F0 m pc LS (st.map (am_sh E))) := by
  simp only [am_lc, Option.map_eq_some_iff] at h
  obtain ⟨v, hv, rfl⟩ := h
  obtain ⟨h1, h2⟩ := am_ld_ok hv
  rcases h2 with ⟨h3, -⟩ | ⟨h3, -⟩ | ⟨-, ⟨y, rfl⟩ | rfl⟩
  · cases h3
  · cases h3
  · exact lv_aload hx hb hdg (hL.at h1 rfl) (kk LS hL)
  · exact lv_aloadN hx hb hdg (hL.at h1 rfl) (kk LS hL)
theorem am_lc_aload_n (hx : p.tables.exec = Jvm.exec) (hb : c.code = cc) (hL : am_LV E LS nL ls) {i : Fin 4} {x : am_L3} (hdg : decode cc pc = .ok (.aload_n i, 1)) (h : am_lc (.aload_n i) pc ls st = some x) (kk : ∀ LS' : Array Slot, am_LV E LS' nL x.2.1 → W p l e R s m args below meth c H locs cells slots Q (F0 m x.1 LS' (x.2.2.map (am_sh E)))) : W p l e R s m args below meth c H locs cells slots Q (F0 m pc LS (st.map (am_sh E))) := by
  simp only [am_lc, Option.map_eq_some_iff] at h
  obtain ⟨v, hv, rfl⟩ := h
  obtain ⟨h1, h2⟩ := am_ld_ok hv
  rcases h2 with ⟨h3, -⟩ | ⟨h3, -⟩ | ⟨-, ⟨y, rfl⟩ | rfl⟩
  · cases h3
  · cases h3
  · exact lv_aload_n hx hb hdg rfl (hL.at h1 rfl) (kk LS hL)
  · exact lv_aload_nN hx hb hdg rfl (hL.at h1 rfl) (kk LS hL)
theorem am_lc_istore (hx : p.tables.exec = Jvm.exec) (hb : c.code = cc) (hL : am_LV E LS nL ls) {i : Nat} {x : am_L3} (hdg : decode cc pc = .ok (.istore i, 2)) (h : am_lc (.istore i) pc ls st = some x) (kk : ∀ LS' : Array Slot, am_LV E LS' nL x.2.1 → W p l e R s m args below meth c H locs cells slots Q (F0 m x.1 LS' (x.2.2.map (am_sh E)))) : W p l e R s m args below meth c H locs cells slots Q (F0 m pc LS (st.map (am_sh E))) := by
  simp only [am_lc] at h
  split at h
  · simp only [Option.map_eq_some_iff] at h
    obtain ⟨l', hs, rfl⟩ := h
    exact am_store1 hx hb hL hs (fun lv' e hn k => lv_istore hx hb hdg hL.has hn e (fun LS' h' => k LS' h')) kk
  · cases h
theorem am_lc_istore_n (hx : p.tables.exec = Jvm.exec) (hb : c.code = cc) (hL : am_LV E LS nL ls) {i : Fin 4} {x : am_L3} (hdg : decode cc pc = .ok (.istore_n i, 1)) (h : am_lc (.istore_n i) pc ls st = some x) (kk : ∀ LS' : Array Slot, am_LV E LS' nL x.2.1 → W p l e R s m args below meth c H locs cells slots Q (F0 m x.1 LS' (x.2.2.map (am_sh E)))) : W p l e R s m args below meth c H locs cells slots Q (F0 m pc LS (st.map (am_sh E))) := by
  simp only [am_lc] at h
  split at h
  · simp only [Option.map_eq_some_iff] at h
    obtain ⟨l', hs, rfl⟩ := h
    exact am_store1 hx hb hL hs (fun lv' e hn k => lv_istore_n hx hb hdg rfl hL.has hn e (fun LS' h' => k LS' h')) kk
  · cases h
theorem am_lc_lstore (hx : p.tables.exec = Jvm.exec) (hb : c.code = cc) (hL : am_LV E LS nL ls) {i : Nat} {x : am_L3} (hdg : decode cc pc = .ok (.lstore i, 2)) (h : am_lc (.lstore i) pc ls st = some x) (kk : ∀ LS' : Array Slot, am_LV E LS' nL x.2.1 → W p l e R s m args below meth c H locs cells slots Q (F0 m x.1 LS' (x.2.2.map (am_sh E)))) : W p l e R s m args below meth c H locs cells slots Q (F0 m pc LS (st.map (am_sh E))) := by
  simp only [am_lc] at h
  split at h
  · simp only [Option.map_eq_some_iff] at h
    obtain ⟨l', hs, rfl⟩ := h
    exact am_store2 hx hb hL hs (fun lv' e hn k => lv_lstore hx hb hdg hL.has hn e (fun LS' h' => k LS' h')) kk
  · cases h
theorem am_lc_lstore_n (hx : p.tables.exec = Jvm.exec) (hb : c.code = cc) (hL : am_LV E LS nL ls) {i : Fin 4} {x : am_L3} (hdg : decode cc pc = .ok (.lstore_n i, 1)) (h : am_lc (.lstore_n i) pc ls st = some x) (kk : ∀ LS' : Array Slot, am_LV E LS' nL x.2.1 → W p l e R s m args below meth c H locs cells slots Q (F0 m x.1 LS' (x.2.2.map (am_sh E)))) : W p l e R s m args below meth c H locs cells slots Q (F0 m pc LS (st.map (am_sh E))) := by
  simp only [am_lc] at h
  split at h
  · simp only [Option.map_eq_some_iff] at h
    obtain ⟨l', hs, rfl⟩ := h
    exact am_store2 hx hb hL hs (fun lv' e hn k => lv_lstore_n hx hb hdg rfl hL.has hn e (fun LS' h' => k LS' h')) kk
  · cases h
theorem am_lc_astore (hx : p.tables.exec = Jvm.exec) (hb : c.code = cc) (hL : am_LV E LS nL ls) {i : Nat} {x : am_L3} (hdg : decode cc pc = .ok (.astore i, 2)) (h : am_lc (.astore i) pc ls st = some x) (kk : ∀ LS' : Array Slot, am_LV E LS' nL x.2.1 → W p l e R s m args below meth c H locs cells slots Q (F0 m x.1 LS' (x.2.2.map (am_sh E)))) : W p l e R s m args below meth c H locs cells slots Q (F0 m pc LS (st.map (am_sh E))) := by
  simp only [am_lc] at h
  split at h
  · simp only [Option.map_eq_some_iff] at h
    obtain ⟨l', hs, rfl⟩ := h
    exact am_store1 hx hb hL hs (fun lv' e hn k => lv_astore hx hb hdg hL.has hn e (fun LS' h' => k LS' h')) kk
  · simp only [Option.map_eq_some_iff] at h
    obtain ⟨l', hs, rfl⟩ := h
    exact am_store1 hx hb hL hs (fun lv' e hn k => lv_astoreN hx hb hdg hL.has hn e (fun LS' h' => k LS' h')) kk
  · cases h
theorem am_lc_astore_n (hx : p.tables.exec = Jvm.exec) (hb : c.code = cc) (hL : am_LV E LS nL ls) {i : Fin 4} {x : am_L3} (hdg : decode cc pc = .ok (.astore_n i, 1)) (h : am_lc (.astore_n i) pc ls st = some x) (kk : ∀ LS' : Array Slot, am_LV E LS' nL x.2.1 → W p l e R s m args below meth c H locs cells slots Q (F0 m x.1 LS' (x.2.2.map (am_sh E)))) : W p l e R s m args below meth c H locs cells slots Q (F0 m pc LS (st.map (am_sh E))) := by
  simp only [am_lc] at h
  split at h
  · simp only [Option.map_eq_some_iff] at h
    obtain ⟨l', hs, rfl⟩ := h
    exact am_store1 hx hb hL hs (fun lv' e hn k => lv_astore_n hx hb hdg rfl hL.has hn e (fun LS' h' => k LS' h')) kk
  · simp only [Option.map_eq_some_iff] at h
    obtain ⟨l', hs, rfl⟩ := h
    exact am_store1 hx hb hL hs (fun lv' e hn k => lv_astore_nN hx hb hdg rfl hL.has hn e (fun LS' h' => k LS' h')) kk
  · cases h
theorem am_lc_iinc (hx : p.tables.exec = Jvm.exec) (hb : c.code = cc) (hL : am_LV E LS nL ls) {i : Nat} {n : Int} {x : am_L3} (hdg : decode cc pc = .ok (.iinc i n, 3)) (h : am_lc (.iinc i n) pc ls st = some x) (kk : ∀ LS' : Array Slot, am_LV E LS' nL x.2.1 → W p l e R s m args below meth c H locs cells slots Q (F0 m x.1 LS' (x.2.2.map (am_sh E)))) : W p l e R s m args below meth c H locs cells slots Q (F0 m pc LS (st.map (am_sh E))) := by
  simp only [am_lc] at h
  split at h
  · rename_i v hv
    simp only [Option.map_eq_some_iff] at h
    obtain ⟨l', hs, rfl⟩ := h
    obtain ⟨k9, hk9⟩ := List.getElem?_of_mem (am_prs_mem.mpr ⟨_, hv, rfl, rfl⟩ : (i, am_sh E (.int v)) ∈ am_prs E ls)
    unfold am_s1 at hs
    by_cases h : i < ls.length ∧ am_nol ls i = true
    · rw [if_pos h] at hs
      cases hs
      exact lv_iinc hx hb hdg hL.has hk9 rfl (by rw [← hL.2.2.1]; exact h.1) rfl (fun LS' h' => kk LS' (hL.st1 h.1 h.2 h'))
    · rw [if_neg h] at hs
      cases hs
  · cases h
theorem am_lc_iadd (hx : p.tables.exec = Jvm.exec) (hb : c.code = cc) (hL : am_LV E LS nL ls) {x : am_L3} (hdg : decode cc pc = .ok (.iadd, 1)) (h : am_lc (.iadd) pc ls st = some x) (kk : ∀ LS' : Array Slot, am_LV E LS' nL x.2.1 → W p l e R s m args below meth c H locs cells slots Q (F0 m x.1 LS' (x.2.2.map (am_sh E)))) : W p l e R s m args below meth c H locs cells slots Q (F0 m pc LS (st.map (am_sh E))) := by
  simp only [am_lc] at h
  split at h
  · cases h
    exact lv_iadd hx hb hdg (kk LS hL)
  · cases h
theorem am_lc_isub (hx : p.tables.exec = Jvm.exec) (hb : c.code = cc) (hL : am_LV E LS nL ls) {x : am_L3} (hdg : decode cc pc = .ok (.isub, 1)) (h : am_lc (.isub) pc ls st = some x) (kk : ∀ LS' : Array Slot, am_LV E LS' nL x.2.1 → W p l e R s m args below meth c H locs cells slots Q (F0 m x.1 LS' (x.2.2.map (am_sh E)))) : W p l e R s m args below meth c H locs cells slots Q (F0 m pc LS (st.map (am_sh E))) := by
  simp only [am_lc] at h
  split at h
  · cases h
    exact lv_isub hx hb hdg (kk LS hL)
  · cases h
theorem am_lc_imul (hx : p.tables.exec = Jvm.exec) (hb : c.code = cc) (hL : am_LV E LS nL ls) {x : am_L3} (hdg : decode cc pc = .ok (.imul, 1)) (h : am_lc (.imul) pc ls st = some x) (kk : ∀ LS' : Array Slot, am_LV E LS' nL x.2.1 → W p l e R s m args below meth c H locs cells slots Q (F0 m x.1 LS' (x.2.2.map (am_sh E)))) : W p l e R s m args below meth c H locs cells slots Q (F0 m pc LS (st.map (am_sh E))) := by
  simp only [am_lc] at h
  split at h
  · cases h
    exact lv_imul hx hb hdg (kk LS hL)
  · cases h
theorem am_lc_iand (hx : p.tables.exec = Jvm.exec) (hb : c.code = cc) (hL : am_LV E LS nL ls) {x : am_L3} (hdg : decode cc pc = .ok (.iand, 1)) (h : am_lc (.iand) pc ls st = some x) (kk : ∀ LS' : Array Slot, am_LV E LS' nL x.2.1 → W p l e R s m args below meth c H locs cells slots Q (F0 m x.1 LS' (x.2.2.map (am_sh E)))) : W p l e R s m args below meth c H locs cells slots Q (F0 m pc LS (st.map (am_sh E))) := by
  simp only [am_lc] at h
  split at h
  · cases h
    exact lv_iand hx hb hdg (kk LS hL)
  · cases h
theorem am_lc_ior (hx : p.tables.exec = Jvm.exec) (hb : c.code = cc) (hL : am_LV E LS nL ls) {x : am_L3} (hdg : decode cc pc = .ok (.ior, 1)) (h : am_lc (.ior) pc ls st = some x) (kk : ∀ LS' : Array Slot, am_LV E LS' nL x.2.1 → W p l e R s m args below meth c H locs cells slots Q (F0 m x.1 LS' (x.2.2.map (am_sh E)))) : W p l e R s m args below meth c H locs cells slots Q (F0 m pc LS (st.map (am_sh E))) := by
  simp only [am_lc] at h
  split at h
  · cases h
    exact lv_ior hx hb hdg (kk LS hL)
  · cases h
theorem am_lc_ixor (hx : p.tables.exec = Jvm.exec) (hb : c.code = cc) (hL : am_LV E LS nL ls) {x : am_L3} (hdg : decode cc pc = .ok (.ixor, 1)) (h : am_lc (.ixor) pc ls st = some x) (kk : ∀ LS' : Array Slot, am_LV E LS' nL x.2.1 → W p l e R s m args below meth c H locs cells slots Q (F0 m x.1 LS' (x.2.2.map (am_sh E)))) : W p l e R s m args below meth c H locs cells slots Q (F0 m pc LS (st.map (am_sh E))) := by
  simp only [am_lc] at h
  split at h
  · cases h
    exact lv_ixor hx hb hdg (kk LS hL)
  · cases h
theorem am_lc_ishl (hx : p.tables.exec = Jvm.exec) (hb : c.code = cc) (hL : am_LV E LS nL ls) {x : am_L3} (hdg : decode cc pc = .ok (.ishl, 1)) (h : am_lc (.ishl) pc ls st = some x) (kk : ∀ LS' : Array Slot, am_LV E LS' nL x.2.1 → W p l e R s m args below meth c H locs cells slots Q (F0 m x.1 LS' (x.2.2.map (am_sh E)))) : W p l e R s m args below meth c H locs cells slots Q (F0 m pc LS (st.map (am_sh E))) := by
  simp only [am_lc] at h
  split at h
  · cases h
    exact lv_ishl hx hb hdg (kk LS hL)
  · cases h
theorem am_lc_ishr (hx : p.tables.exec = Jvm.exec) (hb : c.code = cc) (hL : am_LV E LS nL ls) {x : am_L3} (hdg : decode cc pc = .ok (.ishr, 1)) (h : am_lc (.ishr) pc ls st = some x) (kk : ∀ LS' : Array Slot, am_LV E LS' nL x.2.1 → W p l e R s m args below meth c H locs cells slots Q (F0 m x.1 LS' (x.2.2.map (am_sh E)))) : W p l e R s m args below meth c H locs cells slots Q (F0 m pc LS (st.map (am_sh E))) := by
  simp only [am_lc] at h
  split at h
  · cases h
    exact lv_ishr hx hb hdg (kk LS hL)
  · cases h
theorem am_lc_land (hx : p.tables.exec = Jvm.exec) (hb : c.code = cc) (hL : am_LV E LS nL ls) {x : am_L3} (hdg : decode cc pc = .ok (.land, 1)) (h : am_lc (.land) pc ls st = some x) (kk : ∀ LS' : Array Slot, am_LV E LS' nL x.2.1 → W p l e R s m args below meth c H locs cells slots Q (F0 m x.1 LS' (x.2.2.map (am_sh E)))) : W p l e R s m args below meth c H locs cells slots Q (F0 m pc LS (st.map (am_sh E))) := by
  simp only [am_lc] at h
  split at h
  · cases h
    exact lv_land hx hb hdg (kk LS hL)
  · cases h
theorem am_lc_lor (hx : p.tables.exec = Jvm.exec) (hb : c.code = cc) (hL : am_LV E LS nL ls) {x : am_L3} (hdg : decode cc pc = .ok (.lor, 1)) (h : am_lc (.lor) pc ls st = some x) (kk : ∀ LS' : Array Slot, am_LV E LS' nL x.2.1 → W p l e R s m args below meth c H locs cells slots Q (F0 m x.1 LS' (x.2.2.map (am_sh E)))) : W p l e R s m args below meth c H locs cells slots Q (F0 m pc LS (st.map (am_sh E))) := by
  simp only [am_lc] at h
  split at h
  · cases h
    exact lv_lor hx hb hdg (kk LS hL)
  · cases h
theorem am_lc_lxor (hx : p.tables.exec = Jvm.exec) (hb : c.code = cc) (hL : am_LV E LS nL ls) {x : am_L3} (hdg : decode cc pc = .ok (.lxor, 1)) (h : am_lc (.lxor) pc ls st = some x) (kk : ∀ LS' : Array Slot, am_LV E LS' nL x.2.1 → W p l e R s m args below meth c H locs cells slots Q (F0 m x.1 LS' (x.2.2.map (am_sh E)))) : W p l e R s m args below meth c H locs cells slots Q (F0 m pc LS (st.map (am_sh E))) := by
  simp only [am_lc] at h
  split at h
  · cases h
    exact lv_lxor hx hb hdg (kk LS hL)
  · cases h
theorem am_lc_lmul (hx : p.tables.exec = Jvm.exec) (hb : c.code = cc) (hL : am_LV E LS nL ls) {x : am_L3} (hdg : decode cc pc = .ok (.lmul, 1)) (h : am_lc (.lmul) pc ls st = some x) (kk : ∀ LS' : Array Slot, am_LV E LS' nL x.2.1 → W p l e R s m args below meth c H locs cells slots Q (F0 m x.1 LS' (x.2.2.map (am_sh E)))) : W p l e R s m args below meth c H locs cells slots Q (F0 m pc LS (st.map (am_sh E))) := by
  simp only [am_lc] at h
  split at h
  · cases h
    exact lv_lmul hx hb hdg (kk LS hL)
  · cases h
theorem am_lc_idiv (hx : p.tables.exec = Jvm.exec) (hb : c.code = cc) (hL : am_LV E LS nL ls) {x : am_L3} (hdg : decode cc pc = .ok (.idiv, 1)) (h : am_lc (.idiv) pc ls st = some x) (kk : ∀ LS' : Array Slot, am_LV E LS' nL x.2.1 → W p l e R s m args below meth c H locs cells slots Q (F0 m x.1 LS' (x.2.2.map (am_sh E)))) : W p l e R s m args below meth c H locs cells slots Q (F0 m pc LS (st.map (am_sh E))) := by
  simp only [am_lc] at h
  split at h
  · rename_i y x9 r
    by_cases h0 : y = 0
    · rw [if_pos h0] at h
      cases h
    · rw [if_neg h0] at h
      cases h
      exact lv_idiv hx hb hdg h0 (kk LS hL)
  · cases h
theorem am_lc_irem (hx : p.tables.exec = Jvm.exec) (hb : c.code = cc) (hL : am_LV E LS nL ls) {x : am_L3} (hdg : decode cc pc = .ok (.irem, 1)) (h : am_lc (.irem) pc ls st = some x) (kk : ∀ LS' : Array Slot, am_LV E LS' nL x.2.1 → W p l e R s m args below meth c H locs cells slots Q (F0 m x.1 LS' (x.2.2.map (am_sh E)))) : W p l e R s m args below meth c H locs cells slots Q (F0 m pc LS (st.map (am_sh E))) := by
  simp only [am_lc] at h
  split at h
  · rename_i y x9 r
    by_cases h0 : y = 0
    · rw [if_pos h0] at h
      cases h
    · rw [if_neg h0] at h
      cases h
      exact lv_irem hx hb hdg h0 (kk LS hL)
  · cases h
theorem am_lc_ldiv (hx : p.tables.exec = Jvm.exec) (hb : c.code = cc) (hL : am_LV E LS nL ls) {x : am_L3} (hdg : decode cc pc = .ok (.ldiv, 1)) (h : am_lc (.ldiv) pc ls st = some x) (kk : ∀ LS' : Array Slot, am_LV E LS' nL x.2.1 → W p l e R s m args below meth c H locs cells slots Q (F0 m x.1 LS' (x.2.2.map (am_sh E)))) : W p l e R s m args below meth c H locs cells slots Q (F0 m pc LS (st.map (am_sh E))) := by
  simp only [am_lc] at h
  split at h
  · rename_i y x9 r
    by_cases h0 : y = 0
    · rw [if_pos h0] at h
      cases h
    · rw [if_neg h0] at h
      cases h
      exact lv_ldiv hx hb hdg h0 (kk LS hL)
  · cases h
theorem am_lc_lshl (hx : p.tables.exec = Jvm.exec) (hb : c.code = cc) (hL : am_LV E LS nL ls) {x : am_L3} (hdg : decode cc pc = .ok (.lshl, 1)) (h : am_lc (.lshl) pc ls st = some x) (kk : ∀ LS' : Array Slot, am_LV E LS' nL x.2.1 → W p l e R s m args below meth c H locs cells slots Q (F0 m x.1 LS' (x.2.2.map (am_sh E)))) : W p l e R s m args below meth c H locs cells slots Q (F0 m pc LS (st.map (am_sh E))) := by
  simp only [am_lc] at h
  split at h
  · cases h
    exact lv_lshl hx hb hdg rfl (kk LS hL)
  · cases h
theorem am_lc_lshr (hx : p.tables.exec = Jvm.exec) (hb : c.code = cc) (hL : am_LV E LS nL ls) {x : am_L3} (hdg : decode cc pc = .ok (.lshr, 1)) (h : am_lc (.lshr) pc ls st = some x) (kk : ∀ LS' : Array Slot, am_LV E LS' nL x.2.1 → W p l e R s m args below meth c H locs cells slots Q (F0 m x.1 LS' (x.2.2.map (am_sh E)))) : W p l e R s m args below meth c H locs cells slots Q (F0 m pc LS (st.map (am_sh E))) := by
  simp only [am_lc] at h
  split at h
  · cases h
    exact lv_lshr hx hb hdg rfl (kk LS hL)
  · cases h
theorem am_lc_i2l (hx : p.tables.exec = Jvm.exec) (hb : c.code = cc) (hL : am_LV E LS nL ls) {x : am_L3} (hdg : decode cc pc = .ok (.i2l, 1)) (h : am_lc (.i2l) pc ls st = some x) (kk : ∀ LS' : Array Slot, am_LV E LS' nL x.2.1 → W p l e R s m args below meth c H locs cells slots Q (F0 m x.1 LS' (x.2.2.map (am_sh E)))) : W p l e R s m args below meth c H locs cells slots Q (F0 m pc LS (st.map (am_sh E))) := by
  simp only [am_lc] at h
  split at h
  · cases h
    exact lv_i2l hx hb hdg rfl (kk LS hL)
  · cases h
theorem am_lc_l2i (hx : p.tables.exec = Jvm.exec) (hb : c.code = cc) (hL : am_LV E LS nL ls) {x : am_L3} (hdg : decode cc pc = .ok (.l2i, 1)) (h : am_lc (.l2i) pc ls st = some x) (kk : ∀ LS' : Array Slot, am_LV E LS' nL x.2.1 → W p l e R s m args below meth c H locs cells slots Q (F0 m x.1 LS' (x.2.2.map (am_sh E)))) : W p l e R s m args below meth c H locs cells slots Q (F0 m pc LS (st.map (am_sh E))) := by
  simp only [am_lc] at h
  split at h
  · cases h
    exact lv_l2i hx hb hdg rfl (kk LS hL)
  · cases h
theorem am_lc_i2b (hx : p.tables.exec = Jvm.exec) (hb : c.code = cc) (hL : am_LV E LS nL ls) {x : am_L3} (hdg : decode cc pc = .ok (.i2b, 1)) (h : am_lc (.i2b) pc ls st = some x) (kk : ∀ LS' : Array Slot, am_LV E LS' nL x.2.1 → W p l e R s m args below meth c H locs cells slots Q (F0 m x.1 LS' (x.2.2.map (am_sh E)))) : W p l e R s m args below meth c H locs cells slots Q (F0 m pc LS (st.map (am_sh E))) := by
  simp only [am_lc] at h
  split at h
  · cases h
    exact lv_i2b hx hb hdg rfl (kk LS hL)
  · cases h
theorem am_lc_i2s (hx : p.tables.exec = Jvm.exec) (hb : c.code = cc) (hL : am_LV E LS nL ls) {x : am_L3} (hdg : decode cc pc = .ok (.i2s, 1)) (h : am_lc (.i2s) pc ls st = some x) (kk : ∀ LS' : Array Slot, am_LV E LS' nL x.2.1 → W p l e R s m args below meth c H locs cells slots Q (F0 m x.1 LS' (x.2.2.map (am_sh E)))) : W p l e R s m args below meth c H locs cells slots Q (F0 m pc LS (st.map (am_sh E))) := by
  simp only [am_lc] at h
  split at h
  · cases h
    exact lv_i2s hx hb hdg rfl (kk LS hL)
  · cases h
theorem am_lc_i2c (hx : p.tables.exec = Jvm.exec) (hb : c.code = cc) (hL : am_LV E LS nL ls) {x : am_L3} (hdg : decode cc pc = .ok (.i2c, 1)) (h : am_lc (.i2c) pc ls st = some x) (kk : ∀ LS' : Array Slot, am_LV E LS' nL x.2.1 → W p l e R s m args below meth c H locs cells slots Q (F0 m x.1 LS' (x.2.2.map (am_sh E)))) : W p l e R s m args below meth c H locs cells slots Q (F0 m pc LS (st.map (am_sh E))) := by
  simp only [am_lc] at h
  split at h
  · cases h
    exact lv_i2c hx hb hdg rfl (kk LS hL)
  · cases h
theorem am_lc_lcmp (hx : p.tables.exec = Jvm.exec) (hb : c.code = cc) (hL : am_LV E LS nL ls) {x : am_L3} (hdg : decode cc pc = .ok (.lcmp, 1)) (h : am_lc (.lcmp) pc ls st = some x) (kk : ∀ LS' : Array Slot, am_LV E LS' nL x.2.1 → W p l e R s m args below meth c H locs cells slots Q (F0 m x.1 LS' (x.2.2.map (am_sh E)))) : W p l e R s m args below meth c H locs cells slots Q (F0 m pc LS (st.map (am_sh E))) := by
  simp only [am_lc] at h
  split at h
  · cases h
    exact W.lcmp hx hb hdg (kk LS hL)
  · cases h
theorem am_lc_goto (hx : p.tables.exec = Jvm.exec) (hb : c.code = cc) (hL : am_LV E LS nL ls) {off : Int} {x : am_L3} (hdg : decode cc pc = .ok (.goto off, 3)) (h : am_lc (.goto off) pc ls st = some x) (kk : ∀ LS' : Array Slot, am_LV E LS' nL x.2.1 → W p l e R s m args below meth c H locs cells slots Q (F0 m x.1 LS' (x.2.2.map (am_sh E)))) : W p l e R s m args below meth c H locs cells slots Q (F0 m pc LS (st.map (am_sh E))) := by
  simp only [am_lc, Option.map_eq_some_iff] at h
  obtain ⟨t, ht, rfl⟩ := h
  exact lv_goto hx hb hdg (am_jp_ok ht) (kk LS hL)
theorem am_lc_ifCond_eq (hx : p.tables.exec = Jvm.exec) (hb : c.code = cc) (hL : am_LV E LS nL ls) {off : Int} {x : am_L3} (hdg : decode cc pc = .ok (.ifCond .eq off, 3)) (h : am_lc (.ifCond .eq off) pc ls st = some x) (kk : ∀ LS' : Array Slot, am_LV E LS' nL x.2.1 → W p l e R s m args below meth c H locs cells slots Q (F0 m x.1 LS' (x.2.2.map (am_sh E)))) : W p l e R s m args below meth c H locs cells slots Q (F0 m pc LS (st.map (am_sh E))) := by
  simp only [am_lc] at h
  split at h
  · simp only [Option.map_eq_some_iff] at h
    obtain ⟨t, ht, rfl⟩ := h
    refine lv_if_eq hx hb hdg (am_jp_ok ht) (fun hc => ?_) (fun hc => ?_)
    · exact am_brT (decide_eq_true hc) (kk LS hL)
    · exact am_brF (fun q => hc (of_decide_eq_true q)) (kk LS hL)
  · cases h
theorem am_lc_ifCond_ne (hx : p.tables.exec = Jvm.exec) (hb : c.code = cc) (hL : am_LV E LS nL ls) {off : Int} {x : am_L3} (hdg : decode cc pc = .ok (.ifCond .ne off, 3)) (h : am_lc (.ifCond .ne off) pc ls st = some x) (kk : ∀ LS' : Array Slot, am_LV E LS' nL x.2.1 → W p l e R s m args below meth c H locs cells slots Q (F0 m x.1 LS' (x.2.2.map (am_sh E)))) : W p l e R s m args below meth c H locs cells slots Q (F0 m pc LS (st.map (am_sh E))) := by
  simp only [am_lc] at h
  split at h
  · simp only [Option.map_eq_some_iff] at h
    obtain ⟨t, ht, rfl⟩ := h
    refine lv_if_ne hx hb hdg (am_jp_ok ht) (fun hc => ?_) (fun hc => ?_)
    · exact am_brT (decide_eq_true hc) (kk LS hL)
    · exact am_brF (fun q => (of_decide_eq_true q) hc) (kk LS hL)
  · cases h
theorem am_lc_ifCond_lt (hx : p.tables.exec = Jvm.exec) (hb : c.code = cc) (hL : am_LV E LS nL ls) {off : Int} {x : am_L3} (hdg : decode cc pc = .ok (.ifCond .lt off, 3)) (h : am_lc (.ifCond .lt off) pc ls st = some x) (kk : ∀ LS' : Array Slot, am_LV E LS' nL x.2.1 → W p l e R s m args below meth c H locs cells slots Q (F0 m x.1 LS' (x.2.2.map (am_sh E)))) : W p l e R s m args below meth c H locs cells slots Q (F0 m pc LS (st.map (am_sh E))) := by
  simp only [am_lc] at h
  split at h
  · simp only [Option.map_eq_some_iff] at h
    obtain ⟨t, ht, rfl⟩ := h
    refine lv_if_lt hx hb hdg (am_jp_ok ht) (fun hc => ?_) (fun hc => ?_)
    · exact am_brT (decide_eq_true hc) (kk LS hL)
    · exact am_brF (fun q => hc (of_decide_eq_true q)) (kk LS hL)
  · cases h
theorem am_lc_ifCond_ge (hx : p.tables.exec = Jvm.exec) (hb : c.code = cc) (hL : am_LV E LS nL ls) {off : Int} {x : am_L3} (hdg : decode cc pc = .ok (.ifCond .ge off, 3)) (h : am_lc (.ifCond .ge off) pc ls st = some x) (kk : ∀ LS' : Array Slot, am_LV E LS' nL x.2.1 → W p l e R s m args below meth c H locs cells slots Q (F0 m x.1 LS' (x.2.2.map (am_sh E)))) : W p l e R s m args below meth c H locs cells slots Q (F0 m pc LS (st.map (am_sh E))) := by
  simp only [am_lc] at h
  split at h
  · simp only [Option.map_eq_some_iff] at h
    obtain ⟨t, ht, rfl⟩ := h
    refine lv_if_ge hx hb hdg (am_jp_ok ht) (fun hc => ?_) (fun hc => ?_)
    · exact am_brT (decide_eq_true hc) (kk LS hL)
    · exact am_brF (fun q => hc (of_decide_eq_true q)) (kk LS hL)
  · cases h
theorem am_lc_ifCond_gt (hx : p.tables.exec = Jvm.exec) (hb : c.code = cc) (hL : am_LV E LS nL ls) {off : Int} {x : am_L3} (hdg : decode cc pc = .ok (.ifCond .gt off, 3)) (h : am_lc (.ifCond .gt off) pc ls st = some x) (kk : ∀ LS' : Array Slot, am_LV E LS' nL x.2.1 → W p l e R s m args below meth c H locs cells slots Q (F0 m x.1 LS' (x.2.2.map (am_sh E)))) : W p l e R s m args below meth c H locs cells slots Q (F0 m pc LS (st.map (am_sh E))) := by
  simp only [am_lc] at h
  split at h
  · simp only [Option.map_eq_some_iff] at h
    obtain ⟨t, ht, rfl⟩ := h
    refine lv_if_gt hx hb hdg (am_jp_ok ht) (fun hc => ?_) (fun hc => ?_)
    · exact am_brT (decide_eq_true hc) (kk LS hL)
    · exact am_brF (fun q => hc (of_decide_eq_true q)) (kk LS hL)
  · cases h
theorem am_lc_ifCond_le (hx : p.tables.exec = Jvm.exec) (hb : c.code = cc) (hL : am_LV E LS nL ls) {off : Int} {x : am_L3} (hdg : decode cc pc = .ok (.ifCond .le off, 3)) (h : am_lc (.ifCond .le off) pc ls st = some x) (kk : ∀ LS' : Array Slot, am_LV E LS' nL x.2.1 → W p l e R s m args below meth c H locs cells slots Q (F0 m x.1 LS' (x.2.2.map (am_sh E)))) : W p l e R s m args below meth c H locs cells slots Q (F0 m pc LS (st.map (am_sh E))) := by
  simp only [am_lc] at h
  split at h
  · simp only [Option.map_eq_some_iff] at h
    obtain ⟨t, ht, rfl⟩ := h
    refine lv_if_le hx hb hdg (am_jp_ok ht) (fun hc => ?_) (fun hc => ?_)
    · exact am_brT (decide_eq_true hc) (kk LS hL)
    · exact am_brF (fun q => hc (of_decide_eq_true q)) (kk LS hL)
  · cases h
theorem am_lc_if_icmp_eq (hx : p.tables.exec = Jvm.exec) (hb : c.code = cc) (hL : am_LV E LS nL ls) {off : Int} {x : am_L3} (hdg : decode cc pc = .ok (.if_icmp .eq off, 3)) (h : am_lc (.if_icmp .eq off) pc ls st = some x) (kk : ∀ LS' : Array Slot, am_LV E LS' nL x.2.1 → W p l e R s m args below meth c H locs cells slots Q (F0 m x.1 LS' (x.2.2.map (am_sh E)))) : W p l e R s m args below meth c H locs cells slots Q (F0 m pc LS (st.map (am_sh E))) := by
  simp only [am_lc] at h
  split at h
  · simp only [Option.map_eq_some_iff] at h
    obtain ⟨t, ht, rfl⟩ := h
    refine lv_icmp_eq hx hb hdg (am_jp_ok ht) (fun hc => ?_) (fun hc => ?_)
    · exact am_brT (decide_eq_true hc) (kk LS hL)
    · exact am_brF (fun q => hc (of_decide_eq_true q)) (kk LS hL)
  · cases h
theorem am_lc_if_icmp_ne (hx : p.tables.exec = Jvm.exec) (hb : c.code = cc) (hL : am_LV E LS nL ls) {off : Int} {x : am_L3} (hdg : decode cc pc = .ok (.if_icmp .ne off, 3)) (h : am_lc (.if_icmp .ne off) pc ls st = some x) (kk : ∀ LS' : Array Slot, am_LV E LS' nL x.2.1 → W p l e R s m args below meth c H locs cells slots Q (F0 m x.1 LS' (x.2.2.map (am_sh E)))) : W p l e R s m args below meth c H locs cells slots Q (F0 m pc LS (st.map (am_sh E))) := by
  simp only [am_lc] at h
  split at h
  · simp only [Option.map_eq_some_iff] at h
    obtain ⟨t, ht, rfl⟩ := h
    refine lv_icmp_ne hx hb hdg (am_jp_ok ht) (fun hc => ?_) (fun hc => ?_)
    · exact am_brT (decide_eq_true hc) (kk LS hL)
    · exact am_brF (fun q => (of_decide_eq_true q) hc) (kk LS hL)
  · cases h
theorem am_lc_if_icmp_lt (hx : p.tables.exec = Jvm.exec) (hb : c.code = cc) (hL : am_LV E LS nL ls) {off : Int} {x : am_L3} (hdg : decode cc pc = .ok (.if_icmp .lt off, 3)) (h : am_lc (.if_icmp .lt off) pc ls st = some x) (kk : ∀ LS' : Array Slot, am_LV E LS' nL x.2.1 → W p l e R s m args below meth c H locs cells slots Q (F0 m x.1 LS' (x.2.2.map (am_sh E)))) : W p l e R s m args below meth c H locs cells slots Q (F0 m pc LS (st.map (am_sh E))) := by
  simp only [am_lc] at h
  split at h
  · simp only [Option.map_eq_some_iff] at h
    obtain ⟨t, ht, rfl⟩ := h
    refine lv_icmp_lt hx hb hdg (am_jp_ok ht) (fun hc => ?_) (fun hc => ?_)
    · exact am_brT (decide_eq_true hc) (kk LS hL)
    · exact am_brF (fun q => hc (of_decide_eq_true q)) (kk LS hL)
  · cases h
theorem am_lc_if_icmp_ge (hx : p.tables.exec = Jvm.exec) (hb : c.code = cc) (hL : am_LV E LS nL ls) {off : Int} {x : am_L3} (hdg : decode cc pc = .ok (.if_icmp .ge off, 3)) (h : am_lc (.if_icmp .ge off) pc ls st = some x) (kk : ∀ LS' : Array Slot, am_LV E LS' nL x.2.1 → W p l e R s m args below meth c H locs cells slots Q (F0 m x.1 LS' (x.2.2.map (am_sh E)))) : W p l e R s m args below meth c H locs cells slots Q (F0 m pc LS (st.map (am_sh E))) := by
  simp only [am_lc] at h
  split at h
  · simp only [Option.map_eq_some_iff] at h
    obtain ⟨t, ht, rfl⟩ := h
    refine lv_icmp_ge hx hb hdg (am_jp_ok ht) (fun hc => ?_) (fun hc => ?_)
    · exact am_brT (decide_eq_true hc) (kk LS hL)
    · exact am_brF (fun q => hc (of_decide_eq_true q)) (kk LS hL)
  · cases h
theorem am_lc_if_icmp_gt (hx : p.tables.exec = Jvm.exec) (hb : c.code = cc) (hL : am_LV E LS nL ls) {off : Int} {x : am_L3} (hdg : decode cc pc = .ok (.if_icmp .gt off, 3)) (h : am_lc (.if_icmp .gt off) pc ls st = some x) (kk : ∀ LS' : Array Slot, am_LV E LS' nL x.2.1 → W p l e R s m args below meth c H locs cells slots Q (F0 m x.1 LS' (x.2.2.map (am_sh E)))) : W p l e R s m args below meth c H locs cells slots Q (F0 m pc LS (st.map (am_sh E))) := by
  simp only [am_lc] at h
  split at h
  · simp only [Option.map_eq_some_iff] at h
    obtain ⟨t, ht, rfl⟩ := h
    refine lv_icmp_gt hx hb hdg (am_jp_ok ht) (fun hc => ?_) (fun hc => ?_)
    · exact am_brT (decide_eq_true hc) (kk LS hL)
    · exact am_brF (fun q => hc (of_decide_eq_true q)) (kk LS hL)
  · cases h
theorem am_lc_if_icmp_le (hx : p.tables.exec = Jvm.exec) (hb : c.code = cc) (hL : am_LV E LS nL ls) {off : Int} {x : am_L3} (hdg : decode cc pc = .ok (.if_icmp .le off, 3)) (h : am_lc (.if_icmp .le off) pc ls st = some x) (kk : ∀ LS' : Array Slot, am_LV E LS' nL x.2.1 → W p l e R s m args below meth c H locs cells slots Q (F0 m x.1 LS' (x.2.2.map (am_sh E)))) : W p l e R s m args below meth c H locs cells slots Q (F0 m pc LS (st.map (am_sh E))) := by
  simp only [am_lc] at h
  split at h
  · simp only [Option.map_eq_some_iff] at h
    obtain ⟨t, ht, rfl⟩ := h
    refine lv_icmp_le hx hb hdg (am_jp_ok ht) (fun hc => ?_) (fun hc => ?_)
    · exact am_brT (decide_eq_true hc) (kk LS hL)
    · exact am_brF (fun q => hc (of_decide_eq_true q)) (kk LS hL)
  · cases h
theorem am_lc_ifnull (hx : p.tables.exec = Jvm.exec) (hb : c.code = cc) (hL : am_LV E LS nL ls) {off : Int} {x : am_L3} (hdg : decode cc pc = .ok (.ifnull off, 3)) (h : am_lc (.ifnull off) pc ls st = some x) (kk : ∀ LS' : Array Slot, am_LV E LS' nL x.2.1 → W p l e R s m args below meth c H locs cells slots Q (F0 m x.1 LS' (x.2.2.map (am_sh E)))) : W p l e R s m args below meth c H locs cells slots Q (F0 m pc LS (st.map (am_sh E))) := by
  simp only [am_lc] at h
  split at h
  · cases h
    exact lv_ifnull hx hb hdg (kk LS hL)
  · simp only [Option.map_eq_some_iff] at h
    obtain ⟨t, ht, rfl⟩ := h
    exact lv_ifnullN hx hb hdg (am_jp_ok ht) (kk LS hL)
  · cases h
theorem am_lc_ifnonnull (hx : p.tables.exec = Jvm.exec) (hb : c.code = cc) (hL : am_LV E LS nL ls) {off : Int} {x : am_L3} (hdg : decode cc pc = .ok (.ifnonnull off, 3)) (h : am_lc (.ifnonnull off) pc ls st = some x) (kk : ∀ LS' : Array Slot, am_LV E LS' nL x.2.1 → W p l e R s m args below meth c H locs cells slots Q (F0 m x.1 LS' (x.2.2.map (am_sh E)))) : W p l e R s m args below meth c H locs cells slots Q (F0 m pc LS (st.map (am_sh E))) := by
  simp only [am_lc] at h
  split at h
  · simp only [Option.map_eq_some_iff] at h
    obtain ⟨t, ht, rfl⟩ := h
    exact lv_ifnonnull hx hb hdg (am_jp_ok ht) (kk LS hL)
  · cases h
    exact lv_ifnonnullN hx hb hdg (kk LS hL)
  · cases h
theorem am_lc_tableswitch (hx : p.tables.exec = Jvm.exec) (hb : c.code = cc) (hL : am_LV E LS nL ls) {dflt lo hi : Int} {offs : Array Int} {x : am_L3} (hdg : decode cc pc = .ok (.tableswitch dflt lo hi offs, len)) (h : am_lc (.tableswitch dflt lo hi offs) pc ls st = some x) (kk : ∀ LS' : Array Slot, am_LV E LS' nL x.2.1 → W p l e R s m args below meth c H locs cells slots Q (F0 m x.1 LS' (x.2.2.map (am_sh E)))) : W p l e R s m args below meth c H locs cells slots Q (F0 m pc LS (st.map (am_sh E))) := by
  simp only [am_lc] at h
  split at h
  · split at h
    · rename_i hc
      simp only [Option.map_eq_some_iff] at h
      obtain ⟨t, ht, rfl⟩ := h
      exact lv_tableOut hx hb hdg hc (am_jp_ok ht) (kk LS hL)
    · rename_i hc
      simp only [Option.bind_eq_some_iff, Option.map_eq_some_iff] at h
      obtain ⟨off, ho, t, ht, rfl⟩ := h
      exact lv_tableIn hx hb hdg (fun q => hc (Or.inl q)) (fun q => hc (Or.inr q)) ho (am_jp_ok ht) (kk LS hL)
  · cases h
theorem am_lc_lookupswitch (hx : p.tables.exec = Jvm.exec) (hb : c.code = cc) (hL : am_LV E LS nL ls) {dflt : Int} {ps : Array (Int × Int)} {x : am_L3} (hdg : decode cc pc = .ok (.lookupswitch dflt ps, len)) (h : am_lc (.lookupswitch dflt ps) pc ls st = some x) (kk : ∀ LS' : Array Slot, am_LV E LS' nL x.2.1 → W p l e R s m args below meth c H locs cells slots Q (F0 m x.1 LS' (x.2.2.map (am_sh E)))) : W p l e R s m args below meth c H locs cells slots Q (F0 m pc LS (st.map (am_sh E))) := by
  simp only [am_lc] at h
  split at h
  · split at h
    · rename_i hc
      simp only [Option.map_eq_some_iff] at h
      obtain ⟨t, ht, rfl⟩ := h
      exact lv_lookup hx hb hdg hc rfl (am_jp_ok ht) (kk LS hL)
    · cases h
  · cases h
theorem am_lc_dup (hx : p.tables.exec = Jvm.exec) (hb : c.code = cc) (hL : am_LV E LS nL ls) {x : am_L3} (hdg : decode cc pc = .ok (.dup, 1)) (h : am_lc (.dup) pc ls st = some x) (kk : ∀ LS' : Array Slot, am_LV E LS' nL x.2.1 → W p l e R s m args below meth c H locs cells slots Q (F0 m x.1 LS' (x.2.2.map (am_sh E)))) : W p l e R s m args below meth c H locs cells slots Q (F0 m pc LS (st.map (am_sh E))) := by
  simp only [am_lc] at h
  split at h
  · split at h
    · rename_i v r hc
      cases h
      exact lv_dup hx hb hdg (by rw [am_sh_cat]; exact hc) (kk LS hL)
    · cases h
  · cases h
theorem am_lc_pop (hx : p.tables.exec = Jvm.exec) (hb : c.code = cc) (hL : am_LV E LS nL ls) {x : am_L3} (hdg : decode cc pc = .ok (.pop, 1)) (h : am_lc (.pop) pc ls st = some x) (kk : ∀ LS' : Array Slot, am_LV E LS' nL x.2.1 → W p l e R s m args below meth c H locs cells slots Q (F0 m x.1 LS' (x.2.2.map (am_sh E)))) : W p l e R s m args below meth c H locs cells slots Q (F0 m pc LS (st.map (am_sh E))) := by
  simp only [am_lc] at h
  split at h
  · split at h
    · rename_i v r hc
      cases h
      exact lv_pop hx hb hdg (by rw [am_sh_cat]; exact hc) (kk LS hL)
    · cases h
  · cases h
theorem am_lc_dup2 (hx : p.tables.exec = Jvm.exec) (hb : c.code = cc) (hL : am_LV E LS nL ls) {x : am_L3} (hdg : decode cc pc = .ok (.dup2, 1)) (h : am_lc (.dup2) pc ls st = some x) (kk : ∀ LS' : Array Slot, am_LV E LS' nL x.2.1 → W p l e R s m args below meth c H locs cells slots Q (F0 m x.1 LS' (x.2.2.map (am_sh E)))) : W p l e R s m args below meth c H locs cells slots Q (F0 m pc LS (st.map (am_sh E))) := by
  simp only [am_lc] at h
  split at h
  · split at h
    · rename_i v u r hc
      cases h
      exact lv_dup2_11 hx hb hdg (by rw [am_sh_cat]; exact hc.1) (by rw [am_sh_cat]; exact hc.2) (kk LS hL)
    · cases h
  · cases h
theorem am_lc_snd (hx : p.tables.exec = Jvm.exec) (hb : c.code = cc) (hL : am_LV E LS nL ls) {i : Instr} {x : am_L3} (hl : am_ln i len = true) (hdg : decode cc pc = .ok (i, len)) (h : am_lc i pc ls st = some x) (kk : ∀ LS' : Array Slot, am_LV E LS' nL x.2.1 → W p l e R s m args below meth c H locs cells slots Q (F0 m x.1 LS' (x.2.2.map (am_sh E)))) : W p l e R s m args below meth c H locs cells slots Q (F0 m pc LS (st.map (am_sh E))) := by
  cases i with
  | iconst n => exact am_lc_iconst hx hb hL (by rw [hdg, eq_of_beq hl]) h kk
  | bipush n => exact am_lc_bipush hx hb hL (by rw [hdg, eq_of_beq hl]) h kk
  | sipush n => exact am_lc_sipush hx hb hL (by rw [hdg, eq_of_beq hl]) h kk
  | lconst n => exact am_lc_lconst hx hb hL (by rw [hdg, eq_of_beq hl]) h kk
  | aconst_null => exact am_lc_null hx hb hL (by rw [hdg, eq_of_beq hl]) h kk
  | iload i => exact am_lc_iload hx hb hL (by rw [hdg, eq_of_beq hl]) h kk
  | iload_n i => exact am_lc_iload_n hx hb hL (by rw [hdg, eq_of_beq hl]) h kk
  | lload i => exact am_lc_lload hx hb hL (by rw [hdg, eq_of_beq hl]) h kk
  | lload_n i => exact am_lc_lload_n hx hb hL (by rw [hdg, eq_of_beq hl]) h kk
  | aload i => exact am_lc_aload hx hb hL (by rw [hdg, eq_of_beq hl]) h kk
  | aload_n i => exact am_lc_aload_n hx hb hL (by rw [hdg, eq_of_beq hl]) h kk
  | istore i => exact am_lc_istore hx hb hL (by rw [hdg, eq_of_beq hl]) h kk
  | istore_n i => exact am_lc_istore_n hx hb hL (by rw [hdg, eq_of_beq hl]) h kk
  | lstore i => exact am_lc_lstore hx hb hL (by rw [hdg, eq_of_beq hl]) h kk
  | lstore_n i => exact am_lc_lstore_n hx hb hL (by rw [hdg, eq_of_beq hl]) h kk
  | astore i => exact am_lc_astore hx hb hL (by rw [hdg, eq_of_beq hl]) h kk
  | astore_n i => exact am_lc_astore_n hx hb hL (by rw [hdg, eq_of_beq hl]) h kk
  | iinc i n => exact am_lc_iinc hx hb hL (by rw [hdg, eq_of_beq hl]) h kk
  | iadd => exact am_lc_iadd hx hb hL (by rw [hdg, eq_of_beq hl]) h kk
  | isub => exact am_lc_isub hx hb hL (by rw [hdg, eq_of_beq hl]) h kk
  | imul => exact am_lc_imul hx hb hL (by rw [hdg, eq_of_beq hl]) h kk
  | iand => exact am_lc_iand hx hb hL (by rw [hdg, eq_of_beq hl]) h kk
  | ior => exact am_lc_ior hx hb hL (by rw [hdg, eq_of_beq hl]) h kk
  | ixor => exact am_lc_ixor hx hb hL (by rw [hdg, eq_of_beq hl]) h kk
  | ishl => exact am_lc_ishl hx hb hL (by rw [hdg, eq_of_beq hl]) h kk
  | ishr => exact am_lc_ishr hx hb hL (by rw [hdg, eq_of_beq hl]) h kk
  | land => exact am_lc_land hx hb hL (by rw [hdg, eq_of_beq hl]) h kk
  | lor => exact am_lc_lor hx hb hL (by rw [hdg, eq_of_beq hl]) h kk
  | lxor => exact am_lc_lxor hx hb hL (by rw [hdg, eq_of_beq hl]) h kk
  | lmul => exact am_lc_lmul hx hb hL (by rw [hdg, eq_of_beq hl]) h kk
  | idiv => exact am_lc_idiv hx hb hL (by rw [hdg, eq_of_beq hl]) h kk
  | irem => exact am_lc_irem hx hb hL (by rw [hdg, eq_of_beq hl]) h kk
  | ldiv => exact am_lc_ldiv hx hb hL (by rw [hdg, eq_of_beq hl]) h kk
  | lshl => exact am_lc_lshl hx hb hL (by rw [hdg, eq_of_beq hl]) h kk
  | lshr => exact am_lc_lshr hx hb hL (by rw [hdg, eq_of_beq hl]) h kk
  | i2l => exact am_lc_i2l hx hb hL (by rw [hdg, eq_of_beq hl]) h kk
  | l2i => exact am_lc_l2i hx hb hL (by rw [hdg, eq_of_beq hl]) h kk
  | i2b => exact am_lc_i2b hx hb hL (by rw [hdg, eq_of_beq hl]) h kk
  | i2s => exact am_lc_i2s hx hb hL (by rw [hdg, eq_of_beq hl]) h kk
  | i2c => exact am_lc_i2c hx hb hL (by rw [hdg, eq_of_beq hl]) h kk
  | lcmp => exact am_lc_lcmp hx hb hL (by rw [hdg, eq_of_beq hl]) h kk
  | dup => exact am_lc_dup hx hb hL (by rw [hdg, eq_of_beq hl]) h kk
  | pop => exact am_lc_pop hx hb hL (by rw [hdg, eq_of_beq hl]) h kk
  | dup2 => exact am_lc_dup2 hx hb hL (by rw [hdg, eq_of_beq hl]) h kk
  | goto off => exact am_lc_goto hx hb hL (by rw [hdg, eq_of_beq hl]) h kk
  | ifnull off => exact am_lc_ifnull hx hb hL (by rw [hdg, eq_of_beq hl]) h kk
  | ifnonnull off => exact am_lc_ifnonnull hx hb hL (by rw [hdg, eq_of_beq hl]) h kk
  | ifCond cnd off => cases cnd with
    | eq => exact am_lc_ifCond_eq hx hb hL (by rw [hdg, eq_of_beq hl]) h kk
    | ne => exact am_lc_ifCond_ne hx hb hL (by rw [hdg, eq_of_beq hl]) h kk
    | lt => exact am_lc_ifCond_lt hx hb hL (by rw [hdg, eq_of_beq hl]) h kk
    | ge => exact am_lc_ifCond_ge hx hb hL (by rw [hdg, eq_of_beq hl]) h kk
    | gt => exact am_lc_ifCond_gt hx hb hL (by rw [hdg, eq_of_beq hl]) h kk
    | le => exact am_lc_ifCond_le hx hb hL (by rw [hdg, eq_of_beq hl]) h kk
  | if_icmp cnd off => cases cnd with
    | eq => exact am_lc_if_icmp_eq hx hb hL (by rw [hdg, eq_of_beq hl]) h kk
    | ne => exact am_lc_if_icmp_ne hx hb hL (by rw [hdg, eq_of_beq hl]) h kk
    | lt => exact am_lc_if_icmp_lt hx hb hL (by rw [hdg, eq_of_beq hl]) h kk
    | ge => exact am_lc_if_icmp_ge hx hb hL (by rw [hdg, eq_of_beq hl]) h kk
    | gt => exact am_lc_if_icmp_gt hx hb hL (by rw [hdg, eq_of_beq hl]) h kk
    | le => exact am_lc_if_icmp_le hx hb hL (by rw [hdg, eq_of_beq hl]) h kk
  | tableswitch dflt lo hi offs => exact am_lc_tableswitch hx hb hL hdg h kk
  | lookupswitch dflt ps => exact am_lc_lookupswitch hx hb hL hdg h kk
  | _ => cases h
end AMLC
