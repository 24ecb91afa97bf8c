/-! THE LEAN MACHINE IS SOUND -/
theorem am_ln1 {M : am_ME} {i : Instr} {st : List Value} {τ : am_T} {r : Option Value} {len : Nat} (h : am_rc M i st τ = some (.inl r)) (hl : am_ln i len = true) : len = 1 := by
  cases i with
  | ireturn => exact eq_of_beq hl
  | lreturn => exact eq_of_beq hl
  | areturn => exact eq_of_beq hl
  | return_ => exact eq_of_beq hl
  | invokevirtual x => simp only [am_rc] at h; (repeat' split at h) <;> cases h
  | invokestatic x => simp only [am_rc] at h; (repeat' split at h) <;> cases h
  | invokespecial x => simp only [am_rc] at h; (repeat' split at h) <;> cases h
  | _ => cases h
theorem am_ln3 {M : am_ME} {i : Instr} {st : List Value} {τ : am_T} {r : Nat × List Value × List Value} {len : Nat} (h : am_rc M i st τ = some (.inr r)) (hl : am_ln i len = true) : len = 3 := by
  cases i with
  | invokevirtual x => exact eq_of_beq hl
  | invokestatic x => exact eq_of_beq hl
  | invokespecial x => exact eq_of_beq hl
  | ireturn => simp only [am_rc] at h; (repeat' split at h) <;> cases h
  | lreturn => simp only [am_rc] at h; (repeat' split at h) <;> cases h
  | areturn => simp only [am_rc] at h; (repeat' split at h) <;> cases h
  | return_ => simp only [am_rc] at h; (repeat' split at h) <;> cases h
  | _ => cases h
/-- the answers -/
theorem am_retW {p : Program} {l : Launch} {e : Env} {R : Room} {s : State} {m : MethodId} {args : Array Value} {below : List Frame} {meth : Method} {c : Code} {H : Heap} {locs : List Loc} {cells slots : Nat} {pc : Nat} {E : am_E} {LS : Array Slot} {st : List Value} {M : am_ME} {τ : am_T} {i : Instr} {r : Option Value} {Qc : Array Value → State → Outcome → State → Prop}
    (hx : p.tables.exec = Jvm.exec) (hb : c.code = M.2.1) (hr : meth.sig.returnType = M.2.2.2.1) (hlocks : meth.locks = false) (hq : ∀ t : State, t.heap = H → s.WarmedH t.vm → Qc args s (.returned (r.map (am_sh E))) t) (hf : ∀ q ∈ locs, am_A E q.base)
    (hdg : decode M.2.1 pc = .ok (i, 1)) (h : am_rc M i st τ = some (.inl r)) : W p l e R s m args below meth c H locs cells slots (MQ below Qc args s cells slots (am_A E)) (F0 m pc LS (st.map (am_sh E))) := by
  cases i with
  | ireturn =>
    simp only [am_rc] at h
    split at h
    rotate_left
    · cases h
    rename_i v
    split at h
    rotate_left
    · cases h
    rename_i hz
    cases h
    cases ht : M.2.2.2.1 with
    | none => rw [ht] at hz; cases hz
    | some t =>
      rw [ht] at hr hz
      have hn : narrow t (.int v) = .int v := by
        cases t <;> first | (cases hz; done) | rfl | (rcases am_b01_ok hz with rfl | rfl <;> rfl) | (have := of_decide_eq_true hz; subst this; rfl) | exact of_decide_eq_true hz
      exact W.zret hx hb hr hn hq hf hdg hlocks
  | lreturn =>
    simp only [am_rc] at h
    split at h
    rotate_left
    · cases h
    rename_i v
    split at h
    rotate_left
    · cases h
    rename_i hz
    cases h
    rw [hz] at hr
    exact W.lret hx hb hr hq hf hdg hlocks
  | areturn =>
    simp only [am_rc] at h
    split at h
    rotate_left
    · cases h
    rename_i a
    split at h
    rotate_left
    · cases h
    rename_i hz
    cases h
    cases ht : M.2.2.2.1 with
    | none => rw [ht] at hz; cases hz
    | some t =>
      rw [ht] at hr hz
      have hrt : (∃ n, t = .object n) ∨ ∃ u, t = .array u := by
        cases t <;> first | (cases hz; done) | exact Or.inl ⟨_, rfl⟩ | exact Or.inr ⟨_, rfl⟩
      exact W.aret hx hb hr hrt (Or.inr ⟨_, rfl⟩) hq hf hdg hlocks
  | return_ =>
    simp only [am_rc] at h
    split at h
    rotate_left
    · cases h
    split at h
    rotate_left
    · cases h
    rename_i hz
    cases h
    rw [hz] at hr
    exact W.vret hx hb hr hq hf hdg hlocks
  | invokevirtual x => simp only [am_rc] at h; (repeat' split at h) <;> cases h
  | invokestatic x => simp only [am_rc] at h; (repeat' split at h) <;> cases h
  | invokespecial x => simp only [am_rc] at h; (repeat' split at h) <;> cases h
  | _ => cases h
theorem am_TBw {w : Cond} (h : w ∈ am_TB) : w ∈ am_TB ∧ ((w.onTables && w.keeps) = true ∨ ∃ ty, w = .arrayClass ty) := ⟨h, good_of_word (am_TB_good w h)⟩
theorem am_gd {e : am_ME} (h : Cond.code e.1 e.2.1 e.2.2.1 e.2.2.2.1 ∈ am_TB) : GoodIn am_TB (Cond.code e.1 e.2.1 e.2.2.1 e.2.2.2.1 :: am_TB) := fun w hw => by
  rcases List.mem_cons.mp hw with rfl | hw
  · exact am_TBw h
  · exact am_TBw hw
theorem am_cmU {e : am_ME} {q : Nat} (h : am_cm e q = true) : Cond.initialized e.1.cls ∈ am_TB ∧ plainName e.1.cls = true ∧ (e.1.cls ≠ "java/lang/invoke/MethodHandle" ∧ e.1.cls ≠ "java/lang/invoke/VarHandle") ∧ am_cn[e.2.2.2.2]? = some e.1.cls ∧ e.2.2.1 ≤ 20 := by
  unfold am_cm am_ng at h
  simp only [Bool.and_eq_true, decide_eq_true_eq] at h
  obtain ⟨⟨⟨⟨h1, h2⟩, h3, h4⟩, h5⟩, h6⟩ := h
  exact ⟨am_at_mem h1, h2, ⟨h3, h4⟩, h5, h6⟩
def am_rm2 (d mc ms : Nat) : Room := { frames := d + 1, cells := mc, slots := ms, locals := 64 * (d + 1) }
/-- what stands at a place of a method's body -/
def am_Snd (l : Launch) (E : am_E) (n d k pc : Nat) (ls st : List Value) (σ : am_I) (ρ : am_R) (g : am_J) (τ : am_T) : Prop := ∀ (x : am_O), am_run n d k pc ls st σ ρ g τ = some x → ∀ (M : am_ME), am_M[k]? = some M →
  ∀ (p : Program) (e : Env) (R : Room) (s : State) (m : MethodId) (args : Array Value) (below : List Frame) (meth : Method) (c : Code) (H : Heap) (locs : List Loc) (cells slots : Nat) (Q : State → Prop) (LS : Array Slot),
  am_CX E p s m args meth c M → am_RP E σ ρ g τ H → va_S (am_A E) s.heap H locs → am_LV E LS c.maxLocals ls → d + 1 ≤ R.frames → 64 * (d + 1) ≤ R.locals →
  cells + x.2.2.2.2.2.2.1 ≤ R.cells + τ.2.2.1 → slots + x.2.2.2.2.2.2.2 ≤ R.slots + τ.2.2.2 → x.2.2.2.2.2.2.1 ≤ am_BG →
  (∀ (H' : Heap) (locs' : List Loc) (cells' slots' pc' : Nat) (LS' : Array Slot) (i : Instr) (st' : List Value), decode M.2.1 pc' = .ok (i, 1) → am_rc M i st' x.2.2.2.2 = some (.inl x.1) → am_RP E x.2.1 x.2.2.1 x.2.2.2.1 x.2.2.2.2 H' → va_S (am_A E) s.heap H' locs' → cells' + τ.2.2.1 = cells + x.2.2.2.2.2.2.1 → slots' + τ.2.2.2 = slots + x.2.2.2.2.2.2.2 →
    W p l e R s m args below meth c H' locs' cells' slots' Q (F0 m pc' LS' (st'.map (am_sh E)))) →
  W p l e R s m args below meth c H locs cells slots Q (F0 m pc LS (st.map (am_sh E)))
/-- a method's contract -/
theorem am_met {l : Launch} {E : am_E} {n d j : Nat} {vs : List Value} {σ : am_I} {ρ : am_R} {g : am_J} {τ : am_T} {x : am_O} {M : am_ME} (ih : am_Snd l E n d j 0 (am_en j vs) [] σ ρ g τ) (hrun : am_run n d j 0 (am_en j vs) [] σ ρ g τ = some x) (hm : am_M[j]? = some M) (hj : j < 279) (hr : vs.all am_real = true) (hl : (am_ar vs).length ≤ M.2.2.1) (hBG : x.2.2.2.2.2.2.1 ≤ am_BG) :
    Met l M.1 (Cond.code M.1 M.2.1 M.2.2.1 M.2.2.2.1 :: am_TB) (am_rm2 d (x.2.2.2.2.2.2.1 - τ.2.2.1) (x.2.2.2.2.2.2.2 - τ.2.2.2)) (am_Pc E vs σ ρ g τ) (am_Qc E x) (x.2.2.2.2.2.2.1 - τ.2.2.1) (x.2.2.2.2.2.2.2 - τ.2.2.2) (am_A E) := by
  obtain ⟨hcode, q, hcm⟩ := am_cmA hj hm
  obtain ⟨hini, hpl, hng, hcn, hml20⟩ := am_cmU hcm
  have hup := am_run_up _ _ _ _ _ _ _ _ _ _ _ hrun
  refine Met.ofW (cc := M.2.1) (maxL := M.2.2.1) (ret := M.2.2.2.1) hpl rfl ?_
  intro p e s m args below meth c s₁ B hml hv
  obtain ⟨rfl, hRP, hWD⟩ := hv
  have hts := atoms_spec (ws := Cond.code M.1 M.2.1 M.2.2.1 M.2.2.2.1 :: am_TB) B.pre
  have hown : s.vm.findClass M.1.cls = some m.cls := findClass_of_methodNamed B.named
  have hen : am_en j vs = am_ar vs ++ List.replicate (M.2.2.1 - (am_ar vs).length) am_jk := by
    unfold am_en
    rw [hm]
  rw [lg_entry_eq]
  have hLV := am_LV_entry (E := E) hr hl
  rw [← hen, ← hml] at hLV
  rw [← hml]
  refine ih x hrun M hm p e _ s m _ below meth c s.heap [] 0 0 _ _ ⟨B.exec, B.bytes, hml, hown, hcn, fun hz => (name_of_methodNamed B.named B.method).1.trans hz, fun w hw => hts w (List.mem_cons_of_mem _ hw), hWD⟩ hRP va_S.rf hLV (Nat.le_refl _) (Nat.le_refl _) ?_ ?_ hBG ?_
  · show 0 + _ ≤ (_ - _) + _
    omega
  · show 0 + _ ≤ (_ - _) + _
    omega
  · intro H' locs' cells' slots' pc' LS' i st' hd hrc hRP' hS' hc hs
    have e1 : cells' = x.2.2.2.2.2.2.1 - τ.2.2.1 := by omega
    have e2 : slots' = x.2.2.2.2.2.2.2 - τ.2.2.2 := by omega
    subst e1
    subst e2
    exact am_retW B.exec B.bytes B.returns B.notSynchronized (fun t ht hW => ⟨rfl, by rw [ht]; exact hRP', by rw [ht]; exact hS'.1, fun q h1 h2 => by rw [ht]; exact hS'.2.1 q h1 h2⟩) hS'.2.2 hd hrc
/-- behind a call -/
theorem am_back {p : Program} {l : Launch} {e : Env} {R : Room} {s : State} {m : MethodId} {args : Array Value} {below : List Frame} {meth : Method} {c : Code} {H : Heap} {locs : List Loc} {cells slots mc ms : Nat} {Q : State → Prop} {pc : Nat} {E : am_E} {LS : Array Slot} {st0 rest : List Value} {x : am_O} {a : Array Value}
    (hr : va_Run p l e R s m args below meth c H locs cells slots mc ms (F0 m pc LS st0) rest (am_Qc E x a) (am_A E)) (hS : va_S (am_A E) s.heap H locs)
    (kk : ∀ (H1 : Heap) (locs1 : List Loc), am_RP E x.2.1 x.2.2.1 x.2.2.2.1 x.2.2.2.2 H1 → va_S (am_A E) s.heap H1 locs1 → W p l e R s m args below meth c H1 locs1 (cells + mc) (slots + ms) Q (F0 m (pc + 3) LS ((x.1.map (am_sh E)).toList ++ rest))) : W p l e R s m args below meth c H locs cells slots Q (F0 m pc LS st0) := by
  intro T hT X
  obtain ⟨v, st₀, t, T', L, h0, X', hL, e1, e2, ⟨hv, hRP, hz, hk⟩, st⟩ := hr T hT X
  cases hv
  rw [h0] at hz hk
  obtain ⟨t2, a1, b1⟩ := kk T'.heap (locs ++ L) (by rw [e1]; exact hRP) ⟨Nat.le_trans hS.1 (by rw [e1]; exact hz), fun q h1 h2 => by rw [e1, hk q (Nat.lt_of_lt_of_le h1 hS.1) h2]; exact hS.2.1 q h1 h2, fun q hq => by
      rcases List.mem_append.mp hq with h | h
      · exact hS.2.2 q h
      · exact hL q h⟩ T' rfl X'
  exact ⟨t2, st t2 a1, b1⟩
theorem am_8 {E : am_E} {r : List Value} {m : MethodId} {pc : Nat} {LS : Array Slot} {st : List Value} (h : r.length ≤ 4) : 2 * (F0 m pc LS st).monitorRoom + ((r.map (am_sh E)).map fun v => v.category).sum ≤ 8 := by
  have h2 : ∀ l : List Value, (l.map fun v => v.category).sum ≤ 2 * l.length := by
    intro l
    induction l with
    | nil => simp
    | cons v l ih =>
      have : v.category ≤ 2 := by cases v <;> simp [Value.category]
      simp only [List.map_cons, List.sum_cons, List.length_cons]
      omega
  have h3 := h2 (r.map (am_sh E))
  rw [List.length_map] at h3
  show 2 * 0 + _ ≤ 8
  omega
theorem am_8' {E : am_E} {r : List Value} {m : MethodId} {pc : Nat} {LS : Array Slot} {st : List Value} (h : r.length ≤ 4 ∨ am_c8 r = true) : 2 * (F0 m pc LS st).monitorRoom + ((r.map (am_sh E)).map fun v => v.category).sum ≤ 8 := by
  rcases h with h | h
  · exact am_8 h
  · unfold am_c8 at h
    rw [Bool.and_eq_true, decide_eq_true_eq] at h
    have key : ∀ l : List Value, l.all am_c1 = true → ((l.map (am_sh E)).map fun v => v.category).sum ≤ l.length := by
      intro l
      induction l with
      | nil => simp
      | cons v l ih =>
        intro hv
        rw [List.all_cons, Bool.and_eq_true] at hv
        have h1 : (am_sh E v).category ≤ 1 := by
          have hv1 := hv.1
          rw [am_sh_cat]
          cases v <;> first | exact Nat.le_refl 1 | exact absurd hv1 Bool.false_ne_true
        have h2 := ih hv.2
        simp only [List.map_cons, List.sum_cons, List.length_cons]
        omega
    have h3 := key r h.2
    show 2 * 0 + _ ≤ 8
    omega
theorem am_tv_ok {n b : Nat} {st as r : List Value} (h : am_tv n st = some (b, as, r)) : st = as.reverse ++ .ref b :: r ∧ as.length = n := by
  unfold am_tv at h
  split at h
  · rename_i b' r' hd
    cases h
    have hl : n < st.length := by
      by_cases hl : n < st.length
      · exact hl
      · rw [List.drop_eq_nil_of_le (by omega)] at hd
        cases hd
    refine ⟨?_, by simp; omega⟩
    rw [List.reverse_reverse, ← hd, List.take_append_drop]
  · cases h
/-- a receiver -/
theorem am_rcv {E : am_E} {σ : am_I} {ρ : am_R} {g : am_J} {τ : am_T} {H : Heap} {s : State} {locs : List Loc} (hRP : am_RP E σ ρ g τ H) (hW : am_WD E s) (hS : va_S (am_A E) s.heap H locs) {b o : Nat} {C : String} (hk : τ.1 b = o) (ho : o ≤ 13) (hC : am_cn[o]? = some C) : ∃ cellB : Cell, H[am_ad E b]? = some cellB ∧ cellB.vm.isStatics = false ∧ s.vm.findClass C = some cellB.cls := by
  by_cases h13 : o = 13
  · have hba : am_BG ≤ b := by
      by_cases hb2 : b < am_BG
      · have ha : b < τ.2.2.1 := hRP.in hW hk (by omega) (Or.inr hb2)
        rcases hRP.2.2.1 b ha with ⟨z, -⟩ | ⟨z, -⟩ <;> omega
      · exact Nat.not_lt.mp hb2
    obtain ⟨e1, -, -⟩ := hRP.2.2.2.2 b hba
    have hE := ((hW.2.2.2.2.1 b hba (by rw [← e1, hk]; exact h13)).1).kept hS.2.1
    obtain ⟨cell, h1, h2, h3, -⟩ := hE
    rw [am_ad_out hba]
    subst h13
    cases hC
    exact ⟨cell, h1, h2, h3⟩
  · have hlt : o < 13 := by omega
    have hq9 : ∃ q, vwCl[o]? = some q := ⟨_, List.getElem?_eq_getElem (by show o < 13; exact hlt)⟩
    obtain ⟨q, hq⟩ := hq9
    have hb : b < τ.2.2.1 := hRP.in hW hk (by omega) (Or.inl ⟨by omega, by omega, by omega⟩)
    obtain ⟨cell, q1, q2, q3, -⟩ := hRP.ob hb (r := q) (by rw [hk]; exact hq)
    have e := am_cn_ok hq
    rw [hC] at e
    cases e
    obtain ⟨-, hfc, -⟩ := hW.1 o _ hq
    refine ⟨cell, q1, by rw [q3]; rfl, ?_⟩
    rw [q2, hk]
    exact hfc
set_option maxHeartbeats 4000000 in
theorem am_sound (l : Launch) (E : am_E) : ∀ (n d k pc : Nat) (ls st : List Value) (σ : am_I) (ρ : am_R) (g : am_J) (τ : am_T), am_Snd l E n d k pc ls st σ ρ g τ := by
  intro n
  induction n with
  | zero =>
    intro d k pc ls st σ ρ g τ x h
    simp [am_run] at h
  | succ n ih =>
    intro d k pc ls st σ ρ g τ x h M hm p e R s m args below meth c H locs cells slots Q LS C hRP hS hLV hfr hlo hR1 hR2 hBG hret
    rw [am_run_s] at h
    simp only [hm] at h
    cases hd : decode M.2.1 pc with
    | error _ => simp [hd] at h
    | ok il =>
      simp only [hd] at h
      by_cases hl : am_ln il.1 il.2 = true
      rotate_left
      · rw [if_neg hl] at h
        cases h
      rw [if_pos hl] at h
      obtain ⟨i, len⟩ := il
      cases hr : am_rc M i st τ with
      | some y =>
        cases y with
        | inl r =>
          simp only [hr] at h
          cases h
          have e1 := am_ln1 hr hl
          subst e1
          exact hret H locs cells slots pc LS i st hd hr hRP hS rfl rfl
        | inr cl =>
          simp only [hr] at h
          by_cases hk : am_okc cl.1 cl.2.1 = true
          rotate_left
          · rw [if_neg hk] at h
            cases h
          rw [if_pos hk] at h
          cases d with
          | zero => simp at h
          | succ d' =>
            simp only at h
            obtain ⟨j, vs, r⟩ := cl
            cases hc : am_run n d' j 0 (am_en j vs) [] σ ρ g τ with
            | none => simp [hc] at h
            | some y =>
              simp only [hc] at h
              have hup1 := am_run_up _ _ _ _ _ _ _ _ _ _ _ hc
              have hup2 := am_run_up _ _ _ _ _ _ _ _ _ _ _ h
              have e3 := am_ln3 hr hl
              subst e3
              obtain ⟨hx, hb, hml, hown, hcn, hin, hts, hW⟩ := id C
              cases hme : am_M[j]? with
              | none => simp [am_okc, hme] at hk
              | some e9 =>
                simp only [am_okc, hme, Bool.and_eq_true, decide_eq_true_eq] at hk
                obtain ⟨⟨hk1, hk2⟩, hk3⟩ := hk
                obtain ⟨hcode, q9, hcm⟩ := am_cmA hk2 hme
                obtain ⟨hini, hpl, hng, hcn9, hml20⟩ := am_cmU hcm
                have hmet := am_met (ih d' j 0 (am_en j vs) [] σ ρ g τ) hc hme hk2 hk3 hk1 (Nat.le_trans hup2.1 hBG)
                have hgd := am_gd hcode
                have hroom : (am_rm2 d' (y.2.2.2.2.2.2.1 - τ.2.2.1) (y.2.2.2.2.2.2.2 - τ.2.2.2)).frames + 1 ≤ R.frames ∧ 8 + (e9.2.2.1 + 11) + (am_rm2 d' (y.2.2.2.2.2.2.1 - τ.2.2.1) (y.2.2.2.2.2.2.2 - τ.2.2.2)).locals ≤ R.locals := by
                  refine ⟨hfr, ?_⟩
                  show 8 + (e9.2.2.1 + 11) + 64 * (d' + 1) ≤ R.locals
                  omega
                have hf : cells + (y.2.2.2.2.2.2.1 - τ.2.2.1) ≤ R.cells ∧ slots + (y.2.2.2.2.2.2.2 - τ.2.2.2) ≤ R.slots := by omega
                have hLS : LS.size = c.maxLocals := hLV.1
                have hnext : ∀ (H1 : Heap) (locs1 : List Loc), am_RP E y.2.1 y.2.2.1 y.2.2.2.1 y.2.2.2.2 H1 → va_S (am_A E) s.heap H1 locs1 → W p l e R s m args below meth c H1 locs1 (cells + (y.2.2.2.2.2.2.1 - τ.2.2.1)) (slots + (y.2.2.2.2.2.2.2 - τ.2.2.2)) Q (F0 m (pc + 3) LS ((y.1.map (am_sh E)).toList ++ r.map (am_sh E))) := by
                  intro H1 locs1 hRP1 hS1
                  have hst : (y.1.map (am_sh E)).toList ++ r.map (am_sh E) = (y.1.toList ++ r).map (am_sh E) := by
                    cases y.1 <;> rfl
                  rw [hst]
                  refine ih _ _ _ _ _ _ _ _ _ x h M hm p e R s m args below meth c H1 locs1 _ _ Q LS C hRP1 hS1 hLV hfr hlo (by omega) (by omega) hBG ?_
                  intro H' locs' cells' slots' pc' LS' i' st' a1 a2 a3 a4 a5 a6
                  exact hret H' locs' cells' slots' pc' LS' i' st' a1 a2 a3 a4 (by omega) (by omega)
                have hPc : ∀ U : State, U.heap = H → s.WarmedH U.vm → am_Pc E vs σ ρ g τ (vs.map (am_sh E)).toArray U := fun U hU hW1 => ⟨rfl, by rw [hU]; exact hRP, hW.pass hS.2.1 hU hW1⟩
                cases i with
                | invokevirtual ix =>
                  simp only [am_rc] at hr
                  split at hr
                  rotate_left
                  · cases hr
                  rename_i j2 n2 hK
                  split at hr
                  rotate_left
                  · cases hr
                  rename_i b as r2 e2 htv hme2
                  split at hr
                  rotate_left
                  · cases hr
                  rename_i hcond
                  obtain ⟨hcd1, hcd2, hcd3⟩ := hcond
                  cases hr
                  cases hme.symm.trans hme2
                  obtain ⟨ps, hck⟩ := am_K_ck hK (Nat.succ_ne_zero _)
                  simp only [am_ck, hme, Bool.and_eq_true, decide_eq_true_eq, am_cnD hcn] at hck
                  obtain ⟨⟨⟨⟨c1, c2⟩, c3⟩, c4⟩, c5⟩ := hck
                  obtain ⟨hst, hln⟩ := am_tv_ok htv
                  refine am_back (va_runV (C := e9.1.cls) (b := am_ad E b) (As := as.map (am_sh E)) (rest := r.map (am_sh E)) (n := n2) ⟨hx, hb, rfl, hown, hts⟩ hmet ⟨callB_of n2 hts hgd rfl rfl rfl (hts _ hini) (hts _ (am_at_mem c1)) ⟨hng.1, hng.2, c5⟩ hroom, hts _ (am_at_mem c2), hts _ (am_at_mem c3)⟩ ⟨am_Pc_blind, am_rcv hRP hW hS hcd1 hcd2 hcn9, hPc⟩ rfl (by rw [List.length_map]; exact hln) hLS (by rw [hst]; simp [am_sh]) (am_8' hcd3) hd hf) hS hnext
                | invokestatic ix =>
                  simp only [am_rc] at hr
                  split at hr
                  · rename_i j2 n2 hK
                    split at hr
                    rotate_left
                    · cases hr
                    rename_i hcond
                    cases hr
                    obtain ⟨ps, hck⟩ := am_K_ck hK (Nat.succ_ne_zero _)
                    simp only [am_ck, hme, Bool.and_eq_true, decide_eq_true_eq, am_cnD hcn] at hck
                    obtain ⟨⟨⟨c1, c2⟩, c3⟩, c5⟩ := hck
                    refine am_back (va_runS (As := ((st.take n2).reverse).map (am_sh E)) (rest := (st.drop n2).map (am_sh E)) (n := n2) ⟨hx, hb, rfl, hown, hts⟩ hmet ⟨callB_of n2 hts hgd rfl rfl rfl (hts _ hini) (hts _ (am_at_mem c1)) ⟨hng.1, hng.2, c5⟩ hroom, hts _ (am_at_mem c2)⟩ ⟨am_Pc_blind, hPc⟩ rfl (by simp; omega) hLS (by show st.map (am_sh E) = _; rw [← List.map_reverse, List.reverse_reverse, ← List.map_append, List.take_append_drop]) (am_8 hcond.2) hd hf) hS hnext
                  · rename_i j2 n2 hK
                    split at hr
                    rotate_left
                    · cases hr
                    rename_i hcond
                    cases hr
                    obtain ⟨ps, hck⟩ := am_K_ck hK (Nat.succ_ne_zero _)
                    simp only [am_ck, hme, Bool.and_eq_true, decide_eq_true_eq, am_cnD hcn] at hck
                    obtain ⟨⟨⟨c1, c2⟩, c3⟩, c5⟩ := hck
                    refine am_back (va_runSN (host := e9.1.cls) (As := ((st.take n2).reverse).map (am_sh E)) (rest := (st.drop n2).map (am_sh E)) (n := n2) ⟨hx, hb, rfl, hown, hts⟩ hmet ⟨va_cnB n2 hts hgd rfl rfl rfl (hW.2.2.2.2.2.2.2.2.1 _ _ _ _ (am_an_mem c1)) (hts _ hini) ⟨hng.1, hng.2, c5⟩ hroom, hts _ (am_at_mem c2), trivial⟩ ⟨am_Pc_blind, hPc⟩ rfl (by simp; omega) hLS (by show st.map (am_sh E) = _; rw [← List.map_reverse, List.reverse_reverse, ← List.map_append, List.take_append_drop]) (am_8 hcond.2) hd hf) hS hnext
                  · cases hr
                | invokespecial ix =>
                  simp only [am_rc] at hr
                  split at hr
                  rotate_left
                  · cases hr
                  rename_i j2 n2 hK
                  split at hr
                  rotate_left
                  · cases hr
                  rename_i b as r2 htv
                  split at hr
                  rotate_left
                  · cases hr
                  rename_i hcd3
                  cases hr
                  obtain ⟨ps, hck⟩ := am_K_ck hK (Nat.succ_ne_zero _)
                  simp only [am_ck, hme, Bool.and_eq_true, decide_eq_true_eq, am_cnD hcn] at hck
                  obtain ⟨⟨⟨⟨⟨c1, c2⟩, c3⟩, c5⟩, c6⟩, c7⟩ := hck
                  obtain ⟨hst, hln⟩ := am_tv_ok htv
                  have hmet2 := hmet
                  have hgd2 := hgd
                  rw [c7] at hmet2 hgd2
                  refine am_back (va_runI (b := am_ad E b) (As := as.map (am_sh E)) (rest := r.map (am_sh E)) (n := n2) ⟨hx, hb, rfl, hown, hts⟩ hmet2 (cwI n2 hts hgd2 rfl rfl rfl (hts _ hini) (hts _ (am_at_mem c1)) (hts _ (am_at_mem c2)) c6 ⟨hng.1, hng.2, c5⟩ hroom) ⟨am_Pc_blind, hPc⟩ rfl (by rw [List.length_map]; exact hln) hLS (by rw [hst]; simp [am_sh]) (am_8 hcd3) hd hf) hS hnext
                | ireturn => simp only [am_rc] at hr; (repeat' split at hr) <;> cases hr
                | lreturn => simp only [am_rc] at hr; (repeat' split at hr) <;> cases hr
                | areturn => simp only [am_rc] at hr; (repeat' split at hr) <;> cases hr
                | return_ => simp only [am_rc] at hr; (repeat' split at hr) <;> cases hr
                | _ => cases hr
      | none =>
        simp only [hr] at h
        cases hn : am_nx M i pc len ls st σ ρ g τ with
        | none => simp [hn] at h
        | some z =>
          simp only [hn] at h
          have hup2 := am_run_up _ _ _ _ _ _ _ _ _ _ _ h
          unfold am_nx at hn
          split at hn
          · rename_i x9 hx9
            cases hn
            refine am_lc_snd C.1 C.2.1 hLV hl hd hx9 (fun LS' hLV' => ?_)
            exact ih _ _ _ _ _ _ _ _ _ x h M hm p e R s m args below meth c H locs cells slots Q LS' C hRP hS hLV' hfr hlo hR1 hR2 hBG hret
          · split at hn
            · rename_i y9 hy9
              cases hn
              refine am_hp_snd hLV.1 C hRP hS (by omega) (by omega) (Nat.le_trans (Nat.add_le_add_left hup2.1 _) hR1) (Nat.le_trans (Nat.add_le_add_left hup2.2 _) hR2) (Nat.le_trans hup2.1 hBG) hl hd hy9 (fun H' locs' cells' slots' b1 b2 b3 b4 => ?_)
              refine ih _ _ _ _ _ _ _ _ _ x h M hm p e R s m args below meth c H' locs' cells' slots' Q LS C b1 b2 hLV hfr hlo (by simp only at b3 ⊢; omega) (by simp only at b4 ⊢; omega) hBG ?_
              intro H'' locs'' cells'' slots'' pc'' LS'' i'' st'' a1 a2 a3 a4 a5 a6
              exact hret H'' locs'' cells'' slots'' pc'' LS'' i'' st'' a1 a2 a3 a4 (by simp only at a5 b3; omega) (by simp only at a6 b4; omega)
            · cases hn
