def R_law : String := "DebtCouncilLaw"
def lw_P (b : Addr) (xs : List Int32) (args : Array Value) (s : State) : Prop := args = #[.ref b] ∧ s.IntsAt b xs ∧ xs.length ≤ 2560 ∧ (Jvm.Cond.and given_1 narrow_1).before args s = true
def lw_Q (_ : Array Value) (s : State) (o : Outcome) (t : State) : Prop := o = .returned (some (.int 1)) ∧ Framed s o t [] 600000 7302250
def lw_Z (below : List Frame) (a : Array Value) (s : State) : State → Prop := fun t => ∃ o, t.status = .running ∧ Ended t below o ∧ lw_Q a s o t
/-- the law's own end, with 1 on the stack, nothing written that was there before, its room as the claim has it -/
theorem lw_ret {p : Program} {l : Launch} {e : Env} {s : State} {m : MethodId} {below : List Frame} {meth : Method} {c : Code} {b : Nat} (hx : p.tables.exec = Jvm.exec) (hb : c.code = code) (hr : meth.sig.returnType = ret) (hlocks : meth.locks = false) {pc : Nat} {H : Heap} {ls : Array Slot} (hdg : decode code pc = .ok (.ireturn, 1)) : W p l e room_1 s m #[Value.ref b] below meth c H [] 600000 7302250 (lw_Z below #[Value.ref b] s) (F0 m pc ls [.int 1]) := by
  intro T hT X
  obtain ⟨fs, hret, hrun, hended, hW, hframe⟩ := X.leave (v := some (.int 1)) (hlocks := hlocks) (fun h => by rw [hr] at h; cases h)
  have hmeth' : T.vm.method? m = some meth := X.method'
  refine ⟨T.setFrames fs, ?_, .returned (some (.int 1)), hrun, hended, rfl, ⟨_, rfl⟩, hW, hframe⟩
  jvm_step X.here [X.here.top, hx, hb, hdg, hmeth', hr, ret, narrow_b1]
  (try refine ⟨rfl, ?_⟩); (try refine ⟨rfl, ?_⟩)
  first | (intro acts; rw [hret _ acts rfl rfl rfl]) | rw [hret _ _ rfl rfl rfl]
  exact Steps.refl _
/-- what holds at the law's entry: the machine, the code, the tables' words (any of lw_tbl by 'hts w (by decide +kernel)'), the script of L ints xs at the cell b, what the Statement gives of the start (any of its parts by flat_of_before) -/
def lw_At (p : Program) (s : State) (m : MethodId) (meth : Method) (c : Code) (b L : Nat) (xs : Nat → Int32) : Prop :=
  p.tables.exec = Jvm.exec ∧ c.code = code ∧ meth.sig.returnType = ret ∧ c.maxLocals = 4 ∧ s.vm.findClass R_law = some m.cls ∧ (∀ w ∈ lw_tbl, w.before #[Value.ref b] s = true) ∧ va_X b L xs s s.heap ∧ b < s.heap.size ∧ meth.locks = false ∧ (Jvm.Cond.and given_1 narrow_1).before #[Value.ref b] s = true
theorem am_Emk (x0 : Nat) (x1 : Nat → Nat) (x2 : Nat → ClassId) (x3 : Nat → Nat → Nat) (x4 : Nat → ClassId) (x5 x6 : Nat → Nat) (x7 : Nat → Nat → Int32) : ∃ E : am_E, eB E = x0 ∧ eO E = x1 ∧ eC E = x2 ∧ eI E = x3 ∧ eY E = x4 ∧ eK E = x5 ∧ eL E = x6 ∧ eS E = x7 := ⟨(x0, x1, x2, x3, x4, x5, x6, x7), rfl, rfl, rfl, rfl, rfl, rfl, rfl, rfl⟩
/-- strings, tables, classes: the world at the law's entry -/
theorem am_world {p : Program} {s : State} {m : MethodId} {meth : Method} {c : Code} {b L : Nat} {xs : Nat → Int32} (hL : L ≤ 2560) (C0 : lw_At p s m meth c b L xs) : ∃ (E : am_E) (fl : Nat), eB E = s.heap.size ∧ eO E 2 = b ∧ (∀ a, am_BG ≤ a → eK E a = am_oK (a - am_BG) ∧ eL E a = am_oL L fl (a - am_BG) ∧ eS E a = am_oS xs (a - am_BG)) ∧ am_WD E s := by
  obtain ⟨hx, hb, hr, hml, hown, hts, hX, hbl, hlocks, hgv⟩ := id C0
  have hfl := flat_of_before _ hgv
  have hA0 : ∀ a : Nat, a < s.heap.size → ¬ (fun q : Nat => s.heap.size ≤ q) a := fun a h => Nat.not_le.mpr h
  have htb : ∀ w ∈ am_TB, w.before #[Value.ref b] s = true := fun w hw => hts w (am_TB_in hw)
  have hcls : ∀ c : Nat, ∃ q : Nat × (Nat → Nat), ∀ r : vw_C, vwCl[c]? = some r → u_Kn s r.1 r.2.1 r.2.2 q.1 q.2 := by
    intro c
    cases h : vwCl[c]? with
    | none => exact ⟨(0, fun _ => 0), fun r hr => by cases hr⟩
    | some r =>
      obtain ⟨cC, iS, hK⟩ := u_known htb (am_cls h).1 (htb _ (am_inA h).1)
      exact ⟨(cC, iS), fun r' hr' => by cases hr'; exact hK⟩
  obtain ⟨fc, hfc⟩ := Classical.axiomOfChoice hcls
  have hprim : ∀ ty : FieldType, Cond.arrayClass ty ∈ am_TB → (∀ C, ty ≠ .object C) → ∃ cA : Nat, ArrOfT s cA ty ∧ va_RA s cA ty := by
    intro ty h hno
    obtain ⟨cA, kA, comp, h1, h2, h3⟩ := Cond.arrayClass_spec (htb _ h)
    refine ⟨cA, fun n z => ⟨(fun k h => by cases h), kA, h2, comp, h3⟩, ?_⟩
    cases ty <;> first | exact absurd rfl (hno _) | exact h1
  have hobj : ∀ C : String, Cond.arrayOver (.object C) ∈ lw_tbl → ∃ cA : Nat, ArrOfT s cA (.object C) ∧ va_RA s cA (.object C) := by
    intro C h
    obtain ⟨comp, cA, kA, h1, h2, h3, h4, h5⟩ := Cond.arrayOver_spec (hts _ h)
    exact ⟨cA, fun n z => ⟨(fun k h => by cases h), kA, h3, comp, h4⟩, kA, comp, h3, h4, h1, h5⟩
  have harr : ∀ kd : Nat, ∃ cA : Nat, 14 ≤ kd → kd ≤ 22 → ArrOfT s cA (am_tyK kd) ∧ va_RA s cA (am_tyK kd) := by
    intro kd
    by_cases hk : 14 ≤ kd ∧ kd ≤ 22
    · have h : ∃ cA : Nat, ArrOfT s cA (am_tyK kd) ∧ va_RA s cA (am_tyK kd) := by
        rcases (show kd = 14 ∨ kd = 15 ∨ kd = 16 ∨ kd = 17 ∨ kd = 18 ∨ kd = 19 ∨ kd = 20 ∨ kd = 21 ∨ kd = 22 by omega) with rfl | rfl | rfl | rfl | rfl | rfl | rfl | rfl | rfl
        · exact hprim _ am_ac_byte (fun C h => by cases h)
        · exact hprim _ am_ac_int (fun C h => by cases h)
        · exact hprim _ am_ac_long (fun C h => by cases h)
        · exact hprim _ am_ac_boolean (fun C h => by cases h)
        · exact hobj _ am_ov1
        · exact hobj _ am_ov5
        · exact hobj _ am_ov7
        · exact hobj _ am_ov9
        · obtain ⟨comp, cA, kA, h1, h2, h3, h4, h5⟩ := arrayOverA_spec (hts _ am_ovA)
          exact ⟨cA, fun n z => ⟨(fun k h => by cases h), kA, h3, comp, h4⟩, h5⟩
      obtain ⟨cA, h1⟩ := h
      exact ⟨cA, fun _ _ => h1⟩
    · exact ⟨0, fun h1 h2 => absurd ⟨h1, h2⟩ hk⟩
  obtain ⟨fy, hfy⟩ := Classical.axiomOfChoice harr
  have hstr : ∀ i : Nat, ∃ q : Nat × Nat, i < 38 → (am_tm i).eval #[Value.ref b] s none [] s = some (.ref q.1) ∧ va_O "java/lang/String" q.1 (fun q : Nat => s.heap.size ≤ q) s s.heap ∧ va_OF "java/lang/String" "coder" "B" (.int 0) q.1 (fun q : Nat => s.heap.size ≤ q) s s.heap ∧ va_OF "java/lang/String" "value" "[B" (.ref q.2) q.1 (fun q : Nat => s.heap.size ≤ q) s s.heap ∧ va_T .byte q.2 (am_SB.getD i []).length (fun j => .int ((am_SB.getD i []).getD j 0)) (fun q : Nat => s.heap.size ≤ q) s s.heap := by
    intro i
    by_cases hi : i < 38
    · have hn := am_ncA hi
      simp only [am_nc, Bool.and_eq_true] at hn
      obtain ⟨⟨⟨⟨n1, n2⟩, n3⟩, n4⟩, n5⟩ := hn
      obtain ⟨a, cc, cA, kA, q1, q2, q3, q4, q5, q6, -⟩ := Cond.exactly_spec (args := #[Value.ref b]) (first := s) (o := none) (s := s) (idx := []) (t := am_tm i) (cls := "java/lang/String") (hfl _ (am_fa2_mem n1))
      have hlen31 : (am_SB.getD i []).length < 2 ^ 31 := by
        have : ∀ i, i < 38 → (am_SB.getD i []).length < 2 ^ 31 := by decide +kernel
        exact this i hi
      obtain ⟨t, ht, hT⟩ := va_Tof (f := fun j => .int ((am_SB.getD i []).getD j 0)) (A := fun q : Nat => s.heap.size ≤ q) hlen31 (hfl _ (am_fa2_mem n3)) (va_eqt (hfl _ (am_fa2_mem n4))) (fun j hj => va_eqt (hfl _ (am_fa2_mem (List.all_eq_true.mp n5 j (List.mem_range.mpr hj))))) hA0
      exact ⟨(a, t), fun _ => ⟨q1, ⟨cA, q3, q5, by rw [q6]; exact q2, hA0 a (Array.getElem?_eq_some_iff.mp q3).1⟩, vk_OFof q1 (va_eqt (hfl _ (am_fa2_mem n2))) hA0, vk_OFof q1 ht hA0, hT⟩⟩
    · exact ⟨(0, 0), fun h => absurd h hi⟩
  obtain ⟨ad, had⟩ := Classical.axiomOfChoice hstr
  have hab := am_n_ABOVE
  have hbo := am_n_BODIES
  simp only [Bool.and_eq_true] at hab hbo
  obtain ⟨tA, htA, hTA⟩ := va_Tof (N := 7) (f := fun j => .int (am_tA.getD j 0)) (A := fun q : Nat => s.heap.size ≤ q) (by decide) (hfl _ (am_fa2_mem hab.1.1)) (va_eqt (hfl _ (am_fa2_mem hab.1.2))) (fun j hj => va_eqt (hfl _ (am_fa2_mem (List.all_eq_true.mp hab.2 j (List.mem_range.mpr hj))))) hA0
  obtain ⟨tB, htB, hTB⟩ := va_Tof (N := 28) (f := fun j => .int (am_tB.getD j 0)) (A := fun q : Nat => s.heap.size ≤ q) (by decide) (hfl _ (am_fa2_mem hbo.1.1)) (va_eqt (hfl _ (am_fa2_mem hbo.1.2))) (fun j hj => va_eqt (hfl _ (am_fa2_mem (List.all_eq_true.mp hbo.2 j (List.mem_range.mpr hj))))) hA0
  have h5 := am_n5
  simp only [Bool.and_eq_true] at h5
  have hZA := va_Zof (hts _ am_ls0.1) (hts _ am_ls0.2) htA hA0
  have hZB := va_Zof (hts _ am_ls1.1) (hts _ am_ls1.2) htB hA0
  have hZC := va_Zof (hts _ am_ls2.1) (hts _ am_ls2.2) (va_eqi (hfl _ (am_fa2_mem h5.1))) hA0
  have hZS := va_Zqof (hts _ am_ls3.1) (hts _ am_ls3.2) (hfl _ (am_fa2_mem h5.2)) hA0
  obtain ⟨fl, tS, hZF⟩ : ∃ (fl tS : Nat), va_Z "jdk/internal/util/Preconditions" "SIOOBE_FORMATTER" "Ljava/util/function/BiFunction;" (va_rf (if fl = 0 then none else some tS)) (fun q : Nat => s.heap.size ≤ q) s s.heap := by
    rcases hZS with h | ⟨t, h⟩
    · exact ⟨0, 0, h⟩
    · exact ⟨1, t, h⟩
  let outF : Nat → Nat := fun i => if i = 0 then tA else if i = 1 then tB else if i = 2 then b else if i = 79 then tS else if i ≤ 40 then (ad (i - 3)).1 else (ad (i - 41)).2
  obtain ⟨E, hEB, hEO, hEC, hEI, hEY, hK9, hL9, hS9⟩ : ∃ E : am_E, eB E = s.heap.size ∧ eO E = outF ∧ eC E = (fun c => (fc c).1) ∧ eI E = (fun c => (fc c).2) ∧ eY E = fy ∧ eK E = (fun a => am_oK (a - am_BG)) ∧ eL E = (fun a => am_oL L fl (a - am_BG)) ∧ eS E = (fun a => am_oS xs (a - am_BG)) := am_Emk _ _ _ _ _ _ _ _
  have hAE : am_A E = (fun q : Nat => s.heap.size ≤ q) := by funext q; unfold am_A; rw [hEB]
  have oS : ∀ i, i < 38 → outF (3 + i) = (ad i).1 := fun i hi => by
    show (if 3 + i = 0 then tA else if 3 + i = 1 then tB else if 3 + i = 2 then b else if 3 + i = 79 then tS else if 3 + i ≤ 40 then (ad (3 + i - 3)).1 else (ad (3 + i - 41)).2) = _
    rw [if_neg (by omega), if_neg (by omega), if_neg (by omega), if_neg (by omega), if_pos (by omega), show 3 + i - 3 = i by omega]
  have oV : ∀ i, i < 38 → outF (41 + i) = (ad i).2 := fun i hi => by
    show (if 41 + i = 0 then tA else if 41 + i = 1 then tB else if 41 + i = 2 then b else if 41 + i = 79 then tS else if 41 + i ≤ 40 then (ad (41 + i - 3)).1 else (ad (41 + i - 41)).2) = _
    rw [if_neg (by omega), if_neg (by omega), if_neg (by omega), if_neg (by omega), if_neg (by omega), show 41 + i - 41 = i by omega]
  refine ⟨E, fl, hEB, by rw [hEO]; rfl, fun a _ => ⟨congrFun hK9 a, congrFun hL9 a, congrFun hS9 a⟩, fun c q hq => by rw [hEC, hEI]; exact hfc c q hq, fun kd h1 h2 => by rw [hEY]; exact hfy kd h1 h2, ?_, ?_, ?_, ?_, ⟨by rw [hEO, hAE]; exact hZA, by rw [hEO, hAE]; exact hZB, by rw [hAE]; exact hZC, ?_⟩, ?_, fun o i x h hm => va_Nw.of rfl (hts _ hm), fun o i b9 n d h hm => va_Nw.of rfl (hts _ hm), fun C hC => va_AO.of (hts _ hC), hts _ am_ovA⟩
  · intro a ha hk
    have hk2 : am_oK (a - am_BG) = 15 := (congrFun hK9 a).symm.trans hk
    generalize hi : a - am_BG = i at hk2
    have h3 : i = 0 ∨ i = 1 ∨ i = 2 := by
      unfold am_oK at hk2
      by_cases h : i ≤ 2
      · omega
      · rw [if_neg h] at hk2
        split at hk2 <;> first | omega | (split at hk2 <;> omega)
    rw [hEO, hL9, hS9, hAE]
    dsimp only
    rw [hi]
    rcases h3 with rfl | rfl | rfl
    · exact hTA
    · exact hTB
    · obtain ⟨scr, g1, g2, g3, g4, g5⟩ := hX
      exact ⟨scr, g1, g2, g3, by show L ≤ _; omega, by rw [g4]; rfl, g5, Nat.not_le.mpr hbl⟩
  · intro a ha hk
    have hk2 : am_oK (a - am_BG) = 14 := (congrFun hK9 a).symm.trans hk
    rw [hEO, hL9, hS9, hAE]
    dsimp only
    generalize hi : a - am_BG = i at hk2 ⊢
    have h3 : 41 ≤ i ∧ i ≤ 78 := by
      unfold am_oK at hk2
      by_cases h : i ≤ 2
      · rw [if_pos h] at hk2; omega
      · rw [if_neg h] at hk2
        by_cases h2 : i ≤ 40
        · rw [if_pos h2] at hk2; omega
        · rw [if_neg h2] at hk2
          by_cases h4 : i ≤ 78
          · omega
          · rw [if_neg h4] at hk2; omega
    have e := oV (i - 41) (by omega)
    rw [show 41 + (i - 41) = i by omega] at e
    have eL9 : am_oL L fl i = (am_SB.getD (i - 41) []).length := by
      unfold am_oL
      rw [if_neg (by omega), if_neg (by omega), if_neg (by omega), if_neg (by omega), if_pos h3]
    have eS9 : (fun j => Value.int (am_oS xs i j)) = (fun j => Value.int ((am_SB.getD (i - 41) []).getD j 0)) := by
      funext j
      unfold am_oS
      rw [if_neg (by omega), if_neg (by omega), if_neg (by omega), if_pos h3]
    rw [e, eL9, eS9]
    exact (had (i - 41) (by omega)).2.2.2.2
  · intro a ha hk
    have hk2 : am_oK (a - am_BG) = 13 := (congrFun hK9 a).symm.trans hk
    have h3 : 3 ≤ a - am_BG ∧ a - am_BG ≤ 40 := by
      unfold am_oK at hk2
      by_cases h : a - am_BG ≤ 2
      · rw [if_pos h] at hk2; omega
      · rw [if_neg h] at hk2
        by_cases h2 : a - am_BG ≤ 40
        · omega
        · rw [if_neg h2] at hk2
          split at hk2 <;> omega
    have e1 := oS (a - am_BG - 3) (by omega)
    rw [show 3 + (a - am_BG - 3) = a - am_BG by omega] at e1
    have e2 := oV (a - am_BG - 3) (by omega)
    rw [show 41 + (a - am_BG - 3) = a + 38 - am_BG by omega] at e2
    have h9 := had (a - am_BG - 3) (by omega)
    rw [hEO, hAE]
    refine ⟨?_, ?_, ?_⟩
    · rw [e1]
      exact h9.2.1
    · rw [e1]
      exact h9.2.2.1
    · rw [e1, e2]
      exact h9.2.2.2.1
  · intro a ha
    rw [congrFun hK9 a]
    unfold am_oK
    split
    · exact Or.inr (Or.inr (Or.inl rfl))
    · split
      · exact Or.inl rfl
      · split
        · exact Or.inr (Or.inl rfl)
        · exact Or.inr (Or.inr (Or.inr rfl))
  · have e : eF E = (if fl = 0 then none else some tS) := by
      have e1 : eL E (am_BG + 79) = fl := by
        rw [congrFun hL9]
        rw [show am_BG + 79 - am_BG = 79 by omega]
        rfl
      unfold eF
      rw [e1, hEO]
      rfl
    rw [e, hAE]
    exact hZF
  · intro i q hq
    have hi : i < 38 := (List.getElem?_eq_some_iff.mp hq).1
    have eq : am_S.getD i ("", 0, "") = q := by rw [List.getD_eq_getElem?_getD, hq]; rfl
    have h1 := List.all_eq_true.mp am_sr i (List.mem_range.mpr hi)
    have h2 := hts _ (am_an_mem h1)
    have h3 := (had i hi).1
    unfold am_tm at h3
    rw [eq] at h2 h3
    rw [hEO, oS i hi]
    exact vk_R.of h2 h3
set_option maxHeartbeats 4000000 in
theorem whole_of (hgoal : ∀ (L : Nat) (xs : Nat → Int32) (fl : Nat), L ≤ 2560 → am_Goal L xs fl) {p : Program} {e : Env} {s : State} {m : MethodId} {below : List Frame} {meth : Method} {c : Code} (l : Launch) {b L : Nat} {xs : Nat → Int32} (hL : L ≤ 2560) (C0 : lw_At p s m meth c b L xs) : W p l e room_1 s m #[Value.ref b] below meth c s.heap [] 0 0 (lw_Z below #[Value.ref b] s) (entryFrame m ([Value.ref b] : List Value).toArray 4) := by
  obtain ⟨E, fl, hB, hO, hoK, hWD⟩ := am_world hL C0
  obtain ⟨hx, hb, hr, hml, hown, hts, hX, hbl, hlocks, hgv⟩ := id C0
  obtain ⟨n, x, hrun, hx1, hxc, hxs⟩ := hgoal L xs fl hL
  have hm : am_M[279]? = some (yL_law, cL_law, 4, some .boolean, 19) := by
    unfold am_M
    rw [List.getElem?_append_right (by decide +kernel)]
    have hl : am_MN.length = 279 := by decide +kernel
    rw [hl]
    rfl
  have had2 : am_ad E (am_BG + 2) = b := by
    rw [am_ad_out (by omega), show am_BG + 2 - am_BG = 2 by omega]
    exact hO
  have hLV := am_LV_entry (E := E) (vs := [.ref (am_BG + 2)]) (n := 4) rfl (by decide)
  have hvs : ([.ref (am_BG + 2)] : List Value).map (am_sh E) = [.ref b] := by
    show [Value.ref (am_ad E (am_BG + 2))] = _
    rw [had2]
  rw [hvs] at hLV
  rw [lg_entry_eq]
  have hen : am_ar [.ref (am_BG + 2)] ++ List.replicate (4 - (am_ar [.ref (am_BG + 2)]).length) am_jk = [.ref (am_BG + 2), am_jk, am_jk, am_jk] := rfl
  rw [hen] at hLV
  have hRP : am_RP E (am_σ0 xs) am_ρ0 am_g0 (am_τ0 L fl) s.heap := by
    refine ⟨by rw [hB]; rfl, by show 0 ≤ _; omega, fun a ha => absurd ha (Nat.not_lt_zero _), fun a _ ha => if_pos ha, fun a ha => ?_⟩
    have h9 := hoK a ha
    refine ⟨?_, ?_, ?_⟩
    · show (if a < am_BG then 99 else am_oK (a - am_BG)) = _
      rw [if_neg (by omega), h9.1]
    · show (if a < am_BG then 0 else am_oL L fl (a - am_BG)) = _
      rw [if_neg (by omega), h9.2.1]
    · show (if a < am_BG then (fun _ => 0) else am_oS xs (a - am_BG)) = _
      rw [if_neg (by omega), h9.2.2]
  refine am_sound l E n 100 279 0 _ [] _ _ _ _ x hrun _ hm p e room_1 s m _ below meth c s.heap [] 0 0 _ _ ⟨hx, hb, hml, hown, rfl, (fun h => absurd h (by decide)), fun w hw => hts w (am_TB_in hw), hWD⟩ hRP va_S.rf (by rw [hml]; exact hLV) (by decide) (by decide) ?_ ?_ (Nat.le_trans hxc (by decide)) ?_
  · show 0 + _ ≤ 600000 + 0
    omega
  · show 0 + _ ≤ 7302250 + 0
    omega
  · intro H' locs' cells' slots' pc' LS' i st' hd hrc hRP' hS' hc hs
    have hc2 : cells' + 0 = 0 + x.2.2.2.2.2.2.1 := hc
    have hs2 : slots' + 0 = 0 + x.2.2.2.2.2.2.2 := hs
    rw [hx1] at hrc
    refine va_forget (fun q hq => by have := hS'.2.2 q hq; unfold am_A at this; rw [hB] at this; exact this) ?_
    refine W.widen (k := 600000) (n := 7302250) (by omega) (by omega) ?_
    have hi : i = .ireturn ∧ st' = [.int 1] := by
      cases i with
      | ireturn =>
        simp only [am_rc] at hrc
        split at hrc
        · split at hrc
          · cases hrc
            exact ⟨rfl, rfl⟩
          · cases hrc
        · cases hrc
      | lreturn => simp only [am_rc] at hrc; (repeat' split at hrc) <;> cases hrc
      | areturn => simp only [am_rc] at hrc; (repeat' split at hrc) <;> cases hrc
      | return_ => simp only [am_rc] at hrc; (repeat' split at hrc) <;> cases hrc
      | invokevirtual x => simp only [am_rc] at hrc; (repeat' split at hrc) <;> cases hrc
      | invokestatic x => simp only [am_rc] at hrc; (repeat' split at hrc) <;> cases hrc
      | invokespecial x => simp only [am_rc] at hrc; (repeat' split at hrc) <;> cases hrc
      | _ => cases hrc
    obtain ⟨rfl, rfl⟩ := hi
    exact lw_ret hx hb hr hlocks hd
