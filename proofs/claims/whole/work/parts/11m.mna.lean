/-! new int[n][k]: the law of 'multianewarray' with two counts, of the claim's own (nothing of the library's rest is used) -/
section AMMN
variable {p : Program} {l : Launch} {e : Env} {R : Room} {s : State} {m : MethodId} {args : Array Value} {below : List Frame} {meth : Method} {c : Code} {H : Heap} {locs : List Loc} {cells slots : Nat} {Q : State → Prop}
/-- the outer row's places when i rows lie, from the address q on -/
def mn_o (q i : Nat) : Nat → Value := fun j => va_rf (if j < i then some (q + j) else none)
theorem mn_o0 (q : Nat) : mn_o q 0 = fun _ => .null := by
  funext j
  simp [mn_o, va_rf]
theorem mn_oS (q i : Nat) : updV (mn_o q i) i (.ref (q + i)) = mn_o q (i + 1) := by
  funext j
  rcases Nat.lt_trichotomy j i with h | h | h
  · simp [updV, mn_o, Nat.ne_of_lt h, h, Nat.lt_succ_of_lt h]
  · subst h
    simp [updV, mn_o, va_rf]
  · simp [updV, mn_o, Nat.ne_of_gt h, show ¬ j < i by omega, show ¬ j < i + 1 by omega]
/-- behind the heap H: the outer row, with i of its N rows laid, and these i rows -/
def mn_L (H : Heap) (cA cI : ClassId) (N K i : Nat) (F : Heap) : Prop :=
  F.size = H.size + 1 + i ∧ F[H.size]? = some (arrV cA N (mn_o (H.size + 1) i)) ∧ (∀ x : Nat, x < H.size → F[x]? = H[x]?) ∧ ∀ j : Nat, j < i → F[H.size + 1 + j]? = some (arrV cI K fun _ => .int 0)
theorem mn_L0 (H : Heap) (cA cI : ClassId) (N K : Nat) : mn_L H cA cI N K 0 (H.push (arrV cA N fun _ => .null)) := by
  refine ⟨by simp, by rw [mn_o0]; simp, fun x hx => ?_, fun j hj => absurd hj (Nat.not_lt_zero j)⟩
  rw [Array.getElem?_push, if_neg (by omega)]
theorem mn_LS {H F : Heap} {cA cI : ClassId} {N K i : Nat} (h : mn_L H cA cI N K i F) : mn_L H cA cI N K (i + 1) ((F.push (arrV cI K fun _ => .int 0)).setIfInBounds H.size ((arrV cA N (mn_o (H.size + 1) i)).setSlot i (.ref (H.size + 1 + i)))) := by
  obtain ⟨h1, -, h3, h4⟩ := h
  refine ⟨by simp; omega, ?_, fun x hx => ?_, fun j hj => ?_⟩
  · rw [arrV_store, mn_oS, Array.getElem?_setIfInBounds, if_pos rfl, if_pos (by simp; omega)]
  · rw [Array.getElem?_setIfInBounds, if_neg (by omega), Array.getElem?_push, if_neg (by omega)]
    exact h3 x hx
  · rw [Array.getElem?_setIfInBounds, if_neg (by omega), Array.getElem?_push]
    by_cases e1 : j = i
    · rw [if_pos (by omega)]
    · rw [if_neg (by omega)]
      exact h4 j (by omega)
/-- a row of at most 1000 places is made where the walk stands -/
theorem mn_new {F : State} {E : CtlPost} {d : Bool} {acts : List Action} {g : JFrame} {q comp : ClassId} {k : Class} {ty : FieldType} {len : Nat} {z : Value} {P : Addr → Pre} (X : Stand p l e R s m args below meth c F locs cells slots) (hk : F.vm.classes[q]? = some k) (hkind : k.kind = .array comp ty) (hfit : fits ty z = true) (hdef : z.isDefault = true) (hlen : len ≤ 1000) (hc : cells + 1 ≤ R.cells) (hs : slots + len ≤ R.slots)
    (hq : P F.heap.size d acts ((F.pushCell (arrV q len fun _ => z)).setTop g)) : wp (Jvm.newArray q len z) P E e d acts (F.setTop g) := by
  obtain ⟨r1, r2⟩ := X.roomAbove hc hs
  have b1 : componentBytes ty ≤ 8 := by cases ty <;> simp [componentBytes]
  have b2 : len * componentBytes ty ≤ 1000 * 8 := Nat.mul_le_mul hlen b1
  have g1 : ¬ len > e.platform.arrayLengthLimit := by rw [Launch.admits_arrayLengthLimit X.admits]; omega
  have g2 : ¬ len * componentBytes ty > e.platform.maxHeapBytes := by rw [Launch.admits_maxHeapBytes X.admits]; omega
  have g3 : ¬ len > e.platform.maxSlots := by omega
  have g4 : allocActs (Array.replicate len z) F.heap.size acts = acts := by
    unfold allocActs
    refine if_pos (Array.all_eq_true.mpr fun i hi => ?_)
    simp [hdef]
  have g5 : ∀ i v, (Array.replicate len z)[i]? = some v → F.fitsSlot q .none i v = true := fun i v hv => by
    rw [Array.getElem?_replicate] at hv
    by_cases hi : i < len
    · rw [if_pos hi] at hv
      cases hv
      simp [State.fitsSlot, State.slotType?, hk, hkind, hfit]
    · rw [if_neg hi] at hv
      cases hv
  rw [← arrV_new] at hq
  unfold Jvm.newArray Jvm.arrayFits
  simp only [wp_bind', W.ask, W.ite, W.theClass, State.vm_setTop, hk, hkind, Option.some.injEq, exists_eq_left', g1, g2, g3, if_false, wp_pure', W.alloc, W.stop, State.heap_setTop, State.slotsUsed_setTop, State.fitsSlot_setTop, State.pushCell_setTop, Array.size_replicate, g4]
  exact ⟨r1, r2, g5, hq⟩
/-- a loop whose turn i takes F to nx i F: it comes to one state, whatever is asked of it -/
theorem mn_it {N : Nat} {g : JFrame} {f : Nat → PUnit → Sem (ForInStep PUnit)} {nx : Nat → State → State} {I : Nat → State → Prop} (hI : ∀ i F, i < N → I i F → I (i + 1) (nx i F))
    (hf : ∀ (i : Nat) (F : State) (E : CtlPost) (d : Bool) (acts : List Action) (P : ForInStep PUnit → Pre), i < N → I i F → (∀ d' acts', P (.yield PUnit.unit) d' acts' ((nx i F).setTop g)) → wp (f i PUnit.unit) P E e d acts (F.setTop g)) :
    ∀ (r i : Nat) (F : State), i + r = N → I i F → ∃ F' : State, I N F' ∧ ∀ (E : CtlPost) (d : Bool) (acts : List Action) (P : PUnit → Pre), (∀ d' acts', P PUnit.unit d' acts' (F'.setTop g)) → wp (forIn (List.range' i r 1) PUnit.unit f) P E e d acts (F.setTop g)
  | 0, i, F, hi, h => ⟨F, by have : i = N := by omega
                             rw [← this]; exact h, fun E d acts P hP => by
      rw [List.range'_zero, List.forIn_nil, wp_pure']
      exact hP d acts⟩
  | r + 1, i, F, hi, h => by
    obtain ⟨F', h1, h2⟩ := mn_it hI hf r (i + 1) (nx i F) (by omega) (hI i F (by omega) h)
    refine ⟨F', h1, fun E d acts P hP => ?_⟩
    rw [List.range'_succ, List.forIn_cons, wp_bind']
    exact hf i F E d acts _ (by omega) h fun d' acts' => h2 E d' acts' P hP
/-- the rows' making: one state F, with the outer row and its rows behind the heap -/
theorem mn_mk {T : State} {g : JFrame} {cA cI cc : ClassId} {kA kC : Class} {n k : Int32} (X : Stand p l e R s m args below meth c T locs cells slots) (hkA : T.vm.classes[cA]? = some kA) (hA : kA.kind = .array cI (.array .int)) (hkC : T.vm.classes[cI]? = some kC) (hC : kC.kind = .array cc .int) (hn : ¬ n < 0) (hk : ¬ k < 0) (hn2 : n.toNatClampNeg ≤ 1000) (hk2 : k.toNatClampNeg ≤ 1000)
    (hr1 : cells + 1 + n.toNatClampNeg ≤ R.cells) (hr2 : slots + n.toNatClampNeg + n.toNatClampNeg * k.toNatClampNeg ≤ R.slots) :
    ∃ F : State, Stand p l e R s m args below meth c F locs (cells + 1 + n.toNatClampNeg) (slots + n.toNatClampNeg + n.toNatClampNeg * k.toNatClampNeg) ∧ mn_L T.heap cA cI n.toNatClampNeg k.toNatClampNeg n.toNatClampNeg F.heap ∧
      ∀ (E : CtlPost) (d : Bool) (acts : List Action) (P : Addr → Pre), (∀ d' acts', P T.heap.size d' acts' (F.setTop g)) → wp (multianewarray.make cA [n, k]) P E e d acts (T.setTop g) := by
  generalize hN : n.toNatClampNeg = N at *
  generalize hK : k.toNatClampNeg = K at *
  have hI : ∀ i F, i < N → (F.vm = T.vm ∧ Stand p l e R s m args below meth c F locs (cells + 1 + i) (slots + N + i * K) ∧ mn_L T.heap cA cI N K i F.heap) →
      (((F.pushCell (arrV cI K fun _ => .int 0)).setCell T.heap.size ((arrV cA N (mn_o (T.heap.size + 1) i)).setSlot i (.ref (T.heap.size + 1 + i)))).vm = T.vm ∧ Stand p l e R s m args below meth c ((F.pushCell (arrV cI K fun _ => .int 0)).setCell T.heap.size ((arrV cA N (mn_o (T.heap.size + 1) i)).setSlot i (.ref (T.heap.size + 1 + i)))) locs (cells + 1 + (i + 1)) (slots + N + (i + 1) * K) ∧ mn_L T.heap cA cI N K (i + 1) ((F.pushCell (arrV cI K fun _ => .int 0)).setCell T.heap.size ((arrV cA N (mn_o (T.heap.size + 1) i)).setSlot i (.ref (T.heap.size + 1 + i)))).heap) := fun i F hi ⟨v1, v2, v3⟩ => by
    refine ⟨v1, ?_, mn_LS v3⟩
    have y1 := v2.pushed (arrV cI K fun _ => .int 0)
    have y2 : (F.pushCell (arrV cI K fun _ => .int 0)).heap[T.heap.size]? = some (arrV cA N (mn_o (T.heap.size + 1) i)) := by
      show (F.heap.push _)[_]? = _
      rw [Array.getElem?_push, if_neg (by have := v3.1; omega)]
      exact v3.2.1
    have y3 := (y1.stored y2 i (.ref (T.heap.size + 1 + i))).dropFresh (fun x hx => by
      rw [List.mem_singleton.mp hx]
      exact X.heapGrown)
    rw [arrV_size] at y3
    rw [show slots + N + (i + 1) * K = slots + N + i * K + K by rw [Nat.succ_mul]; omega]
    exact y3
  obtain ⟨F, ⟨-, z2, z3⟩, z4⟩ := mn_it (e := e) (N := N) (g := g) (f := fun i _ => (multianewarray.make cI [k] >>= fun a => Jvm.writeLoc T.heap.size i (.ref a) >>= fun _ => Pure.pure (ForInStep.yield PUnit.unit))) (nx := fun i F => (F.pushCell (arrV cI K fun _ => .int 0)).setCell T.heap.size ((arrV cA N (mn_o (T.heap.size + 1) i)).setSlot i (.ref (T.heap.size + 1 + i))))
    (I := fun i F => F.vm = T.vm ∧ Stand p l e R s m args below meth c F locs (cells + 1 + i) (slots + N + i * K) ∧ mn_L T.heap cA cI N K i F.heap) hI (fun i F E d acts P hi ⟨v1, v2, v3⟩ hP => by
      have w1 : (i + 1) * K ≤ N * K := Nat.mul_le_mul_right K hi
      rw [Nat.succ_mul] at w1
      rw [wp_bind', multianewarray.make]
      simp only [wp_bind', W.ite, hk, if_false, wp_pure', W.theClass, State.vm_setTop, v1, hkC, hC, Option.some.injEq, exists_eq_left', hK]
      refine mn_new v2 (by rw [v1]; exact hkC) hC rfl rfl hk2 (by omega) (by omega) ?_
      simp only [wp_bind', W.writeLoc, State.heap_setTop, State.fitsSlot_setTop, State.setCell_setTop, wp_pure']
      refine ⟨arrV cA N (mn_o (T.heap.size + 1) i), ?_, by simp [arrV], by rw [arrV_size]; exact hi, ?_, ?_⟩
      · show (F.heap.push _)[_]? = _
        rw [Array.getElem?_push, if_neg (by have := v3.1; omega)]
        exact v3.2.1
      · simp [State.fitsSlot, State.slotType?, arrV, v1, hkA, hA, fits]
      · have := v3.1
        rw [show F.heap.size = T.heap.size + 1 + i from this]
        exact hP _ _) N 0 (T.pushCell (arrV cA N fun _ => .null)) (by omega) ⟨rfl, by
        have y := X.pushed (arrV cA N fun _ => .null)
        rw [arrV_size] at y
        simpa using y, mn_L0 _ _ _ _ _⟩
  refine ⟨F, z2, z3, fun E d acts P hP => ?_⟩
  have hfd : ([k].find? (· < 0)) = none := by simp [hk]
  rw [multianewarray.make]
  simp only [wp_bind', W.ite, hn, if_false, wp_pure', W.theClass, State.vm_setTop, hkA, hA, Option.some.injEq, exists_eq_left', hN]
  refine mn_new X hkA hA rfl rfl hn2 (by omega) (by omega) ?_
  simp only [hfd, ite_self, wp_pure', wp_bind']
  rw [Std.Legacy.Range.forIn_eq_forIn_range']
  have hsz : ([:N] : Std.Legacy.Range).size = N := by simp [Std.Legacy.Range.size]
  rw [hsz]
  refine z4 E d acts _ fun d' acts' => ?_
  try rw [wp_pure']
  exact hP d' acts'
/-- the instruction, as a row of the walk -/
theorem mn_W {pc : Nat} {LS : Array Slot} {rest : List Value} {own : String} {index : Nat} {n k : Int32} {cc : ByteArray} (hx : p.tables.exec = Jvm.exec) (hb : c.code = cc) (hown : s.vm.findClass own = some m.cls) (hlink : (Cond.classLink own index "[[I").before args s = true) (hover : (Cond.arrayOver (.array .int)).before args s = true) (harr : (Cond.arrayClass .int).before args s = true) (hdg : decode cc pc = .ok (.multianewarray index 2, 4))
    (hn : ¬ n < 0) (hk : ¬ k < 0) (hn2 : n.toNatClampNeg ≤ 1000) (hk2 : k.toNatClampNeg ≤ 1000) (hr1 : cells + 1 + n.toNatClampNeg ≤ R.cells) (hr2 : slots + n.toNatClampNeg + n.toNatClampNeg * k.toNatClampNeg ≤ R.slots)
    (kk : ∀ (cA cI : ClassId) (F : Heap), s.vm.findClass "[[I" = some cA → s.vm.findClass "[I" = some cI → mn_L H cA cI n.toNatClampNeg k.toNatClampNeg n.toNatClampNeg F → W p l e R s m args below meth c F locs (cells + 1 + n.toNatClampNeg) (slots + n.toNatClampNeg + n.toNatClampNeg * k.toNatClampNeg) Q (F0 m (pc + 4) LS (.ref H.size :: rest))) :
    W p l e R s m args below meth c H locs cells slots Q (F0 m pc LS (.int k :: .int n :: rest)) := by
  intro T hT X
  subst hT; subst hb
  obtain ⟨cI, cA, kA, fI, -, gA, hA, fA⟩ := arrayOverA_spec hover
  obtain ⟨cI', kC, cc, fI', gC, hC⟩ := Cond.arrayClass_spec harr
  cases fI.symm.trans fI'
  obtain ⟨cA', fA', hcl⟩ := Cond.classLink_spec hown hlink e.platform (by rw [X.admits.platform])
  cases fA.symm.trans fA'
  obtain ⟨hg1, hw1, -⟩ := State.classEntry (e := e) X.warmed hcl
  generalize T.vm.noted m.cls index (.cls cA) = vm₁ at hg1 hw1
  obtain ⟨kA1, gA1, eA⟩ := hw1.alike.2.2 _ _ gA
  obtain ⟨kC1, gC1, eC⟩ := hw1.alike.2.2 _ _ gC
  obtain ⟨F, y1, y2, y3⟩ := mn_mk (X.noted hw1) (g := F0 m pc LS rest) gA1 (by rw [eA]; exact hA) gC1 (by rw [eC]; exact hC) hn hk hn2 hk2 hr1 hr2
  obtain ⟨t, a1, b1⟩ := kk cA cI F.heap fA fI y2 F rfl y1
  refine ⟨t, ?_, b1⟩
  jvm_step X.here [hx, hdg]
  simp only [multianewarray.sem, wp_bind', W.resolveClassAt_links (State.method?_setTop (F0 m pc LS (.int k :: .int n :: rest)) X.here.top) hg1]
  rw [W.popN, if_neg (by decide)]
  refine ⟨F0 m pc LS (.int k :: .int n :: rest), State.topJava?_setTop' (s := T.setVm vm₁) _ X.here.top, [.int n, .int k], rest, rfl, rfl, ?_⟩
  simp only [List.mapM_cons, List.mapM_nil, wp_bind', wp_pure']
  have eS : ((T.setTop (F0 m pc LS (.int k :: .int n :: rest))).setVm vm₁).setTop (F0 m pc LS rest) = (T.setVm vm₁).setTop (F0 m pc LS rest) := by
    show ((T.setVm vm₁).setTop (F0 m pc LS (.int k :: .int n :: rest))).setTop (F0 m pc LS rest) = _
    rw [State.setTop_setTop]
  show wp _ _ _ _ _ _ (((T.setTop (F0 m pc LS (.int k :: .int n :: rest))).setVm vm₁).setTop (F0 m pc LS rest))
  rw [eS]
  refine y3 _ _ _ _ fun d' acts' => ?_
  simp only [wp_bind', W.mark, W.pushRef, State.topJava?_setTop' _ y1.here.top, Option.some.injEq, exists_eq_left', State.setTop_setTop]
  intro acts
  simp [jvm, y1.here.top]
  exact a1
end AMMN
