/-! step rows: methods 0 to 20 -/
theorem d0_0 : decode cX0_init 0 = .ok (.aload_n 0, 1) := by decide +kernel
theorem s0_0 {d : Nat} {st : List Value} {σ : am_I} {ρ : am_R} {g : am_J} {τ : am_T} {Q : am_Q} {v : Nat} : AW d 0 0 [.ref v] (st) σ ρ g τ Q = AW d 0 1 [.ref v] (.ref v :: st) σ ρ g τ Q := aw_lc m0 d0_0 rfl rfl rfl
theorem s0_0n {d : Nat} {st : List Value} {σ : am_I} {ρ : am_R} {g : am_J} {τ : am_T} {Q : am_Q} : AW d 0 0 [.null] (st) σ ρ g τ Q = AW d 0 1 [.null] (.null :: st) σ ρ g τ Q := aw_lc m0 d0_0 rfl rfl rfl
theorem d0_1 : decode cX0_init 1 = .ok (.invokespecial 3, 3) := by decide +kernel
theorem s0_1 {d : Nat} {st : List Value} {σ : am_I} {ρ : am_R} {g : am_J} {τ : am_T} {Q : am_Q} {x0 : Value} {a : Nat} (hs : st.length ≤ 4) : AW d 0 1 [x0] (.ref a :: st) σ ρ g τ Q = AW d 0 4 [x0] (st) σ ρ g τ Q := aw_oin m0 d0_1 rfl rfl hs
theorem d0_4 : decode cX0_init 4 = .ok (.aload_n 0, 1) := by decide +kernel
theorem s0_4 {d : Nat} {st : List Value} {σ : am_I} {ρ : am_R} {g : am_J} {τ : am_T} {Q : am_Q} {v : Nat} : AW d 0 4 [.ref v] (st) σ ρ g τ Q = AW d 0 5 [.ref v] (.ref v :: st) σ ρ g τ Q := aw_lc m0 d0_4 rfl rfl rfl
theorem s0_4n {d : Nat} {st : List Value} {σ : am_I} {ρ : am_R} {g : am_J} {τ : am_T} {Q : am_Q} : AW d 0 4 [.null] (st) σ ρ g τ Q = AW d 0 5 [.null] (.null :: st) σ ρ g τ Q := aw_lc m0 d0_4 rfl rfl rfl
theorem d0_5 : decode cX0_init 5 = .ok (.iconst 0, 1) := by decide +kernel
theorem s0_5 {d : Nat} {st : List Value} {σ : am_I} {ρ : am_R} {g : am_J} {τ : am_T} {Q : am_Q} {x0 : Value} : AW d 0 5 [x0] (st) σ ρ g τ Q = AW d 0 6 [x0] (.int 0 :: st) σ ρ g τ Q := aw_lc m0 d0_5 rfl rfl rfl
theorem d0_6 : decode cX0_init 6 = .ok (.putfield 9, 3) := by decide +kernel
theorem s0_6 {d : Nat} {st : List Value} {σ : am_I} {ρ : am_R} {g : am_J} {τ : am_T} {Q : am_Q} {x0 : Value} {a : Nat} {v : Int32} (ht : τ.1 a = 0) : AW d 0 6 [x0] (.int v :: .ref a :: st) σ ρ g τ Q = AW d 0 9 [x0] (st) (am_u σ a 0 v) ρ g τ Q := aw_pi m0 d0_6 rfl rfl (Or.inl rfl) rfl ht
theorem d0_9 : decode cX0_init 9 = .ok (.aload_n 0, 1) := by decide +kernel
theorem s0_9 {d : Nat} {st : List Value} {σ : am_I} {ρ : am_R} {g : am_J} {τ : am_T} {Q : am_Q} {v : Nat} : AW d 0 9 [.ref v] (st) σ ρ g τ Q = AW d 0 10 [.ref v] (.ref v :: st) σ ρ g τ Q := aw_lc m0 d0_9 rfl rfl rfl
theorem s0_9n {d : Nat} {st : List Value} {σ : am_I} {ρ : am_R} {g : am_J} {τ : am_T} {Q : am_Q} : AW d 0 9 [.null] (st) σ ρ g τ Q = AW d 0 10 [.null] (.null :: st) σ ρ g τ Q := aw_lc m0 d0_9 rfl rfl rfl
theorem d0_10 : decode cX0_init 10 = .ok (.iconst 0, 1) := by decide +kernel
theorem s0_10 {d : Nat} {st : List Value} {σ : am_I} {ρ : am_R} {g : am_J} {τ : am_T} {Q : am_Q} {x0 : Value} : AW d 0 10 [x0] (st) σ ρ g τ Q = AW d 0 11 [x0] (.int 0 :: st) σ ρ g τ Q := aw_lc m0 d0_10 rfl rfl rfl
theorem d0_11 : decode cX0_init 11 = .ok (.putfield 15, 3) := by decide +kernel
theorem s0_11 {d : Nat} {st : List Value} {σ : am_I} {ρ : am_R} {g : am_J} {τ : am_T} {Q : am_Q} {x0 : Value} {a : Nat} {v : Int32} (ht : τ.1 a = 0) : AW d 0 11 [x0] (.int v :: .ref a :: st) σ ρ g τ Q = AW d 0 14 [x0] (st) (am_u σ a 1 v) ρ g τ Q := aw_pi m0 d0_11 rfl rfl (Or.inl rfl) rfl ht
theorem d0_14 : decode cX0_init 14 = .ok (.aload_n 0, 1) := by decide +kernel
theorem s0_14 {d : Nat} {st : List Value} {σ : am_I} {ρ : am_R} {g : am_J} {τ : am_T} {Q : am_Q} {v : Nat} : AW d 0 14 [.ref v] (st) σ ρ g τ Q = AW d 0 15 [.ref v] (.ref v :: st) σ ρ g τ Q := aw_lc m0 d0_14 rfl rfl rfl
theorem s0_14n {d : Nat} {st : List Value} {σ : am_I} {ρ : am_R} {g : am_J} {τ : am_T} {Q : am_Q} : AW d 0 14 [.null] (st) σ ρ g τ Q = AW d 0 15 [.null] (.null :: st) σ ρ g τ Q := aw_lc m0 d0_14 rfl rfl rfl
theorem d0_15 : decode cX0_init 15 = .ok (.iconst 0, 1) := by decide +kernel
theorem s0_15 {d : Nat} {st : List Value} {σ : am_I} {ρ : am_R} {g : am_J} {τ : am_T} {Q : am_Q} {x0 : Value} : AW d 0 15 [x0] (st) σ ρ g τ Q = AW d 0 16 [x0] (.int 0 :: st) σ ρ g τ Q := aw_lc m0 d0_15 rfl rfl rfl
theorem d0_16 : decode cX0_init 16 = .ok (.putfield 18, 3) := by decide +kernel
theorem s0_16 {d : Nat} {st : List Value} {σ : am_I} {ρ : am_R} {g : am_J} {τ : am_T} {Q : am_Q} {x0 : Value} {a : Nat} {v : Int32} (ht : τ.1 a = 0) : AW d 0 16 [x0] (.int v :: .ref a :: st) σ ρ g τ Q = AW d 0 19 [x0] (st) (am_u σ a 2 v) ρ g τ Q := aw_pi m0 d0_16 rfl rfl (Or.inl rfl) rfl ht
theorem d0_19 : decode cX0_init 19 = .ok (.aload_n 0, 1) := by decide +kernel
theorem s0_19 {d : Nat} {st : List Value} {σ : am_I} {ρ : am_R} {g : am_J} {τ : am_T} {Q : am_Q} {v : Nat} : AW d 0 19 [.ref v] (st) σ ρ g τ Q = AW d 0 20 [.ref v] (.ref v :: st) σ ρ g τ Q := aw_lc m0 d0_19 rfl rfl rfl
theorem s0_19n {d : Nat} {st : List Value} {σ : am_I} {ρ : am_R} {g : am_J} {τ : am_T} {Q : am_Q} : AW d 0 19 [.null] (st) σ ρ g τ Q = AW d 0 20 [.null] (.null :: st) σ ρ g τ Q := aw_lc m0 d0_19 rfl rfl rfl
theorem d0_20 : decode cX0_init 20 = .ok (.iconst 0, 1) := by decide +kernel
theorem s0_20 {d : Nat} {st : List Value} {σ : am_I} {ρ : am_R} {g : am_J} {τ : am_T} {Q : am_Q} {x0 : Value} : AW d 0 20 [x0] (st) σ ρ g τ Q = AW d 0 21 [x0] (.int 0 :: st) σ ρ g τ Q := aw_lc m0 d0_20 rfl rfl rfl
theorem d0_21 : decode cX0_init 21 = .ok (.putfield 21, 3) := by decide +kernel
theorem s0_21 {d : Nat} {st : List Value} {σ : am_I} {ρ : am_R} {g : am_J} {τ : am_T} {Q : am_Q} {x0 : Value} {a : Nat} {v : Int32} (ht : τ.1 a = 0) : AW d 0 21 [x0] (.int v :: .ref a :: st) σ ρ g τ Q = AW d 0 24 [x0] (st) (am_u σ a 3 v) ρ g τ Q := aw_pi m0 d0_21 rfl rfl (Or.inl rfl) rfl ht
theorem d0_24 : decode cX0_init 24 = .ok (.aload_n 0, 1) := by decide +kernel
theorem s0_24 {d : Nat} {st : List Value} {σ : am_I} {ρ : am_R} {g : am_J} {τ : am_T} {Q : am_Q} {v : Nat} : AW d 0 24 [.ref v] (st) σ ρ g τ Q = AW d 0 25 [.ref v] (.ref v :: st) σ ρ g τ Q := aw_lc m0 d0_24 rfl rfl rfl
theorem s0_24n {d : Nat} {st : List Value} {σ : am_I} {ρ : am_R} {g : am_J} {τ : am_T} {Q : am_Q} : AW d 0 24 [.null] (st) σ ρ g τ Q = AW d 0 25 [.null] (.null :: st) σ ρ g τ Q := aw_lc m0 d0_24 rfl rfl rfl
theorem d0_25 : decode cX0_init 25 = .ok (.iconst 0, 1) := by decide +kernel
theorem s0_25 {d : Nat} {st : List Value} {σ : am_I} {ρ : am_R} {g : am_J} {τ : am_T} {Q : am_Q} {x0 : Value} : AW d 0 25 [x0] (st) σ ρ g τ Q = AW d 0 26 [x0] (.int 0 :: st) σ ρ g τ Q := aw_lc m0 d0_25 rfl rfl rfl
theorem d0_26 : decode cX0_init 26 = .ok (.putfield 24, 3) := by decide +kernel
theorem s0_26 {d : Nat} {st : List Value} {σ : am_I} {ρ : am_R} {g : am_J} {τ : am_T} {Q : am_Q} {x0 : Value} {a : Nat} {v : Int32} (ht : τ.1 a = 0) (hv : am_b01 v = true) : AW d 0 26 [x0] (.int v :: .ref a :: st) σ ρ g τ Q = AW d 0 29 [x0] (st) (am_u σ a 4 v) ρ g τ Q := aw_pz m0 d0_26 rfl rfl (Or.inl rfl) rfl ht hv
theorem d0_29 : decode cX0_init 29 = .ok (.aload_n 0, 1) := by decide +kernel
theorem s0_29 {d : Nat} {st : List Value} {σ : am_I} {ρ : am_R} {g : am_J} {τ : am_T} {Q : am_Q} {v : Nat} : AW d 0 29 [.ref v] (st) σ ρ g τ Q = AW d 0 30 [.ref v] (.ref v :: st) σ ρ g τ Q := aw_lc m0 d0_29 rfl rfl rfl
theorem s0_29n {d : Nat} {st : List Value} {σ : am_I} {ρ : am_R} {g : am_J} {τ : am_T} {Q : am_Q} : AW d 0 29 [.null] (st) σ ρ g τ Q = AW d 0 30 [.null] (.null :: st) σ ρ g τ Q := aw_lc m0 d0_29 rfl rfl rfl
theorem d0_30 : decode cX0_init 30 = .ok (.bipush 30, 2) := by decide +kernel
theorem s0_30 {d : Nat} {st : List Value} {σ : am_I} {ρ : am_R} {g : am_J} {τ : am_T} {Q : am_Q} {x0 : Value} : AW d 0 30 [x0] (st) σ ρ g τ Q = AW d 0 32 [x0] (.int 30 :: st) σ ρ g τ Q := aw_lc m0 d0_30 rfl rfl rfl
theorem d0_32 : decode cX0_init 32 = .ok (.newarray .int, 2) := by decide +kernel
theorem s0_32 {d : Nat} {st : List Value} {σ : am_I} {ρ : am_R} {g : am_J} {τ : am_T} {Q : am_Q} {x0 : Value} {j : Int32} (hj : ¬ j < 0 ∧ j.toNatClampNeg ≤ 10000) : AW d 0 32 [x0] (.int j :: st) σ ρ g τ Q = AW d 0 34 [x0] (.ref τ.2.2.1 :: st) (am_new 15 j.toNatClampNeg σ ρ g τ).1 (am_new 15 j.toNatClampNeg σ ρ g τ).2.1 (am_new 15 j.toNatClampNeg σ ρ g τ).2.2.1 (am_new 15 j.toNatClampNeg σ ρ g τ).2.2.2 Q := aw_nwa m0 d0_32 rfl rfl (by decide) hj
theorem d0_34 : decode cX0_init 34 = .ok (.putfield 28, 3) := by decide +kernel
theorem s0_34 {d : Nat} {st : List Value} {σ : am_I} {ρ : am_R} {g : am_J} {τ : am_T} {Q : am_Q} {x0 : Value} {a b : Nat} (ht : τ.1 a = 0) : AW d 0 34 [x0] (.ref b :: .ref a :: st) σ ρ g τ Q = AW d 0 37 [x0] (st) σ (am_u ρ a 5 (some b)) g τ Q := aw_pr m0 d0_34 rfl rfl (Or.inr ⟨rfl, rfl⟩) rfl ht
theorem s0_34n {d : Nat} {st : List Value} {σ : am_I} {ρ : am_R} {g : am_J} {τ : am_T} {Q : am_Q} {x0 : Value} {a : Nat} (ht : τ.1 a = 0) : AW d 0 34 [x0] (.null :: .ref a :: st) σ ρ g τ Q = AW d 0 37 [x0] (st) σ (am_u ρ a 5 none) g τ Q := aw_pn m0 d0_34 rfl rfl (Or.inr ⟨rfl, rfl⟩) rfl ht
theorem d0_37 : decode cX0_init 37 = .ok (.aload_n 0, 1) := by decide +kernel
theorem s0_37 {d : Nat} {st : List Value} {σ : am_I} {ρ : am_R} {g : am_J} {τ : am_T} {Q : am_Q} {v : Nat} : AW d 0 37 [.ref v] (st) σ ρ g τ Q = AW d 0 38 [.ref v] (.ref v :: st) σ ρ g τ Q := aw_lc m0 d0_37 rfl rfl rfl
theorem s0_37n {d : Nat} {st : List Value} {σ : am_I} {ρ : am_R} {g : am_J} {τ : am_T} {Q : am_Q} : AW d 0 37 [.null] (st) σ ρ g τ Q = AW d 0 38 [.null] (.null :: st) σ ρ g τ Q := aw_lc m0 d0_37 rfl rfl rfl
theorem d0_38 : decode cX0_init 38 = .ok (.iconst 0, 1) := by decide +kernel
theorem s0_38 {d : Nat} {st : List Value} {σ : am_I} {ρ : am_R} {g : am_J} {τ : am_T} {Q : am_Q} {x0 : Value} : AW d 0 38 [x0] (st) σ ρ g τ Q = AW d 0 39 [x0] (.int 0 :: st) σ ρ g τ Q := aw_lc m0 d0_38 rfl rfl rfl
theorem d0_39 : decode cX0_init 39 = .ok (.putfield 32, 3) := by decide +kernel
theorem s0_39 {d : Nat} {st : List Value} {σ : am_I} {ρ : am_R} {g : am_J} {τ : am_T} {Q : am_Q} {x0 : Value} {a : Nat} {v : Int32} (ht : τ.1 a = 0) : AW d 0 39 [x0] (.int v :: .ref a :: st) σ ρ g τ Q = AW d 0 42 [x0] (st) (am_u σ a 6 v) ρ g τ Q := aw_pi m0 d0_39 rfl rfl (Or.inl rfl) rfl ht
theorem d0_42 : decode cX0_init 42 = .ok (.return_, 1) := by decide +kernel
theorem s0_42 {d : Nat} {σ : am_I} {ρ : am_R} {g : am_J} {τ : am_T} {Q : am_Q} {x0 : Value} : AW d 0 42 [x0] ([]) σ ρ g τ Q = Q none σ ρ g τ := aw_rv m0 d0_42 rfl
theorem d1_0 : decode cX0_isUnder 0 = .ok (.iload_n 0, 1) := by decide +kernel
theorem s1_0 {d : Nat} {st : List Value} {σ : am_I} {ρ : am_R} {g : am_J} {τ : am_T} {Q : am_Q} {x1 x2 x3 : Value} {v : Int32} : AW d 1 0 [.int v, x1, x2, x3] (st) σ ρ g τ Q = AW d 1 1 [.int v, x1, x2, x3] (.int v :: st) σ ρ g τ Q := aw_lc m1 d1_0 rfl rfl rfl
theorem d1_1 : decode cX0_isUnder 1 = .ok (.istore_n 2, 1) := by decide +kernel
theorem s1_1 {d : Nat} {st : List Value} {σ : am_I} {ρ : am_R} {g : am_J} {τ : am_T} {Q : am_Q} {x0 x2 x3 : Value} {v : Int32} {u : Int32} : AW d 1 1 [x0, .int u, x2, x3] (.int v :: st) σ ρ g τ Q = AW d 1 2 [x0, .int u, .int v, x3] (st) σ ρ g τ Q := aw_lc m1 d1_1 rfl rfl rfl
theorem d1_2 : decode cX0_isUnder 2 = .ok (.iconst 0, 1) := by decide +kernel
theorem s1_2 {d : Nat} {st : List Value} {σ : am_I} {ρ : am_R} {g : am_J} {τ : am_T} {Q : am_Q} {x0 x1 x2 x3 : Value} : AW d 1 2 [x0, x1, x2, x3] (st) σ ρ g τ Q = AW d 1 3 [x0, x1, x2, x3] (.int 0 :: st) σ ρ g τ Q := aw_lc m1 d1_2 rfl rfl rfl
theorem d1_3 : decode cX0_isUnder 3 = .ok (.istore_n 3, 1) := by decide +kernel
theorem s1_3 {d : Nat} {st : List Value} {σ : am_I} {ρ : am_R} {g : am_J} {τ : am_T} {Q : am_Q} {x0 x1 x3 : Value} {v : Int32} {u : Int32} : AW d 1 3 [x0, x1, .int u, x3] (.int v :: st) σ ρ g τ Q = AW d 1 4 [x0, x1, .int u, .int v] (st) σ ρ g τ Q := aw_lc m1 d1_3 rfl rfl rfl
theorem d1_4 : decode cX0_isUnder 4 = .ok (.iload_n 3, 1) := by decide +kernel
theorem s1_4 {d : Nat} {st : List Value} {σ : am_I} {ρ : am_R} {g : am_J} {τ : am_T} {Q : am_Q} {x0 x1 x2 : Value} {v : Int32} : AW d 1 4 [x0, x1, x2, .int v] (st) σ ρ g τ Q = AW d 1 5 [x0, x1, x2, .int v] (.int v :: st) σ ρ g τ Q := aw_lc m1 d1_4 rfl rfl rfl
theorem d1_5 : decode cX0_isUnder 5 = .ok (.bipush 7, 2) := by decide +kernel
theorem s1_5 {d : Nat} {st : List Value} {σ : am_I} {ρ : am_R} {g : am_J} {τ : am_T} {Q : am_Q} {x0 x1 x2 x3 : Value} : AW d 1 5 [x0, x1, x2, x3] (st) σ ρ g τ Q = AW d 1 7 [x0, x1, x2, x3] (.int 7 :: st) σ ρ g τ Q := aw_lc m1 d1_5 rfl rfl rfl
theorem d1_7 : decode cX0_isUnder 7 = .ok (.if_icmp .ge 32, 3) := by decide +kernel
theorem s1_7 {d : Nat} {st : List Value} {σ : am_I} {ρ : am_R} {g : am_J} {τ : am_T} {Q : am_Q} {x0 x1 x2 x3 : Value} {v w : Int32} : AW d 1 7 [x0, x1, x2, x3] (.int w :: .int v :: st) σ ρ g τ Q = if w ≤ v then AW d 1 39 [x0, x1, x2, x3] (st) σ ρ g τ Q else AW d 1 10 [x0, x1, x2, x3] (st) σ ρ g τ Q := aw_br m1 d1_7 rfl rfl rfl
theorem d1_10 : decode cX0_isUnder 10 = .ok (.iload_n 2, 1) := by decide +kernel
theorem s1_10 {d : Nat} {st : List Value} {σ : am_I} {ρ : am_R} {g : am_J} {τ : am_T} {Q : am_Q} {x0 x1 x3 : Value} {v : Int32} : AW d 1 10 [x0, x1, .int v, x3] (st) σ ρ g τ Q = AW d 1 11 [x0, x1, .int v, x3] (.int v :: st) σ ρ g τ Q := aw_lc m1 d1_10 rfl rfl rfl
theorem d1_11 : decode cX0_isUnder 11 = .ok (.ifCond .lt 28, 3) := by decide +kernel
theorem s1_11 {d : Nat} {st : List Value} {σ : am_I} {ρ : am_R} {g : am_J} {τ : am_T} {Q : am_Q} {x0 x1 x2 x3 : Value} {v : Int32} : AW d 1 11 [x0, x1, x2, x3] (.int v :: st) σ ρ g τ Q = if v < 0 then AW d 1 39 [x0, x1, x2, x3] (st) σ ρ g τ Q else AW d 1 14 [x0, x1, x2, x3] (st) σ ρ g τ Q := aw_br m1 d1_11 rfl rfl rfl
theorem d1_14 : decode cX0_isUnder 14 = .ok (.iload_n 2, 1) := by decide +kernel
theorem s1_14 {d : Nat} {st : List Value} {σ : am_I} {ρ : am_R} {g : am_J} {τ : am_T} {Q : am_Q} {x0 x1 x3 : Value} {v : Int32} : AW d 1 14 [x0, x1, .int v, x3] (st) σ ρ g τ Q = AW d 1 15 [x0, x1, .int v, x3] (.int v :: st) σ ρ g τ Q := aw_lc m1 d1_14 rfl rfl rfl
theorem d1_15 : decode cX0_isUnder 15 = .ok (.bipush 7, 2) := by decide +kernel
theorem s1_15 {d : Nat} {st : List Value} {σ : am_I} {ρ : am_R} {g : am_J} {τ : am_T} {Q : am_Q} {x0 x1 x2 x3 : Value} : AW d 1 15 [x0, x1, x2, x3] (st) σ ρ g τ Q = AW d 1 17 [x0, x1, x2, x3] (.int 7 :: st) σ ρ g τ Q := aw_lc m1 d1_15 rfl rfl rfl
theorem d1_17 : decode cX0_isUnder 17 = .ok (.if_icmp .ge 22, 3) := by decide +kernel
theorem s1_17 {d : Nat} {st : List Value} {σ : am_I} {ρ : am_R} {g : am_J} {τ : am_T} {Q : am_Q} {x0 x1 x2 x3 : Value} {v w : Int32} : AW d 1 17 [x0, x1, x2, x3] (.int w :: .int v :: st) σ ρ g τ Q = if w ≤ v then AW d 1 39 [x0, x1, x2, x3] (st) σ ρ g τ Q else AW d 1 20 [x0, x1, x2, x3] (st) σ ρ g τ Q := aw_br m1 d1_17 rfl rfl rfl
theorem d1_20 : decode cX0_isUnder 20 = .ok (.iload_n 2, 1) := by decide +kernel
theorem s1_20 {d : Nat} {st : List Value} {σ : am_I} {ρ : am_R} {g : am_J} {τ : am_T} {Q : am_Q} {x0 x1 x3 : Value} {v : Int32} : AW d 1 20 [x0, x1, .int v, x3] (st) σ ρ g τ Q = AW d 1 21 [x0, x1, .int v, x3] (.int v :: st) σ ρ g τ Q := aw_lc m1 d1_20 rfl rfl rfl
theorem d1_21 : decode cX0_isUnder 21 = .ok (.iload_n 1, 1) := by decide +kernel
theorem s1_21 {d : Nat} {st : List Value} {σ : am_I} {ρ : am_R} {g : am_J} {τ : am_T} {Q : am_Q} {x0 x2 x3 : Value} {v : Int32} : AW d 1 21 [x0, .int v, x2, x3] (st) σ ρ g τ Q = AW d 1 22 [x0, .int v, x2, x3] (.int v :: st) σ ρ g τ Q := aw_lc m1 d1_21 rfl rfl rfl
theorem d1_22 : decode cX0_isUnder 22 = .ok (.if_icmp .ne 5, 3) := by decide +kernel
theorem s1_22 {d : Nat} {st : List Value} {σ : am_I} {ρ : am_R} {g : am_J} {τ : am_T} {Q : am_Q} {x0 x1 x2 x3 : Value} {v w : Int32} : AW d 1 22 [x0, x1, x2, x3] (.int w :: .int v :: st) σ ρ g τ Q = if ¬ v = w then AW d 1 27 [x0, x1, x2, x3] (st) σ ρ g τ Q else AW d 1 25 [x0, x1, x2, x3] (st) σ ρ g τ Q := aw_br m1 d1_22 rfl rfl rfl
theorem d1_25 : decode cX0_isUnder 25 = .ok (.iconst 1, 1) := by decide +kernel
theorem s1_25 {d : Nat} {st : List Value} {σ : am_I} {ρ : am_R} {g : am_J} {τ : am_T} {Q : am_Q} {x0 x1 x2 x3 : Value} : AW d 1 25 [x0, x1, x2, x3] (st) σ ρ g τ Q = AW d 1 26 [x0, x1, x2, x3] (.int 1 :: st) σ ρ g τ Q := aw_lc m1 d1_25 rfl rfl rfl
theorem d1_26 : decode cX0_isUnder 26 = .ok (.ireturn, 1) := by decide +kernel
theorem s1_26 {d : Nat} {σ : am_I} {ρ : am_R} {g : am_J} {τ : am_T} {Q : am_Q} {x0 x1 x2 x3 : Value} {v : Int32} (hv : am_b01 v = true) : AW d 1 26 [x0, x1, x2, x3] ([.int v]) σ ρ g τ Q = Q (some (.int v)) σ ρ g τ := aw_rz m1 d1_26 rfl hv
theorem d1_27 : decode cX0_isUnder 27 = .ok (.getstatic 35, 3) := by decide +kernel
theorem s1_27 {d : Nat} {st : List Value} {σ : am_I} {ρ : am_R} {g : am_J} {τ : am_T} {Q : am_Q} {x0 x1 x2 x3 : Value} : AW d 1 27 [x0, x1, x2, x3] (st) σ ρ g τ Q = AW d 1 30 [x0, x1, x2, x3] (.ref am_BG :: st) σ ρ g τ Q := aw_gsa m1 d1_27 rfl rfl
theorem d1_30 : decode cX0_isUnder 30 = .ok (.iload_n 2, 1) := by decide +kernel
theorem s1_30 {d : Nat} {st : List Value} {σ : am_I} {ρ : am_R} {g : am_J} {τ : am_T} {Q : am_Q} {x0 x1 x3 : Value} {v : Int32} : AW d 1 30 [x0, x1, .int v, x3] (st) σ ρ g τ Q = AW d 1 31 [x0, x1, .int v, x3] (.int v :: st) σ ρ g τ Q := aw_lc m1 d1_30 rfl rfl rfl
theorem d1_31 : decode cX0_isUnder 31 = .ok (.iaload, 1) := by decide +kernel
theorem s1_31 {d : Nat} {st : List Value} {σ : am_I} {ρ : am_R} {g : am_J} {τ : am_T} {Q : am_Q} {x0 x1 x2 x3 : Value} {a : Nat} {j : Int32} (ht : τ.1 a = 15) (hj : am_inb j (τ.2.1 a) = true) : AW d 1 31 [x0, x1, x2, x3] (.int j :: .ref a :: st) σ ρ g τ Q = AW d 1 32 [x0, x1, x2, x3] (.int (σ a j.toNatClampNeg) :: st) σ ρ g τ Q := aw_ial m1 d1_31 rfl ht hj
theorem d1_32 : decode cX0_isUnder 32 = .ok (.istore_n 2, 1) := by decide +kernel
theorem s1_32 {d : Nat} {st : List Value} {σ : am_I} {ρ : am_R} {g : am_J} {τ : am_T} {Q : am_Q} {x0 x2 x3 : Value} {v : Int32} {u : Int32} : AW d 1 32 [x0, .int u, x2, x3] (.int v :: st) σ ρ g τ Q = AW d 1 33 [x0, .int u, .int v, x3] (st) σ ρ g τ Q := aw_lc m1 d1_32 rfl rfl rfl
theorem d1_33 : decode cX0_isUnder 33 = .ok (.iinc 3 1, 3) := by decide +kernel
theorem s1_33 {d : Nat} {st : List Value} {σ : am_I} {ρ : am_R} {g : am_J} {τ : am_T} {Q : am_Q} {x0 x1 : Value} {v : Int32} {u : Int32} : AW d 1 33 [x0, x1, .int u, .int v] (st) σ ρ g τ Q = AW d 1 36 [x0, x1, .int u, .int (v + 1)] (st) σ ρ g τ Q := aw_lc m1 d1_33 rfl rfl rfl
theorem d1_36 : decode cX0_isUnder 36 = .ok (.goto (-32), 3) := by decide +kernel
theorem s1_36 {d : Nat} {st : List Value} {σ : am_I} {ρ : am_R} {g : am_J} {τ : am_T} {Q : am_Q} {x0 x1 x2 x3 : Value} : AW d 1 36 [x0, x1, x2, x3] (st) σ ρ g τ Q = AW d 1 4 [x0, x1, x2, x3] (st) σ ρ g τ Q := aw_lc m1 d1_36 rfl rfl rfl
theorem d1_39 : decode cX0_isUnder 39 = .ok (.iconst 0, 1) := by decide +kernel
theorem s1_39 {d : Nat} {st : List Value} {σ : am_I} {ρ : am_R} {g : am_J} {τ : am_T} {Q : am_Q} {x0 x1 x2 x3 : Value} : AW d 1 39 [x0, x1, x2, x3] (st) σ ρ g τ Q = AW d 1 40 [x0, x1, x2, x3] (.int 0 :: st) σ ρ g τ Q := aw_lc m1 d1_39 rfl rfl rfl
theorem d1_40 : decode cX0_isUnder 40 = .ok (.ireturn, 1) := by decide +kernel
theorem s1_40 {d : Nat} {σ : am_I} {ρ : am_R} {g : am_J} {τ : am_T} {Q : am_Q} {x0 x1 x2 x3 : Value} {v : Int32} (hv : am_b01 v = true) : AW d 1 40 [x0, x1, x2, x3] ([.int v]) σ ρ g τ Q = Q (some (.int v)) σ ρ g τ := aw_rz m1 d1_40 rfl hv
theorem d2_0 : decode cX0_turnTo 0 = .ok (.aload_n 0, 1) := by decide +kernel
theorem s2_0 {d : Nat} {st : List Value} {σ : am_I} {ρ : am_R} {g : am_J} {τ : am_T} {Q : am_Q} {x1 x2 x3 x4 : Value} {v : Nat} : AW d 2 0 [.ref v, x1, x2, x3, x4] (st) σ ρ g τ Q = AW d 2 1 [.ref v, x1, x2, x3, x4] (.ref v :: st) σ ρ g τ Q := aw_lc m2 d2_0 rfl rfl rfl
theorem d2_1 : decode cX0_turnTo 1 = .ok (.iload_n 1, 1) := by decide +kernel
theorem s2_1 {d : Nat} {st : List Value} {σ : am_I} {ρ : am_R} {g : am_J} {τ : am_T} {Q : am_Q} {x0 x2 x3 x4 : Value} {v : Int32} : AW d 2 1 [x0, .int v, x2, x3, x4] (st) σ ρ g τ Q = AW d 2 2 [x0, .int v, x2, x3, x4] (.int v :: st) σ ρ g τ Q := aw_lc m2 d2_1 rfl rfl rfl
theorem d2_2 : decode cX0_turnTo 2 = .ok (.putfield 9, 3) := by decide +kernel
theorem s2_2 {d : Nat} {st : List Value} {σ : am_I} {ρ : am_R} {g : am_J} {τ : am_T} {Q : am_Q} {x0 x1 x2 x3 x4 : Value} {a : Nat} {v : Int32} (ht : τ.1 a = 0) : AW d 2 2 [x0, x1, x2, x3, x4] (.int v :: .ref a :: st) σ ρ g τ Q = AW d 2 5 [x0, x1, x2, x3, x4] (st) (am_u σ a 0 v) ρ g τ Q := aw_pi m2 d2_2 rfl rfl (Or.inl rfl) rfl ht
theorem d2_5 : decode cX0_turnTo 5 = .ok (.aload_n 0, 1) := by decide +kernel
theorem s2_5 {d : Nat} {st : List Value} {σ : am_I} {ρ : am_R} {g : am_J} {τ : am_T} {Q : am_Q} {x1 x2 x3 x4 : Value} {v : Nat} : AW d 2 5 [.ref v, x1, x2, x3, x4] (st) σ ρ g τ Q = AW d 2 6 [.ref v, x1, x2, x3, x4] (.ref v :: st) σ ρ g τ Q := aw_lc m2 d2_5 rfl rfl rfl
theorem d2_6 : decode cX0_turnTo 6 = .ok (.iload_n 2, 1) := by decide +kernel
theorem s2_6 {d : Nat} {st : List Value} {σ : am_I} {ρ : am_R} {g : am_J} {τ : am_T} {Q : am_Q} {x0 x1 x3 x4 : Value} {v : Int32} : AW d 2 6 [x0, x1, .int v, x3, x4] (st) σ ρ g τ Q = AW d 2 7 [x0, x1, .int v, x3, x4] (.int v :: st) σ ρ g τ Q := aw_lc m2 d2_6 rfl rfl rfl
theorem d2_7 : decode cX0_turnTo 7 = .ok (.putfield 15, 3) := by decide +kernel
theorem s2_7 {d : Nat} {st : List Value} {σ : am_I} {ρ : am_R} {g : am_J} {τ : am_T} {Q : am_Q} {x0 x1 x2 x3 x4 : Value} {a : Nat} {v : Int32} (ht : τ.1 a = 0) : AW d 2 7 [x0, x1, x2, x3, x4] (.int v :: .ref a :: st) σ ρ g τ Q = AW d 2 10 [x0, x1, x2, x3, x4] (st) (am_u σ a 1 v) ρ g τ Q := aw_pi m2 d2_7 rfl rfl (Or.inl rfl) rfl ht
theorem d2_10 : decode cX0_turnTo 10 = .ok (.aload_n 0, 1) := by decide +kernel
theorem s2_10 {d : Nat} {st : List Value} {σ : am_I} {ρ : am_R} {g : am_J} {τ : am_T} {Q : am_Q} {x1 x2 x3 x4 : Value} {v : Nat} : AW d 2 10 [.ref v, x1, x2, x3, x4] (st) σ ρ g τ Q = AW d 2 11 [.ref v, x1, x2, x3, x4] (.ref v :: st) σ ρ g τ Q := aw_lc m2 d2_10 rfl rfl rfl
theorem d2_11 : decode cX0_turnTo 11 = .ok (.iload_n 3, 1) := by decide +kernel
theorem s2_11 {d : Nat} {st : List Value} {σ : am_I} {ρ : am_R} {g : am_J} {τ : am_T} {Q : am_Q} {x0 x1 x2 x4 : Value} {v : Int32} : AW d 2 11 [x0, x1, x2, .int v, x4] (st) σ ρ g τ Q = AW d 2 12 [x0, x1, x2, .int v, x4] (.int v :: st) σ ρ g τ Q := aw_lc m2 d2_11 rfl rfl rfl
theorem d2_12 : decode cX0_turnTo 12 = .ok (.putfield 18, 3) := by decide +kernel
theorem s2_12 {d : Nat} {st : List Value} {σ : am_I} {ρ : am_R} {g : am_J} {τ : am_T} {Q : am_Q} {x0 x1 x2 x3 x4 : Value} {a : Nat} {v : Int32} (ht : τ.1 a = 0) : AW d 2 12 [x0, x1, x2, x3, x4] (.int v :: .ref a :: st) σ ρ g τ Q = AW d 2 15 [x0, x1, x2, x3, x4] (st) (am_u σ a 2 v) ρ g τ Q := aw_pi m2 d2_12 rfl rfl (Or.inl rfl) rfl ht
theorem d2_15 : decode cX0_turnTo 15 = .ok (.aload_n 0, 1) := by decide +kernel
theorem s2_15 {d : Nat} {st : List Value} {σ : am_I} {ρ : am_R} {g : am_J} {τ : am_T} {Q : am_Q} {x1 x2 x3 x4 : Value} {v : Nat} : AW d 2 15 [.ref v, x1, x2, x3, x4] (st) σ ρ g τ Q = AW d 2 16 [.ref v, x1, x2, x3, x4] (.ref v :: st) σ ρ g τ Q := aw_lc m2 d2_15 rfl rfl rfl
theorem d2_16 : decode cX0_turnTo 16 = .ok (.iload 4, 2) := by decide +kernel
theorem s2_16 {d : Nat} {st : List Value} {σ : am_I} {ρ : am_R} {g : am_J} {τ : am_T} {Q : am_Q} {x0 x1 x2 x3 : Value} {v : Int32} : AW d 2 16 [x0, x1, x2, x3, .int v] (st) σ ρ g τ Q = AW d 2 18 [x0, x1, x2, x3, .int v] (.int v :: st) σ ρ g τ Q := aw_lc m2 d2_16 rfl rfl rfl
theorem d2_18 : decode cX0_turnTo 18 = .ok (.putfield 21, 3) := by decide +kernel
theorem s2_18 {d : Nat} {st : List Value} {σ : am_I} {ρ : am_R} {g : am_J} {τ : am_T} {Q : am_Q} {x0 x1 x2 x3 x4 : Value} {a : Nat} {v : Int32} (ht : τ.1 a = 0) : AW d 2 18 [x0, x1, x2, x3, x4] (.int v :: .ref a :: st) σ ρ g τ Q = AW d 2 21 [x0, x1, x2, x3, x4] (st) (am_u σ a 3 v) ρ g τ Q := aw_pi m2 d2_18 rfl rfl (Or.inl rfl) rfl ht
theorem d2_21 : decode cX0_turnTo 21 = .ok (.return_, 1) := by decide +kernel
theorem s2_21 {d : Nat} {σ : am_I} {ρ : am_R} {g : am_J} {τ : am_T} {Q : am_Q} {x0 x1 x2 x3 x4 : Value} : AW d 2 21 [x0, x1, x2, x3, x4] ([]) σ ρ g τ Q = Q none σ ρ g τ := aw_rv m2 d2_21 rfl
theorem d3_0 : decode cX0_answer 0 = .ok (.aload_n 0, 1) := by decide +kernel
theorem s3_0 {d : Nat} {st : List Value} {σ : am_I} {ρ : am_R} {g : am_J} {τ : am_T} {Q : am_Q} {x1 x2 x3 : Value} {v : Nat} : AW d 3 0 [.ref v, x1, x2, x3] (st) σ ρ g τ Q = AW d 3 1 [.ref v, x1, x2, x3] (.ref v :: st) σ ρ g τ Q := aw_lc m3 d3_0 rfl rfl rfl
theorem d3_1 : decode cX0_answer 1 = .ok (.iconst 0, 1) := by decide +kernel
theorem s3_1 {d : Nat} {st : List Value} {σ : am_I} {ρ : am_R} {g : am_J} {τ : am_T} {Q : am_Q} {x0 x1 x2 x3 : Value} : AW d 3 1 [x0, x1, x2, x3] (st) σ ρ g τ Q = AW d 3 2 [x0, x1, x2, x3] (.int 0 :: st) σ ρ g τ Q := aw_lc m3 d3_1 rfl rfl rfl
theorem d3_2 : decode cX0_answer 2 = .ok (.putfield 24, 3) := by decide +kernel
theorem s3_2 {d : Nat} {st : List Value} {σ : am_I} {ρ : am_R} {g : am_J} {τ : am_T} {Q : am_Q} {x0 x1 x2 x3 : Value} {a : Nat} {v : Int32} (ht : τ.1 a = 0) (hv : am_b01 v = true) : AW d 3 2 [x0, x1, x2, x3] (.int v :: .ref a :: st) σ ρ g τ Q = AW d 3 5 [x0, x1, x2, x3] (st) (am_u σ a 4 v) ρ g τ Q := aw_pz m3 d3_2 rfl rfl (Or.inl rfl) rfl ht hv
theorem d3_5 : decode cX0_answer 5 = .ok (.aload_n 0, 1) := by decide +kernel
theorem s3_5 {d : Nat} {st : List Value} {σ : am_I} {ρ : am_R} {g : am_J} {τ : am_T} {Q : am_Q} {x1 x2 x3 : Value} {v : Nat} : AW d 3 5 [.ref v, x1, x2, x3] (st) σ ρ g τ Q = AW d 3 6 [.ref v, x1, x2, x3] (.ref v :: st) σ ρ g τ Q := aw_lc m3 d3_5 rfl rfl rfl
theorem d3_6 : decode cX0_answer 6 = .ok (.aload_n 0, 1) := by decide +kernel
theorem s3_6 {d : Nat} {st : List Value} {σ : am_I} {ρ : am_R} {g : am_J} {τ : am_T} {Q : am_Q} {x1 x2 x3 : Value} {v : Nat} : AW d 3 6 [.ref v, x1, x2, x3] (st) σ ρ g τ Q = AW d 3 7 [.ref v, x1, x2, x3] (.ref v :: st) σ ρ g τ Q := aw_lc m3 d3_6 rfl rfl rfl
theorem d3_7 : decode cX0_answer 7 = .ok (.getfield 9, 3) := by decide +kernel
theorem s3_7 {d : Nat} {st : List Value} {σ : am_I} {ρ : am_R} {g : am_J} {τ : am_T} {Q : am_Q} {x0 x1 x2 x3 : Value} {a : Nat} (ht : τ.1 a = 0) : AW d 3 7 [x0, x1, x2, x3] (.ref a :: st) σ ρ g τ Q = AW d 3 10 [x0, x1, x2, x3] (.int (σ a 0) :: st) σ ρ g τ Q := aw_gi m3 d3_7 rfl rfl rfl ht
theorem d3_10 : decode cX0_answer 10 = .ok (.iload_n 1, 1) := by decide +kernel
theorem s3_10 {d : Nat} {st : List Value} {σ : am_I} {ρ : am_R} {g : am_J} {τ : am_T} {Q : am_Q} {x0 x2 x3 : Value} {v : Int32} : AW d 3 10 [x0, .int v, x2, x3] (st) σ ρ g τ Q = AW d 3 11 [x0, .int v, x2, x3] (.int v :: st) σ ρ g τ Q := aw_lc m3 d3_10 rfl rfl rfl
theorem d3_11 : decode cX0_answer 11 = .ok (.iload_n 2, 1) := by decide +kernel
theorem s3_11 {d : Nat} {st : List Value} {σ : am_I} {ρ : am_R} {g : am_J} {τ : am_T} {Q : am_Q} {x0 x1 x3 : Value} {v : Int32} : AW d 3 11 [x0, x1, .int v, x3] (st) σ ρ g τ Q = AW d 3 12 [x0, x1, .int v, x3] (.int v :: st) σ ρ g τ Q := aw_lc m3 d3_11 rfl rfl rfl
theorem d3_12 : decode cX0_answer 12 = .ok (.iconst 0, 1) := by decide +kernel
theorem s3_12 {d : Nat} {st : List Value} {σ : am_I} {ρ : am_R} {g : am_J} {τ : am_T} {Q : am_Q} {x0 x1 x2 x3 : Value} : AW d 3 12 [x0, x1, x2, x3] (st) σ ρ g τ Q = AW d 3 13 [x0, x1, x2, x3] (.int 0 :: st) σ ρ g τ Q := aw_lc m3 d3_12 rfl rfl rfl
theorem d3_13 : decode cX0_answer 13 = .ok (.invokevirtual 38, 3) := by decide +kernel
theorem s3_13 {d : Nat} {st : List Value} {σ : am_I} {ρ : am_R} {g : am_J} {τ : am_T} {Q : am_Q} {x0 x1 x2 x3 : Value} {p0 : Nat} {p1 : Int32} {p2 : Int32} {p3 : Int32} {p4 : Int32} (ht : τ.1 p0 = 0) (hs : st.length ≤ 4) : AW (d + 1) 3 13 [x0, x1, x2, x3] (.int p4 :: .int p3 :: .int p2 :: .int p1 :: .ref p0 :: st) σ ρ g τ Q = AW d 4 0 [.ref p0, .int p1, .int p2, .int p3, .int p4, am_jk, am_jk, am_jk] [] σ ρ g τ (fun r9 σ ρ g τ => AW (d + 1) 3 16 [x0, x1, x2, x3] (r9.toList ++ st) σ ρ g τ Q) := aw_cv m3 d3_13 rfl m4 rfl rfl (by decide) en4 ok4 rfl ht hs
theorem d3_16 : decode cX0_answer 16 = .ok (.istore_n 3, 1) := by decide +kernel
theorem s3_16 {d : Nat} {st : List Value} {σ : am_I} {ρ : am_R} {g : am_J} {τ : am_T} {Q : am_Q} {x0 x1 x3 : Value} {v : Int32} {u : Int32} : AW d 3 16 [x0, x1, .int u, x3] (.int v :: st) σ ρ g τ Q = AW d 3 17 [x0, x1, .int u, .int v] (st) σ ρ g τ Q := aw_lc m3 d3_16 rfl rfl rfl
theorem d3_17 : decode cX0_answer 17 = .ok (.aload_n 0, 1) := by decide +kernel
theorem s3_17 {d : Nat} {st : List Value} {σ : am_I} {ρ : am_R} {g : am_J} {τ : am_T} {Q : am_Q} {x1 x2 x3 : Value} {v : Nat} : AW d 3 17 [.ref v, x1, x2, x3] (st) σ ρ g τ Q = AW d 3 18 [.ref v, x1, x2, x3] (.ref v :: st) σ ρ g τ Q := aw_lc m3 d3_17 rfl rfl rfl
theorem d3_18 : decode cX0_answer 18 = .ok (.getfield 24, 3) := by decide +kernel
theorem s3_18 {d : Nat} {st : List Value} {σ : am_I} {ρ : am_R} {g : am_J} {τ : am_T} {Q : am_Q} {x0 x1 x2 x3 : Value} {a : Nat} (ht : τ.1 a = 0) : AW d 3 18 [x0, x1, x2, x3] (.ref a :: st) σ ρ g τ Q = AW d 3 21 [x0, x1, x2, x3] (.int (σ a 4) :: st) σ ρ g τ Q := aw_gi m3 d3_18 rfl rfl rfl ht
theorem d3_21 : decode cX0_answer 21 = .ok (.ifCond .eq 8, 3) := by decide +kernel
theorem s3_21 {d : Nat} {st : List Value} {σ : am_I} {ρ : am_R} {g : am_J} {τ : am_T} {Q : am_Q} {x0 x1 x2 x3 : Value} {v : Int32} : AW d 3 21 [x0, x1, x2, x3] (.int v :: st) σ ρ g τ Q = if v = 0 then AW d 3 29 [x0, x1, x2, x3] (st) σ ρ g τ Q else AW d 3 24 [x0, x1, x2, x3] (st) σ ρ g τ Q := aw_br m3 d3_21 rfl rfl rfl
theorem d3_24 : decode cX0_answer 24 = .ok (.bipush (-15), 2) := by decide +kernel
theorem s3_24 {d : Nat} {st : List Value} {σ : am_I} {ρ : am_R} {g : am_J} {τ : am_T} {Q : am_Q} {x0 x1 x2 x3 : Value} : AW d 3 24 [x0, x1, x2, x3] (st) σ ρ g τ Q = AW d 3 26 [x0, x1, x2, x3] (.int (-15) :: st) σ ρ g τ Q := aw_lc m3 d3_24 rfl rfl rfl
theorem d3_26 : decode cX0_answer 26 = .ok (.goto 4, 3) := by decide +kernel
theorem s3_26 {d : Nat} {st : List Value} {σ : am_I} {ρ : am_R} {g : am_J} {τ : am_T} {Q : am_Q} {x0 x1 x2 x3 : Value} : AW d 3 26 [x0, x1, x2, x3] (st) σ ρ g τ Q = AW d 3 30 [x0, x1, x2, x3] (st) σ ρ g τ Q := aw_lc m3 d3_26 rfl rfl rfl
theorem d3_29 : decode cX0_answer 29 = .ok (.iload_n 3, 1) := by decide +kernel
theorem s3_29 {d : Nat} {st : List Value} {σ : am_I} {ρ : am_R} {g : am_J} {τ : am_T} {Q : am_Q} {x0 x1 x2 : Value} {v : Int32} : AW d 3 29 [x0, x1, x2, .int v] (st) σ ρ g τ Q = AW d 3 30 [x0, x1, x2, .int v] (.int v :: st) σ ρ g τ Q := aw_lc m3 d3_29 rfl rfl rfl
theorem d3_30 : decode cX0_answer 30 = .ok (.ireturn, 1) := by decide +kernel
theorem s3_30 {d : Nat} {σ : am_I} {ρ : am_R} {g : am_J} {τ : am_T} {Q : am_Q} {x0 x1 x2 x3 : Value} {v : Int32} : AW d 3 30 [x0, x1, x2, x3] ([.int v]) σ ρ g τ Q = Q (some (.int v)) σ ρ g τ := aw_ri m3 d3_30 rfl
theorem d4_0 : decode cX0_run 0 = .ok (.iload_n 1, 1) := by decide +kernel
theorem s4_0 {d : Nat} {st : List Value} {σ : am_I} {ρ : am_R} {g : am_J} {τ : am_T} {Q : am_Q} {x0 x2 x3 x4 x5 x6 x7 : Value} {v : Int32} : AW d 4 0 [x0, .int v, x2, x3, x4, x5, x6, x7] (st) σ ρ g τ Q = AW d 4 1 [x0, .int v, x2, x3, x4, x5, x6, x7] (.int v :: st) σ ρ g τ Q := aw_lc m4 d4_0 rfl rfl rfl
theorem d4_1 : decode cX0_run 1 = .ok (.istore 5, 2) := by decide +kernel
theorem s4_1 {d : Nat} {st : List Value} {σ : am_I} {ρ : am_R} {g : am_J} {τ : am_T} {Q : am_Q} {x0 x1 x2 x3 x5 x6 x7 : Value} {v : Int32} {u : Int32} : AW d 4 1 [x0, x1, x2, x3, .int u, x5, x6, x7] (.int v :: st) σ ρ g τ Q = AW d 4 3 [x0, x1, x2, x3, .int u, .int v, x6, x7] (st) σ ρ g τ Q := aw_lc m4 d4_1 rfl rfl rfl
theorem d4_3 : decode cX0_run 3 = .ok (.iconst 0, 1) := by decide +kernel
theorem s4_3 {d : Nat} {st : List Value} {σ : am_I} {ρ : am_R} {g : am_J} {τ : am_T} {Q : am_Q} {x0 x1 x2 x3 x4 x5 x6 x7 : Value} : AW d 4 3 [x0, x1, x2, x3, x4, x5, x6, x7] (st) σ ρ g τ Q = AW d 4 4 [x0, x1, x2, x3, x4, x5, x6, x7] (.int 0 :: st) σ ρ g τ Q := aw_lc m4 d4_3 rfl rfl rfl
theorem d4_4 : decode cX0_run 4 = .ok (.istore 6, 2) := by decide +kernel
theorem s4_4 {d : Nat} {st : List Value} {σ : am_I} {ρ : am_R} {g : am_J} {τ : am_T} {Q : am_Q} {x0 x1 x2 x3 x4 x6 x7 : Value} {v : Int32} {u : Int32} : AW d 4 4 [x0, x1, x2, x3, x4, .int u, x6, x7] (.int v :: st) σ ρ g τ Q = AW d 4 6 [x0, x1, x2, x3, x4, .int u, .int v, x7] (st) σ ρ g τ Q := aw_lc m4 d4_4 rfl rfl rfl
theorem d4_6 : decode cX0_run 6 = .ok (.iload 6, 2) := by decide +kernel
theorem s4_6 {d : Nat} {st : List Value} {σ : am_I} {ρ : am_R} {g : am_J} {τ : am_T} {Q : am_Q} {x0 x1 x2 x3 x4 x5 x7 : Value} {v : Int32} : AW d 4 6 [x0, x1, x2, x3, x4, x5, .int v, x7] (st) σ ρ g τ Q = AW d 4 8 [x0, x1, x2, x3, x4, x5, .int v, x7] (.int v :: st) σ ρ g τ Q := aw_lc m4 d4_6 rfl rfl rfl
theorem d4_8 : decode cX0_run 8 = .ok (.bipush 7, 2) := by decide +kernel
theorem s4_8 {d : Nat} {st : List Value} {σ : am_I} {ρ : am_R} {g : am_J} {τ : am_T} {Q : am_Q} {x0 x1 x2 x3 x4 x5 x6 x7 : Value} : AW d 4 8 [x0, x1, x2, x3, x4, x5, x6, x7] (st) σ ρ g τ Q = AW d 4 10 [x0, x1, x2, x3, x4, x5, x6, x7] (.int 7 :: st) σ ρ g τ Q := aw_lc m4 d4_8 rfl rfl rfl
theorem d4_10 : decode cX0_run 10 = .ok (.if_icmp .ge 35, 3) := by decide +kernel
theorem s4_10 {d : Nat} {st : List Value} {σ : am_I} {ρ : am_R} {g : am_J} {τ : am_T} {Q : am_Q} {x0 x1 x2 x3 x4 x5 x6 x7 : Value} {v w : Int32} : AW d 4 10 [x0, x1, x2, x3, x4, x5, x6, x7] (.int w :: .int v :: st) σ ρ g τ Q = if w ≤ v then AW d 4 45 [x0, x1, x2, x3, x4, x5, x6, x7] (st) σ ρ g τ Q else AW d 4 13 [x0, x1, x2, x3, x4, x5, x6, x7] (st) σ ρ g τ Q := aw_br m4 d4_10 rfl rfl rfl
theorem d4_13 : decode cX0_run 13 = .ok (.iload 5, 2) := by decide +kernel
theorem s4_13 {d : Nat} {st : List Value} {σ : am_I} {ρ : am_R} {g : am_J} {τ : am_T} {Q : am_Q} {x0 x1 x2 x3 x4 x6 x7 : Value} {v : Int32} : AW d 4 13 [x0, x1, x2, x3, x4, .int v, x6, x7] (st) σ ρ g τ Q = AW d 4 15 [x0, x1, x2, x3, x4, .int v, x6, x7] (.int v :: st) σ ρ g τ Q := aw_lc m4 d4_13 rfl rfl rfl
theorem d4_15 : decode cX0_run 15 = .ok (.ifCond .le 30, 3) := by decide +kernel
theorem s4_15 {d : Nat} {st : List Value} {σ : am_I} {ρ : am_R} {g : am_J} {τ : am_T} {Q : am_Q} {x0 x1 x2 x3 x4 x5 x6 x7 : Value} {v : Int32} : AW d 4 15 [x0, x1, x2, x3, x4, x5, x6, x7] (.int v :: st) σ ρ g τ Q = if v ≤ 0 then AW d 4 45 [x0, x1, x2, x3, x4, x5, x6, x7] (st) σ ρ g τ Q else AW d 4 18 [x0, x1, x2, x3, x4, x5, x6, x7] (st) σ ρ g τ Q := aw_br m4 d4_15 rfl rfl rfl
theorem d4_18 : decode cX0_run 18 = .ok (.getstatic 42, 3) := by decide +kernel
theorem s4_18 {d : Nat} {st : List Value} {σ : am_I} {ρ : am_R} {g : am_J} {τ : am_T} {Q : am_Q} {x0 x1 x2 x3 x4 x5 x6 x7 : Value} : AW d 4 18 [x0, x1, x2, x3, x4, x5, x6, x7] (st) σ ρ g τ Q = AW d 4 21 [x0, x1, x2, x3, x4, x5, x6, x7] (.ref (am_BG + 1) :: st) σ ρ g τ Q := aw_gsb m4 d4_18 rfl rfl
theorem d4_21 : decode cX0_run 21 = .ok (.iload 5, 2) := by decide +kernel
theorem s4_21 {d : Nat} {st : List Value} {σ : am_I} {ρ : am_R} {g : am_J} {τ : am_T} {Q : am_Q} {x0 x1 x2 x3 x4 x6 x7 : Value} {v : Int32} : AW d 4 21 [x0, x1, x2, x3, x4, .int v, x6, x7] (st) σ ρ g τ Q = AW d 4 23 [x0, x1, x2, x3, x4, .int v, x6, x7] (.int v :: st) σ ρ g τ Q := aw_lc m4 d4_21 rfl rfl rfl
theorem d4_23 : decode cX0_run 23 = .ok (.iconst 4, 1) := by decide +kernel
theorem s4_23 {d : Nat} {st : List Value} {σ : am_I} {ρ : am_R} {g : am_J} {τ : am_T} {Q : am_Q} {x0 x1 x2 x3 x4 x5 x6 x7 : Value} : AW d 4 23 [x0, x1, x2, x3, x4, x5, x6, x7] (st) σ ρ g τ Q = AW d 4 24 [x0, x1, x2, x3, x4, x5, x6, x7] (.int 4 :: st) σ ρ g τ Q := aw_lc m4 d4_23 rfl rfl rfl
theorem d4_24 : decode cX0_run 24 = .ok (.imul, 1) := by decide +kernel
theorem s4_24 {d : Nat} {st : List Value} {σ : am_I} {ρ : am_R} {g : am_J} {τ : am_T} {Q : am_Q} {x0 x1 x2 x3 x4 x5 x6 x7 : Value} {v w : Int32} : AW d 4 24 [x0, x1, x2, x3, x4, x5, x6, x7] (.int w :: .int v :: st) σ ρ g τ Q = AW d 4 25 [x0, x1, x2, x3, x4, x5, x6, x7] (.int (v * w) :: st) σ ρ g τ Q := aw_lc m4 d4_24 rfl rfl rfl
theorem d4_25 : decode cX0_run 25 = .ok (.iload_n 2, 1) := by decide +kernel
theorem s4_25 {d : Nat} {st : List Value} {σ : am_I} {ρ : am_R} {g : am_J} {τ : am_T} {Q : am_Q} {x0 x1 x3 x4 x5 x6 x7 : Value} {v : Int32} : AW d 4 25 [x0, x1, .int v, x3, x4, x5, x6, x7] (st) σ ρ g τ Q = AW d 4 26 [x0, x1, .int v, x3, x4, x5, x6, x7] (.int v :: st) σ ρ g τ Q := aw_lc m4 d4_25 rfl rfl rfl
theorem d4_26 : decode cX0_run 26 = .ok (.iadd, 1) := by decide +kernel
theorem s4_26 {d : Nat} {st : List Value} {σ : am_I} {ρ : am_R} {g : am_J} {τ : am_T} {Q : am_Q} {x0 x1 x2 x3 x4 x5 x6 x7 : Value} {v w : Int32} : AW d 4 26 [x0, x1, x2, x3, x4, x5, x6, x7] (.int w :: .int v :: st) σ ρ g τ Q = AW d 4 27 [x0, x1, x2, x3, x4, x5, x6, x7] (.int (v + w) :: st) σ ρ g τ Q := aw_lc m4 d4_26 rfl rfl rfl
theorem d4_27 : decode cX0_run 27 = .ok (.iaload, 1) := by decide +kernel
theorem s4_27 {d : Nat} {st : List Value} {σ : am_I} {ρ : am_R} {g : am_J} {τ : am_T} {Q : am_Q} {x0 x1 x2 x3 x4 x5 x6 x7 : Value} {a : Nat} {j : Int32} (ht : τ.1 a = 15) (hj : am_inb j (τ.2.1 a) = true) : AW d 4 27 [x0, x1, x2, x3, x4, x5, x6, x7] (.int j :: .ref a :: st) σ ρ g τ Q = AW d 4 28 [x0, x1, x2, x3, x4, x5, x6, x7] (.int (σ a j.toNatClampNeg) :: st) σ ρ g τ Q := aw_ial m4 d4_27 rfl ht hj
theorem d4_28 : decode cX0_run 28 = .ok (.ifCond .ne 17, 3) := by decide +kernel
theorem s4_28 {d : Nat} {st : List Value} {σ : am_I} {ρ : am_R} {g : am_J} {τ : am_T} {Q : am_Q} {x0 x1 x2 x3 x4 x5 x6 x7 : Value} {v : Int32} : AW d 4 28 [x0, x1, x2, x3, x4, x5, x6, x7] (.int v :: st) σ ρ g τ Q = if ¬ v = 0 then AW d 4 45 [x0, x1, x2, x3, x4, x5, x6, x7] (st) σ ρ g τ Q else AW d 4 31 [x0, x1, x2, x3, x4, x5, x6, x7] (st) σ ρ g τ Q := aw_br m4 d4_28 rfl rfl rfl
theorem d4_31 : decode cX0_run 31 = .ok (.getstatic 35, 3) := by decide +kernel
theorem s4_31 {d : Nat} {st : List Value} {σ : am_I} {ρ : am_R} {g : am_J} {τ : am_T} {Q : am_Q} {x0 x1 x2 x3 x4 x5 x6 x7 : Value} : AW d 4 31 [x0, x1, x2, x3, x4, x5, x6, x7] (st) σ ρ g τ Q = AW d 4 34 [x0, x1, x2, x3, x4, x5, x6, x7] (.ref am_BG :: st) σ ρ g τ Q := aw_gsa m4 d4_31 rfl rfl
theorem d4_34 : decode cX0_run 34 = .ok (.iload 5, 2) := by decide +kernel
theorem s4_34 {d : Nat} {st : List Value} {σ : am_I} {ρ : am_R} {g : am_J} {τ : am_T} {Q : am_Q} {x0 x1 x2 x3 x4 x6 x7 : Value} {v : Int32} : AW d 4 34 [x0, x1, x2, x3, x4, .int v, x6, x7] (st) σ ρ g τ Q = AW d 4 36 [x0, x1, x2, x3, x4, .int v, x6, x7] (.int v :: st) σ ρ g τ Q := aw_lc m4 d4_34 rfl rfl rfl
theorem d4_36 : decode cX0_run 36 = .ok (.iaload, 1) := by decide +kernel
theorem s4_36 {d : Nat} {st : List Value} {σ : am_I} {ρ : am_R} {g : am_J} {τ : am_T} {Q : am_Q} {x0 x1 x2 x3 x4 x5 x6 x7 : Value} {a : Nat} {j : Int32} (ht : τ.1 a = 15) (hj : am_inb j (τ.2.1 a) = true) : AW d 4 36 [x0, x1, x2, x3, x4, x5, x6, x7] (.int j :: .ref a :: st) σ ρ g τ Q = AW d 4 37 [x0, x1, x2, x3, x4, x5, x6, x7] (.int (σ a j.toNatClampNeg) :: st) σ ρ g τ Q := aw_ial m4 d4_36 rfl ht hj
theorem d4_37 : decode cX0_run 37 = .ok (.istore 5, 2) := by decide +kernel
theorem s4_37 {d : Nat} {st : List Value} {σ : am_I} {ρ : am_R} {g : am_J} {τ : am_T} {Q : am_Q} {x0 x1 x2 x3 x5 x6 x7 : Value} {v : Int32} {u : Int32} : AW d 4 37 [x0, x1, x2, x3, .int u, x5, x6, x7] (.int v :: st) σ ρ g τ Q = AW d 4 39 [x0, x1, x2, x3, .int u, .int v, x6, x7] (st) σ ρ g τ Q := aw_lc m4 d4_37 rfl rfl rfl
theorem d4_39 : decode cX0_run 39 = .ok (.iinc 6 1, 3) := by decide +kernel
theorem s4_39 {d : Nat} {st : List Value} {σ : am_I} {ρ : am_R} {g : am_J} {τ : am_T} {Q : am_Q} {x0 x1 x2 x3 x4 x7 : Value} {v : Int32} {u : Int32} : AW d 4 39 [x0, x1, x2, x3, x4, .int u, .int v, x7] (st) σ ρ g τ Q = AW d 4 42 [x0, x1, x2, x3, x4, .int u, .int (v + 1), x7] (st) σ ρ g τ Q := aw_lc m4 d4_39 rfl rfl rfl
theorem d4_42 : decode cX0_run 42 = .ok (.goto (-36), 3) := by decide +kernel
theorem s4_42 {d : Nat} {st : List Value} {σ : am_I} {ρ : am_R} {g : am_J} {τ : am_T} {Q : am_Q} {x0 x1 x2 x3 x4 x5 x6 x7 : Value} : AW d 4 42 [x0, x1, x2, x3, x4, x5, x6, x7] (st) σ ρ g τ Q = AW d 4 6 [x0, x1, x2, x3, x4, x5, x6, x7] (st) σ ρ g τ Q := aw_lc m4 d4_42 rfl rfl rfl
theorem d4_45 : decode cX0_run 45 = .ok (.iload 5, 2) := by decide +kernel
theorem s4_45 {d : Nat} {st : List Value} {σ : am_I} {ρ : am_R} {g : am_J} {τ : am_T} {Q : am_Q} {x0 x1 x2 x3 x4 x6 x7 : Value} {v : Int32} : AW d 4 45 [x0, x1, x2, x3, x4, .int v, x6, x7] (st) σ ρ g τ Q = AW d 4 47 [x0, x1, x2, x3, x4, .int v, x6, x7] (.int v :: st) σ ρ g τ Q := aw_lc m4 d4_45 rfl rfl rfl
theorem d4_47 : decode cX0_run 47 = .ok (.ifCond .lt 10, 3) := by decide +kernel
theorem s4_47 {d : Nat} {st : List Value} {σ : am_I} {ρ : am_R} {g : am_J} {τ : am_T} {Q : am_Q} {x0 x1 x2 x3 x4 x5 x6 x7 : Value} {v : Int32} : AW d 4 47 [x0, x1, x2, x3, x4, x5, x6, x7] (.int v :: st) σ ρ g τ Q = if v < 0 then AW d 4 57 [x0, x1, x2, x3, x4, x5, x6, x7] (st) σ ρ g τ Q else AW d 4 50 [x0, x1, x2, x3, x4, x5, x6, x7] (st) σ ρ g τ Q := aw_br m4 d4_47 rfl rfl rfl
theorem d4_50 : decode cX0_run 50 = .ok (.iload 4, 2) := by decide +kernel
theorem s4_50 {d : Nat} {st : List Value} {σ : am_I} {ρ : am_R} {g : am_J} {τ : am_T} {Q : am_Q} {x0 x1 x2 x3 x5 x6 x7 : Value} {v : Int32} : AW d 4 50 [x0, x1, x2, x3, .int v, x5, x6, x7] (st) σ ρ g τ Q = AW d 4 52 [x0, x1, x2, x3, .int v, x5, x6, x7] (.int v :: st) σ ρ g τ Q := aw_lc m4 d4_50 rfl rfl rfl
theorem d4_52 : decode cX0_run 52 = .ok (.bipush 40, 2) := by decide +kernel
theorem s4_52 {d : Nat} {st : List Value} {σ : am_I} {ρ : am_R} {g : am_J} {τ : am_T} {Q : am_Q} {x0 x1 x2 x3 x4 x5 x6 x7 : Value} : AW d 4 52 [x0, x1, x2, x3, x4, x5, x6, x7] (st) σ ρ g τ Q = AW d 4 54 [x0, x1, x2, x3, x4, x5, x6, x7] (.int 40 :: st) σ ρ g τ Q := aw_lc m4 d4_52 rfl rfl rfl
theorem d4_54 : decode cX0_run 54 = .ok (.if_icmp .le 5, 3) := by decide +kernel
theorem s4_54 {d : Nat} {st : List Value} {σ : am_I} {ρ : am_R} {g : am_J} {τ : am_T} {Q : am_Q} {x0 x1 x2 x3 x4 x5 x6 x7 : Value} {v w : Int32} : AW d 4 54 [x0, x1, x2, x3, x4, x5, x6, x7] (.int w :: .int v :: st) σ ρ g τ Q = if v ≤ w then AW d 4 59 [x0, x1, x2, x3, x4, x5, x6, x7] (st) σ ρ g τ Q else AW d 4 57 [x0, x1, x2, x3, x4, x5, x6, x7] (st) σ ρ g τ Q := aw_br m4 d4_54 rfl rfl rfl
theorem d4_57 : decode cX0_run 57 = .ok (.iconst 0, 1) := by decide +kernel
theorem s4_57 {d : Nat} {st : List Value} {σ : am_I} {ρ : am_R} {g : am_J} {τ : am_T} {Q : am_Q} {x0 x1 x2 x3 x4 x5 x6 x7 : Value} : AW d 4 57 [x0, x1, x2, x3, x4, x5, x6, x7] (st) σ ρ g τ Q = AW d 4 58 [x0, x1, x2, x3, x4, x5, x6, x7] (.int 0 :: st) σ ρ g τ Q := aw_lc m4 d4_57 rfl rfl rfl
theorem d4_58 : decode cX0_run 58 = .ok (.ireturn, 1) := by decide +kernel
theorem s4_58 {d : Nat} {σ : am_I} {ρ : am_R} {g : am_J} {τ : am_T} {Q : am_Q} {x0 x1 x2 x3 x4 x5 x6 x7 : Value} {v : Int32} : AW d 4 58 [x0, x1, x2, x3, x4, x5, x6, x7] ([.int v]) σ ρ g τ Q = Q (some (.int v)) σ ρ g τ := aw_ri m4 d4_58 rfl
theorem d4_59 : decode cX0_run 59 = .ok (.getstatic 42, 3) := by decide +kernel
theorem s4_59 {d : Nat} {st : List Value} {σ : am_I} {ρ : am_R} {g : am_J} {τ : am_T} {Q : am_Q} {x0 x1 x2 x3 x4 x5 x6 x7 : Value} : AW d 4 59 [x0, x1, x2, x3, x4, x5, x6, x7] (st) σ ρ g τ Q = AW d 4 62 [x0, x1, x2, x3, x4, x5, x6, x7] (.ref (am_BG + 1) :: st) σ ρ g τ Q := aw_gsb m4 d4_59 rfl rfl
theorem d4_62 : decode cX0_run 62 = .ok (.iload 5, 2) := by decide +kernel
theorem s4_62 {d : Nat} {st : List Value} {σ : am_I} {ρ : am_R} {g : am_J} {τ : am_T} {Q : am_Q} {x0 x1 x2 x3 x4 x6 x7 : Value} {v : Int32} : AW d 4 62 [x0, x1, x2, x3, x4, .int v, x6, x7] (st) σ ρ g τ Q = AW d 4 64 [x0, x1, x2, x3, x4, .int v, x6, x7] (.int v :: st) σ ρ g τ Q := aw_lc m4 d4_62 rfl rfl rfl
theorem d4_64 : decode cX0_run 64 = .ok (.iconst 4, 1) := by decide +kernel
theorem s4_64 {d : Nat} {st : List Value} {σ : am_I} {ρ : am_R} {g : am_J} {τ : am_T} {Q : am_Q} {x0 x1 x2 x3 x4 x5 x6 x7 : Value} : AW d 4 64 [x0, x1, x2, x3, x4, x5, x6, x7] (st) σ ρ g τ Q = AW d 4 65 [x0, x1, x2, x3, x4, x5, x6, x7] (.int 4 :: st) σ ρ g τ Q := aw_lc m4 d4_64 rfl rfl rfl
theorem d4_65 : decode cX0_run 65 = .ok (.imul, 1) := by decide +kernel
theorem s4_65 {d : Nat} {st : List Value} {σ : am_I} {ρ : am_R} {g : am_J} {τ : am_T} {Q : am_Q} {x0 x1 x2 x3 x4 x5 x6 x7 : Value} {v w : Int32} : AW d 4 65 [x0, x1, x2, x3, x4, x5, x6, x7] (.int w :: .int v :: st) σ ρ g τ Q = AW d 4 66 [x0, x1, x2, x3, x4, x5, x6, x7] (.int (v * w) :: st) σ ρ g τ Q := aw_lc m4 d4_65 rfl rfl rfl
theorem d4_66 : decode cX0_run 66 = .ok (.iload_n 2, 1) := by decide +kernel
theorem s4_66 {d : Nat} {st : List Value} {σ : am_I} {ρ : am_R} {g : am_J} {τ : am_T} {Q : am_Q} {x0 x1 x3 x4 x5 x6 x7 : Value} {v : Int32} : AW d 4 66 [x0, x1, .int v, x3, x4, x5, x6, x7] (st) σ ρ g τ Q = AW d 4 67 [x0, x1, .int v, x3, x4, x5, x6, x7] (.int v :: st) σ ρ g τ Q := aw_lc m4 d4_66 rfl rfl rfl
theorem d4_67 : decode cX0_run 67 = .ok (.iadd, 1) := by decide +kernel
theorem s4_67 {d : Nat} {st : List Value} {σ : am_I} {ρ : am_R} {g : am_J} {τ : am_T} {Q : am_Q} {x0 x1 x2 x3 x4 x5 x6 x7 : Value} {v w : Int32} : AW d 4 67 [x0, x1, x2, x3, x4, x5, x6, x7] (.int w :: .int v :: st) σ ρ g τ Q = AW d 4 68 [x0, x1, x2, x3, x4, x5, x6, x7] (.int (v + w) :: st) σ ρ g τ Q := aw_lc m4 d4_67 rfl rfl rfl
theorem d4_68 : decode cX0_run 68 = .ok (.iaload, 1) := by decide +kernel
theorem s4_68 {d : Nat} {st : List Value} {σ : am_I} {ρ : am_R} {g : am_J} {τ : am_T} {Q : am_Q} {x0 x1 x2 x3 x4 x5 x6 x7 : Value} {a : Nat} {j : Int32} (ht : τ.1 a = 15) (hj : am_inb j (τ.2.1 a) = true) : AW d 4 68 [x0, x1, x2, x3, x4, x5, x6, x7] (.int j :: .ref a :: st) σ ρ g τ Q = AW d 4 69 [x0, x1, x2, x3, x4, x5, x6, x7] (.int (σ a j.toNatClampNeg) :: st) σ ρ g τ Q := aw_ial m4 d4_68 rfl ht hj
theorem d4_69 : decode cX0_run 69 = .ok (.istore 6, 2) := by decide +kernel
theorem s4_69 {d : Nat} {st : List Value} {σ : am_I} {ρ : am_R} {g : am_J} {τ : am_T} {Q : am_Q} {x0 x1 x2 x3 x4 x6 x7 : Value} {v : Int32} {u : Int32} : AW d 4 69 [x0, x1, x2, x3, x4, .int u, x6, x7] (.int v :: st) σ ρ g τ Q = AW d 4 71 [x0, x1, x2, x3, x4, .int u, .int v, x7] (st) σ ρ g τ Q := aw_lc m4 d4_69 rfl rfl rfl
theorem d4_71 : decode cX0_run 71 = .ok (.aload_n 0, 1) := by decide +kernel
theorem s4_71 {d : Nat} {st : List Value} {σ : am_I} {ρ : am_R} {g : am_J} {τ : am_T} {Q : am_Q} {x1 x2 x3 x4 x5 x6 x7 : Value} {v : Nat} : AW d 4 71 [.ref v, x1, x2, x3, x4, x5, x6, x7] (st) σ ρ g τ Q = AW d 4 72 [.ref v, x1, x2, x3, x4, x5, x6, x7] (.ref v :: st) σ ρ g τ Q := aw_lc m4 d4_71 rfl rfl rfl
theorem d4_72 : decode cX0_run 72 = .ok (.iload 6, 2) := by decide +kernel
theorem s4_72 {d : Nat} {st : List Value} {σ : am_I} {ρ : am_R} {g : am_J} {τ : am_T} {Q : am_Q} {x0 x1 x2 x3 x4 x5 x7 : Value} {v : Int32} : AW d 4 72 [x0, x1, x2, x3, x4, x5, .int v, x7] (st) σ ρ g τ Q = AW d 4 74 [x0, x1, x2, x3, x4, x5, .int v, x7] (.int v :: st) σ ρ g τ Q := aw_lc m4 d4_72 rfl rfl rfl
theorem d4_74 : decode cX0_run 74 = .ok (.invokevirtual 45, 3) := by decide +kernel
theorem s4_74 {d : Nat} {st : List Value} {σ : am_I} {ρ : am_R} {g : am_J} {τ : am_T} {Q : am_Q} {x0 x1 x2 x3 x4 x5 x6 x7 : Value} {p0 : Nat} {p1 : Int32} (ht : τ.1 p0 = 0) (hs : st.length ≤ 4) : AW (d + 1) 4 74 [x0, x1, x2, x3, x4, x5, x6, x7] (.int p1 :: .ref p0 :: st) σ ρ g τ Q = AW d 6 0 [.ref p0, .int p1] [] σ ρ g τ (fun r9 σ ρ g τ => AW (d + 1) 4 77 [x0, x1, x2, x3, x4, x5, x6, x7] (r9.toList ++ st) σ ρ g τ Q) := aw_cv m4 d4_74 rfl m6 rfl rfl (by decide) en6 ok6 rfl ht hs
theorem d4_77 : decode cX0_run 77 = .ok (.iload 4, 2) := by decide +kernel
theorem s4_77 {d : Nat} {st : List Value} {σ : am_I} {ρ : am_R} {g : am_J} {τ : am_T} {Q : am_Q} {x0 x1 x2 x3 x5 x6 x7 : Value} {v : Int32} : AW d 4 77 [x0, x1, x2, x3, .int v, x5, x6, x7] (st) σ ρ g τ Q = AW d 4 79 [x0, x1, x2, x3, .int v, x5, x6, x7] (.int v :: st) σ ρ g τ Q := aw_lc m4 d4_77 rfl rfl rfl
theorem d4_79 : decode cX0_run 79 = .ok (.iconst 1, 1) := by decide +kernel
theorem s4_79 {d : Nat} {st : List Value} {σ : am_I} {ρ : am_R} {g : am_J} {τ : am_T} {Q : am_Q} {x0 x1 x2 x3 x4 x5 x6 x7 : Value} : AW d 4 79 [x0, x1, x2, x3, x4, x5, x6, x7] (st) σ ρ g τ Q = AW d 4 80 [x0, x1, x2, x3, x4, x5, x6, x7] (.int 1 :: st) σ ρ g τ Q := aw_lc m4 d4_79 rfl rfl rfl
theorem d4_80 : decode cX0_run 80 = .ok (.iadd, 1) := by decide +kernel
theorem s4_80 {d : Nat} {st : List Value} {σ : am_I} {ρ : am_R} {g : am_J} {τ : am_T} {Q : am_Q} {x0 x1 x2 x3 x4 x5 x6 x7 : Value} {v w : Int32} : AW d 4 80 [x0, x1, x2, x3, x4, x5, x6, x7] (.int w :: .int v :: st) σ ρ g τ Q = AW d 4 81 [x0, x1, x2, x3, x4, x5, x6, x7] (.int (v + w) :: st) σ ρ g τ Q := aw_lc m4 d4_80 rfl rfl rfl
theorem d4_81 : decode cX0_run 81 = .ok (.istore 7, 2) := by decide +kernel
theorem s4_81 {d : Nat} {st : List Value} {σ : am_I} {ρ : am_R} {g : am_J} {τ : am_T} {Q : am_Q} {x0 x1 x2 x3 x4 x5 x7 : Value} {v : Int32} {u : Int32} : AW d 4 81 [x0, x1, x2, x3, x4, x5, .int u, x7] (.int v :: st) σ ρ g τ Q = AW d 4 83 [x0, x1, x2, x3, x4, x5, .int u, .int v] (st) σ ρ g τ Q := aw_lc m4 d4_81 rfl rfl rfl
theorem d4_83 : decode cX0_run 83 = .ok (.iload 6, 2) := by decide +kernel
theorem s4_83 {d : Nat} {st : List Value} {σ : am_I} {ρ : am_R} {g : am_J} {τ : am_T} {Q : am_Q} {x0 x1 x2 x3 x4 x5 x7 : Value} {v : Int32} : AW d 4 83 [x0, x1, x2, x3, x4, x5, .int v, x7] (st) σ ρ g τ Q = AW d 4 85 [x0, x1, x2, x3, x4, x5, .int v, x7] (.int v :: st) σ ρ g τ Q := aw_lc m4 d4_83 rfl rfl rfl
theorem d4_85 : decode cX0_run 85 = .ok (.lookupswitch 357 #[(10, 115), (11, 122), (12, 137), (13, 155), (20, 170), (30, 190), (31, 207), (40, 235), (41, 252), (50, 269), (60, 286), (61, 306), (70, 326)], 115) := by decide +kernel
theorem s4_85_10 {d : Nat} {st : List Value} {σ : am_I} {ρ : am_R} {g : am_J} {τ : am_T} {Q : am_Q} {x0 x1 x2 x3 x4 x5 x6 x7 : Value} : AW d 4 85 [x0, x1, x2, x3, x4, x5, x6, x7] (.int 10 :: st) σ ρ g τ Q = AW d 4 200 [x0, x1, x2, x3, x4, x5, x6, x7] (st) σ ρ g τ Q := aw_lc m4 d4_85 rfl rfl rfl
theorem s4_85_11 {d : Nat} {st : List Value} {σ : am_I} {ρ : am_R} {g : am_J} {τ : am_T} {Q : am_Q} {x0 x1 x2 x3 x4 x5 x6 x7 : Value} : AW d 4 85 [x0, x1, x2, x3, x4, x5, x6, x7] (.int 11 :: st) σ ρ g τ Q = AW d 4 207 [x0, x1, x2, x3, x4, x5, x6, x7] (st) σ ρ g τ Q := aw_lc m4 d4_85 rfl rfl rfl
theorem s4_85_12 {d : Nat} {st : List Value} {σ : am_I} {ρ : am_R} {g : am_J} {τ : am_T} {Q : am_Q} {x0 x1 x2 x3 x4 x5 x6 x7 : Value} : AW d 4 85 [x0, x1, x2, x3, x4, x5, x6, x7] (.int 12 :: st) σ ρ g τ Q = AW d 4 222 [x0, x1, x2, x3, x4, x5, x6, x7] (st) σ ρ g τ Q := aw_lc m4 d4_85 rfl rfl rfl
theorem s4_85_13 {d : Nat} {st : List Value} {σ : am_I} {ρ : am_R} {g : am_J} {τ : am_T} {Q : am_Q} {x0 x1 x2 x3 x4 x5 x6 x7 : Value} : AW d 4 85 [x0, x1, x2, x3, x4, x5, x6, x7] (.int 13 :: st) σ ρ g τ Q = AW d 4 240 [x0, x1, x2, x3, x4, x5, x6, x7] (st) σ ρ g τ Q := aw_lc m4 d4_85 rfl rfl rfl
theorem s4_85_20 {d : Nat} {st : List Value} {σ : am_I} {ρ : am_R} {g : am_J} {τ : am_T} {Q : am_Q} {x0 x1 x2 x3 x4 x5 x6 x7 : Value} : AW d 4 85 [x0, x1, x2, x3, x4, x5, x6, x7] (.int 20 :: st) σ ρ g τ Q = AW d 4 255 [x0, x1, x2, x3, x4, x5, x6, x7] (st) σ ρ g τ Q := aw_lc m4 d4_85 rfl rfl rfl
theorem s4_85_30 {d : Nat} {st : List Value} {σ : am_I} {ρ : am_R} {g : am_J} {τ : am_T} {Q : am_Q} {x0 x1 x2 x3 x4 x5 x6 x7 : Value} : AW d 4 85 [x0, x1, x2, x3, x4, x5, x6, x7] (.int 30 :: st) σ ρ g τ Q = AW d 4 275 [x0, x1, x2, x3, x4, x5, x6, x7] (st) σ ρ g τ Q := aw_lc m4 d4_85 rfl rfl rfl
theorem s4_85_31 {d : Nat} {st : List Value} {σ : am_I} {ρ : am_R} {g : am_J} {τ : am_T} {Q : am_Q} {x0 x1 x2 x3 x4 x5 x6 x7 : Value} : AW d 4 85 [x0, x1, x2, x3, x4, x5, x6, x7] (.int 31 :: st) σ ρ g τ Q = AW d 4 292 [x0, x1, x2, x3, x4, x5, x6, x7] (st) σ ρ g τ Q := aw_lc m4 d4_85 rfl rfl rfl
theorem s4_85_40 {d : Nat} {st : List Value} {σ : am_I} {ρ : am_R} {g : am_J} {τ : am_T} {Q : am_Q} {x0 x1 x2 x3 x4 x5 x6 x7 : Value} : AW d 4 85 [x0, x1, x2, x3, x4, x5, x6, x7] (.int 40 :: st) σ ρ g τ Q = AW d 4 320 [x0, x1, x2, x3, x4, x5, x6, x7] (st) σ ρ g τ Q := aw_lc m4 d4_85 rfl rfl rfl
theorem s4_85_41 {d : Nat} {st : List Value} {σ : am_I} {ρ : am_R} {g : am_J} {τ : am_T} {Q : am_Q} {x0 x1 x2 x3 x4 x5 x6 x7 : Value} : AW d 4 85 [x0, x1, x2, x3, x4, x5, x6, x7] (.int 41 :: st) σ ρ g τ Q = AW d 4 337 [x0, x1, x2, x3, x4, x5, x6, x7] (st) σ ρ g τ Q := aw_lc m4 d4_85 rfl rfl rfl
theorem s4_85_50 {d : Nat} {st : List Value} {σ : am_I} {ρ : am_R} {g : am_J} {τ : am_T} {Q : am_Q} {x0 x1 x2 x3 x4 x5 x6 x7 : Value} : AW d 4 85 [x0, x1, x2, x3, x4, x5, x6, x7] (.int 50 :: st) σ ρ g τ Q = AW d 4 354 [x0, x1, x2, x3, x4, x5, x6, x7] (st) σ ρ g τ Q := aw_lc m4 d4_85 rfl rfl rfl
theorem s4_85_60 {d : Nat} {st : List Value} {σ : am_I} {ρ : am_R} {g : am_J} {τ : am_T} {Q : am_Q} {x0 x1 x2 x3 x4 x5 x6 x7 : Value} : AW d 4 85 [x0, x1, x2, x3, x4, x5, x6, x7] (.int 60 :: st) σ ρ g τ Q = AW d 4 371 [x0, x1, x2, x3, x4, x5, x6, x7] (st) σ ρ g τ Q := aw_lc m4 d4_85 rfl rfl rfl
theorem s4_85_61 {d : Nat} {st : List Value} {σ : am_I} {ρ : am_R} {g : am_J} {τ : am_T} {Q : am_Q} {x0 x1 x2 x3 x4 x5 x6 x7 : Value} : AW d 4 85 [x0, x1, x2, x3, x4, x5, x6, x7] (.int 61 :: st) σ ρ g τ Q = AW d 4 391 [x0, x1, x2, x3, x4, x5, x6, x7] (st) σ ρ g τ Q := aw_lc m4 d4_85 rfl rfl rfl
theorem s4_85_70 {d : Nat} {st : List Value} {σ : am_I} {ρ : am_R} {g : am_J} {τ : am_T} {Q : am_Q} {x0 x1 x2 x3 x4 x5 x6 x7 : Value} : AW d 4 85 [x0, x1, x2, x3, x4, x5, x6, x7] (.int 70 :: st) σ ρ g τ Q = AW d 4 411 [x0, x1, x2, x3, x4, x5, x6, x7] (st) σ ρ g τ Q := aw_lc m4 d4_85 rfl rfl rfl
theorem s4_85_d {d : Nat} {st : List Value} {σ : am_I} {ρ : am_R} {g : am_J} {τ : am_T} {Q : am_Q} {x0 x1 x2 x3 x4 x5 x6 x7 : Value} {v : Int32} (h : Op.lookupswitch.offset [(10, 115), (11, 122), (12, 137), (13, 155), (20, 170), (30, 190), (31, 207), (40, 235), (41, 252), (50, 269), (60, 286), (61, 306), (70, 326)] 357 v.toInt = 357) : AW d 4 85 [x0, x1, x2, x3, x4, x5, x6, x7] (.int v :: st) σ ρ g τ Q = AW d 4 442 [x0, x1, x2, x3, x4, x5, x6, x7] (st) σ ρ g τ Q := aw_lc m4 d4_85 rfl rfl (by simp only [am_lc]; rw [if_pos (by decide), h]; rfl)
theorem d4_200 : decode cX0_run 200 = .ok (.iload_n 3, 1) := by decide +kernel
theorem s4_200 {d : Nat} {st : List Value} {σ : am_I} {ρ : am_R} {g : am_J} {τ : am_T} {Q : am_Q} {x0 x1 x2 x4 x5 x6 x7 : Value} {v : Int32} : AW d 4 200 [x0, x1, x2, .int v, x4, x5, x6, x7] (st) σ ρ g τ Q = AW d 4 201 [x0, x1, x2, .int v, x4, x5, x6, x7] (.int v :: st) σ ρ g τ Q := aw_lc m4 d4_200 rfl rfl rfl
theorem d4_201 : decode cX0_run 201 = .ok (.aload_n 0, 1) := by decide +kernel
theorem s4_201 {d : Nat} {st : List Value} {σ : am_I} {ρ : am_R} {g : am_J} {τ : am_T} {Q : am_Q} {x1 x2 x3 x4 x5 x6 x7 : Value} {v : Nat} : AW d 4 201 [.ref v, x1, x2, x3, x4, x5, x6, x7] (st) σ ρ g τ Q = AW d 4 202 [.ref v, x1, x2, x3, x4, x5, x6, x7] (.ref v :: st) σ ρ g τ Q := aw_lc m4 d4_201 rfl rfl rfl
theorem d4_202 : decode cX0_run 202 = .ok (.getfield 21, 3) := by decide +kernel
theorem s4_202 {d : Nat} {st : List Value} {σ : am_I} {ρ : am_R} {g : am_J} {τ : am_T} {Q : am_Q} {x0 x1 x2 x3 x4 x5 x6 x7 : Value} {a : Nat} (ht : τ.1 a = 0) : AW d 4 202 [x0, x1, x2, x3, x4, x5, x6, x7] (.ref a :: st) σ ρ g τ Q = AW d 4 205 [x0, x1, x2, x3, x4, x5, x6, x7] (.int (σ a 3) :: st) σ ρ g τ Q := aw_gi m4 d4_202 rfl rfl rfl ht
theorem d4_205 : decode cX0_run 205 = .ok (.iadd, 1) := by decide +kernel
theorem s4_205 {d : Nat} {st : List Value} {σ : am_I} {ρ : am_R} {g : am_J} {τ : am_T} {Q : am_Q} {x0 x1 x2 x3 x4 x5 x6 x7 : Value} {v w : Int32} : AW d 4 205 [x0, x1, x2, x3, x4, x5, x6, x7] (.int w :: .int v :: st) σ ρ g τ Q = AW d 4 206 [x0, x1, x2, x3, x4, x5, x6, x7] (.int (v + w) :: st) σ ρ g τ Q := aw_lc m4 d4_205 rfl rfl rfl
theorem d4_206 : decode cX0_run 206 = .ok (.ireturn, 1) := by decide +kernel
theorem s4_206 {d : Nat} {σ : am_I} {ρ : am_R} {g : am_J} {τ : am_T} {Q : am_Q} {x0 x1 x2 x3 x4 x5 x6 x7 : Value} {v : Int32} : AW d 4 206 [x0, x1, x2, x3, x4, x5, x6, x7] ([.int v]) σ ρ g τ Q = Q (some (.int v)) σ ρ g τ := aw_ri m4 d4_206 rfl
theorem d4_207 : decode cX0_run 207 = .ok (.aload_n 0, 1) := by decide +kernel
theorem s4_207 {d : Nat} {st : List Value} {σ : am_I} {ρ : am_R} {g : am_J} {τ : am_T} {Q : am_Q} {x1 x2 x3 x4 x5 x6 x7 : Value} {v : Nat} : AW d 4 207 [.ref v, x1, x2, x3, x4, x5, x6, x7] (st) σ ρ g τ Q = AW d 4 208 [.ref v, x1, x2, x3, x4, x5, x6, x7] (.ref v :: st) σ ρ g τ Q := aw_lc m4 d4_207 rfl rfl rfl
theorem d4_208 : decode cX0_run 208 = .ok (.aload_n 0, 1) := by decide +kernel
theorem s4_208 {d : Nat} {st : List Value} {σ : am_I} {ρ : am_R} {g : am_J} {τ : am_T} {Q : am_Q} {x1 x2 x3 x4 x5 x6 x7 : Value} {v : Nat} : AW d 4 208 [.ref v, x1, x2, x3, x4, x5, x6, x7] (st) σ ρ g τ Q = AW d 4 209 [.ref v, x1, x2, x3, x4, x5, x6, x7] (.ref v :: st) σ ρ g τ Q := aw_lc m4 d4_208 rfl rfl rfl
theorem d4_209 : decode cX0_run 209 = .ok (.getfield 9, 3) := by decide +kernel
theorem s4_209 {d : Nat} {st : List Value} {σ : am_I} {ρ : am_R} {g : am_J} {τ : am_T} {Q : am_Q} {x0 x1 x2 x3 x4 x5 x6 x7 : Value} {a : Nat} (ht : τ.1 a = 0) : AW d 4 209 [x0, x1, x2, x3, x4, x5, x6, x7] (.ref a :: st) σ ρ g τ Q = AW d 4 212 [x0, x1, x2, x3, x4, x5, x6, x7] (.int (σ a 0) :: st) σ ρ g τ Q := aw_gi m4 d4_209 rfl rfl rfl ht
theorem d4_212 : decode cX0_run 212 = .ok (.iconst 0, 1) := by decide +kernel
theorem s4_212 {d : Nat} {st : List Value} {σ : am_I} {ρ : am_R} {g : am_J} {τ : am_T} {Q : am_Q} {x0 x1 x2 x3 x4 x5 x6 x7 : Value} : AW d 4 212 [x0, x1, x2, x3, x4, x5, x6, x7] (st) σ ρ g τ Q = AW d 4 213 [x0, x1, x2, x3, x4, x5, x6, x7] (.int 0 :: st) σ ρ g τ Q := aw_lc m4 d4_212 rfl rfl rfl
theorem d4_213 : decode cX0_run 213 = .ok (.iload_n 3, 1) := by decide +kernel
theorem s4_213 {d : Nat} {st : List Value} {σ : am_I} {ρ : am_R} {g : am_J} {τ : am_T} {Q : am_Q} {x0 x1 x2 x4 x5 x6 x7 : Value} {v : Int32} : AW d 4 213 [x0, x1, x2, .int v, x4, x5, x6, x7] (st) σ ρ g τ Q = AW d 4 214 [x0, x1, x2, .int v, x4, x5, x6, x7] (.int v :: st) σ ρ g τ Q := aw_lc m4 d4_213 rfl rfl rfl
theorem d4_214 : decode cX0_run 214 = .ok (.iload 7, 2) := by decide +kernel
theorem s4_214 {d : Nat} {st : List Value} {σ : am_I} {ρ : am_R} {g : am_J} {τ : am_T} {Q : am_Q} {x0 x1 x2 x3 x4 x5 x6 : Value} {v : Int32} : AW d 4 214 [x0, x1, x2, x3, x4, x5, x6, .int v] (st) σ ρ g τ Q = AW d 4 216 [x0, x1, x2, x3, x4, x5, x6, .int v] (.int v :: st) σ ρ g τ Q := aw_lc m4 d4_214 rfl rfl rfl
theorem d4_216 : decode cX0_run 216 = .ok (.invokevirtual 38, 3) := by decide +kernel
theorem s4_216 {d : Nat} {st : List Value} {σ : am_I} {ρ : am_R} {g : am_J} {τ : am_T} {Q : am_Q} {x0 x1 x2 x3 x4 x5 x6 x7 : Value} {p0 : Nat} {p1 : Int32} {p2 : Int32} {p3 : Int32} {p4 : Int32} (ht : τ.1 p0 = 0) (hs : st.length ≤ 4) : AW (d + 1) 4 216 [x0, x1, x2, x3, x4, x5, x6, x7] (.int p4 :: .int p3 :: .int p2 :: .int p1 :: .ref p0 :: st) σ ρ g τ Q = AW d 4 0 [.ref p0, .int p1, .int p2, .int p3, .int p4, am_jk, am_jk, am_jk] [] σ ρ g τ (fun r9 σ ρ g τ => AW (d + 1) 4 219 [x0, x1, x2, x3, x4, x5, x6, x7] (r9.toList ++ st) σ ρ g τ Q) := aw_cv m4 d4_216 rfl m4 rfl rfl (by decide) en4 ok4 rfl ht hs
theorem d4_219 : decode cX0_run 219 = .ok (.iconst 2, 1) := by decide +kernel
theorem s4_219 {d : Nat} {st : List Value} {σ : am_I} {ρ : am_R} {g : am_J} {τ : am_T} {Q : am_Q} {x0 x1 x2 x3 x4 x5 x6 x7 : Value} : AW d 4 219 [x0, x1, x2, x3, x4, x5, x6, x7] (st) σ ρ g τ Q = AW d 4 220 [x0, x1, x2, x3, x4, x5, x6, x7] (.int 2 :: st) σ ρ g τ Q := aw_lc m4 d4_219 rfl rfl rfl
theorem d4_220 : decode cX0_run 220 = .ok (.imul, 1) := by decide +kernel
theorem s4_220 {d : Nat} {st : List Value} {σ : am_I} {ρ : am_R} {g : am_J} {τ : am_T} {Q : am_Q} {x0 x1 x2 x3 x4 x5 x6 x7 : Value} {v w : Int32} : AW d 4 220 [x0, x1, x2, x3, x4, x5, x6, x7] (.int w :: .int v :: st) σ ρ g τ Q = AW d 4 221 [x0, x1, x2, x3, x4, x5, x6, x7] (.int (v * w) :: st) σ ρ g τ Q := aw_lc m4 d4_220 rfl rfl rfl
theorem d4_221 : decode cX0_run 221 = .ok (.ireturn, 1) := by decide +kernel
theorem s4_221 {d : Nat} {σ : am_I} {ρ : am_R} {g : am_J} {τ : am_T} {Q : am_Q} {x0 x1 x2 x3 x4 x5 x6 x7 : Value} {v : Int32} : AW d 4 221 [x0, x1, x2, x3, x4, x5, x6, x7] ([.int v]) σ ρ g τ Q = Q (some (.int v)) σ ρ g τ := aw_ri m4 d4_221 rfl
theorem d4_222 : decode cX0_run 222 = .ok (.aload_n 0, 1) := by decide +kernel
theorem s4_222 {d : Nat} {st : List Value} {σ : am_I} {ρ : am_R} {g : am_J} {τ : am_T} {Q : am_Q} {x1 x2 x3 x4 x5 x6 x7 : Value} {v : Nat} : AW d 4 222 [.ref v, x1, x2, x3, x4, x5, x6, x7] (st) σ ρ g τ Q = AW d 4 223 [.ref v, x1, x2, x3, x4, x5, x6, x7] (.ref v :: st) σ ρ g τ Q := aw_lc m4 d4_222 rfl rfl rfl
theorem d4_223 : decode cX0_run 223 = .ok (.aload_n 0, 1) := by decide +kernel
theorem s4_223 {d : Nat} {st : List Value} {σ : am_I} {ρ : am_R} {g : am_J} {τ : am_T} {Q : am_Q} {x1 x2 x3 x4 x5 x6 x7 : Value} {v : Nat} : AW d 4 223 [.ref v, x1, x2, x3, x4, x5, x6, x7] (st) σ ρ g τ Q = AW d 4 224 [.ref v, x1, x2, x3, x4, x5, x6, x7] (.ref v :: st) σ ρ g τ Q := aw_lc m4 d4_223 rfl rfl rfl
theorem d4_224 : decode cX0_run 224 = .ok (.getfield 9, 3) := by decide +kernel
theorem s4_224 {d : Nat} {st : List Value} {σ : am_I} {ρ : am_R} {g : am_J} {τ : am_T} {Q : am_Q} {x0 x1 x2 x3 x4 x5 x6 x7 : Value} {a : Nat} (ht : τ.1 a = 0) : AW d 4 224 [x0, x1, x2, x3, x4, x5, x6, x7] (.ref a :: st) σ ρ g τ Q = AW d 4 227 [x0, x1, x2, x3, x4, x5, x6, x7] (.int (σ a 0) :: st) σ ρ g τ Q := aw_gi m4 d4_224 rfl rfl rfl ht
theorem d4_227 : decode cX0_run 227 = .ok (.iconst 1, 1) := by decide +kernel
theorem s4_227 {d : Nat} {st : List Value} {σ : am_I} {ρ : am_R} {g : am_J} {τ : am_T} {Q : am_Q} {x0 x1 x2 x3 x4 x5 x6 x7 : Value} : AW d 4 227 [x0, x1, x2, x3, x4, x5, x6, x7] (st) σ ρ g τ Q = AW d 4 228 [x0, x1, x2, x3, x4, x5, x6, x7] (.int 1 :: st) σ ρ g τ Q := aw_lc m4 d4_227 rfl rfl rfl
theorem d4_228 : decode cX0_run 228 = .ok (.iload_n 3, 1) := by decide +kernel
theorem s4_228 {d : Nat} {st : List Value} {σ : am_I} {ρ : am_R} {g : am_J} {τ : am_T} {Q : am_Q} {x0 x1 x2 x4 x5 x6 x7 : Value} {v : Int32} : AW d 4 228 [x0, x1, x2, .int v, x4, x5, x6, x7] (st) σ ρ g τ Q = AW d 4 229 [x0, x1, x2, .int v, x4, x5, x6, x7] (.int v :: st) σ ρ g τ Q := aw_lc m4 d4_228 rfl rfl rfl
theorem d4_229 : decode cX0_run 229 = .ok (.iload 7, 2) := by decide +kernel
theorem s4_229 {d : Nat} {st : List Value} {σ : am_I} {ρ : am_R} {g : am_J} {τ : am_T} {Q : am_Q} {x0 x1 x2 x3 x4 x5 x6 : Value} {v : Int32} : AW d 4 229 [x0, x1, x2, x3, x4, x5, x6, .int v] (st) σ ρ g τ Q = AW d 4 231 [x0, x1, x2, x3, x4, x5, x6, .int v] (.int v :: st) σ ρ g τ Q := aw_lc m4 d4_229 rfl rfl rfl
theorem d4_231 : decode cX0_run 231 = .ok (.invokevirtual 38, 3) := by decide +kernel
theorem s4_231 {d : Nat} {st : List Value} {σ : am_I} {ρ : am_R} {g : am_J} {τ : am_T} {Q : am_Q} {x0 x1 x2 x3 x4 x5 x6 x7 : Value} {p0 : Nat} {p1 : Int32} {p2 : Int32} {p3 : Int32} {p4 : Int32} (ht : τ.1 p0 = 0) (hs : st.length ≤ 4) : AW (d + 1) 4 231 [x0, x1, x2, x3, x4, x5, x6, x7] (.int p4 :: .int p3 :: .int p2 :: .int p1 :: .ref p0 :: st) σ ρ g τ Q = AW d 4 0 [.ref p0, .int p1, .int p2, .int p3, .int p4, am_jk, am_jk, am_jk] [] σ ρ g τ (fun r9 σ ρ g τ => AW (d + 1) 4 234 [x0, x1, x2, x3, x4, x5, x6, x7] (r9.toList ++ st) σ ρ g τ Q) := aw_cv m4 d4_231 rfl m4 rfl rfl (by decide) en4 ok4 rfl ht hs
theorem d4_234 : decode cX0_run 234 = .ok (.aload_n 0, 1) := by decide +kernel
theorem s4_234 {d : Nat} {st : List Value} {σ : am_I} {ρ : am_R} {g : am_J} {τ : am_T} {Q : am_Q} {x1 x2 x3 x4 x5 x6 x7 : Value} {v : Nat} : AW d 4 234 [.ref v, x1, x2, x3, x4, x5, x6, x7] (st) σ ρ g τ Q = AW d 4 235 [.ref v, x1, x2, x3, x4, x5, x6, x7] (.ref v :: st) σ ρ g τ Q := aw_lc m4 d4_234 rfl rfl rfl
theorem d4_235 : decode cX0_run 235 = .ok (.getfield 18, 3) := by decide +kernel
theorem s4_235 {d : Nat} {st : List Value} {σ : am_I} {ρ : am_R} {g : am_J} {τ : am_T} {Q : am_Q} {x0 x1 x2 x3 x4 x5 x6 x7 : Value} {a : Nat} (ht : τ.1 a = 0) : AW d 4 235 [x0, x1, x2, x3, x4, x5, x6, x7] (.ref a :: st) σ ρ g τ Q = AW d 4 238 [x0, x1, x2, x3, x4, x5, x6, x7] (.int (σ a 2) :: st) σ ρ g τ Q := aw_gi m4 d4_235 rfl rfl rfl ht
theorem d4_238 : decode cX0_run 238 = .ok (.isub, 1) := by decide +kernel
theorem s4_238 {d : Nat} {st : List Value} {σ : am_I} {ρ : am_R} {g : am_J} {τ : am_T} {Q : am_Q} {x0 x1 x2 x3 x4 x5 x6 x7 : Value} {v w : Int32} : AW d 4 238 [x0, x1, x2, x3, x4, x5, x6, x7] (.int w :: .int v :: st) σ ρ g τ Q = AW d 4 239 [x0, x1, x2, x3, x4, x5, x6, x7] (.int (v - w) :: st) σ ρ g τ Q := aw_lc m4 d4_238 rfl rfl rfl
theorem d4_239 : decode cX0_run 239 = .ok (.ireturn, 1) := by decide +kernel
theorem s4_239 {d : Nat} {σ : am_I} {ρ : am_R} {g : am_J} {τ : am_T} {Q : am_Q} {x0 x1 x2 x3 x4 x5 x6 x7 : Value} {v : Int32} : AW d 4 239 [x0, x1, x2, x3, x4, x5, x6, x7] ([.int v]) σ ρ g τ Q = Q (some (.int v)) σ ρ g τ := aw_ri m4 d4_239 rfl
theorem d4_240 : decode cX0_run 240 = .ok (.aload_n 0, 1) := by decide +kernel
theorem s4_240 {d : Nat} {st : List Value} {σ : am_I} {ρ : am_R} {g : am_J} {τ : am_T} {Q : am_Q} {x1 x2 x3 x4 x5 x6 x7 : Value} {v : Nat} : AW d 4 240 [.ref v, x1, x2, x3, x4, x5, x6, x7] (st) σ ρ g τ Q = AW d 4 241 [.ref v, x1, x2, x3, x4, x5, x6, x7] (.ref v :: st) σ ρ g τ Q := aw_lc m4 d4_240 rfl rfl rfl
theorem d4_241 : decode cX0_run 241 = .ok (.iload_n 3, 1) := by decide +kernel
theorem s4_241 {d : Nat} {st : List Value} {σ : am_I} {ρ : am_R} {g : am_J} {τ : am_T} {Q : am_Q} {x0 x1 x2 x4 x5 x6 x7 : Value} {v : Int32} : AW d 4 241 [x0, x1, x2, .int v, x4, x5, x6, x7] (st) σ ρ g τ Q = AW d 4 242 [x0, x1, x2, .int v, x4, x5, x6, x7] (.int v :: st) σ ρ g τ Q := aw_lc m4 d4_241 rfl rfl rfl
theorem d4_242 : decode cX0_run 242 = .ok (.aload_n 0, 1) := by decide +kernel
theorem s4_242 {d : Nat} {st : List Value} {σ : am_I} {ρ : am_R} {g : am_J} {τ : am_T} {Q : am_Q} {x1 x2 x3 x4 x5 x6 x7 : Value} {v : Nat} : AW d 4 242 [.ref v, x1, x2, x3, x4, x5, x6, x7] (st) σ ρ g τ Q = AW d 4 243 [.ref v, x1, x2, x3, x4, x5, x6, x7] (.ref v :: st) σ ρ g τ Q := aw_lc m4 d4_242 rfl rfl rfl
theorem d4_243 : decode cX0_run 243 = .ok (.getfield 18, 3) := by decide +kernel
theorem s4_243 {d : Nat} {st : List Value} {σ : am_I} {ρ : am_R} {g : am_J} {τ : am_T} {Q : am_Q} {x0 x1 x2 x3 x4 x5 x6 x7 : Value} {a : Nat} (ht : τ.1 a = 0) : AW d 4 243 [x0, x1, x2, x3, x4, x5, x6, x7] (.ref a :: st) σ ρ g τ Q = AW d 4 246 [x0, x1, x2, x3, x4, x5, x6, x7] (.int (σ a 2) :: st) σ ρ g τ Q := aw_gi m4 d4_243 rfl rfl rfl ht
theorem d4_246 : decode cX0_run 246 = .ok (.aload_n 0, 1) := by decide +kernel
theorem s4_246 {d : Nat} {st : List Value} {σ : am_I} {ρ : am_R} {g : am_J} {τ : am_T} {Q : am_Q} {x1 x2 x3 x4 x5 x6 x7 : Value} {v : Nat} : AW d 4 246 [.ref v, x1, x2, x3, x4, x5, x6, x7] (st) σ ρ g τ Q = AW d 4 247 [.ref v, x1, x2, x3, x4, x5, x6, x7] (.ref v :: st) σ ρ g τ Q := aw_lc m4 d4_246 rfl rfl rfl
theorem d4_247 : decode cX0_run 247 = .ok (.getfield 15, 3) := by decide +kernel
theorem s4_247 {d : Nat} {st : List Value} {σ : am_I} {ρ : am_R} {g : am_J} {τ : am_T} {Q : am_Q} {x0 x1 x2 x3 x4 x5 x6 x7 : Value} {a : Nat} (ht : τ.1 a = 0) : AW d 4 247 [x0, x1, x2, x3, x4, x5, x6, x7] (.ref a :: st) σ ρ g τ Q = AW d 4 250 [x0, x1, x2, x3, x4, x5, x6, x7] (.int (σ a 1) :: st) σ ρ g τ Q := aw_gi m4 d4_247 rfl rfl rfl ht
theorem d4_250 : decode cX0_run 250 = .ok (.isub, 1) := by decide +kernel
theorem s4_250 {d : Nat} {st : List Value} {σ : am_I} {ρ : am_R} {g : am_J} {τ : am_T} {Q : am_Q} {x0 x1 x2 x3 x4 x5 x6 x7 : Value} {v w : Int32} : AW d 4 250 [x0, x1, x2, x3, x4, x5, x6, x7] (.int w :: .int v :: st) σ ρ g τ Q = AW d 4 251 [x0, x1, x2, x3, x4, x5, x6, x7] (.int (v - w) :: st) σ ρ g τ Q := aw_lc m4 d4_250 rfl rfl rfl
theorem d4_251 : decode cX0_run 251 = .ok (.invokevirtual 49, 3) := by decide +kernel
theorem s4_251 {d : Nat} {st : List Value} {σ : am_I} {ρ : am_R} {g : am_J} {τ : am_T} {Q : am_Q} {x0 x1 x2 x3 x4 x5 x6 x7 : Value} {p0 : Nat} {p1 : Int32} {p2 : Int32} (ht : τ.1 p0 = 0) (hs : st.length ≤ 4) : AW (d + 1) 4 251 [x0, x1, x2, x3, x4, x5, x6, x7] (.int p2 :: .int p1 :: .ref p0 :: st) σ ρ g τ Q = AW d 5 0 [.ref p0, .int p1, .int p2] [] σ ρ g τ (fun r9 σ ρ g τ => AW (d + 1) 4 254 [x0, x1, x2, x3, x4, x5, x6, x7] (r9.toList ++ st) σ ρ g τ Q) := aw_cv m4 d4_251 rfl m5 rfl rfl (by decide) en5 ok5 rfl ht hs
theorem d4_254 : decode cX0_run 254 = .ok (.ireturn, 1) := by decide +kernel
theorem s4_254 {d : Nat} {σ : am_I} {ρ : am_R} {g : am_J} {τ : am_T} {Q : am_Q} {x0 x1 x2 x3 x4 x5 x6 x7 : Value} {v : Int32} : AW d 4 254 [x0, x1, x2, x3, x4, x5, x6, x7] ([.int v]) σ ρ g τ Q = Q (some (.int v)) σ ρ g τ := aw_ri m4 d4_254 rfl
theorem d4_255 : decode cX0_run 255 = .ok (.aload_n 0, 1) := by decide +kernel
theorem s4_255 {d : Nat} {st : List Value} {σ : am_I} {ρ : am_R} {g : am_J} {τ : am_T} {Q : am_Q} {x1 x2 x3 x4 x5 x6 x7 : Value} {v : Nat} : AW d 4 255 [.ref v, x1, x2, x3, x4, x5, x6, x7] (st) σ ρ g τ Q = AW d 4 256 [.ref v, x1, x2, x3, x4, x5, x6, x7] (.ref v :: st) σ ρ g τ Q := aw_lc m4 d4_255 rfl rfl rfl
theorem d4_256 : decode cX0_run 256 = .ok (.getstatic 35, 3) := by decide +kernel
theorem s4_256 {d : Nat} {st : List Value} {σ : am_I} {ρ : am_R} {g : am_J} {τ : am_T} {Q : am_Q} {x0 x1 x2 x3 x4 x5 x6 x7 : Value} : AW d 4 256 [x0, x1, x2, x3, x4, x5, x6, x7] (st) σ ρ g τ Q = AW d 4 259 [x0, x1, x2, x3, x4, x5, x6, x7] (.ref am_BG :: st) σ ρ g τ Q := aw_gsa m4 d4_256 rfl rfl
theorem d4_259 : decode cX0_run 259 = .ok (.iload 5, 2) := by decide +kernel
theorem s4_259 {d : Nat} {st : List Value} {σ : am_I} {ρ : am_R} {g : am_J} {τ : am_T} {Q : am_Q} {x0 x1 x2 x3 x4 x6 x7 : Value} {v : Int32} : AW d 4 259 [x0, x1, x2, x3, x4, .int v, x6, x7] (st) σ ρ g τ Q = AW d 4 261 [x0, x1, x2, x3, x4, .int v, x6, x7] (.int v :: st) σ ρ g τ Q := aw_lc m4 d4_259 rfl rfl rfl
theorem d4_261 : decode cX0_run 261 = .ok (.iaload, 1) := by decide +kernel
theorem s4_261 {d : Nat} {st : List Value} {σ : am_I} {ρ : am_R} {g : am_J} {τ : am_T} {Q : am_Q} {x0 x1 x2 x3 x4 x5 x6 x7 : Value} {a : Nat} {j : Int32} (ht : τ.1 a = 15) (hj : am_inb j (τ.2.1 a) = true) : AW d 4 261 [x0, x1, x2, x3, x4, x5, x6, x7] (.int j :: .ref a :: st) σ ρ g τ Q = AW d 4 262 [x0, x1, x2, x3, x4, x5, x6, x7] (.int (σ a j.toNatClampNeg) :: st) σ ρ g τ Q := aw_ial m4 d4_261 rfl ht hj
theorem d4_262 : decode cX0_run 262 = .ok (.iconst 1, 1) := by decide +kernel
theorem s4_262 {d : Nat} {st : List Value} {σ : am_I} {ρ : am_R} {g : am_J} {τ : am_T} {Q : am_Q} {x0 x1 x2 x3 x4 x5 x6 x7 : Value} : AW d 4 262 [x0, x1, x2, x3, x4, x5, x6, x7] (st) σ ρ g τ Q = AW d 4 263 [x0, x1, x2, x3, x4, x5, x6, x7] (.int 1 :: st) σ ρ g τ Q := aw_lc m4 d4_262 rfl rfl rfl
theorem d4_263 : decode cX0_run 263 = .ok (.iload_n 3, 1) := by decide +kernel
theorem s4_263 {d : Nat} {st : List Value} {σ : am_I} {ρ : am_R} {g : am_J} {τ : am_T} {Q : am_Q} {x0 x1 x2 x4 x5 x6 x7 : Value} {v : Int32} : AW d 4 263 [x0, x1, x2, .int v, x4, x5, x6, x7] (st) σ ρ g τ Q = AW d 4 264 [x0, x1, x2, .int v, x4, x5, x6, x7] (.int v :: st) σ ρ g τ Q := aw_lc m4 d4_263 rfl rfl rfl
theorem d4_264 : decode cX0_run 264 = .ok (.iload 7, 2) := by decide +kernel
theorem s4_264 {d : Nat} {st : List Value} {σ : am_I} {ρ : am_R} {g : am_J} {τ : am_T} {Q : am_Q} {x0 x1 x2 x3 x4 x5 x6 : Value} {v : Int32} : AW d 4 264 [x0, x1, x2, x3, x4, x5, x6, .int v] (st) σ ρ g τ Q = AW d 4 266 [x0, x1, x2, x3, x4, x5, x6, .int v] (.int v :: st) σ ρ g τ Q := aw_lc m4 d4_264 rfl rfl rfl
theorem d4_266 : decode cX0_run 266 = .ok (.invokevirtual 38, 3) := by decide +kernel
theorem s4_266 {d : Nat} {st : List Value} {σ : am_I} {ρ : am_R} {g : am_J} {τ : am_T} {Q : am_Q} {x0 x1 x2 x3 x4 x5 x6 x7 : Value} {p0 : Nat} {p1 : Int32} {p2 : Int32} {p3 : Int32} {p4 : Int32} (ht : τ.1 p0 = 0) (hs : st.length ≤ 4) : AW (d + 1) 4 266 [x0, x1, x2, x3, x4, x5, x6, x7] (.int p4 :: .int p3 :: .int p2 :: .int p1 :: .ref p0 :: st) σ ρ g τ Q = AW d 4 0 [.ref p0, .int p1, .int p2, .int p3, .int p4, am_jk, am_jk, am_jk] [] σ ρ g τ (fun r9 σ ρ g τ => AW (d + 1) 4 269 [x0, x1, x2, x3, x4, x5, x6, x7] (r9.toList ++ st) σ ρ g τ Q) := aw_cv m4 d4_266 rfl m4 rfl rfl (by decide) en4 ok4 rfl ht hs
theorem d4_269 : decode cX0_run 269 = .ok (.aload_n 0, 1) := by decide +kernel
theorem s4_269 {d : Nat} {st : List Value} {σ : am_I} {ρ : am_R} {g : am_J} {τ : am_T} {Q : am_Q} {x1 x2 x3 x4 x5 x6 x7 : Value} {v : Nat} : AW d 4 269 [.ref v, x1, x2, x3, x4, x5, x6, x7] (st) σ ρ g τ Q = AW d 4 270 [.ref v, x1, x2, x3, x4, x5, x6, x7] (.ref v :: st) σ ρ g τ Q := aw_lc m4 d4_269 rfl rfl rfl
theorem d4_270 : decode cX0_run 270 = .ok (.getfield 15, 3) := by decide +kernel
theorem s4_270 {d : Nat} {st : List Value} {σ : am_I} {ρ : am_R} {g : am_J} {τ : am_T} {Q : am_Q} {x0 x1 x2 x3 x4 x5 x6 x7 : Value} {a : Nat} (ht : τ.1 a = 0) : AW d 4 270 [x0, x1, x2, x3, x4, x5, x6, x7] (.ref a :: st) σ ρ g τ Q = AW d 4 273 [x0, x1, x2, x3, x4, x5, x6, x7] (.int (σ a 1) :: st) σ ρ g τ Q := aw_gi m4 d4_270 rfl rfl rfl ht
theorem d4_273 : decode cX0_run 273 = .ok (.ixor, 1) := by decide +kernel
theorem s4_273 {d : Nat} {st : List Value} {σ : am_I} {ρ : am_R} {g : am_J} {τ : am_T} {Q : am_Q} {x0 x1 x2 x3 x4 x5 x6 x7 : Value} {v w : Int32} : AW d 4 273 [x0, x1, x2, x3, x4, x5, x6, x7] (.int w :: .int v :: st) σ ρ g τ Q = AW d 4 274 [x0, x1, x2, x3, x4, x5, x6, x7] (.int (v ^^^ w) :: st) σ ρ g τ Q := aw_lc m4 d4_273 rfl rfl rfl
theorem d4_274 : decode cX0_run 274 = .ok (.ireturn, 1) := by decide +kernel
theorem s4_274 {d : Nat} {σ : am_I} {ρ : am_R} {g : am_J} {τ : am_T} {Q : am_Q} {x0 x1 x2 x3 x4 x5 x6 x7 : Value} {v : Int32} : AW d 4 274 [x0, x1, x2, x3, x4, x5, x6, x7] ([.int v]) σ ρ g τ Q = Q (some (.int v)) σ ρ g τ := aw_ri m4 d4_274 rfl
theorem d4_275 : decode cX0_run 275 = .ok (.aload_n 0, 1) := by decide +kernel
theorem s4_275 {d : Nat} {st : List Value} {σ : am_I} {ρ : am_R} {g : am_J} {τ : am_T} {Q : am_Q} {x1 x2 x3 x4 x5 x6 x7 : Value} {v : Nat} : AW d 4 275 [.ref v, x1, x2, x3, x4, x5, x6, x7] (st) σ ρ g τ Q = AW d 4 276 [.ref v, x1, x2, x3, x4, x5, x6, x7] (.ref v :: st) σ ρ g τ Q := aw_lc m4 d4_275 rfl rfl rfl
theorem d4_276 : decode cX0_run 276 = .ok (.getstatic 35, 3) := by decide +kernel
theorem s4_276 {d : Nat} {st : List Value} {σ : am_I} {ρ : am_R} {g : am_J} {τ : am_T} {Q : am_Q} {x0 x1 x2 x3 x4 x5 x6 x7 : Value} : AW d 4 276 [x0, x1, x2, x3, x4, x5, x6, x7] (st) σ ρ g τ Q = AW d 4 279 [x0, x1, x2, x3, x4, x5, x6, x7] (.ref am_BG :: st) σ ρ g τ Q := aw_gsa m4 d4_276 rfl rfl
theorem d4_279 : decode cX0_run 279 = .ok (.iload 5, 2) := by decide +kernel
theorem s4_279 {d : Nat} {st : List Value} {σ : am_I} {ρ : am_R} {g : am_J} {τ : am_T} {Q : am_Q} {x0 x1 x2 x3 x4 x6 x7 : Value} {v : Int32} : AW d 4 279 [x0, x1, x2, x3, x4, .int v, x6, x7] (st) σ ρ g τ Q = AW d 4 281 [x0, x1, x2, x3, x4, .int v, x6, x7] (.int v :: st) σ ρ g τ Q := aw_lc m4 d4_279 rfl rfl rfl
theorem d4_281 : decode cX0_run 281 = .ok (.iaload, 1) := by decide +kernel
theorem s4_281 {d : Nat} {st : List Value} {σ : am_I} {ρ : am_R} {g : am_J} {τ : am_T} {Q : am_Q} {x0 x1 x2 x3 x4 x5 x6 x7 : Value} {a : Nat} {j : Int32} (ht : τ.1 a = 15) (hj : am_inb j (τ.2.1 a) = true) : AW d 4 281 [x0, x1, x2, x3, x4, x5, x6, x7] (.int j :: .ref a :: st) σ ρ g τ Q = AW d 4 282 [x0, x1, x2, x3, x4, x5, x6, x7] (.int (σ a j.toNatClampNeg) :: st) σ ρ g τ Q := aw_ial m4 d4_281 rfl ht hj
theorem d4_282 : decode cX0_run 282 = .ok (.iconst 0, 1) := by decide +kernel
theorem s4_282 {d : Nat} {st : List Value} {σ : am_I} {ρ : am_R} {g : am_J} {τ : am_T} {Q : am_Q} {x0 x1 x2 x3 x4 x5 x6 x7 : Value} : AW d 4 282 [x0, x1, x2, x3, x4, x5, x6, x7] (st) σ ρ g τ Q = AW d 4 283 [x0, x1, x2, x3, x4, x5, x6, x7] (.int 0 :: st) σ ρ g τ Q := aw_lc m4 d4_282 rfl rfl rfl
theorem d4_283 : decode cX0_run 283 = .ok (.iload_n 3, 1) := by decide +kernel
theorem s4_283 {d : Nat} {st : List Value} {σ : am_I} {ρ : am_R} {g : am_J} {τ : am_T} {Q : am_Q} {x0 x1 x2 x4 x5 x6 x7 : Value} {v : Int32} : AW d 4 283 [x0, x1, x2, .int v, x4, x5, x6, x7] (st) σ ρ g τ Q = AW d 4 284 [x0, x1, x2, .int v, x4, x5, x6, x7] (.int v :: st) σ ρ g τ Q := aw_lc m4 d4_283 rfl rfl rfl
theorem d4_284 : decode cX0_run 284 = .ok (.iload 7, 2) := by decide +kernel
theorem s4_284 {d : Nat} {st : List Value} {σ : am_I} {ρ : am_R} {g : am_J} {τ : am_T} {Q : am_Q} {x0 x1 x2 x3 x4 x5 x6 : Value} {v : Int32} : AW d 4 284 [x0, x1, x2, x3, x4, x5, x6, .int v] (st) σ ρ g τ Q = AW d 4 286 [x0, x1, x2, x3, x4, x5, x6, .int v] (.int v :: st) σ ρ g τ Q := aw_lc m4 d4_284 rfl rfl rfl
theorem d4_286 : decode cX0_run 286 = .ok (.invokevirtual 38, 3) := by decide +kernel
theorem s4_286 {d : Nat} {st : List Value} {σ : am_I} {ρ : am_R} {g : am_J} {τ : am_T} {Q : am_Q} {x0 x1 x2 x3 x4 x5 x6 x7 : Value} {p0 : Nat} {p1 : Int32} {p2 : Int32} {p3 : Int32} {p4 : Int32} (ht : τ.1 p0 = 0) (hs : st.length ≤ 4) : AW (d + 1) 4 286 [x0, x1, x2, x3, x4, x5, x6, x7] (.int p4 :: .int p3 :: .int p2 :: .int p1 :: .ref p0 :: st) σ ρ g τ Q = AW d 4 0 [.ref p0, .int p1, .int p2, .int p3, .int p4, am_jk, am_jk, am_jk] [] σ ρ g τ (fun r9 σ ρ g τ => AW (d + 1) 4 289 [x0, x1, x2, x3, x4, x5, x6, x7] (r9.toList ++ st) σ ρ g τ Q) := aw_cv m4 d4_286 rfl m4 rfl rfl (by decide) en4 ok4 rfl ht hs
theorem d4_289 : decode cX0_run 289 = .ok (.iconst 3, 1) := by decide +kernel
theorem s4_289 {d : Nat} {st : List Value} {σ : am_I} {ρ : am_R} {g : am_J} {τ : am_T} {Q : am_Q} {x0 x1 x2 x3 x4 x5 x6 x7 : Value} : AW d 4 289 [x0, x1, x2, x3, x4, x5, x6, x7] (st) σ ρ g τ Q = AW d 4 290 [x0, x1, x2, x3, x4, x5, x6, x7] (.int 3 :: st) σ ρ g τ Q := aw_lc m4 d4_289 rfl rfl rfl
theorem d4_290 : decode cX0_run 290 = .ok (.imul, 1) := by decide +kernel
theorem s4_290 {d : Nat} {st : List Value} {σ : am_I} {ρ : am_R} {g : am_J} {τ : am_T} {Q : am_Q} {x0 x1 x2 x3 x4 x5 x6 x7 : Value} {v w : Int32} : AW d 4 290 [x0, x1, x2, x3, x4, x5, x6, x7] (.int w :: .int v :: st) σ ρ g τ Q = AW d 4 291 [x0, x1, x2, x3, x4, x5, x6, x7] (.int (v * w) :: st) σ ρ g τ Q := aw_lc m4 d4_290 rfl rfl rfl
theorem d4_291 : decode cX0_run 291 = .ok (.ireturn, 1) := by decide +kernel
theorem s4_291 {d : Nat} {σ : am_I} {ρ : am_R} {g : am_J} {τ : am_T} {Q : am_Q} {x0 x1 x2 x3 x4 x5 x6 x7 : Value} {v : Int32} : AW d 4 291 [x0, x1, x2, x3, x4, x5, x6, x7] ([.int v]) σ ρ g τ Q = Q (some (.int v)) σ ρ g τ := aw_ri m4 d4_291 rfl
theorem d4_292 : decode cX0_run 292 = .ok (.aload_n 0, 1) := by decide +kernel
theorem s4_292 {d : Nat} {st : List Value} {σ : am_I} {ρ : am_R} {g : am_J} {τ : am_T} {Q : am_Q} {x1 x2 x3 x4 x5 x6 x7 : Value} {v : Nat} : AW d 4 292 [.ref v, x1, x2, x3, x4, x5, x6, x7] (st) σ ρ g τ Q = AW d 4 293 [.ref v, x1, x2, x3, x4, x5, x6, x7] (.ref v :: st) σ ρ g τ Q := aw_lc m4 d4_292 rfl rfl rfl
theorem d4_293 : decode cX0_run 293 = .ok (.getstatic 35, 3) := by decide +kernel
theorem s4_293 {d : Nat} {st : List Value} {σ : am_I} {ρ : am_R} {g : am_J} {τ : am_T} {Q : am_Q} {x0 x1 x2 x3 x4 x5 x6 x7 : Value} : AW d 4 293 [x0, x1, x2, x3, x4, x5, x6, x7] (st) σ ρ g τ Q = AW d 4 296 [x0, x1, x2, x3, x4, x5, x6, x7] (.ref am_BG :: st) σ ρ g τ Q := aw_gsa m4 d4_293 rfl rfl
theorem d4_296 : decode cX0_run 296 = .ok (.iload 5, 2) := by decide +kernel
theorem s4_296 {d : Nat} {st : List Value} {σ : am_I} {ρ : am_R} {g : am_J} {τ : am_T} {Q : am_Q} {x0 x1 x2 x3 x4 x6 x7 : Value} {v : Int32} : AW d 4 296 [x0, x1, x2, x3, x4, .int v, x6, x7] (st) σ ρ g τ Q = AW d 4 298 [x0, x1, x2, x3, x4, .int v, x6, x7] (.int v :: st) σ ρ g τ Q := aw_lc m4 d4_296 rfl rfl rfl
theorem d4_298 : decode cX0_run 298 = .ok (.iaload, 1) := by decide +kernel
theorem s4_298 {d : Nat} {st : List Value} {σ : am_I} {ρ : am_R} {g : am_J} {τ : am_T} {Q : am_Q} {x0 x1 x2 x3 x4 x5 x6 x7 : Value} {a : Nat} {j : Int32} (ht : τ.1 a = 15) (hj : am_inb j (τ.2.1 a) = true) : AW d 4 298 [x0, x1, x2, x3, x4, x5, x6, x7] (.int j :: .ref a :: st) σ ρ g τ Q = AW d 4 299 [x0, x1, x2, x3, x4, x5, x6, x7] (.int (σ a j.toNatClampNeg) :: st) σ ρ g τ Q := aw_ial m4 d4_298 rfl ht hj
theorem d4_299 : decode cX0_run 299 = .ok (.iconst 2, 1) := by decide +kernel
theorem s4_299 {d : Nat} {st : List Value} {σ : am_I} {ρ : am_R} {g : am_J} {τ : am_T} {Q : am_Q} {x0 x1 x2 x3 x4 x5 x6 x7 : Value} : AW d 4 299 [x0, x1, x2, x3, x4, x5, x6, x7] (st) σ ρ g τ Q = AW d 4 300 [x0, x1, x2, x3, x4, x5, x6, x7] (.int 2 :: st) σ ρ g τ Q := aw_lc m4 d4_299 rfl rfl rfl
theorem d4_300 : decode cX0_run 300 = .ok (.iload_n 3, 1) := by decide +kernel
theorem s4_300 {d : Nat} {st : List Value} {σ : am_I} {ρ : am_R} {g : am_J} {τ : am_T} {Q : am_Q} {x0 x1 x2 x4 x5 x6 x7 : Value} {v : Int32} : AW d 4 300 [x0, x1, x2, .int v, x4, x5, x6, x7] (st) σ ρ g τ Q = AW d 4 301 [x0, x1, x2, .int v, x4, x5, x6, x7] (.int v :: st) σ ρ g τ Q := aw_lc m4 d4_300 rfl rfl rfl
theorem d4_301 : decode cX0_run 301 = .ok (.iload 7, 2) := by decide +kernel
theorem s4_301 {d : Nat} {st : List Value} {σ : am_I} {ρ : am_R} {g : am_J} {τ : am_T} {Q : am_Q} {x0 x1 x2 x3 x4 x5 x6 : Value} {v : Int32} : AW d 4 301 [x0, x1, x2, x3, x4, x5, x6, .int v] (st) σ ρ g τ Q = AW d 4 303 [x0, x1, x2, x3, x4, x5, x6, .int v] (.int v :: st) σ ρ g τ Q := aw_lc m4 d4_301 rfl rfl rfl
theorem d4_303 : decode cX0_run 303 = .ok (.invokevirtual 38, 3) := by decide +kernel
theorem s4_303 {d : Nat} {st : List Value} {σ : am_I} {ρ : am_R} {g : am_J} {τ : am_T} {Q : am_Q} {x0 x1 x2 x3 x4 x5 x6 x7 : Value} {p0 : Nat} {p1 : Int32} {p2 : Int32} {p3 : Int32} {p4 : Int32} (ht : τ.1 p0 = 0) (hs : st.length ≤ 4) : AW (d + 1) 4 303 [x0, x1, x2, x3, x4, x5, x6, x7] (.int p4 :: .int p3 :: .int p2 :: .int p1 :: .ref p0 :: st) σ ρ g τ Q = AW d 4 0 [.ref p0, .int p1, .int p2, .int p3, .int p4, am_jk, am_jk, am_jk] [] σ ρ g τ (fun r9 σ ρ g τ => AW (d + 1) 4 306 [x0, x1, x2, x3, x4, x5, x6, x7] (r9.toList ++ st) σ ρ g τ Q) := aw_cv m4 d4_303 rfl m4 rfl rfl (by decide) en4 ok4 rfl ht hs
theorem d4_306 : decode cX0_run 306 = .ok (.aload_n 0, 1) := by decide +kernel
theorem s4_306 {d : Nat} {st : List Value} {σ : am_I} {ρ : am_R} {g : am_J} {τ : am_T} {Q : am_Q} {x1 x2 x3 x4 x5 x6 x7 : Value} {v : Nat} : AW d 4 306 [.ref v, x1, x2, x3, x4, x5, x6, x7] (st) σ ρ g τ Q = AW d 4 307 [.ref v, x1, x2, x3, x4, x5, x6, x7] (.ref v :: st) σ ρ g τ Q := aw_lc m4 d4_306 rfl rfl rfl
theorem d4_307 : decode cX0_run 307 = .ok (.aload_n 0, 1) := by decide +kernel
theorem s4_307 {d : Nat} {st : List Value} {σ : am_I} {ρ : am_R} {g : am_J} {τ : am_T} {Q : am_Q} {x1 x2 x3 x4 x5 x6 x7 : Value} {v : Nat} : AW d 4 307 [.ref v, x1, x2, x3, x4, x5, x6, x7] (st) σ ρ g τ Q = AW d 4 308 [.ref v, x1, x2, x3, x4, x5, x6, x7] (.ref v :: st) σ ρ g τ Q := aw_lc m4 d4_307 rfl rfl rfl
theorem d4_308 : decode cX0_run 308 = .ok (.getfield 9, 3) := by decide +kernel
theorem s4_308 {d : Nat} {st : List Value} {σ : am_I} {ρ : am_R} {g : am_J} {τ : am_T} {Q : am_Q} {x0 x1 x2 x3 x4 x5 x6 x7 : Value} {a : Nat} (ht : τ.1 a = 0) : AW d 4 308 [x0, x1, x2, x3, x4, x5, x6, x7] (.ref a :: st) σ ρ g τ Q = AW d 4 311 [x0, x1, x2, x3, x4, x5, x6, x7] (.int (σ a 0) :: st) σ ρ g τ Q := aw_gi m4 d4_308 rfl rfl rfl ht
theorem d4_311 : decode cX0_run 311 = .ok (.iconst 1, 1) := by decide +kernel
theorem s4_311 {d : Nat} {st : List Value} {σ : am_I} {ρ : am_R} {g : am_J} {τ : am_T} {Q : am_Q} {x0 x1 x2 x3 x4 x5 x6 x7 : Value} : AW d 4 311 [x0, x1, x2, x3, x4, x5, x6, x7] (st) σ ρ g τ Q = AW d 4 312 [x0, x1, x2, x3, x4, x5, x6, x7] (.int 1 :: st) σ ρ g τ Q := aw_lc m4 d4_311 rfl rfl rfl
theorem d4_312 : decode cX0_run 312 = .ok (.iconst 1, 1) := by decide +kernel
theorem s4_312 {d : Nat} {st : List Value} {σ : am_I} {ρ : am_R} {g : am_J} {τ : am_T} {Q : am_Q} {x0 x1 x2 x3 x4 x5 x6 x7 : Value} : AW d 4 312 [x0, x1, x2, x3, x4, x5, x6, x7] (st) σ ρ g τ Q = AW d 4 313 [x0, x1, x2, x3, x4, x5, x6, x7] (.int 1 :: st) σ ρ g τ Q := aw_lc m4 d4_312 rfl rfl rfl
theorem d4_313 : decode cX0_run 313 = .ok (.iload 7, 2) := by decide +kernel
theorem s4_313 {d : Nat} {st : List Value} {σ : am_I} {ρ : am_R} {g : am_J} {τ : am_T} {Q : am_Q} {x0 x1 x2 x3 x4 x5 x6 : Value} {v : Int32} : AW d 4 313 [x0, x1, x2, x3, x4, x5, x6, .int v] (st) σ ρ g τ Q = AW d 4 315 [x0, x1, x2, x3, x4, x5, x6, .int v] (.int v :: st) σ ρ g τ Q := aw_lc m4 d4_313 rfl rfl rfl
theorem d4_315 : decode cX0_run 315 = .ok (.invokevirtual 38, 3) := by decide +kernel
theorem s4_315 {d : Nat} {st : List Value} {σ : am_I} {ρ : am_R} {g : am_J} {τ : am_T} {Q : am_Q} {x0 x1 x2 x3 x4 x5 x6 x7 : Value} {p0 : Nat} {p1 : Int32} {p2 : Int32} {p3 : Int32} {p4 : Int32} (ht : τ.1 p0 = 0) (hs : st.length ≤ 4) : AW (d + 1) 4 315 [x0, x1, x2, x3, x4, x5, x6, x7] (.int p4 :: .int p3 :: .int p2 :: .int p1 :: .ref p0 :: st) σ ρ g τ Q = AW d 4 0 [.ref p0, .int p1, .int p2, .int p3, .int p4, am_jk, am_jk, am_jk] [] σ ρ g τ (fun r9 σ ρ g τ => AW (d + 1) 4 318 [x0, x1, x2, x3, x4, x5, x6, x7] (r9.toList ++ st) σ ρ g τ Q) := aw_cv m4 d4_315 rfl m4 rfl rfl (by decide) en4 ok4 rfl ht hs
theorem d4_318 : decode cX0_run 318 = .ok (.iadd, 1) := by decide +kernel
theorem s4_318 {d : Nat} {st : List Value} {σ : am_I} {ρ : am_R} {g : am_J} {τ : am_T} {Q : am_Q} {x0 x1 x2 x3 x4 x5 x6 x7 : Value} {v w : Int32} : AW d 4 318 [x0, x1, x2, x3, x4, x5, x6, x7] (.int w :: .int v :: st) σ ρ g τ Q = AW d 4 319 [x0, x1, x2, x3, x4, x5, x6, x7] (.int (v + w) :: st) σ ρ g τ Q := aw_lc m4 d4_318 rfl rfl rfl
theorem d4_319 : decode cX0_run 319 = .ok (.ireturn, 1) := by decide +kernel
theorem s4_319 {d : Nat} {σ : am_I} {ρ : am_R} {g : am_J} {τ : am_T} {Q : am_Q} {x0 x1 x2 x3 x4 x5 x6 x7 : Value} {v : Int32} : AW d 4 319 [x0, x1, x2, x3, x4, x5, x6, x7] ([.int v]) σ ρ g τ Q = Q (some (.int v)) σ ρ g τ := aw_ri m4 d4_319 rfl
theorem d4_320 : decode cX0_run 320 = .ok (.iconst 0, 1) := by decide +kernel
theorem s4_320 {d : Nat} {st : List Value} {σ : am_I} {ρ : am_R} {g : am_J} {τ : am_T} {Q : am_Q} {x0 x1 x2 x3 x4 x5 x6 x7 : Value} : AW d 4 320 [x0, x1, x2, x3, x4, x5, x6, x7] (st) σ ρ g τ Q = AW d 4 321 [x0, x1, x2, x3, x4, x5, x6, x7] (.int 0 :: st) σ ρ g τ Q := aw_lc m4 d4_320 rfl rfl rfl
theorem d4_321 : decode cX0_run 321 = .ok (.aload_n 0, 1) := by decide +kernel
theorem s4_321 {d : Nat} {st : List Value} {σ : am_I} {ρ : am_R} {g : am_J} {τ : am_T} {Q : am_Q} {x1 x2 x3 x4 x5 x6 x7 : Value} {v : Nat} : AW d 4 321 [.ref v, x1, x2, x3, x4, x5, x6, x7] (st) σ ρ g τ Q = AW d 4 322 [.ref v, x1, x2, x3, x4, x5, x6, x7] (.ref v :: st) σ ρ g τ Q := aw_lc m4 d4_321 rfl rfl rfl
theorem d4_322 : decode cX0_run 322 = .ok (.getstatic 35, 3) := by decide +kernel
theorem s4_322 {d : Nat} {st : List Value} {σ : am_I} {ρ : am_R} {g : am_J} {τ : am_T} {Q : am_Q} {x0 x1 x2 x3 x4 x5 x6 x7 : Value} : AW d 4 322 [x0, x1, x2, x3, x4, x5, x6, x7] (st) σ ρ g τ Q = AW d 4 325 [x0, x1, x2, x3, x4, x5, x6, x7] (.ref am_BG :: st) σ ρ g τ Q := aw_gsa m4 d4_322 rfl rfl
theorem d4_325 : decode cX0_run 325 = .ok (.iload 5, 2) := by decide +kernel
theorem s4_325 {d : Nat} {st : List Value} {σ : am_I} {ρ : am_R} {g : am_J} {τ : am_T} {Q : am_Q} {x0 x1 x2 x3 x4 x6 x7 : Value} {v : Int32} : AW d 4 325 [x0, x1, x2, x3, x4, .int v, x6, x7] (st) σ ρ g τ Q = AW d 4 327 [x0, x1, x2, x3, x4, .int v, x6, x7] (.int v :: st) σ ρ g τ Q := aw_lc m4 d4_325 rfl rfl rfl
theorem d4_327 : decode cX0_run 327 = .ok (.iaload, 1) := by decide +kernel
theorem s4_327 {d : Nat} {st : List Value} {σ : am_I} {ρ : am_R} {g : am_J} {τ : am_T} {Q : am_Q} {x0 x1 x2 x3 x4 x5 x6 x7 : Value} {a : Nat} {j : Int32} (ht : τ.1 a = 15) (hj : am_inb j (τ.2.1 a) = true) : AW d 4 327 [x0, x1, x2, x3, x4, x5, x6, x7] (.int j :: .ref a :: st) σ ρ g τ Q = AW d 4 328 [x0, x1, x2, x3, x4, x5, x6, x7] (.int (σ a j.toNatClampNeg) :: st) σ ρ g τ Q := aw_ial m4 d4_327 rfl ht hj
theorem d4_328 : decode cX0_run 328 = .ok (.iconst 0, 1) := by decide +kernel
theorem s4_328 {d : Nat} {st : List Value} {σ : am_I} {ρ : am_R} {g : am_J} {τ : am_T} {Q : am_Q} {x0 x1 x2 x3 x4 x5 x6 x7 : Value} : AW d 4 328 [x0, x1, x2, x3, x4, x5, x6, x7] (st) σ ρ g τ Q = AW d 4 329 [x0, x1, x2, x3, x4, x5, x6, x7] (.int 0 :: st) σ ρ g τ Q := aw_lc m4 d4_328 rfl rfl rfl
theorem d4_329 : decode cX0_run 329 = .ok (.iload_n 3, 1) := by decide +kernel
theorem s4_329 {d : Nat} {st : List Value} {σ : am_I} {ρ : am_R} {g : am_J} {τ : am_T} {Q : am_Q} {x0 x1 x2 x4 x5 x6 x7 : Value} {v : Int32} : AW d 4 329 [x0, x1, x2, .int v, x4, x5, x6, x7] (st) σ ρ g τ Q = AW d 4 330 [x0, x1, x2, .int v, x4, x5, x6, x7] (.int v :: st) σ ρ g τ Q := aw_lc m4 d4_329 rfl rfl rfl
theorem d4_330 : decode cX0_run 330 = .ok (.iload 7, 2) := by decide +kernel
theorem s4_330 {d : Nat} {st : List Value} {σ : am_I} {ρ : am_R} {g : am_J} {τ : am_T} {Q : am_Q} {x0 x1 x2 x3 x4 x5 x6 : Value} {v : Int32} : AW d 4 330 [x0, x1, x2, x3, x4, x5, x6, .int v] (st) σ ρ g τ Q = AW d 4 332 [x0, x1, x2, x3, x4, x5, x6, .int v] (.int v :: st) σ ρ g τ Q := aw_lc m4 d4_330 rfl rfl rfl
theorem d4_332 : decode cX0_run 332 = .ok (.invokevirtual 38, 3) := by decide +kernel
theorem s4_332 {d : Nat} {st : List Value} {σ : am_I} {ρ : am_R} {g : am_J} {τ : am_T} {Q : am_Q} {x0 x1 x2 x3 x4 x5 x6 x7 : Value} {p0 : Nat} {p1 : Int32} {p2 : Int32} {p3 : Int32} {p4 : Int32} (ht : τ.1 p0 = 0) (hs : st.length ≤ 4) : AW (d + 1) 4 332 [x0, x1, x2, x3, x4, x5, x6, x7] (.int p4 :: .int p3 :: .int p2 :: .int p1 :: .ref p0 :: st) σ ρ g τ Q = AW d 4 0 [.ref p0, .int p1, .int p2, .int p3, .int p4, am_jk, am_jk, am_jk] [] σ ρ g τ (fun r9 σ ρ g τ => AW (d + 1) 4 335 [x0, x1, x2, x3, x4, x5, x6, x7] (r9.toList ++ st) σ ρ g τ Q) := aw_cv m4 d4_332 rfl m4 rfl rfl (by decide) en4 ok4 rfl ht hs
theorem d4_335 : decode cX0_run 335 = .ok (.isub, 1) := by decide +kernel
theorem s4_335 {d : Nat} {st : List Value} {σ : am_I} {ρ : am_R} {g : am_J} {τ : am_T} {Q : am_Q} {x0 x1 x2 x3 x4 x5 x6 x7 : Value} {v w : Int32} : AW d 4 335 [x0, x1, x2, x3, x4, x5, x6, x7] (.int w :: .int v :: st) σ ρ g τ Q = AW d 4 336 [x0, x1, x2, x3, x4, x5, x6, x7] (.int (v - w) :: st) σ ρ g τ Q := aw_lc m4 d4_335 rfl rfl rfl
theorem d4_336 : decode cX0_run 336 = .ok (.ireturn, 1) := by decide +kernel
theorem s4_336 {d : Nat} {σ : am_I} {ρ : am_R} {g : am_J} {τ : am_T} {Q : am_Q} {x0 x1 x2 x3 x4 x5 x6 x7 : Value} {v : Int32} : AW d 4 336 [x0, x1, x2, x3, x4, x5, x6, x7] ([.int v]) σ ρ g τ Q = Q (some (.int v)) σ ρ g τ := aw_ri m4 d4_336 rfl
theorem d4_337 : decode cX0_run 337 = .ok (.aload_n 0, 1) := by decide +kernel
theorem s4_337 {d : Nat} {st : List Value} {σ : am_I} {ρ : am_R} {g : am_J} {τ : am_T} {Q : am_Q} {x1 x2 x3 x4 x5 x6 x7 : Value} {v : Nat} : AW d 4 337 [.ref v, x1, x2, x3, x4, x5, x6, x7] (st) σ ρ g τ Q = AW d 4 338 [.ref v, x1, x2, x3, x4, x5, x6, x7] (.ref v :: st) σ ρ g τ Q := aw_lc m4 d4_337 rfl rfl rfl
theorem d4_338 : decode cX0_run 338 = .ok (.getstatic 35, 3) := by decide +kernel
theorem s4_338 {d : Nat} {st : List Value} {σ : am_I} {ρ : am_R} {g : am_J} {τ : am_T} {Q : am_Q} {x0 x1 x2 x3 x4 x5 x6 x7 : Value} : AW d 4 338 [x0, x1, x2, x3, x4, x5, x6, x7] (st) σ ρ g τ Q = AW d 4 341 [x0, x1, x2, x3, x4, x5, x6, x7] (.ref am_BG :: st) σ ρ g τ Q := aw_gsa m4 d4_338 rfl rfl
theorem d4_341 : decode cX0_run 341 = .ok (.iload 5, 2) := by decide +kernel
theorem s4_341 {d : Nat} {st : List Value} {σ : am_I} {ρ : am_R} {g : am_J} {τ : am_T} {Q : am_Q} {x0 x1 x2 x3 x4 x6 x7 : Value} {v : Int32} : AW d 4 341 [x0, x1, x2, x3, x4, .int v, x6, x7] (st) σ ρ g τ Q = AW d 4 343 [x0, x1, x2, x3, x4, .int v, x6, x7] (.int v :: st) σ ρ g τ Q := aw_lc m4 d4_341 rfl rfl rfl
theorem d4_343 : decode cX0_run 343 = .ok (.iaload, 1) := by decide +kernel
theorem s4_343 {d : Nat} {st : List Value} {σ : am_I} {ρ : am_R} {g : am_J} {τ : am_T} {Q : am_Q} {x0 x1 x2 x3 x4 x5 x6 x7 : Value} {a : Nat} {j : Int32} (ht : τ.1 a = 15) (hj : am_inb j (τ.2.1 a) = true) : AW d 4 343 [x0, x1, x2, x3, x4, x5, x6, x7] (.int j :: .ref a :: st) σ ρ g τ Q = AW d 4 344 [x0, x1, x2, x3, x4, x5, x6, x7] (.int (σ a j.toNatClampNeg) :: st) σ ρ g τ Q := aw_ial m4 d4_343 rfl ht hj
theorem d4_344 : decode cX0_run 344 = .ok (.iload_n 2, 1) := by decide +kernel
theorem s4_344 {d : Nat} {st : List Value} {σ : am_I} {ρ : am_R} {g : am_J} {τ : am_T} {Q : am_Q} {x0 x1 x3 x4 x5 x6 x7 : Value} {v : Int32} : AW d 4 344 [x0, x1, .int v, x3, x4, x5, x6, x7] (st) σ ρ g τ Q = AW d 4 345 [x0, x1, .int v, x3, x4, x5, x6, x7] (.int v :: st) σ ρ g τ Q := aw_lc m4 d4_344 rfl rfl rfl
theorem d4_345 : decode cX0_run 345 = .ok (.iload_n 3, 1) := by decide +kernel
theorem s4_345 {d : Nat} {st : List Value} {σ : am_I} {ρ : am_R} {g : am_J} {τ : am_T} {Q : am_Q} {x0 x1 x2 x4 x5 x6 x7 : Value} {v : Int32} : AW d 4 345 [x0, x1, x2, .int v, x4, x5, x6, x7] (st) σ ρ g τ Q = AW d 4 346 [x0, x1, x2, .int v, x4, x5, x6, x7] (.int v :: st) σ ρ g τ Q := aw_lc m4 d4_345 rfl rfl rfl
theorem d4_346 : decode cX0_run 346 = .ok (.iconst 2, 1) := by decide +kernel
theorem s4_346 {d : Nat} {st : List Value} {σ : am_I} {ρ : am_R} {g : am_J} {τ : am_T} {Q : am_Q} {x0 x1 x2 x3 x4 x5 x6 x7 : Value} : AW d 4 346 [x0, x1, x2, x3, x4, x5, x6, x7] (st) σ ρ g τ Q = AW d 4 347 [x0, x1, x2, x3, x4, x5, x6, x7] (.int 2 :: st) σ ρ g τ Q := aw_lc m4 d4_346 rfl rfl rfl
theorem d4_347 : decode cX0_run 347 = .ok (.isub, 1) := by decide +kernel
theorem s4_347 {d : Nat} {st : List Value} {σ : am_I} {ρ : am_R} {g : am_J} {τ : am_T} {Q : am_Q} {x0 x1 x2 x3 x4 x5 x6 x7 : Value} {v w : Int32} : AW d 4 347 [x0, x1, x2, x3, x4, x5, x6, x7] (.int w :: .int v :: st) σ ρ g τ Q = AW d 4 348 [x0, x1, x2, x3, x4, x5, x6, x7] (.int (v - w) :: st) σ ρ g τ Q := aw_lc m4 d4_347 rfl rfl rfl
theorem d4_348 : decode cX0_run 348 = .ok (.iload 7, 2) := by decide +kernel
theorem s4_348 {d : Nat} {st : List Value} {σ : am_I} {ρ : am_R} {g : am_J} {τ : am_T} {Q : am_Q} {x0 x1 x2 x3 x4 x5 x6 : Value} {v : Int32} : AW d 4 348 [x0, x1, x2, x3, x4, x5, x6, .int v] (st) σ ρ g τ Q = AW d 4 350 [x0, x1, x2, x3, x4, x5, x6, .int v] (.int v :: st) σ ρ g τ Q := aw_lc m4 d4_348 rfl rfl rfl
theorem d4_350 : decode cX0_run 350 = .ok (.invokevirtual 38, 3) := by decide +kernel
theorem s4_350 {d : Nat} {st : List Value} {σ : am_I} {ρ : am_R} {g : am_J} {τ : am_T} {Q : am_Q} {x0 x1 x2 x3 x4 x5 x6 x7 : Value} {p0 : Nat} {p1 : Int32} {p2 : Int32} {p3 : Int32} {p4 : Int32} (ht : τ.1 p0 = 0) (hs : st.length ≤ 4) : AW (d + 1) 4 350 [x0, x1, x2, x3, x4, x5, x6, x7] (.int p4 :: .int p3 :: .int p2 :: .int p1 :: .ref p0 :: st) σ ρ g τ Q = AW d 4 0 [.ref p0, .int p1, .int p2, .int p3, .int p4, am_jk, am_jk, am_jk] [] σ ρ g τ (fun r9 σ ρ g τ => AW (d + 1) 4 353 [x0, x1, x2, x3, x4, x5, x6, x7] (r9.toList ++ st) σ ρ g τ Q) := aw_cv m4 d4_350 rfl m4 rfl rfl (by decide) en4 ok4 rfl ht hs
theorem d4_353 : decode cX0_run 353 = .ok (.ireturn, 1) := by decide +kernel
theorem s4_353 {d : Nat} {σ : am_I} {ρ : am_R} {g : am_J} {τ : am_T} {Q : am_Q} {x0 x1 x2 x3 x4 x5 x6 x7 : Value} {v : Int32} : AW d 4 353 [x0, x1, x2, x3, x4, x5, x6, x7] ([.int v]) σ ρ g τ Q = Q (some (.int v)) σ ρ g τ := aw_ri m4 d4_353 rfl
theorem d4_354 : decode cX0_run 354 = .ok (.aload_n 0, 1) := by decide +kernel
theorem s4_354 {d : Nat} {st : List Value} {σ : am_I} {ρ : am_R} {g : am_J} {τ : am_T} {Q : am_Q} {x1 x2 x3 x4 x5 x6 x7 : Value} {v : Nat} : AW d 4 354 [.ref v, x1, x2, x3, x4, x5, x6, x7] (st) σ ρ g τ Q = AW d 4 355 [.ref v, x1, x2, x3, x4, x5, x6, x7] (.ref v :: st) σ ρ g τ Q := aw_lc m4 d4_354 rfl rfl rfl
theorem d4_355 : decode cX0_run 355 = .ok (.getstatic 35, 3) := by decide +kernel
theorem s4_355 {d : Nat} {st : List Value} {σ : am_I} {ρ : am_R} {g : am_J} {τ : am_T} {Q : am_Q} {x0 x1 x2 x3 x4 x5 x6 x7 : Value} : AW d 4 355 [x0, x1, x2, x3, x4, x5, x6, x7] (st) σ ρ g τ Q = AW d 4 358 [x0, x1, x2, x3, x4, x5, x6, x7] (.ref am_BG :: st) σ ρ g τ Q := aw_gsa m4 d4_355 rfl rfl
theorem d4_358 : decode cX0_run 358 = .ok (.iload 5, 2) := by decide +kernel
theorem s4_358 {d : Nat} {st : List Value} {σ : am_I} {ρ : am_R} {g : am_J} {τ : am_T} {Q : am_Q} {x0 x1 x2 x3 x4 x6 x7 : Value} {v : Int32} : AW d 4 358 [x0, x1, x2, x3, x4, .int v, x6, x7] (st) σ ρ g τ Q = AW d 4 360 [x0, x1, x2, x3, x4, .int v, x6, x7] (.int v :: st) σ ρ g τ Q := aw_lc m4 d4_358 rfl rfl rfl
theorem d4_360 : decode cX0_run 360 = .ok (.iaload, 1) := by decide +kernel
theorem s4_360 {d : Nat} {st : List Value} {σ : am_I} {ρ : am_R} {g : am_J} {τ : am_T} {Q : am_Q} {x0 x1 x2 x3 x4 x5 x6 x7 : Value} {a : Nat} {j : Int32} (ht : τ.1 a = 15) (hj : am_inb j (τ.2.1 a) = true) : AW d 4 360 [x0, x1, x2, x3, x4, x5, x6, x7] (.int j :: .ref a :: st) σ ρ g τ Q = AW d 4 361 [x0, x1, x2, x3, x4, x5, x6, x7] (.int (σ a j.toNatClampNeg) :: st) σ ρ g τ Q := aw_ial m4 d4_360 rfl ht hj
theorem d4_361 : decode cX0_run 361 = .ok (.iconst 2, 1) := by decide +kernel
theorem s4_361 {d : Nat} {st : List Value} {σ : am_I} {ρ : am_R} {g : am_J} {τ : am_T} {Q : am_Q} {x0 x1 x2 x3 x4 x5 x6 x7 : Value} : AW d 4 361 [x0, x1, x2, x3, x4, x5, x6, x7] (st) σ ρ g τ Q = AW d 4 362 [x0, x1, x2, x3, x4, x5, x6, x7] (.int 2 :: st) σ ρ g τ Q := aw_lc m4 d4_361 rfl rfl rfl
theorem d4_362 : decode cX0_run 362 = .ok (.iload_n 3, 1) := by decide +kernel
theorem s4_362 {d : Nat} {st : List Value} {σ : am_I} {ρ : am_R} {g : am_J} {τ : am_T} {Q : am_Q} {x0 x1 x2 x4 x5 x6 x7 : Value} {v : Int32} : AW d 4 362 [x0, x1, x2, .int v, x4, x5, x6, x7] (st) σ ρ g τ Q = AW d 4 363 [x0, x1, x2, .int v, x4, x5, x6, x7] (.int v :: st) σ ρ g τ Q := aw_lc m4 d4_362 rfl rfl rfl
theorem d4_363 : decode cX0_run 363 = .ok (.iload 7, 2) := by decide +kernel
theorem s4_363 {d : Nat} {st : List Value} {σ : am_I} {ρ : am_R} {g : am_J} {τ : am_T} {Q : am_Q} {x0 x1 x2 x3 x4 x5 x6 : Value} {v : Int32} : AW d 4 363 [x0, x1, x2, x3, x4, x5, x6, .int v] (st) σ ρ g τ Q = AW d 4 365 [x0, x1, x2, x3, x4, x5, x6, .int v] (.int v :: st) σ ρ g τ Q := aw_lc m4 d4_363 rfl rfl rfl
theorem d4_365 : decode cX0_run 365 = .ok (.invokevirtual 38, 3) := by decide +kernel
theorem s4_365 {d : Nat} {st : List Value} {σ : am_I} {ρ : am_R} {g : am_J} {τ : am_T} {Q : am_Q} {x0 x1 x2 x3 x4 x5 x6 x7 : Value} {p0 : Nat} {p1 : Int32} {p2 : Int32} {p3 : Int32} {p4 : Int32} (ht : τ.1 p0 = 0) (hs : st.length ≤ 4) : AW (d + 1) 4 365 [x0, x1, x2, x3, x4, x5, x6, x7] (.int p4 :: .int p3 :: .int p2 :: .int p1 :: .ref p0 :: st) σ ρ g τ Q = AW d 4 0 [.ref p0, .int p1, .int p2, .int p3, .int p4, am_jk, am_jk, am_jk] [] σ ρ g τ (fun r9 σ ρ g τ => AW (d + 1) 4 368 [x0, x1, x2, x3, x4, x5, x6, x7] (r9.toList ++ st) σ ρ g τ Q) := aw_cv m4 d4_365 rfl m4 rfl rfl (by decide) en4 ok4 rfl ht hs
theorem d4_368 : decode cX0_run 368 = .ok (.iconst 5, 1) := by decide +kernel
theorem s4_368 {d : Nat} {st : List Value} {σ : am_I} {ρ : am_R} {g : am_J} {τ : am_T} {Q : am_Q} {x0 x1 x2 x3 x4 x5 x6 x7 : Value} : AW d 4 368 [x0, x1, x2, x3, x4, x5, x6, x7] (st) σ ρ g τ Q = AW d 4 369 [x0, x1, x2, x3, x4, x5, x6, x7] (.int 5 :: st) σ ρ g τ Q := aw_lc m4 d4_368 rfl rfl rfl
theorem d4_369 : decode cX0_run 369 = .ok (.isub, 1) := by decide +kernel
theorem s4_369 {d : Nat} {st : List Value} {σ : am_I} {ρ : am_R} {g : am_J} {τ : am_T} {Q : am_Q} {x0 x1 x2 x3 x4 x5 x6 x7 : Value} {v w : Int32} : AW d 4 369 [x0, x1, x2, x3, x4, x5, x6, x7] (.int w :: .int v :: st) σ ρ g τ Q = AW d 4 370 [x0, x1, x2, x3, x4, x5, x6, x7] (.int (v - w) :: st) σ ρ g τ Q := aw_lc m4 d4_369 rfl rfl rfl
theorem d4_370 : decode cX0_run 370 = .ok (.ireturn, 1) := by decide +kernel
theorem s4_370 {d : Nat} {σ : am_I} {ρ : am_R} {g : am_J} {τ : am_T} {Q : am_Q} {x0 x1 x2 x3 x4 x5 x6 x7 : Value} {v : Int32} : AW d 4 370 [x0, x1, x2, x3, x4, x5, x6, x7] ([.int v]) σ ρ g τ Q = Q (some (.int v)) σ ρ g τ := aw_ri m4 d4_370 rfl
theorem d4_371 : decode cX0_run 371 = .ok (.aload_n 0, 1) := by decide +kernel
theorem s4_371 {d : Nat} {st : List Value} {σ : am_I} {ρ : am_R} {g : am_J} {τ : am_T} {Q : am_Q} {x1 x2 x3 x4 x5 x6 x7 : Value} {v : Nat} : AW d 4 371 [.ref v, x1, x2, x3, x4, x5, x6, x7] (st) σ ρ g τ Q = AW d 4 372 [.ref v, x1, x2, x3, x4, x5, x6, x7] (.ref v :: st) σ ρ g τ Q := aw_lc m4 d4_371 rfl rfl rfl
theorem d4_372 : decode cX0_run 372 = .ok (.getstatic 35, 3) := by decide +kernel
theorem s4_372 {d : Nat} {st : List Value} {σ : am_I} {ρ : am_R} {g : am_J} {τ : am_T} {Q : am_Q} {x0 x1 x2 x3 x4 x5 x6 x7 : Value} : AW d 4 372 [x0, x1, x2, x3, x4, x5, x6, x7] (st) σ ρ g τ Q = AW d 4 375 [x0, x1, x2, x3, x4, x5, x6, x7] (.ref am_BG :: st) σ ρ g τ Q := aw_gsa m4 d4_372 rfl rfl
theorem d4_375 : decode cX0_run 375 = .ok (.iload 5, 2) := by decide +kernel
theorem s4_375 {d : Nat} {st : List Value} {σ : am_I} {ρ : am_R} {g : am_J} {τ : am_T} {Q : am_Q} {x0 x1 x2 x3 x4 x6 x7 : Value} {v : Int32} : AW d 4 375 [x0, x1, x2, x3, x4, .int v, x6, x7] (st) σ ρ g τ Q = AW d 4 377 [x0, x1, x2, x3, x4, .int v, x6, x7] (.int v :: st) σ ρ g τ Q := aw_lc m4 d4_375 rfl rfl rfl
theorem d4_377 : decode cX0_run 377 = .ok (.iaload, 1) := by decide +kernel
theorem s4_377 {d : Nat} {st : List Value} {σ : am_I} {ρ : am_R} {g : am_J} {τ : am_T} {Q : am_Q} {x0 x1 x2 x3 x4 x5 x6 x7 : Value} {a : Nat} {j : Int32} (ht : τ.1 a = 15) (hj : am_inb j (τ.2.1 a) = true) : AW d 4 377 [x0, x1, x2, x3, x4, x5, x6, x7] (.int j :: .ref a :: st) σ ρ g τ Q = AW d 4 378 [x0, x1, x2, x3, x4, x5, x6, x7] (.int (σ a j.toNatClampNeg) :: st) σ ρ g τ Q := aw_ial m4 d4_377 rfl ht hj
theorem d4_378 : decode cX0_run 378 = .ok (.iconst 1, 1) := by decide +kernel
theorem s4_378 {d : Nat} {st : List Value} {σ : am_I} {ρ : am_R} {g : am_J} {τ : am_T} {Q : am_Q} {x0 x1 x2 x3 x4 x5 x6 x7 : Value} : AW d 4 378 [x0, x1, x2, x3, x4, x5, x6, x7] (st) σ ρ g τ Q = AW d 4 379 [x0, x1, x2, x3, x4, x5, x6, x7] (.int 1 :: st) σ ρ g τ Q := aw_lc m4 d4_378 rfl rfl rfl
theorem d4_379 : decode cX0_run 379 = .ok (.iload_n 3, 1) := by decide +kernel
theorem s4_379 {d : Nat} {st : List Value} {σ : am_I} {ρ : am_R} {g : am_J} {τ : am_T} {Q : am_Q} {x0 x1 x2 x4 x5 x6 x7 : Value} {v : Int32} : AW d 4 379 [x0, x1, x2, .int v, x4, x5, x6, x7] (st) σ ρ g τ Q = AW d 4 380 [x0, x1, x2, .int v, x4, x5, x6, x7] (.int v :: st) σ ρ g τ Q := aw_lc m4 d4_379 rfl rfl rfl
theorem d4_380 : decode cX0_run 380 = .ok (.aload_n 0, 1) := by decide +kernel
theorem s4_380 {d : Nat} {st : List Value} {σ : am_I} {ρ : am_R} {g : am_J} {τ : am_T} {Q : am_Q} {x1 x2 x3 x4 x5 x6 x7 : Value} {v : Nat} : AW d 4 380 [.ref v, x1, x2, x3, x4, x5, x6, x7] (st) σ ρ g τ Q = AW d 4 381 [.ref v, x1, x2, x3, x4, x5, x6, x7] (.ref v :: st) σ ρ g τ Q := aw_lc m4 d4_380 rfl rfl rfl
theorem d4_381 : decode cX0_run 381 = .ok (.getfield 18, 3) := by decide +kernel
theorem s4_381 {d : Nat} {st : List Value} {σ : am_I} {ρ : am_R} {g : am_J} {τ : am_T} {Q : am_Q} {x0 x1 x2 x3 x4 x5 x6 x7 : Value} {a : Nat} (ht : τ.1 a = 0) : AW d 4 381 [x0, x1, x2, x3, x4, x5, x6, x7] (.ref a :: st) σ ρ g τ Q = AW d 4 384 [x0, x1, x2, x3, x4, x5, x6, x7] (.int (σ a 2) :: st) σ ρ g τ Q := aw_gi m4 d4_381 rfl rfl rfl ht
theorem d4_384 : decode cX0_run 384 = .ok (.iadd, 1) := by decide +kernel
theorem s4_384 {d : Nat} {st : List Value} {σ : am_I} {ρ : am_R} {g : am_J} {τ : am_T} {Q : am_Q} {x0 x1 x2 x3 x4 x5 x6 x7 : Value} {v w : Int32} : AW d 4 384 [x0, x1, x2, x3, x4, x5, x6, x7] (.int w :: .int v :: st) σ ρ g τ Q = AW d 4 385 [x0, x1, x2, x3, x4, x5, x6, x7] (.int (v + w) :: st) σ ρ g τ Q := aw_lc m4 d4_384 rfl rfl rfl
theorem d4_385 : decode cX0_run 385 = .ok (.iload 7, 2) := by decide +kernel
theorem s4_385 {d : Nat} {st : List Value} {σ : am_I} {ρ : am_R} {g : am_J} {τ : am_T} {Q : am_Q} {x0 x1 x2 x3 x4 x5 x6 : Value} {v : Int32} : AW d 4 385 [x0, x1, x2, x3, x4, x5, x6, .int v] (st) σ ρ g τ Q = AW d 4 387 [x0, x1, x2, x3, x4, x5, x6, .int v] (.int v :: st) σ ρ g τ Q := aw_lc m4 d4_385 rfl rfl rfl
theorem d4_387 : decode cX0_run 387 = .ok (.invokevirtual 38, 3) := by decide +kernel
theorem s4_387 {d : Nat} {st : List Value} {σ : am_I} {ρ : am_R} {g : am_J} {τ : am_T} {Q : am_Q} {x0 x1 x2 x3 x4 x5 x6 x7 : Value} {p0 : Nat} {p1 : Int32} {p2 : Int32} {p3 : Int32} {p4 : Int32} (ht : τ.1 p0 = 0) (hs : st.length ≤ 4) : AW (d + 1) 4 387 [x0, x1, x2, x3, x4, x5, x6, x7] (.int p4 :: .int p3 :: .int p2 :: .int p1 :: .ref p0 :: st) σ ρ g τ Q = AW d 4 0 [.ref p0, .int p1, .int p2, .int p3, .int p4, am_jk, am_jk, am_jk] [] σ ρ g τ (fun r9 σ ρ g τ => AW (d + 1) 4 390 [x0, x1, x2, x3, x4, x5, x6, x7] (r9.toList ++ st) σ ρ g τ Q) := aw_cv m4 d4_387 rfl m4 rfl rfl (by decide) en4 ok4 rfl ht hs
theorem d4_390 : decode cX0_run 390 = .ok (.ireturn, 1) := by decide +kernel
theorem s4_390 {d : Nat} {σ : am_I} {ρ : am_R} {g : am_J} {τ : am_T} {Q : am_Q} {x0 x1 x2 x3 x4 x5 x6 x7 : Value} {v : Int32} : AW d 4 390 [x0, x1, x2, x3, x4, x5, x6, x7] ([.int v]) σ ρ g τ Q = Q (some (.int v)) σ ρ g τ := aw_ri m4 d4_390 rfl
theorem d4_391 : decode cX0_run 391 = .ok (.aload_n 0, 1) := by decide +kernel
theorem s4_391 {d : Nat} {st : List Value} {σ : am_I} {ρ : am_R} {g : am_J} {τ : am_T} {Q : am_Q} {x1 x2 x3 x4 x5 x6 x7 : Value} {v : Nat} : AW d 4 391 [.ref v, x1, x2, x3, x4, x5, x6, x7] (st) σ ρ g τ Q = AW d 4 392 [.ref v, x1, x2, x3, x4, x5, x6, x7] (.ref v :: st) σ ρ g τ Q := aw_lc m4 d4_391 rfl rfl rfl
theorem d4_392 : decode cX0_run 392 = .ok (.getstatic 35, 3) := by decide +kernel
theorem s4_392 {d : Nat} {st : List Value} {σ : am_I} {ρ : am_R} {g : am_J} {τ : am_T} {Q : am_Q} {x0 x1 x2 x3 x4 x5 x6 x7 : Value} : AW d 4 392 [x0, x1, x2, x3, x4, x5, x6, x7] (st) σ ρ g τ Q = AW d 4 395 [x0, x1, x2, x3, x4, x5, x6, x7] (.ref am_BG :: st) σ ρ g τ Q := aw_gsa m4 d4_392 rfl rfl
theorem d4_395 : decode cX0_run 395 = .ok (.iload 5, 2) := by decide +kernel
theorem s4_395 {d : Nat} {st : List Value} {σ : am_I} {ρ : am_R} {g : am_J} {τ : am_T} {Q : am_Q} {x0 x1 x2 x3 x4 x6 x7 : Value} {v : Int32} : AW d 4 395 [x0, x1, x2, x3, x4, .int v, x6, x7] (st) σ ρ g τ Q = AW d 4 397 [x0, x1, x2, x3, x4, .int v, x6, x7] (.int v :: st) σ ρ g τ Q := aw_lc m4 d4_395 rfl rfl rfl
theorem d4_397 : decode cX0_run 397 = .ok (.iaload, 1) := by decide +kernel
theorem s4_397 {d : Nat} {st : List Value} {σ : am_I} {ρ : am_R} {g : am_J} {τ : am_T} {Q : am_Q} {x0 x1 x2 x3 x4 x5 x6 x7 : Value} {a : Nat} {j : Int32} (ht : τ.1 a = 15) (hj : am_inb j (τ.2.1 a) = true) : AW d 4 397 [x0, x1, x2, x3, x4, x5, x6, x7] (.int j :: .ref a :: st) σ ρ g τ Q = AW d 4 398 [x0, x1, x2, x3, x4, x5, x6, x7] (.int (σ a j.toNatClampNeg) :: st) σ ρ g τ Q := aw_ial m4 d4_397 rfl ht hj
theorem d4_398 : decode cX0_run 398 = .ok (.iload_n 2, 1) := by decide +kernel
theorem s4_398 {d : Nat} {st : List Value} {σ : am_I} {ρ : am_R} {g : am_J} {τ : am_T} {Q : am_Q} {x0 x1 x3 x4 x5 x6 x7 : Value} {v : Int32} : AW d 4 398 [x0, x1, .int v, x3, x4, x5, x6, x7] (st) σ ρ g τ Q = AW d 4 399 [x0, x1, .int v, x3, x4, x5, x6, x7] (.int v :: st) σ ρ g τ Q := aw_lc m4 d4_398 rfl rfl rfl
theorem d4_399 : decode cX0_run 399 = .ok (.iload_n 3, 1) := by decide +kernel
theorem s4_399 {d : Nat} {st : List Value} {σ : am_I} {ρ : am_R} {g : am_J} {τ : am_T} {Q : am_Q} {x0 x1 x2 x4 x5 x6 x7 : Value} {v : Int32} : AW d 4 399 [x0, x1, x2, .int v, x4, x5, x6, x7] (st) σ ρ g τ Q = AW d 4 400 [x0, x1, x2, .int v, x4, x5, x6, x7] (.int v :: st) σ ρ g τ Q := aw_lc m4 d4_399 rfl rfl rfl
theorem d4_400 : decode cX0_run 400 = .ok (.iload 7, 2) := by decide +kernel
theorem s4_400 {d : Nat} {st : List Value} {σ : am_I} {ρ : am_R} {g : am_J} {τ : am_T} {Q : am_Q} {x0 x1 x2 x3 x4 x5 x6 : Value} {v : Int32} : AW d 4 400 [x0, x1, x2, x3, x4, x5, x6, .int v] (st) σ ρ g τ Q = AW d 4 402 [x0, x1, x2, x3, x4, x5, x6, .int v] (.int v :: st) σ ρ g τ Q := aw_lc m4 d4_400 rfl rfl rfl
theorem d4_402 : decode cX0_run 402 = .ok (.invokevirtual 38, 3) := by decide +kernel
theorem s4_402 {d : Nat} {st : List Value} {σ : am_I} {ρ : am_R} {g : am_J} {τ : am_T} {Q : am_Q} {x0 x1 x2 x3 x4 x5 x6 x7 : Value} {p0 : Nat} {p1 : Int32} {p2 : Int32} {p3 : Int32} {p4 : Int32} (ht : τ.1 p0 = 0) (hs : st.length ≤ 4) : AW (d + 1) 4 402 [x0, x1, x2, x3, x4, x5, x6, x7] (.int p4 :: .int p3 :: .int p2 :: .int p1 :: .ref p0 :: st) σ ρ g τ Q = AW d 4 0 [.ref p0, .int p1, .int p2, .int p3, .int p4, am_jk, am_jk, am_jk] [] σ ρ g τ (fun r9 σ ρ g τ => AW (d + 1) 4 405 [x0, x1, x2, x3, x4, x5, x6, x7] (r9.toList ++ st) σ ρ g τ Q) := aw_cv m4 d4_402 rfl m4 rfl rfl (by decide) en4 ok4 rfl ht hs
theorem d4_405 : decode cX0_run 405 = .ok (.aload_n 0, 1) := by decide +kernel
theorem s4_405 {d : Nat} {st : List Value} {σ : am_I} {ρ : am_R} {g : am_J} {τ : am_T} {Q : am_Q} {x1 x2 x3 x4 x5 x6 x7 : Value} {v : Nat} : AW d 4 405 [.ref v, x1, x2, x3, x4, x5, x6, x7] (st) σ ρ g τ Q = AW d 4 406 [.ref v, x1, x2, x3, x4, x5, x6, x7] (.ref v :: st) σ ρ g τ Q := aw_lc m4 d4_405 rfl rfl rfl
theorem d4_406 : decode cX0_run 406 = .ok (.getfield 15, 3) := by decide +kernel
theorem s4_406 {d : Nat} {st : List Value} {σ : am_I} {ρ : am_R} {g : am_J} {τ : am_T} {Q : am_Q} {x0 x1 x2 x3 x4 x5 x6 x7 : Value} {a : Nat} (ht : τ.1 a = 0) : AW d 4 406 [x0, x1, x2, x3, x4, x5, x6, x7] (.ref a :: st) σ ρ g τ Q = AW d 4 409 [x0, x1, x2, x3, x4, x5, x6, x7] (.int (σ a 1) :: st) σ ρ g τ Q := aw_gi m4 d4_406 rfl rfl rfl ht
theorem d4_409 : decode cX0_run 409 = .ok (.imul, 1) := by decide +kernel
theorem s4_409 {d : Nat} {st : List Value} {σ : am_I} {ρ : am_R} {g : am_J} {τ : am_T} {Q : am_Q} {x0 x1 x2 x3 x4 x5 x6 x7 : Value} {v w : Int32} : AW d 4 409 [x0, x1, x2, x3, x4, x5, x6, x7] (.int w :: .int v :: st) σ ρ g τ Q = AW d 4 410 [x0, x1, x2, x3, x4, x5, x6, x7] (.int (v * w) :: st) σ ρ g τ Q := aw_lc m4 d4_409 rfl rfl rfl
theorem d4_410 : decode cX0_run 410 = .ok (.ireturn, 1) := by decide +kernel
theorem s4_410 {d : Nat} {σ : am_I} {ρ : am_R} {g : am_J} {τ : am_T} {Q : am_Q} {x0 x1 x2 x3 x4 x5 x6 x7 : Value} {v : Int32} : AW d 4 410 [x0, x1, x2, x3, x4, x5, x6, x7] ([.int v]) σ ρ g τ Q = Q (some (.int v)) σ ρ g τ := aw_ri m4 d4_410 rfl
theorem d4_411 : decode cX0_run 411 = .ok (.aload_n 0, 1) := by decide +kernel
theorem s4_411 {d : Nat} {st : List Value} {σ : am_I} {ρ : am_R} {g : am_J} {τ : am_T} {Q : am_Q} {x1 x2 x3 x4 x5 x6 x7 : Value} {v : Nat} : AW d 4 411 [.ref v, x1, x2, x3, x4, x5, x6, x7] (st) σ ρ g τ Q = AW d 4 412 [.ref v, x1, x2, x3, x4, x5, x6, x7] (.ref v :: st) σ ρ g τ Q := aw_lc m4 d4_411 rfl rfl rfl
theorem d4_412 : decode cX0_run 412 = .ok (.getstatic 35, 3) := by decide +kernel
theorem s4_412 {d : Nat} {st : List Value} {σ : am_I} {ρ : am_R} {g : am_J} {τ : am_T} {Q : am_Q} {x0 x1 x2 x3 x4 x5 x6 x7 : Value} : AW d 4 412 [x0, x1, x2, x3, x4, x5, x6, x7] (st) σ ρ g τ Q = AW d 4 415 [x0, x1, x2, x3, x4, x5, x6, x7] (.ref am_BG :: st) σ ρ g τ Q := aw_gsa m4 d4_412 rfl rfl
theorem d4_415 : decode cX0_run 415 = .ok (.iload 5, 2) := by decide +kernel
theorem s4_415 {d : Nat} {st : List Value} {σ : am_I} {ρ : am_R} {g : am_J} {τ : am_T} {Q : am_Q} {x0 x1 x2 x3 x4 x6 x7 : Value} {v : Int32} : AW d 4 415 [x0, x1, x2, x3, x4, .int v, x6, x7] (st) σ ρ g τ Q = AW d 4 417 [x0, x1, x2, x3, x4, .int v, x6, x7] (.int v :: st) σ ρ g τ Q := aw_lc m4 d4_415 rfl rfl rfl
theorem d4_417 : decode cX0_run 417 = .ok (.iaload, 1) := by decide +kernel
theorem s4_417 {d : Nat} {st : List Value} {σ : am_I} {ρ : am_R} {g : am_J} {τ : am_T} {Q : am_Q} {x0 x1 x2 x3 x4 x5 x6 x7 : Value} {a : Nat} {j : Int32} (ht : τ.1 a = 15) (hj : am_inb j (τ.2.1 a) = true) : AW d 4 417 [x0, x1, x2, x3, x4, x5, x6, x7] (.int j :: .ref a :: st) σ ρ g τ Q = AW d 4 418 [x0, x1, x2, x3, x4, x5, x6, x7] (.int (σ a j.toNatClampNeg) :: st) σ ρ g τ Q := aw_ial m4 d4_417 rfl ht hj
theorem d4_418 : decode cX0_run 418 = .ok (.iconst 2, 1) := by decide +kernel
theorem s4_418 {d : Nat} {st : List Value} {σ : am_I} {ρ : am_R} {g : am_J} {τ : am_T} {Q : am_Q} {x0 x1 x2 x3 x4 x5 x6 x7 : Value} : AW d 4 418 [x0, x1, x2, x3, x4, x5, x6, x7] (st) σ ρ g τ Q = AW d 4 419 [x0, x1, x2, x3, x4, x5, x6, x7] (.int 2 :: st) σ ρ g τ Q := aw_lc m4 d4_418 rfl rfl rfl
theorem d4_419 : decode cX0_run 419 = .ok (.iload_n 3, 1) := by decide +kernel
theorem s4_419 {d : Nat} {st : List Value} {σ : am_I} {ρ : am_R} {g : am_J} {τ : am_T} {Q : am_Q} {x0 x1 x2 x4 x5 x6 x7 : Value} {v : Int32} : AW d 4 419 [x0, x1, x2, .int v, x4, x5, x6, x7] (st) σ ρ g τ Q = AW d 4 420 [x0, x1, x2, .int v, x4, x5, x6, x7] (.int v :: st) σ ρ g τ Q := aw_lc m4 d4_419 rfl rfl rfl
theorem d4_420 : decode cX0_run 420 = .ok (.iload 7, 2) := by decide +kernel
theorem s4_420 {d : Nat} {st : List Value} {σ : am_I} {ρ : am_R} {g : am_J} {τ : am_T} {Q : am_Q} {x0 x1 x2 x3 x4 x5 x6 : Value} {v : Int32} : AW d 4 420 [x0, x1, x2, x3, x4, x5, x6, .int v] (st) σ ρ g τ Q = AW d 4 422 [x0, x1, x2, x3, x4, x5, x6, .int v] (.int v :: st) σ ρ g τ Q := aw_lc m4 d4_420 rfl rfl rfl
theorem d4_422 : decode cX0_run 422 = .ok (.invokevirtual 38, 3) := by decide +kernel
theorem s4_422 {d : Nat} {st : List Value} {σ : am_I} {ρ : am_R} {g : am_J} {τ : am_T} {Q : am_Q} {x0 x1 x2 x3 x4 x5 x6 x7 : Value} {p0 : Nat} {p1 : Int32} {p2 : Int32} {p3 : Int32} {p4 : Int32} (ht : τ.1 p0 = 0) (hs : st.length ≤ 4) : AW (d + 1) 4 422 [x0, x1, x2, x3, x4, x5, x6, x7] (.int p4 :: .int p3 :: .int p2 :: .int p1 :: .ref p0 :: st) σ ρ g τ Q = AW d 4 0 [.ref p0, .int p1, .int p2, .int p3, .int p4, am_jk, am_jk, am_jk] [] σ ρ g τ (fun r9 σ ρ g τ => AW (d + 1) 4 425 [x0, x1, x2, x3, x4, x5, x6, x7] (r9.toList ++ st) σ ρ g τ Q) := aw_cv m4 d4_422 rfl m4 rfl rfl (by decide) en4 ok4 rfl ht hs
theorem d4_425 : decode cX0_run 425 = .ok (.aload_n 0, 1) := by decide +kernel
theorem s4_425 {d : Nat} {st : List Value} {σ : am_I} {ρ : am_R} {g : am_J} {τ : am_T} {Q : am_Q} {x1 x2 x3 x4 x5 x6 x7 : Value} {v : Nat} : AW d 4 425 [.ref v, x1, x2, x3, x4, x5, x6, x7] (st) σ ρ g τ Q = AW d 4 426 [.ref v, x1, x2, x3, x4, x5, x6, x7] (.ref v :: st) σ ρ g τ Q := aw_lc m4 d4_425 rfl rfl rfl
theorem d4_426 : decode cX0_run 426 = .ok (.aload_n 0, 1) := by decide +kernel
theorem s4_426 {d : Nat} {st : List Value} {σ : am_I} {ρ : am_R} {g : am_J} {τ : am_T} {Q : am_Q} {x1 x2 x3 x4 x5 x6 x7 : Value} {v : Nat} : AW d 4 426 [.ref v, x1, x2, x3, x4, x5, x6, x7] (st) σ ρ g τ Q = AW d 4 427 [.ref v, x1, x2, x3, x4, x5, x6, x7] (.ref v :: st) σ ρ g τ Q := aw_lc m4 d4_426 rfl rfl rfl
theorem d4_427 : decode cX0_run 427 = .ok (.getfield 9, 3) := by decide +kernel
theorem s4_427 {d : Nat} {st : List Value} {σ : am_I} {ρ : am_R} {g : am_J} {τ : am_T} {Q : am_Q} {x0 x1 x2 x3 x4 x5 x6 x7 : Value} {a : Nat} (ht : τ.1 a = 0) : AW d 4 427 [x0, x1, x2, x3, x4, x5, x6, x7] (.ref a :: st) σ ρ g τ Q = AW d 4 430 [x0, x1, x2, x3, x4, x5, x6, x7] (.int (σ a 0) :: st) σ ρ g τ Q := aw_gi m4 d4_427 rfl rfl rfl ht
theorem d4_430 : decode cX0_run 430 = .ok (.iconst 0, 1) := by decide +kernel
theorem s4_430 {d : Nat} {st : List Value} {σ : am_I} {ρ : am_R} {g : am_J} {τ : am_T} {Q : am_Q} {x0 x1 x2 x3 x4 x5 x6 x7 : Value} : AW d 4 430 [x0, x1, x2, x3, x4, x5, x6, x7] (st) σ ρ g τ Q = AW d 4 431 [x0, x1, x2, x3, x4, x5, x6, x7] (.int 0 :: st) σ ρ g τ Q := aw_lc m4 d4_430 rfl rfl rfl
theorem d4_431 : decode cX0_run 431 = .ok (.aload_n 0, 1) := by decide +kernel
theorem s4_431 {d : Nat} {st : List Value} {σ : am_I} {ρ : am_R} {g : am_J} {τ : am_T} {Q : am_Q} {x1 x2 x3 x4 x5 x6 x7 : Value} {v : Nat} : AW d 4 431 [.ref v, x1, x2, x3, x4, x5, x6, x7] (st) σ ρ g τ Q = AW d 4 432 [.ref v, x1, x2, x3, x4, x5, x6, x7] (.ref v :: st) σ ρ g τ Q := aw_lc m4 d4_431 rfl rfl rfl
theorem d4_432 : decode cX0_run 432 = .ok (.getfield 15, 3) := by decide +kernel
theorem s4_432 {d : Nat} {st : List Value} {σ : am_I} {ρ : am_R} {g : am_J} {τ : am_T} {Q : am_Q} {x0 x1 x2 x3 x4 x5 x6 x7 : Value} {a : Nat} (ht : τ.1 a = 0) : AW d 4 432 [x0, x1, x2, x3, x4, x5, x6, x7] (.ref a :: st) σ ρ g τ Q = AW d 4 435 [x0, x1, x2, x3, x4, x5, x6, x7] (.int (σ a 1) :: st) σ ρ g τ Q := aw_gi m4 d4_432 rfl rfl rfl ht
theorem d4_435 : decode cX0_run 435 = .ok (.iload 7, 2) := by decide +kernel
theorem s4_435 {d : Nat} {st : List Value} {σ : am_I} {ρ : am_R} {g : am_J} {τ : am_T} {Q : am_Q} {x0 x1 x2 x3 x4 x5 x6 : Value} {v : Int32} : AW d 4 435 [x0, x1, x2, x3, x4, x5, x6, .int v] (st) σ ρ g τ Q = AW d 4 437 [x0, x1, x2, x3, x4, x5, x6, .int v] (.int v :: st) σ ρ g τ Q := aw_lc m4 d4_435 rfl rfl rfl
theorem d4_437 : decode cX0_run 437 = .ok (.invokevirtual 38, 3) := by decide +kernel
theorem s4_437 {d : Nat} {st : List Value} {σ : am_I} {ρ : am_R} {g : am_J} {τ : am_T} {Q : am_Q} {x0 x1 x2 x3 x4 x5 x6 x7 : Value} {p0 : Nat} {p1 : Int32} {p2 : Int32} {p3 : Int32} {p4 : Int32} (ht : τ.1 p0 = 0) (hs : st.length ≤ 4) : AW (d + 1) 4 437 [x0, x1, x2, x3, x4, x5, x6, x7] (.int p4 :: .int p3 :: .int p2 :: .int p1 :: .ref p0 :: st) σ ρ g τ Q = AW d 4 0 [.ref p0, .int p1, .int p2, .int p3, .int p4, am_jk, am_jk, am_jk] [] σ ρ g τ (fun r9 σ ρ g τ => AW (d + 1) 4 440 [x0, x1, x2, x3, x4, x5, x6, x7] (r9.toList ++ st) σ ρ g τ Q) := aw_cv m4 d4_437 rfl m4 rfl rfl (by decide) en4 ok4 rfl ht hs
theorem d4_440 : decode cX0_run 440 = .ok (.iadd, 1) := by decide +kernel
theorem s4_440 {d : Nat} {st : List Value} {σ : am_I} {ρ : am_R} {g : am_J} {τ : am_T} {Q : am_Q} {x0 x1 x2 x3 x4 x5 x6 x7 : Value} {v w : Int32} : AW d 4 440 [x0, x1, x2, x3, x4, x5, x6, x7] (.int w :: .int v :: st) σ ρ g τ Q = AW d 4 441 [x0, x1, x2, x3, x4, x5, x6, x7] (.int (v + w) :: st) σ ρ g τ Q := aw_lc m4 d4_440 rfl rfl rfl
theorem d4_441 : decode cX0_run 441 = .ok (.ireturn, 1) := by decide +kernel
theorem s4_441 {d : Nat} {σ : am_I} {ρ : am_R} {g : am_J} {τ : am_T} {Q : am_Q} {x0 x1 x2 x3 x4 x5 x6 x7 : Value} {v : Int32} : AW d 4 441 [x0, x1, x2, x3, x4, x5, x6, x7] ([.int v]) σ ρ g τ Q = Q (some (.int v)) σ ρ g τ := aw_ri m4 d4_441 rfl
theorem d4_442 : decode cX0_run 442 = .ok (.iconst 0, 1) := by decide +kernel
theorem s4_442 {d : Nat} {st : List Value} {σ : am_I} {ρ : am_R} {g : am_J} {τ : am_T} {Q : am_Q} {x0 x1 x2 x3 x4 x5 x6 x7 : Value} : AW d 4 442 [x0, x1, x2, x3, x4, x5, x6, x7] (st) σ ρ g τ Q = AW d 4 443 [x0, x1, x2, x3, x4, x5, x6, x7] (.int 0 :: st) σ ρ g τ Q := aw_lc m4 d4_442 rfl rfl rfl
theorem d4_443 : decode cX0_run 443 = .ok (.ireturn, 1) := by decide +kernel
theorem s4_443 {d : Nat} {σ : am_I} {ρ : am_R} {g : am_J} {τ : am_T} {Q : am_Q} {x0 x1 x2 x3 x4 x5 x6 x7 : Value} {v : Int32} : AW d 4 443 [x0, x1, x2, x3, x4, x5, x6, x7] ([.int v]) σ ρ g τ Q = Q (some (.int v)) σ ρ g τ := aw_ri m4 d4_443 rfl
theorem d5_0 : decode cX0_parted 0 = .ok (.iload_n 2, 1) := by decide +kernel
theorem s5_0 {d : Nat} {st : List Value} {σ : am_I} {ρ : am_R} {g : am_J} {τ : am_T} {Q : am_Q} {x0 x1 : Value} {v : Int32} : AW d 5 0 [x0, x1, .int v] (st) σ ρ g τ Q = AW d 5 1 [x0, x1, .int v] (.int v :: st) σ ρ g τ Q := aw_lc m5 d5_0 rfl rfl rfl
theorem d5_1 : decode cX0_parted 1 = .ok (.ifCond .ne 10, 3) := by decide +kernel
theorem s5_1 {d : Nat} {st : List Value} {σ : am_I} {ρ : am_R} {g : am_J} {τ : am_T} {Q : am_Q} {x0 x1 x2 : Value} {v : Int32} : AW d 5 1 [x0, x1, x2] (.int v :: st) σ ρ g τ Q = if ¬ v = 0 then AW d 5 11 [x0, x1, x2] (st) σ ρ g τ Q else AW d 5 4 [x0, x1, x2] (st) σ ρ g τ Q := aw_br m5 d5_1 rfl rfl rfl
theorem d5_4 : decode cX0_parted 4 = .ok (.aload_n 0, 1) := by decide +kernel
theorem s5_4 {d : Nat} {st : List Value} {σ : am_I} {ρ : am_R} {g : am_J} {τ : am_T} {Q : am_Q} {x1 x2 : Value} {v : Nat} : AW d 5 4 [.ref v, x1, x2] (st) σ ρ g τ Q = AW d 5 5 [.ref v, x1, x2] (.ref v :: st) σ ρ g τ Q := aw_lc m5 d5_4 rfl rfl rfl
theorem d5_5 : decode cX0_parted 5 = .ok (.iconst 1, 1) := by decide +kernel
theorem s5_5 {d : Nat} {st : List Value} {σ : am_I} {ρ : am_R} {g : am_J} {τ : am_T} {Q : am_Q} {x0 x1 x2 : Value} : AW d 5 5 [x0, x1, x2] (st) σ ρ g τ Q = AW d 5 6 [x0, x1, x2] (.int 1 :: st) σ ρ g τ Q := aw_lc m5 d5_5 rfl rfl rfl
theorem d5_6 : decode cX0_parted 6 = .ok (.putfield 24, 3) := by decide +kernel
theorem s5_6 {d : Nat} {st : List Value} {σ : am_I} {ρ : am_R} {g : am_J} {τ : am_T} {Q : am_Q} {x0 x1 x2 : Value} {a : Nat} {v : Int32} (ht : τ.1 a = 0) (hv : am_b01 v = true) : AW d 5 6 [x0, x1, x2] (.int v :: .ref a :: st) σ ρ g τ Q = AW d 5 9 [x0, x1, x2] (st) (am_u σ a 4 v) ρ g τ Q := aw_pz m5 d5_6 rfl rfl (Or.inl rfl) rfl ht hv
theorem d5_9 : decode cX0_parted 9 = .ok (.iconst 0, 1) := by decide +kernel
theorem s5_9 {d : Nat} {st : List Value} {σ : am_I} {ρ : am_R} {g : am_J} {τ : am_T} {Q : am_Q} {x0 x1 x2 : Value} : AW d 5 9 [x0, x1, x2] (st) σ ρ g τ Q = AW d 5 10 [x0, x1, x2] (.int 0 :: st) σ ρ g τ Q := aw_lc m5 d5_9 rfl rfl rfl
theorem d5_10 : decode cX0_parted 10 = .ok (.ireturn, 1) := by decide +kernel
theorem s5_10 {d : Nat} {σ : am_I} {ρ : am_R} {g : am_J} {τ : am_T} {Q : am_Q} {x0 x1 x2 : Value} {v : Int32} : AW d 5 10 [x0, x1, x2] ([.int v]) σ ρ g τ Q = Q (some (.int v)) σ ρ g τ := aw_ri m5 d5_10 rfl
theorem d5_11 : decode cX0_parted 11 = .ok (.iload_n 1, 1) := by decide +kernel
theorem s5_11 {d : Nat} {st : List Value} {σ : am_I} {ρ : am_R} {g : am_J} {τ : am_T} {Q : am_Q} {x0 x2 : Value} {v : Int32} : AW d 5 11 [x0, .int v, x2] (st) σ ρ g τ Q = AW d 5 12 [x0, .int v, x2] (.int v :: st) σ ρ g τ Q := aw_lc m5 d5_11 rfl rfl rfl
theorem d5_12 : decode cX0_parted 12 = .ok (.iload_n 2, 1) := by decide +kernel
theorem s5_12 {d : Nat} {st : List Value} {σ : am_I} {ρ : am_R} {g : am_J} {τ : am_T} {Q : am_Q} {x0 x1 : Value} {v : Int32} : AW d 5 12 [x0, x1, .int v] (st) σ ρ g τ Q = AW d 5 13 [x0, x1, .int v] (.int v :: st) σ ρ g τ Q := aw_lc m5 d5_12 rfl rfl rfl
theorem d5_13 : decode cX0_parted 13 = .ok (.idiv, 1) := by decide +kernel
theorem s5_13 {d : Nat} {st : List Value} {σ : am_I} {ρ : am_R} {g : am_J} {τ : am_T} {Q : am_Q} {x0 x1 x2 : Value} {v w : Int32} (h0 : ¬ w = 0) : AW d 5 13 [x0, x1, x2] (.int w :: .int v :: st) σ ρ g τ Q = AW d 5 14 [x0, x1, x2] (.int (v / w) :: st) σ ρ g τ Q := aw_div m5 d5_13 h0 rfl
theorem d5_14 : decode cX0_parted 14 = .ok (.ireturn, 1) := by decide +kernel
theorem s5_14 {d : Nat} {σ : am_I} {ρ : am_R} {g : am_J} {τ : am_T} {Q : am_Q} {x0 x1 x2 : Value} {v : Int32} : AW d 5 14 [x0, x1, x2] ([.int v]) σ ρ g τ Q = Q (some (.int v)) σ ρ g τ := aw_ri m5 d5_14 rfl
theorem d6_0 : decode cX0_note 0 = .ok (.aload_n 0, 1) := by decide +kernel
theorem s6_0 {d : Nat} {st : List Value} {σ : am_I} {ρ : am_R} {g : am_J} {τ : am_T} {Q : am_Q} {x1 : Value} {v : Nat} : AW d 6 0 [.ref v, x1] (st) σ ρ g τ Q = AW d 6 1 [.ref v, x1] (.ref v :: st) σ ρ g τ Q := aw_lc m6 d6_0 rfl rfl rfl
theorem d6_1 : decode cX0_note 1 = .ok (.getfield 32, 3) := by decide +kernel
theorem s6_1 {d : Nat} {st : List Value} {σ : am_I} {ρ : am_R} {g : am_J} {τ : am_T} {Q : am_Q} {x0 x1 : Value} {a : Nat} (ht : τ.1 a = 0) : AW d 6 1 [x0, x1] (.ref a :: st) σ ρ g τ Q = AW d 6 4 [x0, x1] (.int (σ a 6) :: st) σ ρ g τ Q := aw_gi m6 d6_1 rfl rfl rfl ht
theorem d6_4 : decode cX0_note 4 = .ok (.bipush 30, 2) := by decide +kernel
theorem s6_4 {d : Nat} {st : List Value} {σ : am_I} {ρ : am_R} {g : am_J} {τ : am_T} {Q : am_Q} {x0 x1 : Value} : AW d 6 4 [x0, x1] (st) σ ρ g τ Q = AW d 6 6 [x0, x1] (.int 30 :: st) σ ρ g τ Q := aw_lc m6 d6_4 rfl rfl rfl
theorem d6_6 : decode cX0_note 6 = .ok (.if_icmp .ge 23, 3) := by decide +kernel
theorem s6_6 {d : Nat} {st : List Value} {σ : am_I} {ρ : am_R} {g : am_J} {τ : am_T} {Q : am_Q} {x0 x1 : Value} {v w : Int32} : AW d 6 6 [x0, x1] (.int w :: .int v :: st) σ ρ g τ Q = if w ≤ v then AW d 6 29 [x0, x1] (st) σ ρ g τ Q else AW d 6 9 [x0, x1] (st) σ ρ g τ Q := aw_br m6 d6_6 rfl rfl rfl
theorem d6_9 : decode cX0_note 9 = .ok (.aload_n 0, 1) := by decide +kernel
theorem s6_9 {d : Nat} {st : List Value} {σ : am_I} {ρ : am_R} {g : am_J} {τ : am_T} {Q : am_Q} {x1 : Value} {v : Nat} : AW d 6 9 [.ref v, x1] (st) σ ρ g τ Q = AW d 6 10 [.ref v, x1] (.ref v :: st) σ ρ g τ Q := aw_lc m6 d6_9 rfl rfl rfl
theorem d6_10 : decode cX0_note 10 = .ok (.getfield 28, 3) := by decide +kernel
theorem s6_10 {d : Nat} {st : List Value} {σ : am_I} {ρ : am_R} {g : am_J} {τ : am_T} {Q : am_Q} {x0 x1 : Value} {a : Nat} (ht : τ.1 a = 0) : AW d 6 10 [x0, x1] (.ref a :: st) σ ρ g τ Q = AW d 6 13 [x0, x1] (va_rf (ρ a 5) :: st) σ ρ g τ Q := aw_gr m6 d6_10 rfl rfl rfl ht
theorem d6_13 : decode cX0_note 13 = .ok (.aload_n 0, 1) := by decide +kernel
theorem s6_13 {d : Nat} {st : List Value} {σ : am_I} {ρ : am_R} {g : am_J} {τ : am_T} {Q : am_Q} {x1 : Value} {v : Nat} : AW d 6 13 [.ref v, x1] (st) σ ρ g τ Q = AW d 6 14 [.ref v, x1] (.ref v :: st) σ ρ g τ Q := aw_lc m6 d6_13 rfl rfl rfl
theorem d6_14 : decode cX0_note 14 = .ok (.getfield 32, 3) := by decide +kernel
theorem s6_14 {d : Nat} {st : List Value} {σ : am_I} {ρ : am_R} {g : am_J} {τ : am_T} {Q : am_Q} {x0 x1 : Value} {a : Nat} (ht : τ.1 a = 0) : AW d 6 14 [x0, x1] (.ref a :: st) σ ρ g τ Q = AW d 6 17 [x0, x1] (.int (σ a 6) :: st) σ ρ g τ Q := aw_gi m6 d6_14 rfl rfl rfl ht
theorem d6_17 : decode cX0_note 17 = .ok (.iload_n 1, 1) := by decide +kernel
theorem s6_17 {d : Nat} {st : List Value} {σ : am_I} {ρ : am_R} {g : am_J} {τ : am_T} {Q : am_Q} {x0 : Value} {v : Int32} : AW d 6 17 [x0, .int v] (st) σ ρ g τ Q = AW d 6 18 [x0, .int v] (.int v :: st) σ ρ g τ Q := aw_lc m6 d6_17 rfl rfl rfl
theorem d6_18 : decode cX0_note 18 = .ok (.iastore, 1) := by decide +kernel
theorem s6_18 {d : Nat} {st : List Value} {σ : am_I} {ρ : am_R} {g : am_J} {τ : am_T} {Q : am_Q} {x0 x1 : Value} {a : Nat} {j v : Int32} (ht : τ.1 a = 15) (ha : a < am_BG) (hj : am_inb j (τ.2.1 a) = true) : AW d 6 18 [x0, x1] (.int v :: .int j :: .ref a :: st) σ ρ g τ Q = AW d 6 19 [x0, x1] (st) (am_u σ a j.toNatClampNeg v) ρ g τ Q := aw_ias m6 d6_18 rfl ht ha hj
theorem d6_19 : decode cX0_note 19 = .ok (.aload_n 0, 1) := by decide +kernel
theorem s6_19 {d : Nat} {st : List Value} {σ : am_I} {ρ : am_R} {g : am_J} {τ : am_T} {Q : am_Q} {x1 : Value} {v : Nat} : AW d 6 19 [.ref v, x1] (st) σ ρ g τ Q = AW d 6 20 [.ref v, x1] (.ref v :: st) σ ρ g τ Q := aw_lc m6 d6_19 rfl rfl rfl
theorem d6_20 : decode cX0_note 20 = .ok (.dup, 1) := by decide +kernel
theorem s6_20 {d : Nat} {st : List Value} {σ : am_I} {ρ : am_R} {g : am_J} {τ : am_T} {Q : am_Q} {x0 x1 : Value} {v : Int32} : AW d 6 20 [x0, x1] (.int v :: st) σ ρ g τ Q = AW d 6 21 [x0, x1] (.int v :: .int v :: st) σ ρ g τ Q := aw_lc m6 d6_20 rfl rfl rfl
theorem s6_20r {d : Nat} {st : List Value} {σ : am_I} {ρ : am_R} {g : am_J} {τ : am_T} {Q : am_Q} {x0 x1 : Value} {v : Nat} : AW d 6 20 [x0, x1] (.ref v :: st) σ ρ g τ Q = AW d 6 21 [x0, x1] (.ref v :: .ref v :: st) σ ρ g τ Q := aw_lc m6 d6_20 rfl rfl rfl
theorem d6_21 : decode cX0_note 21 = .ok (.getfield 32, 3) := by decide +kernel
theorem s6_21 {d : Nat} {st : List Value} {σ : am_I} {ρ : am_R} {g : am_J} {τ : am_T} {Q : am_Q} {x0 x1 : Value} {a : Nat} (ht : τ.1 a = 0) : AW d 6 21 [x0, x1] (.ref a :: st) σ ρ g τ Q = AW d 6 24 [x0, x1] (.int (σ a 6) :: st) σ ρ g τ Q := aw_gi m6 d6_21 rfl rfl rfl ht
theorem d6_24 : decode cX0_note 24 = .ok (.iconst 1, 1) := by decide +kernel
theorem s6_24 {d : Nat} {st : List Value} {σ : am_I} {ρ : am_R} {g : am_J} {τ : am_T} {Q : am_Q} {x0 x1 : Value} : AW d 6 24 [x0, x1] (st) σ ρ g τ Q = AW d 6 25 [x0, x1] (.int 1 :: st) σ ρ g τ Q := aw_lc m6 d6_24 rfl rfl rfl
theorem d6_25 : decode cX0_note 25 = .ok (.iadd, 1) := by decide +kernel
theorem s6_25 {d : Nat} {st : List Value} {σ : am_I} {ρ : am_R} {g : am_J} {τ : am_T} {Q : am_Q} {x0 x1 : Value} {v w : Int32} : AW d 6 25 [x0, x1] (.int w :: .int v :: st) σ ρ g τ Q = AW d 6 26 [x0, x1] (.int (v + w) :: st) σ ρ g τ Q := aw_lc m6 d6_25 rfl rfl rfl
theorem d6_26 : decode cX0_note 26 = .ok (.putfield 32, 3) := by decide +kernel
theorem s6_26 {d : Nat} {st : List Value} {σ : am_I} {ρ : am_R} {g : am_J} {τ : am_T} {Q : am_Q} {x0 x1 : Value} {a : Nat} {v : Int32} (ht : τ.1 a = 0) : AW d 6 26 [x0, x1] (.int v :: .ref a :: st) σ ρ g τ Q = AW d 6 29 [x0, x1] (st) (am_u σ a 6 v) ρ g τ Q := aw_pi m6 d6_26 rfl rfl (Or.inl rfl) rfl ht
theorem d6_29 : decode cX0_note 29 = .ok (.return_, 1) := by decide +kernel
theorem s6_29 {d : Nat} {σ : am_I} {ρ : am_R} {g : am_J} {τ : am_T} {Q : am_Q} {x0 x1 : Value} : AW d 6 29 [x0, x1] ([]) σ ρ g τ Q = Q none σ ρ g τ := aw_rv m6 d6_29 rfl
theorem d7_0 : decode cX1_init 0 = .ok (.aload_n 0, 1) := by decide +kernel
theorem s7_0 {d : Nat} {st : List Value} {σ : am_I} {ρ : am_R} {g : am_J} {τ : am_T} {Q : am_Q} {v : Nat} : AW d 7 0 [.ref v] (st) σ ρ g τ Q = AW d 7 1 [.ref v] (.ref v :: st) σ ρ g τ Q := aw_lc m7 d7_0 rfl rfl rfl
theorem s7_0n {d : Nat} {st : List Value} {σ : am_I} {ρ : am_R} {g : am_J} {τ : am_T} {Q : am_Q} : AW d 7 0 [.null] (st) σ ρ g τ Q = AW d 7 1 [.null] (.null :: st) σ ρ g τ Q := aw_lc m7 d7_0 rfl rfl rfl
theorem d7_1 : decode cX1_init 1 = .ok (.invokespecial 3, 3) := by decide +kernel
theorem s7_1 {d : Nat} {st : List Value} {σ : am_I} {ρ : am_R} {g : am_J} {τ : am_T} {Q : am_Q} {x0 : Value} {a : Nat} (hs : st.length ≤ 4) : AW d 7 1 [x0] (.ref a :: st) σ ρ g τ Q = AW d 7 4 [x0] (st) σ ρ g τ Q := aw_oin m7 d7_1 rfl rfl hs
theorem d7_4 : decode cX1_init 4 = .ok (.aload_n 0, 1) := by decide +kernel
theorem s7_4 {d : Nat} {st : List Value} {σ : am_I} {ρ : am_R} {g : am_J} {τ : am_T} {Q : am_Q} {v : Nat} : AW d 7 4 [.ref v] (st) σ ρ g τ Q = AW d 7 5 [.ref v] (.ref v :: st) σ ρ g τ Q := aw_lc m7 d7_4 rfl rfl rfl
theorem s7_4n {d : Nat} {st : List Value} {σ : am_I} {ρ : am_R} {g : am_J} {τ : am_T} {Q : am_Q} : AW d 7 4 [.null] (st) σ ρ g τ Q = AW d 7 5 [.null] (.null :: st) σ ρ g τ Q := aw_lc m7 d7_4 rfl rfl rfl
theorem d7_5 : decode cX1_init 5 = .ok (.iconst 0, 1) := by decide +kernel
theorem s7_5 {d : Nat} {st : List Value} {σ : am_I} {ρ : am_R} {g : am_J} {τ : am_T} {Q : am_Q} {x0 : Value} : AW d 7 5 [x0] (st) σ ρ g τ Q = AW d 7 6 [x0] (.int 0 :: st) σ ρ g τ Q := aw_lc m7 d7_5 rfl rfl rfl
theorem d7_6 : decode cX1_init 6 = .ok (.putfield 9, 3) := by decide +kernel
theorem s7_6 {d : Nat} {st : List Value} {σ : am_I} {ρ : am_R} {g : am_J} {τ : am_T} {Q : am_Q} {x0 : Value} {a : Nat} {v : Int32} (ht : τ.1 a = 1) : AW d 7 6 [x0] (.int v :: .ref a :: st) σ ρ g τ Q = AW d 7 9 [x0] (st) (am_u σ a 0 v) ρ g τ Q := aw_pi m7 d7_6 rfl rfl (Or.inl rfl) rfl ht
theorem d7_9 : decode cX1_init 9 = .ok (.aload_n 0, 1) := by decide +kernel
theorem s7_9 {d : Nat} {st : List Value} {σ : am_I} {ρ : am_R} {g : am_J} {τ : am_T} {Q : am_Q} {v : Nat} : AW d 7 9 [.ref v] (st) σ ρ g τ Q = AW d 7 10 [.ref v] (.ref v :: st) σ ρ g τ Q := aw_lc m7 d7_9 rfl rfl rfl
theorem s7_9n {d : Nat} {st : List Value} {σ : am_I} {ρ : am_R} {g : am_J} {τ : am_T} {Q : am_Q} : AW d 7 9 [.null] (st) σ ρ g τ Q = AW d 7 10 [.null] (.null :: st) σ ρ g τ Q := aw_lc m7 d7_9 rfl rfl rfl
theorem d7_10 : decode cX1_init 10 = .ok (.iconst 0, 1) := by decide +kernel
theorem s7_10 {d : Nat} {st : List Value} {σ : am_I} {ρ : am_R} {g : am_J} {τ : am_T} {Q : am_Q} {x0 : Value} : AW d 7 10 [x0] (st) σ ρ g τ Q = AW d 7 11 [x0] (.int 0 :: st) σ ρ g τ Q := aw_lc m7 d7_10 rfl rfl rfl
theorem d7_11 : decode cX1_init 11 = .ok (.putfield 15, 3) := by decide +kernel
theorem s7_11 {d : Nat} {st : List Value} {σ : am_I} {ρ : am_R} {g : am_J} {τ : am_T} {Q : am_Q} {x0 : Value} {a : Nat} {v : Int32} (ht : τ.1 a = 1) : AW d 7 11 [x0] (.int v :: .ref a :: st) σ ρ g τ Q = AW d 7 14 [x0] (st) (am_u σ a 1 v) ρ g τ Q := aw_pi m7 d7_11 rfl rfl (Or.inl rfl) rfl ht
theorem d7_14 : decode cX1_init 14 = .ok (.aload_n 0, 1) := by decide +kernel
theorem s7_14 {d : Nat} {st : List Value} {σ : am_I} {ρ : am_R} {g : am_J} {τ : am_T} {Q : am_Q} {v : Nat} : AW d 7 14 [.ref v] (st) σ ρ g τ Q = AW d 7 15 [.ref v] (.ref v :: st) σ ρ g τ Q := aw_lc m7 d7_14 rfl rfl rfl
theorem s7_14n {d : Nat} {st : List Value} {σ : am_I} {ρ : am_R} {g : am_J} {τ : am_T} {Q : am_Q} : AW d 7 14 [.null] (st) σ ρ g τ Q = AW d 7 15 [.null] (.null :: st) σ ρ g τ Q := aw_lc m7 d7_14 rfl rfl rfl
theorem d7_15 : decode cX1_init 15 = .ok (.iconst 0, 1) := by decide +kernel
theorem s7_15 {d : Nat} {st : List Value} {σ : am_I} {ρ : am_R} {g : am_J} {τ : am_T} {Q : am_Q} {x0 : Value} : AW d 7 15 [x0] (st) σ ρ g τ Q = AW d 7 16 [x0] (.int 0 :: st) σ ρ g τ Q := aw_lc m7 d7_15 rfl rfl rfl
theorem d7_16 : decode cX1_init 16 = .ok (.putfield 18, 3) := by decide +kernel
theorem s7_16 {d : Nat} {st : List Value} {σ : am_I} {ρ : am_R} {g : am_J} {τ : am_T} {Q : am_Q} {x0 : Value} {a : Nat} {v : Int32} (ht : τ.1 a = 1) : AW d 7 16 [x0] (.int v :: .ref a :: st) σ ρ g τ Q = AW d 7 19 [x0] (st) (am_u σ a 2 v) ρ g τ Q := aw_pi m7 d7_16 rfl rfl (Or.inl rfl) rfl ht
theorem d7_19 : decode cX1_init 19 = .ok (.aload_n 0, 1) := by decide +kernel
theorem s7_19 {d : Nat} {st : List Value} {σ : am_I} {ρ : am_R} {g : am_J} {τ : am_T} {Q : am_Q} {v : Nat} : AW d 7 19 [.ref v] (st) σ ρ g τ Q = AW d 7 20 [.ref v] (.ref v :: st) σ ρ g τ Q := aw_lc m7 d7_19 rfl rfl rfl
theorem s7_19n {d : Nat} {st : List Value} {σ : am_I} {ρ : am_R} {g : am_J} {τ : am_T} {Q : am_Q} : AW d 7 19 [.null] (st) σ ρ g τ Q = AW d 7 20 [.null] (.null :: st) σ ρ g τ Q := aw_lc m7 d7_19 rfl rfl rfl
theorem d7_20 : decode cX1_init 20 = .ok (.iconst 1, 1) := by decide +kernel
theorem s7_20 {d : Nat} {st : List Value} {σ : am_I} {ρ : am_R} {g : am_J} {τ : am_T} {Q : am_Q} {x0 : Value} : AW d 7 20 [x0] (st) σ ρ g τ Q = AW d 7 21 [x0] (.int 1 :: st) σ ρ g τ Q := aw_lc m7 d7_20 rfl rfl rfl
theorem d7_21 : decode cX1_init 21 = .ok (.putfield 21, 3) := by decide +kernel
theorem s7_21 {d : Nat} {st : List Value} {σ : am_I} {ρ : am_R} {g : am_J} {τ : am_T} {Q : am_Q} {x0 : Value} {a : Nat} {v : Int32} (ht : τ.1 a = 1) : AW d 7 21 [x0] (.int v :: .ref a :: st) σ ρ g τ Q = AW d 7 24 [x0] (st) (am_u σ a 3 v) ρ g τ Q := aw_pi m7 d7_21 rfl rfl (Or.inl rfl) rfl ht
theorem d7_24 : decode cX1_init 24 = .ok (.aload_n 0, 1) := by decide +kernel
theorem s7_24 {d : Nat} {st : List Value} {σ : am_I} {ρ : am_R} {g : am_J} {τ : am_T} {Q : am_Q} {v : Nat} : AW d 7 24 [.ref v] (st) σ ρ g τ Q = AW d 7 25 [.ref v] (.ref v :: st) σ ρ g τ Q := aw_lc m7 d7_24 rfl rfl rfl
theorem s7_24n {d : Nat} {st : List Value} {σ : am_I} {ρ : am_R} {g : am_J} {τ : am_T} {Q : am_Q} : AW d 7 24 [.null] (st) σ ρ g τ Q = AW d 7 25 [.null] (.null :: st) σ ρ g τ Q := aw_lc m7 d7_24 rfl rfl rfl
theorem d7_25 : decode cX1_init 25 = .ok (.iconst 1, 1) := by decide +kernel
theorem s7_25 {d : Nat} {st : List Value} {σ : am_I} {ρ : am_R} {g : am_J} {τ : am_T} {Q : am_Q} {x0 : Value} : AW d 7 25 [x0] (st) σ ρ g τ Q = AW d 7 26 [x0] (.int 1 :: st) σ ρ g τ Q := aw_lc m7 d7_25 rfl rfl rfl
theorem d7_26 : decode cX1_init 26 = .ok (.putfield 24, 3) := by decide +kernel
theorem s7_26 {d : Nat} {st : List Value} {σ : am_I} {ρ : am_R} {g : am_J} {τ : am_T} {Q : am_Q} {x0 : Value} {a : Nat} {v : Int32} (ht : τ.1 a = 1) : AW d 7 26 [x0] (.int v :: .ref a :: st) σ ρ g τ Q = AW d 7 29 [x0] (st) (am_u σ a 4 v) ρ g τ Q := aw_pi m7 d7_26 rfl rfl (Or.inl rfl) rfl ht
theorem d7_29 : decode cX1_init 29 = .ok (.aload_n 0, 1) := by decide +kernel
theorem s7_29 {d : Nat} {st : List Value} {σ : am_I} {ρ : am_R} {g : am_J} {τ : am_T} {Q : am_Q} {v : Nat} : AW d 7 29 [.ref v] (st) σ ρ g τ Q = AW d 7 30 [.ref v] (.ref v :: st) σ ρ g τ Q := aw_lc m7 d7_29 rfl rfl rfl
theorem s7_29n {d : Nat} {st : List Value} {σ : am_I} {ρ : am_R} {g : am_J} {τ : am_T} {Q : am_Q} : AW d 7 29 [.null] (st) σ ρ g τ Q = AW d 7 30 [.null] (.null :: st) σ ρ g τ Q := aw_lc m7 d7_29 rfl rfl rfl
theorem d7_30 : decode cX1_init 30 = .ok (.iconst 0, 1) := by decide +kernel
theorem s7_30 {d : Nat} {st : List Value} {σ : am_I} {ρ : am_R} {g : am_J} {τ : am_T} {Q : am_Q} {x0 : Value} : AW d 7 30 [x0] (st) σ ρ g τ Q = AW d 7 31 [x0] (.int 0 :: st) σ ρ g τ Q := aw_lc m7 d7_30 rfl rfl rfl
theorem d7_31 : decode cX1_init 31 = .ok (.putfield 27, 3) := by decide +kernel
theorem s7_31 {d : Nat} {st : List Value} {σ : am_I} {ρ : am_R} {g : am_J} {τ : am_T} {Q : am_Q} {x0 : Value} {a : Nat} {v : Int32} (ht : τ.1 a = 1) : AW d 7 31 [x0] (.int v :: .ref a :: st) σ ρ g τ Q = AW d 7 34 [x0] (st) (am_u σ a 5 v) ρ g τ Q := aw_pi m7 d7_31 rfl rfl (Or.inl rfl) rfl ht
theorem d7_34 : decode cX1_init 34 = .ok (.aload_n 0, 1) := by decide +kernel
theorem s7_34 {d : Nat} {st : List Value} {σ : am_I} {ρ : am_R} {g : am_J} {τ : am_T} {Q : am_Q} {v : Nat} : AW d 7 34 [.ref v] (st) σ ρ g τ Q = AW d 7 35 [.ref v] (.ref v :: st) σ ρ g τ Q := aw_lc m7 d7_34 rfl rfl rfl
theorem s7_34n {d : Nat} {st : List Value} {σ : am_I} {ρ : am_R} {g : am_J} {τ : am_T} {Q : am_Q} : AW d 7 34 [.null] (st) σ ρ g τ Q = AW d 7 35 [.null] (.null :: st) σ ρ g τ Q := aw_lc m7 d7_34 rfl rfl rfl
theorem d7_35 : decode cX1_init 35 = .ok (.iconst 0, 1) := by decide +kernel
theorem s7_35 {d : Nat} {st : List Value} {σ : am_I} {ρ : am_R} {g : am_J} {τ : am_T} {Q : am_Q} {x0 : Value} : AW d 7 35 [x0] (st) σ ρ g τ Q = AW d 7 36 [x0] (.int 0 :: st) σ ρ g τ Q := aw_lc m7 d7_35 rfl rfl rfl
theorem d7_36 : decode cX1_init 36 = .ok (.putfield 30, 3) := by decide +kernel
theorem s7_36 {d : Nat} {st : List Value} {σ : am_I} {ρ : am_R} {g : am_J} {τ : am_T} {Q : am_Q} {x0 : Value} {a : Nat} {v : Int32} (ht : τ.1 a = 1) : AW d 7 36 [x0] (.int v :: .ref a :: st) σ ρ g τ Q = AW d 7 39 [x0] (st) (am_u σ a 6 v) ρ g τ Q := aw_pi m7 d7_36 rfl rfl (Or.inl rfl) rfl ht
theorem d7_39 : decode cX1_init 39 = .ok (.aload_n 0, 1) := by decide +kernel
theorem s7_39 {d : Nat} {st : List Value} {σ : am_I} {ρ : am_R} {g : am_J} {τ : am_T} {Q : am_Q} {v : Nat} : AW d 7 39 [.ref v] (st) σ ρ g τ Q = AW d 7 40 [.ref v] (.ref v :: st) σ ρ g τ Q := aw_lc m7 d7_39 rfl rfl rfl
theorem s7_39n {d : Nat} {st : List Value} {σ : am_I} {ρ : am_R} {g : am_J} {τ : am_T} {Q : am_Q} : AW d 7 39 [.null] (st) σ ρ g τ Q = AW d 7 40 [.null] (.null :: st) σ ρ g τ Q := aw_lc m7 d7_39 rfl rfl rfl
theorem d7_40 : decode cX1_init 40 = .ok (.iconst 0, 1) := by decide +kernel
theorem s7_40 {d : Nat} {st : List Value} {σ : am_I} {ρ : am_R} {g : am_J} {τ : am_T} {Q : am_Q} {x0 : Value} : AW d 7 40 [x0] (st) σ ρ g τ Q = AW d 7 41 [x0] (.int 0 :: st) σ ρ g τ Q := aw_lc m7 d7_40 rfl rfl rfl
theorem d7_41 : decode cX1_init 41 = .ok (.putfield 33, 3) := by decide +kernel
theorem s7_41 {d : Nat} {st : List Value} {σ : am_I} {ρ : am_R} {g : am_J} {τ : am_T} {Q : am_Q} {x0 : Value} {a : Nat} {v : Int32} (ht : τ.1 a = 1) : AW d 7 41 [x0] (.int v :: .ref a :: st) σ ρ g τ Q = AW d 7 44 [x0] (st) (am_u σ a 7 v) ρ g τ Q := aw_pi m7 d7_41 rfl rfl (Or.inl rfl) rfl ht
theorem d7_44 : decode cX1_init 44 = .ok (.aload_n 0, 1) := by decide +kernel
theorem s7_44 {d : Nat} {st : List Value} {σ : am_I} {ρ : am_R} {g : am_J} {τ : am_T} {Q : am_Q} {v : Nat} : AW d 7 44 [.ref v] (st) σ ρ g τ Q = AW d 7 45 [.ref v] (.ref v :: st) σ ρ g τ Q := aw_lc m7 d7_44 rfl rfl rfl
theorem s7_44n {d : Nat} {st : List Value} {σ : am_I} {ρ : am_R} {g : am_J} {τ : am_T} {Q : am_Q} : AW d 7 44 [.null] (st) σ ρ g τ Q = AW d 7 45 [.null] (.null :: st) σ ρ g τ Q := aw_lc m7 d7_44 rfl rfl rfl
theorem d7_45 : decode cX1_init 45 = .ok (.iconst 0, 1) := by decide +kernel
theorem s7_45 {d : Nat} {st : List Value} {σ : am_I} {ρ : am_R} {g : am_J} {τ : am_T} {Q : am_Q} {x0 : Value} : AW d 7 45 [x0] (st) σ ρ g τ Q = AW d 7 46 [x0] (.int 0 :: st) σ ρ g τ Q := aw_lc m7 d7_45 rfl rfl rfl
theorem d7_46 : decode cX1_init 46 = .ok (.putfield 36, 3) := by decide +kernel
theorem s7_46 {d : Nat} {st : List Value} {σ : am_I} {ρ : am_R} {g : am_J} {τ : am_T} {Q : am_Q} {x0 : Value} {a : Nat} {v : Int32} (ht : τ.1 a = 1) (hv : am_b01 v = true) : AW d 7 46 [x0] (.int v :: .ref a :: st) σ ρ g τ Q = AW d 7 49 [x0] (st) (am_u σ a 8 v) ρ g τ Q := aw_pz m7 d7_46 rfl rfl (Or.inl rfl) rfl ht hv
theorem d7_49 : decode cX1_init 49 = .ok (.aload_n 0, 1) := by decide +kernel
theorem s7_49 {d : Nat} {st : List Value} {σ : am_I} {ρ : am_R} {g : am_J} {τ : am_T} {Q : am_Q} {v : Nat} : AW d 7 49 [.ref v] (st) σ ρ g τ Q = AW d 7 50 [.ref v] (.ref v :: st) σ ρ g τ Q := aw_lc m7 d7_49 rfl rfl rfl
theorem s7_49n {d : Nat} {st : List Value} {σ : am_I} {ρ : am_R} {g : am_J} {τ : am_T} {Q : am_Q} : AW d 7 49 [.null] (st) σ ρ g τ Q = AW d 7 50 [.null] (.null :: st) σ ρ g τ Q := aw_lc m7 d7_49 rfl rfl rfl
theorem d7_50 : decode cX1_init 50 = .ok (.bipush 7, 2) := by decide +kernel
theorem s7_50 {d : Nat} {st : List Value} {σ : am_I} {ρ : am_R} {g : am_J} {τ : am_T} {Q : am_Q} {x0 : Value} : AW d 7 50 [x0] (st) σ ρ g τ Q = AW d 7 52 [x0] (.int 7 :: st) σ ρ g τ Q := aw_lc m7 d7_50 rfl rfl rfl
theorem d7_52 : decode cX1_init 52 = .ok (.newarray .int, 2) := by decide +kernel
theorem s7_52 {d : Nat} {st : List Value} {σ : am_I} {ρ : am_R} {g : am_J} {τ : am_T} {Q : am_Q} {x0 : Value} {j : Int32} (hj : ¬ j < 0 ∧ j.toNatClampNeg ≤ 10000) : AW d 7 52 [x0] (.int j :: st) σ ρ g τ Q = AW d 7 54 [x0] (.ref τ.2.2.1 :: st) (am_new 15 j.toNatClampNeg σ ρ g τ).1 (am_new 15 j.toNatClampNeg σ ρ g τ).2.1 (am_new 15 j.toNatClampNeg σ ρ g τ).2.2.1 (am_new 15 j.toNatClampNeg σ ρ g τ).2.2.2 Q := aw_nwa m7 d7_52 rfl rfl (by decide) hj
theorem d7_54 : decode cX1_init 54 = .ok (.putfield 40, 3) := by decide +kernel
theorem s7_54 {d : Nat} {st : List Value} {σ : am_I} {ρ : am_R} {g : am_J} {τ : am_T} {Q : am_Q} {x0 : Value} {a b : Nat} (ht : τ.1 a = 1) : AW d 7 54 [x0] (.ref b :: .ref a :: st) σ ρ g τ Q = AW d 7 57 [x0] (st) σ (am_u ρ a 9 (some b)) g τ Q := aw_pr m7 d7_54 rfl rfl (Or.inr ⟨rfl, rfl⟩) rfl ht
theorem s7_54n {d : Nat} {st : List Value} {σ : am_I} {ρ : am_R} {g : am_J} {τ : am_T} {Q : am_Q} {x0 : Value} {a : Nat} (ht : τ.1 a = 1) : AW d 7 54 [x0] (.null :: .ref a :: st) σ ρ g τ Q = AW d 7 57 [x0] (st) σ (am_u ρ a 9 none) g τ Q := aw_pn m7 d7_54 rfl rfl (Or.inr ⟨rfl, rfl⟩) rfl ht
theorem d7_57 : decode cX1_init 57 = .ok (.return_, 1) := by decide +kernel
theorem s7_57 {d : Nat} {σ : am_I} {ρ : am_R} {g : am_J} {τ : am_T} {Q : am_Q} {x0 : Value} : AW d 7 57 [x0] ([]) σ ρ g τ Q = Q none σ ρ g τ := aw_rv m7 d7_57 rfl
theorem d8_0 : decode cX1_begin 0 = .ok (.aload_n 0, 1) := by decide +kernel
theorem s8_0 {d : Nat} {st : List Value} {σ : am_I} {ρ : am_R} {g : am_J} {τ : am_T} {Q : am_Q} {x1 x2 x3 x4 x5 x6 : Value} {v : Nat} : AW d 8 0 [.ref v, x1, x2, x3, x4, x5, x6] (st) σ ρ g τ Q = AW d 8 1 [.ref v, x1, x2, x3, x4, x5, x6] (.ref v :: st) σ ρ g τ Q := aw_lc m8 d8_0 rfl rfl rfl
theorem d8_1 : decode cX1_begin 1 = .ok (.iload_n 1, 1) := by decide +kernel
theorem s8_1 {d : Nat} {st : List Value} {σ : am_I} {ρ : am_R} {g : am_J} {τ : am_T} {Q : am_Q} {x0 x2 x3 x4 x5 x6 : Value} {v : Int32} : AW d 8 1 [x0, .int v, x2, x3, x4, x5, x6] (st) σ ρ g τ Q = AW d 8 2 [x0, .int v, x2, x3, x4, x5, x6] (.int v :: st) σ ρ g τ Q := aw_lc m8 d8_1 rfl rfl rfl
theorem d8_2 : decode cX1_begin 2 = .ok (.putfield 9, 3) := by decide +kernel
theorem s8_2 {d : Nat} {st : List Value} {σ : am_I} {ρ : am_R} {g : am_J} {τ : am_T} {Q : am_Q} {x0 x1 x2 x3 x4 x5 x6 : Value} {a : Nat} {v : Int32} (ht : τ.1 a = 1) : AW d 8 2 [x0, x1, x2, x3, x4, x5, x6] (.int v :: .ref a :: st) σ ρ g τ Q = AW d 8 5 [x0, x1, x2, x3, x4, x5, x6] (st) (am_u σ a 0 v) ρ g τ Q := aw_pi m8 d8_2 rfl rfl (Or.inl rfl) rfl ht
theorem d8_5 : decode cX1_begin 5 = .ok (.aload_n 0, 1) := by decide +kernel
theorem s8_5 {d : Nat} {st : List Value} {σ : am_I} {ρ : am_R} {g : am_J} {τ : am_T} {Q : am_Q} {x1 x2 x3 x4 x5 x6 : Value} {v : Nat} : AW d 8 5 [.ref v, x1, x2, x3, x4, x5, x6] (st) σ ρ g τ Q = AW d 8 6 [.ref v, x1, x2, x3, x4, x5, x6] (.ref v :: st) σ ρ g τ Q := aw_lc m8 d8_5 rfl rfl rfl
theorem d8_6 : decode cX1_begin 6 = .ok (.iload_n 2, 1) := by decide +kernel
theorem s8_6 {d : Nat} {st : List Value} {σ : am_I} {ρ : am_R} {g : am_J} {τ : am_T} {Q : am_Q} {x0 x1 x3 x4 x5 x6 : Value} {v : Int32} : AW d 8 6 [x0, x1, .int v, x3, x4, x5, x6] (st) σ ρ g τ Q = AW d 8 7 [x0, x1, .int v, x3, x4, x5, x6] (.int v :: st) σ ρ g τ Q := aw_lc m8 d8_6 rfl rfl rfl
theorem d8_7 : decode cX1_begin 7 = .ok (.putfield 15, 3) := by decide +kernel
theorem s8_7 {d : Nat} {st : List Value} {σ : am_I} {ρ : am_R} {g : am_J} {τ : am_T} {Q : am_Q} {x0 x1 x2 x3 x4 x5 x6 : Value} {a : Nat} {v : Int32} (ht : τ.1 a = 1) : AW d 8 7 [x0, x1, x2, x3, x4, x5, x6] (.int v :: .ref a :: st) σ ρ g τ Q = AW d 8 10 [x0, x1, x2, x3, x4, x5, x6] (st) (am_u σ a 1 v) ρ g τ Q := aw_pi m8 d8_7 rfl rfl (Or.inl rfl) rfl ht
theorem d8_10 : decode cX1_begin 10 = .ok (.aload_n 0, 1) := by decide +kernel
theorem s8_10 {d : Nat} {st : List Value} {σ : am_I} {ρ : am_R} {g : am_J} {τ : am_T} {Q : am_Q} {x1 x2 x3 x4 x5 x6 : Value} {v : Nat} : AW d 8 10 [.ref v, x1, x2, x3, x4, x5, x6] (st) σ ρ g τ Q = AW d 8 11 [.ref v, x1, x2, x3, x4, x5, x6] (.ref v :: st) σ ρ g τ Q := aw_lc m8 d8_10 rfl rfl rfl
theorem d8_11 : decode cX1_begin 11 = .ok (.iload_n 3, 1) := by decide +kernel
theorem s8_11 {d : Nat} {st : List Value} {σ : am_I} {ρ : am_R} {g : am_J} {τ : am_T} {Q : am_Q} {x0 x1 x2 x4 x5 x6 : Value} {v : Int32} : AW d 8 11 [x0, x1, x2, .int v, x4, x5, x6] (st) σ ρ g τ Q = AW d 8 12 [x0, x1, x2, .int v, x4, x5, x6] (.int v :: st) σ ρ g τ Q := aw_lc m8 d8_11 rfl rfl rfl
theorem d8_12 : decode cX1_begin 12 = .ok (.putfield 18, 3) := by decide +kernel
theorem s8_12 {d : Nat} {st : List Value} {σ : am_I} {ρ : am_R} {g : am_J} {τ : am_T} {Q : am_Q} {x0 x1 x2 x3 x4 x5 x6 : Value} {a : Nat} {v : Int32} (ht : τ.1 a = 1) : AW d 8 12 [x0, x1, x2, x3, x4, x5, x6] (.int v :: .ref a :: st) σ ρ g τ Q = AW d 8 15 [x0, x1, x2, x3, x4, x5, x6] (st) (am_u σ a 2 v) ρ g τ Q := aw_pi m8 d8_12 rfl rfl (Or.inl rfl) rfl ht
theorem d8_15 : decode cX1_begin 15 = .ok (.aload_n 0, 1) := by decide +kernel
theorem s8_15 {d : Nat} {st : List Value} {σ : am_I} {ρ : am_R} {g : am_J} {τ : am_T} {Q : am_Q} {x1 x2 x3 x4 x5 x6 : Value} {v : Nat} : AW d 8 15 [.ref v, x1, x2, x3, x4, x5, x6] (st) σ ρ g τ Q = AW d 8 16 [.ref v, x1, x2, x3, x4, x5, x6] (.ref v :: st) σ ρ g τ Q := aw_lc m8 d8_15 rfl rfl rfl
theorem d8_16 : decode cX1_begin 16 = .ok (.iload 4, 2) := by decide +kernel
theorem s8_16 {d : Nat} {st : List Value} {σ : am_I} {ρ : am_R} {g : am_J} {τ : am_T} {Q : am_Q} {x0 x1 x2 x3 x5 x6 : Value} {v : Int32} : AW d 8 16 [x0, x1, x2, x3, .int v, x5, x6] (st) σ ρ g τ Q = AW d 8 18 [x0, x1, x2, x3, .int v, x5, x6] (.int v :: st) σ ρ g τ Q := aw_lc m8 d8_16 rfl rfl rfl
theorem d8_18 : decode cX1_begin 18 = .ok (.putfield 21, 3) := by decide +kernel
theorem s8_18 {d : Nat} {st : List Value} {σ : am_I} {ρ : am_R} {g : am_J} {τ : am_T} {Q : am_Q} {x0 x1 x2 x3 x4 x5 x6 : Value} {a : Nat} {v : Int32} (ht : τ.1 a = 1) : AW d 8 18 [x0, x1, x2, x3, x4, x5, x6] (.int v :: .ref a :: st) σ ρ g τ Q = AW d 8 21 [x0, x1, x2, x3, x4, x5, x6] (st) (am_u σ a 3 v) ρ g τ Q := aw_pi m8 d8_18 rfl rfl (Or.inl rfl) rfl ht
theorem d8_21 : decode cX1_begin 21 = .ok (.aload_n 0, 1) := by decide +kernel
theorem s8_21 {d : Nat} {st : List Value} {σ : am_I} {ρ : am_R} {g : am_J} {τ : am_T} {Q : am_Q} {x1 x2 x3 x4 x5 x6 : Value} {v : Nat} : AW d 8 21 [.ref v, x1, x2, x3, x4, x5, x6] (st) σ ρ g τ Q = AW d 8 22 [.ref v, x1, x2, x3, x4, x5, x6] (.ref v :: st) σ ρ g τ Q := aw_lc m8 d8_21 rfl rfl rfl
theorem d8_22 : decode cX1_begin 22 = .ok (.iload 5, 2) := by decide +kernel
theorem s8_22 {d : Nat} {st : List Value} {σ : am_I} {ρ : am_R} {g : am_J} {τ : am_T} {Q : am_Q} {x0 x1 x2 x3 x4 x6 : Value} {v : Int32} : AW d 8 22 [x0, x1, x2, x3, x4, .int v, x6] (st) σ ρ g τ Q = AW d 8 24 [x0, x1, x2, x3, x4, .int v, x6] (.int v :: st) σ ρ g τ Q := aw_lc m8 d8_22 rfl rfl rfl
theorem d8_24 : decode cX1_begin 24 = .ok (.putfield 24, 3) := by decide +kernel
theorem s8_24 {d : Nat} {st : List Value} {σ : am_I} {ρ : am_R} {g : am_J} {τ : am_T} {Q : am_Q} {x0 x1 x2 x3 x4 x5 x6 : Value} {a : Nat} {v : Int32} (ht : τ.1 a = 1) : AW d 8 24 [x0, x1, x2, x3, x4, x5, x6] (.int v :: .ref a :: st) σ ρ g τ Q = AW d 8 27 [x0, x1, x2, x3, x4, x5, x6] (st) (am_u σ a 4 v) ρ g τ Q := aw_pi m8 d8_24 rfl rfl (Or.inl rfl) rfl ht
theorem d8_27 : decode cX1_begin 27 = .ok (.aload_n 0, 1) := by decide +kernel
theorem s8_27 {d : Nat} {st : List Value} {σ : am_I} {ρ : am_R} {g : am_J} {τ : am_T} {Q : am_Q} {x1 x2 x3 x4 x5 x6 : Value} {v : Nat} : AW d 8 27 [.ref v, x1, x2, x3, x4, x5, x6] (st) σ ρ g τ Q = AW d 8 28 [.ref v, x1, x2, x3, x4, x5, x6] (.ref v :: st) σ ρ g τ Q := aw_lc m8 d8_27 rfl rfl rfl
theorem d8_28 : decode cX1_begin 28 = .ok (.iload 6, 2) := by decide +kernel
theorem s8_28 {d : Nat} {st : List Value} {σ : am_I} {ρ : am_R} {g : am_J} {τ : am_T} {Q : am_Q} {x0 x1 x2 x3 x4 x5 : Value} {v : Int32} : AW d 8 28 [x0, x1, x2, x3, x4, x5, .int v] (st) σ ρ g τ Q = AW d 8 30 [x0, x1, x2, x3, x4, x5, .int v] (.int v :: st) σ ρ g τ Q := aw_lc m8 d8_28 rfl rfl rfl
theorem d8_30 : decode cX1_begin 30 = .ok (.putfield 27, 3) := by decide +kernel
theorem s8_30 {d : Nat} {st : List Value} {σ : am_I} {ρ : am_R} {g : am_J} {τ : am_T} {Q : am_Q} {x0 x1 x2 x3 x4 x5 x6 : Value} {a : Nat} {v : Int32} (ht : τ.1 a = 1) : AW d 8 30 [x0, x1, x2, x3, x4, x5, x6] (.int v :: .ref a :: st) σ ρ g τ Q = AW d 8 33 [x0, x1, x2, x3, x4, x5, x6] (st) (am_u σ a 5 v) ρ g τ Q := aw_pi m8 d8_30 rfl rfl (Or.inl rfl) rfl ht
theorem d8_33 : decode cX1_begin 33 = .ok (.aload_n 0, 1) := by decide +kernel
theorem s8_33 {d : Nat} {st : List Value} {σ : am_I} {ρ : am_R} {g : am_J} {τ : am_T} {Q : am_Q} {x1 x2 x3 x4 x5 x6 : Value} {v : Nat} : AW d 8 33 [.ref v, x1, x2, x3, x4, x5, x6] (st) σ ρ g τ Q = AW d 8 34 [.ref v, x1, x2, x3, x4, x5, x6] (.ref v :: st) σ ρ g τ Q := aw_lc m8 d8_33 rfl rfl rfl
theorem d8_34 : decode cX1_begin 34 = .ok (.iconst 0, 1) := by decide +kernel
theorem s8_34 {d : Nat} {st : List Value} {σ : am_I} {ρ : am_R} {g : am_J} {τ : am_T} {Q : am_Q} {x0 x1 x2 x3 x4 x5 x6 : Value} : AW d 8 34 [x0, x1, x2, x3, x4, x5, x6] (st) σ ρ g τ Q = AW d 8 35 [x0, x1, x2, x3, x4, x5, x6] (.int 0 :: st) σ ρ g τ Q := aw_lc m8 d8_34 rfl rfl rfl
theorem d8_35 : decode cX1_begin 35 = .ok (.putfield 30, 3) := by decide +kernel
theorem s8_35 {d : Nat} {st : List Value} {σ : am_I} {ρ : am_R} {g : am_J} {τ : am_T} {Q : am_Q} {x0 x1 x2 x3 x4 x5 x6 : Value} {a : Nat} {v : Int32} (ht : τ.1 a = 1) : AW d 8 35 [x0, x1, x2, x3, x4, x5, x6] (.int v :: .ref a :: st) σ ρ g τ Q = AW d 8 38 [x0, x1, x2, x3, x4, x5, x6] (st) (am_u σ a 6 v) ρ g τ Q := aw_pi m8 d8_35 rfl rfl (Or.inl rfl) rfl ht
theorem d8_38 : decode cX1_begin 38 = .ok (.aload_n 0, 1) := by decide +kernel
theorem s8_38 {d : Nat} {st : List Value} {σ : am_I} {ρ : am_R} {g : am_J} {τ : am_T} {Q : am_Q} {x1 x2 x3 x4 x5 x6 : Value} {v : Nat} : AW d 8 38 [.ref v, x1, x2, x3, x4, x5, x6] (st) σ ρ g τ Q = AW d 8 39 [.ref v, x1, x2, x3, x4, x5, x6] (.ref v :: st) σ ρ g τ Q := aw_lc m8 d8_38 rfl rfl rfl
theorem d8_39 : decode cX1_begin 39 = .ok (.iconst 0, 1) := by decide +kernel
theorem s8_39 {d : Nat} {st : List Value} {σ : am_I} {ρ : am_R} {g : am_J} {τ : am_T} {Q : am_Q} {x0 x1 x2 x3 x4 x5 x6 : Value} : AW d 8 39 [x0, x1, x2, x3, x4, x5, x6] (st) σ ρ g τ Q = AW d 8 40 [x0, x1, x2, x3, x4, x5, x6] (.int 0 :: st) σ ρ g τ Q := aw_lc m8 d8_39 rfl rfl rfl
theorem d8_40 : decode cX1_begin 40 = .ok (.putfield 33, 3) := by decide +kernel
theorem s8_40 {d : Nat} {st : List Value} {σ : am_I} {ρ : am_R} {g : am_J} {τ : am_T} {Q : am_Q} {x0 x1 x2 x3 x4 x5 x6 : Value} {a : Nat} {v : Int32} (ht : τ.1 a = 1) : AW d 8 40 [x0, x1, x2, x3, x4, x5, x6] (.int v :: .ref a :: st) σ ρ g τ Q = AW d 8 43 [x0, x1, x2, x3, x4, x5, x6] (st) (am_u σ a 7 v) ρ g τ Q := aw_pi m8 d8_40 rfl rfl (Or.inl rfl) rfl ht
theorem d8_43 : decode cX1_begin 43 = .ok (.aload_n 0, 1) := by decide +kernel
theorem s8_43 {d : Nat} {st : List Value} {σ : am_I} {ρ : am_R} {g : am_J} {τ : am_T} {Q : am_Q} {x1 x2 x3 x4 x5 x6 : Value} {v : Nat} : AW d 8 43 [.ref v, x1, x2, x3, x4, x5, x6] (st) σ ρ g τ Q = AW d 8 44 [.ref v, x1, x2, x3, x4, x5, x6] (.ref v :: st) σ ρ g τ Q := aw_lc m8 d8_43 rfl rfl rfl
theorem d8_44 : decode cX1_begin 44 = .ok (.iconst 0, 1) := by decide +kernel
theorem s8_44 {d : Nat} {st : List Value} {σ : am_I} {ρ : am_R} {g : am_J} {τ : am_T} {Q : am_Q} {x0 x1 x2 x3 x4 x5 x6 : Value} : AW d 8 44 [x0, x1, x2, x3, x4, x5, x6] (st) σ ρ g τ Q = AW d 8 45 [x0, x1, x2, x3, x4, x5, x6] (.int 0 :: st) σ ρ g τ Q := aw_lc m8 d8_44 rfl rfl rfl
theorem d8_45 : decode cX1_begin 45 = .ok (.putfield 36, 3) := by decide +kernel
theorem s8_45 {d : Nat} {st : List Value} {σ : am_I} {ρ : am_R} {g : am_J} {τ : am_T} {Q : am_Q} {x0 x1 x2 x3 x4 x5 x6 : Value} {a : Nat} {v : Int32} (ht : τ.1 a = 1) (hv : am_b01 v = true) : AW d 8 45 [x0, x1, x2, x3, x4, x5, x6] (.int v :: .ref a :: st) σ ρ g τ Q = AW d 8 48 [x0, x1, x2, x3, x4, x5, x6] (st) (am_u σ a 8 v) ρ g τ Q := aw_pz m8 d8_45 rfl rfl (Or.inl rfl) rfl ht hv
theorem d8_48 : decode cX1_begin 48 = .ok (.aload_n 0, 1) := by decide +kernel
theorem s8_48 {d : Nat} {st : List Value} {σ : am_I} {ρ : am_R} {g : am_J} {τ : am_T} {Q : am_Q} {x1 x2 x3 x4 x5 x6 : Value} {v : Nat} : AW d 8 48 [.ref v, x1, x2, x3, x4, x5, x6] (st) σ ρ g τ Q = AW d 8 49 [.ref v, x1, x2, x3, x4, x5, x6] (.ref v :: st) σ ρ g τ Q := aw_lc m8 d8_48 rfl rfl rfl
theorem d8_49 : decode cX1_begin 49 = .ok (.getfield 40, 3) := by decide +kernel
theorem s8_49 {d : Nat} {st : List Value} {σ : am_I} {ρ : am_R} {g : am_J} {τ : am_T} {Q : am_Q} {x0 x1 x2 x3 x4 x5 x6 : Value} {a : Nat} (ht : τ.1 a = 1) : AW d 8 49 [x0, x1, x2, x3, x4, x5, x6] (.ref a :: st) σ ρ g τ Q = AW d 8 52 [x0, x1, x2, x3, x4, x5, x6] (va_rf (ρ a 9) :: st) σ ρ g τ Q := aw_gr m8 d8_49 rfl rfl rfl ht
theorem d8_52 : decode cX1_begin 52 = .ok (.bipush 50, 2) := by decide +kernel
theorem s8_52 {d : Nat} {st : List Value} {σ : am_I} {ρ : am_R} {g : am_J} {τ : am_T} {Q : am_Q} {x0 x1 x2 x3 x4 x5 x6 : Value} : AW d 8 52 [x0, x1, x2, x3, x4, x5, x6] (st) σ ρ g τ Q = AW d 8 54 [x0, x1, x2, x3, x4, x5, x6] (.int 50 :: st) σ ρ g τ Q := aw_lc m8 d8_52 rfl rfl rfl
theorem d8_54 : decode cX1_begin 54 = .ok (.invokestatic 44, 3) := by decide +kernel
theorem s8_54 {d : Nat} {st : List Value} {σ : am_I} {ρ : am_R} {g : am_J} {τ : am_T} {Q : am_Q} {x0 x1 x2 x3 x4 x5 x6 : Value} {p0 : Nat} {p1 : Int32} (hs : st.length ≤ 4) : AW (d + 1) 8 54 [x0, x1, x2, x3, x4, x5, x6] (.int p1 :: .ref p0 :: st) σ ρ g τ Q = AW d 275 0 [.ref p0, .int p1, am_jk, am_jk] [] σ ρ g τ (fun r9 σ ρ g τ => AW (d + 1) 8 57 [x0, x1, x2, x3, x4, x5, x6] (r9.toList ++ st) σ ρ g τ Q) := aw_cs m8 d8_54 rfl (by simp only [List.length_cons]; omega) rfl rfl en275 ok275 rfl hs
theorem d8_57 : decode cX1_begin 57 = .ok (.return_, 1) := by decide +kernel
theorem s8_57 {d : Nat} {σ : am_I} {ρ : am_R} {g : am_J} {τ : am_T} {Q : am_Q} {x0 x1 x2 x3 x4 x5 x6 : Value} : AW d 8 57 [x0, x1, x2, x3, x4, x5, x6] ([]) σ ρ g τ Q = Q none σ ρ g τ := aw_rv m8 d8_57 rfl
theorem d9_0 : decode cX1_copyFrom 0 = .ok (.aload_n 0, 1) := by decide +kernel
theorem s9_0 {d : Nat} {st : List Value} {σ : am_I} {ρ : am_R} {g : am_J} {τ : am_T} {Q : am_Q} {x1 : Value} {v : Nat} : AW d 9 0 [.ref v, x1] (st) σ ρ g τ Q = AW d 9 1 [.ref v, x1] (.ref v :: st) σ ρ g τ Q := aw_lc m9 d9_0 rfl rfl rfl
theorem d9_1 : decode cX1_copyFrom 1 = .ok (.aload_n 1, 1) := by decide +kernel
theorem s9_1 {d : Nat} {st : List Value} {σ : am_I} {ρ : am_R} {g : am_J} {τ : am_T} {Q : am_Q} {x0 : Value} {v : Nat} : AW d 9 1 [x0, .ref v] (st) σ ρ g τ Q = AW d 9 2 [x0, .ref v] (.ref v :: st) σ ρ g τ Q := aw_lc m9 d9_1 rfl rfl rfl
theorem d9_2 : decode cX1_copyFrom 2 = .ok (.getfield 9, 3) := by decide +kernel
theorem s9_2 {d : Nat} {st : List Value} {σ : am_I} {ρ : am_R} {g : am_J} {τ : am_T} {Q : am_Q} {x0 x1 : Value} {a : Nat} (ht : τ.1 a = 1) : AW d 9 2 [x0, x1] (.ref a :: st) σ ρ g τ Q = AW d 9 5 [x0, x1] (.int (σ a 0) :: st) σ ρ g τ Q := aw_gi m9 d9_2 rfl rfl rfl ht
theorem d9_5 : decode cX1_copyFrom 5 = .ok (.aload_n 1, 1) := by decide +kernel
theorem s9_5 {d : Nat} {st : List Value} {σ : am_I} {ρ : am_R} {g : am_J} {τ : am_T} {Q : am_Q} {x0 : Value} {v : Nat} : AW d 9 5 [x0, .ref v] (st) σ ρ g τ Q = AW d 9 6 [x0, .ref v] (.ref v :: st) σ ρ g τ Q := aw_lc m9 d9_5 rfl rfl rfl
theorem d9_6 : decode cX1_copyFrom 6 = .ok (.getfield 15, 3) := by decide +kernel
theorem s9_6 {d : Nat} {st : List Value} {σ : am_I} {ρ : am_R} {g : am_J} {τ : am_T} {Q : am_Q} {x0 x1 : Value} {a : Nat} (ht : τ.1 a = 1) : AW d 9 6 [x0, x1] (.ref a :: st) σ ρ g τ Q = AW d 9 9 [x0, x1] (.int (σ a 1) :: st) σ ρ g τ Q := aw_gi m9 d9_6 rfl rfl rfl ht
theorem d9_9 : decode cX1_copyFrom 9 = .ok (.aload_n 1, 1) := by decide +kernel
theorem s9_9 {d : Nat} {st : List Value} {σ : am_I} {ρ : am_R} {g : am_J} {τ : am_T} {Q : am_Q} {x0 : Value} {v : Nat} : AW d 9 9 [x0, .ref v] (st) σ ρ g τ Q = AW d 9 10 [x0, .ref v] (.ref v :: st) σ ρ g τ Q := aw_lc m9 d9_9 rfl rfl rfl
theorem d9_10 : decode cX1_copyFrom 10 = .ok (.getfield 18, 3) := by decide +kernel
theorem s9_10 {d : Nat} {st : List Value} {σ : am_I} {ρ : am_R} {g : am_J} {τ : am_T} {Q : am_Q} {x0 x1 : Value} {a : Nat} (ht : τ.1 a = 1) : AW d 9 10 [x0, x1] (.ref a :: st) σ ρ g τ Q = AW d 9 13 [x0, x1] (.int (σ a 2) :: st) σ ρ g τ Q := aw_gi m9 d9_10 rfl rfl rfl ht
theorem d9_13 : decode cX1_copyFrom 13 = .ok (.aload_n 1, 1) := by decide +kernel
theorem s9_13 {d : Nat} {st : List Value} {σ : am_I} {ρ : am_R} {g : am_J} {τ : am_T} {Q : am_Q} {x0 : Value} {v : Nat} : AW d 9 13 [x0, .ref v] (st) σ ρ g τ Q = AW d 9 14 [x0, .ref v] (.ref v :: st) σ ρ g τ Q := aw_lc m9 d9_13 rfl rfl rfl
theorem d9_14 : decode cX1_copyFrom 14 = .ok (.getfield 21, 3) := by decide +kernel
theorem s9_14 {d : Nat} {st : List Value} {σ : am_I} {ρ : am_R} {g : am_J} {τ : am_T} {Q : am_Q} {x0 x1 : Value} {a : Nat} (ht : τ.1 a = 1) : AW d 9 14 [x0, x1] (.ref a :: st) σ ρ g τ Q = AW d 9 17 [x0, x1] (.int (σ a 3) :: st) σ ρ g τ Q := aw_gi m9 d9_14 rfl rfl rfl ht
theorem d9_17 : decode cX1_copyFrom 17 = .ok (.aload_n 1, 1) := by decide +kernel
theorem s9_17 {d : Nat} {st : List Value} {σ : am_I} {ρ : am_R} {g : am_J} {τ : am_T} {Q : am_Q} {x0 : Value} {v : Nat} : AW d 9 17 [x0, .ref v] (st) σ ρ g τ Q = AW d 9 18 [x0, .ref v] (.ref v :: st) σ ρ g τ Q := aw_lc m9 d9_17 rfl rfl rfl
theorem d9_18 : decode cX1_copyFrom 18 = .ok (.getfield 24, 3) := by decide +kernel
theorem s9_18 {d : Nat} {st : List Value} {σ : am_I} {ρ : am_R} {g : am_J} {τ : am_T} {Q : am_Q} {x0 x1 : Value} {a : Nat} (ht : τ.1 a = 1) : AW d 9 18 [x0, x1] (.ref a :: st) σ ρ g τ Q = AW d 9 21 [x0, x1] (.int (σ a 4) :: st) σ ρ g τ Q := aw_gi m9 d9_18 rfl rfl rfl ht
theorem d9_21 : decode cX1_copyFrom 21 = .ok (.aload_n 1, 1) := by decide +kernel
theorem s9_21 {d : Nat} {st : List Value} {σ : am_I} {ρ : am_R} {g : am_J} {τ : am_T} {Q : am_Q} {x0 : Value} {v : Nat} : AW d 9 21 [x0, .ref v] (st) σ ρ g τ Q = AW d 9 22 [x0, .ref v] (.ref v :: st) σ ρ g τ Q := aw_lc m9 d9_21 rfl rfl rfl
theorem d9_22 : decode cX1_copyFrom 22 = .ok (.getfield 27, 3) := by decide +kernel
theorem s9_22 {d : Nat} {st : List Value} {σ : am_I} {ρ : am_R} {g : am_J} {τ : am_T} {Q : am_Q} {x0 x1 : Value} {a : Nat} (ht : τ.1 a = 1) : AW d 9 22 [x0, x1] (.ref a :: st) σ ρ g τ Q = AW d 9 25 [x0, x1] (.int (σ a 5) :: st) σ ρ g τ Q := aw_gi m9 d9_22 rfl rfl rfl ht
theorem d9_25 : decode cX1_copyFrom 25 = .ok (.invokevirtual 50, 3) := by decide +kernel
theorem s9_25 {d : Nat} {st : List Value} {σ : am_I} {ρ : am_R} {g : am_J} {τ : am_T} {Q : am_Q} {x0 x1 : Value} {p0 : Nat} {p1 : Int32} {p2 : Int32} {p3 : Int32} {p4 : Int32} {p5 : Int32} {p6 : Int32} (ht : τ.1 p0 = 1) (hs : st.length ≤ 4) : AW (d + 1) 9 25 [x0, x1] (.int p6 :: .int p5 :: .int p4 :: .int p3 :: .int p2 :: .int p1 :: .ref p0 :: st) σ ρ g τ Q = AW d 8 0 [.ref p0, .int p1, .int p2, .int p3, .int p4, .int p5, .int p6] [] σ ρ g τ (fun r9 σ ρ g τ => AW (d + 1) 9 28 [x0, x1] (r9.toList ++ st) σ ρ g τ Q) := aw_cv m9 d9_25 rfl m8 rfl rfl (by decide) en8 ok8 rfl ht hs
theorem d9_28 : decode cX1_copyFrom 28 = .ok (.aload_n 0, 1) := by decide +kernel
theorem s9_28 {d : Nat} {st : List Value} {σ : am_I} {ρ : am_R} {g : am_J} {τ : am_T} {Q : am_Q} {x1 : Value} {v : Nat} : AW d 9 28 [.ref v, x1] (st) σ ρ g τ Q = AW d 9 29 [.ref v, x1] (.ref v :: st) σ ρ g τ Q := aw_lc m9 d9_28 rfl rfl rfl
theorem d9_29 : decode cX1_copyFrom 29 = .ok (.aload_n 1, 1) := by decide +kernel
theorem s9_29 {d : Nat} {st : List Value} {σ : am_I} {ρ : am_R} {g : am_J} {τ : am_T} {Q : am_Q} {x0 : Value} {v : Nat} : AW d 9 29 [x0, .ref v] (st) σ ρ g τ Q = AW d 9 30 [x0, .ref v] (.ref v :: st) σ ρ g τ Q := aw_lc m9 d9_29 rfl rfl rfl
theorem d9_30 : decode cX1_copyFrom 30 = .ok (.getfield 30, 3) := by decide +kernel
theorem s9_30 {d : Nat} {st : List Value} {σ : am_I} {ρ : am_R} {g : am_J} {τ : am_T} {Q : am_Q} {x0 x1 : Value} {a : Nat} (ht : τ.1 a = 1) : AW d 9 30 [x0, x1] (.ref a :: st) σ ρ g τ Q = AW d 9 33 [x0, x1] (.int (σ a 6) :: st) σ ρ g τ Q := aw_gi m9 d9_30 rfl rfl rfl ht
theorem d9_33 : decode cX1_copyFrom 33 = .ok (.putfield 30, 3) := by decide +kernel
theorem s9_33 {d : Nat} {st : List Value} {σ : am_I} {ρ : am_R} {g : am_J} {τ : am_T} {Q : am_Q} {x0 x1 : Value} {a : Nat} {v : Int32} (ht : τ.1 a = 1) : AW d 9 33 [x0, x1] (.int v :: .ref a :: st) σ ρ g τ Q = AW d 9 36 [x0, x1] (st) (am_u σ a 6 v) ρ g τ Q := aw_pi m9 d9_33 rfl rfl (Or.inl rfl) rfl ht
theorem d9_36 : decode cX1_copyFrom 36 = .ok (.aload_n 0, 1) := by decide +kernel
theorem s9_36 {d : Nat} {st : List Value} {σ : am_I} {ρ : am_R} {g : am_J} {τ : am_T} {Q : am_Q} {x1 : Value} {v : Nat} : AW d 9 36 [.ref v, x1] (st) σ ρ g τ Q = AW d 9 37 [.ref v, x1] (.ref v :: st) σ ρ g τ Q := aw_lc m9 d9_36 rfl rfl rfl
theorem d9_37 : decode cX1_copyFrom 37 = .ok (.aload_n 1, 1) := by decide +kernel
theorem s9_37 {d : Nat} {st : List Value} {σ : am_I} {ρ : am_R} {g : am_J} {τ : am_T} {Q : am_Q} {x0 : Value} {v : Nat} : AW d 9 37 [x0, .ref v] (st) σ ρ g τ Q = AW d 9 38 [x0, .ref v] (.ref v :: st) σ ρ g τ Q := aw_lc m9 d9_37 rfl rfl rfl
theorem d9_38 : decode cX1_copyFrom 38 = .ok (.getfield 33, 3) := by decide +kernel
theorem s9_38 {d : Nat} {st : List Value} {σ : am_I} {ρ : am_R} {g : am_J} {τ : am_T} {Q : am_Q} {x0 x1 : Value} {a : Nat} (ht : τ.1 a = 1) : AW d 9 38 [x0, x1] (.ref a :: st) σ ρ g τ Q = AW d 9 41 [x0, x1] (.int (σ a 7) :: st) σ ρ g τ Q := aw_gi m9 d9_38 rfl rfl rfl ht
theorem d9_41 : decode cX1_copyFrom 41 = .ok (.putfield 33, 3) := by decide +kernel
theorem s9_41 {d : Nat} {st : List Value} {σ : am_I} {ρ : am_R} {g : am_J} {τ : am_T} {Q : am_Q} {x0 x1 : Value} {a : Nat} {v : Int32} (ht : τ.1 a = 1) : AW d 9 41 [x0, x1] (.int v :: .ref a :: st) σ ρ g τ Q = AW d 9 44 [x0, x1] (st) (am_u σ a 7 v) ρ g τ Q := aw_pi m9 d9_41 rfl rfl (Or.inl rfl) rfl ht
theorem d9_44 : decode cX1_copyFrom 44 = .ok (.aload_n 0, 1) := by decide +kernel
theorem s9_44 {d : Nat} {st : List Value} {σ : am_I} {ρ : am_R} {g : am_J} {τ : am_T} {Q : am_Q} {x1 : Value} {v : Nat} : AW d 9 44 [.ref v, x1] (st) σ ρ g τ Q = AW d 9 45 [.ref v, x1] (.ref v :: st) σ ρ g τ Q := aw_lc m9 d9_44 rfl rfl rfl
theorem d9_45 : decode cX1_copyFrom 45 = .ok (.aload_n 1, 1) := by decide +kernel
theorem s9_45 {d : Nat} {st : List Value} {σ : am_I} {ρ : am_R} {g : am_J} {τ : am_T} {Q : am_Q} {x0 : Value} {v : Nat} : AW d 9 45 [x0, .ref v] (st) σ ρ g τ Q = AW d 9 46 [x0, .ref v] (.ref v :: st) σ ρ g τ Q := aw_lc m9 d9_45 rfl rfl rfl
theorem d9_46 : decode cX1_copyFrom 46 = .ok (.getfield 36, 3) := by decide +kernel
theorem s9_46 {d : Nat} {st : List Value} {σ : am_I} {ρ : am_R} {g : am_J} {τ : am_T} {Q : am_Q} {x0 x1 : Value} {a : Nat} (ht : τ.1 a = 1) : AW d 9 46 [x0, x1] (.ref a :: st) σ ρ g τ Q = AW d 9 49 [x0, x1] (.int (σ a 8) :: st) σ ρ g τ Q := aw_gi m9 d9_46 rfl rfl rfl ht
theorem d9_49 : decode cX1_copyFrom 49 = .ok (.putfield 36, 3) := by decide +kernel
theorem s9_49 {d : Nat} {st : List Value} {σ : am_I} {ρ : am_R} {g : am_J} {τ : am_T} {Q : am_Q} {x0 x1 : Value} {a : Nat} {v : Int32} (ht : τ.1 a = 1) (hv : am_b01 v = true) : AW d 9 49 [x0, x1] (.int v :: .ref a :: st) σ ρ g τ Q = AW d 9 52 [x0, x1] (st) (am_u σ a 8 v) ρ g τ Q := aw_pz m9 d9_49 rfl rfl (Or.inl rfl) rfl ht hv
theorem d9_52 : decode cX1_copyFrom 52 = .ok (.aload_n 1, 1) := by decide +kernel
theorem s9_52 {d : Nat} {st : List Value} {σ : am_I} {ρ : am_R} {g : am_J} {τ : am_T} {Q : am_Q} {x0 : Value} {v : Nat} : AW d 9 52 [x0, .ref v] (st) σ ρ g τ Q = AW d 9 53 [x0, .ref v] (.ref v :: st) σ ρ g τ Q := aw_lc m9 d9_52 rfl rfl rfl
theorem d9_53 : decode cX1_copyFrom 53 = .ok (.getfield 40, 3) := by decide +kernel
theorem s9_53 {d : Nat} {st : List Value} {σ : am_I} {ρ : am_R} {g : am_J} {τ : am_T} {Q : am_Q} {x0 x1 : Value} {a : Nat} (ht : τ.1 a = 1) : AW d 9 53 [x0, x1] (.ref a :: st) σ ρ g τ Q = AW d 9 56 [x0, x1] (va_rf (ρ a 9) :: st) σ ρ g τ Q := aw_gr m9 d9_53 rfl rfl rfl ht
theorem d9_56 : decode cX1_copyFrom 56 = .ok (.iconst 0, 1) := by decide +kernel
theorem s9_56 {d : Nat} {st : List Value} {σ : am_I} {ρ : am_R} {g : am_J} {τ : am_T} {Q : am_Q} {x0 x1 : Value} : AW d 9 56 [x0, x1] (st) σ ρ g τ Q = AW d 9 57 [x0, x1] (.int 0 :: st) σ ρ g τ Q := aw_lc m9 d9_56 rfl rfl rfl
theorem d9_57 : decode cX1_copyFrom 57 = .ok (.aload_n 0, 1) := by decide +kernel
theorem s9_57 {d : Nat} {st : List Value} {σ : am_I} {ρ : am_R} {g : am_J} {τ : am_T} {Q : am_Q} {x1 : Value} {v : Nat} : AW d 9 57 [.ref v, x1] (st) σ ρ g τ Q = AW d 9 58 [.ref v, x1] (.ref v :: st) σ ρ g τ Q := aw_lc m9 d9_57 rfl rfl rfl
theorem d9_58 : decode cX1_copyFrom 58 = .ok (.getfield 40, 3) := by decide +kernel
theorem s9_58 {d : Nat} {st : List Value} {σ : am_I} {ρ : am_R} {g : am_J} {τ : am_T} {Q : am_Q} {x0 x1 : Value} {a : Nat} (ht : τ.1 a = 1) : AW d 9 58 [x0, x1] (.ref a :: st) σ ρ g τ Q = AW d 9 61 [x0, x1] (va_rf (ρ a 9) :: st) σ ρ g τ Q := aw_gr m9 d9_58 rfl rfl rfl ht
theorem d9_61 : decode cX1_copyFrom 61 = .ok (.iconst 0, 1) := by decide +kernel
theorem s9_61 {d : Nat} {st : List Value} {σ : am_I} {ρ : am_R} {g : am_J} {τ : am_T} {Q : am_Q} {x0 x1 : Value} : AW d 9 61 [x0, x1] (st) σ ρ g τ Q = AW d 9 62 [x0, x1] (.int 0 :: st) σ ρ g τ Q := aw_lc m9 d9_61 rfl rfl rfl
theorem d9_62 : decode cX1_copyFrom 62 = .ok (.bipush 7, 2) := by decide +kernel
theorem s9_62 {d : Nat} {st : List Value} {σ : am_I} {ρ : am_R} {g : am_J} {τ : am_T} {Q : am_Q} {x0 x1 : Value} : AW d 9 62 [x0, x1] (st) σ ρ g τ Q = AW d 9 64 [x0, x1] (.int 7 :: st) σ ρ g τ Q := aw_lc m9 d9_62 rfl rfl rfl
theorem d9_64 : decode cX1_copyFrom 64 = .ok (.invokestatic 54, 3) := by decide +kernel
theorem s9_64 {d : Nat} {st : List Value} {σ : am_I} {ρ : am_R} {g : am_J} {τ : am_T} {Q : am_Q} {x0 x1 : Value} {a b : Nat} {sp dp nn : Int32} (hs : st.length ≤ 4) (h : τ.1 a = 15 ∧ τ.1 b = 15 ∧ a < am_BG ∧ b < am_BG ∧ a ≠ b ∧ ¬ nn < 0 ∧ ¬ sp < 0 ∧ ¬ dp < 0 ∧ sp.toNatClampNeg + nn.toNatClampNeg ≤ τ.2.1 a ∧ dp.toNatClampNeg + nn.toNatClampNeg ≤ τ.2.1 b) : AW d 9 64 [x0, x1] (.int nn :: .int dp :: .ref b :: .int sp :: .ref a :: st) σ ρ g τ Q = AW d 9 67 [x0, x1] (st) (am_ur σ b (va_cpy (σ a) (σ b) sp.toNatClampNeg dp.toNatClampNeg nn.toNatClampNeg)) ρ g τ Q := aw_cpy m9 d9_64 rfl rfl hs h
theorem d9_67 : decode cX1_copyFrom 67 = .ok (.return_, 1) := by decide +kernel
theorem s9_67 {d : Nat} {σ : am_I} {ρ : am_R} {g : am_J} {τ : am_T} {Q : am_Q} {x0 x1 : Value} : AW d 9 67 [x0, x1] ([]) σ ρ g τ Q = Q none σ ρ g τ := aw_rv m9 d9_67 rfl
theorem d10_0 : decode cX1_fallsIn 0 = .ok (.aload_n 0, 1) := by decide +kernel
theorem s10_0 {d : Nat} {st : List Value} {σ : am_I} {ρ : am_R} {g : am_J} {τ : am_T} {Q : am_Q} {x1 : Value} {v : Nat} : AW d 10 0 [.ref v, x1] (st) σ ρ g τ Q = AW d 10 1 [.ref v, x1] (.ref v :: st) σ ρ g τ Q := aw_lc m10 d10_0 rfl rfl rfl
theorem d10_1 : decode cX1_fallsIn 1 = .ok (.getfield 24, 3) := by decide +kernel
theorem s10_1 {d : Nat} {st : List Value} {σ : am_I} {ρ : am_R} {g : am_J} {τ : am_T} {Q : am_Q} {x0 x1 : Value} {a : Nat} (ht : τ.1 a = 1) : AW d 10 1 [x0, x1] (.ref a :: st) σ ρ g τ Q = AW d 10 4 [x0, x1] (.int (σ a 4) :: st) σ ρ g τ Q := aw_gi m10 d10_1 rfl rfl rfl ht
theorem d10_4 : decode cX1_fallsIn 4 = .ok (.ifCond .le 29, 3) := by decide +kernel
theorem s10_4 {d : Nat} {st : List Value} {σ : am_I} {ρ : am_R} {g : am_J} {τ : am_T} {Q : am_Q} {x0 x1 : Value} {v : Int32} : AW d 10 4 [x0, x1] (.int v :: st) σ ρ g τ Q = if v ≤ 0 then AW d 10 33 [x0, x1] (st) σ ρ g τ Q else AW d 10 7 [x0, x1] (st) σ ρ g τ Q := aw_br m10 d10_4 rfl rfl rfl
theorem d10_7 : decode cX1_fallsIn 7 = .ok (.iload_n 1, 1) := by decide +kernel
theorem s10_7 {d : Nat} {st : List Value} {σ : am_I} {ρ : am_R} {g : am_J} {τ : am_T} {Q : am_Q} {x0 : Value} {v : Int32} : AW d 10 7 [x0, .int v] (st) σ ρ g τ Q = AW d 10 8 [x0, .int v] (.int v :: st) σ ρ g τ Q := aw_lc m10 d10_7 rfl rfl rfl
theorem d10_8 : decode cX1_fallsIn 8 = .ok (.aload_n 0, 1) := by decide +kernel
theorem s10_8 {d : Nat} {st : List Value} {σ : am_I} {ρ : am_R} {g : am_J} {τ : am_T} {Q : am_Q} {x1 : Value} {v : Nat} : AW d 10 8 [.ref v, x1] (st) σ ρ g τ Q = AW d 10 9 [.ref v, x1] (.ref v :: st) σ ρ g τ Q := aw_lc m10 d10_8 rfl rfl rfl
theorem d10_9 : decode cX1_fallsIn 9 = .ok (.getfield 27, 3) := by decide +kernel
theorem s10_9 {d : Nat} {st : List Value} {σ : am_I} {ρ : am_R} {g : am_J} {τ : am_T} {Q : am_Q} {x0 x1 : Value} {a : Nat} (ht : τ.1 a = 1) : AW d 10 9 [x0, x1] (.ref a :: st) σ ρ g τ Q = AW d 10 12 [x0, x1] (.int (σ a 5) :: st) σ ρ g τ Q := aw_gi m10 d10_9 rfl rfl rfl ht
theorem d10_12 : decode cX1_fallsIn 12 = .ok (.if_icmp .le 21, 3) := by decide +kernel
theorem s10_12 {d : Nat} {st : List Value} {σ : am_I} {ρ : am_R} {g : am_J} {τ : am_T} {Q : am_Q} {x0 x1 : Value} {v w : Int32} : AW d 10 12 [x0, x1] (.int w :: .int v :: st) σ ρ g τ Q = if v ≤ w then AW d 10 33 [x0, x1] (st) σ ρ g τ Q else AW d 10 15 [x0, x1] (st) σ ρ g τ Q := aw_br m10 d10_12 rfl rfl rfl
theorem d10_15 : decode cX1_fallsIn 15 = .ok (.iload_n 1, 1) := by decide +kernel
theorem s10_15 {d : Nat} {st : List Value} {σ : am_I} {ρ : am_R} {g : am_J} {τ : am_T} {Q : am_Q} {x0 : Value} {v : Int32} : AW d 10 15 [x0, .int v] (st) σ ρ g τ Q = AW d 10 16 [x0, .int v] (.int v :: st) σ ρ g τ Q := aw_lc m10 d10_15 rfl rfl rfl
theorem d10_16 : decode cX1_fallsIn 16 = .ok (.aload_n 0, 1) := by decide +kernel
theorem s10_16 {d : Nat} {st : List Value} {σ : am_I} {ρ : am_R} {g : am_J} {τ : am_T} {Q : am_Q} {x1 : Value} {v : Nat} : AW d 10 16 [.ref v, x1] (st) σ ρ g τ Q = AW d 10 17 [.ref v, x1] (.ref v :: st) σ ρ g τ Q := aw_lc m10 d10_16 rfl rfl rfl
theorem d10_17 : decode cX1_fallsIn 17 = .ok (.getfield 27, 3) := by decide +kernel
theorem s10_17 {d : Nat} {st : List Value} {σ : am_I} {ρ : am_R} {g : am_J} {τ : am_T} {Q : am_Q} {x0 x1 : Value} {a : Nat} (ht : τ.1 a = 1) : AW d 10 17 [x0, x1] (.ref a :: st) σ ρ g τ Q = AW d 10 20 [x0, x1] (.int (σ a 5) :: st) σ ρ g τ Q := aw_gi m10 d10_17 rfl rfl rfl ht
theorem d10_20 : decode cX1_fallsIn 20 = .ok (.isub, 1) := by decide +kernel
theorem s10_20 {d : Nat} {st : List Value} {σ : am_I} {ρ : am_R} {g : am_J} {τ : am_T} {Q : am_Q} {x0 x1 : Value} {v w : Int32} : AW d 10 20 [x0, x1] (.int w :: .int v :: st) σ ρ g τ Q = AW d 10 21 [x0, x1] (.int (v - w) :: st) σ ρ g τ Q := aw_lc m10 d10_20 rfl rfl rfl
theorem d10_21 : decode cX1_fallsIn 21 = .ok (.aload_n 0, 1) := by decide +kernel
theorem s10_21 {d : Nat} {st : List Value} {σ : am_I} {ρ : am_R} {g : am_J} {τ : am_T} {Q : am_Q} {x1 : Value} {v : Nat} : AW d 10 21 [.ref v, x1] (st) σ ρ g τ Q = AW d 10 22 [.ref v, x1] (.ref v :: st) σ ρ g τ Q := aw_lc m10 d10_21 rfl rfl rfl
theorem d10_22 : decode cX1_fallsIn 22 = .ok (.getfield 24, 3) := by decide +kernel
theorem s10_22 {d : Nat} {st : List Value} {σ : am_I} {ρ : am_R} {g : am_J} {τ : am_T} {Q : am_Q} {x0 x1 : Value} {a : Nat} (ht : τ.1 a = 1) : AW d 10 22 [x0, x1] (.ref a :: st) σ ρ g τ Q = AW d 10 25 [x0, x1] (.int (σ a 4) :: st) σ ρ g τ Q := aw_gi m10 d10_22 rfl rfl rfl ht
theorem d10_25 : decode cX1_fallsIn 25 = .ok (.irem, 1) := by decide +kernel
theorem s10_25 {d : Nat} {st : List Value} {σ : am_I} {ρ : am_R} {g : am_J} {τ : am_T} {Q : am_Q} {x0 x1 : Value} {v w : Int32} (h0 : ¬ w = 0) : AW d 10 25 [x0, x1] (.int w :: .int v :: st) σ ρ g τ Q = AW d 10 26 [x0, x1] (.int (v - v / w * w) :: st) σ ρ g τ Q := aw_rem m10 d10_25 h0 rfl
theorem d10_26 : decode cX1_fallsIn 26 = .ok (.ifCond .ne 7, 3) := by decide +kernel
theorem s10_26 {d : Nat} {st : List Value} {σ : am_I} {ρ : am_R} {g : am_J} {τ : am_T} {Q : am_Q} {x0 x1 : Value} {v : Int32} : AW d 10 26 [x0, x1] (.int v :: st) σ ρ g τ Q = if ¬ v = 0 then AW d 10 33 [x0, x1] (st) σ ρ g τ Q else AW d 10 29 [x0, x1] (st) σ ρ g τ Q := aw_br m10 d10_26 rfl rfl rfl
theorem d10_29 : decode cX1_fallsIn 29 = .ok (.iconst 1, 1) := by decide +kernel
theorem s10_29 {d : Nat} {st : List Value} {σ : am_I} {ρ : am_R} {g : am_J} {τ : am_T} {Q : am_Q} {x0 x1 : Value} : AW d 10 29 [x0, x1] (st) σ ρ g τ Q = AW d 10 30 [x0, x1] (.int 1 :: st) σ ρ g τ Q := aw_lc m10 d10_29 rfl rfl rfl
theorem d10_30 : decode cX1_fallsIn 30 = .ok (.goto 4, 3) := by decide +kernel
theorem s10_30 {d : Nat} {st : List Value} {σ : am_I} {ρ : am_R} {g : am_J} {τ : am_T} {Q : am_Q} {x0 x1 : Value} : AW d 10 30 [x0, x1] (st) σ ρ g τ Q = AW d 10 34 [x0, x1] (st) σ ρ g τ Q := aw_lc m10 d10_30 rfl rfl rfl
theorem d10_33 : decode cX1_fallsIn 33 = .ok (.iconst 0, 1) := by decide +kernel
theorem s10_33 {d : Nat} {st : List Value} {σ : am_I} {ρ : am_R} {g : am_J} {τ : am_T} {Q : am_Q} {x0 x1 : Value} : AW d 10 33 [x0, x1] (st) σ ρ g τ Q = AW d 10 34 [x0, x1] (.int 0 :: st) σ ρ g τ Q := aw_lc m10 d10_33 rfl rfl rfl
theorem d10_34 : decode cX1_fallsIn 34 = .ok (.ireturn, 1) := by decide +kernel
theorem s10_34 {d : Nat} {σ : am_I} {ρ : am_R} {g : am_J} {τ : am_T} {Q : am_Q} {x0 x1 : Value} {v : Int32} (hv : am_b01 v = true) : AW d 10 34 [x0, x1] ([.int v]) σ ρ g τ Q = Q (some (.int v)) σ ρ g τ := aw_rz m10 d10_34 rfl hv
theorem d11_0 : decode cX1_factOf 0 = .ok (.iload_n 1, 1) := by decide +kernel
theorem s11_0 {d : Nat} {st : List Value} {σ : am_I} {ρ : am_R} {g : am_J} {τ : am_T} {Q : am_Q} {x0 x2 : Value} {v : Int32} : AW d 11 0 [x0, .int v, x2] (st) σ ρ g τ Q = AW d 11 1 [x0, .int v, x2] (.int v :: st) σ ρ g τ Q := aw_lc m11 d11_0 rfl rfl rfl
theorem d11_1 : decode cX1_factOf 1 = .ok (.tableswitch 83 0 5 #[39, 44, 49, 54, 59, 64], 39) := by decide +kernel
theorem s11_1_0 {d : Nat} {st : List Value} {σ : am_I} {ρ : am_R} {g : am_J} {τ : am_T} {Q : am_Q} {x0 x1 x2 : Value} : AW d 11 1 [x0, x1, x2] (.int 0 :: st) σ ρ g τ Q = AW d 11 40 [x0, x1, x2] (st) σ ρ g τ Q := aw_lc m11 d11_1 rfl rfl rfl
theorem s11_1_1 {d : Nat} {st : List Value} {σ : am_I} {ρ : am_R} {g : am_J} {τ : am_T} {Q : am_Q} {x0 x1 x2 : Value} : AW d 11 1 [x0, x1, x2] (.int 1 :: st) σ ρ g τ Q = AW d 11 45 [x0, x1, x2] (st) σ ρ g τ Q := aw_lc m11 d11_1 rfl rfl rfl
theorem s11_1_2 {d : Nat} {st : List Value} {σ : am_I} {ρ : am_R} {g : am_J} {τ : am_T} {Q : am_Q} {x0 x1 x2 : Value} : AW d 11 1 [x0, x1, x2] (.int 2 :: st) σ ρ g τ Q = AW d 11 50 [x0, x1, x2] (st) σ ρ g τ Q := aw_lc m11 d11_1 rfl rfl rfl
theorem s11_1_3 {d : Nat} {st : List Value} {σ : am_I} {ρ : am_R} {g : am_J} {τ : am_T} {Q : am_Q} {x0 x1 x2 : Value} : AW d 11 1 [x0, x1, x2] (.int 3 :: st) σ ρ g τ Q = AW d 11 55 [x0, x1, x2] (st) σ ρ g τ Q := aw_lc m11 d11_1 rfl rfl rfl
theorem s11_1_4 {d : Nat} {st : List Value} {σ : am_I} {ρ : am_R} {g : am_J} {τ : am_T} {Q : am_Q} {x0 x1 x2 : Value} : AW d 11 1 [x0, x1, x2] (.int 4 :: st) σ ρ g τ Q = AW d 11 60 [x0, x1, x2] (st) σ ρ g τ Q := aw_lc m11 d11_1 rfl rfl rfl
theorem s11_1_5 {d : Nat} {st : List Value} {σ : am_I} {ρ : am_R} {g : am_J} {τ : am_T} {Q : am_Q} {x0 x1 x2 : Value} : AW d 11 1 [x0, x1, x2] (.int 5 :: st) σ ρ g τ Q = AW d 11 65 [x0, x1, x2] (st) σ ρ g τ Q := aw_lc m11 d11_1 rfl rfl rfl
theorem s11_1_d {d : Nat} {st : List Value} {σ : am_I} {ρ : am_R} {g : am_J} {τ : am_T} {Q : am_Q} {x0 x1 x2 : Value} {v : Int32} (h : v.toInt < 0 ∨ 5 < v.toInt) : AW d 11 1 [x0, x1, x2] (.int v :: st) σ ρ g τ Q = AW d 11 84 [x0, x1, x2] (st) σ ρ g τ Q := aw_lc m11 d11_1 rfl rfl (by simp only [am_lc]; rw [if_pos h]; rfl)
theorem d11_40 : decode cX1_factOf 40 = .ok (.aload_n 0, 1) := by decide +kernel
theorem s11_40 {d : Nat} {st : List Value} {σ : am_I} {ρ : am_R} {g : am_J} {τ : am_T} {Q : am_Q} {x1 x2 : Value} {v : Nat} : AW d 11 40 [.ref v, x1, x2] (st) σ ρ g τ Q = AW d 11 41 [.ref v, x1, x2] (.ref v :: st) σ ρ g τ Q := aw_lc m11 d11_40 rfl rfl rfl
theorem d11_41 : decode cX1_factOf 41 = .ok (.getfield 15, 3) := by decide +kernel
theorem s11_41 {d : Nat} {st : List Value} {σ : am_I} {ρ : am_R} {g : am_J} {τ : am_T} {Q : am_Q} {x0 x1 x2 : Value} {a : Nat} (ht : τ.1 a = 1) : AW d 11 41 [x0, x1, x2] (.ref a :: st) σ ρ g τ Q = AW d 11 44 [x0, x1, x2] (.int (σ a 1) :: st) σ ρ g τ Q := aw_gi m11 d11_41 rfl rfl rfl ht
theorem d11_44 : decode cX1_factOf 44 = .ok (.ireturn, 1) := by decide +kernel
theorem s11_44 {d : Nat} {σ : am_I} {ρ : am_R} {g : am_J} {τ : am_T} {Q : am_Q} {x0 x1 x2 : Value} {v : Int32} : AW d 11 44 [x0, x1, x2] ([.int v]) σ ρ g τ Q = Q (some (.int v)) σ ρ g τ := aw_ri m11 d11_44 rfl
theorem d11_45 : decode cX1_factOf 45 = .ok (.aload_n 0, 1) := by decide +kernel
theorem s11_45 {d : Nat} {st : List Value} {σ : am_I} {ρ : am_R} {g : am_J} {τ : am_T} {Q : am_Q} {x1 x2 : Value} {v : Nat} : AW d 11 45 [.ref v, x1, x2] (st) σ ρ g τ Q = AW d 11 46 [.ref v, x1, x2] (.ref v :: st) σ ρ g τ Q := aw_lc m11 d11_45 rfl rfl rfl
theorem d11_46 : decode cX1_factOf 46 = .ok (.getfield 9, 3) := by decide +kernel
theorem s11_46 {d : Nat} {st : List Value} {σ : am_I} {ρ : am_R} {g : am_J} {τ : am_T} {Q : am_Q} {x0 x1 x2 : Value} {a : Nat} (ht : τ.1 a = 1) : AW d 11 46 [x0, x1, x2] (.ref a :: st) σ ρ g τ Q = AW d 11 49 [x0, x1, x2] (.int (σ a 0) :: st) σ ρ g τ Q := aw_gi m11 d11_46 rfl rfl rfl ht
theorem d11_49 : decode cX1_factOf 49 = .ok (.ireturn, 1) := by decide +kernel
theorem s11_49 {d : Nat} {σ : am_I} {ρ : am_R} {g : am_J} {τ : am_T} {Q : am_Q} {x0 x1 x2 : Value} {v : Int32} : AW d 11 49 [x0, x1, x2] ([.int v]) σ ρ g τ Q = Q (some (.int v)) σ ρ g τ := aw_ri m11 d11_49 rfl
theorem d11_50 : decode cX1_factOf 50 = .ok (.aload_n 0, 1) := by decide +kernel
theorem s11_50 {d : Nat} {st : List Value} {σ : am_I} {ρ : am_R} {g : am_J} {τ : am_T} {Q : am_Q} {x1 x2 : Value} {v : Nat} : AW d 11 50 [.ref v, x1, x2] (st) σ ρ g τ Q = AW d 11 51 [.ref v, x1, x2] (.ref v :: st) σ ρ g τ Q := aw_lc m11 d11_50 rfl rfl rfl
theorem d11_51 : decode cX1_factOf 51 = .ok (.getfield 21, 3) := by decide +kernel
theorem s11_51 {d : Nat} {st : List Value} {σ : am_I} {ρ : am_R} {g : am_J} {τ : am_T} {Q : am_Q} {x0 x1 x2 : Value} {a : Nat} (ht : τ.1 a = 1) : AW d 11 51 [x0, x1, x2] (.ref a :: st) σ ρ g τ Q = AW d 11 54 [x0, x1, x2] (.int (σ a 3) :: st) σ ρ g τ Q := aw_gi m11 d11_51 rfl rfl rfl ht
theorem d11_54 : decode cX1_factOf 54 = .ok (.ireturn, 1) := by decide +kernel
theorem s11_54 {d : Nat} {σ : am_I} {ρ : am_R} {g : am_J} {τ : am_T} {Q : am_Q} {x0 x1 x2 : Value} {v : Int32} : AW d 11 54 [x0, x1, x2] ([.int v]) σ ρ g τ Q = Q (some (.int v)) σ ρ g τ := aw_ri m11 d11_54 rfl
theorem d11_55 : decode cX1_factOf 55 = .ok (.aload_n 0, 1) := by decide +kernel
theorem s11_55 {d : Nat} {st : List Value} {σ : am_I} {ρ : am_R} {g : am_J} {τ : am_T} {Q : am_Q} {x1 x2 : Value} {v : Nat} : AW d 11 55 [.ref v, x1, x2] (st) σ ρ g τ Q = AW d 11 56 [.ref v, x1, x2] (.ref v :: st) σ ρ g τ Q := aw_lc m11 d11_55 rfl rfl rfl
theorem d11_56 : decode cX1_factOf 56 = .ok (.getfield 24, 3) := by decide +kernel
theorem s11_56 {d : Nat} {st : List Value} {σ : am_I} {ρ : am_R} {g : am_J} {τ : am_T} {Q : am_Q} {x0 x1 x2 : Value} {a : Nat} (ht : τ.1 a = 1) : AW d 11 56 [x0, x1, x2] (.ref a :: st) σ ρ g τ Q = AW d 11 59 [x0, x1, x2] (.int (σ a 4) :: st) σ ρ g τ Q := aw_gi m11 d11_56 rfl rfl rfl ht
theorem d11_59 : decode cX1_factOf 59 = .ok (.ireturn, 1) := by decide +kernel
theorem s11_59 {d : Nat} {σ : am_I} {ρ : am_R} {g : am_J} {τ : am_T} {Q : am_Q} {x0 x1 x2 : Value} {v : Int32} : AW d 11 59 [x0, x1, x2] ([.int v]) σ ρ g τ Q = Q (some (.int v)) σ ρ g τ := aw_ri m11 d11_59 rfl
theorem d11_60 : decode cX1_factOf 60 = .ok (.aload_n 0, 1) := by decide +kernel
theorem s11_60 {d : Nat} {st : List Value} {σ : am_I} {ρ : am_R} {g : am_J} {τ : am_T} {Q : am_Q} {x1 x2 : Value} {v : Nat} : AW d 11 60 [.ref v, x1, x2] (st) σ ρ g τ Q = AW d 11 61 [.ref v, x1, x2] (.ref v :: st) σ ρ g τ Q := aw_lc m11 d11_60 rfl rfl rfl
theorem d11_61 : decode cX1_factOf 61 = .ok (.getfield 30, 3) := by decide +kernel
theorem s11_61 {d : Nat} {st : List Value} {σ : am_I} {ρ : am_R} {g : am_J} {τ : am_T} {Q : am_Q} {x0 x1 x2 : Value} {a : Nat} (ht : τ.1 a = 1) : AW d 11 61 [x0, x1, x2] (.ref a :: st) σ ρ g τ Q = AW d 11 64 [x0, x1, x2] (.int (σ a 6) :: st) σ ρ g τ Q := aw_gi m11 d11_61 rfl rfl rfl ht
theorem d11_64 : decode cX1_factOf 64 = .ok (.ireturn, 1) := by decide +kernel
theorem s11_64 {d : Nat} {σ : am_I} {ρ : am_R} {g : am_J} {τ : am_T} {Q : am_Q} {x0 x1 x2 : Value} {v : Int32} : AW d 11 64 [x0, x1, x2] ([.int v]) σ ρ g τ Q = Q (some (.int v)) σ ρ g τ := aw_ri m11 d11_64 rfl
theorem d11_65 : decode cX1_factOf 65 = .ok (.iload_n 2, 1) := by decide +kernel
theorem s11_65 {d : Nat} {st : List Value} {σ : am_I} {ρ : am_R} {g : am_J} {τ : am_T} {Q : am_Q} {x0 x1 : Value} {v : Int32} : AW d 11 65 [x0, x1, .int v] (st) σ ρ g τ Q = AW d 11 66 [x0, x1, .int v] (.int v :: st) σ ρ g τ Q := aw_lc m11 d11_65 rfl rfl rfl
theorem d11_66 : decode cX1_factOf 66 = .ok (.aload_n 0, 1) := by decide +kernel
theorem s11_66 {d : Nat} {st : List Value} {σ : am_I} {ρ : am_R} {g : am_J} {τ : am_T} {Q : am_Q} {x1 x2 : Value} {v : Nat} : AW d 11 66 [.ref v, x1, x2] (st) σ ρ g τ Q = AW d 11 67 [.ref v, x1, x2] (.ref v :: st) σ ρ g τ Q := aw_lc m11 d11_66 rfl rfl rfl
theorem d11_67 : decode cX1_factOf 67 = .ok (.getfield 27, 3) := by decide +kernel
theorem s11_67 {d : Nat} {st : List Value} {σ : am_I} {ρ : am_R} {g : am_J} {τ : am_T} {Q : am_Q} {x0 x1 x2 : Value} {a : Nat} (ht : τ.1 a = 1) : AW d 11 67 [x0, x1, x2] (.ref a :: st) σ ρ g τ Q = AW d 11 70 [x0, x1, x2] (.int (σ a 5) :: st) σ ρ g τ Q := aw_gi m11 d11_67 rfl rfl rfl ht
theorem d11_70 : decode cX1_factOf 70 = .ok (.if_icmp .le 12, 3) := by decide +kernel
theorem s11_70 {d : Nat} {st : List Value} {σ : am_I} {ρ : am_R} {g : am_J} {τ : am_T} {Q : am_Q} {x0 x1 x2 : Value} {v w : Int32} : AW d 11 70 [x0, x1, x2] (.int w :: .int v :: st) σ ρ g τ Q = if v ≤ w then AW d 11 82 [x0, x1, x2] (st) σ ρ g τ Q else AW d 11 73 [x0, x1, x2] (st) σ ρ g τ Q := aw_br m11 d11_70 rfl rfl rfl
theorem d11_73 : decode cX1_factOf 73 = .ok (.iload_n 2, 1) := by decide +kernel
theorem s11_73 {d : Nat} {st : List Value} {σ : am_I} {ρ : am_R} {g : am_J} {τ : am_T} {Q : am_Q} {x0 x1 : Value} {v : Int32} : AW d 11 73 [x0, x1, .int v] (st) σ ρ g τ Q = AW d 11 74 [x0, x1, .int v] (.int v :: st) σ ρ g τ Q := aw_lc m11 d11_73 rfl rfl rfl
theorem d11_74 : decode cX1_factOf 74 = .ok (.aload_n 0, 1) := by decide +kernel
theorem s11_74 {d : Nat} {st : List Value} {σ : am_I} {ρ : am_R} {g : am_J} {τ : am_T} {Q : am_Q} {x1 x2 : Value} {v : Nat} : AW d 11 74 [.ref v, x1, x2] (st) σ ρ g τ Q = AW d 11 75 [.ref v, x1, x2] (.ref v :: st) σ ρ g τ Q := aw_lc m11 d11_74 rfl rfl rfl
theorem d11_75 : decode cX1_factOf 75 = .ok (.getfield 27, 3) := by decide +kernel
theorem s11_75 {d : Nat} {st : List Value} {σ : am_I} {ρ : am_R} {g : am_J} {τ : am_T} {Q : am_Q} {x0 x1 x2 : Value} {a : Nat} (ht : τ.1 a = 1) : AW d 11 75 [x0, x1, x2] (.ref a :: st) σ ρ g τ Q = AW d 11 78 [x0, x1, x2] (.int (σ a 5) :: st) σ ρ g τ Q := aw_gi m11 d11_75 rfl rfl rfl ht
theorem d11_78 : decode cX1_factOf 78 = .ok (.isub, 1) := by decide +kernel
theorem s11_78 {d : Nat} {st : List Value} {σ : am_I} {ρ : am_R} {g : am_J} {τ : am_T} {Q : am_Q} {x0 x1 x2 : Value} {v w : Int32} : AW d 11 78 [x0, x1, x2] (.int w :: .int v :: st) σ ρ g τ Q = AW d 11 79 [x0, x1, x2] (.int (v - w) :: st) σ ρ g τ Q := aw_lc m11 d11_78 rfl rfl rfl
theorem d11_79 : decode cX1_factOf 79 = .ok (.goto 4, 3) := by decide +kernel
theorem s11_79 {d : Nat} {st : List Value} {σ : am_I} {ρ : am_R} {g : am_J} {τ : am_T} {Q : am_Q} {x0 x1 x2 : Value} : AW d 11 79 [x0, x1, x2] (st) σ ρ g τ Q = AW d 11 83 [x0, x1, x2] (st) σ ρ g τ Q := aw_lc m11 d11_79 rfl rfl rfl
theorem d11_82 : decode cX1_factOf 82 = .ok (.iconst 0, 1) := by decide +kernel
theorem s11_82 {d : Nat} {st : List Value} {σ : am_I} {ρ : am_R} {g : am_J} {τ : am_T} {Q : am_Q} {x0 x1 x2 : Value} : AW d 11 82 [x0, x1, x2] (st) σ ρ g τ Q = AW d 11 83 [x0, x1, x2] (.int 0 :: st) σ ρ g τ Q := aw_lc m11 d11_82 rfl rfl rfl
theorem d11_83 : decode cX1_factOf 83 = .ok (.ireturn, 1) := by decide +kernel
theorem s11_83 {d : Nat} {σ : am_I} {ρ : am_R} {g : am_J} {τ : am_T} {Q : am_Q} {x0 x1 x2 : Value} {v : Int32} : AW d 11 83 [x0, x1, x2] ([.int v]) σ ρ g τ Q = Q (some (.int v)) σ ρ g τ := aw_ri m11 d11_83 rfl
theorem d11_84 : decode cX1_factOf 84 = .ok (.iconst 0, 1) := by decide +kernel
theorem s11_84 {d : Nat} {st : List Value} {σ : am_I} {ρ : am_R} {g : am_J} {τ : am_T} {Q : am_Q} {x0 x1 x2 : Value} : AW d 11 84 [x0, x1, x2] (st) σ ρ g τ Q = AW d 11 85 [x0, x1, x2] (.int 0 :: st) σ ρ g τ Q := aw_lc m11 d11_84 rfl rfl rfl
theorem d11_85 : decode cX1_factOf 85 = .ok (.ireturn, 1) := by decide +kernel
theorem s11_85 {d : Nat} {σ : am_I} {ρ : am_R} {g : am_J} {τ : am_T} {Q : am_Q} {x0 x1 x2 : Value} {v : Int32} : AW d 11 85 [x0, x1, x2] ([.int v]) σ ρ g τ Q = Q (some (.int v)) σ ρ g τ := aw_ri m11 d11_85 rfl
theorem d12_0 : decode cX1_movePrice 0 = .ok (.bipush 6, 2) := by decide +kernel
theorem s12_0 {d : Nat} {st : List Value} {σ : am_I} {ρ : am_R} {g : am_J} {τ : am_T} {Q : am_Q} {x0 x1 : Value} : AW d 12 0 [x0, x1] (st) σ ρ g τ Q = AW d 12 2 [x0, x1] (.int 6 :: st) σ ρ g τ Q := aw_lc m12 d12_0 rfl rfl rfl
theorem d12_2 : decode cX1_movePrice 2 = .ok (.istore_n 1, 1) := by decide +kernel
theorem s12_2r {d : Nat} {st : List Value} {σ : am_I} {ρ : am_R} {g : am_J} {τ : am_T} {Q : am_Q} {x1 : Value} {v : Int32} {u : Nat} : AW d 12 2 [.ref u, x1] (.int v :: st) σ ρ g τ Q = AW d 12 3 [.ref u, .int v] (st) σ ρ g τ Q := aw_lc m12 d12_2 rfl rfl rfl
theorem d12_3 : decode cX1_movePrice 3 = .ok (.iload_n 1, 1) := by decide +kernel
theorem s12_3 {d : Nat} {st : List Value} {σ : am_I} {ρ : am_R} {g : am_J} {τ : am_T} {Q : am_Q} {x0 : Value} {v : Int32} : AW d 12 3 [x0, .int v] (st) σ ρ g τ Q = AW d 12 4 [x0, .int v] (.int v :: st) σ ρ g τ Q := aw_lc m12 d12_3 rfl rfl rfl
theorem d12_4 : decode cX1_movePrice 4 = .ok (.ifCond .le 23, 3) := by decide +kernel
theorem s12_4 {d : Nat} {st : List Value} {σ : am_I} {ρ : am_R} {g : am_J} {τ : am_T} {Q : am_Q} {x0 x1 : Value} {v : Int32} : AW d 12 4 [x0, x1] (.int v :: st) σ ρ g τ Q = if v ≤ 0 then AW d 12 27 [x0, x1] (st) σ ρ g τ Q else AW d 12 7 [x0, x1] (st) σ ρ g τ Q := aw_br m12 d12_4 rfl rfl rfl
theorem d12_7 : decode cX1_movePrice 7 = .ok (.aload_n 0, 1) := by decide +kernel
theorem s12_7 {d : Nat} {st : List Value} {σ : am_I} {ρ : am_R} {g : am_J} {τ : am_T} {Q : am_Q} {x1 : Value} {v : Nat} : AW d 12 7 [.ref v, x1] (st) σ ρ g τ Q = AW d 12 8 [.ref v, x1] (.ref v :: st) σ ρ g τ Q := aw_lc m12 d12_7 rfl rfl rfl
theorem d12_8 : decode cX1_movePrice 8 = .ok (.getfield 40, 3) := by decide +kernel
theorem s12_8 {d : Nat} {st : List Value} {σ : am_I} {ρ : am_R} {g : am_J} {τ : am_T} {Q : am_Q} {x0 x1 : Value} {a : Nat} (ht : τ.1 a = 1) : AW d 12 8 [x0, x1] (.ref a :: st) σ ρ g τ Q = AW d 12 11 [x0, x1] (va_rf (ρ a 9) :: st) σ ρ g τ Q := aw_gr m12 d12_8 rfl rfl rfl ht
theorem d12_11 : decode cX1_movePrice 11 = .ok (.iload_n 1, 1) := by decide +kernel
theorem s12_11 {d : Nat} {st : List Value} {σ : am_I} {ρ : am_R} {g : am_J} {τ : am_T} {Q : am_Q} {x0 : Value} {v : Int32} : AW d 12 11 [x0, .int v] (st) σ ρ g τ Q = AW d 12 12 [x0, .int v] (.int v :: st) σ ρ g τ Q := aw_lc m12 d12_11 rfl rfl rfl
theorem d12_12 : decode cX1_movePrice 12 = .ok (.aload_n 0, 1) := by decide +kernel
theorem s12_12 {d : Nat} {st : List Value} {σ : am_I} {ρ : am_R} {g : am_J} {τ : am_T} {Q : am_Q} {x1 : Value} {v : Nat} : AW d 12 12 [.ref v, x1] (st) σ ρ g τ Q = AW d 12 13 [.ref v, x1] (.ref v :: st) σ ρ g τ Q := aw_lc m12 d12_12 rfl rfl rfl
theorem d12_13 : decode cX1_movePrice 13 = .ok (.getfield 40, 3) := by decide +kernel
theorem s12_13 {d : Nat} {st : List Value} {σ : am_I} {ρ : am_R} {g : am_J} {τ : am_T} {Q : am_Q} {x0 x1 : Value} {a : Nat} (ht : τ.1 a = 1) : AW d 12 13 [x0, x1] (.ref a :: st) σ ρ g τ Q = AW d 12 16 [x0, x1] (va_rf (ρ a 9) :: st) σ ρ g τ Q := aw_gr m12 d12_13 rfl rfl rfl ht
theorem d12_16 : decode cX1_movePrice 16 = .ok (.iload_n 1, 1) := by decide +kernel
theorem s12_16 {d : Nat} {st : List Value} {σ : am_I} {ρ : am_R} {g : am_J} {τ : am_T} {Q : am_Q} {x0 : Value} {v : Int32} : AW d 12 16 [x0, .int v] (st) σ ρ g τ Q = AW d 12 17 [x0, .int v] (.int v :: st) σ ρ g τ Q := aw_lc m12 d12_16 rfl rfl rfl
theorem d12_17 : decode cX1_movePrice 17 = .ok (.iconst 1, 1) := by decide +kernel
theorem s12_17 {d : Nat} {st : List Value} {σ : am_I} {ρ : am_R} {g : am_J} {τ : am_T} {Q : am_Q} {x0 x1 : Value} : AW d 12 17 [x0, x1] (st) σ ρ g τ Q = AW d 12 18 [x0, x1] (.int 1 :: st) σ ρ g τ Q := aw_lc m12 d12_17 rfl rfl rfl
theorem d12_18 : decode cX1_movePrice 18 = .ok (.isub, 1) := by decide +kernel
theorem s12_18 {d : Nat} {st : List Value} {σ : am_I} {ρ : am_R} {g : am_J} {τ : am_T} {Q : am_Q} {x0 x1 : Value} {v w : Int32} : AW d 12 18 [x0, x1] (.int w :: .int v :: st) σ ρ g τ Q = AW d 12 19 [x0, x1] (.int (v - w) :: st) σ ρ g τ Q := aw_lc m12 d12_18 rfl rfl rfl
theorem d12_19 : decode cX1_movePrice 19 = .ok (.iaload, 1) := by decide +kernel
theorem s12_19 {d : Nat} {st : List Value} {σ : am_I} {ρ : am_R} {g : am_J} {τ : am_T} {Q : am_Q} {x0 x1 : Value} {a : Nat} {j : Int32} (ht : τ.1 a = 15) (hj : am_inb j (τ.2.1 a) = true) : AW d 12 19 [x0, x1] (.int j :: .ref a :: st) σ ρ g τ Q = AW d 12 20 [x0, x1] (.int (σ a j.toNatClampNeg) :: st) σ ρ g τ Q := aw_ial m12 d12_19 rfl ht hj
theorem d12_20 : decode cX1_movePrice 20 = .ok (.iastore, 1) := by decide +kernel
theorem s12_20 {d : Nat} {st : List Value} {σ : am_I} {ρ : am_R} {g : am_J} {τ : am_T} {Q : am_Q} {x0 x1 : Value} {a : Nat} {j v : Int32} (ht : τ.1 a = 15) (ha : a < am_BG) (hj : am_inb j (τ.2.1 a) = true) : AW d 12 20 [x0, x1] (.int v :: .int j :: .ref a :: st) σ ρ g τ Q = AW d 12 21 [x0, x1] (st) (am_u σ a j.toNatClampNeg v) ρ g τ Q := aw_ias m12 d12_20 rfl ht ha hj
theorem d12_21 : decode cX1_movePrice 21 = .ok (.iinc 1 (-1), 3) := by decide +kernel
theorem s12_21r {d : Nat} {st : List Value} {σ : am_I} {ρ : am_R} {g : am_J} {τ : am_T} {Q : am_Q} {v : Int32} {u : Nat} : AW d 12 21 [.ref u, .int v] (st) σ ρ g τ Q = AW d 12 24 [.ref u, .int (v + (-1))] (st) σ ρ g τ Q := aw_lc m12 d12_21 rfl rfl rfl
theorem d12_24 : decode cX1_movePrice 24 = .ok (.goto (-21), 3) := by decide +kernel
theorem s12_24 {d : Nat} {st : List Value} {σ : am_I} {ρ : am_R} {g : am_J} {τ : am_T} {Q : am_Q} {x0 x1 : Value} : AW d 12 24 [x0, x1] (st) σ ρ g τ Q = AW d 12 3 [x0, x1] (st) σ ρ g τ Q := aw_lc m12 d12_24 rfl rfl rfl
theorem d12_27 : decode cX1_movePrice 27 = .ok (.aload_n 0, 1) := by decide +kernel
theorem s12_27 {d : Nat} {st : List Value} {σ : am_I} {ρ : am_R} {g : am_J} {τ : am_T} {Q : am_Q} {x1 : Value} {v : Nat} : AW d 12 27 [.ref v, x1] (st) σ ρ g τ Q = AW d 12 28 [.ref v, x1] (.ref v :: st) σ ρ g τ Q := aw_lc m12 d12_27 rfl rfl rfl
theorem d12_28 : decode cX1_movePrice 28 = .ok (.getfield 36, 3) := by decide +kernel
theorem s12_28 {d : Nat} {st : List Value} {σ : am_I} {ρ : am_R} {g : am_J} {τ : am_T} {Q : am_Q} {x0 x1 : Value} {a : Nat} (ht : τ.1 a = 1) : AW d 12 28 [x0, x1] (.ref a :: st) σ ρ g τ Q = AW d 12 31 [x0, x1] (.int (σ a 8) :: st) σ ρ g τ Q := aw_gi m12 d12_28 rfl rfl rfl ht
theorem d12_31 : decode cX1_movePrice 31 = .ok (.ifCond .ne 44, 3) := by decide +kernel
theorem s12_31 {d : Nat} {st : List Value} {σ : am_I} {ρ : am_R} {g : am_J} {τ : am_T} {Q : am_Q} {x0 x1 : Value} {v : Int32} : AW d 12 31 [x0, x1] (.int v :: st) σ ρ g τ Q = if ¬ v = 0 then AW d 12 75 [x0, x1] (st) σ ρ g τ Q else AW d 12 34 [x0, x1] (st) σ ρ g τ Q := aw_br m12 d12_31 rfl rfl rfl
theorem d12_34 : decode cX1_movePrice 34 = .ok (.aload_n 0, 1) := by decide +kernel
theorem s12_34 {d : Nat} {st : List Value} {σ : am_I} {ρ : am_R} {g : am_J} {τ : am_T} {Q : am_Q} {x1 : Value} {v : Nat} : AW d 12 34 [.ref v, x1] (st) σ ρ g τ Q = AW d 12 35 [.ref v, x1] (.ref v :: st) σ ρ g τ Q := aw_lc m12 d12_34 rfl rfl rfl
theorem d12_35 : decode cX1_movePrice 35 = .ok (.getfield 40, 3) := by decide +kernel
theorem s12_35 {d : Nat} {st : List Value} {σ : am_I} {ρ : am_R} {g : am_J} {τ : am_T} {Q : am_Q} {x0 x1 : Value} {a : Nat} (ht : τ.1 a = 1) : AW d 12 35 [x0, x1] (.ref a :: st) σ ρ g τ Q = AW d 12 38 [x0, x1] (va_rf (ρ a 9) :: st) σ ρ g τ Q := aw_gr m12 d12_35 rfl rfl rfl ht
theorem d12_38 : decode cX1_movePrice 38 = .ok (.iconst 0, 1) := by decide +kernel
theorem s12_38 {d : Nat} {st : List Value} {σ : am_I} {ρ : am_R} {g : am_J} {τ : am_T} {Q : am_Q} {x0 x1 : Value} : AW d 12 38 [x0, x1] (st) σ ρ g τ Q = AW d 12 39 [x0, x1] (.int 0 :: st) σ ρ g τ Q := aw_lc m12 d12_38 rfl rfl rfl
theorem d12_39 : decode cX1_movePrice 39 = .ok (.aload_n 0, 1) := by decide +kernel
theorem s12_39 {d : Nat} {st : List Value} {σ : am_I} {ρ : am_R} {g : am_J} {τ : am_T} {Q : am_Q} {x1 : Value} {v : Nat} : AW d 12 39 [.ref v, x1] (st) σ ρ g τ Q = AW d 12 40 [.ref v, x1] (.ref v :: st) σ ρ g τ Q := aw_lc m12 d12_39 rfl rfl rfl
theorem d12_40 : decode cX1_movePrice 40 = .ok (.getfield 30, 3) := by decide +kernel
theorem s12_40 {d : Nat} {st : List Value} {σ : am_I} {ρ : am_R} {g : am_J} {τ : am_T} {Q : am_Q} {x0 x1 : Value} {a : Nat} (ht : τ.1 a = 1) : AW d 12 40 [x0, x1] (.ref a :: st) σ ρ g τ Q = AW d 12 43 [x0, x1] (.int (σ a 6) :: st) σ ρ g τ Q := aw_gi m12 d12_40 rfl rfl rfl ht
theorem d12_43 : decode cX1_movePrice 43 = .ok (.ifCond .ne 19, 3) := by decide +kernel
theorem s12_43 {d : Nat} {st : List Value} {σ : am_I} {ρ : am_R} {g : am_J} {τ : am_T} {Q : am_Q} {x0 x1 : Value} {v : Int32} : AW d 12 43 [x0, x1] (.int v :: st) σ ρ g τ Q = if ¬ v = 0 then AW d 12 62 [x0, x1] (st) σ ρ g τ Q else AW d 12 46 [x0, x1] (st) σ ρ g τ Q := aw_br m12 d12_43 rfl rfl rfl
theorem d12_46 : decode cX1_movePrice 46 = .ok (.bipush 100, 2) := by decide +kernel
theorem s12_46 {d : Nat} {st : List Value} {σ : am_I} {ρ : am_R} {g : am_J} {τ : am_T} {Q : am_Q} {x0 x1 : Value} : AW d 12 46 [x0, x1] (st) σ ρ g τ Q = AW d 12 48 [x0, x1] (.int 100 :: st) σ ρ g τ Q := aw_lc m12 d12_46 rfl rfl rfl
theorem d12_48 : decode cX1_movePrice 48 = .ok (.aload_n 0, 1) := by decide +kernel
theorem s12_48 {d : Nat} {st : List Value} {σ : am_I} {ρ : am_R} {g : am_J} {τ : am_T} {Q : am_Q} {x1 : Value} {v : Nat} : AW d 12 48 [.ref v, x1] (st) σ ρ g τ Q = AW d 12 49 [.ref v, x1] (.ref v :: st) σ ρ g τ Q := aw_lc m12 d12_48 rfl rfl rfl
theorem d12_49 : decode cX1_movePrice 49 = .ok (.getfield 40, 3) := by decide +kernel
theorem s12_49 {d : Nat} {st : List Value} {σ : am_I} {ρ : am_R} {g : am_J} {τ : am_T} {Q : am_Q} {x0 x1 : Value} {a : Nat} (ht : τ.1 a = 1) : AW d 12 49 [x0, x1] (.ref a :: st) σ ρ g τ Q = AW d 12 52 [x0, x1] (va_rf (ρ a 9) :: st) σ ρ g τ Q := aw_gr m12 d12_49 rfl rfl rfl ht
theorem d12_52 : decode cX1_movePrice 52 = .ok (.iconst 0, 1) := by decide +kernel
theorem s12_52 {d : Nat} {st : List Value} {σ : am_I} {ρ : am_R} {g : am_J} {τ : am_T} {Q : am_Q} {x0 x1 : Value} : AW d 12 52 [x0, x1] (st) σ ρ g τ Q = AW d 12 53 [x0, x1] (.int 0 :: st) σ ρ g τ Q := aw_lc m12 d12_52 rfl rfl rfl
theorem d12_53 : decode cX1_movePrice 53 = .ok (.iaload, 1) := by decide +kernel
theorem s12_53 {d : Nat} {st : List Value} {σ : am_I} {ρ : am_R} {g : am_J} {τ : am_T} {Q : am_Q} {x0 x1 : Value} {a : Nat} {j : Int32} (ht : τ.1 a = 15) (hj : am_inb j (τ.2.1 a) = true) : AW d 12 53 [x0, x1] (.int j :: .ref a :: st) σ ρ g τ Q = AW d 12 54 [x0, x1] (.int (σ a j.toNatClampNeg) :: st) σ ρ g τ Q := aw_ial m12 d12_53 rfl ht hj
theorem d12_54 : decode cX1_movePrice 54 = .ok (.iconst 2, 1) := by decide +kernel
theorem s12_54 {d : Nat} {st : List Value} {σ : am_I} {ρ : am_R} {g : am_J} {τ : am_T} {Q : am_Q} {x0 x1 : Value} : AW d 12 54 [x0, x1] (st) σ ρ g τ Q = AW d 12 55 [x0, x1] (.int 2 :: st) σ ρ g τ Q := aw_lc m12 d12_54 rfl rfl rfl
theorem d12_55 : decode cX1_movePrice 55 = .ok (.iadd, 1) := by decide +kernel
theorem s12_55 {d : Nat} {st : List Value} {σ : am_I} {ρ : am_R} {g : am_J} {τ : am_T} {Q : am_Q} {x0 x1 : Value} {v w : Int32} : AW d 12 55 [x0, x1] (.int w :: .int v :: st) σ ρ g τ Q = AW d 12 56 [x0, x1] (.int (v + w) :: st) σ ρ g τ Q := aw_lc m12 d12_55 rfl rfl rfl
theorem d12_56 : decode cX1_movePrice 56 = .ok (.invokestatic 60, 3) := by decide +kernel
theorem s12_56 {d : Nat} {st : List Value} {σ : am_I} {ρ : am_R} {g : am_J} {τ : am_T} {Q : am_Q} {x0 x1 : Value} {v w : Int32} (hs : st.length ≤ 4) : AW d 12 56 [x0, x1] (.int w :: .int v :: st) σ ρ g τ Q = AW d 12 59 [x0, x1] (.int (if w < v then w else v) :: st) σ ρ g τ Q := aw_min m12 d12_56 rfl rfl hs
theorem d12_59 : decode cX1_movePrice 59 = .ok (.goto 15, 3) := by decide +kernel
theorem s12_59 {d : Nat} {st : List Value} {σ : am_I} {ρ : am_R} {g : am_J} {τ : am_T} {Q : am_Q} {x0 x1 : Value} : AW d 12 59 [x0, x1] (st) σ ρ g τ Q = AW d 12 74 [x0, x1] (st) σ ρ g τ Q := aw_lc m12 d12_59 rfl rfl rfl
theorem d12_62 : decode cX1_movePrice 62 = .ok (.iconst 0, 1) := by decide +kernel
theorem s12_62 {d : Nat} {st : List Value} {σ : am_I} {ρ : am_R} {g : am_J} {τ : am_T} {Q : am_Q} {x0 x1 : Value} : AW d 12 62 [x0, x1] (st) σ ρ g τ Q = AW d 12 63 [x0, x1] (.int 0 :: st) σ ρ g τ Q := aw_lc m12 d12_62 rfl rfl rfl
theorem d12_63 : decode cX1_movePrice 63 = .ok (.aload_n 0, 1) := by decide +kernel
theorem s12_63 {d : Nat} {st : List Value} {σ : am_I} {ρ : am_R} {g : am_J} {τ : am_T} {Q : am_Q} {x1 : Value} {v : Nat} : AW d 12 63 [.ref v, x1] (st) σ ρ g τ Q = AW d 12 64 [.ref v, x1] (.ref v :: st) σ ρ g τ Q := aw_lc m12 d12_63 rfl rfl rfl
theorem d12_64 : decode cX1_movePrice 64 = .ok (.getfield 40, 3) := by decide +kernel
theorem s12_64 {d : Nat} {st : List Value} {σ : am_I} {ρ : am_R} {g : am_J} {τ : am_T} {Q : am_Q} {x0 x1 : Value} {a : Nat} (ht : τ.1 a = 1) : AW d 12 64 [x0, x1] (.ref a :: st) σ ρ g τ Q = AW d 12 67 [x0, x1] (va_rf (ρ a 9) :: st) σ ρ g τ Q := aw_gr m12 d12_64 rfl rfl rfl ht
theorem d12_67 : decode cX1_movePrice 67 = .ok (.iconst 0, 1) := by decide +kernel
theorem s12_67 {d : Nat} {st : List Value} {σ : am_I} {ρ : am_R} {g : am_J} {τ : am_T} {Q : am_Q} {x0 x1 : Value} : AW d 12 67 [x0, x1] (st) σ ρ g τ Q = AW d 12 68 [x0, x1] (.int 0 :: st) σ ρ g τ Q := aw_lc m12 d12_67 rfl rfl rfl
theorem d12_68 : decode cX1_movePrice 68 = .ok (.iaload, 1) := by decide +kernel
theorem s12_68 {d : Nat} {st : List Value} {σ : am_I} {ρ : am_R} {g : am_J} {τ : am_T} {Q : am_Q} {x0 x1 : Value} {a : Nat} {j : Int32} (ht : τ.1 a = 15) (hj : am_inb j (τ.2.1 a) = true) : AW d 12 68 [x0, x1] (.int j :: .ref a :: st) σ ρ g τ Q = AW d 12 69 [x0, x1] (.int (σ a j.toNatClampNeg) :: st) σ ρ g τ Q := aw_ial m12 d12_68 rfl ht hj
theorem d12_69 : decode cX1_movePrice 69 = .ok (.iconst 5, 1) := by decide +kernel
theorem s12_69 {d : Nat} {st : List Value} {σ : am_I} {ρ : am_R} {g : am_J} {τ : am_T} {Q : am_Q} {x0 x1 : Value} : AW d 12 69 [x0, x1] (st) σ ρ g τ Q = AW d 12 70 [x0, x1] (.int 5 :: st) σ ρ g τ Q := aw_lc m12 d12_69 rfl rfl rfl
theorem d12_70 : decode cX1_movePrice 70 = .ok (.isub, 1) := by decide +kernel
theorem s12_70 {d : Nat} {st : List Value} {σ : am_I} {ρ : am_R} {g : am_J} {τ : am_T} {Q : am_Q} {x0 x1 : Value} {v w : Int32} : AW d 12 70 [x0, x1] (.int w :: .int v :: st) σ ρ g τ Q = AW d 12 71 [x0, x1] (.int (v - w) :: st) σ ρ g τ Q := aw_lc m12 d12_70 rfl rfl rfl
theorem d12_71 : decode cX1_movePrice 71 = .ok (.invokestatic 66, 3) := by decide +kernel
theorem s12_71 {d : Nat} {st : List Value} {σ : am_I} {ρ : am_R} {g : am_J} {τ : am_T} {Q : am_Q} {x0 x1 : Value} {v w : Int32} (hs : st.length ≤ 4) : AW d 12 71 [x0, x1] (.int w :: .int v :: st) σ ρ g τ Q = AW d 12 74 [x0, x1] (.int (if v < w then w else v) :: st) σ ρ g τ Q := aw_max m12 d12_71 rfl rfl hs
theorem d12_74 : decode cX1_movePrice 74 = .ok (.iastore, 1) := by decide +kernel
theorem s12_74 {d : Nat} {st : List Value} {σ : am_I} {ρ : am_R} {g : am_J} {τ : am_T} {Q : am_Q} {x0 x1 : Value} {a : Nat} {j v : Int32} (ht : τ.1 a = 15) (ha : a < am_BG) (hj : am_inb j (τ.2.1 a) = true) : AW d 12 74 [x0, x1] (.int v :: .int j :: .ref a :: st) σ ρ g τ Q = AW d 12 75 [x0, x1] (st) (am_u σ a j.toNatClampNeg v) ρ g τ Q := aw_ias m12 d12_74 rfl ht ha hj
theorem d12_75 : decode cX1_movePrice 75 = .ok (.return_, 1) := by decide +kernel
theorem s12_75 {d : Nat} {σ : am_I} {ρ : am_R} {g : am_J} {τ : am_T} {Q : am_Q} {x0 x1 : Value} : AW d 12 75 [x0, x1] ([]) σ ρ g τ Q = Q none σ ρ g τ := aw_rv m12 d12_75 rfl
theorem d13_0 : decode cX1_kindNow 0 = .ok (.aload_n 0, 1) := by decide +kernel
theorem s13_0 {d : Nat} {st : List Value} {σ : am_I} {ρ : am_R} {g : am_J} {τ : am_T} {Q : am_Q} {v : Nat} : AW d 13 0 [.ref v] (st) σ ρ g τ Q = AW d 13 1 [.ref v] (.ref v :: st) σ ρ g τ Q := aw_lc m13 d13_0 rfl rfl rfl
theorem d13_1 : decode cX1_kindNow 1 = .ok (.getfield 15, 3) := by decide +kernel
theorem s13_1 {d : Nat} {st : List Value} {σ : am_I} {ρ : am_R} {g : am_J} {τ : am_T} {Q : am_Q} {x0 : Value} {a : Nat} (ht : τ.1 a = 1) : AW d 13 1 [x0] (.ref a :: st) σ ρ g τ Q = AW d 13 4 [x0] (.int (σ a 1) :: st) σ ρ g τ Q := aw_gi m13 d13_1 rfl rfl rfl ht
theorem d13_4 : decode cX1_kindNow 4 = .ok (.lookupswitch 43 #[(0, 28), (2, 41)], 28) := by decide +kernel
theorem s13_4_0 {d : Nat} {st : List Value} {σ : am_I} {ρ : am_R} {g : am_J} {τ : am_T} {Q : am_Q} {x0 : Value} : AW d 13 4 [x0] (.int 0 :: st) σ ρ g τ Q = AW d 13 32 [x0] (st) σ ρ g τ Q := aw_lc m13 d13_4 rfl rfl rfl
theorem s13_4_2 {d : Nat} {st : List Value} {σ : am_I} {ρ : am_R} {g : am_J} {τ : am_T} {Q : am_Q} {x0 : Value} : AW d 13 4 [x0] (.int 2 :: st) σ ρ g τ Q = AW d 13 45 [x0] (st) σ ρ g τ Q := aw_lc m13 d13_4 rfl rfl rfl
theorem s13_4_d {d : Nat} {st : List Value} {σ : am_I} {ρ : am_R} {g : am_J} {τ : am_T} {Q : am_Q} {x0 : Value} {v : Int32} (h : Op.lookupswitch.offset [(0, 28), (2, 41)] 43 v.toInt = 43) : AW d 13 4 [x0] (.int v :: st) σ ρ g τ Q = AW d 13 47 [x0] (st) σ ρ g τ Q := aw_lc m13 d13_4 rfl rfl (by simp only [am_lc]; rw [if_pos (by decide), h]; rfl)
theorem d13_32 : decode cX1_kindNow 32 = .ok (.aload_n 0, 1) := by decide +kernel
theorem s13_32 {d : Nat} {st : List Value} {σ : am_I} {ρ : am_R} {g : am_J} {τ : am_T} {Q : am_Q} {v : Nat} : AW d 13 32 [.ref v] (st) σ ρ g τ Q = AW d 13 33 [.ref v] (.ref v :: st) σ ρ g τ Q := aw_lc m13 d13_32 rfl rfl rfl
theorem d13_33 : decode cX1_kindNow 33 = .ok (.getfield 36, 3) := by decide +kernel
theorem s13_33 {d : Nat} {st : List Value} {σ : am_I} {ρ : am_R} {g : am_J} {τ : am_T} {Q : am_Q} {x0 : Value} {a : Nat} (ht : τ.1 a = 1) : AW d 13 33 [x0] (.ref a :: st) σ ρ g τ Q = AW d 13 36 [x0] (.int (σ a 8) :: st) σ ρ g τ Q := aw_gi m13 d13_33 rfl rfl rfl ht
theorem d13_36 : decode cX1_kindNow 36 = .ok (.ifCond .eq 7, 3) := by decide +kernel
theorem s13_36 {d : Nat} {st : List Value} {σ : am_I} {ρ : am_R} {g : am_J} {τ : am_T} {Q : am_Q} {x0 : Value} {v : Int32} : AW d 13 36 [x0] (.int v :: st) σ ρ g τ Q = if v = 0 then AW d 13 43 [x0] (st) σ ρ g τ Q else AW d 13 39 [x0] (st) σ ρ g τ Q := aw_br m13 d13_36 rfl rfl rfl
theorem d13_39 : decode cX1_kindNow 39 = .ok (.iconst 3, 1) := by decide +kernel
theorem s13_39 {d : Nat} {st : List Value} {σ : am_I} {ρ : am_R} {g : am_J} {τ : am_T} {Q : am_Q} {x0 : Value} : AW d 13 39 [x0] (st) σ ρ g τ Q = AW d 13 40 [x0] (.int 3 :: st) σ ρ g τ Q := aw_lc m13 d13_39 rfl rfl rfl
theorem d13_40 : decode cX1_kindNow 40 = .ok (.goto 4, 3) := by decide +kernel
theorem s13_40 {d : Nat} {st : List Value} {σ : am_I} {ρ : am_R} {g : am_J} {τ : am_T} {Q : am_Q} {x0 : Value} : AW d 13 40 [x0] (st) σ ρ g τ Q = AW d 13 44 [x0] (st) σ ρ g τ Q := aw_lc m13 d13_40 rfl rfl rfl
theorem d13_43 : decode cX1_kindNow 43 = .ok (.iconst 2, 1) := by decide +kernel
theorem s13_43 {d : Nat} {st : List Value} {σ : am_I} {ρ : am_R} {g : am_J} {τ : am_T} {Q : am_Q} {x0 : Value} : AW d 13 43 [x0] (st) σ ρ g τ Q = AW d 13 44 [x0] (.int 2 :: st) σ ρ g τ Q := aw_lc m13 d13_43 rfl rfl rfl
theorem d13_44 : decode cX1_kindNow 44 = .ok (.ireturn, 1) := by decide +kernel
theorem s13_44 {d : Nat} {σ : am_I} {ρ : am_R} {g : am_J} {τ : am_T} {Q : am_Q} {x0 : Value} {v : Int32} : AW d 13 44 [x0] ([.int v]) σ ρ g τ Q = Q (some (.int v)) σ ρ g τ := aw_ri m13 d13_44 rfl
theorem d13_45 : decode cX1_kindNow 45 = .ok (.iconst 5, 1) := by decide +kernel
theorem s13_45 {d : Nat} {st : List Value} {σ : am_I} {ρ : am_R} {g : am_J} {τ : am_T} {Q : am_Q} {x0 : Value} : AW d 13 45 [x0] (st) σ ρ g τ Q = AW d 13 46 [x0] (.int 5 :: st) σ ρ g τ Q := aw_lc m13 d13_45 rfl rfl rfl
theorem d13_46 : decode cX1_kindNow 46 = .ok (.ireturn, 1) := by decide +kernel
theorem s13_46 {d : Nat} {σ : am_I} {ρ : am_R} {g : am_J} {τ : am_T} {Q : am_Q} {x0 : Value} {v : Int32} : AW d 13 46 [x0] ([.int v]) σ ρ g τ Q = Q (some (.int v)) σ ρ g τ := aw_ri m13 d13_46 rfl
theorem d13_47 : decode cX1_kindNow 47 = .ok (.iconst 4, 1) := by decide +kernel
theorem s13_47 {d : Nat} {st : List Value} {σ : am_I} {ρ : am_R} {g : am_J} {τ : am_T} {Q : am_Q} {x0 : Value} : AW d 13 47 [x0] (st) σ ρ g τ Q = AW d 13 48 [x0] (.int 4 :: st) σ ρ g τ Q := aw_lc m13 d13_47 rfl rfl rfl
theorem d13_48 : decode cX1_kindNow 48 = .ok (.ireturn, 1) := by decide +kernel
theorem s13_48 {d : Nat} {σ : am_I} {ρ : am_R} {g : am_J} {τ : am_T} {Q : am_Q} {x0 : Value} {v : Int32} : AW d 13 48 [x0] ([.int v]) σ ρ g τ Q = Q (some (.int v)) σ ρ g τ := aw_ri m13 d13_48 rfl
theorem d14_0 : decode cX2_init 0 = .ok (.aload_n 0, 1) := by decide +kernel
theorem s14_0 {d : Nat} {st : List Value} {σ : am_I} {ρ : am_R} {g : am_J} {τ : am_T} {Q : am_Q} {v : Nat} : AW d 14 0 [.ref v] (st) σ ρ g τ Q = AW d 14 1 [.ref v] (.ref v :: st) σ ρ g τ Q := aw_lc m14 d14_0 rfl rfl rfl
theorem s14_0n {d : Nat} {st : List Value} {σ : am_I} {ρ : am_R} {g : am_J} {τ : am_T} {Q : am_Q} : AW d 14 0 [.null] (st) σ ρ g τ Q = AW d 14 1 [.null] (.null :: st) σ ρ g τ Q := aw_lc m14 d14_0 rfl rfl rfl
theorem d14_1 : decode cX2_init 1 = .ok (.invokespecial 3, 3) := by decide +kernel
theorem s14_1 {d : Nat} {st : List Value} {σ : am_I} {ρ : am_R} {g : am_J} {τ : am_T} {Q : am_Q} {x0 : Value} {a : Nat} (hs : st.length ≤ 4) : AW d 14 1 [x0] (.ref a :: st) σ ρ g τ Q = AW d 14 4 [x0] (st) σ ρ g τ Q := aw_oin m14 d14_1 rfl rfl hs
theorem d14_4 : decode cX2_init 4 = .ok (.aload_n 0, 1) := by decide +kernel
theorem s14_4 {d : Nat} {st : List Value} {σ : am_I} {ρ : am_R} {g : am_J} {τ : am_T} {Q : am_Q} {v : Nat} : AW d 14 4 [.ref v] (st) σ ρ g τ Q = AW d 14 5 [.ref v] (.ref v :: st) σ ρ g τ Q := aw_lc m14 d14_4 rfl rfl rfl
theorem s14_4n {d : Nat} {st : List Value} {σ : am_I} {ρ : am_R} {g : am_J} {τ : am_T} {Q : am_Q} : AW d 14 4 [.null] (st) σ ρ g τ Q = AW d 14 5 [.null] (.null :: st) σ ρ g τ Q := aw_lc m14 d14_4 rfl rfl rfl
theorem d14_5 : decode cX2_init 5 = .ok (.iconst 4, 1) := by decide +kernel
theorem s14_5 {d : Nat} {st : List Value} {σ : am_I} {ρ : am_R} {g : am_J} {τ : am_T} {Q : am_Q} {x0 : Value} : AW d 14 5 [x0] (st) σ ρ g τ Q = AW d 14 6 [x0] (.int 4 :: st) σ ρ g τ Q := aw_lc m14 d14_5 rfl rfl rfl
theorem d14_6 : decode cX2_init 6 = .ok (.newarray .int, 2) := by decide +kernel
theorem s14_6 {d : Nat} {st : List Value} {σ : am_I} {ρ : am_R} {g : am_J} {τ : am_T} {Q : am_Q} {x0 : Value} {j : Int32} (hj : ¬ j < 0 ∧ j.toNatClampNeg ≤ 10000) : AW d 14 6 [x0] (.int j :: st) σ ρ g τ Q = AW d 14 8 [x0] (.ref τ.2.2.1 :: st) (am_new 15 j.toNatClampNeg σ ρ g τ).1 (am_new 15 j.toNatClampNeg σ ρ g τ).2.1 (am_new 15 j.toNatClampNeg σ ρ g τ).2.2.1 (am_new 15 j.toNatClampNeg σ ρ g τ).2.2.2 Q := aw_nwa m14 d14_6 rfl rfl (by decide) hj
theorem d14_8 : decode cX2_init 8 = .ok (.putfield 9, 3) := by decide +kernel
theorem s14_8 {d : Nat} {st : List Value} {σ : am_I} {ρ : am_R} {g : am_J} {τ : am_T} {Q : am_Q} {x0 : Value} {a b : Nat} (ht : τ.1 a = 2) : AW d 14 8 [x0] (.ref b :: .ref a :: st) σ ρ g τ Q = AW d 14 11 [x0] (st) σ (am_u ρ a 0 (some b)) g τ Q := aw_pr m14 d14_8 rfl rfl (Or.inr ⟨rfl, rfl⟩) rfl ht
theorem s14_8n {d : Nat} {st : List Value} {σ : am_I} {ρ : am_R} {g : am_J} {τ : am_T} {Q : am_Q} {x0 : Value} {a : Nat} (ht : τ.1 a = 2) : AW d 14 8 [x0] (.null :: .ref a :: st) σ ρ g τ Q = AW d 14 11 [x0] (st) σ (am_u ρ a 0 none) g τ Q := aw_pn m14 d14_8 rfl rfl (Or.inr ⟨rfl, rfl⟩) rfl ht
theorem d14_11 : decode cX2_init 11 = .ok (.aload_n 0, 1) := by decide +kernel
theorem s14_11 {d : Nat} {st : List Value} {σ : am_I} {ρ : am_R} {g : am_J} {τ : am_T} {Q : am_Q} {v : Nat} : AW d 14 11 [.ref v] (st) σ ρ g τ Q = AW d 14 12 [.ref v] (.ref v :: st) σ ρ g τ Q := aw_lc m14 d14_11 rfl rfl rfl
theorem s14_11n {d : Nat} {st : List Value} {σ : am_I} {ρ : am_R} {g : am_J} {τ : am_T} {Q : am_Q} : AW d 14 11 [.null] (st) σ ρ g τ Q = AW d 14 12 [.null] (.null :: st) σ ρ g τ Q := aw_lc m14 d14_11 rfl rfl rfl
theorem d14_12 : decode cX2_init 12 = .ok (.iconst 4, 1) := by decide +kernel
theorem s14_12 {d : Nat} {st : List Value} {σ : am_I} {ρ : am_R} {g : am_J} {τ : am_T} {Q : am_Q} {x0 : Value} : AW d 14 12 [x0] (st) σ ρ g τ Q = AW d 14 13 [x0] (.int 4 :: st) σ ρ g τ Q := aw_lc m14 d14_12 rfl rfl rfl
theorem d14_13 : decode cX2_init 13 = .ok (.newarray .int, 2) := by decide +kernel
theorem s14_13 {d : Nat} {st : List Value} {σ : am_I} {ρ : am_R} {g : am_J} {τ : am_T} {Q : am_Q} {x0 : Value} {j : Int32} (hj : ¬ j < 0 ∧ j.toNatClampNeg ≤ 10000) : AW d 14 13 [x0] (.int j :: st) σ ρ g τ Q = AW d 14 15 [x0] (.ref τ.2.2.1 :: st) (am_new 15 j.toNatClampNeg σ ρ g τ).1 (am_new 15 j.toNatClampNeg σ ρ g τ).2.1 (am_new 15 j.toNatClampNeg σ ρ g τ).2.2.1 (am_new 15 j.toNatClampNeg σ ρ g τ).2.2.2 Q := aw_nwa m14 d14_13 rfl rfl (by decide) hj
theorem d14_15 : decode cX2_init 15 = .ok (.putfield 15, 3) := by decide +kernel
theorem s14_15 {d : Nat} {st : List Value} {σ : am_I} {ρ : am_R} {g : am_J} {τ : am_T} {Q : am_Q} {x0 : Value} {a b : Nat} (ht : τ.1 a = 2) : AW d 14 15 [x0] (.ref b :: .ref a :: st) σ ρ g τ Q = AW d 14 18 [x0] (st) σ (am_u ρ a 1 (some b)) g τ Q := aw_pr m14 d14_15 rfl rfl (Or.inr ⟨rfl, rfl⟩) rfl ht
theorem s14_15n {d : Nat} {st : List Value} {σ : am_I} {ρ : am_R} {g : am_J} {τ : am_T} {Q : am_Q} {x0 : Value} {a : Nat} (ht : τ.1 a = 2) : AW d 14 15 [x0] (.null :: .ref a :: st) σ ρ g τ Q = AW d 14 18 [x0] (st) σ (am_u ρ a 1 none) g τ Q := aw_pn m14 d14_15 rfl rfl (Or.inr ⟨rfl, rfl⟩) rfl ht
theorem d14_18 : decode cX2_init 18 = .ok (.aload_n 0, 1) := by decide +kernel
theorem s14_18 {d : Nat} {st : List Value} {σ : am_I} {ρ : am_R} {g : am_J} {τ : am_T} {Q : am_Q} {v : Nat} : AW d 14 18 [.ref v] (st) σ ρ g τ Q = AW d 14 19 [.ref v] (.ref v :: st) σ ρ g τ Q := aw_lc m14 d14_18 rfl rfl rfl
theorem s14_18n {d : Nat} {st : List Value} {σ : am_I} {ρ : am_R} {g : am_J} {τ : am_T} {Q : am_Q} : AW d 14 18 [.null] (st) σ ρ g τ Q = AW d 14 19 [.null] (.null :: st) σ ρ g τ Q := aw_lc m14 d14_18 rfl rfl rfl
theorem d14_19 : decode cX2_init 19 = .ok (.iconst 4, 1) := by decide +kernel
theorem s14_19 {d : Nat} {st : List Value} {σ : am_I} {ρ : am_R} {g : am_J} {τ : am_T} {Q : am_Q} {x0 : Value} : AW d 14 19 [x0] (st) σ ρ g τ Q = AW d 14 20 [x0] (.int 4 :: st) σ ρ g τ Q := aw_lc m14 d14_19 rfl rfl rfl
theorem d14_20 : decode cX2_init 20 = .ok (.bipush 40, 2) := by decide +kernel
theorem s14_20 {d : Nat} {st : List Value} {σ : am_I} {ρ : am_R} {g : am_J} {τ : am_T} {Q : am_Q} {x0 : Value} : AW d 14 20 [x0] (st) σ ρ g τ Q = AW d 14 22 [x0] (.int 40 :: st) σ ρ g τ Q := aw_lc m14 d14_20 rfl rfl rfl
theorem d14_22 : decode cX2_init 22 = .ok (.multianewarray 18 2, 4) := by decide +kernel
theorem s14_22 {d : Nat} {st : List Value} {σ : am_I} {ρ : am_R} {g : am_J} {τ : am_T} {Q : am_Q} {x0 : Value} {v w : Int32} (hj : ¬ w < 0 ∧ ¬ v < 0 ∧ w.toNatClampNeg ≤ 1000 ∧ v.toNatClampNeg ≤ 1000) : AW d 14 22 [x0] (.int v :: .int w :: st) σ ρ g τ Q = AW d 14 26 [x0] (.ref τ.2.2.1 :: st) (am_mna w.toNatClampNeg v.toNatClampNeg σ ρ g τ).1 (am_mna w.toNatClampNeg v.toNatClampNeg σ ρ g τ).2.1 (am_mna w.toNatClampNeg v.toNatClampNeg σ ρ g τ).2.2.1 (am_mna w.toNatClampNeg v.toNatClampNeg σ ρ g τ).2.2.2 Q := aw_mna m14 d14_22 rfl rfl hj
theorem d14_26 : decode cX2_init 26 = .ok (.putfield 20, 3) := by decide +kernel
theorem s14_26 {d : Nat} {st : List Value} {σ : am_I} {ρ : am_R} {g : am_J} {τ : am_T} {Q : am_Q} {x0 : Value} {a b : Nat} (ht : τ.1 a = 2) : AW d 14 26 [x0] (.ref b :: .ref a :: st) σ ρ g τ Q = AW d 14 29 [x0] (st) σ (am_u ρ a 2 (some b)) g τ Q := aw_pr m14 d14_26 rfl rfl (Or.inr ⟨rfl, rfl⟩) rfl ht
theorem s14_26n {d : Nat} {st : List Value} {σ : am_I} {ρ : am_R} {g : am_J} {τ : am_T} {Q : am_Q} {x0 : Value} {a : Nat} (ht : τ.1 a = 2) : AW d 14 26 [x0] (.null :: .ref a :: st) σ ρ g τ Q = AW d 14 29 [x0] (st) σ (am_u ρ a 2 none) g τ Q := aw_pn m14 d14_26 rfl rfl (Or.inr ⟨rfl, rfl⟩) rfl ht
theorem d14_29 : decode cX2_init 29 = .ok (.aload_n 0, 1) := by decide +kernel
theorem s14_29 {d : Nat} {st : List Value} {σ : am_I} {ρ : am_R} {g : am_J} {τ : am_T} {Q : am_Q} {v : Nat} : AW d 14 29 [.ref v] (st) σ ρ g τ Q = AW d 14 30 [.ref v] (.ref v :: st) σ ρ g τ Q := aw_lc m14 d14_29 rfl rfl rfl
theorem s14_29n {d : Nat} {st : List Value} {σ : am_I} {ρ : am_R} {g : am_J} {τ : am_T} {Q : am_Q} : AW d 14 29 [.null] (st) σ ρ g τ Q = AW d 14 30 [.null] (.null :: st) σ ρ g τ Q := aw_lc m14 d14_29 rfl rfl rfl
theorem d14_30 : decode cX2_init 30 = .ok (.iconst 4, 1) := by decide +kernel
theorem s14_30 {d : Nat} {st : List Value} {σ : am_I} {ρ : am_R} {g : am_J} {τ : am_T} {Q : am_Q} {x0 : Value} : AW d 14 30 [x0] (st) σ ρ g τ Q = AW d 14 31 [x0] (.int 4 :: st) σ ρ g τ Q := aw_lc m14 d14_30 rfl rfl rfl
theorem d14_31 : decode cX2_init 31 = .ok (.newarray .int, 2) := by decide +kernel
theorem s14_31 {d : Nat} {st : List Value} {σ : am_I} {ρ : am_R} {g : am_J} {τ : am_T} {Q : am_Q} {x0 : Value} {j : Int32} (hj : ¬ j < 0 ∧ j.toNatClampNeg ≤ 10000) : AW d 14 31 [x0] (.int j :: st) σ ρ g τ Q = AW d 14 33 [x0] (.ref τ.2.2.1 :: st) (am_new 15 j.toNatClampNeg σ ρ g τ).1 (am_new 15 j.toNatClampNeg σ ρ g τ).2.1 (am_new 15 j.toNatClampNeg σ ρ g τ).2.2.1 (am_new 15 j.toNatClampNeg σ ρ g τ).2.2.2 Q := aw_nwa m14 d14_31 rfl rfl (by decide) hj
theorem d14_33 : decode cX2_init 33 = .ok (.putfield 23, 3) := by decide +kernel
theorem s14_33 {d : Nat} {st : List Value} {σ : am_I} {ρ : am_R} {g : am_J} {τ : am_T} {Q : am_Q} {x0 : Value} {a b : Nat} (ht : τ.1 a = 2) : AW d 14 33 [x0] (.ref b :: .ref a :: st) σ ρ g τ Q = AW d 14 36 [x0] (st) σ (am_u ρ a 3 (some b)) g τ Q := aw_pr m14 d14_33 rfl rfl (Or.inr ⟨rfl, rfl⟩) rfl ht
theorem s14_33n {d : Nat} {st : List Value} {σ : am_I} {ρ : am_R} {g : am_J} {τ : am_T} {Q : am_Q} {x0 : Value} {a : Nat} (ht : τ.1 a = 2) : AW d 14 33 [x0] (.null :: .ref a :: st) σ ρ g τ Q = AW d 14 36 [x0] (st) σ (am_u ρ a 3 none) g τ Q := aw_pn m14 d14_33 rfl rfl (Or.inr ⟨rfl, rfl⟩) rfl ht
theorem d14_36 : decode cX2_init 36 = .ok (.aload_n 0, 1) := by decide +kernel
theorem s14_36 {d : Nat} {st : List Value} {σ : am_I} {ρ : am_R} {g : am_J} {τ : am_T} {Q : am_Q} {v : Nat} : AW d 14 36 [.ref v] (st) σ ρ g τ Q = AW d 14 37 [.ref v] (.ref v :: st) σ ρ g τ Q := aw_lc m14 d14_36 rfl rfl rfl
theorem s14_36n {d : Nat} {st : List Value} {σ : am_I} {ρ : am_R} {g : am_J} {τ : am_T} {Q : am_Q} : AW d 14 36 [.null] (st) σ ρ g τ Q = AW d 14 37 [.null] (.null :: st) σ ρ g τ Q := aw_lc m14 d14_36 rfl rfl rfl
theorem d14_37 : decode cX2_init 37 = .ok (.iconst 4, 1) := by decide +kernel
theorem s14_37 {d : Nat} {st : List Value} {σ : am_I} {ρ : am_R} {g : am_J} {τ : am_T} {Q : am_Q} {x0 : Value} : AW d 14 37 [x0] (st) σ ρ g τ Q = AW d 14 38 [x0] (.int 4 :: st) σ ρ g τ Q := aw_lc m14 d14_37 rfl rfl rfl
theorem d14_38 : decode cX2_init 38 = .ok (.newarray .int, 2) := by decide +kernel
theorem s14_38 {d : Nat} {st : List Value} {σ : am_I} {ρ : am_R} {g : am_J} {τ : am_T} {Q : am_Q} {x0 : Value} {j : Int32} (hj : ¬ j < 0 ∧ j.toNatClampNeg ≤ 10000) : AW d 14 38 [x0] (.int j :: st) σ ρ g τ Q = AW d 14 40 [x0] (.ref τ.2.2.1 :: st) (am_new 15 j.toNatClampNeg σ ρ g τ).1 (am_new 15 j.toNatClampNeg σ ρ g τ).2.1 (am_new 15 j.toNatClampNeg σ ρ g τ).2.2.1 (am_new 15 j.toNatClampNeg σ ρ g τ).2.2.2 Q := aw_nwa m14 d14_38 rfl rfl (by decide) hj
theorem d14_40 : decode cX2_init 40 = .ok (.putfield 26, 3) := by decide +kernel
theorem s14_40 {d : Nat} {st : List Value} {σ : am_I} {ρ : am_R} {g : am_J} {τ : am_T} {Q : am_Q} {x0 : Value} {a b : Nat} (ht : τ.1 a = 2) : AW d 14 40 [x0] (.ref b :: .ref a :: st) σ ρ g τ Q = AW d 14 43 [x0] (st) σ (am_u ρ a 4 (some b)) g τ Q := aw_pr m14 d14_40 rfl rfl (Or.inr ⟨rfl, rfl⟩) rfl ht
theorem s14_40n {d : Nat} {st : List Value} {σ : am_I} {ρ : am_R} {g : am_J} {τ : am_T} {Q : am_Q} {x0 : Value} {a : Nat} (ht : τ.1 a = 2) : AW d 14 40 [x0] (.null :: .ref a :: st) σ ρ g τ Q = AW d 14 43 [x0] (st) σ (am_u ρ a 4 none) g τ Q := aw_pn m14 d14_40 rfl rfl (Or.inr ⟨rfl, rfl⟩) rfl ht
theorem d14_43 : decode cX2_init 43 = .ok (.aload_n 0, 1) := by decide +kernel
theorem s14_43 {d : Nat} {st : List Value} {σ : am_I} {ρ : am_R} {g : am_J} {τ : am_T} {Q : am_Q} {v : Nat} : AW d 14 43 [.ref v] (st) σ ρ g τ Q = AW d 14 44 [.ref v] (.ref v :: st) σ ρ g τ Q := aw_lc m14 d14_43 rfl rfl rfl
theorem s14_43n {d : Nat} {st : List Value} {σ : am_I} {ρ : am_R} {g : am_J} {τ : am_T} {Q : am_Q} : AW d 14 43 [.null] (st) σ ρ g τ Q = AW d 14 44 [.null] (.null :: st) σ ρ g τ Q := aw_lc m14 d14_43 rfl rfl rfl
theorem d14_44 : decode cX2_init 44 = .ok (.iconst 4, 1) := by decide +kernel
theorem s14_44 {d : Nat} {st : List Value} {σ : am_I} {ρ : am_R} {g : am_J} {τ : am_T} {Q : am_Q} {x0 : Value} : AW d 14 44 [x0] (st) σ ρ g τ Q = AW d 14 45 [x0] (.int 4 :: st) σ ρ g τ Q := aw_lc m14 d14_44 rfl rfl rfl
theorem d14_45 : decode cX2_init 45 = .ok (.newarray .int, 2) := by decide +kernel
theorem s14_45 {d : Nat} {st : List Value} {σ : am_I} {ρ : am_R} {g : am_J} {τ : am_T} {Q : am_Q} {x0 : Value} {j : Int32} (hj : ¬ j < 0 ∧ j.toNatClampNeg ≤ 10000) : AW d 14 45 [x0] (.int j :: st) σ ρ g τ Q = AW d 14 47 [x0] (.ref τ.2.2.1 :: st) (am_new 15 j.toNatClampNeg σ ρ g τ).1 (am_new 15 j.toNatClampNeg σ ρ g τ).2.1 (am_new 15 j.toNatClampNeg σ ρ g τ).2.2.1 (am_new 15 j.toNatClampNeg σ ρ g τ).2.2.2 Q := aw_nwa m14 d14_45 rfl rfl (by decide) hj
theorem d14_47 : decode cX2_init 47 = .ok (.putfield 29, 3) := by decide +kernel
theorem s14_47 {d : Nat} {st : List Value} {σ : am_I} {ρ : am_R} {g : am_J} {τ : am_T} {Q : am_Q} {x0 : Value} {a b : Nat} (ht : τ.1 a = 2) : AW d 14 47 [x0] (.ref b :: .ref a :: st) σ ρ g τ Q = AW d 14 50 [x0] (st) σ (am_u ρ a 5 (some b)) g τ Q := aw_pr m14 d14_47 rfl rfl (Or.inr ⟨rfl, rfl⟩) rfl ht
theorem s14_47n {d : Nat} {st : List Value} {σ : am_I} {ρ : am_R} {g : am_J} {τ : am_T} {Q : am_Q} {x0 : Value} {a : Nat} (ht : τ.1 a = 2) : AW d 14 47 [x0] (.null :: .ref a :: st) σ ρ g τ Q = AW d 14 50 [x0] (st) σ (am_u ρ a 5 none) g τ Q := aw_pn m14 d14_47 rfl rfl (Or.inr ⟨rfl, rfl⟩) rfl ht
theorem d14_50 : decode cX2_init 50 = .ok (.aload_n 0, 1) := by decide +kernel
theorem s14_50 {d : Nat} {st : List Value} {σ : am_I} {ρ : am_R} {g : am_J} {τ : am_T} {Q : am_Q} {v : Nat} : AW d 14 50 [.ref v] (st) σ ρ g τ Q = AW d 14 51 [.ref v] (.ref v :: st) σ ρ g τ Q := aw_lc m14 d14_50 rfl rfl rfl
theorem s14_50n {d : Nat} {st : List Value} {σ : am_I} {ρ : am_R} {g : am_J} {τ : am_T} {Q : am_Q} : AW d 14 50 [.null] (st) σ ρ g τ Q = AW d 14 51 [.null] (.null :: st) σ ρ g τ Q := aw_lc m14 d14_50 rfl rfl rfl
theorem d14_51 : decode cX2_init 51 = .ok (.getfield 9, 3) := by decide +kernel
theorem s14_51 {d : Nat} {st : List Value} {σ : am_I} {ρ : am_R} {g : am_J} {τ : am_T} {Q : am_Q} {x0 : Value} {a : Nat} (ht : τ.1 a = 2) : AW d 14 51 [x0] (.ref a :: st) σ ρ g τ Q = AW d 14 54 [x0] (va_rf (ρ a 0) :: st) σ ρ g τ Q := aw_gr m14 d14_51 rfl rfl rfl ht
theorem d14_54 : decode cX2_init 54 = .ok (.iconst (-1), 1) := by decide +kernel
theorem s14_54 {d : Nat} {st : List Value} {σ : am_I} {ρ : am_R} {g : am_J} {τ : am_T} {Q : am_Q} {x0 : Value} : AW d 14 54 [x0] (st) σ ρ g τ Q = AW d 14 55 [x0] (.int (-1) :: st) σ ρ g τ Q := aw_lc m14 d14_54 rfl rfl rfl
theorem d14_55 : decode cX2_init 55 = .ok (.invokestatic 32, 3) := by decide +kernel
theorem s14_55 {d : Nat} {st : List Value} {σ : am_I} {ρ : am_R} {g : am_J} {τ : am_T} {Q : am_Q} {x0 : Value} {p0 : Nat} {p1 : Int32} (hs : st.length ≤ 4) : AW (d + 1) 14 55 [x0] (.int p1 :: .ref p0 :: st) σ ρ g τ Q = AW d 275 0 [.ref p0, .int p1, am_jk, am_jk] [] σ ρ g τ (fun r9 σ ρ g τ => AW (d + 1) 14 58 [x0] (r9.toList ++ st) σ ρ g τ Q) := aw_cs m14 d14_55 rfl (by simp only [List.length_cons]; omega) rfl rfl en275 ok275 rfl hs
theorem d14_58 : decode cX2_init 58 = .ok (.aload_n 0, 1) := by decide +kernel
theorem s14_58 {d : Nat} {st : List Value} {σ : am_I} {ρ : am_R} {g : am_J} {τ : am_T} {Q : am_Q} {v : Nat} : AW d 14 58 [.ref v] (st) σ ρ g τ Q = AW d 14 59 [.ref v] (.ref v :: st) σ ρ g τ Q := aw_lc m14 d14_58 rfl rfl rfl
theorem s14_58n {d : Nat} {st : List Value} {σ : am_I} {ρ : am_R} {g : am_J} {τ : am_T} {Q : am_Q} : AW d 14 58 [.null] (st) σ ρ g τ Q = AW d 14 59 [.null] (.null :: st) σ ρ g τ Q := aw_lc m14 d14_58 rfl rfl rfl
theorem d14_59 : decode cX2_init 59 = .ok (.getfield 23, 3) := by decide +kernel
theorem s14_59 {d : Nat} {st : List Value} {σ : am_I} {ρ : am_R} {g : am_J} {τ : am_T} {Q : am_Q} {x0 : Value} {a : Nat} (ht : τ.1 a = 2) : AW d 14 59 [x0] (.ref a :: st) σ ρ g τ Q = AW d 14 62 [x0] (va_rf (ρ a 3) :: st) σ ρ g τ Q := aw_gr m14 d14_59 rfl rfl rfl ht
theorem d14_62 : decode cX2_init 62 = .ok (.iconst 3, 1) := by decide +kernel
theorem s14_62 {d : Nat} {st : List Value} {σ : am_I} {ρ : am_R} {g : am_J} {τ : am_T} {Q : am_Q} {x0 : Value} : AW d 14 62 [x0] (st) σ ρ g τ Q = AW d 14 63 [x0] (.int 3 :: st) σ ρ g τ Q := aw_lc m14 d14_62 rfl rfl rfl
theorem d14_63 : decode cX2_init 63 = .ok (.invokestatic 32, 3) := by decide +kernel
theorem s14_63 {d : Nat} {st : List Value} {σ : am_I} {ρ : am_R} {g : am_J} {τ : am_T} {Q : am_Q} {x0 : Value} {p0 : Nat} {p1 : Int32} (hs : st.length ≤ 4) : AW (d + 1) 14 63 [x0] (.int p1 :: .ref p0 :: st) σ ρ g τ Q = AW d 275 0 [.ref p0, .int p1, am_jk, am_jk] [] σ ρ g τ (fun r9 σ ρ g τ => AW (d + 1) 14 66 [x0] (r9.toList ++ st) σ ρ g τ Q) := aw_cs m14 d14_63 rfl (by simp only [List.length_cons]; omega) rfl rfl en275 ok275 rfl hs
theorem d14_66 : decode cX2_init 66 = .ok (.return_, 1) := by decide +kernel
theorem s14_66 {d : Nat} {σ : am_I} {ρ : am_R} {g : am_J} {τ : am_T} {Q : am_Q} {x0 : Value} : AW d 14 66 [x0] ([]) σ ρ g τ Q = Q none σ ρ g τ := aw_rv m14 d14_66 rfl
theorem d15_0 : decode cX2_makeSheet 0 = .ok (.aload_n 0, 1) := by decide +kernel
theorem s15_0 {d : Nat} {st : List Value} {σ : am_I} {ρ : am_R} {g : am_J} {τ : am_T} {Q : am_Q} {x1 x2 x3 : Value} {v : Nat} : AW d 15 0 [.ref v, x1, x2, x3] (st) σ ρ g τ Q = AW d 15 1 [.ref v, x1, x2, x3] (.ref v :: st) σ ρ g τ Q := aw_lc m15 d15_0 rfl rfl rfl
theorem d15_1 : decode cX2_makeSheet 1 = .ok (.getfield 9, 3) := by decide +kernel
theorem s15_1 {d : Nat} {st : List Value} {σ : am_I} {ρ : am_R} {g : am_J} {τ : am_T} {Q : am_Q} {x0 x1 x2 x3 : Value} {a : Nat} (ht : τ.1 a = 2) : AW d 15 1 [x0, x1, x2, x3] (.ref a :: st) σ ρ g τ Q = AW d 15 4 [x0, x1, x2, x3] (va_rf (ρ a 0) :: st) σ ρ g τ Q := aw_gr m15 d15_1 rfl rfl rfl ht
theorem d15_4 : decode cX2_makeSheet 4 = .ok (.iload_n 1, 1) := by decide +kernel
theorem s15_4 {d : Nat} {st : List Value} {σ : am_I} {ρ : am_R} {g : am_J} {τ : am_T} {Q : am_Q} {x0 x2 x3 : Value} {v : Int32} : AW d 15 4 [x0, .int v, x2, x3] (st) σ ρ g τ Q = AW d 15 5 [x0, .int v, x2, x3] (.int v :: st) σ ρ g τ Q := aw_lc m15 d15_4 rfl rfl rfl
theorem d15_5 : decode cX2_makeSheet 5 = .ok (.iload_n 2, 1) := by decide +kernel
theorem s15_5 {d : Nat} {st : List Value} {σ : am_I} {ρ : am_R} {g : am_J} {τ : am_T} {Q : am_Q} {x0 x1 x3 : Value} {v : Int32} : AW d 15 5 [x0, x1, .int v, x3] (st) σ ρ g τ Q = AW d 15 6 [x0, x1, .int v, x3] (.int v :: st) σ ρ g τ Q := aw_lc m15 d15_5 rfl rfl rfl
theorem d15_6 : decode cX2_makeSheet 6 = .ok (.iastore, 1) := by decide +kernel
theorem s15_6 {d : Nat} {st : List Value} {σ : am_I} {ρ : am_R} {g : am_J} {τ : am_T} {Q : am_Q} {x0 x1 x2 x3 : Value} {a : Nat} {j v : Int32} (ht : τ.1 a = 15) (ha : a < am_BG) (hj : am_inb j (τ.2.1 a) = true) : AW d 15 6 [x0, x1, x2, x3] (.int v :: .int j :: .ref a :: st) σ ρ g τ Q = AW d 15 7 [x0, x1, x2, x3] (st) (am_u σ a j.toNatClampNeg v) ρ g τ Q := aw_ias m15 d15_6 rfl ht ha hj
theorem d15_7 : decode cX2_makeSheet 7 = .ok (.aload_n 0, 1) := by decide +kernel
theorem s15_7 {d : Nat} {st : List Value} {σ : am_I} {ρ : am_R} {g : am_J} {τ : am_T} {Q : am_Q} {x1 x2 x3 : Value} {v : Nat} : AW d 15 7 [.ref v, x1, x2, x3] (st) σ ρ g τ Q = AW d 15 8 [.ref v, x1, x2, x3] (.ref v :: st) σ ρ g τ Q := aw_lc m15 d15_7 rfl rfl rfl
theorem d15_8 : decode cX2_makeSheet 8 = .ok (.getfield 15, 3) := by decide +kernel
theorem s15_8 {d : Nat} {st : List Value} {σ : am_I} {ρ : am_R} {g : am_J} {τ : am_T} {Q : am_Q} {x0 x1 x2 x3 : Value} {a : Nat} (ht : τ.1 a = 2) : AW d 15 8 [x0, x1, x2, x3] (.ref a :: st) σ ρ g τ Q = AW d 15 11 [x0, x1, x2, x3] (va_rf (ρ a 1) :: st) σ ρ g τ Q := aw_gr m15 d15_8 rfl rfl rfl ht
theorem d15_11 : decode cX2_makeSheet 11 = .ok (.iload_n 1, 1) := by decide +kernel
theorem s15_11 {d : Nat} {st : List Value} {σ : am_I} {ρ : am_R} {g : am_J} {τ : am_T} {Q : am_Q} {x0 x2 x3 : Value} {v : Int32} : AW d 15 11 [x0, .int v, x2, x3] (st) σ ρ g τ Q = AW d 15 12 [x0, .int v, x2, x3] (.int v :: st) σ ρ g τ Q := aw_lc m15 d15_11 rfl rfl rfl
theorem d15_12 : decode cX2_makeSheet 12 = .ok (.iload_n 3, 1) := by decide +kernel
theorem s15_12 {d : Nat} {st : List Value} {σ : am_I} {ρ : am_R} {g : am_J} {τ : am_T} {Q : am_Q} {x0 x1 x2 : Value} {v : Int32} : AW d 15 12 [x0, x1, x2, .int v] (st) σ ρ g τ Q = AW d 15 13 [x0, x1, x2, .int v] (.int v :: st) σ ρ g τ Q := aw_lc m15 d15_12 rfl rfl rfl
theorem d15_13 : decode cX2_makeSheet 13 = .ok (.iastore, 1) := by decide +kernel
theorem s15_13 {d : Nat} {st : List Value} {σ : am_I} {ρ : am_R} {g : am_J} {τ : am_T} {Q : am_Q} {x0 x1 x2 x3 : Value} {a : Nat} {j v : Int32} (ht : τ.1 a = 15) (ha : a < am_BG) (hj : am_inb j (τ.2.1 a) = true) : AW d 15 13 [x0, x1, x2, x3] (.int v :: .int j :: .ref a :: st) σ ρ g τ Q = AW d 15 14 [x0, x1, x2, x3] (st) (am_u σ a j.toNatClampNeg v) ρ g τ Q := aw_ias m15 d15_13 rfl ht ha hj
theorem d15_14 : decode cX2_makeSheet 14 = .ok (.aload_n 0, 1) := by decide +kernel
theorem s15_14 {d : Nat} {st : List Value} {σ : am_I} {ρ : am_R} {g : am_J} {τ : am_T} {Q : am_Q} {x1 x2 x3 : Value} {v : Nat} : AW d 15 14 [.ref v, x1, x2, x3] (st) σ ρ g τ Q = AW d 15 15 [.ref v, x1, x2, x3] (.ref v :: st) σ ρ g τ Q := aw_lc m15 d15_14 rfl rfl rfl
theorem d15_15 : decode cX2_makeSheet 15 = .ok (.getfield 20, 3) := by decide +kernel
theorem s15_15 {d : Nat} {st : List Value} {σ : am_I} {ρ : am_R} {g : am_J} {τ : am_T} {Q : am_Q} {x0 x1 x2 x3 : Value} {a : Nat} (ht : τ.1 a = 2) : AW d 15 15 [x0, x1, x2, x3] (.ref a :: st) σ ρ g τ Q = AW d 15 18 [x0, x1, x2, x3] (va_rf (ρ a 2) :: st) σ ρ g τ Q := aw_gr m15 d15_15 rfl rfl rfl ht
theorem d15_18 : decode cX2_makeSheet 18 = .ok (.iload_n 1, 1) := by decide +kernel
theorem s15_18 {d : Nat} {st : List Value} {σ : am_I} {ρ : am_R} {g : am_J} {τ : am_T} {Q : am_Q} {x0 x2 x3 : Value} {v : Int32} : AW d 15 18 [x0, .int v, x2, x3] (st) σ ρ g τ Q = AW d 15 19 [x0, .int v, x2, x3] (.int v :: st) σ ρ g τ Q := aw_lc m15 d15_18 rfl rfl rfl
theorem d15_19 : decode cX2_makeSheet 19 = .ok (.aaload, 1) := by decide +kernel
theorem s15_19 {d : Nat} {st : List Value} {σ : am_I} {ρ : am_R} {g : am_J} {τ : am_T} {Q : am_Q} {x0 x1 x2 x3 : Value} {a : Nat} {j : Int32} (ht : 18 ≤ τ.1 a ∧ τ.1 a ≤ 22) (hj : am_inb j (τ.2.1 a) = true) : AW d 15 19 [x0, x1, x2, x3] (.int j :: .ref a :: st) σ ρ g τ Q = AW d 15 20 [x0, x1, x2, x3] (va_rf (ρ a j.toNatClampNeg) :: st) σ ρ g τ Q := aw_aal m15 d15_19 rfl ht hj
theorem d15_20 : decode cX2_makeSheet 20 = .ok (.iconst 0, 1) := by decide +kernel
theorem s15_20 {d : Nat} {st : List Value} {σ : am_I} {ρ : am_R} {g : am_J} {τ : am_T} {Q : am_Q} {x0 x1 x2 x3 : Value} : AW d 15 20 [x0, x1, x2, x3] (st) σ ρ g τ Q = AW d 15 21 [x0, x1, x2, x3] (.int 0 :: st) σ ρ g τ Q := aw_lc m15 d15_20 rfl rfl rfl
theorem d15_21 : decode cX2_makeSheet 21 = .ok (.invokestatic 32, 3) := by decide +kernel
theorem s15_21 {d : Nat} {st : List Value} {σ : am_I} {ρ : am_R} {g : am_J} {τ : am_T} {Q : am_Q} {x0 x1 x2 x3 : Value} {p0 : Nat} {p1 : Int32} (hs : st.length ≤ 4) : AW (d + 1) 15 21 [x0, x1, x2, x3] (.int p1 :: .ref p0 :: st) σ ρ g τ Q = AW d 275 0 [.ref p0, .int p1, am_jk, am_jk] [] σ ρ g τ (fun r9 σ ρ g τ => AW (d + 1) 15 24 [x0, x1, x2, x3] (r9.toList ++ st) σ ρ g τ Q) := aw_cs m15 d15_21 rfl (by simp only [List.length_cons]; omega) rfl rfl en275 ok275 rfl hs
theorem d15_24 : decode cX2_makeSheet 24 = .ok (.return_, 1) := by decide +kernel
theorem s15_24 {d : Nat} {σ : am_I} {ρ : am_R} {g : am_J} {τ : am_T} {Q : am_Q} {x0 x1 x2 x3 : Value} : AW d 15 24 [x0, x1, x2, x3] ([]) σ ρ g τ Q = Q none σ ρ g τ := aw_rv m15 d15_24 rfl
theorem d16_0 : decode cX2_refusal 0 = .ok (.aload_n 0, 1) := by decide +kernel
theorem s16_0 {d : Nat} {st : List Value} {σ : am_I} {ρ : am_R} {g : am_J} {τ : am_T} {Q : am_Q} {x1 x2 x3 x4 : Value} {v : Nat} : AW d 16 0 [.ref v, x1, x2, x3, x4] (st) σ ρ g τ Q = AW d 16 1 [.ref v, x1, x2, x3, x4] (.ref v :: st) σ ρ g τ Q := aw_lc m16 d16_0 rfl rfl rfl
theorem d16_1 : decode cX2_refusal 1 = .ok (.getfield 9, 3) := by decide +kernel
theorem s16_1 {d : Nat} {st : List Value} {σ : am_I} {ρ : am_R} {g : am_J} {τ : am_T} {Q : am_Q} {x0 x1 x2 x3 x4 : Value} {a : Nat} (ht : τ.1 a = 2) : AW d 16 1 [x0, x1, x2, x3, x4] (.ref a :: st) σ ρ g τ Q = AW d 16 4 [x0, x1, x2, x3, x4] (va_rf (ρ a 0) :: st) σ ρ g τ Q := aw_gr m16 d16_1 rfl rfl rfl ht
theorem d16_4 : decode cX2_refusal 4 = .ok (.iload_n 1, 1) := by decide +kernel
theorem s16_4 {d : Nat} {st : List Value} {σ : am_I} {ρ : am_R} {g : am_J} {τ : am_T} {Q : am_Q} {x0 x2 x3 x4 : Value} {v : Int32} : AW d 16 4 [x0, .int v, x2, x3, x4] (st) σ ρ g τ Q = AW d 16 5 [x0, .int v, x2, x3, x4] (.int v :: st) σ ρ g τ Q := aw_lc m16 d16_4 rfl rfl rfl
theorem d16_5 : decode cX2_refusal 5 = .ok (.iaload, 1) := by decide +kernel
theorem s16_5 {d : Nat} {st : List Value} {σ : am_I} {ρ : am_R} {g : am_J} {τ : am_T} {Q : am_Q} {x0 x1 x2 x3 x4 : Value} {a : Nat} {j : Int32} (ht : τ.1 a = 15) (hj : am_inb j (τ.2.1 a) = true) : AW d 16 5 [x0, x1, x2, x3, x4] (.int j :: .ref a :: st) σ ρ g τ Q = AW d 16 6 [x0, x1, x2, x3, x4] (.int (σ a j.toNatClampNeg) :: st) σ ρ g τ Q := aw_ial m16 d16_5 rfl ht hj
theorem d16_6 : decode cX2_refusal 6 = .ok (.iconst (-1), 1) := by decide +kernel
theorem s16_6 {d : Nat} {st : List Value} {σ : am_I} {ρ : am_R} {g : am_J} {τ : am_T} {Q : am_Q} {x0 x1 x2 x3 x4 : Value} : AW d 16 6 [x0, x1, x2, x3, x4] (st) σ ρ g τ Q = AW d 16 7 [x0, x1, x2, x3, x4] (.int (-1) :: st) σ ρ g τ Q := aw_lc m16 d16_6 rfl rfl rfl
theorem d16_7 : decode cX2_refusal 7 = .ok (.if_icmp .ne 6, 3) := by decide +kernel
theorem s16_7 {d : Nat} {st : List Value} {σ : am_I} {ρ : am_R} {g : am_J} {τ : am_T} {Q : am_Q} {x0 x1 x2 x3 x4 : Value} {v w : Int32} : AW d 16 7 [x0, x1, x2, x3, x4] (.int w :: .int v :: st) σ ρ g τ Q = if ¬ v = w then AW d 16 13 [x0, x1, x2, x3, x4] (st) σ ρ g τ Q else AW d 16 10 [x0, x1, x2, x3, x4] (st) σ ρ g τ Q := aw_br m16 d16_7 rfl rfl rfl
theorem d16_10 : decode cX2_refusal 10 = .ok (.bipush (-11), 2) := by decide +kernel
theorem s16_10 {d : Nat} {st : List Value} {σ : am_I} {ρ : am_R} {g : am_J} {τ : am_T} {Q : am_Q} {x0 x1 x2 x3 x4 : Value} : AW d 16 10 [x0, x1, x2, x3, x4] (st) σ ρ g τ Q = AW d 16 12 [x0, x1, x2, x3, x4] (.int (-11) :: st) σ ρ g τ Q := aw_lc m16 d16_10 rfl rfl rfl
theorem d16_12 : decode cX2_refusal 12 = .ok (.ireturn, 1) := by decide +kernel
theorem s16_12 {d : Nat} {σ : am_I} {ρ : am_R} {g : am_J} {τ : am_T} {Q : am_Q} {x0 x1 x2 x3 x4 : Value} {v : Int32} : AW d 16 12 [x0, x1, x2, x3, x4] ([.int v]) σ ρ g τ Q = Q (some (.int v)) σ ρ g τ := aw_ri m16 d16_12 rfl
theorem d16_13 : decode cX2_refusal 13 = .ok (.aload_n 0, 1) := by decide +kernel
theorem s16_13 {d : Nat} {st : List Value} {σ : am_I} {ρ : am_R} {g : am_J} {τ : am_T} {Q : am_Q} {x1 x2 x3 x4 : Value} {v : Nat} : AW d 16 13 [.ref v, x1, x2, x3, x4] (st) σ ρ g τ Q = AW d 16 14 [.ref v, x1, x2, x3, x4] (.ref v :: st) σ ρ g τ Q := aw_lc m16 d16_13 rfl rfl rfl
theorem d16_14 : decode cX2_refusal 14 = .ok (.getfield 9, 3) := by decide +kernel
theorem s16_14 {d : Nat} {st : List Value} {σ : am_I} {ρ : am_R} {g : am_J} {τ : am_T} {Q : am_Q} {x0 x1 x2 x3 x4 : Value} {a : Nat} (ht : τ.1 a = 2) : AW d 16 14 [x0, x1, x2, x3, x4] (.ref a :: st) σ ρ g τ Q = AW d 16 17 [x0, x1, x2, x3, x4] (va_rf (ρ a 0) :: st) σ ρ g τ Q := aw_gr m16 d16_14 rfl rfl rfl ht
theorem d16_17 : decode cX2_refusal 17 = .ok (.iload_n 1, 1) := by decide +kernel
theorem s16_17 {d : Nat} {st : List Value} {σ : am_I} {ρ : am_R} {g : am_J} {τ : am_T} {Q : am_Q} {x0 x2 x3 x4 : Value} {v : Int32} : AW d 16 17 [x0, .int v, x2, x3, x4] (st) σ ρ g τ Q = AW d 16 18 [x0, .int v, x2, x3, x4] (.int v :: st) σ ρ g τ Q := aw_lc m16 d16_17 rfl rfl rfl
theorem d16_18 : decode cX2_refusal 18 = .ok (.iaload, 1) := by decide +kernel
theorem s16_18 {d : Nat} {st : List Value} {σ : am_I} {ρ : am_R} {g : am_J} {τ : am_T} {Q : am_Q} {x0 x1 x2 x3 x4 : Value} {a : Nat} {j : Int32} (ht : τ.1 a = 15) (hj : am_inb j (τ.2.1 a) = true) : AW d 16 18 [x0, x1, x2, x3, x4] (.int j :: .ref a :: st) σ ρ g τ Q = AW d 16 19 [x0, x1, x2, x3, x4] (.int (σ a j.toNatClampNeg) :: st) σ ρ g τ Q := aw_ial m16 d16_18 rfl ht hj
theorem d16_19 : decode cX2_refusal 19 = .ok (.iload_n 2, 1) := by decide +kernel
theorem s16_19 {d : Nat} {st : List Value} {σ : am_I} {ρ : am_R} {g : am_J} {τ : am_T} {Q : am_Q} {x0 x1 x3 x4 : Value} {v : Int32} : AW d 16 19 [x0, x1, .int v, x3, x4] (st) σ ρ g τ Q = AW d 16 20 [x0, x1, .int v, x3, x4] (.int v :: st) σ ρ g τ Q := aw_lc m16 d16_19 rfl rfl rfl
theorem d16_20 : decode cX2_refusal 20 = .ok (.if_icmp .eq 6, 3) := by decide +kernel
theorem s16_20 {d : Nat} {st : List Value} {σ : am_I} {ρ : am_R} {g : am_J} {τ : am_T} {Q : am_Q} {x0 x1 x2 x3 x4 : Value} {v w : Int32} : AW d 16 20 [x0, x1, x2, x3, x4] (.int w :: .int v :: st) σ ρ g τ Q = if v = w then AW d 16 26 [x0, x1, x2, x3, x4] (st) σ ρ g τ Q else AW d 16 23 [x0, x1, x2, x3, x4] (st) σ ρ g τ Q := aw_br m16 d16_20 rfl rfl rfl
theorem d16_23 : decode cX2_refusal 23 = .ok (.bipush (-13), 2) := by decide +kernel
theorem s16_23 {d : Nat} {st : List Value} {σ : am_I} {ρ : am_R} {g : am_J} {τ : am_T} {Q : am_Q} {x0 x1 x2 x3 x4 : Value} : AW d 16 23 [x0, x1, x2, x3, x4] (st) σ ρ g τ Q = AW d 16 25 [x0, x1, x2, x3, x4] (.int (-13) :: st) σ ρ g τ Q := aw_lc m16 d16_23 rfl rfl rfl
theorem d16_25 : decode cX2_refusal 25 = .ok (.ireturn, 1) := by decide +kernel
theorem s16_25 {d : Nat} {σ : am_I} {ρ : am_R} {g : am_J} {τ : am_T} {Q : am_Q} {x0 x1 x2 x3 x4 : Value} {v : Int32} : AW d 16 25 [x0, x1, x2, x3, x4] ([.int v]) σ ρ g τ Q = Q (some (.int v)) σ ρ g τ := aw_ri m16 d16_25 rfl
theorem d16_26 : decode cX2_refusal 26 = .ok (.iload_n 3, 1) := by decide +kernel
theorem s16_26 {d : Nat} {st : List Value} {σ : am_I} {ρ : am_R} {g : am_J} {τ : am_T} {Q : am_Q} {x0 x1 x2 x4 : Value} {v : Int32} : AW d 16 26 [x0, x1, x2, .int v, x4] (st) σ ρ g τ Q = AW d 16 27 [x0, x1, x2, .int v, x4] (.int v :: st) σ ρ g τ Q := aw_lc m16 d16_26 rfl rfl rfl
theorem d16_27 : decode cX2_refusal 27 = .ok (.iconst 0, 1) := by decide +kernel
theorem s16_27 {d : Nat} {st : List Value} {σ : am_I} {ρ : am_R} {g : am_J} {τ : am_T} {Q : am_Q} {x0 x1 x2 x3 x4 : Value} : AW d 16 27 [x0, x1, x2, x3, x4] (st) σ ρ g τ Q = AW d 16 28 [x0, x1, x2, x3, x4] (.int 0 :: st) σ ρ g τ Q := aw_lc m16 d16_27 rfl rfl rfl
theorem d16_28 : decode cX2_refusal 28 = .ok (.aload_n 0, 1) := by decide +kernel
theorem s16_28 {d : Nat} {st : List Value} {σ : am_I} {ρ : am_R} {g : am_J} {τ : am_T} {Q : am_Q} {x1 x2 x3 x4 : Value} {v : Nat} : AW d 16 28 [.ref v, x1, x2, x3, x4] (st) σ ρ g τ Q = AW d 16 29 [.ref v, x1, x2, x3, x4] (.ref v :: st) σ ρ g τ Q := aw_lc m16 d16_28 rfl rfl rfl
theorem d16_29 : decode cX2_refusal 29 = .ok (.getfield 15, 3) := by decide +kernel
theorem s16_29 {d : Nat} {st : List Value} {σ : am_I} {ρ : am_R} {g : am_J} {τ : am_T} {Q : am_Q} {x0 x1 x2 x3 x4 : Value} {a : Nat} (ht : τ.1 a = 2) : AW d 16 29 [x0, x1, x2, x3, x4] (.ref a :: st) σ ρ g τ Q = AW d 16 32 [x0, x1, x2, x3, x4] (va_rf (ρ a 1) :: st) σ ρ g τ Q := aw_gr m16 d16_29 rfl rfl rfl ht
theorem d16_32 : decode cX2_refusal 32 = .ok (.iload_n 1, 1) := by decide +kernel
theorem s16_32 {d : Nat} {st : List Value} {σ : am_I} {ρ : am_R} {g : am_J} {τ : am_T} {Q : am_Q} {x0 x2 x3 x4 : Value} {v : Int32} : AW d 16 32 [x0, .int v, x2, x3, x4] (st) σ ρ g τ Q = AW d 16 33 [x0, .int v, x2, x3, x4] (.int v :: st) σ ρ g τ Q := aw_lc m16 d16_32 rfl rfl rfl
theorem d16_33 : decode cX2_refusal 33 = .ok (.iaload, 1) := by decide +kernel
theorem s16_33 {d : Nat} {st : List Value} {σ : am_I} {ρ : am_R} {g : am_J} {τ : am_T} {Q : am_Q} {x0 x1 x2 x3 x4 : Value} {a : Nat} {j : Int32} (ht : τ.1 a = 15) (hj : am_inb j (τ.2.1 a) = true) : AW d 16 33 [x0, x1, x2, x3, x4] (.int j :: .ref a :: st) σ ρ g τ Q = AW d 16 34 [x0, x1, x2, x3, x4] (.int (σ a j.toNatClampNeg) :: st) σ ρ g τ Q := aw_ial m16 d16_33 rfl ht hj
theorem d16_34 : decode cX2_refusal 34 = .ok (.iload 4, 2) := by decide +kernel
theorem s16_34 {d : Nat} {st : List Value} {σ : am_I} {ρ : am_R} {g : am_J} {τ : am_T} {Q : am_Q} {x0 x1 x2 x3 : Value} {v : Int32} : AW d 16 34 [x0, x1, x2, x3, .int v] (st) σ ρ g τ Q = AW d 16 36 [x0, x1, x2, x3, .int v] (.int v :: st) σ ρ g τ Q := aw_lc m16 d16_34 rfl rfl rfl
theorem d16_36 : decode cX2_refusal 36 = .ok (.isub, 1) := by decide +kernel
theorem s16_36 {d : Nat} {st : List Value} {σ : am_I} {ρ : am_R} {g : am_J} {τ : am_T} {Q : am_Q} {x0 x1 x2 x3 x4 : Value} {v w : Int32} : AW d 16 36 [x0, x1, x2, x3, x4] (.int w :: .int v :: st) σ ρ g τ Q = AW d 16 37 [x0, x1, x2, x3, x4] (.int (v - w) :: st) σ ρ g τ Q := aw_lc m16 d16_36 rfl rfl rfl
theorem d16_37 : decode cX2_refusal 37 = .ok (.invokestatic 38, 3) := by decide +kernel
theorem s16_37 {d : Nat} {st : List Value} {σ : am_I} {ρ : am_R} {g : am_J} {τ : am_T} {Q : am_Q} {x0 x1 x2 x3 x4 : Value} {p0 : Int32} {p1 : Int32} {p2 : Int32} (hs : st.length ≤ 4) : AW (d + 1) 16 37 [x0, x1, x2, x3, x4] (.int p2 :: .int p1 :: .int p0 :: st) σ ρ g τ Q = AW d 100 0 [.int p0, .int p1, .int p2] [] σ ρ g τ (fun r9 σ ρ g τ => AW (d + 1) 16 40 [x0, x1, x2, x3, x4] (r9.toList ++ st) σ ρ g τ Q) := aw_cn m16 d16_37 rfl (by simp only [List.length_cons]; omega) rfl rfl en100 ok100 rfl hs
theorem d16_40 : decode cX2_refusal 40 = .ok (.ifCond .eq 7, 3) := by decide +kernel
theorem s16_40 {d : Nat} {st : List Value} {σ : am_I} {ρ : am_R} {g : am_J} {τ : am_T} {Q : am_Q} {x0 x1 x2 x3 x4 : Value} {v : Int32} : AW d 16 40 [x0, x1, x2, x3, x4] (.int v :: st) σ ρ g τ Q = if v = 0 then AW d 16 47 [x0, x1, x2, x3, x4] (st) σ ρ g τ Q else AW d 16 43 [x0, x1, x2, x3, x4] (st) σ ρ g τ Q := aw_br m16 d16_40 rfl rfl rfl
theorem d16_43 : decode cX2_refusal 43 = .ok (.iconst 0, 1) := by decide +kernel
theorem s16_43 {d : Nat} {st : List Value} {σ : am_I} {ρ : am_R} {g : am_J} {τ : am_T} {Q : am_Q} {x0 x1 x2 x3 x4 : Value} : AW d 16 43 [x0, x1, x2, x3, x4] (st) σ ρ g τ Q = AW d 16 44 [x0, x1, x2, x3, x4] (.int 0 :: st) σ ρ g τ Q := aw_lc m16 d16_43 rfl rfl rfl
theorem d16_44 : decode cX2_refusal 44 = .ok (.goto 5, 3) := by decide +kernel
theorem s16_44 {d : Nat} {st : List Value} {σ : am_I} {ρ : am_R} {g : am_J} {τ : am_T} {Q : am_Q} {x0 x1 x2 x3 x4 : Value} : AW d 16 44 [x0, x1, x2, x3, x4] (st) σ ρ g τ Q = AW d 16 49 [x0, x1, x2, x3, x4] (st) σ ρ g τ Q := aw_lc m16 d16_44 rfl rfl rfl
theorem d16_47 : decode cX2_refusal 47 = .ok (.bipush (-12), 2) := by decide +kernel
theorem s16_47 {d : Nat} {st : List Value} {σ : am_I} {ρ : am_R} {g : am_J} {τ : am_T} {Q : am_Q} {x0 x1 x2 x3 x4 : Value} : AW d 16 47 [x0, x1, x2, x3, x4] (st) σ ρ g τ Q = AW d 16 49 [x0, x1, x2, x3, x4] (.int (-12) :: st) σ ρ g τ Q := aw_lc m16 d16_47 rfl rfl rfl
theorem d16_49 : decode cX2_refusal 49 = .ok (.ireturn, 1) := by decide +kernel
theorem s16_49 {d : Nat} {σ : am_I} {ρ : am_R} {g : am_J} {τ : am_T} {Q : am_Q} {x0 x1 x2 x3 x4 : Value} {v : Int32} : AW d 16 49 [x0, x1, x2, x3, x4] ([.int v]) σ ρ g τ Q = Q (some (.int v)) σ ρ g τ := aw_ri m16 d16_49 rfl
theorem d17_0 : decode cX2_cellAt 0 = .ok (.iload_n 2, 1) := by decide +kernel
theorem s17_0 {d : Nat} {st : List Value} {σ : am_I} {ρ : am_R} {g : am_J} {τ : am_T} {Q : am_Q} {x0 x1 : Value} {v : Int32} : AW d 17 0 [x0, x1, .int v] (st) σ ρ g τ Q = AW d 17 1 [x0, x1, .int v] (.int v :: st) σ ρ g τ Q := aw_lc m17 d17_0 rfl rfl rfl
theorem d17_1 : decode cX2_cellAt 1 = .ok (.iconst 0, 1) := by decide +kernel
theorem s17_1 {d : Nat} {st : List Value} {σ : am_I} {ρ : am_R} {g : am_J} {τ : am_T} {Q : am_Q} {x0 x1 x2 : Value} : AW d 17 1 [x0, x1, x2] (st) σ ρ g τ Q = AW d 17 2 [x0, x1, x2] (.int 0 :: st) σ ρ g τ Q := aw_lc m17 d17_1 rfl rfl rfl
theorem d17_2 : decode cX2_cellAt 2 = .ok (.aload_n 0, 1) := by decide +kernel
theorem s17_2 {d : Nat} {st : List Value} {σ : am_I} {ρ : am_R} {g : am_J} {τ : am_T} {Q : am_Q} {x1 x2 : Value} {v : Nat} : AW d 17 2 [.ref v, x1, x2] (st) σ ρ g τ Q = AW d 17 3 [.ref v, x1, x2] (.ref v :: st) σ ρ g τ Q := aw_lc m17 d17_2 rfl rfl rfl
theorem d17_3 : decode cX2_cellAt 3 = .ok (.getfield 15, 3) := by decide +kernel
theorem s17_3 {d : Nat} {st : List Value} {σ : am_I} {ρ : am_R} {g : am_J} {τ : am_T} {Q : am_Q} {x0 x1 x2 : Value} {a : Nat} (ht : τ.1 a = 2) : AW d 17 3 [x0, x1, x2] (.ref a :: st) σ ρ g τ Q = AW d 17 6 [x0, x1, x2] (va_rf (ρ a 1) :: st) σ ρ g τ Q := aw_gr m17 d17_3 rfl rfl rfl ht
theorem d17_6 : decode cX2_cellAt 6 = .ok (.iload_n 1, 1) := by decide +kernel
theorem s17_6 {d : Nat} {st : List Value} {σ : am_I} {ρ : am_R} {g : am_J} {τ : am_T} {Q : am_Q} {x0 x2 : Value} {v : Int32} : AW d 17 6 [x0, .int v, x2] (st) σ ρ g τ Q = AW d 17 7 [x0, .int v, x2] (.int v :: st) σ ρ g τ Q := aw_lc m17 d17_6 rfl rfl rfl
theorem d17_7 : decode cX2_cellAt 7 = .ok (.iaload, 1) := by decide +kernel
theorem s17_7 {d : Nat} {st : List Value} {σ : am_I} {ρ : am_R} {g : am_J} {τ : am_T} {Q : am_Q} {x0 x1 x2 : Value} {a : Nat} {j : Int32} (ht : τ.1 a = 15) (hj : am_inb j (τ.2.1 a) = true) : AW d 17 7 [x0, x1, x2] (.int j :: .ref a :: st) σ ρ g τ Q = AW d 17 8 [x0, x1, x2] (.int (σ a j.toNatClampNeg) :: st) σ ρ g τ Q := aw_ial m17 d17_7 rfl ht hj
theorem d17_8 : decode cX2_cellAt 8 = .ok (.iconst 1, 1) := by decide +kernel
theorem s17_8 {d : Nat} {st : List Value} {σ : am_I} {ρ : am_R} {g : am_J} {τ : am_T} {Q : am_Q} {x0 x1 x2 : Value} : AW d 17 8 [x0, x1, x2] (st) σ ρ g τ Q = AW d 17 9 [x0, x1, x2] (.int 1 :: st) σ ρ g τ Q := aw_lc m17 d17_8 rfl rfl rfl
theorem d17_9 : decode cX2_cellAt 9 = .ok (.isub, 1) := by decide +kernel
theorem s17_9 {d : Nat} {st : List Value} {σ : am_I} {ρ : am_R} {g : am_J} {τ : am_T} {Q : am_Q} {x0 x1 x2 : Value} {v w : Int32} : AW d 17 9 [x0, x1, x2] (.int w :: .int v :: st) σ ρ g τ Q = AW d 17 10 [x0, x1, x2] (.int (v - w) :: st) σ ρ g τ Q := aw_lc m17 d17_9 rfl rfl rfl
theorem d17_10 : decode cX2_cellAt 10 = .ok (.invokestatic 38, 3) := by decide +kernel
theorem s17_10 {d : Nat} {st : List Value} {σ : am_I} {ρ : am_R} {g : am_J} {τ : am_T} {Q : am_Q} {x0 x1 x2 : Value} {p0 : Int32} {p1 : Int32} {p2 : Int32} (hs : st.length ≤ 4) : AW (d + 1) 17 10 [x0, x1, x2] (.int p2 :: .int p1 :: .int p0 :: st) σ ρ g τ Q = AW d 100 0 [.int p0, .int p1, .int p2] [] σ ρ g τ (fun r9 σ ρ g τ => AW (d + 1) 17 13 [x0, x1, x2] (r9.toList ++ st) σ ρ g τ Q) := aw_cn m17 d17_10 rfl (by simp only [List.length_cons]; omega) rfl rfl en100 ok100 rfl hs
theorem d17_13 : decode cX2_cellAt 13 = .ok (.ifCond .eq 14, 3) := by decide +kernel
theorem s17_13 {d : Nat} {st : List Value} {σ : am_I} {ρ : am_R} {g : am_J} {τ : am_T} {Q : am_Q} {x0 x1 x2 : Value} {v : Int32} : AW d 17 13 [x0, x1, x2] (.int v :: st) σ ρ g τ Q = if v = 0 then AW d 17 27 [x0, x1, x2] (st) σ ρ g τ Q else AW d 17 16 [x0, x1, x2] (st) σ ρ g τ Q := aw_br m17 d17_13 rfl rfl rfl
theorem d17_16 : decode cX2_cellAt 16 = .ok (.aload_n 0, 1) := by decide +kernel
theorem s17_16 {d : Nat} {st : List Value} {σ : am_I} {ρ : am_R} {g : am_J} {τ : am_T} {Q : am_Q} {x1 x2 : Value} {v : Nat} : AW d 17 16 [.ref v, x1, x2] (st) σ ρ g τ Q = AW d 17 17 [.ref v, x1, x2] (.ref v :: st) σ ρ g τ Q := aw_lc m17 d17_16 rfl rfl rfl
theorem d17_17 : decode cX2_cellAt 17 = .ok (.getfield 20, 3) := by decide +kernel
theorem s17_17 {d : Nat} {st : List Value} {σ : am_I} {ρ : am_R} {g : am_J} {τ : am_T} {Q : am_Q} {x0 x1 x2 : Value} {a : Nat} (ht : τ.1 a = 2) : AW d 17 17 [x0, x1, x2] (.ref a :: st) σ ρ g τ Q = AW d 17 20 [x0, x1, x2] (va_rf (ρ a 2) :: st) σ ρ g τ Q := aw_gr m17 d17_17 rfl rfl rfl ht
theorem d17_20 : decode cX2_cellAt 20 = .ok (.iload_n 1, 1) := by decide +kernel
theorem s17_20 {d : Nat} {st : List Value} {σ : am_I} {ρ : am_R} {g : am_J} {τ : am_T} {Q : am_Q} {x0 x2 : Value} {v : Int32} : AW d 17 20 [x0, .int v, x2] (st) σ ρ g τ Q = AW d 17 21 [x0, .int v, x2] (.int v :: st) σ ρ g τ Q := aw_lc m17 d17_20 rfl rfl rfl
theorem d17_21 : decode cX2_cellAt 21 = .ok (.aaload, 1) := by decide +kernel
theorem s17_21 {d : Nat} {st : List Value} {σ : am_I} {ρ : am_R} {g : am_J} {τ : am_T} {Q : am_Q} {x0 x1 x2 : Value} {a : Nat} {j : Int32} (ht : 18 ≤ τ.1 a ∧ τ.1 a ≤ 22) (hj : am_inb j (τ.2.1 a) = true) : AW d 17 21 [x0, x1, x2] (.int j :: .ref a :: st) σ ρ g τ Q = AW d 17 22 [x0, x1, x2] (va_rf (ρ a j.toNatClampNeg) :: st) σ ρ g τ Q := aw_aal m17 d17_21 rfl ht hj
theorem d17_22 : decode cX2_cellAt 22 = .ok (.iload_n 2, 1) := by decide +kernel
theorem s17_22 {d : Nat} {st : List Value} {σ : am_I} {ρ : am_R} {g : am_J} {τ : am_T} {Q : am_Q} {x0 x1 : Value} {v : Int32} : AW d 17 22 [x0, x1, .int v] (st) σ ρ g τ Q = AW d 17 23 [x0, x1, .int v] (.int v :: st) σ ρ g τ Q := aw_lc m17 d17_22 rfl rfl rfl
theorem d17_23 : decode cX2_cellAt 23 = .ok (.iaload, 1) := by decide +kernel
theorem s17_23 {d : Nat} {st : List Value} {σ : am_I} {ρ : am_R} {g : am_J} {τ : am_T} {Q : am_Q} {x0 x1 x2 : Value} {a : Nat} {j : Int32} (ht : τ.1 a = 15) (hj : am_inb j (τ.2.1 a) = true) : AW d 17 23 [x0, x1, x2] (.int j :: .ref a :: st) σ ρ g τ Q = AW d 17 24 [x0, x1, x2] (.int (σ a j.toNatClampNeg) :: st) σ ρ g τ Q := aw_ial m17 d17_23 rfl ht hj
theorem d17_24 : decode cX2_cellAt 24 = .ok (.goto 4, 3) := by decide +kernel
theorem s17_24 {d : Nat} {st : List Value} {σ : am_I} {ρ : am_R} {g : am_J} {τ : am_T} {Q : am_Q} {x0 x1 x2 : Value} : AW d 17 24 [x0, x1, x2] (st) σ ρ g τ Q = AW d 17 28 [x0, x1, x2] (st) σ ρ g τ Q := aw_lc m17 d17_24 rfl rfl rfl
theorem d17_27 : decode cX2_cellAt 27 = .ok (.iconst 0, 1) := by decide +kernel
theorem s17_27 {d : Nat} {st : List Value} {σ : am_I} {ρ : am_R} {g : am_J} {τ : am_T} {Q : am_Q} {x0 x1 x2 : Value} : AW d 17 27 [x0, x1, x2] (st) σ ρ g τ Q = AW d 17 28 [x0, x1, x2] (.int 0 :: st) σ ρ g τ Q := aw_lc m17 d17_27 rfl rfl rfl
theorem d17_28 : decode cX2_cellAt 28 = .ok (.ireturn, 1) := by decide +kernel
theorem s17_28 {d : Nat} {σ : am_I} {ρ : am_R} {g : am_J} {τ : am_T} {Q : am_Q} {x0 x1 x2 : Value} {v : Int32} : AW d 17 28 [x0, x1, x2] ([.int v]) σ ρ g τ Q = Q (some (.int v)) σ ρ g τ := aw_ri m17 d17_28 rfl
theorem d18_0 : decode cX2_narrowed 0 = .ok (.iload_n 1, 1) := by decide +kernel
theorem s18_0 {d : Nat} {st : List Value} {σ : am_I} {ρ : am_R} {g : am_J} {τ : am_T} {Q : am_Q} {x0 : Value} {v : Int32} : AW d 18 0 [x0, .int v] (st) σ ρ g τ Q = AW d 18 1 [x0, .int v] (.int v :: st) σ ρ g τ Q := aw_lc m18 d18_0 rfl rfl rfl
theorem d18_1 : decode cX2_narrowed 1 = .ok (.tableswitch 51 0 4 #[35, 38, 51, 51, 41], 35) := by decide +kernel
theorem s18_1_0 {d : Nat} {st : List Value} {σ : am_I} {ρ : am_R} {g : am_J} {τ : am_T} {Q : am_Q} {x0 x1 : Value} : AW d 18 1 [x0, x1] (.int 0 :: st) σ ρ g τ Q = AW d 18 36 [x0, x1] (st) σ ρ g τ Q := aw_lc m18 d18_1 rfl rfl rfl
theorem s18_1_1 {d : Nat} {st : List Value} {σ : am_I} {ρ : am_R} {g : am_J} {τ : am_T} {Q : am_Q} {x0 x1 : Value} : AW d 18 1 [x0, x1] (.int 1 :: st) σ ρ g τ Q = AW d 18 39 [x0, x1] (st) σ ρ g τ Q := aw_lc m18 d18_1 rfl rfl rfl
theorem s18_1_2 {d : Nat} {st : List Value} {σ : am_I} {ρ : am_R} {g : am_J} {τ : am_T} {Q : am_Q} {x0 x1 : Value} : AW d 18 1 [x0, x1] (.int 2 :: st) σ ρ g τ Q = AW d 18 52 [x0, x1] (st) σ ρ g τ Q := aw_lc m18 d18_1 rfl rfl rfl
theorem s18_1_3 {d : Nat} {st : List Value} {σ : am_I} {ρ : am_R} {g : am_J} {τ : am_T} {Q : am_Q} {x0 x1 : Value} : AW d 18 1 [x0, x1] (.int 3 :: st) σ ρ g τ Q = AW d 18 52 [x0, x1] (st) σ ρ g τ Q := aw_lc m18 d18_1 rfl rfl rfl
theorem s18_1_4 {d : Nat} {st : List Value} {σ : am_I} {ρ : am_R} {g : am_J} {τ : am_T} {Q : am_Q} {x0 x1 : Value} : AW d 18 1 [x0, x1] (.int 4 :: st) σ ρ g τ Q = AW d 18 42 [x0, x1] (st) σ ρ g τ Q := aw_lc m18 d18_1 rfl rfl rfl
theorem s18_1_d {d : Nat} {st : List Value} {σ : am_I} {ρ : am_R} {g : am_J} {τ : am_T} {Q : am_Q} {x0 x1 : Value} {v : Int32} (h : v.toInt < 0 ∨ 4 < v.toInt) : AW d 18 1 [x0, x1] (.int v :: st) σ ρ g τ Q = AW d 18 52 [x0, x1] (st) σ ρ g τ Q := aw_lc m18 d18_1 rfl rfl (by simp only [am_lc]; rw [if_pos h]; rfl)
theorem d18_36 : decode cX2_narrowed 36 = .ok (.iload_n 0, 1) := by decide +kernel
theorem s18_36 {d : Nat} {st : List Value} {σ : am_I} {ρ : am_R} {g : am_J} {τ : am_T} {Q : am_Q} {x1 : Value} {v : Int32} : AW d 18 36 [.int v, x1] (st) σ ρ g τ Q = AW d 18 37 [.int v, x1] (.int v :: st) σ ρ g τ Q := aw_lc m18 d18_36 rfl rfl rfl
theorem d18_37 : decode cX2_narrowed 37 = .ok (.i2b, 1) := by decide +kernel
theorem s18_37 {d : Nat} {st : List Value} {σ : am_I} {ρ : am_R} {g : am_J} {τ : am_T} {Q : am_Q} {x0 x1 : Value} {v : Int32} : AW d 18 37 [x0, x1] (.int v :: st) σ ρ g τ Q = AW d 18 38 [x0, x1] (.int v.toInt8.toInt32 :: st) σ ρ g τ Q := aw_lc m18 d18_37 rfl rfl rfl
theorem d18_38 : decode cX2_narrowed 38 = .ok (.ireturn, 1) := by decide +kernel
theorem s18_38 {d : Nat} {σ : am_I} {ρ : am_R} {g : am_J} {τ : am_T} {Q : am_Q} {x0 x1 : Value} {v : Int32} : AW d 18 38 [x0, x1] ([.int v]) σ ρ g τ Q = Q (some (.int v)) σ ρ g τ := aw_ri m18 d18_38 rfl
theorem d18_39 : decode cX2_narrowed 39 = .ok (.iload_n 0, 1) := by decide +kernel
theorem s18_39 {d : Nat} {st : List Value} {σ : am_I} {ρ : am_R} {g : am_J} {τ : am_T} {Q : am_Q} {x1 : Value} {v : Int32} : AW d 18 39 [.int v, x1] (st) σ ρ g τ Q = AW d 18 40 [.int v, x1] (.int v :: st) σ ρ g τ Q := aw_lc m18 d18_39 rfl rfl rfl
theorem d18_40 : decode cX2_narrowed 40 = .ok (.i2s, 1) := by decide +kernel
theorem s18_40 {d : Nat} {st : List Value} {σ : am_I} {ρ : am_R} {g : am_J} {τ : am_T} {Q : am_Q} {x0 x1 : Value} {v : Int32} : AW d 18 40 [x0, x1] (.int v :: st) σ ρ g τ Q = AW d 18 41 [x0, x1] (.int v.toInt16.toInt32 :: st) σ ρ g τ Q := aw_lc m18 d18_40 rfl rfl rfl
theorem d18_41 : decode cX2_narrowed 41 = .ok (.ireturn, 1) := by decide +kernel
theorem s18_41 {d : Nat} {σ : am_I} {ρ : am_R} {g : am_J} {τ : am_T} {Q : am_Q} {x0 x1 : Value} {v : Int32} : AW d 18 41 [x0, x1] ([.int v]) σ ρ g τ Q = Q (some (.int v)) σ ρ g τ := aw_ri m18 d18_41 rfl
theorem d18_42 : decode cX2_narrowed 42 = .ok (.iload_n 0, 1) := by decide +kernel
theorem s18_42 {d : Nat} {st : List Value} {σ : am_I} {ρ : am_R} {g : am_J} {τ : am_T} {Q : am_Q} {x1 : Value} {v : Int32} : AW d 18 42 [.int v, x1] (st) σ ρ g τ Q = AW d 18 43 [.int v, x1] (.int v :: st) σ ρ g τ Q := aw_lc m18 d18_42 rfl rfl rfl
theorem d18_43 : decode cX2_narrowed 43 = .ok (.ifCond .eq 7, 3) := by decide +kernel
theorem s18_43 {d : Nat} {st : List Value} {σ : am_I} {ρ : am_R} {g : am_J} {τ : am_T} {Q : am_Q} {x0 x1 : Value} {v : Int32} : AW d 18 43 [x0, x1] (.int v :: st) σ ρ g τ Q = if v = 0 then AW d 18 50 [x0, x1] (st) σ ρ g τ Q else AW d 18 46 [x0, x1] (st) σ ρ g τ Q := aw_br m18 d18_43 rfl rfl rfl
theorem d18_46 : decode cX2_narrowed 46 = .ok (.iconst 1, 1) := by decide +kernel
theorem s18_46 {d : Nat} {st : List Value} {σ : am_I} {ρ : am_R} {g : am_J} {τ : am_T} {Q : am_Q} {x0 x1 : Value} : AW d 18 46 [x0, x1] (st) σ ρ g τ Q = AW d 18 47 [x0, x1] (.int 1 :: st) σ ρ g τ Q := aw_lc m18 d18_46 rfl rfl rfl
theorem d18_47 : decode cX2_narrowed 47 = .ok (.goto 4, 3) := by decide +kernel
theorem s18_47 {d : Nat} {st : List Value} {σ : am_I} {ρ : am_R} {g : am_J} {τ : am_T} {Q : am_Q} {x0 x1 : Value} : AW d 18 47 [x0, x1] (st) σ ρ g τ Q = AW d 18 51 [x0, x1] (st) σ ρ g τ Q := aw_lc m18 d18_47 rfl rfl rfl
theorem d18_50 : decode cX2_narrowed 50 = .ok (.iconst 0, 1) := by decide +kernel
theorem s18_50 {d : Nat} {st : List Value} {σ : am_I} {ρ : am_R} {g : am_J} {τ : am_T} {Q : am_Q} {x0 x1 : Value} : AW d 18 50 [x0, x1] (st) σ ρ g τ Q = AW d 18 51 [x0, x1] (.int 0 :: st) σ ρ g τ Q := aw_lc m18 d18_50 rfl rfl rfl
theorem d18_51 : decode cX2_narrowed 51 = .ok (.ireturn, 1) := by decide +kernel
theorem s18_51 {d : Nat} {σ : am_I} {ρ : am_R} {g : am_J} {τ : am_T} {Q : am_Q} {x0 x1 : Value} {v : Int32} : AW d 18 51 [x0, x1] ([.int v]) σ ρ g τ Q = Q (some (.int v)) σ ρ g τ := aw_ri m18 d18_51 rfl
theorem d18_52 : decode cX2_narrowed 52 = .ok (.iload_n 0, 1) := by decide +kernel
theorem s18_52 {d : Nat} {st : List Value} {σ : am_I} {ρ : am_R} {g : am_J} {τ : am_T} {Q : am_Q} {x1 : Value} {v : Int32} : AW d 18 52 [.int v, x1] (st) σ ρ g τ Q = AW d 18 53 [.int v, x1] (.int v :: st) σ ρ g τ Q := aw_lc m18 d18_52 rfl rfl rfl
theorem d18_53 : decode cX2_narrowed 53 = .ok (.ireturn, 1) := by decide +kernel
theorem s18_53 {d : Nat} {σ : am_I} {ρ : am_R} {g : am_J} {τ : am_T} {Q : am_Q} {x0 x1 : Value} {v : Int32} : AW d 18 53 [x0, x1] ([.int v]) σ ρ g τ Q = Q (some (.int v)) σ ρ g τ := aw_ri m18 d18_53 rfl
theorem d19_0 : decode cX2_lay 0 = .ok (.aload_n 0, 1) := by decide +kernel
theorem s19_0 {d : Nat} {st : List Value} {σ : am_I} {ρ : am_R} {g : am_J} {τ : am_T} {Q : am_Q} {x1 x2 x3 : Value} {v : Nat} : AW d 19 0 [.ref v, x1, x2, x3] (st) σ ρ g τ Q = AW d 19 1 [.ref v, x1, x2, x3] (.ref v :: st) σ ρ g τ Q := aw_lc m19 d19_0 rfl rfl rfl
theorem d19_1 : decode cX2_lay 1 = .ok (.getfield 23, 3) := by decide +kernel
theorem s19_1 {d : Nat} {st : List Value} {σ : am_I} {ρ : am_R} {g : am_J} {τ : am_T} {Q : am_Q} {x0 x1 x2 x3 : Value} {a : Nat} (ht : τ.1 a = 2) : AW d 19 1 [x0, x1, x2, x3] (.ref a :: st) σ ρ g τ Q = AW d 19 4 [x0, x1, x2, x3] (va_rf (ρ a 3) :: st) σ ρ g τ Q := aw_gr m19 d19_1 rfl rfl rfl ht
theorem d19_4 : decode cX2_lay 4 = .ok (.iload_n 1, 1) := by decide +kernel
theorem s19_4 {d : Nat} {st : List Value} {σ : am_I} {ρ : am_R} {g : am_J} {τ : am_T} {Q : am_Q} {x0 x2 x3 : Value} {v : Int32} : AW d 19 4 [x0, .int v, x2, x3] (st) σ ρ g τ Q = AW d 19 5 [x0, .int v, x2, x3] (.int v :: st) σ ρ g τ Q := aw_lc m19 d19_4 rfl rfl rfl
theorem d19_5 : decode cX2_lay 5 = .ok (.iload_n 2, 1) := by decide +kernel
theorem s19_5 {d : Nat} {st : List Value} {σ : am_I} {ρ : am_R} {g : am_J} {τ : am_T} {Q : am_Q} {x0 x1 x3 : Value} {v : Int32} : AW d 19 5 [x0, x1, .int v, x3] (st) σ ρ g τ Q = AW d 19 6 [x0, x1, .int v, x3] (.int v :: st) σ ρ g τ Q := aw_lc m19 d19_5 rfl rfl rfl
theorem d19_6 : decode cX2_lay 6 = .ok (.iastore, 1) := by decide +kernel
theorem s19_6 {d : Nat} {st : List Value} {σ : am_I} {ρ : am_R} {g : am_J} {τ : am_T} {Q : am_Q} {x0 x1 x2 x3 : Value} {a : Nat} {j v : Int32} (ht : τ.1 a = 15) (ha : a < am_BG) (hj : am_inb j (τ.2.1 a) = true) : AW d 19 6 [x0, x1, x2, x3] (.int v :: .int j :: .ref a :: st) σ ρ g τ Q = AW d 19 7 [x0, x1, x2, x3] (st) (am_u σ a j.toNatClampNeg v) ρ g τ Q := aw_ias m19 d19_6 rfl ht ha hj
theorem d19_7 : decode cX2_lay 7 = .ok (.aload_n 0, 1) := by decide +kernel
theorem s19_7 {d : Nat} {st : List Value} {σ : am_I} {ρ : am_R} {g : am_J} {τ : am_T} {Q : am_Q} {x1 x2 x3 : Value} {v : Nat} : AW d 19 7 [.ref v, x1, x2, x3] (st) σ ρ g τ Q = AW d 19 8 [.ref v, x1, x2, x3] (.ref v :: st) σ ρ g τ Q := aw_lc m19 d19_7 rfl rfl rfl
theorem d19_8 : decode cX2_lay 8 = .ok (.getfield 26, 3) := by decide +kernel
theorem s19_8 {d : Nat} {st : List Value} {σ : am_I} {ρ : am_R} {g : am_J} {τ : am_T} {Q : am_Q} {x0 x1 x2 x3 : Value} {a : Nat} (ht : τ.1 a = 2) : AW d 19 8 [x0, x1, x2, x3] (.ref a :: st) σ ρ g τ Q = AW d 19 11 [x0, x1, x2, x3] (va_rf (ρ a 4) :: st) σ ρ g τ Q := aw_gr m19 d19_8 rfl rfl rfl ht
theorem d19_11 : decode cX2_lay 11 = .ok (.iload_n 1, 1) := by decide +kernel
theorem s19_11 {d : Nat} {st : List Value} {σ : am_I} {ρ : am_R} {g : am_J} {τ : am_T} {Q : am_Q} {x0 x2 x3 : Value} {v : Int32} : AW d 19 11 [x0, .int v, x2, x3] (st) σ ρ g τ Q = AW d 19 12 [x0, .int v, x2, x3] (.int v :: st) σ ρ g τ Q := aw_lc m19 d19_11 rfl rfl rfl
theorem d19_12 : decode cX2_lay 12 = .ok (.iload_n 3, 1) := by decide +kernel
theorem s19_12 {d : Nat} {st : List Value} {σ : am_I} {ρ : am_R} {g : am_J} {τ : am_T} {Q : am_Q} {x0 x1 x2 : Value} {v : Int32} : AW d 19 12 [x0, x1, x2, .int v] (st) σ ρ g τ Q = AW d 19 13 [x0, x1, x2, .int v] (.int v :: st) σ ρ g τ Q := aw_lc m19 d19_12 rfl rfl rfl
theorem d19_13 : decode cX2_lay 13 = .ok (.iastore, 1) := by decide +kernel
theorem s19_13 {d : Nat} {st : List Value} {σ : am_I} {ρ : am_R} {g : am_J} {τ : am_T} {Q : am_Q} {x0 x1 x2 x3 : Value} {a : Nat} {j v : Int32} (ht : τ.1 a = 15) (ha : a < am_BG) (hj : am_inb j (τ.2.1 a) = true) : AW d 19 13 [x0, x1, x2, x3] (.int v :: .int j :: .ref a :: st) σ ρ g τ Q = AW d 19 14 [x0, x1, x2, x3] (st) (am_u σ a j.toNatClampNeg v) ρ g τ Q := aw_ias m19 d19_13 rfl ht ha hj
theorem d19_14 : decode cX2_lay 14 = .ok (.iconst 1, 1) := by decide +kernel
theorem s19_14 {d : Nat} {st : List Value} {σ : am_I} {ρ : am_R} {g : am_J} {τ : am_T} {Q : am_Q} {x0 x1 x2 x3 : Value} : AW d 19 14 [x0, x1, x2, x3] (st) σ ρ g τ Q = AW d 19 15 [x0, x1, x2, x3] (.int 1 :: st) σ ρ g τ Q := aw_lc m19 d19_14 rfl rfl rfl
theorem d19_15 : decode cX2_lay 15 = .ok (.ireturn, 1) := by decide +kernel
theorem s19_15 {d : Nat} {σ : am_I} {ρ : am_R} {g : am_J} {τ : am_T} {Q : am_Q} {x0 x1 x2 x3 : Value} {v : Int32} : AW d 19 15 [x0, x1, x2, x3] ([.int v]) σ ρ g τ Q = Q (some (.int v)) σ ρ g τ := aw_ri m19 d19_15 rfl
theorem d20_0 : decode cX2_laySheet 0 = .ok (.aload_n 0, 1) := by decide +kernel
theorem s20_0 {d : Nat} {st : List Value} {σ : am_I} {ρ : am_R} {g : am_J} {τ : am_T} {Q : am_Q} {x1 x2 : Value} {v : Nat} : AW d 20 0 [.ref v, x1, x2] (st) σ ρ g τ Q = AW d 20 1 [.ref v, x1, x2] (.ref v :: st) σ ρ g τ Q := aw_lc m20 d20_0 rfl rfl rfl
theorem d20_1 : decode cX2_laySheet 1 = .ok (.getfield 9, 3) := by decide +kernel
theorem s20_1 {d : Nat} {st : List Value} {σ : am_I} {ρ : am_R} {g : am_J} {τ : am_T} {Q : am_Q} {x0 x1 x2 : Value} {a : Nat} (ht : τ.1 a = 2) : AW d 20 1 [x0, x1, x2] (.ref a :: st) σ ρ g τ Q = AW d 20 4 [x0, x1, x2] (va_rf (ρ a 0) :: st) σ ρ g τ Q := aw_gr m20 d20_1 rfl rfl rfl ht
theorem d20_4 : decode cX2_laySheet 4 = .ok (.iload_n 2, 1) := by decide +kernel
theorem s20_4 {d : Nat} {st : List Value} {σ : am_I} {ρ : am_R} {g : am_J} {τ : am_T} {Q : am_Q} {x0 x1 : Value} {v : Int32} : AW d 20 4 [x0, x1, .int v] (st) σ ρ g τ Q = AW d 20 5 [x0, x1, .int v] (.int v :: st) σ ρ g τ Q := aw_lc m20 d20_4 rfl rfl rfl
theorem d20_5 : decode cX2_laySheet 5 = .ok (.iaload, 1) := by decide +kernel
theorem s20_5 {d : Nat} {st : List Value} {σ : am_I} {ρ : am_R} {g : am_J} {τ : am_T} {Q : am_Q} {x0 x1 x2 : Value} {a : Nat} {j : Int32} (ht : τ.1 a = 15) (hj : am_inb j (τ.2.1 a) = true) : AW d 20 5 [x0, x1, x2] (.int j :: .ref a :: st) σ ρ g τ Q = AW d 20 6 [x0, x1, x2] (.int (σ a j.toNatClampNeg) :: st) σ ρ g τ Q := aw_ial m20 d20_5 rfl ht hj
theorem d20_6 : decode cX2_laySheet 6 = .ok (.iconst (-1), 1) := by decide +kernel
theorem s20_6 {d : Nat} {st : List Value} {σ : am_I} {ρ : am_R} {g : am_J} {τ : am_T} {Q : am_Q} {x0 x1 x2 : Value} : AW d 20 6 [x0, x1, x2] (st) σ ρ g τ Q = AW d 20 7 [x0, x1, x2] (.int (-1) :: st) σ ρ g τ Q := aw_lc m20 d20_6 rfl rfl rfl
theorem d20_7 : decode cX2_laySheet 7 = .ok (.if_icmp .ne 11, 3) := by decide +kernel
theorem s20_7 {d : Nat} {st : List Value} {σ : am_I} {ρ : am_R} {g : am_J} {τ : am_T} {Q : am_Q} {x0 x1 x2 : Value} {v w : Int32} : AW d 20 7 [x0, x1, x2] (.int w :: .int v :: st) σ ρ g τ Q = if ¬ v = w then AW d 20 18 [x0, x1, x2] (st) σ ρ g τ Q else AW d 20 10 [x0, x1, x2] (st) σ ρ g τ Q := aw_br m20 d20_7 rfl rfl rfl
theorem d20_10 : decode cX2_laySheet 10 = .ok (.aload_n 0, 1) := by decide +kernel
theorem s20_10 {d : Nat} {st : List Value} {σ : am_I} {ρ : am_R} {g : am_J} {τ : am_T} {Q : am_Q} {x1 x2 : Value} {v : Nat} : AW d 20 10 [.ref v, x1, x2] (st) σ ρ g τ Q = AW d 20 11 [.ref v, x1, x2] (.ref v :: st) σ ρ g τ Q := aw_lc m20 d20_10 rfl rfl rfl
theorem d20_11 : decode cX2_laySheet 11 = .ok (.iload_n 1, 1) := by decide +kernel
theorem s20_11 {d : Nat} {st : List Value} {σ : am_I} {ρ : am_R} {g : am_J} {τ : am_T} {Q : am_Q} {x0 x2 : Value} {v : Int32} : AW d 20 11 [x0, .int v, x2] (st) σ ρ g τ Q = AW d 20 12 [x0, .int v, x2] (.int v :: st) σ ρ g τ Q := aw_lc m20 d20_11 rfl rfl rfl
theorem d20_12 : decode cX2_laySheet 12 = .ok (.iconst 3, 1) := by decide +kernel
theorem s20_12 {d : Nat} {st : List Value} {σ : am_I} {ρ : am_R} {g : am_J} {τ : am_T} {Q : am_Q} {x0 x1 x2 : Value} : AW d 20 12 [x0, x1, x2] (st) σ ρ g τ Q = AW d 20 13 [x0, x1, x2] (.int 3 :: st) σ ρ g τ Q := aw_lc m20 d20_12 rfl rfl rfl
theorem d20_13 : decode cX2_laySheet 13 = .ok (.iconst 0, 1) := by decide +kernel
theorem s20_13 {d : Nat} {st : List Value} {σ : am_I} {ρ : am_R} {g : am_J} {τ : am_T} {Q : am_Q} {x0 x1 x2 : Value} : AW d 20 13 [x0, x1, x2] (st) σ ρ g τ Q = AW d 20 14 [x0, x1, x2] (.int 0 :: st) σ ρ g τ Q := aw_lc m20 d20_13 rfl rfl rfl
theorem d20_14 : decode cX2_laySheet 14 = .ok (.invokevirtual 42, 3) := by decide +kernel
theorem s20_14 {d : Nat} {st : List Value} {σ : am_I} {ρ : am_R} {g : am_J} {τ : am_T} {Q : am_Q} {x0 x1 x2 : Value} {p0 : Nat} {p1 : Int32} {p2 : Int32} {p3 : Int32} (ht : τ.1 p0 = 2) (hs : st.length ≤ 4) : AW (d + 1) 20 14 [x0, x1, x2] (.int p3 :: .int p2 :: .int p1 :: .ref p0 :: st) σ ρ g τ Q = AW d 19 0 [.ref p0, .int p1, .int p2, .int p3] [] σ ρ g τ (fun r9 σ ρ g τ => AW (d + 1) 20 17 [x0, x1, x2] (r9.toList ++ st) σ ρ g τ Q) := aw_cv m20 d20_14 rfl m19 rfl rfl (by decide) en19 ok19 rfl ht hs
theorem d20_17 : decode cX2_laySheet 17 = .ok (.ireturn, 1) := by decide +kernel
theorem s20_17 {d : Nat} {σ : am_I} {ρ : am_R} {g : am_J} {τ : am_T} {Q : am_Q} {x0 x1 x2 : Value} {v : Int32} : AW d 20 17 [x0, x1, x2] ([.int v]) σ ρ g τ Q = Q (some (.int v)) σ ρ g τ := aw_ri m20 d20_17 rfl
theorem d20_18 : decode cX2_laySheet 18 = .ok (.aload_n 0, 1) := by decide +kernel
theorem s20_18 {d : Nat} {st : List Value} {σ : am_I} {ρ : am_R} {g : am_J} {τ : am_T} {Q : am_Q} {x1 x2 : Value} {v : Nat} : AW d 20 18 [.ref v, x1, x2] (st) σ ρ g τ Q = AW d 20 19 [.ref v, x1, x2] (.ref v :: st) σ ρ g τ Q := aw_lc m20 d20_18 rfl rfl rfl
theorem d20_19 : decode cX2_laySheet 19 = .ok (.getfield 29, 3) := by decide +kernel
theorem s20_19 {d : Nat} {st : List Value} {σ : am_I} {ρ : am_R} {g : am_J} {τ : am_T} {Q : am_Q} {x0 x1 x2 : Value} {a : Nat} (ht : τ.1 a = 2) : AW d 20 19 [x0, x1, x2] (.ref a :: st) σ ρ g τ Q = AW d 20 22 [x0, x1, x2] (va_rf (ρ a 5) :: st) σ ρ g τ Q := aw_gr m20 d20_19 rfl rfl rfl ht
theorem d20_22 : decode cX2_laySheet 22 = .ok (.iload_n 1, 1) := by decide +kernel
theorem s20_22 {d : Nat} {st : List Value} {σ : am_I} {ρ : am_R} {g : am_J} {τ : am_T} {Q : am_Q} {x0 x2 : Value} {v : Int32} : AW d 20 22 [x0, .int v, x2] (st) σ ρ g τ Q = AW d 20 23 [x0, .int v, x2] (.int v :: st) σ ρ g τ Q := aw_lc m20 d20_22 rfl rfl rfl
theorem d20_23 : decode cX2_laySheet 23 = .ok (.aload_n 0, 1) := by decide +kernel
theorem s20_23 {d : Nat} {st : List Value} {σ : am_I} {ρ : am_R} {g : am_J} {τ : am_T} {Q : am_Q} {x1 x2 : Value} {v : Nat} : AW d 20 23 [.ref v, x1, x2] (st) σ ρ g τ Q = AW d 20 24 [.ref v, x1, x2] (.ref v :: st) σ ρ g τ Q := aw_lc m20 d20_23 rfl rfl rfl
theorem d20_24 : decode cX2_laySheet 24 = .ok (.getfield 9, 3) := by decide +kernel
theorem s20_24 {d : Nat} {st : List Value} {σ : am_I} {ρ : am_R} {g : am_J} {τ : am_T} {Q : am_Q} {x0 x1 x2 : Value} {a : Nat} (ht : τ.1 a = 2) : AW d 20 24 [x0, x1, x2] (.ref a :: st) σ ρ g τ Q = AW d 20 27 [x0, x1, x2] (va_rf (ρ a 0) :: st) σ ρ g τ Q := aw_gr m20 d20_24 rfl rfl rfl ht
theorem d20_27 : decode cX2_laySheet 27 = .ok (.iload_n 2, 1) := by decide +kernel
theorem s20_27 {d : Nat} {st : List Value} {σ : am_I} {ρ : am_R} {g : am_J} {τ : am_T} {Q : am_Q} {x0 x1 : Value} {v : Int32} : AW d 20 27 [x0, x1, .int v] (st) σ ρ g τ Q = AW d 20 28 [x0, x1, .int v] (.int v :: st) σ ρ g τ Q := aw_lc m20 d20_27 rfl rfl rfl
theorem d20_28 : decode cX2_laySheet 28 = .ok (.iaload, 1) := by decide +kernel
theorem s20_28 {d : Nat} {st : List Value} {σ : am_I} {ρ : am_R} {g : am_J} {τ : am_T} {Q : am_Q} {x0 x1 x2 : Value} {a : Nat} {j : Int32} (ht : τ.1 a = 15) (hj : am_inb j (τ.2.1 a) = true) : AW d 20 28 [x0, x1, x2] (.int j :: .ref a :: st) σ ρ g τ Q = AW d 20 29 [x0, x1, x2] (.int (σ a j.toNatClampNeg) :: st) σ ρ g τ Q := aw_ial m20 d20_28 rfl ht hj
theorem d20_29 : decode cX2_laySheet 29 = .ok (.iastore, 1) := by decide +kernel
theorem s20_29 {d : Nat} {st : List Value} {σ : am_I} {ρ : am_R} {g : am_J} {τ : am_T} {Q : am_Q} {x0 x1 x2 : Value} {a : Nat} {j v : Int32} (ht : τ.1 a = 15) (ha : a < am_BG) (hj : am_inb j (τ.2.1 a) = true) : AW d 20 29 [x0, x1, x2] (.int v :: .int j :: .ref a :: st) σ ρ g τ Q = AW d 20 30 [x0, x1, x2] (st) (am_u σ a j.toNatClampNeg v) ρ g τ Q := aw_ias m20 d20_29 rfl ht ha hj
theorem d20_30 : decode cX2_laySheet 30 = .ok (.aload_n 0, 1) := by decide +kernel
theorem s20_30 {d : Nat} {st : List Value} {σ : am_I} {ρ : am_R} {g : am_J} {τ : am_T} {Q : am_Q} {x1 x2 : Value} {v : Nat} : AW d 20 30 [.ref v, x1, x2] (st) σ ρ g τ Q = AW d 20 31 [.ref v, x1, x2] (.ref v :: st) σ ρ g τ Q := aw_lc m20 d20_30 rfl rfl rfl
theorem d20_31 : decode cX2_laySheet 31 = .ok (.iload_n 1, 1) := by decide +kernel
theorem s20_31 {d : Nat} {st : List Value} {σ : am_I} {ρ : am_R} {g : am_J} {τ : am_T} {Q : am_Q} {x0 x2 : Value} {v : Int32} : AW d 20 31 [x0, .int v, x2] (st) σ ρ g τ Q = AW d 20 32 [x0, .int v, x2] (.int v :: st) σ ρ g τ Q := aw_lc m20 d20_31 rfl rfl rfl
theorem d20_32 : decode cX2_laySheet 32 = .ok (.iconst 2, 1) := by decide +kernel
theorem s20_32 {d : Nat} {st : List Value} {σ : am_I} {ρ : am_R} {g : am_J} {τ : am_T} {Q : am_Q} {x0 x1 x2 : Value} : AW d 20 32 [x0, x1, x2] (st) σ ρ g τ Q = AW d 20 33 [x0, x1, x2] (.int 2 :: st) σ ρ g τ Q := aw_lc m20 d20_32 rfl rfl rfl
theorem d20_33 : decode cX2_laySheet 33 = .ok (.aload_n 0, 1) := by decide +kernel
theorem s20_33 {d : Nat} {st : List Value} {σ : am_I} {ρ : am_R} {g : am_J} {τ : am_T} {Q : am_Q} {x1 x2 : Value} {v : Nat} : AW d 20 33 [.ref v, x1, x2] (st) σ ρ g τ Q = AW d 20 34 [.ref v, x1, x2] (.ref v :: st) σ ρ g τ Q := aw_lc m20 d20_33 rfl rfl rfl
theorem d20_34 : decode cX2_laySheet 34 = .ok (.getfield 15, 3) := by decide +kernel
theorem s20_34 {d : Nat} {st : List Value} {σ : am_I} {ρ : am_R} {g : am_J} {τ : am_T} {Q : am_Q} {x0 x1 x2 : Value} {a : Nat} (ht : τ.1 a = 2) : AW d 20 34 [x0, x1, x2] (.ref a :: st) σ ρ g τ Q = AW d 20 37 [x0, x1, x2] (va_rf (ρ a 1) :: st) σ ρ g τ Q := aw_gr m20 d20_34 rfl rfl rfl ht
theorem d20_37 : decode cX2_laySheet 37 = .ok (.iload_n 2, 1) := by decide +kernel
theorem s20_37 {d : Nat} {st : List Value} {σ : am_I} {ρ : am_R} {g : am_J} {τ : am_T} {Q : am_Q} {x0 x1 : Value} {v : Int32} : AW d 20 37 [x0, x1, .int v] (st) σ ρ g τ Q = AW d 20 38 [x0, x1, .int v] (.int v :: st) σ ρ g τ Q := aw_lc m20 d20_37 rfl rfl rfl
theorem d20_38 : decode cX2_laySheet 38 = .ok (.iaload, 1) := by decide +kernel
theorem s20_38 {d : Nat} {st : List Value} {σ : am_I} {ρ : am_R} {g : am_J} {τ : am_T} {Q : am_Q} {x0 x1 x2 : Value} {a : Nat} {j : Int32} (ht : τ.1 a = 15) (hj : am_inb j (τ.2.1 a) = true) : AW d 20 38 [x0, x1, x2] (.int j :: .ref a :: st) σ ρ g τ Q = AW d 20 39 [x0, x1, x2] (.int (σ a j.toNatClampNeg) :: st) σ ρ g τ Q := aw_ial m20 d20_38 rfl ht hj
theorem d20_39 : decode cX2_laySheet 39 = .ok (.invokevirtual 42, 3) := by decide +kernel
theorem s20_39 {d : Nat} {st : List Value} {σ : am_I} {ρ : am_R} {g : am_J} {τ : am_T} {Q : am_Q} {x0 x1 x2 : Value} {p0 : Nat} {p1 : Int32} {p2 : Int32} {p3 : Int32} (ht : τ.1 p0 = 2) (hs : st.length ≤ 4) : AW (d + 1) 20 39 [x0, x1, x2] (.int p3 :: .int p2 :: .int p1 :: .ref p0 :: st) σ ρ g τ Q = AW d 19 0 [.ref p0, .int p1, .int p2, .int p3] [] σ ρ g τ (fun r9 σ ρ g τ => AW (d + 1) 20 42 [x0, x1, x2] (r9.toList ++ st) σ ρ g τ Q) := aw_cv m20 d20_39 rfl m19 rfl rfl (by decide) en19 ok19 rfl ht hs
theorem d20_42 : decode cX2_laySheet 42 = .ok (.ireturn, 1) := by decide +kernel
theorem s20_42 {d : Nat} {σ : am_I} {ρ : am_R} {g : am_J} {τ : am_T} {Q : am_Q} {x0 x1 x2 : Value} {v : Int32} : AW d 20 42 [x0, x1, x2] ([.int v]) σ ρ g τ Q = Q (some (.int v)) σ ρ g τ := aw_ri m20 d20_42 rfl
