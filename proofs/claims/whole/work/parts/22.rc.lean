/-! step rows: methods 42 to 75 -/
theorem d42_0 : decode cX4_init 0 = .ok (.aload_n 0, 1) := by decide +kernel
theorem s42_0 {d : Nat} {st : List Value} {σ : am_I} {ρ : am_R} {g : am_J} {τ : am_T} {Q : am_Q} {x1 x2 : Value} {v : Nat} : AW d 42 0 [.ref v, x1, x2] (st) σ ρ g τ Q = AW d 42 1 [.ref v, x1, x2] (.ref v :: st) σ ρ g τ Q := aw_lc m42 d42_0 rfl rfl rfl
theorem s42_0n {d : Nat} {st : List Value} {σ : am_I} {ρ : am_R} {g : am_J} {τ : am_T} {Q : am_Q} {x1 x2 : Value} : AW d 42 0 [.null, x1, x2] (st) σ ρ g τ Q = AW d 42 1 [.null, x1, x2] (.null :: st) σ ρ g τ Q := aw_lc m42 d42_0 rfl rfl rfl
theorem d42_1 : decode cX4_init 1 = .ok (.invokespecial 1, 3) := by decide +kernel
theorem s42_1 {d : Nat} {st : List Value} {σ : am_I} {ρ : am_R} {g : am_J} {τ : am_T} {Q : am_Q} {x0 x1 x2 : Value} {a : Nat} (hs : st.length ≤ 4) : AW d 42 1 [x0, x1, x2] (.ref a :: st) σ ρ g τ Q = AW d 42 4 [x0, x1, x2] (st) σ ρ g τ Q := aw_oin m42 d42_1 rfl rfl hs
theorem d42_4 : decode cX4_init 4 = .ok (.aload_n 0, 1) := by decide +kernel
theorem s42_4 {d : Nat} {st : List Value} {σ : am_I} {ρ : am_R} {g : am_J} {τ : am_T} {Q : am_Q} {x1 x2 : Value} {v : Nat} : AW d 42 4 [.ref v, x1, x2] (st) σ ρ g τ Q = AW d 42 5 [.ref v, x1, x2] (.ref v :: st) σ ρ g τ Q := aw_lc m42 d42_4 rfl rfl rfl
theorem s42_4n {d : Nat} {st : List Value} {σ : am_I} {ρ : am_R} {g : am_J} {τ : am_T} {Q : am_Q} {x1 x2 : Value} : AW d 42 4 [.null, x1, x2] (st) σ ρ g τ Q = AW d 42 5 [.null, x1, x2] (.null :: st) σ ρ g τ Q := aw_lc m42 d42_4 rfl rfl rfl
theorem d42_5 : decode cX4_init 5 = .ok (.iconst 0, 1) := by decide +kernel
theorem s42_5 {d : Nat} {st : List Value} {σ : am_I} {ρ : am_R} {g : am_J} {τ : am_T} {Q : am_Q} {x0 x1 x2 : Value} : AW d 42 5 [x0, x1, x2] (st) σ ρ g τ Q = AW d 42 6 [x0, x1, x2] (.int 0 :: st) σ ρ g τ Q := aw_lc m42 d42_5 rfl rfl rfl
theorem d42_6 : decode cX4_init 6 = .ok (.putfield 7, 3) := by decide +kernel
theorem s42_6 {d : Nat} {st : List Value} {σ : am_I} {ρ : am_R} {g : am_J} {τ : am_T} {Q : am_Q} {x0 x1 x2 : Value} {a : Nat} {v : Int32} (ht : τ.1 a = 4) : AW d 42 6 [x0, x1, x2] (.int v :: .ref a :: st) σ ρ g τ Q = AW d 42 9 [x0, x1, x2] (st) (am_u σ a 3 v) ρ g τ Q := aw_pi m42 d42_6 rfl rfl (Or.inl rfl) rfl ht
theorem d42_9 : decode cX4_init 9 = .ok (.aload_n 0, 1) := by decide +kernel
theorem s42_9 {d : Nat} {st : List Value} {σ : am_I} {ρ : am_R} {g : am_J} {τ : am_T} {Q : am_Q} {x1 x2 : Value} {v : Nat} : AW d 42 9 [.ref v, x1, x2] (st) σ ρ g τ Q = AW d 42 10 [.ref v, x1, x2] (.ref v :: st) σ ρ g τ Q := aw_lc m42 d42_9 rfl rfl rfl
theorem s42_9n {d : Nat} {st : List Value} {σ : am_I} {ρ : am_R} {g : am_J} {τ : am_T} {Q : am_Q} {x1 x2 : Value} : AW d 42 9 [.null, x1, x2] (st) σ ρ g τ Q = AW d 42 10 [.null, x1, x2] (.null :: st) σ ρ g τ Q := aw_lc m42 d42_9 rfl rfl rfl
theorem d42_10 : decode cX4_init 10 = .ok (.iconst 0, 1) := by decide +kernel
theorem s42_10 {d : Nat} {st : List Value} {σ : am_I} {ρ : am_R} {g : am_J} {τ : am_T} {Q : am_Q} {x0 x1 x2 : Value} : AW d 42 10 [x0, x1, x2] (st) σ ρ g τ Q = AW d 42 11 [x0, x1, x2] (.int 0 :: st) σ ρ g τ Q := aw_lc m42 d42_10 rfl rfl rfl
theorem d42_11 : decode cX4_init 11 = .ok (.iload_n 1, 1) := by decide +kernel
theorem s42_11 {d : Nat} {st : List Value} {σ : am_I} {ρ : am_R} {g : am_J} {τ : am_T} {Q : am_Q} {x0 x2 : Value} {v : Int32} : AW d 42 11 [x0, .int v, x2] (st) σ ρ g τ Q = AW d 42 12 [x0, .int v, x2] (.int v :: st) σ ρ g τ Q := aw_lc m42 d42_11 rfl rfl rfl
theorem d42_12 : decode cX4_init 12 = .ok (.invokestatic 13, 3) := by decide +kernel
theorem s42_12 {d : Nat} {st : List Value} {σ : am_I} {ρ : am_R} {g : am_J} {τ : am_T} {Q : am_Q} {x0 x1 x2 : Value} {v w : Int32} (hs : st.length ≤ 4) : AW d 42 12 [x0, x1, x2] (.int w :: .int v :: st) σ ρ g τ Q = AW d 42 15 [x0, x1, x2] (.int (if v < w then w else v) :: st) σ ρ g τ Q := aw_max m42 d42_12 rfl rfl hs
theorem d42_15 : decode cX4_init 15 = .ok (.putfield 19, 3) := by decide +kernel
theorem s42_15 {d : Nat} {st : List Value} {σ : am_I} {ρ : am_R} {g : am_J} {τ : am_T} {Q : am_Q} {x0 x1 x2 : Value} {a : Nat} {v : Int32} (ht : τ.1 a = 4) : AW d 42 15 [x0, x1, x2] (.int v :: .ref a :: st) σ ρ g τ Q = AW d 42 18 [x0, x1, x2] (st) (am_u σ a 0 v) ρ g τ Q := aw_pi m42 d42_15 rfl rfl (Or.inr ⟨rfl, rfl⟩) rfl ht
theorem d42_18 : decode cX4_init 18 = .ok (.aload_n 0, 1) := by decide +kernel
theorem s42_18 {d : Nat} {st : List Value} {σ : am_I} {ρ : am_R} {g : am_J} {τ : am_T} {Q : am_Q} {x1 x2 : Value} {v : Nat} : AW d 42 18 [.ref v, x1, x2] (st) σ ρ g τ Q = AW d 42 19 [.ref v, x1, x2] (.ref v :: st) σ ρ g τ Q := aw_lc m42 d42_18 rfl rfl rfl
theorem s42_18n {d : Nat} {st : List Value} {σ : am_I} {ρ : am_R} {g : am_J} {τ : am_T} {Q : am_Q} {x1 x2 : Value} : AW d 42 18 [.null, x1, x2] (st) σ ρ g τ Q = AW d 42 19 [.null, x1, x2] (.null :: st) σ ρ g τ Q := aw_lc m42 d42_18 rfl rfl rfl
theorem d42_19 : decode cX4_init 19 = .ok (.iconst 0, 1) := by decide +kernel
theorem s42_19 {d : Nat} {st : List Value} {σ : am_I} {ρ : am_R} {g : am_J} {τ : am_T} {Q : am_Q} {x0 x1 x2 : Value} : AW d 42 19 [x0, x1, x2] (st) σ ρ g τ Q = AW d 42 20 [x0, x1, x2] (.int 0 :: st) σ ρ g τ Q := aw_lc m42 d42_19 rfl rfl rfl
theorem d42_20 : decode cX4_init 20 = .ok (.iload_n 2, 1) := by decide +kernel
theorem s42_20 {d : Nat} {st : List Value} {σ : am_I} {ρ : am_R} {g : am_J} {τ : am_T} {Q : am_Q} {x0 x1 : Value} {v : Int32} : AW d 42 20 [x0, x1, .int v] (st) σ ρ g τ Q = AW d 42 21 [x0, x1, .int v] (.int v :: st) σ ρ g τ Q := aw_lc m42 d42_20 rfl rfl rfl
theorem d42_21 : decode cX4_init 21 = .ok (.invokestatic 13, 3) := by decide +kernel
theorem s42_21 {d : Nat} {st : List Value} {σ : am_I} {ρ : am_R} {g : am_J} {τ : am_T} {Q : am_Q} {x0 x1 x2 : Value} {v w : Int32} (hs : st.length ≤ 4) : AW d 42 21 [x0, x1, x2] (.int w :: .int v :: st) σ ρ g τ Q = AW d 42 24 [x0, x1, x2] (.int (if v < w then w else v) :: st) σ ρ g τ Q := aw_max m42 d42_21 rfl rfl hs
theorem d42_24 : decode cX4_init 24 = .ok (.putfield 22, 3) := by decide +kernel
theorem s42_24 {d : Nat} {st : List Value} {σ : am_I} {ρ : am_R} {g : am_J} {τ : am_T} {Q : am_Q} {x0 x1 x2 : Value} {a : Nat} {v : Int32} (ht : τ.1 a = 4) : AW d 42 24 [x0, x1, x2] (.int v :: .ref a :: st) σ ρ g τ Q = AW d 42 27 [x0, x1, x2] (st) (am_u σ a 1 v) ρ g τ Q := aw_pi m42 d42_24 rfl rfl (Or.inr ⟨rfl, rfl⟩) rfl ht
theorem d42_27 : decode cX4_init 27 = .ok (.aload_n 0, 1) := by decide +kernel
theorem s42_27 {d : Nat} {st : List Value} {σ : am_I} {ρ : am_R} {g : am_J} {τ : am_T} {Q : am_Q} {x1 x2 : Value} {v : Nat} : AW d 42 27 [.ref v, x1, x2] (st) σ ρ g τ Q = AW d 42 28 [.ref v, x1, x2] (.ref v :: st) σ ρ g τ Q := aw_lc m42 d42_27 rfl rfl rfl
theorem s42_27n {d : Nat} {st : List Value} {σ : am_I} {ρ : am_R} {g : am_J} {τ : am_T} {Q : am_Q} {x1 x2 : Value} : AW d 42 27 [.null, x1, x2] (st) σ ρ g τ Q = AW d 42 28 [.null, x1, x2] (.null :: st) σ ρ g τ Q := aw_lc m42 d42_27 rfl rfl rfl
theorem d42_28 : decode cX4_init 28 = .ok (.aload_n 0, 1) := by decide +kernel
theorem s42_28 {d : Nat} {st : List Value} {σ : am_I} {ρ : am_R} {g : am_J} {τ : am_T} {Q : am_Q} {x1 x2 : Value} {v : Nat} : AW d 42 28 [.ref v, x1, x2] (st) σ ρ g τ Q = AW d 42 29 [.ref v, x1, x2] (.ref v :: st) σ ρ g τ Q := aw_lc m42 d42_28 rfl rfl rfl
theorem s42_28n {d : Nat} {st : List Value} {σ : am_I} {ρ : am_R} {g : am_J} {τ : am_T} {Q : am_Q} {x1 x2 : Value} : AW d 42 28 [.null, x1, x2] (st) σ ρ g τ Q = AW d 42 29 [.null, x1, x2] (.null :: st) σ ρ g τ Q := aw_lc m42 d42_28 rfl rfl rfl
theorem d42_29 : decode cX4_init 29 = .ok (.getfield 19, 3) := by decide +kernel
theorem s42_29 {d : Nat} {st : List Value} {σ : am_I} {ρ : am_R} {g : am_J} {τ : am_T} {Q : am_Q} {x0 x1 x2 : Value} {a : Nat} (ht : τ.1 a = 4) : AW d 42 29 [x0, x1, x2] (.ref a :: st) σ ρ g τ Q = AW d 42 32 [x0, x1, x2] (.int (σ a 0) :: st) σ ρ g τ Q := aw_gi m42 d42_29 rfl rfl rfl ht
theorem d42_32 : decode cX4_init 32 = .ok (.aload_n 0, 1) := by decide +kernel
theorem s42_32 {d : Nat} {st : List Value} {σ : am_I} {ρ : am_R} {g : am_J} {τ : am_T} {Q : am_Q} {x1 x2 : Value} {v : Nat} : AW d 42 32 [.ref v, x1, x2] (st) σ ρ g τ Q = AW d 42 33 [.ref v, x1, x2] (.ref v :: st) σ ρ g τ Q := aw_lc m42 d42_32 rfl rfl rfl
theorem s42_32n {d : Nat} {st : List Value} {σ : am_I} {ρ : am_R} {g : am_J} {τ : am_T} {Q : am_Q} {x1 x2 : Value} : AW d 42 32 [.null, x1, x2] (st) σ ρ g τ Q = AW d 42 33 [.null, x1, x2] (.null :: st) σ ρ g τ Q := aw_lc m42 d42_32 rfl rfl rfl
theorem d42_33 : decode cX4_init 33 = .ok (.getfield 22, 3) := by decide +kernel
theorem s42_33 {d : Nat} {st : List Value} {σ : am_I} {ρ : am_R} {g : am_J} {τ : am_T} {Q : am_Q} {x0 x1 x2 : Value} {a : Nat} (ht : τ.1 a = 4) : AW d 42 33 [x0, x1, x2] (.ref a :: st) σ ρ g τ Q = AW d 42 36 [x0, x1, x2] (.int (σ a 1) :: st) σ ρ g τ Q := aw_gi m42 d42_33 rfl rfl rfl ht
theorem d42_36 : decode cX4_init 36 = .ok (.imul, 1) := by decide +kernel
theorem s42_36 {d : Nat} {st : List Value} {σ : am_I} {ρ : am_R} {g : am_J} {τ : am_T} {Q : am_Q} {x0 x1 x2 : Value} {v w : Int32} : AW d 42 36 [x0, x1, x2] (.int w :: .int v :: st) σ ρ g τ Q = AW d 42 37 [x0, x1, x2] (.int (v * w) :: st) σ ρ g τ Q := aw_lc m42 d42_36 rfl rfl rfl
theorem d42_37 : decode cX4_init 37 = .ok (.newarray .int, 2) := by decide +kernel
theorem s42_37 {d : Nat} {st : List Value} {σ : am_I} {ρ : am_R} {g : am_J} {τ : am_T} {Q : am_Q} {x0 x1 x2 : Value} {j : Int32} (hj : ¬ j < 0 ∧ j.toNatClampNeg ≤ 10000) : AW d 42 37 [x0, x1, x2] (.int j :: st) σ ρ g τ Q = AW d 42 39 [x0, x1, x2] (.ref τ.2.2.1 :: st) (am_new 15 j.toNatClampNeg σ ρ g τ).1 (am_new 15 j.toNatClampNeg σ ρ g τ).2.1 (am_new 15 j.toNatClampNeg σ ρ g τ).2.2.1 (am_new 15 j.toNatClampNeg σ ρ g τ).2.2.2 Q := aw_nwa m42 d42_37 rfl rfl (by decide) hj
theorem d42_39 : decode cX4_init 39 = .ok (.putfield 25, 3) := by decide +kernel
theorem s42_39 {d : Nat} {st : List Value} {σ : am_I} {ρ : am_R} {g : am_J} {τ : am_T} {Q : am_Q} {x0 x1 x2 : Value} {a b : Nat} (ht : τ.1 a = 4) : AW d 42 39 [x0, x1, x2] (.ref b :: .ref a :: st) σ ρ g τ Q = AW d 42 42 [x0, x1, x2] (st) σ (am_u ρ a 2 (some b)) g τ Q := aw_pr m42 d42_39 rfl rfl (Or.inr ⟨rfl, rfl⟩) rfl ht
theorem s42_39n {d : Nat} {st : List Value} {σ : am_I} {ρ : am_R} {g : am_J} {τ : am_T} {Q : am_Q} {x0 x1 x2 : Value} {a : Nat} (ht : τ.1 a = 4) : AW d 42 39 [x0, x1, x2] (.null :: .ref a :: st) σ ρ g τ Q = AW d 42 42 [x0, x1, x2] (st) σ (am_u ρ a 2 none) g τ Q := aw_pn m42 d42_39 rfl rfl (Or.inr ⟨rfl, rfl⟩) rfl ht
theorem d42_42 : decode cX4_init 42 = .ok (.return_, 1) := by decide +kernel
theorem s42_42 {d : Nat} {σ : am_I} {ρ : am_R} {g : am_J} {τ : am_T} {Q : am_Q} {x0 x1 x2 : Value} : AW d 42 42 [x0, x1, x2] ([]) σ ρ g τ Q = Q none σ ρ g τ := aw_rv m42 d42_42 rfl
theorem d43_0 : decode cX4_isFull 0 = .ok (.aload_n 0, 1) := by decide +kernel
theorem s43_0 {d : Nat} {st : List Value} {σ : am_I} {ρ : am_R} {g : am_J} {τ : am_T} {Q : am_Q} {v : Nat} : AW d 43 0 [.ref v] (st) σ ρ g τ Q = AW d 43 1 [.ref v] (.ref v :: st) σ ρ g τ Q := aw_lc m43 d43_0 rfl rfl rfl
theorem d43_1 : decode cX4_isFull 1 = .ok (.getfield 7, 3) := by decide +kernel
theorem s43_1 {d : Nat} {st : List Value} {σ : am_I} {ρ : am_R} {g : am_J} {τ : am_T} {Q : am_Q} {x0 : Value} {a : Nat} (ht : τ.1 a = 4) : AW d 43 1 [x0] (.ref a :: st) σ ρ g τ Q = AW d 43 4 [x0] (.int (σ a 3) :: st) σ ρ g τ Q := aw_gi m43 d43_1 rfl rfl rfl ht
theorem d43_4 : decode cX4_isFull 4 = .ok (.aload_n 0, 1) := by decide +kernel
theorem s43_4 {d : Nat} {st : List Value} {σ : am_I} {ρ : am_R} {g : am_J} {τ : am_T} {Q : am_Q} {v : Nat} : AW d 43 4 [.ref v] (st) σ ρ g τ Q = AW d 43 5 [.ref v] (.ref v :: st) σ ρ g τ Q := aw_lc m43 d43_4 rfl rfl rfl
theorem d43_5 : decode cX4_isFull 5 = .ok (.getfield 19, 3) := by decide +kernel
theorem s43_5 {d : Nat} {st : List Value} {σ : am_I} {ρ : am_R} {g : am_J} {τ : am_T} {Q : am_Q} {x0 : Value} {a : Nat} (ht : τ.1 a = 4) : AW d 43 5 [x0] (.ref a :: st) σ ρ g τ Q = AW d 43 8 [x0] (.int (σ a 0) :: st) σ ρ g τ Q := aw_gi m43 d43_5 rfl rfl rfl ht
theorem d43_8 : decode cX4_isFull 8 = .ok (.if_icmp .lt 7, 3) := by decide +kernel
theorem s43_8 {d : Nat} {st : List Value} {σ : am_I} {ρ : am_R} {g : am_J} {τ : am_T} {Q : am_Q} {x0 : Value} {v w : Int32} : AW d 43 8 [x0] (.int w :: .int v :: st) σ ρ g τ Q = if v < w then AW d 43 15 [x0] (st) σ ρ g τ Q else AW d 43 11 [x0] (st) σ ρ g τ Q := aw_br m43 d43_8 rfl rfl rfl
theorem d43_11 : decode cX4_isFull 11 = .ok (.iconst 1, 1) := by decide +kernel
theorem s43_11 {d : Nat} {st : List Value} {σ : am_I} {ρ : am_R} {g : am_J} {τ : am_T} {Q : am_Q} {x0 : Value} : AW d 43 11 [x0] (st) σ ρ g τ Q = AW d 43 12 [x0] (.int 1 :: st) σ ρ g τ Q := aw_lc m43 d43_11 rfl rfl rfl
theorem d43_12 : decode cX4_isFull 12 = .ok (.goto 4, 3) := by decide +kernel
theorem s43_12 {d : Nat} {st : List Value} {σ : am_I} {ρ : am_R} {g : am_J} {τ : am_T} {Q : am_Q} {x0 : Value} : AW d 43 12 [x0] (st) σ ρ g τ Q = AW d 43 16 [x0] (st) σ ρ g τ Q := aw_lc m43 d43_12 rfl rfl rfl
theorem d43_15 : decode cX4_isFull 15 = .ok (.iconst 0, 1) := by decide +kernel
theorem s43_15 {d : Nat} {st : List Value} {σ : am_I} {ρ : am_R} {g : am_J} {τ : am_T} {Q : am_Q} {x0 : Value} : AW d 43 15 [x0] (st) σ ρ g τ Q = AW d 43 16 [x0] (.int 0 :: st) σ ρ g τ Q := aw_lc m43 d43_15 rfl rfl rfl
theorem d43_16 : decode cX4_isFull 16 = .ok (.ireturn, 1) := by decide +kernel
theorem s43_16 {d : Nat} {σ : am_I} {ρ : am_R} {g : am_J} {τ : am_T} {Q : am_Q} {x0 : Value} {v : Int32} (hv : am_b01 v = true) : AW d 43 16 [x0] ([.int v]) σ ρ g τ Q = Q (some (.int v)) σ ρ g τ := aw_rz m43 d43_16 rfl hv
theorem d44_0 : decode cX4_has 0 = .ok (.iload_n 1, 1) := by decide +kernel
theorem s44_0 {d : Nat} {st : List Value} {σ : am_I} {ρ : am_R} {g : am_J} {τ : am_T} {Q : am_Q} {x0 : Value} {v : Int32} : AW d 44 0 [x0, .int v] (st) σ ρ g τ Q = AW d 44 1 [x0, .int v] (.int v :: st) σ ρ g τ Q := aw_lc m44 d44_0 rfl rfl rfl
theorem d44_1 : decode cX4_has 1 = .ok (.iconst 0, 1) := by decide +kernel
theorem s44_1 {d : Nat} {st : List Value} {σ : am_I} {ρ : am_R} {g : am_J} {τ : am_T} {Q : am_Q} {x0 x1 : Value} : AW d 44 1 [x0, x1] (st) σ ρ g τ Q = AW d 44 2 [x0, x1] (.int 0 :: st) σ ρ g τ Q := aw_lc m44 d44_1 rfl rfl rfl
theorem d44_2 : decode cX4_has 2 = .ok (.aload_n 0, 1) := by decide +kernel
theorem s44_2 {d : Nat} {st : List Value} {σ : am_I} {ρ : am_R} {g : am_J} {τ : am_T} {Q : am_Q} {x1 : Value} {v : Nat} : AW d 44 2 [.ref v, x1] (st) σ ρ g τ Q = AW d 44 3 [.ref v, x1] (.ref v :: st) σ ρ g τ Q := aw_lc m44 d44_2 rfl rfl rfl
theorem d44_3 : decode cX4_has 3 = .ok (.getfield 7, 3) := by decide +kernel
theorem s44_3 {d : Nat} {st : List Value} {σ : am_I} {ρ : am_R} {g : am_J} {τ : am_T} {Q : am_Q} {x0 x1 : Value} {a : Nat} (ht : τ.1 a = 4) : AW d 44 3 [x0, x1] (.ref a :: st) σ ρ g τ Q = AW d 44 6 [x0, x1] (.int (σ a 3) :: st) σ ρ g τ Q := aw_gi m44 d44_3 rfl rfl rfl ht
theorem d44_6 : decode cX4_has 6 = .ok (.iconst 1, 1) := by decide +kernel
theorem s44_6 {d : Nat} {st : List Value} {σ : am_I} {ρ : am_R} {g : am_J} {τ : am_T} {Q : am_Q} {x0 x1 : Value} : AW d 44 6 [x0, x1] (st) σ ρ g τ Q = AW d 44 7 [x0, x1] (.int 1 :: st) σ ρ g τ Q := aw_lc m44 d44_6 rfl rfl rfl
theorem d44_7 : decode cX4_has 7 = .ok (.isub, 1) := by decide +kernel
theorem s44_7 {d : Nat} {st : List Value} {σ : am_I} {ρ : am_R} {g : am_J} {τ : am_T} {Q : am_Q} {x0 x1 : Value} {v w : Int32} : AW d 44 7 [x0, x1] (.int w :: .int v :: st) σ ρ g τ Q = AW d 44 8 [x0, x1] (.int (v - w) :: st) σ ρ g τ Q := aw_lc m44 d44_7 rfl rfl rfl
theorem d44_8 : decode cX4_has 8 = .ok (.invokestatic 29, 3) := by decide +kernel
theorem s44_8 {d : Nat} {st : List Value} {σ : am_I} {ρ : am_R} {g : am_J} {τ : am_T} {Q : am_Q} {x0 x1 : Value} {p0 : Int32} {p1 : Int32} {p2 : Int32} (hs : st.length ≤ 4) : AW (d + 1) 44 8 [x0, x1] (.int p2 :: .int p1 :: .int p0 :: st) σ ρ g τ Q = AW d 100 0 [.int p0, .int p1, .int p2] [] σ ρ g τ (fun r9 σ ρ g τ => AW (d + 1) 44 11 [x0, x1] (r9.toList ++ st) σ ρ g τ Q) := aw_cn m44 d44_8 rfl (by simp only [List.length_cons]; omega) rfl rfl en100 ok100 rfl hs
theorem d44_11 : decode cX4_has 11 = .ok (.ireturn, 1) := by decide +kernel
theorem s44_11 {d : Nat} {σ : am_I} {ρ : am_R} {g : am_J} {τ : am_T} {Q : am_Q} {x0 x1 : Value} {v : Int32} (hv : am_b01 v = true) : AW d 44 11 [x0, x1] ([.int v]) σ ρ g τ Q = Q (some (.int v)) σ ρ g τ := aw_rz m44 d44_11 rfl hv
theorem d45_0 : decode cX4_begin 0 = .ok (.aload_n 0, 1) := by decide +kernel
theorem s45_0 {d : Nat} {st : List Value} {σ : am_I} {ρ : am_R} {g : am_J} {τ : am_T} {Q : am_Q} {v : Nat} : AW d 45 0 [.ref v] (st) σ ρ g τ Q = AW d 45 1 [.ref v] (.ref v :: st) σ ρ g τ Q := aw_lc m45 d45_0 rfl rfl rfl
theorem d45_1 : decode cX4_begin 1 = .ok (.getfield 7, 3) := by decide +kernel
theorem s45_1 {d : Nat} {st : List Value} {σ : am_I} {ρ : am_R} {g : am_J} {τ : am_T} {Q : am_Q} {x0 : Value} {a : Nat} (ht : τ.1 a = 4) : AW d 45 1 [x0] (.ref a :: st) σ ρ g τ Q = AW d 45 4 [x0] (.int (σ a 3) :: st) σ ρ g τ Q := aw_gi m45 d45_1 rfl rfl rfl ht
theorem d45_4 : decode cX4_begin 4 = .ok (.aload_n 0, 1) := by decide +kernel
theorem s45_4 {d : Nat} {st : List Value} {σ : am_I} {ρ : am_R} {g : am_J} {τ : am_T} {Q : am_Q} {v : Nat} : AW d 45 4 [.ref v] (st) σ ρ g τ Q = AW d 45 5 [.ref v] (.ref v :: st) σ ρ g τ Q := aw_lc m45 d45_4 rfl rfl rfl
theorem d45_5 : decode cX4_begin 5 = .ok (.getfield 19, 3) := by decide +kernel
theorem s45_5 {d : Nat} {st : List Value} {σ : am_I} {ρ : am_R} {g : am_J} {τ : am_T} {Q : am_Q} {x0 : Value} {a : Nat} (ht : τ.1 a = 4) : AW d 45 5 [x0] (.ref a :: st) σ ρ g τ Q = AW d 45 8 [x0] (.int (σ a 0) :: st) σ ρ g τ Q := aw_gi m45 d45_5 rfl rfl rfl ht
theorem d45_8 : decode cX4_begin 8 = .ok (.if_icmp .ge 13, 3) := by decide +kernel
theorem s45_8 {d : Nat} {st : List Value} {σ : am_I} {ρ : am_R} {g : am_J} {τ : am_T} {Q : am_Q} {x0 : Value} {v w : Int32} : AW d 45 8 [x0] (.int w :: .int v :: st) σ ρ g τ Q = if w ≤ v then AW d 45 21 [x0] (st) σ ρ g τ Q else AW d 45 11 [x0] (st) σ ρ g τ Q := aw_br m45 d45_8 rfl rfl rfl
theorem d45_11 : decode cX4_begin 11 = .ok (.aload_n 0, 1) := by decide +kernel
theorem s45_11 {d : Nat} {st : List Value} {σ : am_I} {ρ : am_R} {g : am_J} {τ : am_T} {Q : am_Q} {v : Nat} : AW d 45 11 [.ref v] (st) σ ρ g τ Q = AW d 45 12 [.ref v] (.ref v :: st) σ ρ g τ Q := aw_lc m45 d45_11 rfl rfl rfl
theorem d45_12 : decode cX4_begin 12 = .ok (.dup, 1) := by decide +kernel
theorem s45_12 {d : Nat} {st : List Value} {σ : am_I} {ρ : am_R} {g : am_J} {τ : am_T} {Q : am_Q} {x0 : Value} {v : Int32} : AW d 45 12 [x0] (.int v :: st) σ ρ g τ Q = AW d 45 13 [x0] (.int v :: .int v :: st) σ ρ g τ Q := aw_lc m45 d45_12 rfl rfl rfl
theorem s45_12r {d : Nat} {st : List Value} {σ : am_I} {ρ : am_R} {g : am_J} {τ : am_T} {Q : am_Q} {x0 : Value} {v : Nat} : AW d 45 12 [x0] (.ref v :: st) σ ρ g τ Q = AW d 45 13 [x0] (.ref v :: .ref v :: st) σ ρ g τ Q := aw_lc m45 d45_12 rfl rfl rfl
theorem d45_13 : decode cX4_begin 13 = .ok (.getfield 7, 3) := by decide +kernel
theorem s45_13 {d : Nat} {st : List Value} {σ : am_I} {ρ : am_R} {g : am_J} {τ : am_T} {Q : am_Q} {x0 : Value} {a : Nat} (ht : τ.1 a = 4) : AW d 45 13 [x0] (.ref a :: st) σ ρ g τ Q = AW d 45 16 [x0] (.int (σ a 3) :: st) σ ρ g τ Q := aw_gi m45 d45_13 rfl rfl rfl ht
theorem d45_16 : decode cX4_begin 16 = .ok (.iconst 1, 1) := by decide +kernel
theorem s45_16 {d : Nat} {st : List Value} {σ : am_I} {ρ : am_R} {g : am_J} {τ : am_T} {Q : am_Q} {x0 : Value} : AW d 45 16 [x0] (st) σ ρ g τ Q = AW d 45 17 [x0] (.int 1 :: st) σ ρ g τ Q := aw_lc m45 d45_16 rfl rfl rfl
theorem d45_17 : decode cX4_begin 17 = .ok (.iadd, 1) := by decide +kernel
theorem s45_17 {d : Nat} {st : List Value} {σ : am_I} {ρ : am_R} {g : am_J} {τ : am_T} {Q : am_Q} {x0 : Value} {v w : Int32} : AW d 45 17 [x0] (.int w :: .int v :: st) σ ρ g τ Q = AW d 45 18 [x0] (.int (v + w) :: st) σ ρ g τ Q := aw_lc m45 d45_17 rfl rfl rfl
theorem d45_18 : decode cX4_begin 18 = .ok (.putfield 7, 3) := by decide +kernel
theorem s45_18 {d : Nat} {st : List Value} {σ : am_I} {ρ : am_R} {g : am_J} {τ : am_T} {Q : am_Q} {x0 : Value} {a : Nat} {v : Int32} (ht : τ.1 a = 4) : AW d 45 18 [x0] (.int v :: .ref a :: st) σ ρ g τ Q = AW d 45 21 [x0] (st) (am_u σ a 3 v) ρ g τ Q := aw_pi m45 d45_18 rfl rfl (Or.inl rfl) rfl ht
theorem d45_21 : decode cX4_begin 21 = .ok (.aload_n 0, 1) := by decide +kernel
theorem s45_21 {d : Nat} {st : List Value} {σ : am_I} {ρ : am_R} {g : am_J} {τ : am_T} {Q : am_Q} {v : Nat} : AW d 45 21 [.ref v] (st) σ ρ g τ Q = AW d 45 22 [.ref v] (.ref v :: st) σ ρ g τ Q := aw_lc m45 d45_21 rfl rfl rfl
theorem d45_22 : decode cX4_begin 22 = .ok (.getfield 7, 3) := by decide +kernel
theorem s45_22 {d : Nat} {st : List Value} {σ : am_I} {ρ : am_R} {g : am_J} {τ : am_T} {Q : am_Q} {x0 : Value} {a : Nat} (ht : τ.1 a = 4) : AW d 45 22 [x0] (.ref a :: st) σ ρ g τ Q = AW d 45 25 [x0] (.int (σ a 3) :: st) σ ρ g τ Q := aw_gi m45 d45_22 rfl rfl rfl ht
theorem d45_25 : decode cX4_begin 25 = .ok (.iconst 1, 1) := by decide +kernel
theorem s45_25 {d : Nat} {st : List Value} {σ : am_I} {ρ : am_R} {g : am_J} {τ : am_T} {Q : am_Q} {x0 : Value} : AW d 45 25 [x0] (st) σ ρ g τ Q = AW d 45 26 [x0] (.int 1 :: st) σ ρ g τ Q := aw_lc m45 d45_25 rfl rfl rfl
theorem d45_26 : decode cX4_begin 26 = .ok (.isub, 1) := by decide +kernel
theorem s45_26 {d : Nat} {st : List Value} {σ : am_I} {ρ : am_R} {g : am_J} {τ : am_T} {Q : am_Q} {x0 : Value} {v w : Int32} : AW d 45 26 [x0] (.int w :: .int v :: st) σ ρ g τ Q = AW d 45 27 [x0] (.int (v - w) :: st) σ ρ g τ Q := aw_lc m45 d45_26 rfl rfl rfl
theorem d45_27 : decode cX4_begin 27 = .ok (.ireturn, 1) := by decide +kernel
theorem s45_27 {d : Nat} {σ : am_I} {ρ : am_R} {g : am_J} {τ : am_T} {Q : am_Q} {x0 : Value} {v : Int32} : AW d 45 27 [x0] ([.int v]) σ ρ g τ Q = Q (some (.int v)) σ ρ g τ := aw_ri m45 d45_27 rfl
theorem d46_0 : decode cX4_at 0 = .ok (.aload_n 0, 1) := by decide +kernel
theorem s46_0 {d : Nat} {st : List Value} {σ : am_I} {ρ : am_R} {g : am_J} {τ : am_T} {Q : am_Q} {x1 x2 : Value} {v : Nat} : AW d 46 0 [.ref v, x1, x2] (st) σ ρ g τ Q = AW d 46 1 [.ref v, x1, x2] (.ref v :: st) σ ρ g τ Q := aw_lc m46 d46_0 rfl rfl rfl
theorem d46_1 : decode cX4_at 1 = .ok (.iload_n 1, 1) := by decide +kernel
theorem s46_1 {d : Nat} {st : List Value} {σ : am_I} {ρ : am_R} {g : am_J} {τ : am_T} {Q : am_Q} {x0 x2 : Value} {v : Int32} : AW d 46 1 [x0, .int v, x2] (st) σ ρ g τ Q = AW d 46 2 [x0, .int v, x2] (.int v :: st) σ ρ g τ Q := aw_lc m46 d46_1 rfl rfl rfl
theorem d46_2 : decode cX4_at 2 = .ok (.invokevirtual 35, 3) := by decide +kernel
theorem s46_2 {d : Nat} {st : List Value} {σ : am_I} {ρ : am_R} {g : am_J} {τ : am_T} {Q : am_Q} {x0 x1 x2 : Value} {p0 : Nat} {p1 : Int32} (ht : τ.1 p0 = 4) (hs : st.length ≤ 4) : AW (d + 1) 46 2 [x0, x1, x2] (.int p1 :: .ref p0 :: st) σ ρ g τ Q = AW d 44 0 [.ref p0, .int p1] [] σ ρ g τ (fun r9 σ ρ g τ => AW (d + 1) 46 5 [x0, x1, x2] (r9.toList ++ st) σ ρ g τ Q) := aw_cv m46 d46_2 rfl m44 rfl rfl (by decide) en44 ok44 rfl ht hs
theorem d46_5 : decode cX4_at 5 = .ok (.ifCond .eq 33, 3) := by decide +kernel
theorem s46_5 {d : Nat} {st : List Value} {σ : am_I} {ρ : am_R} {g : am_J} {τ : am_T} {Q : am_Q} {x0 x1 x2 : Value} {v : Int32} : AW d 46 5 [x0, x1, x2] (.int v :: st) σ ρ g τ Q = if v = 0 then AW d 46 38 [x0, x1, x2] (st) σ ρ g τ Q else AW d 46 8 [x0, x1, x2] (st) σ ρ g τ Q := aw_br m46 d46_5 rfl rfl rfl
theorem d46_8 : decode cX4_at 8 = .ok (.iload_n 2, 1) := by decide +kernel
theorem s46_8 {d : Nat} {st : List Value} {σ : am_I} {ρ : am_R} {g : am_J} {τ : am_T} {Q : am_Q} {x0 x1 : Value} {v : Int32} : AW d 46 8 [x0, x1, .int v] (st) σ ρ g τ Q = AW d 46 9 [x0, x1, .int v] (.int v :: st) σ ρ g τ Q := aw_lc m46 d46_8 rfl rfl rfl
theorem d46_9 : decode cX4_at 9 = .ok (.iconst 0, 1) := by decide +kernel
theorem s46_9 {d : Nat} {st : List Value} {σ : am_I} {ρ : am_R} {g : am_J} {τ : am_T} {Q : am_Q} {x0 x1 x2 : Value} : AW d 46 9 [x0, x1, x2] (st) σ ρ g τ Q = AW d 46 10 [x0, x1, x2] (.int 0 :: st) σ ρ g τ Q := aw_lc m46 d46_9 rfl rfl rfl
theorem d46_10 : decode cX4_at 10 = .ok (.aload_n 0, 1) := by decide +kernel
theorem s46_10 {d : Nat} {st : List Value} {σ : am_I} {ρ : am_R} {g : am_J} {τ : am_T} {Q : am_Q} {x1 x2 : Value} {v : Nat} : AW d 46 10 [.ref v, x1, x2] (st) σ ρ g τ Q = AW d 46 11 [.ref v, x1, x2] (.ref v :: st) σ ρ g τ Q := aw_lc m46 d46_10 rfl rfl rfl
theorem d46_11 : decode cX4_at 11 = .ok (.getfield 22, 3) := by decide +kernel
theorem s46_11 {d : Nat} {st : List Value} {σ : am_I} {ρ : am_R} {g : am_J} {τ : am_T} {Q : am_Q} {x0 x1 x2 : Value} {a : Nat} (ht : τ.1 a = 4) : AW d 46 11 [x0, x1, x2] (.ref a :: st) σ ρ g τ Q = AW d 46 14 [x0, x1, x2] (.int (σ a 1) :: st) σ ρ g τ Q := aw_gi m46 d46_11 rfl rfl rfl ht
theorem d46_14 : decode cX4_at 14 = .ok (.iconst 1, 1) := by decide +kernel
theorem s46_14 {d : Nat} {st : List Value} {σ : am_I} {ρ : am_R} {g : am_J} {τ : am_T} {Q : am_Q} {x0 x1 x2 : Value} : AW d 46 14 [x0, x1, x2] (st) σ ρ g τ Q = AW d 46 15 [x0, x1, x2] (.int 1 :: st) σ ρ g τ Q := aw_lc m46 d46_14 rfl rfl rfl
theorem d46_15 : decode cX4_at 15 = .ok (.isub, 1) := by decide +kernel
theorem s46_15 {d : Nat} {st : List Value} {σ : am_I} {ρ : am_R} {g : am_J} {τ : am_T} {Q : am_Q} {x0 x1 x2 : Value} {v w : Int32} : AW d 46 15 [x0, x1, x2] (.int w :: .int v :: st) σ ρ g τ Q = AW d 46 16 [x0, x1, x2] (.int (v - w) :: st) σ ρ g τ Q := aw_lc m46 d46_15 rfl rfl rfl
theorem d46_16 : decode cX4_at 16 = .ok (.invokestatic 29, 3) := by decide +kernel
theorem s46_16 {d : Nat} {st : List Value} {σ : am_I} {ρ : am_R} {g : am_J} {τ : am_T} {Q : am_Q} {x0 x1 x2 : Value} {p0 : Int32} {p1 : Int32} {p2 : Int32} (hs : st.length ≤ 4) : AW (d + 1) 46 16 [x0, x1, x2] (.int p2 :: .int p1 :: .int p0 :: st) σ ρ g τ Q = AW d 100 0 [.int p0, .int p1, .int p2] [] σ ρ g τ (fun r9 σ ρ g τ => AW (d + 1) 46 19 [x0, x1, x2] (r9.toList ++ st) σ ρ g τ Q) := aw_cn m46 d46_16 rfl (by simp only [List.length_cons]; omega) rfl rfl en100 ok100 rfl hs
theorem d46_19 : decode cX4_at 19 = .ok (.ifCond .eq 19, 3) := by decide +kernel
theorem s46_19 {d : Nat} {st : List Value} {σ : am_I} {ρ : am_R} {g : am_J} {τ : am_T} {Q : am_Q} {x0 x1 x2 : Value} {v : Int32} : AW d 46 19 [x0, x1, x2] (.int v :: st) σ ρ g τ Q = if v = 0 then AW d 46 38 [x0, x1, x2] (st) σ ρ g τ Q else AW d 46 22 [x0, x1, x2] (st) σ ρ g τ Q := aw_br m46 d46_19 rfl rfl rfl
theorem d46_22 : decode cX4_at 22 = .ok (.aload_n 0, 1) := by decide +kernel
theorem s46_22 {d : Nat} {st : List Value} {σ : am_I} {ρ : am_R} {g : am_J} {τ : am_T} {Q : am_Q} {x1 x2 : Value} {v : Nat} : AW d 46 22 [.ref v, x1, x2] (st) σ ρ g τ Q = AW d 46 23 [.ref v, x1, x2] (.ref v :: st) σ ρ g τ Q := aw_lc m46 d46_22 rfl rfl rfl
theorem d46_23 : decode cX4_at 23 = .ok (.getfield 25, 3) := by decide +kernel
theorem s46_23 {d : Nat} {st : List Value} {σ : am_I} {ρ : am_R} {g : am_J} {τ : am_T} {Q : am_Q} {x0 x1 x2 : Value} {a : Nat} (ht : τ.1 a = 4) : AW d 46 23 [x0, x1, x2] (.ref a :: st) σ ρ g τ Q = AW d 46 26 [x0, x1, x2] (va_rf (ρ a 2) :: st) σ ρ g τ Q := aw_gr m46 d46_23 rfl rfl rfl ht
theorem d46_26 : decode cX4_at 26 = .ok (.iload_n 1, 1) := by decide +kernel
theorem s46_26 {d : Nat} {st : List Value} {σ : am_I} {ρ : am_R} {g : am_J} {τ : am_T} {Q : am_Q} {x0 x2 : Value} {v : Int32} : AW d 46 26 [x0, .int v, x2] (st) σ ρ g τ Q = AW d 46 27 [x0, .int v, x2] (.int v :: st) σ ρ g τ Q := aw_lc m46 d46_26 rfl rfl rfl
theorem d46_27 : decode cX4_at 27 = .ok (.aload_n 0, 1) := by decide +kernel
theorem s46_27 {d : Nat} {st : List Value} {σ : am_I} {ρ : am_R} {g : am_J} {τ : am_T} {Q : am_Q} {x1 x2 : Value} {v : Nat} : AW d 46 27 [.ref v, x1, x2] (st) σ ρ g τ Q = AW d 46 28 [.ref v, x1, x2] (.ref v :: st) σ ρ g τ Q := aw_lc m46 d46_27 rfl rfl rfl
theorem d46_28 : decode cX4_at 28 = .ok (.getfield 22, 3) := by decide +kernel
theorem s46_28 {d : Nat} {st : List Value} {σ : am_I} {ρ : am_R} {g : am_J} {τ : am_T} {Q : am_Q} {x0 x1 x2 : Value} {a : Nat} (ht : τ.1 a = 4) : AW d 46 28 [x0, x1, x2] (.ref a :: st) σ ρ g τ Q = AW d 46 31 [x0, x1, x2] (.int (σ a 1) :: st) σ ρ g τ Q := aw_gi m46 d46_28 rfl rfl rfl ht
theorem d46_31 : decode cX4_at 31 = .ok (.imul, 1) := by decide +kernel
theorem s46_31 {d : Nat} {st : List Value} {σ : am_I} {ρ : am_R} {g : am_J} {τ : am_T} {Q : am_Q} {x0 x1 x2 : Value} {v w : Int32} : AW d 46 31 [x0, x1, x2] (.int w :: .int v :: st) σ ρ g τ Q = AW d 46 32 [x0, x1, x2] (.int (v * w) :: st) σ ρ g τ Q := aw_lc m46 d46_31 rfl rfl rfl
theorem d46_32 : decode cX4_at 32 = .ok (.iload_n 2, 1) := by decide +kernel
theorem s46_32 {d : Nat} {st : List Value} {σ : am_I} {ρ : am_R} {g : am_J} {τ : am_T} {Q : am_Q} {x0 x1 : Value} {v : Int32} : AW d 46 32 [x0, x1, .int v] (st) σ ρ g τ Q = AW d 46 33 [x0, x1, .int v] (.int v :: st) σ ρ g τ Q := aw_lc m46 d46_32 rfl rfl rfl
theorem d46_33 : decode cX4_at 33 = .ok (.iadd, 1) := by decide +kernel
theorem s46_33 {d : Nat} {st : List Value} {σ : am_I} {ρ : am_R} {g : am_J} {τ : am_T} {Q : am_Q} {x0 x1 x2 : Value} {v w : Int32} : AW d 46 33 [x0, x1, x2] (.int w :: .int v :: st) σ ρ g τ Q = AW d 46 34 [x0, x1, x2] (.int (v + w) :: st) σ ρ g τ Q := aw_lc m46 d46_33 rfl rfl rfl
theorem d46_34 : decode cX4_at 34 = .ok (.iaload, 1) := by decide +kernel
theorem s46_34 {d : Nat} {st : List Value} {σ : am_I} {ρ : am_R} {g : am_J} {τ : am_T} {Q : am_Q} {x0 x1 x2 : Value} {a : Nat} {j : Int32} (ht : τ.1 a = 15) (hj : am_inb j (τ.2.1 a) = true) : AW d 46 34 [x0, x1, x2] (.int j :: .ref a :: st) σ ρ g τ Q = AW d 46 35 [x0, x1, x2] (.int (σ a j.toNatClampNeg) :: st) σ ρ g τ Q := aw_ial m46 d46_34 rfl ht hj
theorem d46_35 : decode cX4_at 35 = .ok (.goto 4, 3) := by decide +kernel
theorem s46_35 {d : Nat} {st : List Value} {σ : am_I} {ρ : am_R} {g : am_J} {τ : am_T} {Q : am_Q} {x0 x1 x2 : Value} : AW d 46 35 [x0, x1, x2] (st) σ ρ g τ Q = AW d 46 39 [x0, x1, x2] (st) σ ρ g τ Q := aw_lc m46 d46_35 rfl rfl rfl
theorem d46_38 : decode cX4_at 38 = .ok (.iconst 0, 1) := by decide +kernel
theorem s46_38 {d : Nat} {st : List Value} {σ : am_I} {ρ : am_R} {g : am_J} {τ : am_T} {Q : am_Q} {x0 x1 x2 : Value} : AW d 46 38 [x0, x1, x2] (st) σ ρ g τ Q = AW d 46 39 [x0, x1, x2] (.int 0 :: st) σ ρ g τ Q := aw_lc m46 d46_38 rfl rfl rfl
theorem d46_39 : decode cX4_at 39 = .ok (.ireturn, 1) := by decide +kernel
theorem s46_39 {d : Nat} {σ : am_I} {ρ : am_R} {g : am_J} {τ : am_T} {Q : am_Q} {x0 x1 x2 : Value} {v : Int32} : AW d 46 39 [x0, x1, x2] ([.int v]) σ ρ g τ Q = Q (some (.int v)) σ ρ g τ := aw_ri m46 d46_39 rfl
theorem d47_0 : decode cX4_set 0 = .ok (.aload_n 0, 1) := by decide +kernel
theorem s47_0 {d : Nat} {st : List Value} {σ : am_I} {ρ : am_R} {g : am_J} {τ : am_T} {Q : am_Q} {x1 x2 x3 : Value} {v : Nat} : AW d 47 0 [.ref v, x1, x2, x3] (st) σ ρ g τ Q = AW d 47 1 [.ref v, x1, x2, x3] (.ref v :: st) σ ρ g τ Q := aw_lc m47 d47_0 rfl rfl rfl
theorem d47_1 : decode cX4_set 1 = .ok (.iload_n 1, 1) := by decide +kernel
theorem s47_1 {d : Nat} {st : List Value} {σ : am_I} {ρ : am_R} {g : am_J} {τ : am_T} {Q : am_Q} {x0 x2 x3 : Value} {v : Int32} : AW d 47 1 [x0, .int v, x2, x3] (st) σ ρ g τ Q = AW d 47 2 [x0, .int v, x2, x3] (.int v :: st) σ ρ g τ Q := aw_lc m47 d47_1 rfl rfl rfl
theorem d47_2 : decode cX4_set 2 = .ok (.invokevirtual 35, 3) := by decide +kernel
theorem s47_2 {d : Nat} {st : List Value} {σ : am_I} {ρ : am_R} {g : am_J} {τ : am_T} {Q : am_Q} {x0 x1 x2 x3 : Value} {p0 : Nat} {p1 : Int32} (ht : τ.1 p0 = 4) (hs : st.length ≤ 4) : AW (d + 1) 47 2 [x0, x1, x2, x3] (.int p1 :: .ref p0 :: st) σ ρ g τ Q = AW d 44 0 [.ref p0, .int p1] [] σ ρ g τ (fun r9 σ ρ g τ => AW (d + 1) 47 5 [x0, x1, x2, x3] (r9.toList ++ st) σ ρ g τ Q) := aw_cv m47 d47_2 rfl m44 rfl rfl (by decide) en44 ok44 rfl ht hs
theorem d47_5 : decode cX4_set 5 = .ok (.ifCond .eq 31, 3) := by decide +kernel
theorem s47_5 {d : Nat} {st : List Value} {σ : am_I} {ρ : am_R} {g : am_J} {τ : am_T} {Q : am_Q} {x0 x1 x2 x3 : Value} {v : Int32} : AW d 47 5 [x0, x1, x2, x3] (.int v :: st) σ ρ g τ Q = if v = 0 then AW d 47 36 [x0, x1, x2, x3] (st) σ ρ g τ Q else AW d 47 8 [x0, x1, x2, x3] (st) σ ρ g τ Q := aw_br m47 d47_5 rfl rfl rfl
theorem d47_8 : decode cX4_set 8 = .ok (.iload_n 2, 1) := by decide +kernel
theorem s47_8 {d : Nat} {st : List Value} {σ : am_I} {ρ : am_R} {g : am_J} {τ : am_T} {Q : am_Q} {x0 x1 x3 : Value} {v : Int32} : AW d 47 8 [x0, x1, .int v, x3] (st) σ ρ g τ Q = AW d 47 9 [x0, x1, .int v, x3] (.int v :: st) σ ρ g τ Q := aw_lc m47 d47_8 rfl rfl rfl
theorem d47_9 : decode cX4_set 9 = .ok (.iconst 0, 1) := by decide +kernel
theorem s47_9 {d : Nat} {st : List Value} {σ : am_I} {ρ : am_R} {g : am_J} {τ : am_T} {Q : am_Q} {x0 x1 x2 x3 : Value} : AW d 47 9 [x0, x1, x2, x3] (st) σ ρ g τ Q = AW d 47 10 [x0, x1, x2, x3] (.int 0 :: st) σ ρ g τ Q := aw_lc m47 d47_9 rfl rfl rfl
theorem d47_10 : decode cX4_set 10 = .ok (.aload_n 0, 1) := by decide +kernel
theorem s47_10 {d : Nat} {st : List Value} {σ : am_I} {ρ : am_R} {g : am_J} {τ : am_T} {Q : am_Q} {x1 x2 x3 : Value} {v : Nat} : AW d 47 10 [.ref v, x1, x2, x3] (st) σ ρ g τ Q = AW d 47 11 [.ref v, x1, x2, x3] (.ref v :: st) σ ρ g τ Q := aw_lc m47 d47_10 rfl rfl rfl
theorem d47_11 : decode cX4_set 11 = .ok (.getfield 22, 3) := by decide +kernel
theorem s47_11 {d : Nat} {st : List Value} {σ : am_I} {ρ : am_R} {g : am_J} {τ : am_T} {Q : am_Q} {x0 x1 x2 x3 : Value} {a : Nat} (ht : τ.1 a = 4) : AW d 47 11 [x0, x1, x2, x3] (.ref a :: st) σ ρ g τ Q = AW d 47 14 [x0, x1, x2, x3] (.int (σ a 1) :: st) σ ρ g τ Q := aw_gi m47 d47_11 rfl rfl rfl ht
theorem d47_14 : decode cX4_set 14 = .ok (.iconst 1, 1) := by decide +kernel
theorem s47_14 {d : Nat} {st : List Value} {σ : am_I} {ρ : am_R} {g : am_J} {τ : am_T} {Q : am_Q} {x0 x1 x2 x3 : Value} : AW d 47 14 [x0, x1, x2, x3] (st) σ ρ g τ Q = AW d 47 15 [x0, x1, x2, x3] (.int 1 :: st) σ ρ g τ Q := aw_lc m47 d47_14 rfl rfl rfl
theorem d47_15 : decode cX4_set 15 = .ok (.isub, 1) := by decide +kernel
theorem s47_15 {d : Nat} {st : List Value} {σ : am_I} {ρ : am_R} {g : am_J} {τ : am_T} {Q : am_Q} {x0 x1 x2 x3 : Value} {v w : Int32} : AW d 47 15 [x0, x1, x2, x3] (.int w :: .int v :: st) σ ρ g τ Q = AW d 47 16 [x0, x1, x2, x3] (.int (v - w) :: st) σ ρ g τ Q := aw_lc m47 d47_15 rfl rfl rfl
theorem d47_16 : decode cX4_set 16 = .ok (.invokestatic 29, 3) := by decide +kernel
theorem s47_16 {d : Nat} {st : List Value} {σ : am_I} {ρ : am_R} {g : am_J} {τ : am_T} {Q : am_Q} {x0 x1 x2 x3 : Value} {p0 : Int32} {p1 : Int32} {p2 : Int32} (hs : st.length ≤ 4) : AW (d + 1) 47 16 [x0, x1, x2, x3] (.int p2 :: .int p1 :: .int p0 :: st) σ ρ g τ Q = AW d 100 0 [.int p0, .int p1, .int p2] [] σ ρ g τ (fun r9 σ ρ g τ => AW (d + 1) 47 19 [x0, x1, x2, x3] (r9.toList ++ st) σ ρ g τ Q) := aw_cn m47 d47_16 rfl (by simp only [List.length_cons]; omega) rfl rfl en100 ok100 rfl hs
theorem d47_19 : decode cX4_set 19 = .ok (.ifCond .eq 17, 3) := by decide +kernel
theorem s47_19 {d : Nat} {st : List Value} {σ : am_I} {ρ : am_R} {g : am_J} {τ : am_T} {Q : am_Q} {x0 x1 x2 x3 : Value} {v : Int32} : AW d 47 19 [x0, x1, x2, x3] (.int v :: st) σ ρ g τ Q = if v = 0 then AW d 47 36 [x0, x1, x2, x3] (st) σ ρ g τ Q else AW d 47 22 [x0, x1, x2, x3] (st) σ ρ g τ Q := aw_br m47 d47_19 rfl rfl rfl
theorem d47_22 : decode cX4_set 22 = .ok (.aload_n 0, 1) := by decide +kernel
theorem s47_22 {d : Nat} {st : List Value} {σ : am_I} {ρ : am_R} {g : am_J} {τ : am_T} {Q : am_Q} {x1 x2 x3 : Value} {v : Nat} : AW d 47 22 [.ref v, x1, x2, x3] (st) σ ρ g τ Q = AW d 47 23 [.ref v, x1, x2, x3] (.ref v :: st) σ ρ g τ Q := aw_lc m47 d47_22 rfl rfl rfl
theorem d47_23 : decode cX4_set 23 = .ok (.getfield 25, 3) := by decide +kernel
theorem s47_23 {d : Nat} {st : List Value} {σ : am_I} {ρ : am_R} {g : am_J} {τ : am_T} {Q : am_Q} {x0 x1 x2 x3 : Value} {a : Nat} (ht : τ.1 a = 4) : AW d 47 23 [x0, x1, x2, x3] (.ref a :: st) σ ρ g τ Q = AW d 47 26 [x0, x1, x2, x3] (va_rf (ρ a 2) :: st) σ ρ g τ Q := aw_gr m47 d47_23 rfl rfl rfl ht
theorem d47_26 : decode cX4_set 26 = .ok (.iload_n 1, 1) := by decide +kernel
theorem s47_26 {d : Nat} {st : List Value} {σ : am_I} {ρ : am_R} {g : am_J} {τ : am_T} {Q : am_Q} {x0 x2 x3 : Value} {v : Int32} : AW d 47 26 [x0, .int v, x2, x3] (st) σ ρ g τ Q = AW d 47 27 [x0, .int v, x2, x3] (.int v :: st) σ ρ g τ Q := aw_lc m47 d47_26 rfl rfl rfl
theorem d47_27 : decode cX4_set 27 = .ok (.aload_n 0, 1) := by decide +kernel
theorem s47_27 {d : Nat} {st : List Value} {σ : am_I} {ρ : am_R} {g : am_J} {τ : am_T} {Q : am_Q} {x1 x2 x3 : Value} {v : Nat} : AW d 47 27 [.ref v, x1, x2, x3] (st) σ ρ g τ Q = AW d 47 28 [.ref v, x1, x2, x3] (.ref v :: st) σ ρ g τ Q := aw_lc m47 d47_27 rfl rfl rfl
theorem d47_28 : decode cX4_set 28 = .ok (.getfield 22, 3) := by decide +kernel
theorem s47_28 {d : Nat} {st : List Value} {σ : am_I} {ρ : am_R} {g : am_J} {τ : am_T} {Q : am_Q} {x0 x1 x2 x3 : Value} {a : Nat} (ht : τ.1 a = 4) : AW d 47 28 [x0, x1, x2, x3] (.ref a :: st) σ ρ g τ Q = AW d 47 31 [x0, x1, x2, x3] (.int (σ a 1) :: st) σ ρ g τ Q := aw_gi m47 d47_28 rfl rfl rfl ht
theorem d47_31 : decode cX4_set 31 = .ok (.imul, 1) := by decide +kernel
theorem s47_31 {d : Nat} {st : List Value} {σ : am_I} {ρ : am_R} {g : am_J} {τ : am_T} {Q : am_Q} {x0 x1 x2 x3 : Value} {v w : Int32} : AW d 47 31 [x0, x1, x2, x3] (.int w :: .int v :: st) σ ρ g τ Q = AW d 47 32 [x0, x1, x2, x3] (.int (v * w) :: st) σ ρ g τ Q := aw_lc m47 d47_31 rfl rfl rfl
theorem d47_32 : decode cX4_set 32 = .ok (.iload_n 2, 1) := by decide +kernel
theorem s47_32 {d : Nat} {st : List Value} {σ : am_I} {ρ : am_R} {g : am_J} {τ : am_T} {Q : am_Q} {x0 x1 x3 : Value} {v : Int32} : AW d 47 32 [x0, x1, .int v, x3] (st) σ ρ g τ Q = AW d 47 33 [x0, x1, .int v, x3] (.int v :: st) σ ρ g τ Q := aw_lc m47 d47_32 rfl rfl rfl
theorem d47_33 : decode cX4_set 33 = .ok (.iadd, 1) := by decide +kernel
theorem s47_33 {d : Nat} {st : List Value} {σ : am_I} {ρ : am_R} {g : am_J} {τ : am_T} {Q : am_Q} {x0 x1 x2 x3 : Value} {v w : Int32} : AW d 47 33 [x0, x1, x2, x3] (.int w :: .int v :: st) σ ρ g τ Q = AW d 47 34 [x0, x1, x2, x3] (.int (v + w) :: st) σ ρ g τ Q := aw_lc m47 d47_33 rfl rfl rfl
theorem d47_34 : decode cX4_set 34 = .ok (.iload_n 3, 1) := by decide +kernel
theorem s47_34 {d : Nat} {st : List Value} {σ : am_I} {ρ : am_R} {g : am_J} {τ : am_T} {Q : am_Q} {x0 x1 x2 : Value} {v : Int32} : AW d 47 34 [x0, x1, x2, .int v] (st) σ ρ g τ Q = AW d 47 35 [x0, x1, x2, .int v] (.int v :: st) σ ρ g τ Q := aw_lc m47 d47_34 rfl rfl rfl
theorem d47_35 : decode cX4_set 35 = .ok (.iastore, 1) := by decide +kernel
theorem s47_35 {d : Nat} {st : List Value} {σ : am_I} {ρ : am_R} {g : am_J} {τ : am_T} {Q : am_Q} {x0 x1 x2 x3 : Value} {a : Nat} {j v : Int32} (ht : τ.1 a = 15) (ha : a < am_BG) (hj : am_inb j (τ.2.1 a) = true) : AW d 47 35 [x0, x1, x2, x3] (.int v :: .int j :: .ref a :: st) σ ρ g τ Q = AW d 47 36 [x0, x1, x2, x3] (st) (am_u σ a j.toNatClampNeg v) ρ g τ Q := aw_ias m47 d47_35 rfl ht ha hj
theorem d47_36 : decode cX4_set 36 = .ok (.return_, 1) := by decide +kernel
theorem s47_36 {d : Nat} {σ : am_I} {ρ : am_R} {g : am_J} {τ : am_T} {Q : am_Q} {x0 x1 x2 x3 : Value} : AW d 47 36 [x0, x1, x2, x3] ([]) σ ρ g τ Q = Q none σ ρ g τ := aw_rv m47 d47_36 rfl
theorem d48_0 : decode cX4_sumOf 0 = .ok (.iconst 0, 1) := by decide +kernel
theorem s48_0 {d : Nat} {st : List Value} {σ : am_I} {ρ : am_R} {g : am_J} {τ : am_T} {Q : am_Q} {x0 x1 x2 x3 : Value} : AW d 48 0 [x0, x1, x2, x3] (st) σ ρ g τ Q = AW d 48 1 [x0, x1, x2, x3] (.int 0 :: st) σ ρ g τ Q := aw_lc m48 d48_0 rfl rfl rfl
theorem d48_1 : decode cX4_sumOf 1 = .ok (.istore_n 2, 1) := by decide +kernel
theorem s48_1 {d : Nat} {st : List Value} {σ : am_I} {ρ : am_R} {g : am_J} {τ : am_T} {Q : am_Q} {x0 x2 x3 : Value} {v : Int32} {u : Int32} : AW d 48 1 [x0, .int u, x2, x3] (.int v :: st) σ ρ g τ Q = AW d 48 2 [x0, .int u, .int v, x3] (st) σ ρ g τ Q := aw_lc m48 d48_1 rfl rfl rfl
theorem d48_2 : decode cX4_sumOf 2 = .ok (.iconst 0, 1) := by decide +kernel
theorem s48_2 {d : Nat} {st : List Value} {σ : am_I} {ρ : am_R} {g : am_J} {τ : am_T} {Q : am_Q} {x0 x1 x2 x3 : Value} : AW d 48 2 [x0, x1, x2, x3] (st) σ ρ g τ Q = AW d 48 3 [x0, x1, x2, x3] (.int 0 :: st) σ ρ g τ Q := aw_lc m48 d48_2 rfl rfl rfl
theorem d48_3 : decode cX4_sumOf 3 = .ok (.istore_n 3, 1) := by decide +kernel
theorem s48_3 {d : Nat} {st : List Value} {σ : am_I} {ρ : am_R} {g : am_J} {τ : am_T} {Q : am_Q} {x0 x1 x3 : Value} {v : Int32} {u : Int32} : AW d 48 3 [x0, x1, .int u, x3] (.int v :: st) σ ρ g τ Q = AW d 48 4 [x0, x1, .int u, .int v] (st) σ ρ g τ Q := aw_lc m48 d48_3 rfl rfl rfl
theorem d48_4 : decode cX4_sumOf 4 = .ok (.iload_n 3, 1) := by decide +kernel
theorem s48_4 {d : Nat} {st : List Value} {σ : am_I} {ρ : am_R} {g : am_J} {τ : am_T} {Q : am_Q} {x0 x1 x2 : Value} {v : Int32} : AW d 48 4 [x0, x1, x2, .int v] (st) σ ρ g τ Q = AW d 48 5 [x0, x1, x2, .int v] (.int v :: st) σ ρ g τ Q := aw_lc m48 d48_4 rfl rfl rfl
theorem d48_5 : decode cX4_sumOf 5 = .ok (.aload_n 0, 1) := by decide +kernel
theorem s48_5 {d : Nat} {st : List Value} {σ : am_I} {ρ : am_R} {g : am_J} {τ : am_T} {Q : am_Q} {x1 x2 x3 : Value} {v : Nat} : AW d 48 5 [.ref v, x1, x2, x3] (st) σ ρ g τ Q = AW d 48 6 [.ref v, x1, x2, x3] (.ref v :: st) σ ρ g τ Q := aw_lc m48 d48_5 rfl rfl rfl
theorem d48_6 : decode cX4_sumOf 6 = .ok (.getfield 7, 3) := by decide +kernel
theorem s48_6 {d : Nat} {st : List Value} {σ : am_I} {ρ : am_R} {g : am_J} {τ : am_T} {Q : am_Q} {x0 x1 x2 x3 : Value} {a : Nat} (ht : τ.1 a = 4) : AW d 48 6 [x0, x1, x2, x3] (.ref a :: st) σ ρ g τ Q = AW d 48 9 [x0, x1, x2, x3] (.int (σ a 3) :: st) σ ρ g τ Q := aw_gi m48 d48_6 rfl rfl rfl ht
theorem d48_9 : decode cX4_sumOf 9 = .ok (.if_icmp .ge 18, 3) := by decide +kernel
theorem s48_9 {d : Nat} {st : List Value} {σ : am_I} {ρ : am_R} {g : am_J} {τ : am_T} {Q : am_Q} {x0 x1 x2 x3 : Value} {v w : Int32} : AW d 48 9 [x0, x1, x2, x3] (.int w :: .int v :: st) σ ρ g τ Q = if w ≤ v then AW d 48 27 [x0, x1, x2, x3] (st) σ ρ g τ Q else AW d 48 12 [x0, x1, x2, x3] (st) σ ρ g τ Q := aw_br m48 d48_9 rfl rfl rfl
theorem d48_12 : decode cX4_sumOf 12 = .ok (.iload_n 2, 1) := by decide +kernel
theorem s48_12 {d : Nat} {st : List Value} {σ : am_I} {ρ : am_R} {g : am_J} {τ : am_T} {Q : am_Q} {x0 x1 x3 : Value} {v : Int32} : AW d 48 12 [x0, x1, .int v, x3] (st) σ ρ g τ Q = AW d 48 13 [x0, x1, .int v, x3] (.int v :: st) σ ρ g τ Q := aw_lc m48 d48_12 rfl rfl rfl
theorem d48_13 : decode cX4_sumOf 13 = .ok (.aload_n 0, 1) := by decide +kernel
theorem s48_13 {d : Nat} {st : List Value} {σ : am_I} {ρ : am_R} {g : am_J} {τ : am_T} {Q : am_Q} {x1 x2 x3 : Value} {v : Nat} : AW d 48 13 [.ref v, x1, x2, x3] (st) σ ρ g τ Q = AW d 48 14 [.ref v, x1, x2, x3] (.ref v :: st) σ ρ g τ Q := aw_lc m48 d48_13 rfl rfl rfl
theorem d48_14 : decode cX4_sumOf 14 = .ok (.iload_n 3, 1) := by decide +kernel
theorem s48_14 {d : Nat} {st : List Value} {σ : am_I} {ρ : am_R} {g : am_J} {τ : am_T} {Q : am_Q} {x0 x1 x2 : Value} {v : Int32} : AW d 48 14 [x0, x1, x2, .int v] (st) σ ρ g τ Q = AW d 48 15 [x0, x1, x2, .int v] (.int v :: st) σ ρ g τ Q := aw_lc m48 d48_14 rfl rfl rfl
theorem d48_15 : decode cX4_sumOf 15 = .ok (.iload_n 1, 1) := by decide +kernel
theorem s48_15 {d : Nat} {st : List Value} {σ : am_I} {ρ : am_R} {g : am_J} {τ : am_T} {Q : am_Q} {x0 x2 x3 : Value} {v : Int32} : AW d 48 15 [x0, .int v, x2, x3] (st) σ ρ g τ Q = AW d 48 16 [x0, .int v, x2, x3] (.int v :: st) σ ρ g τ Q := aw_lc m48 d48_15 rfl rfl rfl
theorem d48_16 : decode cX4_sumOf 16 = .ok (.invokevirtual 39, 3) := by decide +kernel
theorem s48_16 {d : Nat} {st : List Value} {σ : am_I} {ρ : am_R} {g : am_J} {τ : am_T} {Q : am_Q} {x0 x1 x2 x3 : Value} {p0 : Nat} {p1 : Int32} {p2 : Int32} (ht : τ.1 p0 = 4) (hs : st.length ≤ 4) : AW (d + 1) 48 16 [x0, x1, x2, x3] (.int p2 :: .int p1 :: .ref p0 :: st) σ ρ g τ Q = AW d 46 0 [.ref p0, .int p1, .int p2] [] σ ρ g τ (fun r9 σ ρ g τ => AW (d + 1) 48 19 [x0, x1, x2, x3] (r9.toList ++ st) σ ρ g τ Q) := aw_cv m48 d48_16 rfl m46 rfl rfl (by decide) en46 ok46 rfl ht hs
theorem d48_19 : decode cX4_sumOf 19 = .ok (.iadd, 1) := by decide +kernel
theorem s48_19 {d : Nat} {st : List Value} {σ : am_I} {ρ : am_R} {g : am_J} {τ : am_T} {Q : am_Q} {x0 x1 x2 x3 : Value} {v w : Int32} : AW d 48 19 [x0, x1, x2, x3] (.int w :: .int v :: st) σ ρ g τ Q = AW d 48 20 [x0, x1, x2, x3] (.int (v + w) :: st) σ ρ g τ Q := aw_lc m48 d48_19 rfl rfl rfl
theorem d48_20 : decode cX4_sumOf 20 = .ok (.istore_n 2, 1) := by decide +kernel
theorem s48_20 {d : Nat} {st : List Value} {σ : am_I} {ρ : am_R} {g : am_J} {τ : am_T} {Q : am_Q} {x0 x2 x3 : Value} {v : Int32} {u : Int32} : AW d 48 20 [x0, .int u, x2, x3] (.int v :: st) σ ρ g τ Q = AW d 48 21 [x0, .int u, .int v, x3] (st) σ ρ g τ Q := aw_lc m48 d48_20 rfl rfl rfl
theorem d48_21 : decode cX4_sumOf 21 = .ok (.iinc 3 1, 3) := by decide +kernel
theorem s48_21 {d : Nat} {st : List Value} {σ : am_I} {ρ : am_R} {g : am_J} {τ : am_T} {Q : am_Q} {x0 x1 : Value} {v : Int32} {u : Int32} : AW d 48 21 [x0, x1, .int u, .int v] (st) σ ρ g τ Q = AW d 48 24 [x0, x1, .int u, .int (v + 1)] (st) σ ρ g τ Q := aw_lc m48 d48_21 rfl rfl rfl
theorem d48_24 : decode cX4_sumOf 24 = .ok (.goto (-20), 3) := by decide +kernel
theorem s48_24 {d : Nat} {st : List Value} {σ : am_I} {ρ : am_R} {g : am_J} {τ : am_T} {Q : am_Q} {x0 x1 x2 x3 : Value} : AW d 48 24 [x0, x1, x2, x3] (st) σ ρ g τ Q = AW d 48 4 [x0, x1, x2, x3] (st) σ ρ g τ Q := aw_lc m48 d48_24 rfl rfl rfl
theorem d48_27 : decode cX4_sumOf 27 = .ok (.iload_n 2, 1) := by decide +kernel
theorem s48_27 {d : Nat} {st : List Value} {σ : am_I} {ρ : am_R} {g : am_J} {τ : am_T} {Q : am_Q} {x0 x1 x3 : Value} {v : Int32} : AW d 48 27 [x0, x1, .int v, x3] (st) σ ρ g τ Q = AW d 48 28 [x0, x1, .int v, x3] (.int v :: st) σ ρ g τ Q := aw_lc m48 d48_27 rfl rfl rfl
theorem d48_28 : decode cX4_sumOf 28 = .ok (.ireturn, 1) := by decide +kernel
theorem s48_28 {d : Nat} {σ : am_I} {ρ : am_R} {g : am_J} {τ : am_T} {Q : am_Q} {x0 x1 x2 x3 : Value} {v : Int32} : AW d 48 28 [x0, x1, x2, x3] ([.int v]) σ ρ g τ Q = Q (some (.int v)) σ ρ g τ := aw_ri m48 d48_28 rfl
theorem d49_0 : decode cX4_copyFrom 0 = .ok (.aload_n 0, 1) := by decide +kernel
theorem s49_0 {d : Nat} {st : List Value} {σ : am_I} {ρ : am_R} {g : am_J} {τ : am_T} {Q : am_Q} {x1 : Value} {v : Nat} : AW d 49 0 [.ref v, x1] (st) σ ρ g τ Q = AW d 49 1 [.ref v, x1] (.ref v :: st) σ ρ g τ Q := aw_lc m49 d49_0 rfl rfl rfl
theorem d49_1 : decode cX4_copyFrom 1 = .ok (.aload_n 0, 1) := by decide +kernel
theorem s49_1 {d : Nat} {st : List Value} {σ : am_I} {ρ : am_R} {g : am_J} {τ : am_T} {Q : am_Q} {x1 : Value} {v : Nat} : AW d 49 1 [.ref v, x1] (st) σ ρ g τ Q = AW d 49 2 [.ref v, x1] (.ref v :: st) σ ρ g τ Q := aw_lc m49 d49_1 rfl rfl rfl
theorem d49_2 : decode cX4_copyFrom 2 = .ok (.getfield 19, 3) := by decide +kernel
theorem s49_2 {d : Nat} {st : List Value} {σ : am_I} {ρ : am_R} {g : am_J} {τ : am_T} {Q : am_Q} {x0 x1 : Value} {a : Nat} (ht : τ.1 a = 4) : AW d 49 2 [x0, x1] (.ref a :: st) σ ρ g τ Q = AW d 49 5 [x0, x1] (.int (σ a 0) :: st) σ ρ g τ Q := aw_gi m49 d49_2 rfl rfl rfl ht
theorem d49_5 : decode cX4_copyFrom 5 = .ok (.aload_n 1, 1) := by decide +kernel
theorem s49_5 {d : Nat} {st : List Value} {σ : am_I} {ρ : am_R} {g : am_J} {τ : am_T} {Q : am_Q} {x0 : Value} {v : Nat} : AW d 49 5 [x0, .ref v] (st) σ ρ g τ Q = AW d 49 6 [x0, .ref v] (.ref v :: st) σ ρ g τ Q := aw_lc m49 d49_5 rfl rfl rfl
theorem d49_6 : decode cX4_copyFrom 6 = .ok (.getfield 7, 3) := by decide +kernel
theorem s49_6 {d : Nat} {st : List Value} {σ : am_I} {ρ : am_R} {g : am_J} {τ : am_T} {Q : am_Q} {x0 x1 : Value} {a : Nat} (ht : τ.1 a = 4) : AW d 49 6 [x0, x1] (.ref a :: st) σ ρ g τ Q = AW d 49 9 [x0, x1] (.int (σ a 3) :: st) σ ρ g τ Q := aw_gi m49 d49_6 rfl rfl rfl ht
theorem d49_9 : decode cX4_copyFrom 9 = .ok (.invokestatic 42, 3) := by decide +kernel
theorem s49_9 {d : Nat} {st : List Value} {σ : am_I} {ρ : am_R} {g : am_J} {τ : am_T} {Q : am_Q} {x0 x1 : Value} {v w : Int32} (hs : st.length ≤ 4) : AW d 49 9 [x0, x1] (.int w :: .int v :: st) σ ρ g τ Q = AW d 49 12 [x0, x1] (.int (if w < v then w else v) :: st) σ ρ g τ Q := aw_min m49 d49_9 rfl rfl hs
theorem d49_12 : decode cX4_copyFrom 12 = .ok (.putfield 7, 3) := by decide +kernel
theorem s49_12 {d : Nat} {st : List Value} {σ : am_I} {ρ : am_R} {g : am_J} {τ : am_T} {Q : am_Q} {x0 x1 : Value} {a : Nat} {v : Int32} (ht : τ.1 a = 4) : AW d 49 12 [x0, x1] (.int v :: .ref a :: st) σ ρ g τ Q = AW d 49 15 [x0, x1] (st) (am_u σ a 3 v) ρ g τ Q := aw_pi m49 d49_12 rfl rfl (Or.inl rfl) rfl ht
theorem d49_15 : decode cX4_copyFrom 15 = .ok (.aload_n 1, 1) := by decide +kernel
theorem s49_15 {d : Nat} {st : List Value} {σ : am_I} {ρ : am_R} {g : am_J} {τ : am_T} {Q : am_Q} {x0 : Value} {v : Nat} : AW d 49 15 [x0, .ref v] (st) σ ρ g τ Q = AW d 49 16 [x0, .ref v] (.ref v :: st) σ ρ g τ Q := aw_lc m49 d49_15 rfl rfl rfl
theorem d49_16 : decode cX4_copyFrom 16 = .ok (.getfield 25, 3) := by decide +kernel
theorem s49_16 {d : Nat} {st : List Value} {σ : am_I} {ρ : am_R} {g : am_J} {τ : am_T} {Q : am_Q} {x0 x1 : Value} {a : Nat} (ht : τ.1 a = 4) : AW d 49 16 [x0, x1] (.ref a :: st) σ ρ g τ Q = AW d 49 19 [x0, x1] (va_rf (ρ a 2) :: st) σ ρ g τ Q := aw_gr m49 d49_16 rfl rfl rfl ht
theorem d49_19 : decode cX4_copyFrom 19 = .ok (.iconst 0, 1) := by decide +kernel
theorem s49_19 {d : Nat} {st : List Value} {σ : am_I} {ρ : am_R} {g : am_J} {τ : am_T} {Q : am_Q} {x0 x1 : Value} : AW d 49 19 [x0, x1] (st) σ ρ g τ Q = AW d 49 20 [x0, x1] (.int 0 :: st) σ ρ g τ Q := aw_lc m49 d49_19 rfl rfl rfl
theorem d49_20 : decode cX4_copyFrom 20 = .ok (.aload_n 0, 1) := by decide +kernel
theorem s49_20 {d : Nat} {st : List Value} {σ : am_I} {ρ : am_R} {g : am_J} {τ : am_T} {Q : am_Q} {x1 : Value} {v : Nat} : AW d 49 20 [.ref v, x1] (st) σ ρ g τ Q = AW d 49 21 [.ref v, x1] (.ref v :: st) σ ρ g τ Q := aw_lc m49 d49_20 rfl rfl rfl
theorem d49_21 : decode cX4_copyFrom 21 = .ok (.getfield 25, 3) := by decide +kernel
theorem s49_21 {d : Nat} {st : List Value} {σ : am_I} {ρ : am_R} {g : am_J} {τ : am_T} {Q : am_Q} {x0 x1 : Value} {a : Nat} (ht : τ.1 a = 4) : AW d 49 21 [x0, x1] (.ref a :: st) σ ρ g τ Q = AW d 49 24 [x0, x1] (va_rf (ρ a 2) :: st) σ ρ g τ Q := aw_gr m49 d49_21 rfl rfl rfl ht
theorem d49_24 : decode cX4_copyFrom 24 = .ok (.iconst 0, 1) := by decide +kernel
theorem s49_24 {d : Nat} {st : List Value} {σ : am_I} {ρ : am_R} {g : am_J} {τ : am_T} {Q : am_Q} {x0 x1 : Value} : AW d 49 24 [x0, x1] (st) σ ρ g τ Q = AW d 49 25 [x0, x1] (.int 0 :: st) σ ρ g τ Q := aw_lc m49 d49_24 rfl rfl rfl
theorem d49_25 : decode cX4_copyFrom 25 = .ok (.aload_n 0, 1) := by decide +kernel
theorem s49_25 {d : Nat} {st : List Value} {σ : am_I} {ρ : am_R} {g : am_J} {τ : am_T} {Q : am_Q} {x1 : Value} {v : Nat} : AW d 49 25 [.ref v, x1] (st) σ ρ g τ Q = AW d 49 26 [.ref v, x1] (.ref v :: st) σ ρ g τ Q := aw_lc m49 d49_25 rfl rfl rfl
theorem d49_26 : decode cX4_copyFrom 26 = .ok (.getfield 25, 3) := by decide +kernel
theorem s49_26 {d : Nat} {st : List Value} {σ : am_I} {ρ : am_R} {g : am_J} {τ : am_T} {Q : am_Q} {x0 x1 : Value} {a : Nat} (ht : τ.1 a = 4) : AW d 49 26 [x0, x1] (.ref a :: st) σ ρ g τ Q = AW d 49 29 [x0, x1] (va_rf (ρ a 2) :: st) σ ρ g τ Q := aw_gr m49 d49_26 rfl rfl rfl ht
theorem d49_29 : decode cX4_copyFrom 29 = .ok (.arraylength, 1) := by decide +kernel
theorem s49_29 {d : Nat} {st : List Value} {σ : am_I} {ρ : am_R} {g : am_J} {τ : am_T} {Q : am_Q} {x0 x1 : Value} {a : Nat} (ht : 14 ≤ τ.1 a ∧ τ.1 a ≤ 22) : AW d 49 29 [x0, x1] (.ref a :: st) σ ρ g τ Q = AW d 49 30 [x0, x1] (.int (nI (τ.2.1 a)) :: st) σ ρ g τ Q := aw_len m49 d49_29 rfl ht
theorem d49_30 : decode cX4_copyFrom 30 = .ok (.aload_n 1, 1) := by decide +kernel
theorem s49_30 {d : Nat} {st : List Value} {σ : am_I} {ρ : am_R} {g : am_J} {τ : am_T} {Q : am_Q} {x0 : Value} {v : Nat} : AW d 49 30 [x0, .ref v] (st) σ ρ g τ Q = AW d 49 31 [x0, .ref v] (.ref v :: st) σ ρ g τ Q := aw_lc m49 d49_30 rfl rfl rfl
theorem d49_31 : decode cX4_copyFrom 31 = .ok (.getfield 25, 3) := by decide +kernel
theorem s49_31 {d : Nat} {st : List Value} {σ : am_I} {ρ : am_R} {g : am_J} {τ : am_T} {Q : am_Q} {x0 x1 : Value} {a : Nat} (ht : τ.1 a = 4) : AW d 49 31 [x0, x1] (.ref a :: st) σ ρ g τ Q = AW d 49 34 [x0, x1] (va_rf (ρ a 2) :: st) σ ρ g τ Q := aw_gr m49 d49_31 rfl rfl rfl ht
theorem d49_34 : decode cX4_copyFrom 34 = .ok (.arraylength, 1) := by decide +kernel
theorem s49_34 {d : Nat} {st : List Value} {σ : am_I} {ρ : am_R} {g : am_J} {τ : am_T} {Q : am_Q} {x0 x1 : Value} {a : Nat} (ht : 14 ≤ τ.1 a ∧ τ.1 a ≤ 22) : AW d 49 34 [x0, x1] (.ref a :: st) σ ρ g τ Q = AW d 49 35 [x0, x1] (.int (nI (τ.2.1 a)) :: st) σ ρ g τ Q := aw_len m49 d49_34 rfl ht
theorem d49_35 : decode cX4_copyFrom 35 = .ok (.invokestatic 42, 3) := by decide +kernel
theorem s49_35 {d : Nat} {st : List Value} {σ : am_I} {ρ : am_R} {g : am_J} {τ : am_T} {Q : am_Q} {x0 x1 : Value} {v w : Int32} (hs : st.length ≤ 4) : AW d 49 35 [x0, x1] (.int w :: .int v :: st) σ ρ g τ Q = AW d 49 38 [x0, x1] (.int (if w < v then w else v) :: st) σ ρ g τ Q := aw_min m49 d49_35 rfl rfl hs
theorem d49_38 : decode cX4_copyFrom 38 = .ok (.invokestatic 45, 3) := by decide +kernel
theorem s49_38 {d : Nat} {st : List Value} {σ : am_I} {ρ : am_R} {g : am_J} {τ : am_T} {Q : am_Q} {x0 x1 : Value} {a b : Nat} {sp dp nn : Int32} (hs : st.length ≤ 4) (h : τ.1 a = 15 ∧ τ.1 b = 15 ∧ a < am_BG ∧ b < am_BG ∧ a ≠ b ∧ ¬ nn < 0 ∧ ¬ sp < 0 ∧ ¬ dp < 0 ∧ sp.toNatClampNeg + nn.toNatClampNeg ≤ τ.2.1 a ∧ dp.toNatClampNeg + nn.toNatClampNeg ≤ τ.2.1 b) : AW d 49 38 [x0, x1] (.int nn :: .int dp :: .ref b :: .int sp :: .ref a :: st) σ ρ g τ Q = AW d 49 41 [x0, x1] (st) (am_ur σ b (va_cpy (σ a) (σ b) sp.toNatClampNeg dp.toNatClampNeg nn.toNatClampNeg)) ρ g τ Q := aw_cpy m49 d49_38 rfl rfl hs h
theorem d49_41 : decode cX4_copyFrom 41 = .ok (.return_, 1) := by decide +kernel
theorem s49_41 {d : Nat} {σ : am_I} {ρ : am_R} {g : am_J} {τ : am_T} {Q : am_Q} {x0 x1 : Value} : AW d 49 41 [x0, x1] ([]) σ ρ g τ Q = Q none σ ρ g τ := aw_rv m49 d49_41 rfl
theorem d50_0 : decode cX5_init 0 = .ok (.aload_n 0, 1) := by decide +kernel
theorem s50_0 {d : Nat} {st : List Value} {σ : am_I} {ρ : am_R} {g : am_J} {τ : am_T} {Q : am_Q} {x1 x2 x3 x4 : Value} {v : Nat} : AW d 50 0 [.ref v, x1, x2, x3, x4] (st) σ ρ g τ Q = AW d 50 1 [.ref v, x1, x2, x3, x4] (.ref v :: st) σ ρ g τ Q := aw_lc m50 d50_0 rfl rfl rfl
theorem s50_0n {d : Nat} {st : List Value} {σ : am_I} {ρ : am_R} {g : am_J} {τ : am_T} {Q : am_Q} {x1 x2 x3 x4 : Value} : AW d 50 0 [.null, x1, x2, x3, x4] (st) σ ρ g τ Q = AW d 50 1 [.null, x1, x2, x3, x4] (.null :: st) σ ρ g τ Q := aw_lc m50 d50_0 rfl rfl rfl
theorem d50_1 : decode cX5_init 1 = .ok (.invokespecial 3, 3) := by decide +kernel
theorem s50_1 {d : Nat} {st : List Value} {σ : am_I} {ρ : am_R} {g : am_J} {τ : am_T} {Q : am_Q} {x0 x1 x2 x3 x4 : Value} {a : Nat} (hs : st.length ≤ 4) : AW d 50 1 [x0, x1, x2, x3, x4] (.ref a :: st) σ ρ g τ Q = AW d 50 4 [x0, x1, x2, x3, x4] (st) σ ρ g τ Q := aw_oin m50 d50_1 rfl rfl hs
theorem d50_4 : decode cX5_init 4 = .ok (.aload_n 0, 1) := by decide +kernel
theorem s50_4 {d : Nat} {st : List Value} {σ : am_I} {ρ : am_R} {g : am_J} {τ : am_T} {Q : am_Q} {x1 x2 x3 x4 : Value} {v : Nat} : AW d 50 4 [.ref v, x1, x2, x3, x4] (st) σ ρ g τ Q = AW d 50 5 [.ref v, x1, x2, x3, x4] (.ref v :: st) σ ρ g τ Q := aw_lc m50 d50_4 rfl rfl rfl
theorem s50_4n {d : Nat} {st : List Value} {σ : am_I} {ρ : am_R} {g : am_J} {τ : am_T} {Q : am_Q} {x1 x2 x3 x4 : Value} : AW d 50 4 [.null, x1, x2, x3, x4] (st) σ ρ g τ Q = AW d 50 5 [.null, x1, x2, x3, x4] (.null :: st) σ ρ g τ Q := aw_lc m50 d50_4 rfl rfl rfl
theorem d50_5 : decode cX5_init 5 = .ok (.iload_n 1, 1) := by decide +kernel
theorem s50_5 {d : Nat} {st : List Value} {σ : am_I} {ρ : am_R} {g : am_J} {τ : am_T} {Q : am_Q} {x0 x2 x3 x4 : Value} {v : Int32} : AW d 50 5 [x0, .int v, x2, x3, x4] (st) σ ρ g τ Q = AW d 50 6 [x0, .int v, x2, x3, x4] (.int v :: st) σ ρ g τ Q := aw_lc m50 d50_5 rfl rfl rfl
theorem d50_6 : decode cX5_init 6 = .ok (.putfield 9, 3) := by decide +kernel
theorem s50_6 {d : Nat} {st : List Value} {σ : am_I} {ρ : am_R} {g : am_J} {τ : am_T} {Q : am_Q} {x0 x1 x2 x3 x4 : Value} {a : Nat} {v : Int32} (ht : τ.1 a = 5) : AW d 50 6 [x0, x1, x2, x3, x4] (.int v :: .ref a :: st) σ ρ g τ Q = AW d 50 9 [x0, x1, x2, x3, x4] (st) (am_u σ a 0 v) ρ g τ Q := aw_pi m50 d50_6 rfl rfl (Or.inr ⟨rfl, rfl⟩) rfl ht
theorem d50_9 : decode cX5_init 9 = .ok (.aload_n 0, 1) := by decide +kernel
theorem s50_9 {d : Nat} {st : List Value} {σ : am_I} {ρ : am_R} {g : am_J} {τ : am_T} {Q : am_Q} {x1 x2 x3 x4 : Value} {v : Nat} : AW d 50 9 [.ref v, x1, x2, x3, x4] (st) σ ρ g τ Q = AW d 50 10 [.ref v, x1, x2, x3, x4] (.ref v :: st) σ ρ g τ Q := aw_lc m50 d50_9 rfl rfl rfl
theorem s50_9n {d : Nat} {st : List Value} {σ : am_I} {ρ : am_R} {g : am_J} {τ : am_T} {Q : am_Q} {x1 x2 x3 x4 : Value} : AW d 50 9 [.null, x1, x2, x3, x4] (st) σ ρ g τ Q = AW d 50 10 [.null, x1, x2, x3, x4] (.null :: st) σ ρ g τ Q := aw_lc m50 d50_9 rfl rfl rfl
theorem d50_10 : decode cX5_init 10 = .ok (.iload_n 2, 1) := by decide +kernel
theorem s50_10 {d : Nat} {st : List Value} {σ : am_I} {ρ : am_R} {g : am_J} {τ : am_T} {Q : am_Q} {x0 x1 x3 x4 : Value} {v : Int32} : AW d 50 10 [x0, x1, .int v, x3, x4] (st) σ ρ g τ Q = AW d 50 11 [x0, x1, .int v, x3, x4] (.int v :: st) σ ρ g τ Q := aw_lc m50 d50_10 rfl rfl rfl
theorem d50_11 : decode cX5_init 11 = .ok (.putfield 15, 3) := by decide +kernel
theorem s50_11 {d : Nat} {st : List Value} {σ : am_I} {ρ : am_R} {g : am_J} {τ : am_T} {Q : am_Q} {x0 x1 x2 x3 x4 : Value} {a : Nat} {v : Int32} (ht : τ.1 a = 5) : AW d 50 11 [x0, x1, x2, x3, x4] (.int v :: .ref a :: st) σ ρ g τ Q = AW d 50 14 [x0, x1, x2, x3, x4] (st) (am_u σ a 1 v) ρ g τ Q := aw_pi m50 d50_11 rfl rfl (Or.inr ⟨rfl, rfl⟩) rfl ht
theorem d50_14 : decode cX5_init 14 = .ok (.aload_n 0, 1) := by decide +kernel
theorem s50_14 {d : Nat} {st : List Value} {σ : am_I} {ρ : am_R} {g : am_J} {τ : am_T} {Q : am_Q} {x1 x2 x3 x4 : Value} {v : Nat} : AW d 50 14 [.ref v, x1, x2, x3, x4] (st) σ ρ g τ Q = AW d 50 15 [.ref v, x1, x2, x3, x4] (.ref v :: st) σ ρ g τ Q := aw_lc m50 d50_14 rfl rfl rfl
theorem s50_14n {d : Nat} {st : List Value} {σ : am_I} {ρ : am_R} {g : am_J} {τ : am_T} {Q : am_Q} {x1 x2 x3 x4 : Value} : AW d 50 14 [.null, x1, x2, x3, x4] (st) σ ρ g τ Q = AW d 50 15 [.null, x1, x2, x3, x4] (.null :: st) σ ρ g τ Q := aw_lc m50 d50_14 rfl rfl rfl
theorem d50_15 : decode cX5_init 15 = .ok (.iload_n 3, 1) := by decide +kernel
theorem s50_15 {d : Nat} {st : List Value} {σ : am_I} {ρ : am_R} {g : am_J} {τ : am_T} {Q : am_Q} {x0 x1 x2 x4 : Value} {v : Int32} : AW d 50 15 [x0, x1, x2, .int v, x4] (st) σ ρ g τ Q = AW d 50 16 [x0, x1, x2, .int v, x4] (.int v :: st) σ ρ g τ Q := aw_lc m50 d50_15 rfl rfl rfl
theorem d50_16 : decode cX5_init 16 = .ok (.putfield 18, 3) := by decide +kernel
theorem s50_16 {d : Nat} {st : List Value} {σ : am_I} {ρ : am_R} {g : am_J} {τ : am_T} {Q : am_Q} {x0 x1 x2 x3 x4 : Value} {a : Nat} {v : Int32} (ht : τ.1 a = 5) : AW d 50 16 [x0, x1, x2, x3, x4] (.int v :: .ref a :: st) σ ρ g τ Q = AW d 50 19 [x0, x1, x2, x3, x4] (st) (am_u σ a 2 v) ρ g τ Q := aw_pi m50 d50_16 rfl rfl (Or.inr ⟨rfl, rfl⟩) rfl ht
theorem d50_19 : decode cX5_init 19 = .ok (.aload_n 0, 1) := by decide +kernel
theorem s50_19 {d : Nat} {st : List Value} {σ : am_I} {ρ : am_R} {g : am_J} {τ : am_T} {Q : am_Q} {x1 x2 x3 x4 : Value} {v : Nat} : AW d 50 19 [.ref v, x1, x2, x3, x4] (st) σ ρ g τ Q = AW d 50 20 [.ref v, x1, x2, x3, x4] (.ref v :: st) σ ρ g τ Q := aw_lc m50 d50_19 rfl rfl rfl
theorem s50_19n {d : Nat} {st : List Value} {σ : am_I} {ρ : am_R} {g : am_J} {τ : am_T} {Q : am_Q} {x1 x2 x3 x4 : Value} : AW d 50 19 [.null, x1, x2, x3, x4] (st) σ ρ g τ Q = AW d 50 20 [.null, x1, x2, x3, x4] (.null :: st) σ ρ g τ Q := aw_lc m50 d50_19 rfl rfl rfl
theorem d50_20 : decode cX5_init 20 = .ok (.aload 4, 2) := by decide +kernel
theorem s50_20 {d : Nat} {st : List Value} {σ : am_I} {ρ : am_R} {g : am_J} {τ : am_T} {Q : am_Q} {x0 x1 x2 x3 : Value} {v : Nat} : AW d 50 20 [x0, x1, x2, x3, .ref v] (st) σ ρ g τ Q = AW d 50 22 [x0, x1, x2, x3, .ref v] (.ref v :: st) σ ρ g τ Q := aw_lc m50 d50_20 rfl rfl rfl
theorem s50_20n {d : Nat} {st : List Value} {σ : am_I} {ρ : am_R} {g : am_J} {τ : am_T} {Q : am_Q} {x0 x1 x2 x3 : Value} : AW d 50 20 [x0, x1, x2, x3, .null] (st) σ ρ g τ Q = AW d 50 22 [x0, x1, x2, x3, .null] (.null :: st) σ ρ g τ Q := aw_lc m50 d50_20 rfl rfl rfl
theorem d50_22 : decode cX5_init 22 = .ok (.putfield 21, 3) := by decide +kernel
theorem s50_22 {d : Nat} {st : List Value} {σ : am_I} {ρ : am_R} {g : am_J} {τ : am_T} {Q : am_Q} {x0 x1 x2 x3 x4 : Value} {a b : Nat} (ht : τ.1 a = 5) : AW d 50 22 [x0, x1, x2, x3, x4] (.ref b :: .ref a :: st) σ ρ g τ Q = AW d 50 25 [x0, x1, x2, x3, x4] (st) σ (am_u ρ a 3 (some b)) g τ Q := aw_pr m50 d50_22 rfl rfl (Or.inr ⟨rfl, rfl⟩) rfl ht
theorem s50_22n {d : Nat} {st : List Value} {σ : am_I} {ρ : am_R} {g : am_J} {τ : am_T} {Q : am_Q} {x0 x1 x2 x3 x4 : Value} {a : Nat} (ht : τ.1 a = 5) : AW d 50 22 [x0, x1, x2, x3, x4] (.null :: .ref a :: st) σ ρ g τ Q = AW d 50 25 [x0, x1, x2, x3, x4] (st) σ (am_u ρ a 3 none) g τ Q := aw_pn m50 d50_22 rfl rfl (Or.inr ⟨rfl, rfl⟩) rfl ht
theorem d50_25 : decode cX5_init 25 = .ok (.return_, 1) := by decide +kernel
theorem s50_25 {d : Nat} {σ : am_I} {ρ : am_R} {g : am_J} {τ : am_T} {Q : am_Q} {x0 x1 x2 x3 x4 : Value} : AW d 50 25 [x0, x1, x2, x3, x4] ([]) σ ρ g τ Q = Q none σ ρ g τ := aw_rv m50 d50_25 rfl
theorem d51_0 : decode cX5_step 0 = .ok (.iload_n 0, 1) := by decide +kernel
theorem s51_0 {d : Nat} {st : List Value} {σ : am_I} {ρ : am_R} {g : am_J} {τ : am_T} {Q : am_Q} {x1 x2 x3 : Value} {v : Int32} : AW d 51 0 [.int v, x1, x2, x3] (st) σ ρ g τ Q = AW d 51 1 [.int v, x1, x2, x3] (.int v :: st) σ ρ g τ Q := aw_lc m51 d51_0 rfl rfl rfl
theorem d51_1 : decode cX5_step 1 = .ok (.iload_n 1, 1) := by decide +kernel
theorem s51_1 {d : Nat} {st : List Value} {σ : am_I} {ρ : am_R} {g : am_J} {τ : am_T} {Q : am_Q} {x0 x2 x3 : Value} {v : Int32} : AW d 51 1 [x0, .int v, x2, x3] (st) σ ρ g τ Q = AW d 51 2 [x0, .int v, x2, x3] (.int v :: st) σ ρ g τ Q := aw_lc m51 d51_1 rfl rfl rfl
theorem d51_2 : decode cX5_step 2 = .ok (.iconst 4, 1) := by decide +kernel
theorem s51_2 {d : Nat} {st : List Value} {σ : am_I} {ρ : am_R} {g : am_J} {τ : am_T} {Q : am_Q} {x0 x1 x2 x3 : Value} : AW d 51 2 [x0, x1, x2, x3] (st) σ ρ g τ Q = AW d 51 3 [x0, x1, x2, x3] (.int 4 :: st) σ ρ g τ Q := aw_lc m51 d51_2 rfl rfl rfl
theorem d51_3 : decode cX5_step 3 = .ok (.ishl, 1) := by decide +kernel
theorem s51_3 {d : Nat} {st : List Value} {σ : am_I} {ρ : am_R} {g : am_J} {τ : am_T} {Q : am_Q} {x0 x1 x2 x3 : Value} {v w : Int32} : AW d 51 3 [x0, x1, x2, x3] (.int w :: .int v :: st) σ ρ g τ Q = AW d 51 4 [x0, x1, x2, x3] (.int (v <<< (w &&& 31)) :: st) σ ρ g τ Q := aw_lc m51 d51_3 rfl rfl rfl
theorem d51_4 : decode cX5_step 4 = .ok (.ior, 1) := by decide +kernel
theorem s51_4 {d : Nat} {st : List Value} {σ : am_I} {ρ : am_R} {g : am_J} {τ : am_T} {Q : am_Q} {x0 x1 x2 x3 : Value} {v w : Int32} : AW d 51 4 [x0, x1, x2, x3] (.int w :: .int v :: st) σ ρ g τ Q = AW d 51 5 [x0, x1, x2, x3] (.int (v ||| w) :: st) σ ρ g τ Q := aw_lc m51 d51_4 rfl rfl rfl
theorem d51_5 : decode cX5_step 5 = .ok (.iload_n 2, 1) := by decide +kernel
theorem s51_5 {d : Nat} {st : List Value} {σ : am_I} {ρ : am_R} {g : am_J} {τ : am_T} {Q : am_Q} {x0 x1 x3 : Value} {v : Int32} : AW d 51 5 [x0, x1, .int v, x3] (st) σ ρ g τ Q = AW d 51 6 [x0, x1, .int v, x3] (.int v :: st) σ ρ g τ Q := aw_lc m51 d51_5 rfl rfl rfl
theorem d51_6 : decode cX5_step 6 = .ok (.bipush 8, 2) := by decide +kernel
theorem s51_6 {d : Nat} {st : List Value} {σ : am_I} {ρ : am_R} {g : am_J} {τ : am_T} {Q : am_Q} {x0 x1 x2 x3 : Value} : AW d 51 6 [x0, x1, x2, x3] (st) σ ρ g τ Q = AW d 51 8 [x0, x1, x2, x3] (.int 8 :: st) σ ρ g τ Q := aw_lc m51 d51_6 rfl rfl rfl
theorem d51_8 : decode cX5_step 8 = .ok (.ishl, 1) := by decide +kernel
theorem s51_8 {d : Nat} {st : List Value} {σ : am_I} {ρ : am_R} {g : am_J} {τ : am_T} {Q : am_Q} {x0 x1 x2 x3 : Value} {v w : Int32} : AW d 51 8 [x0, x1, x2, x3] (.int w :: .int v :: st) σ ρ g τ Q = AW d 51 9 [x0, x1, x2, x3] (.int (v <<< (w &&& 31)) :: st) σ ρ g τ Q := aw_lc m51 d51_8 rfl rfl rfl
theorem d51_9 : decode cX5_step 9 = .ok (.ior, 1) := by decide +kernel
theorem s51_9 {d : Nat} {st : List Value} {σ : am_I} {ρ : am_R} {g : am_J} {τ : am_T} {Q : am_Q} {x0 x1 x2 x3 : Value} {v w : Int32} : AW d 51 9 [x0, x1, x2, x3] (.int w :: .int v :: st) σ ρ g τ Q = AW d 51 10 [x0, x1, x2, x3] (.int (v ||| w) :: st) σ ρ g τ Q := aw_lc m51 d51_9 rfl rfl rfl
theorem d51_10 : decode cX5_step 10 = .ok (.iload_n 3, 1) := by decide +kernel
theorem s51_10 {d : Nat} {st : List Value} {σ : am_I} {ρ : am_R} {g : am_J} {τ : am_T} {Q : am_Q} {x0 x1 x2 : Value} {v : Int32} : AW d 51 10 [x0, x1, x2, .int v] (st) σ ρ g τ Q = AW d 51 11 [x0, x1, x2, .int v] (.int v :: st) σ ρ g τ Q := aw_lc m51 d51_10 rfl rfl rfl
theorem d51_11 : decode cX5_step 11 = .ok (.bipush 16, 2) := by decide +kernel
theorem s51_11 {d : Nat} {st : List Value} {σ : am_I} {ρ : am_R} {g : am_J} {τ : am_T} {Q : am_Q} {x0 x1 x2 x3 : Value} : AW d 51 11 [x0, x1, x2, x3] (st) σ ρ g τ Q = AW d 51 13 [x0, x1, x2, x3] (.int 16 :: st) σ ρ g τ Q := aw_lc m51 d51_11 rfl rfl rfl
theorem d51_13 : decode cX5_step 13 = .ok (.ishl, 1) := by decide +kernel
theorem s51_13 {d : Nat} {st : List Value} {σ : am_I} {ρ : am_R} {g : am_J} {τ : am_T} {Q : am_Q} {x0 x1 x2 x3 : Value} {v w : Int32} : AW d 51 13 [x0, x1, x2, x3] (.int w :: .int v :: st) σ ρ g τ Q = AW d 51 14 [x0, x1, x2, x3] (.int (v <<< (w &&& 31)) :: st) σ ρ g τ Q := aw_lc m51 d51_13 rfl rfl rfl
theorem d51_14 : decode cX5_step 14 = .ok (.ior, 1) := by decide +kernel
theorem s51_14 {d : Nat} {st : List Value} {σ : am_I} {ρ : am_R} {g : am_J} {τ : am_T} {Q : am_Q} {x0 x1 x2 x3 : Value} {v w : Int32} : AW d 51 14 [x0, x1, x2, x3] (.int w :: .int v :: st) σ ρ g τ Q = AW d 51 15 [x0, x1, x2, x3] (.int (v ||| w) :: st) σ ρ g τ Q := aw_lc m51 d51_14 rfl rfl rfl
theorem d51_15 : decode cX5_step 15 = .ok (.ireturn, 1) := by decide +kernel
theorem s51_15 {d : Nat} {σ : am_I} {ρ : am_R} {g : am_J} {τ : am_T} {Q : am_Q} {x0 x1 x2 x3 : Value} {v : Int32} : AW d 51 15 [x0, x1, x2, x3] ([.int v]) σ ρ g τ Q = Q (some (.int v)) σ ρ g τ := aw_ri m51 d51_15 rfl
theorem d52_0 : decode cX5_holds 0 = .ok (.aload_n 0, 1) := by decide +kernel
theorem s52_0 {d : Nat} {st : List Value} {σ : am_I} {ρ : am_R} {g : am_J} {τ : am_T} {Q : am_Q} {x1 x2 x3 x4 x5 : Value} {v : Nat} : AW d 52 0 [.ref v, x1, x2, x3, x4, x5] (st) σ ρ g τ Q = AW d 52 1 [.ref v, x1, x2, x3, x4, x5] (.ref v :: st) σ ρ g τ Q := aw_lc m52 d52_0 rfl rfl rfl
theorem d52_1 : decode cX5_holds 1 = .ok (.getfield 21, 3) := by decide +kernel
theorem s52_1 {d : Nat} {st : List Value} {σ : am_I} {ρ : am_R} {g : am_J} {τ : am_T} {Q : am_Q} {x0 x1 x2 x3 x4 x5 : Value} {a : Nat} (ht : τ.1 a = 5) : AW d 52 1 [x0, x1, x2, x3, x4, x5] (.ref a :: st) σ ρ g τ Q = AW d 52 4 [x0, x1, x2, x3, x4, x5] (va_rf (ρ a 3) :: st) σ ρ g τ Q := aw_gr m52 d52_1 rfl rfl rfl ht
theorem d52_4 : decode cX5_holds 4 = .ok (.ifnonnull 5, 3) := by decide +kernel
theorem s52_4 {d : Nat} {st : List Value} {σ : am_I} {ρ : am_R} {g : am_J} {τ : am_T} {Q : am_Q} {x0 x1 x2 x3 x4 x5 : Value} {v : Nat} : AW d 52 4 [x0, x1, x2, x3, x4, x5] (.ref v :: st) σ ρ g τ Q = AW d 52 9 [x0, x1, x2, x3, x4, x5] (st) σ ρ g τ Q := aw_lc m52 d52_4 rfl rfl rfl
theorem s52_4n {d : Nat} {st : List Value} {σ : am_I} {ρ : am_R} {g : am_J} {τ : am_T} {Q : am_Q} {x0 x1 x2 x3 x4 x5 : Value} : AW d 52 4 [x0, x1, x2, x3, x4, x5] (.null :: st) σ ρ g τ Q = AW d 52 7 [x0, x1, x2, x3, x4, x5] (st) σ ρ g τ Q := aw_lc m52 d52_4 rfl rfl rfl
theorem d52_7 : decode cX5_holds 7 = .ok (.iconst 1, 1) := by decide +kernel
theorem s52_7 {d : Nat} {st : List Value} {σ : am_I} {ρ : am_R} {g : am_J} {τ : am_T} {Q : am_Q} {x0 x1 x2 x3 x4 x5 : Value} : AW d 52 7 [x0, x1, x2, x3, x4, x5] (st) σ ρ g τ Q = AW d 52 8 [x0, x1, x2, x3, x4, x5] (.int 1 :: st) σ ρ g τ Q := aw_lc m52 d52_7 rfl rfl rfl
theorem d52_8 : decode cX5_holds 8 = .ok (.ireturn, 1) := by decide +kernel
theorem s52_8 {d : Nat} {σ : am_I} {ρ : am_R} {g : am_J} {τ : am_T} {Q : am_Q} {x0 x1 x2 x3 x4 x5 : Value} {v : Int32} (hv : am_b01 v = true) : AW d 52 8 [x0, x1, x2, x3, x4, x5] ([.int v]) σ ρ g τ Q = Q (some (.int v)) σ ρ g τ := aw_rz m52 d52_8 rfl hv
theorem d52_9 : decode cX5_holds 9 = .ok (.lconst 0, 1) := by decide +kernel
theorem s52_9 {d : Nat} {st : List Value} {σ : am_I} {ρ : am_R} {g : am_J} {τ : am_T} {Q : am_Q} {x0 x1 x2 x3 x4 x5 : Value} : AW d 52 9 [x0, x1, x2, x3, x4, x5] (st) σ ρ g τ Q = AW d 52 10 [x0, x1, x2, x3, x4, x5] (.long 0 :: st) σ ρ g τ Q := aw_lc m52 d52_9 rfl rfl rfl
theorem d52_10 : decode cX5_holds 10 = .ok (.lstore_n 3, 1) := by decide +kernel
theorem s52_10 {d : Nat} {st : List Value} {σ : am_I} {ρ : am_R} {g : am_J} {τ : am_T} {Q : am_Q} {x0 x1 x3 x4 x5 : Value} {v : Int64} {u : Int32} : AW d 52 10 [x0, x1, .int u, x3, x4, x5] (.long v :: st) σ ρ g τ Q = AW d 52 11 [x0, x1, .int u, .long v, am_jk, x5] (st) σ ρ g τ Q := aw_lc m52 d52_10 rfl rfl rfl
theorem d52_11 : decode cX5_holds 11 = .ok (.iconst 0, 1) := by decide +kernel
theorem s52_11 {d : Nat} {st : List Value} {σ : am_I} {ρ : am_R} {g : am_J} {τ : am_T} {Q : am_Q} {x0 x1 x2 x3 x4 x5 : Value} : AW d 52 11 [x0, x1, x2, x3, x4, x5] (st) σ ρ g τ Q = AW d 52 12 [x0, x1, x2, x3, x4, x5] (.int 0 :: st) σ ρ g τ Q := aw_lc m52 d52_11 rfl rfl rfl
theorem d52_12 : decode cX5_holds 12 = .ok (.istore 5, 2) := by decide +kernel
theorem s52_12x {d : Nat} {st : List Value} {σ : am_I} {ρ : am_R} {g : am_J} {τ : am_T} {Q : am_Q} {x0 x1 x2 x3 x5 : Value} {v : Int32} : AW d 52 12 [x0, x1, x2, x3, am_jk, x5] (.int v :: st) σ ρ g τ Q = AW d 52 14 [x0, x1, x2, x3, am_jk, .int v] (st) σ ρ g τ Q := aw_lc m52 d52_12 rfl rfl rfl
theorem d52_14 : decode cX5_holds 14 = .ok (.iload 5, 2) := by decide +kernel
theorem s52_14 {d : Nat} {st : List Value} {σ : am_I} {ρ : am_R} {g : am_J} {τ : am_T} {Q : am_Q} {x0 x1 x2 x3 x4 : Value} {v : Int32} : AW d 52 14 [x0, x1, x2, x3, x4, .int v] (st) σ ρ g τ Q = AW d 52 16 [x0, x1, x2, x3, x4, .int v] (.int v :: st) σ ρ g τ Q := aw_lc m52 d52_14 rfl rfl rfl
theorem d52_16 : decode cX5_holds 16 = .ok (.aload_n 0, 1) := by decide +kernel
theorem s52_16 {d : Nat} {st : List Value} {σ : am_I} {ρ : am_R} {g : am_J} {τ : am_T} {Q : am_Q} {x1 x2 x3 x4 x5 : Value} {v : Nat} : AW d 52 16 [.ref v, x1, x2, x3, x4, x5] (st) σ ρ g τ Q = AW d 52 17 [.ref v, x1, x2, x3, x4, x5] (.ref v :: st) σ ρ g τ Q := aw_lc m52 d52_16 rfl rfl rfl
theorem d52_17 : decode cX5_holds 17 = .ok (.getfield 21, 3) := by decide +kernel
theorem s52_17 {d : Nat} {st : List Value} {σ : am_I} {ρ : am_R} {g : am_J} {τ : am_T} {Q : am_Q} {x0 x1 x2 x3 x4 x5 : Value} {a : Nat} (ht : τ.1 a = 5) : AW d 52 17 [x0, x1, x2, x3, x4, x5] (.ref a :: st) σ ρ g τ Q = AW d 52 20 [x0, x1, x2, x3, x4, x5] (va_rf (ρ a 3) :: st) σ ρ g τ Q := aw_gr m52 d52_17 rfl rfl rfl ht
theorem d52_20 : decode cX5_holds 20 = .ok (.arraylength, 1) := by decide +kernel
theorem s52_20 {d : Nat} {st : List Value} {σ : am_I} {ρ : am_R} {g : am_J} {τ : am_T} {Q : am_Q} {x0 x1 x2 x3 x4 x5 : Value} {a : Nat} (ht : 14 ≤ τ.1 a ∧ τ.1 a ≤ 22) : AW d 52 20 [x0, x1, x2, x3, x4, x5] (.ref a :: st) σ ρ g τ Q = AW d 52 21 [x0, x1, x2, x3, x4, x5] (.int (nI (τ.2.1 a)) :: st) σ ρ g τ Q := aw_len m52 d52_20 rfl ht
theorem d52_21 : decode cX5_holds 21 = .ok (.if_icmp .ge 152, 3) := by decide +kernel
theorem s52_21 {d : Nat} {st : List Value} {σ : am_I} {ρ : am_R} {g : am_J} {τ : am_T} {Q : am_Q} {x0 x1 x2 x3 x4 x5 : Value} {v w : Int32} : AW d 52 21 [x0, x1, x2, x3, x4, x5] (.int w :: .int v :: st) σ ρ g τ Q = if w ≤ v then AW d 52 173 [x0, x1, x2, x3, x4, x5] (st) σ ρ g τ Q else AW d 52 24 [x0, x1, x2, x3, x4, x5] (st) σ ρ g τ Q := aw_br m52 d52_21 rfl rfl rfl
theorem d52_24 : decode cX5_holds 24 = .ok (.aload_n 0, 1) := by decide +kernel
theorem s52_24 {d : Nat} {st : List Value} {σ : am_I} {ρ : am_R} {g : am_J} {τ : am_T} {Q : am_Q} {x1 x2 x3 x4 x5 : Value} {v : Nat} : AW d 52 24 [.ref v, x1, x2, x3, x4, x5] (st) σ ρ g τ Q = AW d 52 25 [.ref v, x1, x2, x3, x4, x5] (.ref v :: st) σ ρ g τ Q := aw_lc m52 d52_24 rfl rfl rfl
theorem d52_25 : decode cX5_holds 25 = .ok (.getfield 21, 3) := by decide +kernel
theorem s52_25 {d : Nat} {st : List Value} {σ : am_I} {ρ : am_R} {g : am_J} {τ : am_T} {Q : am_Q} {x0 x1 x2 x3 x4 x5 : Value} {a : Nat} (ht : τ.1 a = 5) : AW d 52 25 [x0, x1, x2, x3, x4, x5] (.ref a :: st) σ ρ g τ Q = AW d 52 28 [x0, x1, x2, x3, x4, x5] (va_rf (ρ a 3) :: st) σ ρ g τ Q := aw_gr m52 d52_25 rfl rfl rfl ht
theorem d52_28 : decode cX5_holds 28 = .ok (.iload 5, 2) := by decide +kernel
theorem s52_28 {d : Nat} {st : List Value} {σ : am_I} {ρ : am_R} {g : am_J} {τ : am_T} {Q : am_Q} {x0 x1 x2 x3 x4 : Value} {v : Int32} : AW d 52 28 [x0, x1, x2, x3, x4, .int v] (st) σ ρ g τ Q = AW d 52 30 [x0, x1, x2, x3, x4, .int v] (.int v :: st) σ ρ g τ Q := aw_lc m52 d52_28 rfl rfl rfl
theorem d52_30 : decode cX5_holds 30 = .ok (.iaload, 1) := by decide +kernel
theorem s52_30 {d : Nat} {st : List Value} {σ : am_I} {ρ : am_R} {g : am_J} {τ : am_T} {Q : am_Q} {x0 x1 x2 x3 x4 x5 : Value} {a : Nat} {j : Int32} (ht : τ.1 a = 15) (hj : am_inb j (τ.2.1 a) = true) : AW d 52 30 [x0, x1, x2, x3, x4, x5] (.int j :: .ref a :: st) σ ρ g τ Q = AW d 52 31 [x0, x1, x2, x3, x4, x5] (.int (σ a j.toNatClampNeg) :: st) σ ρ g τ Q := aw_ial m52 d52_30 rfl ht hj
theorem d52_31 : decode cX5_holds 31 = .ok (.bipush 15, 2) := by decide +kernel
theorem s52_31 {d : Nat} {st : List Value} {σ : am_I} {ρ : am_R} {g : am_J} {τ : am_T} {Q : am_Q} {x0 x1 x2 x3 x4 x5 : Value} : AW d 52 31 [x0, x1, x2, x3, x4, x5] (st) σ ρ g τ Q = AW d 52 33 [x0, x1, x2, x3, x4, x5] (.int 15 :: st) σ ρ g τ Q := aw_lc m52 d52_31 rfl rfl rfl
theorem d52_33 : decode cX5_holds 33 = .ok (.iand, 1) := by decide +kernel
theorem s52_33 {d : Nat} {st : List Value} {σ : am_I} {ρ : am_R} {g : am_J} {τ : am_T} {Q : am_Q} {x0 x1 x2 x3 x4 x5 : Value} {v w : Int32} : AW d 52 33 [x0, x1, x2, x3, x4, x5] (.int w :: .int v :: st) σ ρ g τ Q = AW d 52 34 [x0, x1, x2, x3, x4, x5] (.int (v &&& w) :: st) σ ρ g τ Q := aw_lc m52 d52_33 rfl rfl rfl
theorem d52_34 : decode cX5_holds 34 = .ok (.tableswitch 125 0 3 #[30, 74, 105, 112], 30) := by decide +kernel
theorem s52_34_0 {d : Nat} {st : List Value} {σ : am_I} {ρ : am_R} {g : am_J} {τ : am_T} {Q : am_Q} {x0 x1 x2 x3 x4 x5 : Value} : AW d 52 34 [x0, x1, x2, x3, x4, x5] (.int 0 :: st) σ ρ g τ Q = AW d 52 64 [x0, x1, x2, x3, x4, x5] (st) σ ρ g τ Q := aw_lc m52 d52_34 rfl rfl rfl
theorem s52_34_1 {d : Nat} {st : List Value} {σ : am_I} {ρ : am_R} {g : am_J} {τ : am_T} {Q : am_Q} {x0 x1 x2 x3 x4 x5 : Value} : AW d 52 34 [x0, x1, x2, x3, x4, x5] (.int 1 :: st) σ ρ g τ Q = AW d 52 108 [x0, x1, x2, x3, x4, x5] (st) σ ρ g τ Q := aw_lc m52 d52_34 rfl rfl rfl
theorem s52_34_2 {d : Nat} {st : List Value} {σ : am_I} {ρ : am_R} {g : am_J} {τ : am_T} {Q : am_Q} {x0 x1 x2 x3 x4 x5 : Value} : AW d 52 34 [x0, x1, x2, x3, x4, x5] (.int 2 :: st) σ ρ g τ Q = AW d 52 139 [x0, x1, x2, x3, x4, x5] (st) σ ρ g τ Q := aw_lc m52 d52_34 rfl rfl rfl
theorem s52_34_3 {d : Nat} {st : List Value} {σ : am_I} {ρ : am_R} {g : am_J} {τ : am_T} {Q : am_Q} {x0 x1 x2 x3 x4 x5 : Value} : AW d 52 34 [x0, x1, x2, x3, x4, x5] (.int 3 :: st) σ ρ g τ Q = AW d 52 146 [x0, x1, x2, x3, x4, x5] (st) σ ρ g τ Q := aw_lc m52 d52_34 rfl rfl rfl
theorem s52_34_d {d : Nat} {st : List Value} {σ : am_I} {ρ : am_R} {g : am_J} {τ : am_T} {Q : am_Q} {x0 x1 x2 x3 x4 x5 : Value} {v : Int32} (h : v.toInt < 0 ∨ 3 < v.toInt) : AW d 52 34 [x0, x1, x2, x3, x4, x5] (.int v :: st) σ ρ g τ Q = AW d 52 159 [x0, x1, x2, x3, x4, x5] (st) σ ρ g τ Q := aw_lc m52 d52_34 rfl rfl (by simp only [am_lc]; rw [if_pos h]; rfl)
theorem d52_64 : decode cX5_holds 64 = .ok (.lload_n 3, 1) := by decide +kernel
theorem s52_64 {d : Nat} {st : List Value} {σ : am_I} {ρ : am_R} {g : am_J} {τ : am_T} {Q : am_Q} {x0 x1 x2 x4 x5 : Value} {v : Int64} : AW d 52 64 [x0, x1, x2, .long v, x4, x5] (st) σ ρ g τ Q = AW d 52 65 [x0, x1, x2, .long v, x4, x5] (.long v :: st) σ ρ g τ Q := aw_lc m52 d52_64 rfl rfl rfl
theorem d52_65 : decode cX5_holds 65 = .ok (.iconst 1, 1) := by decide +kernel
theorem s52_65 {d : Nat} {st : List Value} {σ : am_I} {ρ : am_R} {g : am_J} {τ : am_T} {Q : am_Q} {x0 x1 x2 x3 x4 x5 : Value} : AW d 52 65 [x0, x1, x2, x3, x4, x5] (st) σ ρ g τ Q = AW d 52 66 [x0, x1, x2, x3, x4, x5] (.int 1 :: st) σ ρ g τ Q := aw_lc m52 d52_65 rfl rfl rfl
theorem d52_66 : decode cX5_holds 66 = .ok (.lshl, 1) := by decide +kernel
theorem s52_66 {d : Nat} {st : List Value} {σ : am_I} {ρ : am_R} {g : am_J} {τ : am_T} {Q : am_Q} {x0 x1 x2 x3 x4 x5 : Value} {v : Int64} {w : Int32} : AW d 52 66 [x0, x1, x2, x3, x4, x5] (.int w :: .long v :: st) σ ρ g τ Q = AW d 52 67 [x0, x1, x2, x3, x4, x5] (.long (v <<< (w.toInt64 &&& 63)) :: st) σ ρ g τ Q := aw_lc m52 d52_66 rfl rfl rfl
theorem d52_67 : decode cX5_holds 67 = .ok (.aload_n 1, 1) := by decide +kernel
theorem s52_67 {d : Nat} {st : List Value} {σ : am_I} {ρ : am_R} {g : am_J} {τ : am_T} {Q : am_Q} {x0 x2 x3 x4 x5 : Value} {v : Nat} : AW d 52 67 [x0, .ref v, x2, x3, x4, x5] (st) σ ρ g τ Q = AW d 52 68 [x0, .ref v, x2, x3, x4, x5] (.ref v :: st) σ ρ g τ Q := aw_lc m52 d52_67 rfl rfl rfl
theorem d52_68 : decode cX5_holds 68 = .ok (.aload_n 0, 1) := by decide +kernel
theorem s52_68 {d : Nat} {st : List Value} {σ : am_I} {ρ : am_R} {g : am_J} {τ : am_T} {Q : am_Q} {x1 x2 x3 x4 x5 : Value} {v : Nat} : AW d 52 68 [.ref v, x1, x2, x3, x4, x5] (st) σ ρ g τ Q = AW d 52 69 [.ref v, x1, x2, x3, x4, x5] (.ref v :: st) σ ρ g τ Q := aw_lc m52 d52_68 rfl rfl rfl
theorem d52_69 : decode cX5_holds 69 = .ok (.getfield 21, 3) := by decide +kernel
theorem s52_69 {d : Nat} {st : List Value} {σ : am_I} {ρ : am_R} {g : am_J} {τ : am_T} {Q : am_Q} {x0 x1 x2 x3 x4 x5 : Value} {a : Nat} (ht : τ.1 a = 5) : AW d 52 69 [x0, x1, x2, x3, x4, x5] (.ref a :: st) σ ρ g τ Q = AW d 52 72 [x0, x1, x2, x3, x4, x5] (va_rf (ρ a 3) :: st) σ ρ g τ Q := aw_gr m52 d52_69 rfl rfl rfl ht
theorem d52_72 : decode cX5_holds 72 = .ok (.iload 5, 2) := by decide +kernel
theorem s52_72 {d : Nat} {st : List Value} {σ : am_I} {ρ : am_R} {g : am_J} {τ : am_T} {Q : am_Q} {x0 x1 x2 x3 x4 : Value} {v : Int32} : AW d 52 72 [x0, x1, x2, x3, x4, .int v] (st) σ ρ g τ Q = AW d 52 74 [x0, x1, x2, x3, x4, .int v] (.int v :: st) σ ρ g τ Q := aw_lc m52 d52_72 rfl rfl rfl
theorem d52_74 : decode cX5_holds 74 = .ok (.iaload, 1) := by decide +kernel
theorem s52_74 {d : Nat} {st : List Value} {σ : am_I} {ρ : am_R} {g : am_J} {τ : am_T} {Q : am_Q} {x0 x1 x2 x3 x4 x5 : Value} {a : Nat} {j : Int32} (ht : τ.1 a = 15) (hj : am_inb j (τ.2.1 a) = true) : AW d 52 74 [x0, x1, x2, x3, x4, x5] (.int j :: .ref a :: st) σ ρ g τ Q = AW d 52 75 [x0, x1, x2, x3, x4, x5] (.int (σ a j.toNatClampNeg) :: st) σ ρ g τ Q := aw_ial m52 d52_74 rfl ht hj
theorem d52_75 : decode cX5_holds 75 = .ok (.iconst 4, 1) := by decide +kernel
theorem s52_75 {d : Nat} {st : List Value} {σ : am_I} {ρ : am_R} {g : am_J} {τ : am_T} {Q : am_Q} {x0 x1 x2 x3 x4 x5 : Value} : AW d 52 75 [x0, x1, x2, x3, x4, x5] (st) σ ρ g τ Q = AW d 52 76 [x0, x1, x2, x3, x4, x5] (.int 4 :: st) σ ρ g τ Q := aw_lc m52 d52_75 rfl rfl rfl
theorem d52_76 : decode cX5_holds 76 = .ok (.ishr, 1) := by decide +kernel
theorem s52_76 {d : Nat} {st : List Value} {σ : am_I} {ρ : am_R} {g : am_J} {τ : am_T} {Q : am_Q} {x0 x1 x2 x3 x4 x5 : Value} {v w : Int32} : AW d 52 76 [x0, x1, x2, x3, x4, x5] (.int w :: .int v :: st) σ ρ g τ Q = AW d 52 77 [x0, x1, x2, x3, x4, x5] (.int (v >>> (w &&& 31)) :: st) σ ρ g τ Q := aw_lc m52 d52_76 rfl rfl rfl
theorem d52_77 : decode cX5_holds 77 = .ok (.bipush 15, 2) := by decide +kernel
theorem s52_77 {d : Nat} {st : List Value} {σ : am_I} {ρ : am_R} {g : am_J} {τ : am_T} {Q : am_Q} {x0 x1 x2 x3 x4 x5 : Value} : AW d 52 77 [x0, x1, x2, x3, x4, x5] (st) σ ρ g τ Q = AW d 52 79 [x0, x1, x2, x3, x4, x5] (.int 15 :: st) σ ρ g τ Q := aw_lc m52 d52_77 rfl rfl rfl
theorem d52_79 : decode cX5_holds 79 = .ok (.iand, 1) := by decide +kernel
theorem s52_79 {d : Nat} {st : List Value} {σ : am_I} {ρ : am_R} {g : am_J} {τ : am_T} {Q : am_Q} {x0 x1 x2 x3 x4 x5 : Value} {v w : Int32} : AW d 52 79 [x0, x1, x2, x3, x4, x5] (.int w :: .int v :: st) σ ρ g τ Q = AW d 52 80 [x0, x1, x2, x3, x4, x5] (.int (v &&& w) :: st) σ ρ g τ Q := aw_lc m52 d52_79 rfl rfl rfl
theorem d52_80 : decode cX5_holds 80 = .ok (.iload_n 2, 1) := by decide +kernel
theorem s52_80 {d : Nat} {st : List Value} {σ : am_I} {ρ : am_R} {g : am_J} {τ : am_T} {Q : am_Q} {x0 x1 x3 x4 x5 : Value} {v : Int32} : AW d 52 80 [x0, x1, .int v, x3, x4, x5] (st) σ ρ g τ Q = AW d 52 81 [x0, x1, .int v, x3, x4, x5] (.int v :: st) σ ρ g τ Q := aw_lc m52 d52_80 rfl rfl rfl
theorem d52_81 : decode cX5_holds 81 = .ok (.invokevirtual 25, 3) := by decide +kernel
theorem s52_81 {d : Nat} {st : List Value} {σ : am_I} {ρ : am_R} {g : am_J} {τ : am_T} {Q : am_Q} {x0 x1 x2 x3 x4 x5 : Value} {p0 : Nat} {p1 : Int32} {p2 : Int32} (ht : τ.1 p0 = 1) (hs : st.length ≤ 4) : AW (d + 1) 52 81 [x0, x1, x2, x3, x4, x5] (.int p2 :: .int p1 :: .ref p0 :: st) σ ρ g τ Q = AW d 11 0 [.ref p0, .int p1, .int p2] [] σ ρ g τ (fun r9 σ ρ g τ => AW (d + 1) 52 84 [x0, x1, x2, x3, x4, x5] (r9.toList ++ st) σ ρ g τ Q) := aw_cv m52 d52_81 rfl m11 rfl rfl (by decide) en11 ok11 rfl ht hs
theorem d52_84 : decode cX5_holds 84 = .ok (.aload_n 0, 1) := by decide +kernel
theorem s52_84 {d : Nat} {st : List Value} {σ : am_I} {ρ : am_R} {g : am_J} {τ : am_T} {Q : am_Q} {x1 x2 x3 x4 x5 : Value} {v : Nat} : AW d 52 84 [.ref v, x1, x2, x3, x4, x5] (st) σ ρ g τ Q = AW d 52 85 [.ref v, x1, x2, x3, x4, x5] (.ref v :: st) σ ρ g τ Q := aw_lc m52 d52_84 rfl rfl rfl
theorem d52_85 : decode cX5_holds 85 = .ok (.getfield 21, 3) := by decide +kernel
theorem s52_85 {d : Nat} {st : List Value} {σ : am_I} {ρ : am_R} {g : am_J} {τ : am_T} {Q : am_Q} {x0 x1 x2 x3 x4 x5 : Value} {a : Nat} (ht : τ.1 a = 5) : AW d 52 85 [x0, x1, x2, x3, x4, x5] (.ref a :: st) σ ρ g τ Q = AW d 52 88 [x0, x1, x2, x3, x4, x5] (va_rf (ρ a 3) :: st) σ ρ g τ Q := aw_gr m52 d52_85 rfl rfl rfl ht
theorem d52_88 : decode cX5_holds 88 = .ok (.iload 5, 2) := by decide +kernel
theorem s52_88 {d : Nat} {st : List Value} {σ : am_I} {ρ : am_R} {g : am_J} {τ : am_T} {Q : am_Q} {x0 x1 x2 x3 x4 : Value} {v : Int32} : AW d 52 88 [x0, x1, x2, x3, x4, .int v] (st) σ ρ g τ Q = AW d 52 90 [x0, x1, x2, x3, x4, .int v] (.int v :: st) σ ρ g τ Q := aw_lc m52 d52_88 rfl rfl rfl
theorem d52_90 : decode cX5_holds 90 = .ok (.iaload, 1) := by decide +kernel
theorem s52_90 {d : Nat} {st : List Value} {σ : am_I} {ρ : am_R} {g : am_J} {τ : am_T} {Q : am_Q} {x0 x1 x2 x3 x4 x5 : Value} {a : Nat} {j : Int32} (ht : τ.1 a = 15) (hj : am_inb j (τ.2.1 a) = true) : AW d 52 90 [x0, x1, x2, x3, x4, x5] (.int j :: .ref a :: st) σ ρ g τ Q = AW d 52 91 [x0, x1, x2, x3, x4, x5] (.int (σ a j.toNatClampNeg) :: st) σ ρ g τ Q := aw_ial m52 d52_90 rfl ht hj
theorem d52_91 : decode cX5_holds 91 = .ok (.invokestatic 31, 3) := by decide +kernel
theorem s52_91 {d : Nat} {st : List Value} {σ : am_I} {ρ : am_R} {g : am_J} {τ : am_T} {Q : am_Q} {x0 x1 x2 x3 x4 x5 : Value} {p0 : Int32} {p1 : Int32} (hs : st.length ≤ 4) : AW (d + 1) 52 91 [x0, x1, x2, x3, x4, x5] (.int p1 :: .int p0 :: st) σ ρ g τ Q = AW d 53 0 [.int p0, .int p1, am_jk] [] σ ρ g τ (fun r9 σ ρ g τ => AW (d + 1) 52 94 [x0, x1, x2, x3, x4, x5] (r9.toList ++ st) σ ρ g τ Q) := aw_cs m52 d52_91 rfl (by simp only [List.length_cons]; omega) rfl rfl en53 ok53 rfl hs
theorem d52_94 : decode cX5_holds 94 = .ok (.ifCond .eq 7, 3) := by decide +kernel
theorem s52_94 {d : Nat} {st : List Value} {σ : am_I} {ρ : am_R} {g : am_J} {τ : am_T} {Q : am_Q} {x0 x1 x2 x3 x4 x5 : Value} {v : Int32} : AW d 52 94 [x0, x1, x2, x3, x4, x5] (.int v :: st) σ ρ g τ Q = if v = 0 then AW d 52 101 [x0, x1, x2, x3, x4, x5] (st) σ ρ g τ Q else AW d 52 97 [x0, x1, x2, x3, x4, x5] (st) σ ρ g τ Q := aw_br m52 d52_94 rfl rfl rfl
theorem d52_97 : decode cX5_holds 97 = .ok (.iconst 1, 1) := by decide +kernel
theorem s52_97 {d : Nat} {st : List Value} {σ : am_I} {ρ : am_R} {g : am_J} {τ : am_T} {Q : am_Q} {x0 x1 x2 x3 x4 x5 : Value} : AW d 52 97 [x0, x1, x2, x3, x4, x5] (st) σ ρ g τ Q = AW d 52 98 [x0, x1, x2, x3, x4, x5] (.int 1 :: st) σ ρ g τ Q := aw_lc m52 d52_97 rfl rfl rfl
theorem d52_98 : decode cX5_holds 98 = .ok (.goto 4, 3) := by decide +kernel
theorem s52_98 {d : Nat} {st : List Value} {σ : am_I} {ρ : am_R} {g : am_J} {τ : am_T} {Q : am_Q} {x0 x1 x2 x3 x4 x5 : Value} : AW d 52 98 [x0, x1, x2, x3, x4, x5] (st) σ ρ g τ Q = AW d 52 102 [x0, x1, x2, x3, x4, x5] (st) σ ρ g τ Q := aw_lc m52 d52_98 rfl rfl rfl
theorem d52_101 : decode cX5_holds 101 = .ok (.iconst 0, 1) := by decide +kernel
theorem s52_101 {d : Nat} {st : List Value} {σ : am_I} {ρ : am_R} {g : am_J} {τ : am_T} {Q : am_Q} {x0 x1 x2 x3 x4 x5 : Value} : AW d 52 101 [x0, x1, x2, x3, x4, x5] (st) σ ρ g τ Q = AW d 52 102 [x0, x1, x2, x3, x4, x5] (.int 0 :: st) σ ρ g τ Q := aw_lc m52 d52_101 rfl rfl rfl
theorem d52_102 : decode cX5_holds 102 = .ok (.i2l, 1) := by decide +kernel
theorem s52_102 {d : Nat} {st : List Value} {σ : am_I} {ρ : am_R} {g : am_J} {τ : am_T} {Q : am_Q} {x0 x1 x2 x3 x4 x5 : Value} {v : Int32} : AW d 52 102 [x0, x1, x2, x3, x4, x5] (.int v :: st) σ ρ g τ Q = AW d 52 103 [x0, x1, x2, x3, x4, x5] (.long v.toInt64 :: st) σ ρ g τ Q := aw_lc m52 d52_102 rfl rfl rfl
theorem d52_103 : decode cX5_holds 103 = .ok (.lor, 1) := by decide +kernel
theorem s52_103 {d : Nat} {st : List Value} {σ : am_I} {ρ : am_R} {g : am_J} {τ : am_T} {Q : am_Q} {x0 x1 x2 x3 x4 x5 : Value} {v w : Int64} : AW d 52 103 [x0, x1, x2, x3, x4, x5] (.long w :: .long v :: st) σ ρ g τ Q = AW d 52 104 [x0, x1, x2, x3, x4, x5] (.long (v ||| w) :: st) σ ρ g τ Q := aw_lc m52 d52_103 rfl rfl rfl
theorem d52_104 : decode cX5_holds 104 = .ok (.lstore_n 3, 1) := by decide +kernel
theorem s52_104 {d : Nat} {st : List Value} {σ : am_I} {ρ : am_R} {g : am_J} {τ : am_T} {Q : am_Q} {x0 x1 x3 x4 x5 : Value} {v : Int64} {u : Int32} : AW d 52 104 [x0, x1, .int u, x3, x4, x5] (.long v :: st) σ ρ g τ Q = AW d 52 105 [x0, x1, .int u, .long v, am_jk, x5] (st) σ ρ g τ Q := aw_lc m52 d52_104 rfl rfl rfl
theorem d52_105 : decode cX5_holds 105 = .ok (.goto 62, 3) := by decide +kernel
theorem s52_105 {d : Nat} {st : List Value} {σ : am_I} {ρ : am_R} {g : am_J} {τ : am_T} {Q : am_Q} {x0 x1 x2 x3 x4 x5 : Value} : AW d 52 105 [x0, x1, x2, x3, x4, x5] (st) σ ρ g τ Q = AW d 52 167 [x0, x1, x2, x3, x4, x5] (st) σ ρ g τ Q := aw_lc m52 d52_105 rfl rfl rfl
theorem d52_108 : decode cX5_holds 108 = .ok (.lload_n 3, 1) := by decide +kernel
theorem s52_108 {d : Nat} {st : List Value} {σ : am_I} {ρ : am_R} {g : am_J} {τ : am_T} {Q : am_Q} {x0 x1 x2 x4 x5 : Value} {v : Int64} : AW d 52 108 [x0, x1, x2, .long v, x4, x5] (st) σ ρ g τ Q = AW d 52 109 [x0, x1, x2, .long v, x4, x5] (.long v :: st) σ ρ g τ Q := aw_lc m52 d52_108 rfl rfl rfl
theorem d52_109 : decode cX5_holds 109 = .ok (.iconst 1, 1) := by decide +kernel
theorem s52_109 {d : Nat} {st : List Value} {σ : am_I} {ρ : am_R} {g : am_J} {τ : am_T} {Q : am_Q} {x0 x1 x2 x3 x4 x5 : Value} : AW d 52 109 [x0, x1, x2, x3, x4, x5] (st) σ ρ g τ Q = AW d 52 110 [x0, x1, x2, x3, x4, x5] (.int 1 :: st) σ ρ g τ Q := aw_lc m52 d52_109 rfl rfl rfl
theorem d52_110 : decode cX5_holds 110 = .ok (.lshl, 1) := by decide +kernel
theorem s52_110 {d : Nat} {st : List Value} {σ : am_I} {ρ : am_R} {g : am_J} {τ : am_T} {Q : am_Q} {x0 x1 x2 x3 x4 x5 : Value} {v : Int64} {w : Int32} : AW d 52 110 [x0, x1, x2, x3, x4, x5] (.int w :: .long v :: st) σ ρ g τ Q = AW d 52 111 [x0, x1, x2, x3, x4, x5] (.long (v <<< (w.toInt64 &&& 63)) :: st) σ ρ g τ Q := aw_lc m52 d52_110 rfl rfl rfl
theorem d52_111 : decode cX5_holds 111 = .ok (.aload_n 1, 1) := by decide +kernel
theorem s52_111 {d : Nat} {st : List Value} {σ : am_I} {ρ : am_R} {g : am_J} {τ : am_T} {Q : am_Q} {x0 x2 x3 x4 x5 : Value} {v : Nat} : AW d 52 111 [x0, .ref v, x2, x3, x4, x5] (st) σ ρ g τ Q = AW d 52 112 [x0, .ref v, x2, x3, x4, x5] (.ref v :: st) σ ρ g τ Q := aw_lc m52 d52_111 rfl rfl rfl
theorem d52_112 : decode cX5_holds 112 = .ok (.getfield 35, 3) := by decide +kernel
theorem s52_112 {d : Nat} {st : List Value} {σ : am_I} {ρ : am_R} {g : am_J} {τ : am_T} {Q : am_Q} {x0 x1 x2 x3 x4 x5 : Value} {a : Nat} (ht : τ.1 a = 1) : AW d 52 112 [x0, x1, x2, x3, x4, x5] (.ref a :: st) σ ρ g τ Q = AW d 52 115 [x0, x1, x2, x3, x4, x5] (.int (σ a 2) :: st) σ ρ g τ Q := aw_gi m52 d52_112 rfl rfl rfl ht
theorem d52_115 : decode cX5_holds 115 = .ok (.aload_n 0, 1) := by decide +kernel
theorem s52_115 {d : Nat} {st : List Value} {σ : am_I} {ρ : am_R} {g : am_J} {τ : am_T} {Q : am_Q} {x1 x2 x3 x4 x5 : Value} {v : Nat} : AW d 52 115 [.ref v, x1, x2, x3, x4, x5] (st) σ ρ g τ Q = AW d 52 116 [.ref v, x1, x2, x3, x4, x5] (.ref v :: st) σ ρ g τ Q := aw_lc m52 d52_115 rfl rfl rfl
theorem d52_116 : decode cX5_holds 116 = .ok (.getfield 21, 3) := by decide +kernel
theorem s52_116 {d : Nat} {st : List Value} {σ : am_I} {ρ : am_R} {g : am_J} {τ : am_T} {Q : am_Q} {x0 x1 x2 x3 x4 x5 : Value} {a : Nat} (ht : τ.1 a = 5) : AW d 52 116 [x0, x1, x2, x3, x4, x5] (.ref a :: st) σ ρ g τ Q = AW d 52 119 [x0, x1, x2, x3, x4, x5] (va_rf (ρ a 3) :: st) σ ρ g τ Q := aw_gr m52 d52_116 rfl rfl rfl ht
theorem d52_119 : decode cX5_holds 119 = .ok (.iload 5, 2) := by decide +kernel
theorem s52_119 {d : Nat} {st : List Value} {σ : am_I} {ρ : am_R} {g : am_J} {τ : am_T} {Q : am_Q} {x0 x1 x2 x3 x4 : Value} {v : Int32} : AW d 52 119 [x0, x1, x2, x3, x4, .int v] (st) σ ρ g τ Q = AW d 52 121 [x0, x1, x2, x3, x4, .int v] (.int v :: st) σ ρ g τ Q := aw_lc m52 d52_119 rfl rfl rfl
theorem d52_121 : decode cX5_holds 121 = .ok (.iaload, 1) := by decide +kernel
theorem s52_121 {d : Nat} {st : List Value} {σ : am_I} {ρ : am_R} {g : am_J} {τ : am_T} {Q : am_Q} {x0 x1 x2 x3 x4 x5 : Value} {a : Nat} {j : Int32} (ht : τ.1 a = 15) (hj : am_inb j (τ.2.1 a) = true) : AW d 52 121 [x0, x1, x2, x3, x4, x5] (.int j :: .ref a :: st) σ ρ g τ Q = AW d 52 122 [x0, x1, x2, x3, x4, x5] (.int (σ a j.toNatClampNeg) :: st) σ ρ g τ Q := aw_ial m52 d52_121 rfl ht hj
theorem d52_122 : decode cX5_holds 122 = .ok (.bipush 16, 2) := by decide +kernel
theorem s52_122 {d : Nat} {st : List Value} {σ : am_I} {ρ : am_R} {g : am_J} {τ : am_T} {Q : am_Q} {x0 x1 x2 x3 x4 x5 : Value} : AW d 52 122 [x0, x1, x2, x3, x4, x5] (st) σ ρ g τ Q = AW d 52 124 [x0, x1, x2, x3, x4, x5] (.int 16 :: st) σ ρ g τ Q := aw_lc m52 d52_122 rfl rfl rfl
theorem d52_124 : decode cX5_holds 124 = .ok (.ishr, 1) := by decide +kernel
theorem s52_124 {d : Nat} {st : List Value} {σ : am_I} {ρ : am_R} {g : am_J} {τ : am_T} {Q : am_Q} {x0 x1 x2 x3 x4 x5 : Value} {v w : Int32} : AW d 52 124 [x0, x1, x2, x3, x4, x5] (.int w :: .int v :: st) σ ρ g τ Q = AW d 52 125 [x0, x1, x2, x3, x4, x5] (.int (v >>> (w &&& 31)) :: st) σ ρ g τ Q := aw_lc m52 d52_124 rfl rfl rfl
theorem d52_125 : decode cX5_holds 125 = .ok (.if_icmp .ne 7, 3) := by decide +kernel
theorem s52_125 {d : Nat} {st : List Value} {σ : am_I} {ρ : am_R} {g : am_J} {τ : am_T} {Q : am_Q} {x0 x1 x2 x3 x4 x5 : Value} {v w : Int32} : AW d 52 125 [x0, x1, x2, x3, x4, x5] (.int w :: .int v :: st) σ ρ g τ Q = if ¬ v = w then AW d 52 132 [x0, x1, x2, x3, x4, x5] (st) σ ρ g τ Q else AW d 52 128 [x0, x1, x2, x3, x4, x5] (st) σ ρ g τ Q := aw_br m52 d52_125 rfl rfl rfl
theorem d52_128 : decode cX5_holds 128 = .ok (.iconst 1, 1) := by decide +kernel
theorem s52_128 {d : Nat} {st : List Value} {σ : am_I} {ρ : am_R} {g : am_J} {τ : am_T} {Q : am_Q} {x0 x1 x2 x3 x4 x5 : Value} : AW d 52 128 [x0, x1, x2, x3, x4, x5] (st) σ ρ g τ Q = AW d 52 129 [x0, x1, x2, x3, x4, x5] (.int 1 :: st) σ ρ g τ Q := aw_lc m52 d52_128 rfl rfl rfl
theorem d52_129 : decode cX5_holds 129 = .ok (.goto 4, 3) := by decide +kernel
theorem s52_129 {d : Nat} {st : List Value} {σ : am_I} {ρ : am_R} {g : am_J} {τ : am_T} {Q : am_Q} {x0 x1 x2 x3 x4 x5 : Value} : AW d 52 129 [x0, x1, x2, x3, x4, x5] (st) σ ρ g τ Q = AW d 52 133 [x0, x1, x2, x3, x4, x5] (st) σ ρ g τ Q := aw_lc m52 d52_129 rfl rfl rfl
theorem d52_132 : decode cX5_holds 132 = .ok (.iconst 0, 1) := by decide +kernel
theorem s52_132 {d : Nat} {st : List Value} {σ : am_I} {ρ : am_R} {g : am_J} {τ : am_T} {Q : am_Q} {x0 x1 x2 x3 x4 x5 : Value} : AW d 52 132 [x0, x1, x2, x3, x4, x5] (st) σ ρ g τ Q = AW d 52 133 [x0, x1, x2, x3, x4, x5] (.int 0 :: st) σ ρ g τ Q := aw_lc m52 d52_132 rfl rfl rfl
theorem d52_133 : decode cX5_holds 133 = .ok (.i2l, 1) := by decide +kernel
theorem s52_133 {d : Nat} {st : List Value} {σ : am_I} {ρ : am_R} {g : am_J} {τ : am_T} {Q : am_Q} {x0 x1 x2 x3 x4 x5 : Value} {v : Int32} : AW d 52 133 [x0, x1, x2, x3, x4, x5] (.int v :: st) σ ρ g τ Q = AW d 52 134 [x0, x1, x2, x3, x4, x5] (.long v.toInt64 :: st) σ ρ g τ Q := aw_lc m52 d52_133 rfl rfl rfl
theorem d52_134 : decode cX5_holds 134 = .ok (.lor, 1) := by decide +kernel
theorem s52_134 {d : Nat} {st : List Value} {σ : am_I} {ρ : am_R} {g : am_J} {τ : am_T} {Q : am_Q} {x0 x1 x2 x3 x4 x5 : Value} {v w : Int64} : AW d 52 134 [x0, x1, x2, x3, x4, x5] (.long w :: .long v :: st) σ ρ g τ Q = AW d 52 135 [x0, x1, x2, x3, x4, x5] (.long (v ||| w) :: st) σ ρ g τ Q := aw_lc m52 d52_134 rfl rfl rfl
theorem d52_135 : decode cX5_holds 135 = .ok (.lstore_n 3, 1) := by decide +kernel
theorem s52_135 {d : Nat} {st : List Value} {σ : am_I} {ρ : am_R} {g : am_J} {τ : am_T} {Q : am_Q} {x0 x1 x3 x4 x5 : Value} {v : Int64} {u : Int32} : AW d 52 135 [x0, x1, .int u, x3, x4, x5] (.long v :: st) σ ρ g τ Q = AW d 52 136 [x0, x1, .int u, .long v, am_jk, x5] (st) σ ρ g τ Q := aw_lc m52 d52_135 rfl rfl rfl
theorem d52_136 : decode cX5_holds 136 = .ok (.goto 31, 3) := by decide +kernel
theorem s52_136 {d : Nat} {st : List Value} {σ : am_I} {ρ : am_R} {g : am_J} {τ : am_T} {Q : am_Q} {x0 x1 x2 x3 x4 x5 : Value} : AW d 52 136 [x0, x1, x2, x3, x4, x5] (st) σ ρ g τ Q = AW d 52 167 [x0, x1, x2, x3, x4, x5] (st) σ ρ g τ Q := aw_lc m52 d52_136 rfl rfl rfl
theorem d52_139 : decode cX5_holds 139 = .ok (.lload_n 3, 1) := by decide +kernel
theorem s52_139 {d : Nat} {st : List Value} {σ : am_I} {ρ : am_R} {g : am_J} {τ : am_T} {Q : am_Q} {x0 x1 x2 x4 x5 : Value} {v : Int64} : AW d 52 139 [x0, x1, x2, .long v, x4, x5] (st) σ ρ g τ Q = AW d 52 140 [x0, x1, x2, .long v, x4, x5] (.long v :: st) σ ρ g τ Q := aw_lc m52 d52_139 rfl rfl rfl
theorem d52_140 : decode cX5_holds 140 = .ok (.lconst 1, 1) := by decide +kernel
theorem s52_140 {d : Nat} {st : List Value} {σ : am_I} {ρ : am_R} {g : am_J} {τ : am_T} {Q : am_Q} {x0 x1 x2 x3 x4 x5 : Value} : AW d 52 140 [x0, x1, x2, x3, x4, x5] (st) σ ρ g τ Q = AW d 52 141 [x0, x1, x2, x3, x4, x5] (.long 1 :: st) σ ρ g τ Q := aw_lc m52 d52_140 rfl rfl rfl
theorem d52_141 : decode cX5_holds 141 = .ok (.lxor, 1) := by decide +kernel
theorem s52_141 {d : Nat} {st : List Value} {σ : am_I} {ρ : am_R} {g : am_J} {τ : am_T} {Q : am_Q} {x0 x1 x2 x3 x4 x5 : Value} {v w : Int64} : AW d 52 141 [x0, x1, x2, x3, x4, x5] (.long w :: .long v :: st) σ ρ g τ Q = AW d 52 142 [x0, x1, x2, x3, x4, x5] (.long (v ^^^ w) :: st) σ ρ g τ Q := aw_lc m52 d52_141 rfl rfl rfl
theorem d52_142 : decode cX5_holds 142 = .ok (.lstore_n 3, 1) := by decide +kernel
theorem s52_142 {d : Nat} {st : List Value} {σ : am_I} {ρ : am_R} {g : am_J} {τ : am_T} {Q : am_Q} {x0 x1 x3 x4 x5 : Value} {v : Int64} {u : Int32} : AW d 52 142 [x0, x1, .int u, x3, x4, x5] (.long v :: st) σ ρ g τ Q = AW d 52 143 [x0, x1, .int u, .long v, am_jk, x5] (st) σ ρ g τ Q := aw_lc m52 d52_142 rfl rfl rfl
theorem d52_143 : decode cX5_holds 143 = .ok (.goto 24, 3) := by decide +kernel
theorem s52_143 {d : Nat} {st : List Value} {σ : am_I} {ρ : am_R} {g : am_J} {τ : am_T} {Q : am_Q} {x0 x1 x2 x3 x4 x5 : Value} : AW d 52 143 [x0, x1, x2, x3, x4, x5] (st) σ ρ g τ Q = AW d 52 167 [x0, x1, x2, x3, x4, x5] (st) σ ρ g τ Q := aw_lc m52 d52_143 rfl rfl rfl
theorem d52_146 : decode cX5_holds 146 = .ok (.lload_n 3, 1) := by decide +kernel
theorem s52_146 {d : Nat} {st : List Value} {σ : am_I} {ρ : am_R} {g : am_J} {τ : am_T} {Q : am_Q} {x0 x1 x2 x4 x5 : Value} {v : Int64} : AW d 52 146 [x0, x1, x2, .long v, x4, x5] (st) σ ρ g τ Q = AW d 52 147 [x0, x1, x2, .long v, x4, x5] (.long v :: st) σ ρ g τ Q := aw_lc m52 d52_146 rfl rfl rfl
theorem d52_147 : decode cX5_holds 147 = .ok (.iconst 1, 1) := by decide +kernel
theorem s52_147 {d : Nat} {st : List Value} {σ : am_I} {ρ : am_R} {g : am_J} {τ : am_T} {Q : am_Q} {x0 x1 x2 x3 x4 x5 : Value} : AW d 52 147 [x0, x1, x2, x3, x4, x5] (st) σ ρ g τ Q = AW d 52 148 [x0, x1, x2, x3, x4, x5] (.int 1 :: st) σ ρ g τ Q := aw_lc m52 d52_147 rfl rfl rfl
theorem d52_148 : decode cX5_holds 148 = .ok (.lshr, 1) := by decide +kernel
theorem s52_148 {d : Nat} {st : List Value} {σ : am_I} {ρ : am_R} {g : am_J} {τ : am_T} {Q : am_Q} {x0 x1 x2 x3 x4 x5 : Value} {v : Int64} {w : Int32} : AW d 52 148 [x0, x1, x2, x3, x4, x5] (.int w :: .long v :: st) σ ρ g τ Q = AW d 52 149 [x0, x1, x2, x3, x4, x5] (.long (v >>> (w.toInt64 &&& 63)) :: st) σ ρ g τ Q := aw_lc m52 d52_148 rfl rfl rfl
theorem d52_149 : decode cX5_holds 149 = .ok (.lload_n 3, 1) := by decide +kernel
theorem s52_149 {d : Nat} {st : List Value} {σ : am_I} {ρ : am_R} {g : am_J} {τ : am_T} {Q : am_Q} {x0 x1 x2 x4 x5 : Value} {v : Int64} : AW d 52 149 [x0, x1, x2, .long v, x4, x5] (st) σ ρ g τ Q = AW d 52 150 [x0, x1, x2, .long v, x4, x5] (.long v :: st) σ ρ g τ Q := aw_lc m52 d52_149 rfl rfl rfl
theorem d52_150 : decode cX5_holds 150 = .ok (.ldc2_w 36, 3) := by decide +kernel
theorem s52_150 {d : Nat} {st : List Value} {σ : am_I} {ρ : am_R} {g : am_J} {τ : am_T} {Q : am_Q} {x0 x1 x2 x3 x4 x5 : Value} : AW d 52 150 [x0, x1, x2, x3, x4, x5] (st) σ ρ g τ Q = AW d 52 153 [x0, x1, x2, x3, x4, x5] (.long (-2) :: st) σ ρ g τ Q := aw_ldl m52 d52_150 rfl rfl
theorem d52_153 : decode cX5_holds 153 = .ok (.lor, 1) := by decide +kernel
theorem s52_153 {d : Nat} {st : List Value} {σ : am_I} {ρ : am_R} {g : am_J} {τ : am_T} {Q : am_Q} {x0 x1 x2 x3 x4 x5 : Value} {v w : Int64} : AW d 52 153 [x0, x1, x2, x3, x4, x5] (.long w :: .long v :: st) σ ρ g τ Q = AW d 52 154 [x0, x1, x2, x3, x4, x5] (.long (v ||| w) :: st) σ ρ g τ Q := aw_lc m52 d52_153 rfl rfl rfl
theorem d52_154 : decode cX5_holds 154 = .ok (.land, 1) := by decide +kernel
theorem s52_154 {d : Nat} {st : List Value} {σ : am_I} {ρ : am_R} {g : am_J} {τ : am_T} {Q : am_Q} {x0 x1 x2 x3 x4 x5 : Value} {v w : Int64} : AW d 52 154 [x0, x1, x2, x3, x4, x5] (.long w :: .long v :: st) σ ρ g τ Q = AW d 52 155 [x0, x1, x2, x3, x4, x5] (.long (v &&& w) :: st) σ ρ g τ Q := aw_lc m52 d52_154 rfl rfl rfl
theorem d52_155 : decode cX5_holds 155 = .ok (.lstore_n 3, 1) := by decide +kernel
theorem s52_155 {d : Nat} {st : List Value} {σ : am_I} {ρ : am_R} {g : am_J} {τ : am_T} {Q : am_Q} {x0 x1 x3 x4 x5 : Value} {v : Int64} {u : Int32} : AW d 52 155 [x0, x1, .int u, x3, x4, x5] (.long v :: st) σ ρ g τ Q = AW d 52 156 [x0, x1, .int u, .long v, am_jk, x5] (st) σ ρ g τ Q := aw_lc m52 d52_155 rfl rfl rfl
theorem d52_156 : decode cX5_holds 156 = .ok (.goto 11, 3) := by decide +kernel
theorem s52_156 {d : Nat} {st : List Value} {σ : am_I} {ρ : am_R} {g : am_J} {τ : am_T} {Q : am_Q} {x0 x1 x2 x3 x4 x5 : Value} : AW d 52 156 [x0, x1, x2, x3, x4, x5] (st) σ ρ g τ Q = AW d 52 167 [x0, x1, x2, x3, x4, x5] (st) σ ρ g τ Q := aw_lc m52 d52_156 rfl rfl rfl
theorem d52_159 : decode cX5_holds 159 = .ok (.lload_n 3, 1) := by decide +kernel
theorem s52_159 {d : Nat} {st : List Value} {σ : am_I} {ρ : am_R} {g : am_J} {τ : am_T} {Q : am_Q} {x0 x1 x2 x4 x5 : Value} {v : Int64} : AW d 52 159 [x0, x1, x2, .long v, x4, x5] (st) σ ρ g τ Q = AW d 52 160 [x0, x1, x2, .long v, x4, x5] (.long v :: st) σ ρ g τ Q := aw_lc m52 d52_159 rfl rfl rfl
theorem d52_160 : decode cX5_holds 160 = .ok (.iconst 1, 1) := by decide +kernel
theorem s52_160 {d : Nat} {st : List Value} {σ : am_I} {ρ : am_R} {g : am_J} {τ : am_T} {Q : am_Q} {x0 x1 x2 x3 x4 x5 : Value} : AW d 52 160 [x0, x1, x2, x3, x4, x5] (st) σ ρ g τ Q = AW d 52 161 [x0, x1, x2, x3, x4, x5] (.int 1 :: st) σ ρ g τ Q := aw_lc m52 d52_160 rfl rfl rfl
theorem d52_161 : decode cX5_holds 161 = .ok (.lshr, 1) := by decide +kernel
theorem s52_161 {d : Nat} {st : List Value} {σ : am_I} {ρ : am_R} {g : am_J} {τ : am_T} {Q : am_Q} {x0 x1 x2 x3 x4 x5 : Value} {v : Int64} {w : Int32} : AW d 52 161 [x0, x1, x2, x3, x4, x5] (.int w :: .long v :: st) σ ρ g τ Q = AW d 52 162 [x0, x1, x2, x3, x4, x5] (.long (v >>> (w.toInt64 &&& 63)) :: st) σ ρ g τ Q := aw_lc m52 d52_161 rfl rfl rfl
theorem d52_162 : decode cX5_holds 162 = .ok (.lload_n 3, 1) := by decide +kernel
theorem s52_162 {d : Nat} {st : List Value} {σ : am_I} {ρ : am_R} {g : am_J} {τ : am_T} {Q : am_Q} {x0 x1 x2 x4 x5 : Value} {v : Int64} : AW d 52 162 [x0, x1, x2, .long v, x4, x5] (st) σ ρ g τ Q = AW d 52 163 [x0, x1, x2, .long v, x4, x5] (.long v :: st) σ ρ g τ Q := aw_lc m52 d52_162 rfl rfl rfl
theorem d52_163 : decode cX5_holds 163 = .ok (.lconst 1, 1) := by decide +kernel
theorem s52_163 {d : Nat} {st : List Value} {σ : am_I} {ρ : am_R} {g : am_J} {τ : am_T} {Q : am_Q} {x0 x1 x2 x3 x4 x5 : Value} : AW d 52 163 [x0, x1, x2, x3, x4, x5] (st) σ ρ g τ Q = AW d 52 164 [x0, x1, x2, x3, x4, x5] (.long 1 :: st) σ ρ g τ Q := aw_lc m52 d52_163 rfl rfl rfl
theorem d52_164 : decode cX5_holds 164 = .ok (.land, 1) := by decide +kernel
theorem s52_164 {d : Nat} {st : List Value} {σ : am_I} {ρ : am_R} {g : am_J} {τ : am_T} {Q : am_Q} {x0 x1 x2 x3 x4 x5 : Value} {v w : Int64} : AW d 52 164 [x0, x1, x2, x3, x4, x5] (.long w :: .long v :: st) σ ρ g τ Q = AW d 52 165 [x0, x1, x2, x3, x4, x5] (.long (v &&& w) :: st) σ ρ g τ Q := aw_lc m52 d52_164 rfl rfl rfl
theorem d52_165 : decode cX5_holds 165 = .ok (.lor, 1) := by decide +kernel
theorem s52_165 {d : Nat} {st : List Value} {σ : am_I} {ρ : am_R} {g : am_J} {τ : am_T} {Q : am_Q} {x0 x1 x2 x3 x4 x5 : Value} {v w : Int64} : AW d 52 165 [x0, x1, x2, x3, x4, x5] (.long w :: .long v :: st) σ ρ g τ Q = AW d 52 166 [x0, x1, x2, x3, x4, x5] (.long (v ||| w) :: st) σ ρ g τ Q := aw_lc m52 d52_165 rfl rfl rfl
theorem d52_166 : decode cX5_holds 166 = .ok (.lstore_n 3, 1) := by decide +kernel
theorem s52_166 {d : Nat} {st : List Value} {σ : am_I} {ρ : am_R} {g : am_J} {τ : am_T} {Q : am_Q} {x0 x1 x3 x4 x5 : Value} {v : Int64} {u : Int32} : AW d 52 166 [x0, x1, .int u, x3, x4, x5] (.long v :: st) σ ρ g τ Q = AW d 52 167 [x0, x1, .int u, .long v, am_jk, x5] (st) σ ρ g τ Q := aw_lc m52 d52_166 rfl rfl rfl
theorem d52_167 : decode cX5_holds 167 = .ok (.iinc 5 1, 3) := by decide +kernel
theorem s52_167x {d : Nat} {st : List Value} {σ : am_I} {ρ : am_R} {g : am_J} {τ : am_T} {Q : am_Q} {x0 x1 x2 x3 : Value} {v : Int32} : AW d 52 167 [x0, x1, x2, x3, am_jk, .int v] (st) σ ρ g τ Q = AW d 52 170 [x0, x1, x2, x3, am_jk, .int (v + 1)] (st) σ ρ g τ Q := aw_lc m52 d52_167 rfl rfl rfl
theorem d52_170 : decode cX5_holds 170 = .ok (.goto (-156), 3) := by decide +kernel
theorem s52_170 {d : Nat} {st : List Value} {σ : am_I} {ρ : am_R} {g : am_J} {τ : am_T} {Q : am_Q} {x0 x1 x2 x3 x4 x5 : Value} : AW d 52 170 [x0, x1, x2, x3, x4, x5] (st) σ ρ g τ Q = AW d 52 14 [x0, x1, x2, x3, x4, x5] (st) σ ρ g τ Q := aw_lc m52 d52_170 rfl rfl rfl
theorem d52_173 : decode cX5_holds 173 = .ok (.lload_n 3, 1) := by decide +kernel
theorem s52_173 {d : Nat} {st : List Value} {σ : am_I} {ρ : am_R} {g : am_J} {τ : am_T} {Q : am_Q} {x0 x1 x2 x4 x5 : Value} {v : Int64} : AW d 52 173 [x0, x1, x2, .long v, x4, x5] (st) σ ρ g τ Q = AW d 52 174 [x0, x1, x2, .long v, x4, x5] (.long v :: st) σ ρ g τ Q := aw_lc m52 d52_173 rfl rfl rfl
theorem d52_174 : decode cX5_holds 174 = .ok (.lconst 1, 1) := by decide +kernel
theorem s52_174 {d : Nat} {st : List Value} {σ : am_I} {ρ : am_R} {g : am_J} {τ : am_T} {Q : am_Q} {x0 x1 x2 x3 x4 x5 : Value} : AW d 52 174 [x0, x1, x2, x3, x4, x5] (st) σ ρ g τ Q = AW d 52 175 [x0, x1, x2, x3, x4, x5] (.long 1 :: st) σ ρ g τ Q := aw_lc m52 d52_174 rfl rfl rfl
theorem d52_175 : decode cX5_holds 175 = .ok (.land, 1) := by decide +kernel
theorem s52_175 {d : Nat} {st : List Value} {σ : am_I} {ρ : am_R} {g : am_J} {τ : am_T} {Q : am_Q} {x0 x1 x2 x3 x4 x5 : Value} {v w : Int64} : AW d 52 175 [x0, x1, x2, x3, x4, x5] (.long w :: .long v :: st) σ ρ g τ Q = AW d 52 176 [x0, x1, x2, x3, x4, x5] (.long (v &&& w) :: st) σ ρ g τ Q := aw_lc m52 d52_175 rfl rfl rfl
theorem d52_176 : decode cX5_holds 176 = .ok (.lconst 1, 1) := by decide +kernel
theorem s52_176 {d : Nat} {st : List Value} {σ : am_I} {ρ : am_R} {g : am_J} {τ : am_T} {Q : am_Q} {x0 x1 x2 x3 x4 x5 : Value} : AW d 52 176 [x0, x1, x2, x3, x4, x5] (st) σ ρ g τ Q = AW d 52 177 [x0, x1, x2, x3, x4, x5] (.long 1 :: st) σ ρ g τ Q := aw_lc m52 d52_176 rfl rfl rfl
theorem d52_177 : decode cX5_holds 177 = .ok (.lcmp, 1) := by decide +kernel
theorem s52_177 {d : Nat} {st : List Value} {σ : am_I} {ρ : am_R} {g : am_J} {τ : am_T} {Q : am_Q} {x0 x1 x2 x3 x4 x5 : Value} {v w : Int64} : AW d 52 177 [x0, x1, x2, x3, x4, x5] (.long w :: .long v :: st) σ ρ g τ Q = AW d 52 178 [x0, x1, x2, x3, x4, x5] (.int (lg_cmp v w) :: st) σ ρ g τ Q := aw_lc m52 d52_177 rfl rfl rfl
theorem d52_178 : decode cX5_holds 178 = .ok (.ifCond .ne 7, 3) := by decide +kernel
theorem s52_178 {d : Nat} {st : List Value} {σ : am_I} {ρ : am_R} {g : am_J} {τ : am_T} {Q : am_Q} {x0 x1 x2 x3 x4 x5 : Value} {v : Int32} : AW d 52 178 [x0, x1, x2, x3, x4, x5] (.int v :: st) σ ρ g τ Q = if ¬ v = 0 then AW d 52 185 [x0, x1, x2, x3, x4, x5] (st) σ ρ g τ Q else AW d 52 181 [x0, x1, x2, x3, x4, x5] (st) σ ρ g τ Q := aw_br m52 d52_178 rfl rfl rfl
theorem d52_181 : decode cX5_holds 181 = .ok (.iconst 1, 1) := by decide +kernel
theorem s52_181 {d : Nat} {st : List Value} {σ : am_I} {ρ : am_R} {g : am_J} {τ : am_T} {Q : am_Q} {x0 x1 x2 x3 x4 x5 : Value} : AW d 52 181 [x0, x1, x2, x3, x4, x5] (st) σ ρ g τ Q = AW d 52 182 [x0, x1, x2, x3, x4, x5] (.int 1 :: st) σ ρ g τ Q := aw_lc m52 d52_181 rfl rfl rfl
theorem d52_182 : decode cX5_holds 182 = .ok (.goto 4, 3) := by decide +kernel
theorem s52_182 {d : Nat} {st : List Value} {σ : am_I} {ρ : am_R} {g : am_J} {τ : am_T} {Q : am_Q} {x0 x1 x2 x3 x4 x5 : Value} : AW d 52 182 [x0, x1, x2, x3, x4, x5] (st) σ ρ g τ Q = AW d 52 186 [x0, x1, x2, x3, x4, x5] (st) σ ρ g τ Q := aw_lc m52 d52_182 rfl rfl rfl
theorem d52_185 : decode cX5_holds 185 = .ok (.iconst 0, 1) := by decide +kernel
theorem s52_185 {d : Nat} {st : List Value} {σ : am_I} {ρ : am_R} {g : am_J} {τ : am_T} {Q : am_Q} {x0 x1 x2 x3 x4 x5 : Value} : AW d 52 185 [x0, x1, x2, x3, x4, x5] (st) σ ρ g τ Q = AW d 52 186 [x0, x1, x2, x3, x4, x5] (.int 0 :: st) σ ρ g τ Q := aw_lc m52 d52_185 rfl rfl rfl
theorem d52_186 : decode cX5_holds 186 = .ok (.ireturn, 1) := by decide +kernel
theorem s52_186 {d : Nat} {σ : am_I} {ρ : am_R} {g : am_J} {τ : am_T} {Q : am_Q} {x0 x1 x2 x3 x4 x5 : Value} {v : Int32} (hv : am_b01 v = true) : AW d 52 186 [x0, x1, x2, x3, x4, x5] ([.int v]) σ ρ g τ Q = Q (some (.int v)) σ ρ g τ := aw_rz m52 d52_186 rfl hv
theorem d53_0 : decode cX5_compares 0 = .ok (.iload_n 1, 1) := by decide +kernel
theorem s53_0 {d : Nat} {st : List Value} {σ : am_I} {ρ : am_R} {g : am_J} {τ : am_T} {Q : am_Q} {x0 x2 : Value} {v : Int32} : AW d 53 0 [x0, .int v, x2] (st) σ ρ g τ Q = AW d 53 1 [x0, .int v, x2] (.int v :: st) σ ρ g τ Q := aw_lc m53 d53_0 rfl rfl rfl
theorem d53_1 : decode cX5_compares 1 = .ok (.bipush 16, 2) := by decide +kernel
theorem s53_1 {d : Nat} {st : List Value} {σ : am_I} {ρ : am_R} {g : am_J} {τ : am_T} {Q : am_Q} {x0 x1 x2 : Value} : AW d 53 1 [x0, x1, x2] (st) σ ρ g τ Q = AW d 53 3 [x0, x1, x2] (.int 16 :: st) σ ρ g τ Q := aw_lc m53 d53_1 rfl rfl rfl
theorem d53_3 : decode cX5_compares 3 = .ok (.ishr, 1) := by decide +kernel
theorem s53_3 {d : Nat} {st : List Value} {σ : am_I} {ρ : am_R} {g : am_J} {τ : am_T} {Q : am_Q} {x0 x1 x2 : Value} {v w : Int32} : AW d 53 3 [x0, x1, x2] (.int w :: .int v :: st) σ ρ g τ Q = AW d 53 4 [x0, x1, x2] (.int (v >>> (w &&& 31)) :: st) σ ρ g τ Q := aw_lc m53 d53_3 rfl rfl rfl
theorem d53_4 : decode cX5_compares 4 = .ok (.istore_n 2, 1) := by decide +kernel
theorem s53_4 {d : Nat} {st : List Value} {σ : am_I} {ρ : am_R} {g : am_J} {τ : am_T} {Q : am_Q} {x0 x2 : Value} {v : Int32} {u : Int32} : AW d 53 4 [x0, .int u, x2] (.int v :: st) σ ρ g τ Q = AW d 53 5 [x0, .int u, .int v] (st) σ ρ g τ Q := aw_lc m53 d53_4 rfl rfl rfl
theorem d53_5 : decode cX5_compares 5 = .ok (.iload_n 1, 1) := by decide +kernel
theorem s53_5 {d : Nat} {st : List Value} {σ : am_I} {ρ : am_R} {g : am_J} {τ : am_T} {Q : am_Q} {x0 x2 : Value} {v : Int32} : AW d 53 5 [x0, .int v, x2] (st) σ ρ g τ Q = AW d 53 6 [x0, .int v, x2] (.int v :: st) σ ρ g τ Q := aw_lc m53 d53_5 rfl rfl rfl
theorem d53_6 : decode cX5_compares 6 = .ok (.bipush 8, 2) := by decide +kernel
theorem s53_6 {d : Nat} {st : List Value} {σ : am_I} {ρ : am_R} {g : am_J} {τ : am_T} {Q : am_Q} {x0 x1 x2 : Value} : AW d 53 6 [x0, x1, x2] (st) σ ρ g τ Q = AW d 53 8 [x0, x1, x2] (.int 8 :: st) σ ρ g τ Q := aw_lc m53 d53_6 rfl rfl rfl
theorem d53_8 : decode cX5_compares 8 = .ok (.ishr, 1) := by decide +kernel
theorem s53_8 {d : Nat} {st : List Value} {σ : am_I} {ρ : am_R} {g : am_J} {τ : am_T} {Q : am_Q} {x0 x1 x2 : Value} {v w : Int32} : AW d 53 8 [x0, x1, x2] (.int w :: .int v :: st) σ ρ g τ Q = AW d 53 9 [x0, x1, x2] (.int (v >>> (w &&& 31)) :: st) σ ρ g τ Q := aw_lc m53 d53_8 rfl rfl rfl
theorem d53_9 : decode cX5_compares 9 = .ok (.sipush 255, 3) := by decide +kernel
theorem s53_9 {d : Nat} {st : List Value} {σ : am_I} {ρ : am_R} {g : am_J} {τ : am_T} {Q : am_Q} {x0 x1 x2 : Value} : AW d 53 9 [x0, x1, x2] (st) σ ρ g τ Q = AW d 53 12 [x0, x1, x2] (.int 255 :: st) σ ρ g τ Q := aw_lc m53 d53_9 rfl rfl rfl
theorem d53_12 : decode cX5_compares 12 = .ok (.iand, 1) := by decide +kernel
theorem s53_12 {d : Nat} {st : List Value} {σ : am_I} {ρ : am_R} {g : am_J} {τ : am_T} {Q : am_Q} {x0 x1 x2 : Value} {v w : Int32} : AW d 53 12 [x0, x1, x2] (.int w :: .int v :: st) σ ρ g τ Q = AW d 53 13 [x0, x1, x2] (.int (v &&& w) :: st) σ ρ g τ Q := aw_lc m53 d53_12 rfl rfl rfl
theorem d53_13 : decode cX5_compares 13 = .ok (.lookupswitch 49 #[(60, 27), (61, 38)], 27) := by decide +kernel
theorem s53_13_60 {d : Nat} {st : List Value} {σ : am_I} {ρ : am_R} {g : am_J} {τ : am_T} {Q : am_Q} {x0 x1 x2 : Value} : AW d 53 13 [x0, x1, x2] (.int 60 :: st) σ ρ g τ Q = AW d 53 40 [x0, x1, x2] (st) σ ρ g τ Q := aw_lc m53 d53_13 rfl rfl rfl
theorem s53_13_61 {d : Nat} {st : List Value} {σ : am_I} {ρ : am_R} {g : am_J} {τ : am_T} {Q : am_Q} {x0 x1 x2 : Value} : AW d 53 13 [x0, x1, x2] (.int 61 :: st) σ ρ g τ Q = AW d 53 51 [x0, x1, x2] (st) σ ρ g τ Q := aw_lc m53 d53_13 rfl rfl rfl
theorem s53_13_d {d : Nat} {st : List Value} {σ : am_I} {ρ : am_R} {g : am_J} {τ : am_T} {Q : am_Q} {x0 x1 x2 : Value} {v : Int32} (h : Op.lookupswitch.offset [(60, 27), (61, 38)] 49 v.toInt = 49) : AW d 53 13 [x0, x1, x2] (.int v :: st) σ ρ g τ Q = AW d 53 62 [x0, x1, x2] (st) σ ρ g τ Q := aw_lc m53 d53_13 rfl rfl (by simp only [am_lc]; rw [if_pos (by decide), h]; rfl)
theorem d53_40 : decode cX5_compares 40 = .ok (.iload_n 0, 1) := by decide +kernel
theorem s53_40 {d : Nat} {st : List Value} {σ : am_I} {ρ : am_R} {g : am_J} {τ : am_T} {Q : am_Q} {x1 x2 : Value} {v : Int32} : AW d 53 40 [.int v, x1, x2] (st) σ ρ g τ Q = AW d 53 41 [.int v, x1, x2] (.int v :: st) σ ρ g τ Q := aw_lc m53 d53_40 rfl rfl rfl
theorem d53_41 : decode cX5_compares 41 = .ok (.iload_n 2, 1) := by decide +kernel
theorem s53_41 {d : Nat} {st : List Value} {σ : am_I} {ρ : am_R} {g : am_J} {τ : am_T} {Q : am_Q} {x0 x1 : Value} {v : Int32} : AW d 53 41 [x0, x1, .int v] (st) σ ρ g τ Q = AW d 53 42 [x0, x1, .int v] (.int v :: st) σ ρ g τ Q := aw_lc m53 d53_41 rfl rfl rfl
theorem d53_42 : decode cX5_compares 42 = .ok (.if_icmp .ge 7, 3) := by decide +kernel
theorem s53_42 {d : Nat} {st : List Value} {σ : am_I} {ρ : am_R} {g : am_J} {τ : am_T} {Q : am_Q} {x0 x1 x2 : Value} {v w : Int32} : AW d 53 42 [x0, x1, x2] (.int w :: .int v :: st) σ ρ g τ Q = if w ≤ v then AW d 53 49 [x0, x1, x2] (st) σ ρ g τ Q else AW d 53 45 [x0, x1, x2] (st) σ ρ g τ Q := aw_br m53 d53_42 rfl rfl rfl
theorem d53_45 : decode cX5_compares 45 = .ok (.iconst 1, 1) := by decide +kernel
theorem s53_45 {d : Nat} {st : List Value} {σ : am_I} {ρ : am_R} {g : am_J} {τ : am_T} {Q : am_Q} {x0 x1 x2 : Value} : AW d 53 45 [x0, x1, x2] (st) σ ρ g τ Q = AW d 53 46 [x0, x1, x2] (.int 1 :: st) σ ρ g τ Q := aw_lc m53 d53_45 rfl rfl rfl
theorem d53_46 : decode cX5_compares 46 = .ok (.goto 4, 3) := by decide +kernel
theorem s53_46 {d : Nat} {st : List Value} {σ : am_I} {ρ : am_R} {g : am_J} {τ : am_T} {Q : am_Q} {x0 x1 x2 : Value} : AW d 53 46 [x0, x1, x2] (st) σ ρ g τ Q = AW d 53 50 [x0, x1, x2] (st) σ ρ g τ Q := aw_lc m53 d53_46 rfl rfl rfl
theorem d53_49 : decode cX5_compares 49 = .ok (.iconst 0, 1) := by decide +kernel
theorem s53_49 {d : Nat} {st : List Value} {σ : am_I} {ρ : am_R} {g : am_J} {τ : am_T} {Q : am_Q} {x0 x1 x2 : Value} : AW d 53 49 [x0, x1, x2] (st) σ ρ g τ Q = AW d 53 50 [x0, x1, x2] (.int 0 :: st) σ ρ g τ Q := aw_lc m53 d53_49 rfl rfl rfl
theorem d53_50 : decode cX5_compares 50 = .ok (.ireturn, 1) := by decide +kernel
theorem s53_50 {d : Nat} {σ : am_I} {ρ : am_R} {g : am_J} {τ : am_T} {Q : am_Q} {x0 x1 x2 : Value} {v : Int32} (hv : am_b01 v = true) : AW d 53 50 [x0, x1, x2] ([.int v]) σ ρ g τ Q = Q (some (.int v)) σ ρ g τ := aw_rz m53 d53_50 rfl hv
theorem d53_51 : decode cX5_compares 51 = .ok (.iload_n 0, 1) := by decide +kernel
theorem s53_51 {d : Nat} {st : List Value} {σ : am_I} {ρ : am_R} {g : am_J} {τ : am_T} {Q : am_Q} {x1 x2 : Value} {v : Int32} : AW d 53 51 [.int v, x1, x2] (st) σ ρ g τ Q = AW d 53 52 [.int v, x1, x2] (.int v :: st) σ ρ g τ Q := aw_lc m53 d53_51 rfl rfl rfl
theorem d53_52 : decode cX5_compares 52 = .ok (.iload_n 2, 1) := by decide +kernel
theorem s53_52 {d : Nat} {st : List Value} {σ : am_I} {ρ : am_R} {g : am_J} {τ : am_T} {Q : am_Q} {x0 x1 : Value} {v : Int32} : AW d 53 52 [x0, x1, .int v] (st) σ ρ g τ Q = AW d 53 53 [x0, x1, .int v] (.int v :: st) σ ρ g τ Q := aw_lc m53 d53_52 rfl rfl rfl
theorem d53_53 : decode cX5_compares 53 = .ok (.if_icmp .ne 7, 3) := by decide +kernel
theorem s53_53 {d : Nat} {st : List Value} {σ : am_I} {ρ : am_R} {g : am_J} {τ : am_T} {Q : am_Q} {x0 x1 x2 : Value} {v w : Int32} : AW d 53 53 [x0, x1, x2] (.int w :: .int v :: st) σ ρ g τ Q = if ¬ v = w then AW d 53 60 [x0, x1, x2] (st) σ ρ g τ Q else AW d 53 56 [x0, x1, x2] (st) σ ρ g τ Q := aw_br m53 d53_53 rfl rfl rfl
theorem d53_56 : decode cX5_compares 56 = .ok (.iconst 1, 1) := by decide +kernel
theorem s53_56 {d : Nat} {st : List Value} {σ : am_I} {ρ : am_R} {g : am_J} {τ : am_T} {Q : am_Q} {x0 x1 x2 : Value} : AW d 53 56 [x0, x1, x2] (st) σ ρ g τ Q = AW d 53 57 [x0, x1, x2] (.int 1 :: st) σ ρ g τ Q := aw_lc m53 d53_56 rfl rfl rfl
theorem d53_57 : decode cX5_compares 57 = .ok (.goto 4, 3) := by decide +kernel
theorem s53_57 {d : Nat} {st : List Value} {σ : am_I} {ρ : am_R} {g : am_J} {τ : am_T} {Q : am_Q} {x0 x1 x2 : Value} : AW d 53 57 [x0, x1, x2] (st) σ ρ g τ Q = AW d 53 61 [x0, x1, x2] (st) σ ρ g τ Q := aw_lc m53 d53_57 rfl rfl rfl
theorem d53_60 : decode cX5_compares 60 = .ok (.iconst 0, 1) := by decide +kernel
theorem s53_60 {d : Nat} {st : List Value} {σ : am_I} {ρ : am_R} {g : am_J} {τ : am_T} {Q : am_Q} {x0 x1 x2 : Value} : AW d 53 60 [x0, x1, x2] (st) σ ρ g τ Q = AW d 53 61 [x0, x1, x2] (.int 0 :: st) σ ρ g τ Q := aw_lc m53 d53_60 rfl rfl rfl
theorem d53_61 : decode cX5_compares 61 = .ok (.ireturn, 1) := by decide +kernel
theorem s53_61 {d : Nat} {σ : am_I} {ρ : am_R} {g : am_J} {τ : am_T} {Q : am_Q} {x0 x1 x2 : Value} {v : Int32} (hv : am_b01 v = true) : AW d 53 61 [x0, x1, x2] ([.int v]) σ ρ g τ Q = Q (some (.int v)) σ ρ g τ := aw_rz m53 d53_61 rfl hv
theorem d53_62 : decode cX5_compares 62 = .ok (.iload_n 0, 1) := by decide +kernel
theorem s53_62 {d : Nat} {st : List Value} {σ : am_I} {ρ : am_R} {g : am_J} {τ : am_T} {Q : am_Q} {x1 x2 : Value} {v : Int32} : AW d 53 62 [.int v, x1, x2] (st) σ ρ g τ Q = AW d 53 63 [.int v, x1, x2] (.int v :: st) σ ρ g τ Q := aw_lc m53 d53_62 rfl rfl rfl
theorem d53_63 : decode cX5_compares 63 = .ok (.iload_n 2, 1) := by decide +kernel
theorem s53_63 {d : Nat} {st : List Value} {σ : am_I} {ρ : am_R} {g : am_J} {τ : am_T} {Q : am_Q} {x0 x1 : Value} {v : Int32} : AW d 53 63 [x0, x1, .int v] (st) σ ρ g τ Q = AW d 53 64 [x0, x1, .int v] (.int v :: st) σ ρ g τ Q := aw_lc m53 d53_63 rfl rfl rfl
theorem d53_64 : decode cX5_compares 64 = .ok (.if_icmp .le 7, 3) := by decide +kernel
theorem s53_64 {d : Nat} {st : List Value} {σ : am_I} {ρ : am_R} {g : am_J} {τ : am_T} {Q : am_Q} {x0 x1 x2 : Value} {v w : Int32} : AW d 53 64 [x0, x1, x2] (.int w :: .int v :: st) σ ρ g τ Q = if v ≤ w then AW d 53 71 [x0, x1, x2] (st) σ ρ g τ Q else AW d 53 67 [x0, x1, x2] (st) σ ρ g τ Q := aw_br m53 d53_64 rfl rfl rfl
theorem d53_67 : decode cX5_compares 67 = .ok (.iconst 1, 1) := by decide +kernel
theorem s53_67 {d : Nat} {st : List Value} {σ : am_I} {ρ : am_R} {g : am_J} {τ : am_T} {Q : am_Q} {x0 x1 x2 : Value} : AW d 53 67 [x0, x1, x2] (st) σ ρ g τ Q = AW d 53 68 [x0, x1, x2] (.int 1 :: st) σ ρ g τ Q := aw_lc m53 d53_67 rfl rfl rfl
theorem d53_68 : decode cX5_compares 68 = .ok (.goto 4, 3) := by decide +kernel
theorem s53_68 {d : Nat} {st : List Value} {σ : am_I} {ρ : am_R} {g : am_J} {τ : am_T} {Q : am_Q} {x0 x1 x2 : Value} : AW d 53 68 [x0, x1, x2] (st) σ ρ g τ Q = AW d 53 72 [x0, x1, x2] (st) σ ρ g τ Q := aw_lc m53 d53_68 rfl rfl rfl
theorem d53_71 : decode cX5_compares 71 = .ok (.iconst 0, 1) := by decide +kernel
theorem s53_71 {d : Nat} {st : List Value} {σ : am_I} {ρ : am_R} {g : am_J} {τ : am_T} {Q : am_Q} {x0 x1 x2 : Value} : AW d 53 71 [x0, x1, x2] (st) σ ρ g τ Q = AW d 53 72 [x0, x1, x2] (.int 0 :: st) σ ρ g τ Q := aw_lc m53 d53_71 rfl rfl rfl
theorem d53_72 : decode cX5_compares 72 = .ok (.ireturn, 1) := by decide +kernel
theorem s53_72 {d : Nat} {σ : am_I} {ρ : am_R} {g : am_J} {τ : am_T} {Q : am_Q} {x0 x1 x2 : Value} {v : Int32} (hv : am_b01 v = true) : AW d 53 72 [x0, x1, x2] ([.int v]) σ ρ g τ Q = Q (some (.int v)) σ ρ g τ := aw_rz m53 d53_72 rfl hv
theorem d54_0 : decode cX6_init 0 = .ok (.aload_n 0, 1) := by decide +kernel
theorem s54_0 {d : Nat} {st : List Value} {σ : am_I} {ρ : am_R} {g : am_J} {τ : am_T} {Q : am_Q} {v : Nat} : AW d 54 0 [.ref v] (st) σ ρ g τ Q = AW d 54 1 [.ref v] (.ref v :: st) σ ρ g τ Q := aw_lc m54 d54_0 rfl rfl rfl
theorem s54_0n {d : Nat} {st : List Value} {σ : am_I} {ρ : am_R} {g : am_J} {τ : am_T} {Q : am_Q} : AW d 54 0 [.null] (st) σ ρ g τ Q = AW d 54 1 [.null] (.null :: st) σ ρ g τ Q := aw_lc m54 d54_0 rfl rfl rfl
theorem d54_1 : decode cX6_init 1 = .ok (.invokespecial 3, 3) := by decide +kernel
theorem s54_1 {d : Nat} {st : List Value} {σ : am_I} {ρ : am_R} {g : am_J} {τ : am_T} {Q : am_Q} {x0 : Value} {a : Nat} (hs : st.length ≤ 4) : AW d 54 1 [x0] (.ref a :: st) σ ρ g τ Q = AW d 54 4 [x0] (st) σ ρ g τ Q := aw_oin m54 d54_1 rfl rfl hs
theorem d54_4 : decode cX6_init 4 = .ok (.aload_n 0, 1) := by decide +kernel
theorem s54_4 {d : Nat} {st : List Value} {σ : am_I} {ρ : am_R} {g : am_J} {τ : am_T} {Q : am_Q} {v : Nat} : AW d 54 4 [.ref v] (st) σ ρ g τ Q = AW d 54 5 [.ref v] (.ref v :: st) σ ρ g τ Q := aw_lc m54 d54_4 rfl rfl rfl
theorem s54_4n {d : Nat} {st : List Value} {σ : am_I} {ρ : am_R} {g : am_J} {τ : am_T} {Q : am_Q} : AW d 54 4 [.null] (st) σ ρ g τ Q = AW d 54 5 [.null] (.null :: st) σ ρ g τ Q := aw_lc m54 d54_4 rfl rfl rfl
theorem d54_5 : decode cX6_init 5 = .ok (.bipush 20, 2) := by decide +kernel
theorem s54_5 {d : Nat} {st : List Value} {σ : am_I} {ρ : am_R} {g : am_J} {τ : am_T} {Q : am_Q} {x0 : Value} : AW d 54 5 [x0] (st) σ ρ g τ Q = AW d 54 7 [x0] (.int 20 :: st) σ ρ g τ Q := aw_lc m54 d54_5 rfl rfl rfl
theorem d54_7 : decode cX6_init 7 = .ok (.newarray .int, 2) := by decide +kernel
theorem s54_7 {d : Nat} {st : List Value} {σ : am_I} {ρ : am_R} {g : am_J} {τ : am_T} {Q : am_Q} {x0 : Value} {j : Int32} (hj : ¬ j < 0 ∧ j.toNatClampNeg ≤ 10000) : AW d 54 7 [x0] (.int j :: st) σ ρ g τ Q = AW d 54 9 [x0] (.ref τ.2.2.1 :: st) (am_new 15 j.toNatClampNeg σ ρ g τ).1 (am_new 15 j.toNatClampNeg σ ρ g τ).2.1 (am_new 15 j.toNatClampNeg σ ρ g τ).2.2.1 (am_new 15 j.toNatClampNeg σ ρ g τ).2.2.2 Q := aw_nwa m54 d54_7 rfl rfl (by decide) hj
theorem d54_9 : decode cX6_init 9 = .ok (.putfield 9, 3) := by decide +kernel
theorem s54_9 {d : Nat} {st : List Value} {σ : am_I} {ρ : am_R} {g : am_J} {τ : am_T} {Q : am_Q} {x0 : Value} {a b : Nat} (ht : τ.1 a = 6) : AW d 54 9 [x0] (.ref b :: .ref a :: st) σ ρ g τ Q = AW d 54 12 [x0] (st) σ (am_u ρ a 0 (some b)) g τ Q := aw_pr m54 d54_9 rfl rfl (Or.inr ⟨rfl, rfl⟩) rfl ht
theorem s54_9n {d : Nat} {st : List Value} {σ : am_I} {ρ : am_R} {g : am_J} {τ : am_T} {Q : am_Q} {x0 : Value} {a : Nat} (ht : τ.1 a = 6) : AW d 54 9 [x0] (.null :: .ref a :: st) σ ρ g τ Q = AW d 54 12 [x0] (st) σ (am_u ρ a 0 none) g τ Q := aw_pn m54 d54_9 rfl rfl (Or.inr ⟨rfl, rfl⟩) rfl ht
theorem d54_12 : decode cX6_init 12 = .ok (.aload_n 0, 1) := by decide +kernel
theorem s54_12 {d : Nat} {st : List Value} {σ : am_I} {ρ : am_R} {g : am_J} {τ : am_T} {Q : am_Q} {v : Nat} : AW d 54 12 [.ref v] (st) σ ρ g τ Q = AW d 54 13 [.ref v] (.ref v :: st) σ ρ g τ Q := aw_lc m54 d54_12 rfl rfl rfl
theorem s54_12n {d : Nat} {st : List Value} {σ : am_I} {ρ : am_R} {g : am_J} {τ : am_T} {Q : am_Q} : AW d 54 12 [.null] (st) σ ρ g τ Q = AW d 54 13 [.null] (.null :: st) σ ρ g τ Q := aw_lc m54 d54_12 rfl rfl rfl
theorem d54_13 : decode cX6_init 13 = .ok (.bipush 20, 2) := by decide +kernel
theorem s54_13 {d : Nat} {st : List Value} {σ : am_I} {ρ : am_R} {g : am_J} {τ : am_T} {Q : am_Q} {x0 : Value} : AW d 54 13 [x0] (st) σ ρ g τ Q = AW d 54 15 [x0] (.int 20 :: st) σ ρ g τ Q := aw_lc m54 d54_13 rfl rfl rfl
theorem d54_15 : decode cX6_init 15 = .ok (.newarray .boolean, 2) := by decide +kernel
theorem s54_15 {d : Nat} {st : List Value} {σ : am_I} {ρ : am_R} {g : am_J} {τ : am_T} {Q : am_Q} {x0 : Value} {j : Int32} (hj : ¬ j < 0 ∧ j.toNatClampNeg ≤ 10000) : AW d 54 15 [x0] (.int j :: st) σ ρ g τ Q = AW d 54 17 [x0] (.ref τ.2.2.1 :: st) (am_new 17 j.toNatClampNeg σ ρ g τ).1 (am_new 17 j.toNatClampNeg σ ρ g τ).2.1 (am_new 17 j.toNatClampNeg σ ρ g τ).2.2.1 (am_new 17 j.toNatClampNeg σ ρ g τ).2.2.2 Q := aw_nwa m54 d54_15 rfl rfl (by decide) hj
theorem d54_17 : decode cX6_init 17 = .ok (.putfield 15, 3) := by decide +kernel
theorem s54_17 {d : Nat} {st : List Value} {σ : am_I} {ρ : am_R} {g : am_J} {τ : am_T} {Q : am_Q} {x0 : Value} {a b : Nat} (ht : τ.1 a = 6) : AW d 54 17 [x0] (.ref b :: .ref a :: st) σ ρ g τ Q = AW d 54 20 [x0] (st) σ (am_u ρ a 1 (some b)) g τ Q := aw_pr m54 d54_17 rfl rfl (Or.inr ⟨rfl, rfl⟩) rfl ht
theorem s54_17n {d : Nat} {st : List Value} {σ : am_I} {ρ : am_R} {g : am_J} {τ : am_T} {Q : am_Q} {x0 : Value} {a : Nat} (ht : τ.1 a = 6) : AW d 54 17 [x0] (.null :: .ref a :: st) σ ρ g τ Q = AW d 54 20 [x0] (st) σ (am_u ρ a 1 none) g τ Q := aw_pn m54 d54_17 rfl rfl (Or.inr ⟨rfl, rfl⟩) rfl ht
theorem d54_20 : decode cX6_init 20 = .ok (.aload_n 0, 1) := by decide +kernel
theorem s54_20 {d : Nat} {st : List Value} {σ : am_I} {ρ : am_R} {g : am_J} {τ : am_T} {Q : am_Q} {v : Nat} : AW d 54 20 [.ref v] (st) σ ρ g τ Q = AW d 54 21 [.ref v] (.ref v :: st) σ ρ g τ Q := aw_lc m54 d54_20 rfl rfl rfl
theorem s54_20n {d : Nat} {st : List Value} {σ : am_I} {ρ : am_R} {g : am_J} {τ : am_T} {Q : am_Q} : AW d 54 20 [.null] (st) σ ρ g τ Q = AW d 54 21 [.null] (.null :: st) σ ρ g τ Q := aw_lc m54 d54_20 rfl rfl rfl
theorem d54_21 : decode cX6_init 21 = .ok (.iconst 0, 1) := by decide +kernel
theorem s54_21 {d : Nat} {st : List Value} {σ : am_I} {ρ : am_R} {g : am_J} {τ : am_T} {Q : am_Q} {x0 : Value} : AW d 54 21 [x0] (st) σ ρ g τ Q = AW d 54 22 [x0] (.int 0 :: st) σ ρ g τ Q := aw_lc m54 d54_21 rfl rfl rfl
theorem d54_22 : decode cX6_init 22 = .ok (.putfield 19, 3) := by decide +kernel
theorem s54_22 {d : Nat} {st : List Value} {σ : am_I} {ρ : am_R} {g : am_J} {τ : am_T} {Q : am_Q} {x0 : Value} {a : Nat} {v : Int32} (ht : τ.1 a = 6) : AW d 54 22 [x0] (.int v :: .ref a :: st) σ ρ g τ Q = AW d 54 25 [x0] (st) (am_u σ a 2 v) ρ g τ Q := aw_pi m54 d54_22 rfl rfl (Or.inl rfl) rfl ht
theorem d54_25 : decode cX6_init 25 = .ok (.aload_n 0, 1) := by decide +kernel
theorem s54_25 {d : Nat} {st : List Value} {σ : am_I} {ρ : am_R} {g : am_J} {τ : am_T} {Q : am_Q} {v : Nat} : AW d 54 25 [.ref v] (st) σ ρ g τ Q = AW d 54 26 [.ref v] (.ref v :: st) σ ρ g τ Q := aw_lc m54 d54_25 rfl rfl rfl
theorem s54_25n {d : Nat} {st : List Value} {σ : am_I} {ρ : am_R} {g : am_J} {τ : am_T} {Q : am_Q} : AW d 54 25 [.null] (st) σ ρ g τ Q = AW d 54 26 [.null] (.null :: st) σ ρ g τ Q := aw_lc m54 d54_25 rfl rfl rfl
theorem d54_26 : decode cX6_init 26 = .ok (.iconst 0, 1) := by decide +kernel
theorem s54_26 {d : Nat} {st : List Value} {σ : am_I} {ρ : am_R} {g : am_J} {τ : am_T} {Q : am_Q} {x0 : Value} : AW d 54 26 [x0] (st) σ ρ g τ Q = AW d 54 27 [x0] (.int 0 :: st) σ ρ g τ Q := aw_lc m54 d54_26 rfl rfl rfl
theorem d54_27 : decode cX6_init 27 = .ok (.putfield 23, 3) := by decide +kernel
theorem s54_27 {d : Nat} {st : List Value} {σ : am_I} {ρ : am_R} {g : am_J} {τ : am_T} {Q : am_Q} {x0 : Value} {a : Nat} {v : Int32} (ht : τ.1 a = 6) : AW d 54 27 [x0] (.int v :: .ref a :: st) σ ρ g τ Q = AW d 54 30 [x0] (st) (am_u σ a 3 v) ρ g τ Q := aw_pi m54 d54_27 rfl rfl (Or.inl rfl) rfl ht
theorem d54_30 : decode cX6_init 30 = .ok (.return_, 1) := by decide +kernel
theorem s54_30 {d : Nat} {σ : am_I} {ρ : am_R} {g : am_J} {τ : am_T} {Q : am_Q} {x0 : Value} : AW d 54 30 [x0] ([]) σ ρ g τ Q = Q none σ ρ g τ := aw_rv m54 d54_30 rfl
theorem d55_0 : decode cX6_mayBeOne 0 = .ok (.aload_n 0, 1) := by decide +kernel
theorem s55_0 {d : Nat} {st : List Value} {σ : am_I} {ρ : am_R} {g : am_J} {τ : am_T} {Q : am_Q} {x1 x2 x3 x4 : Value} {v : Nat} : AW d 55 0 [.ref v, x1, x2, x3, x4] (st) σ ρ g τ Q = AW d 55 1 [.ref v, x1, x2, x3, x4] (.ref v :: st) σ ρ g τ Q := aw_lc m55 d55_0 rfl rfl rfl
theorem d55_1 : decode cX6_mayBeOne 1 = .ok (.iload_n 1, 1) := by decide +kernel
theorem s55_1 {d : Nat} {st : List Value} {σ : am_I} {ρ : am_R} {g : am_J} {τ : am_T} {Q : am_Q} {x0 x2 x3 x4 : Value} {v : Int32} : AW d 55 1 [x0, .int v, x2, x3, x4] (st) σ ρ g τ Q = AW d 55 2 [x0, .int v, x2, x3, x4] (.int v :: st) σ ρ g τ Q := aw_lc m55 d55_1 rfl rfl rfl
theorem d55_2 : decode cX6_mayBeOne 2 = .ok (.iconst 3, 1) := by decide +kernel
theorem s55_2 {d : Nat} {st : List Value} {σ : am_I} {ρ : am_R} {g : am_J} {τ : am_T} {Q : am_Q} {x0 x1 x2 x3 x4 : Value} : AW d 55 2 [x0, x1, x2, x3, x4] (st) σ ρ g τ Q = AW d 55 3 [x0, x1, x2, x3, x4] (.int 3 :: st) σ ρ g τ Q := aw_lc m55 d55_2 rfl rfl rfl
theorem d55_3 : decode cX6_mayBeOne 3 = .ok (.invokevirtual 26, 3) := by decide +kernel
theorem s55_3 {d : Nat} {st : List Value} {σ : am_I} {ρ : am_R} {g : am_J} {τ : am_T} {Q : am_Q} {x0 x1 x2 x3 x4 : Value} {p0 : Nat} {p1 : Int32} {p2 : Int32} (ht : τ.1 p0 = 4) (hs : st.length ≤ 4) : AW (d + 1) 55 3 [x0, x1, x2, x3, x4] (.int p2 :: .int p1 :: .ref p0 :: st) σ ρ g τ Q = AW d 46 0 [.ref p0, .int p1, .int p2] [] σ ρ g τ (fun r9 σ ρ g τ => AW (d + 1) 55 6 [x0, x1, x2, x3, x4] (r9.toList ++ st) σ ρ g τ Q) := aw_cv m55 d55_3 rfl m46 rfl rfl (by decide) en46 ok46 rfl ht hs
theorem d55_6 : decode cX6_mayBeOne 6 = .ok (.istore_n 3, 1) := by decide +kernel
theorem s55_6 {d : Nat} {st : List Value} {σ : am_I} {ρ : am_R} {g : am_J} {τ : am_T} {Q : am_Q} {x0 x1 x3 x4 : Value} {v : Int32} {u : Int32} : AW d 55 6 [x0, x1, .int u, x3, x4] (.int v :: st) σ ρ g τ Q = AW d 55 7 [x0, x1, .int u, .int v, x4] (st) σ ρ g τ Q := aw_lc m55 d55_6 rfl rfl rfl
theorem d55_7 : decode cX6_mayBeOne 7 = .ok (.aload_n 0, 1) := by decide +kernel
theorem s55_7 {d : Nat} {st : List Value} {σ : am_I} {ρ : am_R} {g : am_J} {τ : am_T} {Q : am_Q} {x1 x2 x3 x4 : Value} {v : Nat} : AW d 55 7 [.ref v, x1, x2, x3, x4] (st) σ ρ g τ Q = AW d 55 8 [.ref v, x1, x2, x3, x4] (.ref v :: st) σ ρ g τ Q := aw_lc m55 d55_7 rfl rfl rfl
theorem d55_8 : decode cX6_mayBeOne 8 = .ok (.iload_n 2, 1) := by decide +kernel
theorem s55_8 {d : Nat} {st : List Value} {σ : am_I} {ρ : am_R} {g : am_J} {τ : am_T} {Q : am_Q} {x0 x1 x3 x4 : Value} {v : Int32} : AW d 55 8 [x0, x1, .int v, x3, x4] (st) σ ρ g τ Q = AW d 55 9 [x0, x1, .int v, x3, x4] (.int v :: st) σ ρ g τ Q := aw_lc m55 d55_8 rfl rfl rfl
theorem d55_9 : decode cX6_mayBeOne 9 = .ok (.iconst 3, 1) := by decide +kernel
theorem s55_9 {d : Nat} {st : List Value} {σ : am_I} {ρ : am_R} {g : am_J} {τ : am_T} {Q : am_Q} {x0 x1 x2 x3 x4 : Value} : AW d 55 9 [x0, x1, x2, x3, x4] (st) σ ρ g τ Q = AW d 55 10 [x0, x1, x2, x3, x4] (.int 3 :: st) σ ρ g τ Q := aw_lc m55 d55_9 rfl rfl rfl
theorem d55_10 : decode cX6_mayBeOne 10 = .ok (.invokevirtual 26, 3) := by decide +kernel
theorem s55_10 {d : Nat} {st : List Value} {σ : am_I} {ρ : am_R} {g : am_J} {τ : am_T} {Q : am_Q} {x0 x1 x2 x3 x4 : Value} {p0 : Nat} {p1 : Int32} {p2 : Int32} (ht : τ.1 p0 = 4) (hs : st.length ≤ 4) : AW (d + 1) 55 10 [x0, x1, x2, x3, x4] (.int p2 :: .int p1 :: .ref p0 :: st) σ ρ g τ Q = AW d 46 0 [.ref p0, .int p1, .int p2] [] σ ρ g τ (fun r9 σ ρ g τ => AW (d + 1) 55 13 [x0, x1, x2, x3, x4] (r9.toList ++ st) σ ρ g τ Q) := aw_cv m55 d55_10 rfl m46 rfl rfl (by decide) en46 ok46 rfl ht hs
theorem d55_13 : decode cX6_mayBeOne 13 = .ok (.istore 4, 2) := by decide +kernel
theorem s55_13 {d : Nat} {st : List Value} {σ : am_I} {ρ : am_R} {g : am_J} {τ : am_T} {Q : am_Q} {x0 x1 x2 x4 : Value} {v : Int32} {u : Int32} : AW d 55 13 [x0, x1, x2, .int u, x4] (.int v :: st) σ ρ g τ Q = AW d 55 15 [x0, x1, x2, .int u, .int v] (st) σ ρ g τ Q := aw_lc m55 d55_13 rfl rfl rfl
theorem d55_15 : decode cX6_mayBeOne 15 = .ok (.aload_n 0, 1) := by decide +kernel
theorem s55_15 {d : Nat} {st : List Value} {σ : am_I} {ρ : am_R} {g : am_J} {τ : am_T} {Q : am_Q} {x1 x2 x3 x4 : Value} {v : Nat} : AW d 55 15 [.ref v, x1, x2, x3, x4] (st) σ ρ g τ Q = AW d 55 16 [.ref v, x1, x2, x3, x4] (.ref v :: st) σ ρ g τ Q := aw_lc m55 d55_15 rfl rfl rfl
theorem d55_16 : decode cX6_mayBeOne 16 = .ok (.iload_n 1, 1) := by decide +kernel
theorem s55_16 {d : Nat} {st : List Value} {σ : am_I} {ρ : am_R} {g : am_J} {τ : am_T} {Q : am_Q} {x0 x2 x3 x4 : Value} {v : Int32} : AW d 55 16 [x0, .int v, x2, x3, x4] (st) σ ρ g τ Q = AW d 55 17 [x0, .int v, x2, x3, x4] (.int v :: st) σ ρ g τ Q := aw_lc m55 d55_16 rfl rfl rfl
theorem d55_17 : decode cX6_mayBeOne 17 = .ok (.iconst 0, 1) := by decide +kernel
theorem s55_17 {d : Nat} {st : List Value} {σ : am_I} {ρ : am_R} {g : am_J} {τ : am_T} {Q : am_Q} {x0 x1 x2 x3 x4 : Value} : AW d 55 17 [x0, x1, x2, x3, x4] (st) σ ρ g τ Q = AW d 55 18 [x0, x1, x2, x3, x4] (.int 0 :: st) σ ρ g τ Q := aw_lc m55 d55_17 rfl rfl rfl
theorem d55_18 : decode cX6_mayBeOne 18 = .ok (.invokevirtual 26, 3) := by decide +kernel
theorem s55_18 {d : Nat} {st : List Value} {σ : am_I} {ρ : am_R} {g : am_J} {τ : am_T} {Q : am_Q} {x0 x1 x2 x3 x4 : Value} {p0 : Nat} {p1 : Int32} {p2 : Int32} (ht : τ.1 p0 = 4) (hs : st.length ≤ 4) : AW (d + 1) 55 18 [x0, x1, x2, x3, x4] (.int p2 :: .int p1 :: .ref p0 :: st) σ ρ g τ Q = AW d 46 0 [.ref p0, .int p1, .int p2] [] σ ρ g τ (fun r9 σ ρ g τ => AW (d + 1) 55 21 [x0, x1, x2, x3, x4] (r9.toList ++ st) σ ρ g τ Q) := aw_cv m55 d55_18 rfl m46 rfl rfl (by decide) en46 ok46 rfl ht hs
theorem d55_21 : decode cX6_mayBeOne 21 = .ok (.aload_n 0, 1) := by decide +kernel
theorem s55_21 {d : Nat} {st : List Value} {σ : am_I} {ρ : am_R} {g : am_J} {τ : am_T} {Q : am_Q} {x1 x2 x3 x4 : Value} {v : Nat} : AW d 55 21 [.ref v, x1, x2, x3, x4] (st) σ ρ g τ Q = AW d 55 22 [.ref v, x1, x2, x3, x4] (.ref v :: st) σ ρ g τ Q := aw_lc m55 d55_21 rfl rfl rfl
theorem d55_22 : decode cX6_mayBeOne 22 = .ok (.iload_n 2, 1) := by decide +kernel
theorem s55_22 {d : Nat} {st : List Value} {σ : am_I} {ρ : am_R} {g : am_J} {τ : am_T} {Q : am_Q} {x0 x1 x3 x4 : Value} {v : Int32} : AW d 55 22 [x0, x1, .int v, x3, x4] (st) σ ρ g τ Q = AW d 55 23 [x0, x1, .int v, x3, x4] (.int v :: st) σ ρ g τ Q := aw_lc m55 d55_22 rfl rfl rfl
theorem d55_23 : decode cX6_mayBeOne 23 = .ok (.iconst 0, 1) := by decide +kernel
theorem s55_23 {d : Nat} {st : List Value} {σ : am_I} {ρ : am_R} {g : am_J} {τ : am_T} {Q : am_Q} {x0 x1 x2 x3 x4 : Value} : AW d 55 23 [x0, x1, x2, x3, x4] (st) σ ρ g τ Q = AW d 55 24 [x0, x1, x2, x3, x4] (.int 0 :: st) σ ρ g τ Q := aw_lc m55 d55_23 rfl rfl rfl
theorem d55_24 : decode cX6_mayBeOne 24 = .ok (.invokevirtual 26, 3) := by decide +kernel
theorem s55_24 {d : Nat} {st : List Value} {σ : am_I} {ρ : am_R} {g : am_J} {τ : am_T} {Q : am_Q} {x0 x1 x2 x3 x4 : Value} {p0 : Nat} {p1 : Int32} {p2 : Int32} (ht : τ.1 p0 = 4) (hs : st.length ≤ 4) : AW (d + 1) 55 24 [x0, x1, x2, x3, x4] (.int p2 :: .int p1 :: .ref p0 :: st) σ ρ g τ Q = AW d 46 0 [.ref p0, .int p1, .int p2] [] σ ρ g τ (fun r9 σ ρ g τ => AW (d + 1) 55 27 [x0, x1, x2, x3, x4] (r9.toList ++ st) σ ρ g τ Q) := aw_cv m55 d55_24 rfl m46 rfl rfl (by decide) en46 ok46 rfl ht hs
theorem d55_27 : decode cX6_mayBeOne 27 = .ok (.if_icmp .eq 72, 3) := by decide +kernel
theorem s55_27 {d : Nat} {st : List Value} {σ : am_I} {ρ : am_R} {g : am_J} {τ : am_T} {Q : am_Q} {x0 x1 x2 x3 x4 : Value} {v w : Int32} : AW d 55 27 [x0, x1, x2, x3, x4] (.int w :: .int v :: st) σ ρ g τ Q = if v = w then AW d 55 99 [x0, x1, x2, x3, x4] (st) σ ρ g τ Q else AW d 55 30 [x0, x1, x2, x3, x4] (st) σ ρ g τ Q := aw_br m55 d55_27 rfl rfl rfl
theorem d55_30 : decode cX6_mayBeOne 30 = .ok (.aload_n 0, 1) := by decide +kernel
theorem s55_30 {d : Nat} {st : List Value} {σ : am_I} {ρ : am_R} {g : am_J} {τ : am_T} {Q : am_Q} {x1 x2 x3 x4 : Value} {v : Nat} : AW d 55 30 [.ref v, x1, x2, x3, x4] (st) σ ρ g τ Q = AW d 55 31 [.ref v, x1, x2, x3, x4] (.ref v :: st) σ ρ g τ Q := aw_lc m55 d55_30 rfl rfl rfl
theorem d55_31 : decode cX6_mayBeOne 31 = .ok (.iload_n 1, 1) := by decide +kernel
theorem s55_31 {d : Nat} {st : List Value} {σ : am_I} {ρ : am_R} {g : am_J} {τ : am_T} {Q : am_Q} {x0 x2 x3 x4 : Value} {v : Int32} : AW d 55 31 [x0, .int v, x2, x3, x4] (st) σ ρ g τ Q = AW d 55 32 [x0, .int v, x2, x3, x4] (.int v :: st) σ ρ g τ Q := aw_lc m55 d55_31 rfl rfl rfl
theorem d55_32 : decode cX6_mayBeOne 32 = .ok (.iconst 1, 1) := by decide +kernel
theorem s55_32 {d : Nat} {st : List Value} {σ : am_I} {ρ : am_R} {g : am_J} {τ : am_T} {Q : am_Q} {x0 x1 x2 x3 x4 : Value} : AW d 55 32 [x0, x1, x2, x3, x4] (st) σ ρ g τ Q = AW d 55 33 [x0, x1, x2, x3, x4] (.int 1 :: st) σ ρ g τ Q := aw_lc m55 d55_32 rfl rfl rfl
theorem d55_33 : decode cX6_mayBeOne 33 = .ok (.invokevirtual 26, 3) := by decide +kernel
theorem s55_33 {d : Nat} {st : List Value} {σ : am_I} {ρ : am_R} {g : am_J} {τ : am_T} {Q : am_Q} {x0 x1 x2 x3 x4 : Value} {p0 : Nat} {p1 : Int32} {p2 : Int32} (ht : τ.1 p0 = 4) (hs : st.length ≤ 4) : AW (d + 1) 55 33 [x0, x1, x2, x3, x4] (.int p2 :: .int p1 :: .ref p0 :: st) σ ρ g τ Q = AW d 46 0 [.ref p0, .int p1, .int p2] [] σ ρ g τ (fun r9 σ ρ g τ => AW (d + 1) 55 36 [x0, x1, x2, x3, x4] (r9.toList ++ st) σ ρ g τ Q) := aw_cv m55 d55_33 rfl m46 rfl rfl (by decide) en46 ok46 rfl ht hs
theorem d55_36 : decode cX6_mayBeOne 36 = .ok (.aload_n 0, 1) := by decide +kernel
theorem s55_36 {d : Nat} {st : List Value} {σ : am_I} {ρ : am_R} {g : am_J} {τ : am_T} {Q : am_Q} {x1 x2 x3 x4 : Value} {v : Nat} : AW d 55 36 [.ref v, x1, x2, x3, x4] (st) σ ρ g τ Q = AW d 55 37 [.ref v, x1, x2, x3, x4] (.ref v :: st) σ ρ g τ Q := aw_lc m55 d55_36 rfl rfl rfl
theorem d55_37 : decode cX6_mayBeOne 37 = .ok (.iload_n 2, 1) := by decide +kernel
theorem s55_37 {d : Nat} {st : List Value} {σ : am_I} {ρ : am_R} {g : am_J} {τ : am_T} {Q : am_Q} {x0 x1 x3 x4 : Value} {v : Int32} : AW d 55 37 [x0, x1, .int v, x3, x4] (st) σ ρ g τ Q = AW d 55 38 [x0, x1, .int v, x3, x4] (.int v :: st) σ ρ g τ Q := aw_lc m55 d55_37 rfl rfl rfl
theorem d55_38 : decode cX6_mayBeOne 38 = .ok (.iconst 1, 1) := by decide +kernel
theorem s55_38 {d : Nat} {st : List Value} {σ : am_I} {ρ : am_R} {g : am_J} {τ : am_T} {Q : am_Q} {x0 x1 x2 x3 x4 : Value} : AW d 55 38 [x0, x1, x2, x3, x4] (st) σ ρ g τ Q = AW d 55 39 [x0, x1, x2, x3, x4] (.int 1 :: st) σ ρ g τ Q := aw_lc m55 d55_38 rfl rfl rfl
theorem d55_39 : decode cX6_mayBeOne 39 = .ok (.invokevirtual 26, 3) := by decide +kernel
theorem s55_39 {d : Nat} {st : List Value} {σ : am_I} {ρ : am_R} {g : am_J} {τ : am_T} {Q : am_Q} {x0 x1 x2 x3 x4 : Value} {p0 : Nat} {p1 : Int32} {p2 : Int32} (ht : τ.1 p0 = 4) (hs : st.length ≤ 4) : AW (d + 1) 55 39 [x0, x1, x2, x3, x4] (.int p2 :: .int p1 :: .ref p0 :: st) σ ρ g τ Q = AW d 46 0 [.ref p0, .int p1, .int p2] [] σ ρ g τ (fun r9 σ ρ g τ => AW (d + 1) 55 42 [x0, x1, x2, x3, x4] (r9.toList ++ st) σ ρ g τ Q) := aw_cv m55 d55_39 rfl m46 rfl rfl (by decide) en46 ok46 rfl ht hs
theorem d55_42 : decode cX6_mayBeOne 42 = .ok (.if_icmp .ne 57, 3) := by decide +kernel
theorem s55_42 {d : Nat} {st : List Value} {σ : am_I} {ρ : am_R} {g : am_J} {τ : am_T} {Q : am_Q} {x0 x1 x2 x3 x4 : Value} {v w : Int32} : AW d 55 42 [x0, x1, x2, x3, x4] (.int w :: .int v :: st) σ ρ g τ Q = if ¬ v = w then AW d 55 99 [x0, x1, x2, x3, x4] (st) σ ρ g τ Q else AW d 55 45 [x0, x1, x2, x3, x4] (st) σ ρ g τ Q := aw_br m55 d55_42 rfl rfl rfl
theorem d55_45 : decode cX6_mayBeOne 45 = .ok (.aload_n 0, 1) := by decide +kernel
theorem s55_45 {d : Nat} {st : List Value} {σ : am_I} {ρ : am_R} {g : am_J} {τ : am_T} {Q : am_Q} {x1 x2 x3 x4 : Value} {v : Nat} : AW d 55 45 [.ref v, x1, x2, x3, x4] (st) σ ρ g τ Q = AW d 55 46 [.ref v, x1, x2, x3, x4] (.ref v :: st) σ ρ g τ Q := aw_lc m55 d55_45 rfl rfl rfl
theorem d55_46 : decode cX6_mayBeOne 46 = .ok (.iload_n 1, 1) := by decide +kernel
theorem s55_46 {d : Nat} {st : List Value} {σ : am_I} {ρ : am_R} {g : am_J} {τ : am_T} {Q : am_Q} {x0 x2 x3 x4 : Value} {v : Int32} : AW d 55 46 [x0, .int v, x2, x3, x4] (st) σ ρ g τ Q = AW d 55 47 [x0, .int v, x2, x3, x4] (.int v :: st) σ ρ g τ Q := aw_lc m55 d55_46 rfl rfl rfl
theorem d55_47 : decode cX6_mayBeOne 47 = .ok (.iconst 2, 1) := by decide +kernel
theorem s55_47 {d : Nat} {st : List Value} {σ : am_I} {ρ : am_R} {g : am_J} {τ : am_T} {Q : am_Q} {x0 x1 x2 x3 x4 : Value} : AW d 55 47 [x0, x1, x2, x3, x4] (st) σ ρ g τ Q = AW d 55 48 [x0, x1, x2, x3, x4] (.int 2 :: st) σ ρ g τ Q := aw_lc m55 d55_47 rfl rfl rfl
theorem d55_48 : decode cX6_mayBeOne 48 = .ok (.invokevirtual 26, 3) := by decide +kernel
theorem s55_48 {d : Nat} {st : List Value} {σ : am_I} {ρ : am_R} {g : am_J} {τ : am_T} {Q : am_Q} {x0 x1 x2 x3 x4 : Value} {p0 : Nat} {p1 : Int32} {p2 : Int32} (ht : τ.1 p0 = 4) (hs : st.length ≤ 4) : AW (d + 1) 55 48 [x0, x1, x2, x3, x4] (.int p2 :: .int p1 :: .ref p0 :: st) σ ρ g τ Q = AW d 46 0 [.ref p0, .int p1, .int p2] [] σ ρ g τ (fun r9 σ ρ g τ => AW (d + 1) 55 51 [x0, x1, x2, x3, x4] (r9.toList ++ st) σ ρ g τ Q) := aw_cv m55 d55_48 rfl m46 rfl rfl (by decide) en46 ok46 rfl ht hs
theorem d55_51 : decode cX6_mayBeOne 51 = .ok (.aload_n 0, 1) := by decide +kernel
theorem s55_51 {d : Nat} {st : List Value} {σ : am_I} {ρ : am_R} {g : am_J} {τ : am_T} {Q : am_Q} {x1 x2 x3 x4 : Value} {v : Nat} : AW d 55 51 [.ref v, x1, x2, x3, x4] (st) σ ρ g τ Q = AW d 55 52 [.ref v, x1, x2, x3, x4] (.ref v :: st) σ ρ g τ Q := aw_lc m55 d55_51 rfl rfl rfl
theorem d55_52 : decode cX6_mayBeOne 52 = .ok (.iload_n 2, 1) := by decide +kernel
theorem s55_52 {d : Nat} {st : List Value} {σ : am_I} {ρ : am_R} {g : am_J} {τ : am_T} {Q : am_Q} {x0 x1 x3 x4 : Value} {v : Int32} : AW d 55 52 [x0, x1, .int v, x3, x4] (st) σ ρ g τ Q = AW d 55 53 [x0, x1, .int v, x3, x4] (.int v :: st) σ ρ g τ Q := aw_lc m55 d55_52 rfl rfl rfl
theorem d55_53 : decode cX6_mayBeOne 53 = .ok (.iconst 2, 1) := by decide +kernel
theorem s55_53 {d : Nat} {st : List Value} {σ : am_I} {ρ : am_R} {g : am_J} {τ : am_T} {Q : am_Q} {x0 x1 x2 x3 x4 : Value} : AW d 55 53 [x0, x1, x2, x3, x4] (st) σ ρ g τ Q = AW d 55 54 [x0, x1, x2, x3, x4] (.int 2 :: st) σ ρ g τ Q := aw_lc m55 d55_53 rfl rfl rfl
theorem d55_54 : decode cX6_mayBeOne 54 = .ok (.invokevirtual 26, 3) := by decide +kernel
theorem s55_54 {d : Nat} {st : List Value} {σ : am_I} {ρ : am_R} {g : am_J} {τ : am_T} {Q : am_Q} {x0 x1 x2 x3 x4 : Value} {p0 : Nat} {p1 : Int32} {p2 : Int32} (ht : τ.1 p0 = 4) (hs : st.length ≤ 4) : AW (d + 1) 55 54 [x0, x1, x2, x3, x4] (.int p2 :: .int p1 :: .ref p0 :: st) σ ρ g τ Q = AW d 46 0 [.ref p0, .int p1, .int p2] [] σ ρ g τ (fun r9 σ ρ g τ => AW (d + 1) 55 57 [x0, x1, x2, x3, x4] (r9.toList ++ st) σ ρ g τ Q) := aw_cv m55 d55_54 rfl m46 rfl rfl (by decide) en46 ok46 rfl ht hs
theorem d55_57 : decode cX6_mayBeOne 57 = .ok (.if_icmp .ne 42, 3) := by decide +kernel
theorem s55_57 {d : Nat} {st : List Value} {σ : am_I} {ρ : am_R} {g : am_J} {τ : am_T} {Q : am_Q} {x0 x1 x2 x3 x4 : Value} {v w : Int32} : AW d 55 57 [x0, x1, x2, x3, x4] (.int w :: .int v :: st) σ ρ g τ Q = if ¬ v = w then AW d 55 99 [x0, x1, x2, x3, x4] (st) σ ρ g τ Q else AW d 55 60 [x0, x1, x2, x3, x4] (st) σ ρ g τ Q := aw_br m55 d55_57 rfl rfl rfl
theorem d55_60 : decode cX6_mayBeOne 60 = .ok (.aload_n 0, 1) := by decide +kernel
theorem s55_60 {d : Nat} {st : List Value} {σ : am_I} {ρ : am_R} {g : am_J} {τ : am_T} {Q : am_Q} {x1 x2 x3 x4 : Value} {v : Nat} : AW d 55 60 [.ref v, x1, x2, x3, x4] (st) σ ρ g τ Q = AW d 55 61 [.ref v, x1, x2, x3, x4] (.ref v :: st) σ ρ g τ Q := aw_lc m55 d55_60 rfl rfl rfl
theorem d55_61 : decode cX6_mayBeOne 61 = .ok (.iload_n 1, 1) := by decide +kernel
theorem s55_61 {d : Nat} {st : List Value} {σ : am_I} {ρ : am_R} {g : am_J} {τ : am_T} {Q : am_Q} {x0 x2 x3 x4 : Value} {v : Int32} : AW d 55 61 [x0, .int v, x2, x3, x4] (st) σ ρ g τ Q = AW d 55 62 [x0, .int v, x2, x3, x4] (.int v :: st) σ ρ g τ Q := aw_lc m55 d55_61 rfl rfl rfl
theorem d55_62 : decode cX6_mayBeOne 62 = .ok (.iconst 4, 1) := by decide +kernel
theorem s55_62 {d : Nat} {st : List Value} {σ : am_I} {ρ : am_R} {g : am_J} {τ : am_T} {Q : am_Q} {x0 x1 x2 x3 x4 : Value} : AW d 55 62 [x0, x1, x2, x3, x4] (st) σ ρ g τ Q = AW d 55 63 [x0, x1, x2, x3, x4] (.int 4 :: st) σ ρ g τ Q := aw_lc m55 d55_62 rfl rfl rfl
theorem d55_63 : decode cX6_mayBeOne 63 = .ok (.invokevirtual 26, 3) := by decide +kernel
theorem s55_63 {d : Nat} {st : List Value} {σ : am_I} {ρ : am_R} {g : am_J} {τ : am_T} {Q : am_Q} {x0 x1 x2 x3 x4 : Value} {p0 : Nat} {p1 : Int32} {p2 : Int32} (ht : τ.1 p0 = 4) (hs : st.length ≤ 4) : AW (d + 1) 55 63 [x0, x1, x2, x3, x4] (.int p2 :: .int p1 :: .ref p0 :: st) σ ρ g τ Q = AW d 46 0 [.ref p0, .int p1, .int p2] [] σ ρ g τ (fun r9 σ ρ g τ => AW (d + 1) 55 66 [x0, x1, x2, x3, x4] (r9.toList ++ st) σ ρ g τ Q) := aw_cv m55 d55_63 rfl m46 rfl rfl (by decide) en46 ok46 rfl ht hs
theorem d55_66 : decode cX6_mayBeOne 66 = .ok (.aload_n 0, 1) := by decide +kernel
theorem s55_66 {d : Nat} {st : List Value} {σ : am_I} {ρ : am_R} {g : am_J} {τ : am_T} {Q : am_Q} {x1 x2 x3 x4 : Value} {v : Nat} : AW d 55 66 [.ref v, x1, x2, x3, x4] (st) σ ρ g τ Q = AW d 55 67 [.ref v, x1, x2, x3, x4] (.ref v :: st) σ ρ g τ Q := aw_lc m55 d55_66 rfl rfl rfl
theorem d55_67 : decode cX6_mayBeOne 67 = .ok (.iload_n 2, 1) := by decide +kernel
theorem s55_67 {d : Nat} {st : List Value} {σ : am_I} {ρ : am_R} {g : am_J} {τ : am_T} {Q : am_Q} {x0 x1 x3 x4 : Value} {v : Int32} : AW d 55 67 [x0, x1, .int v, x3, x4] (st) σ ρ g τ Q = AW d 55 68 [x0, x1, .int v, x3, x4] (.int v :: st) σ ρ g τ Q := aw_lc m55 d55_67 rfl rfl rfl
theorem d55_68 : decode cX6_mayBeOne 68 = .ok (.iconst 4, 1) := by decide +kernel
theorem s55_68 {d : Nat} {st : List Value} {σ : am_I} {ρ : am_R} {g : am_J} {τ : am_T} {Q : am_Q} {x0 x1 x2 x3 x4 : Value} : AW d 55 68 [x0, x1, x2, x3, x4] (st) σ ρ g τ Q = AW d 55 69 [x0, x1, x2, x3, x4] (.int 4 :: st) σ ρ g τ Q := aw_lc m55 d55_68 rfl rfl rfl
theorem d55_69 : decode cX6_mayBeOne 69 = .ok (.invokevirtual 26, 3) := by decide +kernel
theorem s55_69 {d : Nat} {st : List Value} {σ : am_I} {ρ : am_R} {g : am_J} {τ : am_T} {Q : am_Q} {x0 x1 x2 x3 x4 : Value} {p0 : Nat} {p1 : Int32} {p2 : Int32} (ht : τ.1 p0 = 4) (hs : st.length ≤ 4) : AW (d + 1) 55 69 [x0, x1, x2, x3, x4] (.int p2 :: .int p1 :: .ref p0 :: st) σ ρ g τ Q = AW d 46 0 [.ref p0, .int p1, .int p2] [] σ ρ g τ (fun r9 σ ρ g τ => AW (d + 1) 55 72 [x0, x1, x2, x3, x4] (r9.toList ++ st) σ ρ g τ Q) := aw_cv m55 d55_69 rfl m46 rfl rfl (by decide) en46 ok46 rfl ht hs
theorem d55_72 : decode cX6_mayBeOne 72 = .ok (.isub, 1) := by decide +kernel
theorem s55_72 {d : Nat} {st : List Value} {σ : am_I} {ρ : am_R} {g : am_J} {τ : am_T} {Q : am_Q} {x0 x1 x2 x3 x4 : Value} {v w : Int32} : AW d 55 72 [x0, x1, x2, x3, x4] (.int w :: .int v :: st) σ ρ g τ Q = AW d 55 73 [x0, x1, x2, x3, x4] (.int (v - w) :: st) σ ρ g τ Q := aw_lc m55 d55_72 rfl rfl rfl
theorem d55_73 : decode cX6_mayBeOne 73 = .ok (.invokestatic 32, 3) := by decide +kernel
theorem s55_73 {d : Nat} {st : List Value} {σ : am_I} {ρ : am_R} {g : am_J} {τ : am_T} {Q : am_Q} {x0 x1 x2 x3 x4 : Value} {v : Int32} (hs : st.length ≤ 4) : AW d 55 73 [x0, x1, x2, x3, x4] (.int v :: st) σ ρ g τ Q = AW d 55 76 [x0, x1, x2, x3, x4] (.int (if 0 ≤ v then v else 0 - v) :: st) σ ρ g τ Q := aw_abs m55 d55_73 rfl rfl hs
theorem d55_76 : decode cX6_mayBeOne 76 = .ok (.iconst 1, 1) := by decide +kernel
theorem s55_76 {d : Nat} {st : List Value} {σ : am_I} {ρ : am_R} {g : am_J} {τ : am_T} {Q : am_Q} {x0 x1 x2 x3 x4 : Value} : AW d 55 76 [x0, x1, x2, x3, x4] (st) σ ρ g τ Q = AW d 55 77 [x0, x1, x2, x3, x4] (.int 1 :: st) σ ρ g τ Q := aw_lc m55 d55_76 rfl rfl rfl
theorem d55_77 : decode cX6_mayBeOne 77 = .ok (.if_icmp .gt 22, 3) := by decide +kernel
theorem s55_77 {d : Nat} {st : List Value} {σ : am_I} {ρ : am_R} {g : am_J} {τ : am_T} {Q : am_Q} {x0 x1 x2 x3 x4 : Value} {v w : Int32} : AW d 55 77 [x0, x1, x2, x3, x4] (.int w :: .int v :: st) σ ρ g τ Q = if w < v then AW d 55 99 [x0, x1, x2, x3, x4] (st) σ ρ g τ Q else AW d 55 80 [x0, x1, x2, x3, x4] (st) σ ρ g τ Q := aw_br m55 d55_77 rfl rfl rfl
theorem d55_80 : decode cX6_mayBeOne 80 = .ok (.iload_n 3, 1) := by decide +kernel
theorem s55_80 {d : Nat} {st : List Value} {σ : am_I} {ρ : am_R} {g : am_J} {τ : am_T} {Q : am_Q} {x0 x1 x2 x4 : Value} {v : Int32} : AW d 55 80 [x0, x1, x2, .int v, x4] (st) σ ρ g τ Q = AW d 55 81 [x0, x1, x2, .int v, x4] (.int v :: st) σ ρ g τ Q := aw_lc m55 d55_80 rfl rfl rfl
theorem d55_81 : decode cX6_mayBeOne 81 = .ok (.iload 4, 2) := by decide +kernel
theorem s55_81 {d : Nat} {st : List Value} {σ : am_I} {ρ : am_R} {g : am_J} {τ : am_T} {Q : am_Q} {x0 x1 x2 x3 : Value} {v : Int32} : AW d 55 81 [x0, x1, x2, x3, .int v] (st) σ ρ g τ Q = AW d 55 83 [x0, x1, x2, x3, .int v] (.int v :: st) σ ρ g τ Q := aw_lc m55 d55_81 rfl rfl rfl
theorem d55_83 : decode cX6_mayBeOne 83 = .ok (.if_icmp .eq 12, 3) := by decide +kernel
theorem s55_83 {d : Nat} {st : List Value} {σ : am_I} {ρ : am_R} {g : am_J} {τ : am_T} {Q : am_Q} {x0 x1 x2 x3 x4 : Value} {v w : Int32} : AW d 55 83 [x0, x1, x2, x3, x4] (.int w :: .int v :: st) σ ρ g τ Q = if v = w then AW d 55 95 [x0, x1, x2, x3, x4] (st) σ ρ g τ Q else AW d 55 86 [x0, x1, x2, x3, x4] (st) σ ρ g τ Q := aw_br m55 d55_83 rfl rfl rfl
theorem d55_86 : decode cX6_mayBeOne 86 = .ok (.iload_n 3, 1) := by decide +kernel
theorem s55_86 {d : Nat} {st : List Value} {σ : am_I} {ρ : am_R} {g : am_J} {τ : am_T} {Q : am_Q} {x0 x1 x2 x4 : Value} {v : Int32} : AW d 55 86 [x0, x1, x2, .int v, x4] (st) σ ρ g τ Q = AW d 55 87 [x0, x1, x2, .int v, x4] (.int v :: st) σ ρ g τ Q := aw_lc m55 d55_86 rfl rfl rfl
theorem d55_87 : decode cX6_mayBeOne 87 = .ok (.ifCond .eq 8, 3) := by decide +kernel
theorem s55_87 {d : Nat} {st : List Value} {σ : am_I} {ρ : am_R} {g : am_J} {τ : am_T} {Q : am_Q} {x0 x1 x2 x3 x4 : Value} {v : Int32} : AW d 55 87 [x0, x1, x2, x3, x4] (.int v :: st) σ ρ g τ Q = if v = 0 then AW d 55 95 [x0, x1, x2, x3, x4] (st) σ ρ g τ Q else AW d 55 90 [x0, x1, x2, x3, x4] (st) σ ρ g τ Q := aw_br m55 d55_87 rfl rfl rfl
theorem d55_90 : decode cX6_mayBeOne 90 = .ok (.iload 4, 2) := by decide +kernel
theorem s55_90 {d : Nat} {st : List Value} {σ : am_I} {ρ : am_R} {g : am_J} {τ : am_T} {Q : am_Q} {x0 x1 x2 x3 : Value} {v : Int32} : AW d 55 90 [x0, x1, x2, x3, .int v] (st) σ ρ g τ Q = AW d 55 92 [x0, x1, x2, x3, .int v] (.int v :: st) σ ρ g τ Q := aw_lc m55 d55_90 rfl rfl rfl
theorem d55_92 : decode cX6_mayBeOne 92 = .ok (.ifCond .ne 7, 3) := by decide +kernel
theorem s55_92 {d : Nat} {st : List Value} {σ : am_I} {ρ : am_R} {g : am_J} {τ : am_T} {Q : am_Q} {x0 x1 x2 x3 x4 : Value} {v : Int32} : AW d 55 92 [x0, x1, x2, x3, x4] (.int v :: st) σ ρ g τ Q = if ¬ v = 0 then AW d 55 99 [x0, x1, x2, x3, x4] (st) σ ρ g τ Q else AW d 55 95 [x0, x1, x2, x3, x4] (st) σ ρ g τ Q := aw_br m55 d55_92 rfl rfl rfl
theorem d55_95 : decode cX6_mayBeOne 95 = .ok (.iconst 1, 1) := by decide +kernel
theorem s55_95 {d : Nat} {st : List Value} {σ : am_I} {ρ : am_R} {g : am_J} {τ : am_T} {Q : am_Q} {x0 x1 x2 x3 x4 : Value} : AW d 55 95 [x0, x1, x2, x3, x4] (st) σ ρ g τ Q = AW d 55 96 [x0, x1, x2, x3, x4] (.int 1 :: st) σ ρ g τ Q := aw_lc m55 d55_95 rfl rfl rfl
theorem d55_96 : decode cX6_mayBeOne 96 = .ok (.goto 4, 3) := by decide +kernel
theorem s55_96 {d : Nat} {st : List Value} {σ : am_I} {ρ : am_R} {g : am_J} {τ : am_T} {Q : am_Q} {x0 x1 x2 x3 x4 : Value} : AW d 55 96 [x0, x1, x2, x3, x4] (st) σ ρ g τ Q = AW d 55 100 [x0, x1, x2, x3, x4] (st) σ ρ g τ Q := aw_lc m55 d55_96 rfl rfl rfl
theorem d55_99 : decode cX6_mayBeOne 99 = .ok (.iconst 0, 1) := by decide +kernel
theorem s55_99 {d : Nat} {st : List Value} {σ : am_I} {ρ : am_R} {g : am_J} {τ : am_T} {Q : am_Q} {x0 x1 x2 x3 x4 : Value} : AW d 55 99 [x0, x1, x2, x3, x4] (st) σ ρ g τ Q = AW d 55 100 [x0, x1, x2, x3, x4] (.int 0 :: st) σ ρ g τ Q := aw_lc m55 d55_99 rfl rfl rfl
theorem d55_100 : decode cX6_mayBeOne 100 = .ok (.ireturn, 1) := by decide +kernel
theorem s55_100 {d : Nat} {σ : am_I} {ρ : am_R} {g : am_J} {τ : am_T} {Q : am_Q} {x0 x1 x2 x3 x4 : Value} {v : Int32} (hv : am_b01 v = true) : AW d 55 100 [x0, x1, x2, x3, x4] ([.int v]) σ ρ g τ Q = Q (some (.int v)) σ ρ g τ := aw_rz m55 d55_100 rfl hv
theorem d56_0 : decode cX6_othersOf 0 = .ok (.iconst 0, 1) := by decide +kernel
theorem s56_0 {d : Nat} {st : List Value} {σ : am_I} {ρ : am_R} {g : am_J} {τ : am_T} {Q : am_Q} {x0 x1 x2 x3 : Value} : AW d 56 0 [x0, x1, x2, x3] (st) σ ρ g τ Q = AW d 56 1 [x0, x1, x2, x3] (.int 0 :: st) σ ρ g τ Q := aw_lc m56 d56_0 rfl rfl rfl
theorem d56_1 : decode cX6_othersOf 1 = .ok (.istore_n 2, 1) := by decide +kernel
theorem s56_1 {d : Nat} {st : List Value} {σ : am_I} {ρ : am_R} {g : am_J} {τ : am_T} {Q : am_Q} {x0 x2 x3 : Value} {v : Int32} {u : Int32} : AW d 56 1 [x0, .int u, x2, x3] (.int v :: st) σ ρ g τ Q = AW d 56 2 [x0, .int u, .int v, x3] (st) σ ρ g τ Q := aw_lc m56 d56_1 rfl rfl rfl
theorem d56_2 : decode cX6_othersOf 2 = .ok (.iconst 0, 1) := by decide +kernel
theorem s56_2 {d : Nat} {st : List Value} {σ : am_I} {ρ : am_R} {g : am_J} {τ : am_T} {Q : am_Q} {x0 x1 x2 x3 : Value} : AW d 56 2 [x0, x1, x2, x3] (st) σ ρ g τ Q = AW d 56 3 [x0, x1, x2, x3] (.int 0 :: st) σ ρ g τ Q := aw_lc m56 d56_2 rfl rfl rfl
theorem d56_3 : decode cX6_othersOf 3 = .ok (.istore_n 3, 1) := by decide +kernel
theorem s56_3 {d : Nat} {st : List Value} {σ : am_I} {ρ : am_R} {g : am_J} {τ : am_T} {Q : am_Q} {x0 x1 x3 : Value} {v : Int32} {u : Int32} : AW d 56 3 [x0, x1, .int u, x3] (.int v :: st) σ ρ g τ Q = AW d 56 4 [x0, x1, .int u, .int v] (st) σ ρ g τ Q := aw_lc m56 d56_3 rfl rfl rfl
theorem d56_4 : decode cX6_othersOf 4 = .ok (.iload_n 3, 1) := by decide +kernel
theorem s56_4 {d : Nat} {st : List Value} {σ : am_I} {ρ : am_R} {g : am_J} {τ : am_T} {Q : am_Q} {x0 x1 x2 : Value} {v : Int32} : AW d 56 4 [x0, x1, x2, .int v] (st) σ ρ g τ Q = AW d 56 5 [x0, x1, x2, .int v] (.int v :: st) σ ρ g τ Q := aw_lc m56 d56_4 rfl rfl rfl
theorem d56_5 : decode cX6_othersOf 5 = .ok (.aload_n 0, 1) := by decide +kernel
theorem s56_5 {d : Nat} {st : List Value} {σ : am_I} {ρ : am_R} {g : am_J} {τ : am_T} {Q : am_Q} {x1 x2 x3 : Value} {v : Nat} : AW d 56 5 [.ref v, x1, x2, x3] (st) σ ρ g τ Q = AW d 56 6 [.ref v, x1, x2, x3] (.ref v :: st) σ ρ g τ Q := aw_lc m56 d56_5 rfl rfl rfl
theorem d56_6 : decode cX6_othersOf 6 = .ok (.getfield 38, 3) := by decide +kernel
theorem s56_6 {d : Nat} {st : List Value} {σ : am_I} {ρ : am_R} {g : am_J} {τ : am_T} {Q : am_Q} {x0 x1 x2 x3 : Value} {a : Nat} (ht : τ.1 a = 4) : AW d 56 6 [x0, x1, x2, x3] (.ref a :: st) σ ρ g τ Q = AW d 56 9 [x0, x1, x2, x3] (.int (σ a 3) :: st) σ ρ g τ Q := aw_gi m56 d56_6 rfl rfl rfl ht
theorem d56_9 : decode cX6_othersOf 9 = .ok (.if_icmp .ge 21, 3) := by decide +kernel
theorem s56_9 {d : Nat} {st : List Value} {σ : am_I} {ρ : am_R} {g : am_J} {τ : am_T} {Q : am_Q} {x0 x1 x2 x3 : Value} {v w : Int32} : AW d 56 9 [x0, x1, x2, x3] (.int w :: .int v :: st) σ ρ g τ Q = if w ≤ v then AW d 56 30 [x0, x1, x2, x3] (st) σ ρ g τ Q else AW d 56 12 [x0, x1, x2, x3] (st) σ ρ g τ Q := aw_br m56 d56_9 rfl rfl rfl
theorem d56_12 : decode cX6_othersOf 12 = .ok (.aload_n 0, 1) := by decide +kernel
theorem s56_12 {d : Nat} {st : List Value} {σ : am_I} {ρ : am_R} {g : am_J} {τ : am_T} {Q : am_Q} {x1 x2 x3 : Value} {v : Nat} : AW d 56 12 [.ref v, x1, x2, x3] (st) σ ρ g τ Q = AW d 56 13 [.ref v, x1, x2, x3] (.ref v :: st) σ ρ g τ Q := aw_lc m56 d56_12 rfl rfl rfl
theorem d56_13 : decode cX6_othersOf 13 = .ok (.iload_n 1, 1) := by decide +kernel
theorem s56_13 {d : Nat} {st : List Value} {σ : am_I} {ρ : am_R} {g : am_J} {τ : am_T} {Q : am_Q} {x0 x2 x3 : Value} {v : Int32} : AW d 56 13 [x0, .int v, x2, x3] (st) σ ρ g τ Q = AW d 56 14 [x0, .int v, x2, x3] (.int v :: st) σ ρ g τ Q := aw_lc m56 d56_13 rfl rfl rfl
theorem d56_14 : decode cX6_othersOf 14 = .ok (.iload_n 3, 1) := by decide +kernel
theorem s56_14 {d : Nat} {st : List Value} {σ : am_I} {ρ : am_R} {g : am_J} {τ : am_T} {Q : am_Q} {x0 x1 x2 : Value} {v : Int32} : AW d 56 14 [x0, x1, x2, .int v] (st) σ ρ g τ Q = AW d 56 15 [x0, x1, x2, .int v] (.int v :: st) σ ρ g τ Q := aw_lc m56 d56_14 rfl rfl rfl
theorem d56_15 : decode cX6_othersOf 15 = .ok (.invokestatic 41, 3) := by decide +kernel
theorem s56_15 {d : Nat} {st : List Value} {σ : am_I} {ρ : am_R} {g : am_J} {τ : am_T} {Q : am_Q} {x0 x1 x2 x3 : Value} {p0 : Nat} {p1 : Int32} {p2 : Int32} (hs : st.length ≤ 4) : AW (d + 1) 56 15 [x0, x1, x2, x3] (.int p2 :: .int p1 :: .ref p0 :: st) σ ρ g τ Q = AW d 55 0 [.ref p0, .int p1, .int p2, am_jk, am_jk] [] σ ρ g τ (fun r9 σ ρ g τ => AW (d + 1) 56 18 [x0, x1, x2, x3] (r9.toList ++ st) σ ρ g τ Q) := aw_cs m56 d56_15 rfl (by simp only [List.length_cons]; omega) rfl rfl en55 ok55 rfl hs
theorem d56_18 : decode cX6_othersOf 18 = .ok (.ifCond .eq 6, 3) := by decide +kernel
theorem s56_18 {d : Nat} {st : List Value} {σ : am_I} {ρ : am_R} {g : am_J} {τ : am_T} {Q : am_Q} {x0 x1 x2 x3 : Value} {v : Int32} : AW d 56 18 [x0, x1, x2, x3] (.int v :: st) σ ρ g τ Q = if v = 0 then AW d 56 24 [x0, x1, x2, x3] (st) σ ρ g τ Q else AW d 56 21 [x0, x1, x2, x3] (st) σ ρ g τ Q := aw_br m56 d56_18 rfl rfl rfl
theorem d56_21 : decode cX6_othersOf 21 = .ok (.iinc 2 1, 3) := by decide +kernel
theorem s56_21 {d : Nat} {st : List Value} {σ : am_I} {ρ : am_R} {g : am_J} {τ : am_T} {Q : am_Q} {x0 x3 : Value} {v : Int32} {u : Int32} : AW d 56 21 [x0, .int u, .int v, x3] (st) σ ρ g τ Q = AW d 56 24 [x0, .int u, .int (v + 1), x3] (st) σ ρ g τ Q := aw_lc m56 d56_21 rfl rfl rfl
theorem d56_24 : decode cX6_othersOf 24 = .ok (.iinc 3 1, 3) := by decide +kernel
theorem s56_24 {d : Nat} {st : List Value} {σ : am_I} {ρ : am_R} {g : am_J} {τ : am_T} {Q : am_Q} {x0 x1 : Value} {v : Int32} {u : Int32} : AW d 56 24 [x0, x1, .int u, .int v] (st) σ ρ g τ Q = AW d 56 27 [x0, x1, .int u, .int (v + 1)] (st) σ ρ g τ Q := aw_lc m56 d56_24 rfl rfl rfl
theorem d56_27 : decode cX6_othersOf 27 = .ok (.goto (-23), 3) := by decide +kernel
theorem s56_27 {d : Nat} {st : List Value} {σ : am_I} {ρ : am_R} {g : am_J} {τ : am_T} {Q : am_Q} {x0 x1 x2 x3 : Value} : AW d 56 27 [x0, x1, x2, x3] (st) σ ρ g τ Q = AW d 56 4 [x0, x1, x2, x3] (st) σ ρ g τ Q := aw_lc m56 d56_27 rfl rfl rfl
theorem d56_30 : decode cX6_othersOf 30 = .ok (.iload_n 2, 1) := by decide +kernel
theorem s56_30 {d : Nat} {st : List Value} {σ : am_I} {ρ : am_R} {g : am_J} {τ : am_T} {Q : am_Q} {x0 x1 x3 : Value} {v : Int32} : AW d 56 30 [x0, x1, .int v, x3] (st) σ ρ g τ Q = AW d 56 31 [x0, x1, .int v, x3] (.int v :: st) σ ρ g τ Q := aw_lc m56 d56_30 rfl rfl rfl
theorem d56_31 : decode cX6_othersOf 31 = .ok (.ireturn, 1) := by decide +kernel
theorem s56_31 {d : Nat} {σ : am_I} {ρ : am_R} {g : am_J} {τ : am_T} {Q : am_Q} {x0 x1 x2 x3 : Value} {v : Int32} : AW d 56 31 [x0, x1, x2, x3] ([.int v]) σ ρ g τ Q = Q (some (.int v)) σ ρ g τ := aw_ri m56 d56_31 rfl
theorem d57_0 : decode cX6_matchAll 0 = .ok (.aload_n 0, 1) := by decide +kernel
theorem s57_0 {d : Nat} {st : List Value} {σ : am_I} {ρ : am_R} {g : am_J} {τ : am_T} {Q : am_Q} {x1 x2 : Value} {v : Nat} : AW d 57 0 [.ref v, x1, x2] (st) σ ρ g τ Q = AW d 57 1 [.ref v, x1, x2] (.ref v :: st) σ ρ g τ Q := aw_lc m57 d57_0 rfl rfl rfl
theorem d57_1 : decode cX6_matchAll 1 = .ok (.iconst 0, 1) := by decide +kernel
theorem s57_1 {d : Nat} {st : List Value} {σ : am_I} {ρ : am_R} {g : am_J} {τ : am_T} {Q : am_Q} {x0 x1 x2 : Value} : AW d 57 1 [x0, x1, x2] (st) σ ρ g τ Q = AW d 57 2 [x0, x1, x2] (.int 0 :: st) σ ρ g τ Q := aw_lc m57 d57_1 rfl rfl rfl
theorem d57_2 : decode cX6_matchAll 2 = .ok (.putfield 19, 3) := by decide +kernel
theorem s57_2 {d : Nat} {st : List Value} {σ : am_I} {ρ : am_R} {g : am_J} {τ : am_T} {Q : am_Q} {x0 x1 x2 : Value} {a : Nat} {v : Int32} (ht : τ.1 a = 6) : AW d 57 2 [x0, x1, x2] (.int v :: .ref a :: st) σ ρ g τ Q = AW d 57 5 [x0, x1, x2] (st) (am_u σ a 2 v) ρ g τ Q := aw_pi m57 d57_2 rfl rfl (Or.inl rfl) rfl ht
theorem d57_5 : decode cX6_matchAll 5 = .ok (.aload_n 0, 1) := by decide +kernel
theorem s57_5 {d : Nat} {st : List Value} {σ : am_I} {ρ : am_R} {g : am_J} {τ : am_T} {Q : am_Q} {x1 x2 : Value} {v : Nat} : AW d 57 5 [.ref v, x1, x2] (st) σ ρ g τ Q = AW d 57 6 [.ref v, x1, x2] (.ref v :: st) σ ρ g τ Q := aw_lc m57 d57_5 rfl rfl rfl
theorem d57_6 : decode cX6_matchAll 6 = .ok (.iconst 0, 1) := by decide +kernel
theorem s57_6 {d : Nat} {st : List Value} {σ : am_I} {ρ : am_R} {g : am_J} {τ : am_T} {Q : am_Q} {x0 x1 x2 : Value} : AW d 57 6 [x0, x1, x2] (st) σ ρ g τ Q = AW d 57 7 [x0, x1, x2] (.int 0 :: st) σ ρ g τ Q := aw_lc m57 d57_6 rfl rfl rfl
theorem d57_7 : decode cX6_matchAll 7 = .ok (.putfield 23, 3) := by decide +kernel
theorem s57_7 {d : Nat} {st : List Value} {σ : am_I} {ρ : am_R} {g : am_J} {τ : am_T} {Q : am_Q} {x0 x1 x2 : Value} {a : Nat} {v : Int32} (ht : τ.1 a = 6) : AW d 57 7 [x0, x1, x2] (.int v :: .ref a :: st) σ ρ g τ Q = AW d 57 10 [x0, x1, x2] (st) (am_u σ a 3 v) ρ g τ Q := aw_pi m57 d57_7 rfl rfl (Or.inl rfl) rfl ht
theorem d57_10 : decode cX6_matchAll 10 = .ok (.aload_n 0, 1) := by decide +kernel
theorem s57_10 {d : Nat} {st : List Value} {σ : am_I} {ρ : am_R} {g : am_J} {τ : am_T} {Q : am_Q} {x1 x2 : Value} {v : Nat} : AW d 57 10 [.ref v, x1, x2] (st) σ ρ g τ Q = AW d 57 11 [.ref v, x1, x2] (.ref v :: st) σ ρ g τ Q := aw_lc m57 d57_10 rfl rfl rfl
theorem d57_11 : decode cX6_matchAll 11 = .ok (.getfield 9, 3) := by decide +kernel
theorem s57_11 {d : Nat} {st : List Value} {σ : am_I} {ρ : am_R} {g : am_J} {τ : am_T} {Q : am_Q} {x0 x1 x2 : Value} {a : Nat} (ht : τ.1 a = 6) : AW d 57 11 [x0, x1, x2] (.ref a :: st) σ ρ g τ Q = AW d 57 14 [x0, x1, x2] (va_rf (ρ a 0) :: st) σ ρ g τ Q := aw_gr m57 d57_11 rfl rfl rfl ht
theorem d57_14 : decode cX6_matchAll 14 = .ok (.iconst (-1), 1) := by decide +kernel
theorem s57_14 {d : Nat} {st : List Value} {σ : am_I} {ρ : am_R} {g : am_J} {τ : am_T} {Q : am_Q} {x0 x1 x2 : Value} : AW d 57 14 [x0, x1, x2] (st) σ ρ g τ Q = AW d 57 15 [x0, x1, x2] (.int (-1) :: st) σ ρ g τ Q := aw_lc m57 d57_14 rfl rfl rfl
theorem d57_15 : decode cX6_matchAll 15 = .ok (.invokestatic 45, 3) := by decide +kernel
theorem s57_15 {d : Nat} {st : List Value} {σ : am_I} {ρ : am_R} {g : am_J} {τ : am_T} {Q : am_Q} {x0 x1 x2 : Value} {p0 : Nat} {p1 : Int32} (hs : st.length ≤ 4) : AW (d + 1) 57 15 [x0, x1, x2] (.int p1 :: .ref p0 :: st) σ ρ g τ Q = AW d 275 0 [.ref p0, .int p1, am_jk, am_jk] [] σ ρ g τ (fun r9 σ ρ g τ => AW (d + 1) 57 18 [x0, x1, x2] (r9.toList ++ st) σ ρ g τ Q) := aw_cs m57 d57_15 rfl (by simp only [List.length_cons]; omega) rfl rfl en275 ok275 rfl hs
theorem d57_18 : decode cX6_matchAll 18 = .ok (.iconst 0, 1) := by decide +kernel
theorem s57_18 {d : Nat} {st : List Value} {σ : am_I} {ρ : am_R} {g : am_J} {τ : am_T} {Q : am_Q} {x0 x1 x2 : Value} : AW d 57 18 [x0, x1, x2] (st) σ ρ g τ Q = AW d 57 19 [x0, x1, x2] (.int 0 :: st) σ ρ g τ Q := aw_lc m57 d57_18 rfl rfl rfl
theorem d57_19 : decode cX6_matchAll 19 = .ok (.istore_n 2, 1) := by decide +kernel
theorem s57_19r {d : Nat} {st : List Value} {σ : am_I} {ρ : am_R} {g : am_J} {τ : am_T} {Q : am_Q} {x0 x2 : Value} {v : Int32} {u : Nat} : AW d 57 19 [x0, .ref u, x2] (.int v :: st) σ ρ g τ Q = AW d 57 20 [x0, .ref u, .int v] (st) σ ρ g τ Q := aw_lc m57 d57_19 rfl rfl rfl
theorem d57_20 : decode cX6_matchAll 20 = .ok (.iload_n 2, 1) := by decide +kernel
theorem s57_20 {d : Nat} {st : List Value} {σ : am_I} {ρ : am_R} {g : am_J} {τ : am_T} {Q : am_Q} {x0 x1 : Value} {v : Int32} : AW d 57 20 [x0, x1, .int v] (st) σ ρ g τ Q = AW d 57 21 [x0, x1, .int v] (.int v :: st) σ ρ g τ Q := aw_lc m57 d57_20 rfl rfl rfl
theorem d57_21 : decode cX6_matchAll 21 = .ok (.aload_n 1, 1) := by decide +kernel
theorem s57_21 {d : Nat} {st : List Value} {σ : am_I} {ρ : am_R} {g : am_J} {τ : am_T} {Q : am_Q} {x0 x2 : Value} {v : Nat} : AW d 57 21 [x0, .ref v, x2] (st) σ ρ g τ Q = AW d 57 22 [x0, .ref v, x2] (.ref v :: st) σ ρ g τ Q := aw_lc m57 d57_21 rfl rfl rfl
theorem d57_22 : decode cX6_matchAll 22 = .ok (.getfield 38, 3) := by decide +kernel
theorem s57_22 {d : Nat} {st : List Value} {σ : am_I} {ρ : am_R} {g : am_J} {τ : am_T} {Q : am_Q} {x0 x1 x2 : Value} {a : Nat} (ht : τ.1 a = 4) : AW d 57 22 [x0, x1, x2] (.ref a :: st) σ ρ g τ Q = AW d 57 25 [x0, x1, x2] (.int (σ a 3) :: st) σ ρ g τ Q := aw_gi m57 d57_22 rfl rfl rfl ht
theorem d57_25 : decode cX6_matchAll 25 = .ok (.if_icmp .ge 57, 3) := by decide +kernel
theorem s57_25 {d : Nat} {st : List Value} {σ : am_I} {ρ : am_R} {g : am_J} {τ : am_T} {Q : am_Q} {x0 x1 x2 : Value} {v w : Int32} : AW d 57 25 [x0, x1, x2] (.int w :: .int v :: st) σ ρ g τ Q = if w ≤ v then AW d 57 82 [x0, x1, x2] (st) σ ρ g τ Q else AW d 57 28 [x0, x1, x2] (st) σ ρ g τ Q := aw_br m57 d57_25 rfl rfl rfl
theorem d57_28 : decode cX6_matchAll 28 = .ok (.aload_n 0, 1) := by decide +kernel
theorem s57_28 {d : Nat} {st : List Value} {σ : am_I} {ρ : am_R} {g : am_J} {τ : am_T} {Q : am_Q} {x1 x2 : Value} {v : Nat} : AW d 57 28 [.ref v, x1, x2] (st) σ ρ g τ Q = AW d 57 29 [.ref v, x1, x2] (.ref v :: st) σ ρ g τ Q := aw_lc m57 d57_28 rfl rfl rfl
theorem d57_29 : decode cX6_matchAll 29 = .ok (.invokevirtual 51, 3) := by decide +kernel
theorem s57_29 {d : Nat} {st : List Value} {σ : am_I} {ρ : am_R} {g : am_J} {τ : am_T} {Q : am_Q} {x0 x1 x2 : Value} {p0 : Nat} (ht : τ.1 p0 = 6) (hs : st.length ≤ 4) : AW (d + 1) 57 29 [x0, x1, x2] (.ref p0 :: st) σ ρ g τ Q = AW d 276 0 [.ref p0, am_jk] [] σ ρ g τ (fun r9 σ ρ g τ => AW (d + 1) 57 32 [x0, x1, x2] (r9.toList ++ st) σ ρ g τ Q) := aw_cv m57 d57_29 rfl m276 rfl rfl (by decide) en276 ok276 rfl ht hs
theorem d57_32 : decode cX6_matchAll 32 = .ok (.aload_n 1, 1) := by decide +kernel
theorem s57_32 {d : Nat} {st : List Value} {σ : am_I} {ρ : am_R} {g : am_J} {τ : am_T} {Q : am_Q} {x0 x2 : Value} {v : Nat} : AW d 57 32 [x0, .ref v, x2] (st) σ ρ g τ Q = AW d 57 33 [x0, .ref v, x2] (.ref v :: st) σ ρ g τ Q := aw_lc m57 d57_32 rfl rfl rfl
theorem d57_33 : decode cX6_matchAll 33 = .ok (.iload_n 2, 1) := by decide +kernel
theorem s57_33 {d : Nat} {st : List Value} {σ : am_I} {ρ : am_R} {g : am_J} {τ : am_T} {Q : am_Q} {x0 x1 : Value} {v : Int32} : AW d 57 33 [x0, x1, .int v] (st) σ ρ g τ Q = AW d 57 34 [x0, x1, .int v] (.int v :: st) σ ρ g τ Q := aw_lc m57 d57_33 rfl rfl rfl
theorem d57_34 : decode cX6_matchAll 34 = .ok (.iconst 0, 1) := by decide +kernel
theorem s57_34 {d : Nat} {st : List Value} {σ : am_I} {ρ : am_R} {g : am_J} {τ : am_T} {Q : am_Q} {x0 x1 x2 : Value} : AW d 57 34 [x0, x1, x2] (st) σ ρ g τ Q = AW d 57 35 [x0, x1, x2] (.int 0 :: st) σ ρ g τ Q := aw_lc m57 d57_34 rfl rfl rfl
theorem d57_35 : decode cX6_matchAll 35 = .ok (.invokevirtual 26, 3) := by decide +kernel
theorem s57_35 {d : Nat} {st : List Value} {σ : am_I} {ρ : am_R} {g : am_J} {τ : am_T} {Q : am_Q} {x0 x1 x2 : Value} {p0 : Nat} {p1 : Int32} {p2 : Int32} (ht : τ.1 p0 = 4) (hs : st.length ≤ 4) : AW (d + 1) 57 35 [x0, x1, x2] (.int p2 :: .int p1 :: .ref p0 :: st) σ ρ g τ Q = AW d 46 0 [.ref p0, .int p1, .int p2] [] σ ρ g τ (fun r9 σ ρ g τ => AW (d + 1) 57 38 [x0, x1, x2] (r9.toList ++ st) σ ρ g τ Q) := aw_cv m57 d57_35 rfl m46 rfl rfl (by decide) en46 ok46 rfl ht hs
theorem d57_38 : decode cX6_matchAll 38 = .ok (.ifCond .ne 38, 3) := by decide +kernel
theorem s57_38 {d : Nat} {st : List Value} {σ : am_I} {ρ : am_R} {g : am_J} {τ : am_T} {Q : am_Q} {x0 x1 x2 : Value} {v : Int32} : AW d 57 38 [x0, x1, x2] (.int v :: st) σ ρ g τ Q = if ¬ v = 0 then AW d 57 76 [x0, x1, x2] (st) σ ρ g τ Q else AW d 57 41 [x0, x1, x2] (st) σ ρ g τ Q := aw_br m57 d57_38 rfl rfl rfl
theorem d57_41 : decode cX6_matchAll 41 = .ok (.aload_n 0, 1) := by decide +kernel
theorem s57_41 {d : Nat} {st : List Value} {σ : am_I} {ρ : am_R} {g : am_J} {τ : am_T} {Q : am_Q} {x1 x2 : Value} {v : Nat} : AW d 57 41 [.ref v, x1, x2] (st) σ ρ g τ Q = AW d 57 42 [.ref v, x1, x2] (.ref v :: st) σ ρ g τ Q := aw_lc m57 d57_41 rfl rfl rfl
theorem d57_42 : decode cX6_matchAll 42 = .ok (.aload_n 1, 1) := by decide +kernel
theorem s57_42 {d : Nat} {st : List Value} {σ : am_I} {ρ : am_R} {g : am_J} {τ : am_T} {Q : am_Q} {x0 x2 : Value} {v : Nat} : AW d 57 42 [x0, .ref v, x2] (st) σ ρ g τ Q = AW d 57 43 [x0, .ref v, x2] (.ref v :: st) σ ρ g τ Q := aw_lc m57 d57_42 rfl rfl rfl
theorem d57_43 : decode cX6_matchAll 43 = .ok (.iload_n 2, 1) := by decide +kernel
theorem s57_43 {d : Nat} {st : List Value} {σ : am_I} {ρ : am_R} {g : am_J} {τ : am_T} {Q : am_Q} {x0 x1 : Value} {v : Int32} : AW d 57 43 [x0, x1, .int v] (st) σ ρ g τ Q = AW d 57 44 [x0, x1, .int v] (.int v :: st) σ ρ g τ Q := aw_lc m57 d57_43 rfl rfl rfl
theorem d57_44 : decode cX6_matchAll 44 = .ok (.iconst 0, 1) := by decide +kernel
theorem s57_44 {d : Nat} {st : List Value} {σ : am_I} {ρ : am_R} {g : am_J} {τ : am_T} {Q : am_Q} {x0 x1 x2 : Value} : AW d 57 44 [x0, x1, x2] (st) σ ρ g τ Q = AW d 57 45 [x0, x1, x2] (.int 0 :: st) σ ρ g τ Q := aw_lc m57 d57_44 rfl rfl rfl
theorem d57_45 : decode cX6_matchAll 45 = .ok (.invokevirtual 54, 3) := by decide +kernel
theorem s57_45 {d : Nat} {st : List Value} {σ : am_I} {ρ : am_R} {g : am_J} {τ : am_T} {Q : am_Q} {x0 x1 x2 : Value} {p0 : Nat} {p1 : Nat} {p2 : Int32} {p3 : Int32} (ht : τ.1 p0 = 6) (hs : st.length ≤ 4) : AW (d + 1) 57 45 [x0, x1, x2] (.int p3 :: .int p2 :: .ref p1 :: .ref p0 :: st) σ ρ g τ Q = AW d 58 0 [.ref p0, .ref p1, .int p2, .int p3, am_jk] [] σ ρ g τ (fun r9 σ ρ g τ => AW (d + 1) 57 48 [x0, x1, x2] (r9.toList ++ st) σ ρ g τ Q) := aw_cv m57 d57_45 rfl m58 rfl rfl (by decide) en58 ok58 rfl ht hs
theorem d57_48 : decode cX6_matchAll 48 = .ok (.ifCond .eq 28, 3) := by decide +kernel
theorem s57_48 {d : Nat} {st : List Value} {σ : am_I} {ρ : am_R} {g : am_J} {τ : am_T} {Q : am_Q} {x0 x1 x2 : Value} {v : Int32} : AW d 57 48 [x0, x1, x2] (.int v :: st) σ ρ g τ Q = if v = 0 then AW d 57 76 [x0, x1, x2] (st) σ ρ g τ Q else AW d 57 51 [x0, x1, x2] (st) σ ρ g τ Q := aw_br m57 d57_48 rfl rfl rfl
theorem d57_51 : decode cX6_matchAll 51 = .ok (.aload_n 0, 1) := by decide +kernel
theorem s57_51 {d : Nat} {st : List Value} {σ : am_I} {ρ : am_R} {g : am_J} {τ : am_T} {Q : am_Q} {x1 x2 : Value} {v : Nat} : AW d 57 51 [.ref v, x1, x2] (st) σ ρ g τ Q = AW d 57 52 [.ref v, x1, x2] (.ref v :: st) σ ρ g τ Q := aw_lc m57 d57_51 rfl rfl rfl
theorem d57_52 : decode cX6_matchAll 52 = .ok (.dup, 1) := by decide +kernel
theorem s57_52 {d : Nat} {st : List Value} {σ : am_I} {ρ : am_R} {g : am_J} {τ : am_T} {Q : am_Q} {x0 x1 x2 : Value} {v : Int32} : AW d 57 52 [x0, x1, x2] (.int v :: st) σ ρ g τ Q = AW d 57 53 [x0, x1, x2] (.int v :: .int v :: st) σ ρ g τ Q := aw_lc m57 d57_52 rfl rfl rfl
theorem s57_52r {d : Nat} {st : List Value} {σ : am_I} {ρ : am_R} {g : am_J} {τ : am_T} {Q : am_Q} {x0 x1 x2 : Value} {v : Nat} : AW d 57 52 [x0, x1, x2] (.ref v :: st) σ ρ g τ Q = AW d 57 53 [x0, x1, x2] (.ref v :: .ref v :: st) σ ρ g τ Q := aw_lc m57 d57_52 rfl rfl rfl
theorem d57_53 : decode cX6_matchAll 53 = .ok (.getfield 19, 3) := by decide +kernel
theorem s57_53 {d : Nat} {st : List Value} {σ : am_I} {ρ : am_R} {g : am_J} {τ : am_T} {Q : am_Q} {x0 x1 x2 : Value} {a : Nat} (ht : τ.1 a = 6) : AW d 57 53 [x0, x1, x2] (.ref a :: st) σ ρ g τ Q = AW d 57 56 [x0, x1, x2] (.int (σ a 2) :: st) σ ρ g τ Q := aw_gi m57 d57_53 rfl rfl rfl ht
theorem d57_56 : decode cX6_matchAll 56 = .ok (.iconst 1, 1) := by decide +kernel
theorem s57_56 {d : Nat} {st : List Value} {σ : am_I} {ρ : am_R} {g : am_J} {τ : am_T} {Q : am_Q} {x0 x1 x2 : Value} : AW d 57 56 [x0, x1, x2] (st) σ ρ g τ Q = AW d 57 57 [x0, x1, x2] (.int 1 :: st) σ ρ g τ Q := aw_lc m57 d57_56 rfl rfl rfl
theorem d57_57 : decode cX6_matchAll 57 = .ok (.iadd, 1) := by decide +kernel
theorem s57_57 {d : Nat} {st : List Value} {σ : am_I} {ρ : am_R} {g : am_J} {τ : am_T} {Q : am_Q} {x0 x1 x2 : Value} {v w : Int32} : AW d 57 57 [x0, x1, x2] (.int w :: .int v :: st) σ ρ g τ Q = AW d 57 58 [x0, x1, x2] (.int (v + w) :: st) σ ρ g τ Q := aw_lc m57 d57_57 rfl rfl rfl
theorem d57_58 : decode cX6_matchAll 58 = .ok (.putfield 19, 3) := by decide +kernel
theorem s57_58 {d : Nat} {st : List Value} {σ : am_I} {ρ : am_R} {g : am_J} {τ : am_T} {Q : am_Q} {x0 x1 x2 : Value} {a : Nat} {v : Int32} (ht : τ.1 a = 6) : AW d 57 58 [x0, x1, x2] (.int v :: .ref a :: st) σ ρ g τ Q = AW d 57 61 [x0, x1, x2] (st) (am_u σ a 2 v) ρ g τ Q := aw_pi m57 d57_58 rfl rfl (Or.inl rfl) rfl ht
theorem d57_61 : decode cX6_matchAll 61 = .ok (.aload_n 0, 1) := by decide +kernel
theorem s57_61 {d : Nat} {st : List Value} {σ : am_I} {ρ : am_R} {g : am_J} {τ : am_T} {Q : am_Q} {x1 x2 : Value} {v : Nat} : AW d 57 61 [.ref v, x1, x2] (st) σ ρ g τ Q = AW d 57 62 [.ref v, x1, x2] (.ref v :: st) σ ρ g τ Q := aw_lc m57 d57_61 rfl rfl rfl
theorem d57_62 : decode cX6_matchAll 62 = .ok (.dup, 1) := by decide +kernel
theorem s57_62 {d : Nat} {st : List Value} {σ : am_I} {ρ : am_R} {g : am_J} {τ : am_T} {Q : am_Q} {x0 x1 x2 : Value} {v : Int32} : AW d 57 62 [x0, x1, x2] (.int v :: st) σ ρ g τ Q = AW d 57 63 [x0, x1, x2] (.int v :: .int v :: st) σ ρ g τ Q := aw_lc m57 d57_62 rfl rfl rfl
theorem s57_62r {d : Nat} {st : List Value} {σ : am_I} {ρ : am_R} {g : am_J} {τ : am_T} {Q : am_Q} {x0 x1 x2 : Value} {v : Nat} : AW d 57 62 [x0, x1, x2] (.ref v :: st) σ ρ g τ Q = AW d 57 63 [x0, x1, x2] (.ref v :: .ref v :: st) σ ρ g τ Q := aw_lc m57 d57_62 rfl rfl rfl
theorem d57_63 : decode cX6_matchAll 63 = .ok (.getfield 23, 3) := by decide +kernel
theorem s57_63 {d : Nat} {st : List Value} {σ : am_I} {ρ : am_R} {g : am_J} {τ : am_T} {Q : am_Q} {x0 x1 x2 : Value} {a : Nat} (ht : τ.1 a = 6) : AW d 57 63 [x0, x1, x2] (.ref a :: st) σ ρ g τ Q = AW d 57 66 [x0, x1, x2] (.int (σ a 3) :: st) σ ρ g τ Q := aw_gi m57 d57_63 rfl rfl rfl ht
theorem d57_66 : decode cX6_matchAll 66 = .ok (.aload_n 1, 1) := by decide +kernel
theorem s57_66 {d : Nat} {st : List Value} {σ : am_I} {ρ : am_R} {g : am_J} {τ : am_T} {Q : am_Q} {x0 x2 : Value} {v : Nat} : AW d 57 66 [x0, .ref v, x2] (st) σ ρ g τ Q = AW d 57 67 [x0, .ref v, x2] (.ref v :: st) σ ρ g τ Q := aw_lc m57 d57_66 rfl rfl rfl
theorem d57_67 : decode cX6_matchAll 67 = .ok (.iload_n 2, 1) := by decide +kernel
theorem s57_67 {d : Nat} {st : List Value} {σ : am_I} {ρ : am_R} {g : am_J} {τ : am_T} {Q : am_Q} {x0 x1 : Value} {v : Int32} : AW d 57 67 [x0, x1, .int v] (st) σ ρ g τ Q = AW d 57 68 [x0, x1, .int v] (.int v :: st) σ ρ g τ Q := aw_lc m57 d57_67 rfl rfl rfl
theorem d57_68 : decode cX6_matchAll 68 = .ok (.iconst 1, 1) := by decide +kernel
theorem s57_68 {d : Nat} {st : List Value} {σ : am_I} {ρ : am_R} {g : am_J} {τ : am_T} {Q : am_Q} {x0 x1 x2 : Value} : AW d 57 68 [x0, x1, x2] (st) σ ρ g τ Q = AW d 57 69 [x0, x1, x2] (.int 1 :: st) σ ρ g τ Q := aw_lc m57 d57_68 rfl rfl rfl
theorem d57_69 : decode cX6_matchAll 69 = .ok (.invokevirtual 26, 3) := by decide +kernel
theorem s57_69 {d : Nat} {st : List Value} {σ : am_I} {ρ : am_R} {g : am_J} {τ : am_T} {Q : am_Q} {x0 x1 x2 : Value} {p0 : Nat} {p1 : Int32} {p2 : Int32} (ht : τ.1 p0 = 4) (hs : st.length ≤ 4) : AW (d + 1) 57 69 [x0, x1, x2] (.int p2 :: .int p1 :: .ref p0 :: st) σ ρ g τ Q = AW d 46 0 [.ref p0, .int p1, .int p2] [] σ ρ g τ (fun r9 σ ρ g τ => AW (d + 1) 57 72 [x0, x1, x2] (r9.toList ++ st) σ ρ g τ Q) := aw_cv m57 d57_69 rfl m46 rfl rfl (by decide) en46 ok46 rfl ht hs
theorem d57_72 : decode cX6_matchAll 72 = .ok (.iadd, 1) := by decide +kernel
theorem s57_72 {d : Nat} {st : List Value} {σ : am_I} {ρ : am_R} {g : am_J} {τ : am_T} {Q : am_Q} {x0 x1 x2 : Value} {v w : Int32} : AW d 57 72 [x0, x1, x2] (.int w :: .int v :: st) σ ρ g τ Q = AW d 57 73 [x0, x1, x2] (.int (v + w) :: st) σ ρ g τ Q := aw_lc m57 d57_72 rfl rfl rfl
theorem d57_73 : decode cX6_matchAll 73 = .ok (.putfield 23, 3) := by decide +kernel
theorem s57_73 {d : Nat} {st : List Value} {σ : am_I} {ρ : am_R} {g : am_J} {τ : am_T} {Q : am_Q} {x0 x1 x2 : Value} {a : Nat} {v : Int32} (ht : τ.1 a = 6) : AW d 57 73 [x0, x1, x2] (.int v :: .ref a :: st) σ ρ g τ Q = AW d 57 76 [x0, x1, x2] (st) (am_u σ a 3 v) ρ g τ Q := aw_pi m57 d57_73 rfl rfl (Or.inl rfl) rfl ht
theorem d57_76 : decode cX6_matchAll 76 = .ok (.iinc 2 1, 3) := by decide +kernel
theorem s57_76r {d : Nat} {st : List Value} {σ : am_I} {ρ : am_R} {g : am_J} {τ : am_T} {Q : am_Q} {x0 : Value} {v : Int32} {u : Nat} : AW d 57 76 [x0, .ref u, .int v] (st) σ ρ g τ Q = AW d 57 79 [x0, .ref u, .int (v + 1)] (st) σ ρ g τ Q := aw_lc m57 d57_76 rfl rfl rfl
theorem d57_79 : decode cX6_matchAll 79 = .ok (.goto (-59), 3) := by decide +kernel
theorem s57_79 {d : Nat} {st : List Value} {σ : am_I} {ρ : am_R} {g : am_J} {τ : am_T} {Q : am_Q} {x0 x1 x2 : Value} : AW d 57 79 [x0, x1, x2] (st) σ ρ g τ Q = AW d 57 20 [x0, x1, x2] (st) σ ρ g τ Q := aw_lc m57 d57_79 rfl rfl rfl
theorem d57_82 : decode cX6_matchAll 82 = .ok (.return_, 1) := by decide +kernel
theorem s57_82 {d : Nat} {σ : am_I} {ρ : am_R} {g : am_J} {τ : am_T} {Q : am_Q} {x0 x1 x2 : Value} : AW d 57 82 [x0, x1, x2] ([]) σ ρ g τ Q = Q none σ ρ g τ := aw_rv m57 d57_82 rfl
theorem d58_0 : decode cX6_findsPartner 0 = .ok (.iload_n 3, 1) := by decide +kernel
theorem s58_0 {d : Nat} {st : List Value} {σ : am_I} {ρ : am_R} {g : am_J} {τ : am_T} {Q : am_Q} {x0 x1 x2 x4 : Value} {v : Int32} : AW d 58 0 [x0, x1, x2, .int v, x4] (st) σ ρ g τ Q = AW d 58 1 [x0, x1, x2, .int v, x4] (.int v :: st) σ ρ g τ Q := aw_lc m58 d58_0 rfl rfl rfl
theorem d58_1 : decode cX6_findsPartner 1 = .ok (.bipush 20, 2) := by decide +kernel
theorem s58_1 {d : Nat} {st : List Value} {σ : am_I} {ρ : am_R} {g : am_J} {τ : am_T} {Q : am_Q} {x0 x1 x2 x3 x4 : Value} : AW d 58 1 [x0, x1, x2, x3, x4] (st) σ ρ g τ Q = AW d 58 3 [x0, x1, x2, x3, x4] (.int 20 :: st) σ ρ g τ Q := aw_lc m58 d58_1 rfl rfl rfl
theorem d58_3 : decode cX6_findsPartner 3 = .ok (.if_icmp .le 5, 3) := by decide +kernel
theorem s58_3 {d : Nat} {st : List Value} {σ : am_I} {ρ : am_R} {g : am_J} {τ : am_T} {Q : am_Q} {x0 x1 x2 x3 x4 : Value} {v w : Int32} : AW d 58 3 [x0, x1, x2, x3, x4] (.int w :: .int v :: st) σ ρ g τ Q = if v ≤ w then AW d 58 8 [x0, x1, x2, x3, x4] (st) σ ρ g τ Q else AW d 58 6 [x0, x1, x2, x3, x4] (st) σ ρ g τ Q := aw_br m58 d58_3 rfl rfl rfl
theorem d58_6 : decode cX6_findsPartner 6 = .ok (.iconst 0, 1) := by decide +kernel
theorem s58_6 {d : Nat} {st : List Value} {σ : am_I} {ρ : am_R} {g : am_J} {τ : am_T} {Q : am_Q} {x0 x1 x2 x3 x4 : Value} : AW d 58 6 [x0, x1, x2, x3, x4] (st) σ ρ g τ Q = AW d 58 7 [x0, x1, x2, x3, x4] (.int 0 :: st) σ ρ g τ Q := aw_lc m58 d58_6 rfl rfl rfl
theorem d58_7 : decode cX6_findsPartner 7 = .ok (.ireturn, 1) := by decide +kernel
theorem s58_7 {d : Nat} {σ : am_I} {ρ : am_R} {g : am_J} {τ : am_T} {Q : am_Q} {x0 x1 x2 x3 x4 : Value} {v : Int32} (hv : am_b01 v = true) : AW d 58 7 [x0, x1, x2, x3, x4] ([.int v]) σ ρ g τ Q = Q (some (.int v)) σ ρ g τ := aw_rz m58 d58_7 rfl hv
theorem d58_8 : decode cX6_findsPartner 8 = .ok (.iconst 0, 1) := by decide +kernel
theorem s58_8 {d : Nat} {st : List Value} {σ : am_I} {ρ : am_R} {g : am_J} {τ : am_T} {Q : am_Q} {x0 x1 x2 x3 x4 : Value} : AW d 58 8 [x0, x1, x2, x3, x4] (st) σ ρ g τ Q = AW d 58 9 [x0, x1, x2, x3, x4] (.int 0 :: st) σ ρ g τ Q := aw_lc m58 d58_8 rfl rfl rfl
theorem d58_9 : decode cX6_findsPartner 9 = .ok (.istore 4, 2) := by decide +kernel
theorem s58_9 {d : Nat} {st : List Value} {σ : am_I} {ρ : am_R} {g : am_J} {τ : am_T} {Q : am_Q} {x0 x1 x2 x4 : Value} {v : Int32} {u : Int32} : AW d 58 9 [x0, x1, x2, .int u, x4] (.int v :: st) σ ρ g τ Q = AW d 58 11 [x0, x1, x2, .int u, .int v] (st) σ ρ g τ Q := aw_lc m58 d58_9 rfl rfl rfl
theorem d58_11 : decode cX6_findsPartner 11 = .ok (.iload 4, 2) := by decide +kernel
theorem s58_11 {d : Nat} {st : List Value} {σ : am_I} {ρ : am_R} {g : am_J} {τ : am_T} {Q : am_Q} {x0 x1 x2 x3 : Value} {v : Int32} : AW d 58 11 [x0, x1, x2, x3, .int v] (st) σ ρ g τ Q = AW d 58 13 [x0, x1, x2, x3, .int v] (.int v :: st) σ ρ g τ Q := aw_lc m58 d58_11 rfl rfl rfl
theorem d58_13 : decode cX6_findsPartner 13 = .ok (.aload_n 1, 1) := by decide +kernel
theorem s58_13 {d : Nat} {st : List Value} {σ : am_I} {ρ : am_R} {g : am_J} {τ : am_T} {Q : am_Q} {x0 x2 x3 x4 : Value} {v : Nat} : AW d 58 13 [x0, .ref v, x2, x3, x4] (st) σ ρ g τ Q = AW d 58 14 [x0, .ref v, x2, x3, x4] (.ref v :: st) σ ρ g τ Q := aw_lc m58 d58_13 rfl rfl rfl
theorem d58_14 : decode cX6_findsPartner 14 = .ok (.getfield 38, 3) := by decide +kernel
theorem s58_14 {d : Nat} {st : List Value} {σ : am_I} {ρ : am_R} {g : am_J} {τ : am_T} {Q : am_Q} {x0 x1 x2 x3 x4 : Value} {a : Nat} (ht : τ.1 a = 4) : AW d 58 14 [x0, x1, x2, x3, x4] (.ref a :: st) σ ρ g τ Q = AW d 58 17 [x0, x1, x2, x3, x4] (.int (σ a 3) :: st) σ ρ g τ Q := aw_gi m58 d58_14 rfl rfl rfl ht
theorem d58_17 : decode cX6_findsPartner 17 = .ok (.if_icmp .ge 82, 3) := by decide +kernel
theorem s58_17 {d : Nat} {st : List Value} {σ : am_I} {ρ : am_R} {g : am_J} {τ : am_T} {Q : am_Q} {x0 x1 x2 x3 x4 : Value} {v w : Int32} : AW d 58 17 [x0, x1, x2, x3, x4] (.int w :: .int v :: st) σ ρ g τ Q = if w ≤ v then AW d 58 99 [x0, x1, x2, x3, x4] (st) σ ρ g τ Q else AW d 58 20 [x0, x1, x2, x3, x4] (st) σ ρ g τ Q := aw_br m58 d58_17 rfl rfl rfl
theorem d58_20 : decode cX6_findsPartner 20 = .ok (.iload 4, 2) := by decide +kernel
theorem s58_20 {d : Nat} {st : List Value} {σ : am_I} {ρ : am_R} {g : am_J} {τ : am_T} {Q : am_Q} {x0 x1 x2 x3 : Value} {v : Int32} : AW d 58 20 [x0, x1, x2, x3, .int v] (st) σ ρ g τ Q = AW d 58 22 [x0, x1, x2, x3, .int v] (.int v :: st) σ ρ g τ Q := aw_lc m58 d58_20 rfl rfl rfl
theorem d58_22 : decode cX6_findsPartner 22 = .ok (.bipush 20, 2) := by decide +kernel
theorem s58_22 {d : Nat} {st : List Value} {σ : am_I} {ρ : am_R} {g : am_J} {τ : am_T} {Q : am_Q} {x0 x1 x2 x3 x4 : Value} : AW d 58 22 [x0, x1, x2, x3, x4] (st) σ ρ g τ Q = AW d 58 24 [x0, x1, x2, x3, x4] (.int 20 :: st) σ ρ g τ Q := aw_lc m58 d58_22 rfl rfl rfl
theorem d58_24 : decode cX6_findsPartner 24 = .ok (.if_icmp .ge 75, 3) := by decide +kernel
theorem s58_24 {d : Nat} {st : List Value} {σ : am_I} {ρ : am_R} {g : am_J} {τ : am_T} {Q : am_Q} {x0 x1 x2 x3 x4 : Value} {v w : Int32} : AW d 58 24 [x0, x1, x2, x3, x4] (.int w :: .int v :: st) σ ρ g τ Q = if w ≤ v then AW d 58 99 [x0, x1, x2, x3, x4] (st) σ ρ g τ Q else AW d 58 27 [x0, x1, x2, x3, x4] (st) σ ρ g τ Q := aw_br m58 d58_24 rfl rfl rfl
theorem d58_27 : decode cX6_findsPartner 27 = .ok (.aload_n 0, 1) := by decide +kernel
theorem s58_27 {d : Nat} {st : List Value} {σ : am_I} {ρ : am_R} {g : am_J} {τ : am_T} {Q : am_Q} {x1 x2 x3 x4 : Value} {v : Nat} : AW d 58 27 [.ref v, x1, x2, x3, x4] (st) σ ρ g τ Q = AW d 58 28 [.ref v, x1, x2, x3, x4] (.ref v :: st) σ ρ g τ Q := aw_lc m58 d58_27 rfl rfl rfl
theorem d58_28 : decode cX6_findsPartner 28 = .ok (.getfield 15, 3) := by decide +kernel
theorem s58_28 {d : Nat} {st : List Value} {σ : am_I} {ρ : am_R} {g : am_J} {τ : am_T} {Q : am_Q} {x0 x1 x2 x3 x4 : Value} {a : Nat} (ht : τ.1 a = 6) : AW d 58 28 [x0, x1, x2, x3, x4] (.ref a :: st) σ ρ g τ Q = AW d 58 31 [x0, x1, x2, x3, x4] (va_rf (ρ a 1) :: st) σ ρ g τ Q := aw_gr m58 d58_28 rfl rfl rfl ht
theorem d58_31 : decode cX6_findsPartner 31 = .ok (.iload 4, 2) := by decide +kernel
theorem s58_31 {d : Nat} {st : List Value} {σ : am_I} {ρ : am_R} {g : am_J} {τ : am_T} {Q : am_Q} {x0 x1 x2 x3 : Value} {v : Int32} : AW d 58 31 [x0, x1, x2, x3, .int v] (st) σ ρ g τ Q = AW d 58 33 [x0, x1, x2, x3, .int v] (.int v :: st) σ ρ g τ Q := aw_lc m58 d58_31 rfl rfl rfl
theorem d58_33 : decode cX6_findsPartner 33 = .ok (.baload, 1) := by decide +kernel
theorem s58_33 {d : Nat} {st : List Value} {σ : am_I} {ρ : am_R} {g : am_J} {τ : am_T} {Q : am_Q} {x0 x1 x2 x3 x4 : Value} {a : Nat} {j : Int32} (ht : τ.1 a = 14 ∨ τ.1 a = 17) (hj : am_inb j (τ.2.1 a) = true) : AW d 58 33 [x0, x1, x2, x3, x4] (.int j :: .ref a :: st) σ ρ g τ Q = AW d 58 34 [x0, x1, x2, x3, x4] (.int (σ a j.toNatClampNeg) :: st) σ ρ g τ Q := aw_bal m58 d58_33 rfl ht hj
theorem d58_34 : decode cX6_findsPartner 34 = .ok (.ifCond .ne 59, 3) := by decide +kernel
theorem s58_34 {d : Nat} {st : List Value} {σ : am_I} {ρ : am_R} {g : am_J} {τ : am_T} {Q : am_Q} {x0 x1 x2 x3 x4 : Value} {v : Int32} : AW d 58 34 [x0, x1, x2, x3, x4] (.int v :: st) σ ρ g τ Q = if ¬ v = 0 then AW d 58 93 [x0, x1, x2, x3, x4] (st) σ ρ g τ Q else AW d 58 37 [x0, x1, x2, x3, x4] (st) σ ρ g τ Q := aw_br m58 d58_34 rfl rfl rfl
theorem d58_37 : decode cX6_findsPartner 37 = .ok (.aload_n 1, 1) := by decide +kernel
theorem s58_37 {d : Nat} {st : List Value} {σ : am_I} {ρ : am_R} {g : am_J} {τ : am_T} {Q : am_Q} {x0 x2 x3 x4 : Value} {v : Nat} : AW d 58 37 [x0, .ref v, x2, x3, x4] (st) σ ρ g τ Q = AW d 58 38 [x0, .ref v, x2, x3, x4] (.ref v :: st) σ ρ g τ Q := aw_lc m58 d58_37 rfl rfl rfl
theorem d58_38 : decode cX6_findsPartner 38 = .ok (.iload_n 2, 1) := by decide +kernel
theorem s58_38 {d : Nat} {st : List Value} {σ : am_I} {ρ : am_R} {g : am_J} {τ : am_T} {Q : am_Q} {x0 x1 x3 x4 : Value} {v : Int32} : AW d 58 38 [x0, x1, .int v, x3, x4] (st) σ ρ g τ Q = AW d 58 39 [x0, x1, .int v, x3, x4] (.int v :: st) σ ρ g τ Q := aw_lc m58 d58_38 rfl rfl rfl
theorem d58_39 : decode cX6_findsPartner 39 = .ok (.iload 4, 2) := by decide +kernel
theorem s58_39 {d : Nat} {st : List Value} {σ : am_I} {ρ : am_R} {g : am_J} {τ : am_T} {Q : am_Q} {x0 x1 x2 x3 : Value} {v : Int32} : AW d 58 39 [x0, x1, x2, x3, .int v] (st) σ ρ g τ Q = AW d 58 41 [x0, x1, x2, x3, .int v] (.int v :: st) σ ρ g τ Q := aw_lc m58 d58_39 rfl rfl rfl
theorem d58_41 : decode cX6_findsPartner 41 = .ok (.invokestatic 41, 3) := by decide +kernel
theorem s58_41 {d : Nat} {st : List Value} {σ : am_I} {ρ : am_R} {g : am_J} {τ : am_T} {Q : am_Q} {x0 x1 x2 x3 x4 : Value} {p0 : Nat} {p1 : Int32} {p2 : Int32} (hs : st.length ≤ 4) : AW (d + 1) 58 41 [x0, x1, x2, x3, x4] (.int p2 :: .int p1 :: .ref p0 :: st) σ ρ g τ Q = AW d 55 0 [.ref p0, .int p1, .int p2, am_jk, am_jk] [] σ ρ g τ (fun r9 σ ρ g τ => AW (d + 1) 58 44 [x0, x1, x2, x3, x4] (r9.toList ++ st) σ ρ g τ Q) := aw_cs m58 d58_41 rfl (by simp only [List.length_cons]; omega) rfl rfl en55 ok55 rfl hs
theorem d58_44 : decode cX6_findsPartner 44 = .ok (.ifCond .eq 49, 3) := by decide +kernel
theorem s58_44 {d : Nat} {st : List Value} {σ : am_I} {ρ : am_R} {g : am_J} {τ : am_T} {Q : am_Q} {x0 x1 x2 x3 x4 : Value} {v : Int32} : AW d 58 44 [x0, x1, x2, x3, x4] (.int v :: st) σ ρ g τ Q = if v = 0 then AW d 58 93 [x0, x1, x2, x3, x4] (st) σ ρ g τ Q else AW d 58 47 [x0, x1, x2, x3, x4] (st) σ ρ g τ Q := aw_br m58 d58_44 rfl rfl rfl
theorem d58_47 : decode cX6_findsPartner 47 = .ok (.aload_n 0, 1) := by decide +kernel
theorem s58_47 {d : Nat} {st : List Value} {σ : am_I} {ρ : am_R} {g : am_J} {τ : am_T} {Q : am_Q} {x1 x2 x3 x4 : Value} {v : Nat} : AW d 58 47 [.ref v, x1, x2, x3, x4] (st) σ ρ g τ Q = AW d 58 48 [.ref v, x1, x2, x3, x4] (.ref v :: st) σ ρ g τ Q := aw_lc m58 d58_47 rfl rfl rfl
theorem d58_48 : decode cX6_findsPartner 48 = .ok (.getfield 15, 3) := by decide +kernel
theorem s58_48 {d : Nat} {st : List Value} {σ : am_I} {ρ : am_R} {g : am_J} {τ : am_T} {Q : am_Q} {x0 x1 x2 x3 x4 : Value} {a : Nat} (ht : τ.1 a = 6) : AW d 58 48 [x0, x1, x2, x3, x4] (.ref a :: st) σ ρ g τ Q = AW d 58 51 [x0, x1, x2, x3, x4] (va_rf (ρ a 1) :: st) σ ρ g τ Q := aw_gr m58 d58_48 rfl rfl rfl ht
theorem d58_51 : decode cX6_findsPartner 51 = .ok (.iload 4, 2) := by decide +kernel
theorem s58_51 {d : Nat} {st : List Value} {σ : am_I} {ρ : am_R} {g : am_J} {τ : am_T} {Q : am_Q} {x0 x1 x2 x3 : Value} {v : Int32} : AW d 58 51 [x0, x1, x2, x3, .int v] (st) σ ρ g τ Q = AW d 58 53 [x0, x1, x2, x3, .int v] (.int v :: st) σ ρ g τ Q := aw_lc m58 d58_51 rfl rfl rfl
theorem d58_53 : decode cX6_findsPartner 53 = .ok (.iconst 1, 1) := by decide +kernel
theorem s58_53 {d : Nat} {st : List Value} {σ : am_I} {ρ : am_R} {g : am_J} {τ : am_T} {Q : am_Q} {x0 x1 x2 x3 x4 : Value} : AW d 58 53 [x0, x1, x2, x3, x4] (st) σ ρ g τ Q = AW d 58 54 [x0, x1, x2, x3, x4] (.int 1 :: st) σ ρ g τ Q := aw_lc m58 d58_53 rfl rfl rfl
theorem d58_54 : decode cX6_findsPartner 54 = .ok (.bastore, 1) := by decide +kernel
theorem s58_54 {d : Nat} {st : List Value} {σ : am_I} {ρ : am_R} {g : am_J} {τ : am_T} {Q : am_Q} {x0 x1 x2 x3 x4 : Value} {a : Nat} {j v : Int32} (ht : τ.1 a = 17) (ha : a < am_BG) (hj : am_inb j (τ.2.1 a) = true) (hv : am_b01 v = true) : AW d 58 54 [x0, x1, x2, x3, x4] (.int v :: .int j :: .ref a :: st) σ ρ g τ Q = AW d 58 55 [x0, x1, x2, x3, x4] (st) (am_u σ a j.toNatClampNeg v) ρ g τ Q := aw_zas m58 d58_54 rfl ht ha hj hv
theorem d58_55 : decode cX6_findsPartner 55 = .ok (.aload_n 0, 1) := by decide +kernel
theorem s58_55 {d : Nat} {st : List Value} {σ : am_I} {ρ : am_R} {g : am_J} {τ : am_T} {Q : am_Q} {x1 x2 x3 x4 : Value} {v : Nat} : AW d 58 55 [.ref v, x1, x2, x3, x4] (st) σ ρ g τ Q = AW d 58 56 [.ref v, x1, x2, x3, x4] (.ref v :: st) σ ρ g τ Q := aw_lc m58 d58_55 rfl rfl rfl
theorem d58_56 : decode cX6_findsPartner 56 = .ok (.getfield 9, 3) := by decide +kernel
theorem s58_56 {d : Nat} {st : List Value} {σ : am_I} {ρ : am_R} {g : am_J} {τ : am_T} {Q : am_Q} {x0 x1 x2 x3 x4 : Value} {a : Nat} (ht : τ.1 a = 6) : AW d 58 56 [x0, x1, x2, x3, x4] (.ref a :: st) σ ρ g τ Q = AW d 58 59 [x0, x1, x2, x3, x4] (va_rf (ρ a 0) :: st) σ ρ g τ Q := aw_gr m58 d58_56 rfl rfl rfl ht
theorem d58_59 : decode cX6_findsPartner 59 = .ok (.iload 4, 2) := by decide +kernel
theorem s58_59 {d : Nat} {st : List Value} {σ : am_I} {ρ : am_R} {g : am_J} {τ : am_T} {Q : am_Q} {x0 x1 x2 x3 : Value} {v : Int32} : AW d 58 59 [x0, x1, x2, x3, .int v] (st) σ ρ g τ Q = AW d 58 61 [x0, x1, x2, x3, .int v] (.int v :: st) σ ρ g τ Q := aw_lc m58 d58_59 rfl rfl rfl
theorem d58_61 : decode cX6_findsPartner 61 = .ok (.iaload, 1) := by decide +kernel
theorem s58_61 {d : Nat} {st : List Value} {σ : am_I} {ρ : am_R} {g : am_J} {τ : am_T} {Q : am_Q} {x0 x1 x2 x3 x4 : Value} {a : Nat} {j : Int32} (ht : τ.1 a = 15) (hj : am_inb j (τ.2.1 a) = true) : AW d 58 61 [x0, x1, x2, x3, x4] (.int j :: .ref a :: st) σ ρ g τ Q = AW d 58 62 [x0, x1, x2, x3, x4] (.int (σ a j.toNatClampNeg) :: st) σ ρ g τ Q := aw_ial m58 d58_61 rfl ht hj
theorem d58_62 : decode cX6_findsPartner 62 = .ok (.ifCond .lt 21, 3) := by decide +kernel
theorem s58_62 {d : Nat} {st : List Value} {σ : am_I} {ρ : am_R} {g : am_J} {τ : am_T} {Q : am_Q} {x0 x1 x2 x3 x4 : Value} {v : Int32} : AW d 58 62 [x0, x1, x2, x3, x4] (.int v :: st) σ ρ g τ Q = if v < 0 then AW d 58 83 [x0, x1, x2, x3, x4] (st) σ ρ g τ Q else AW d 58 65 [x0, x1, x2, x3, x4] (st) σ ρ g τ Q := aw_br m58 d58_62 rfl rfl rfl
theorem d58_65 : decode cX6_findsPartner 65 = .ok (.aload_n 0, 1) := by decide +kernel
theorem s58_65 {d : Nat} {st : List Value} {σ : am_I} {ρ : am_R} {g : am_J} {τ : am_T} {Q : am_Q} {x1 x2 x3 x4 : Value} {v : Nat} : AW d 58 65 [.ref v, x1, x2, x3, x4] (st) σ ρ g τ Q = AW d 58 66 [.ref v, x1, x2, x3, x4] (.ref v :: st) σ ρ g τ Q := aw_lc m58 d58_65 rfl rfl rfl
theorem d58_66 : decode cX6_findsPartner 66 = .ok (.aload_n 1, 1) := by decide +kernel
theorem s58_66 {d : Nat} {st : List Value} {σ : am_I} {ρ : am_R} {g : am_J} {τ : am_T} {Q : am_Q} {x0 x2 x3 x4 : Value} {v : Nat} : AW d 58 66 [x0, .ref v, x2, x3, x4] (st) σ ρ g τ Q = AW d 58 67 [x0, .ref v, x2, x3, x4] (.ref v :: st) σ ρ g τ Q := aw_lc m58 d58_66 rfl rfl rfl
theorem d58_67 : decode cX6_findsPartner 67 = .ok (.aload_n 0, 1) := by decide +kernel
theorem s58_67 {d : Nat} {st : List Value} {σ : am_I} {ρ : am_R} {g : am_J} {τ : am_T} {Q : am_Q} {x1 x2 x3 x4 : Value} {v : Nat} : AW d 58 67 [.ref v, x1, x2, x3, x4] (st) σ ρ g τ Q = AW d 58 68 [.ref v, x1, x2, x3, x4] (.ref v :: st) σ ρ g τ Q := aw_lc m58 d58_67 rfl rfl rfl
theorem d58_68 : decode cX6_findsPartner 68 = .ok (.getfield 9, 3) := by decide +kernel
theorem s58_68 {d : Nat} {st : List Value} {σ : am_I} {ρ : am_R} {g : am_J} {τ : am_T} {Q : am_Q} {x0 x1 x2 x3 x4 : Value} {a : Nat} (ht : τ.1 a = 6) : AW d 58 68 [x0, x1, x2, x3, x4] (.ref a :: st) σ ρ g τ Q = AW d 58 71 [x0, x1, x2, x3, x4] (va_rf (ρ a 0) :: st) σ ρ g τ Q := aw_gr m58 d58_68 rfl rfl rfl ht
theorem d58_71 : decode cX6_findsPartner 71 = .ok (.iload 4, 2) := by decide +kernel
theorem s58_71 {d : Nat} {st : List Value} {σ : am_I} {ρ : am_R} {g : am_J} {τ : am_T} {Q : am_Q} {x0 x1 x2 x3 : Value} {v : Int32} : AW d 58 71 [x0, x1, x2, x3, .int v] (st) σ ρ g τ Q = AW d 58 73 [x0, x1, x2, x3, .int v] (.int v :: st) σ ρ g τ Q := aw_lc m58 d58_71 rfl rfl rfl
theorem d58_73 : decode cX6_findsPartner 73 = .ok (.iaload, 1) := by decide +kernel
theorem s58_73 {d : Nat} {st : List Value} {σ : am_I} {ρ : am_R} {g : am_J} {τ : am_T} {Q : am_Q} {x0 x1 x2 x3 x4 : Value} {a : Nat} {j : Int32} (ht : τ.1 a = 15) (hj : am_inb j (τ.2.1 a) = true) : AW d 58 73 [x0, x1, x2, x3, x4] (.int j :: .ref a :: st) σ ρ g τ Q = AW d 58 74 [x0, x1, x2, x3, x4] (.int (σ a j.toNatClampNeg) :: st) σ ρ g τ Q := aw_ial m58 d58_73 rfl ht hj
theorem d58_74 : decode cX6_findsPartner 74 = .ok (.iload_n 3, 1) := by decide +kernel
theorem s58_74 {d : Nat} {st : List Value} {σ : am_I} {ρ : am_R} {g : am_J} {τ : am_T} {Q : am_Q} {x0 x1 x2 x4 : Value} {v : Int32} : AW d 58 74 [x0, x1, x2, .int v, x4] (st) σ ρ g τ Q = AW d 58 75 [x0, x1, x2, .int v, x4] (.int v :: st) σ ρ g τ Q := aw_lc m58 d58_74 rfl rfl rfl
theorem d58_75 : decode cX6_findsPartner 75 = .ok (.iconst 1, 1) := by decide +kernel
theorem s58_75 {d : Nat} {st : List Value} {σ : am_I} {ρ : am_R} {g : am_J} {τ : am_T} {Q : am_Q} {x0 x1 x2 x3 x4 : Value} : AW d 58 75 [x0, x1, x2, x3, x4] (st) σ ρ g τ Q = AW d 58 76 [x0, x1, x2, x3, x4] (.int 1 :: st) σ ρ g τ Q := aw_lc m58 d58_75 rfl rfl rfl
theorem d58_76 : decode cX6_findsPartner 76 = .ok (.iadd, 1) := by decide +kernel
theorem s58_76 {d : Nat} {st : List Value} {σ : am_I} {ρ : am_R} {g : am_J} {τ : am_T} {Q : am_Q} {x0 x1 x2 x3 x4 : Value} {v w : Int32} : AW d 58 76 [x0, x1, x2, x3, x4] (.int w :: .int v :: st) σ ρ g τ Q = AW d 58 77 [x0, x1, x2, x3, x4] (.int (v + w) :: st) σ ρ g τ Q := aw_lc m58 d58_76 rfl rfl rfl
theorem d58_77 : decode cX6_findsPartner 77 = .ok (.invokevirtual 54, 3) := by decide +kernel
theorem s58_77 {d : Nat} {st : List Value} {σ : am_I} {ρ : am_R} {g : am_J} {τ : am_T} {Q : am_Q} {x0 x1 x2 x3 x4 : Value} {p0 : Nat} {p1 : Nat} {p2 : Int32} {p3 : Int32} (ht : τ.1 p0 = 6) (hs : st.length ≤ 4) : AW (d + 1) 58 77 [x0, x1, x2, x3, x4] (.int p3 :: .int p2 :: .ref p1 :: .ref p0 :: st) σ ρ g τ Q = AW d 58 0 [.ref p0, .ref p1, .int p2, .int p3, am_jk] [] σ ρ g τ (fun r9 σ ρ g τ => AW (d + 1) 58 80 [x0, x1, x2, x3, x4] (r9.toList ++ st) σ ρ g τ Q) := aw_cv m58 d58_77 rfl m58 rfl rfl (by decide) en58 ok58 rfl ht hs
theorem d58_80 : decode cX6_findsPartner 80 = .ok (.ifCond .eq 13, 3) := by decide +kernel
theorem s58_80 {d : Nat} {st : List Value} {σ : am_I} {ρ : am_R} {g : am_J} {τ : am_T} {Q : am_Q} {x0 x1 x2 x3 x4 : Value} {v : Int32} : AW d 58 80 [x0, x1, x2, x3, x4] (.int v :: st) σ ρ g τ Q = if v = 0 then AW d 58 93 [x0, x1, x2, x3, x4] (st) σ ρ g τ Q else AW d 58 83 [x0, x1, x2, x3, x4] (st) σ ρ g τ Q := aw_br m58 d58_80 rfl rfl rfl
theorem d58_83 : decode cX6_findsPartner 83 = .ok (.aload_n 0, 1) := by decide +kernel
theorem s58_83 {d : Nat} {st : List Value} {σ : am_I} {ρ : am_R} {g : am_J} {τ : am_T} {Q : am_Q} {x1 x2 x3 x4 : Value} {v : Nat} : AW d 58 83 [.ref v, x1, x2, x3, x4] (st) σ ρ g τ Q = AW d 58 84 [.ref v, x1, x2, x3, x4] (.ref v :: st) σ ρ g τ Q := aw_lc m58 d58_83 rfl rfl rfl
theorem d58_84 : decode cX6_findsPartner 84 = .ok (.getfield 9, 3) := by decide +kernel
theorem s58_84 {d : Nat} {st : List Value} {σ : am_I} {ρ : am_R} {g : am_J} {τ : am_T} {Q : am_Q} {x0 x1 x2 x3 x4 : Value} {a : Nat} (ht : τ.1 a = 6) : AW d 58 84 [x0, x1, x2, x3, x4] (.ref a :: st) σ ρ g τ Q = AW d 58 87 [x0, x1, x2, x3, x4] (va_rf (ρ a 0) :: st) σ ρ g τ Q := aw_gr m58 d58_84 rfl rfl rfl ht
theorem d58_87 : decode cX6_findsPartner 87 = .ok (.iload 4, 2) := by decide +kernel
theorem s58_87 {d : Nat} {st : List Value} {σ : am_I} {ρ : am_R} {g : am_J} {τ : am_T} {Q : am_Q} {x0 x1 x2 x3 : Value} {v : Int32} : AW d 58 87 [x0, x1, x2, x3, .int v] (st) σ ρ g τ Q = AW d 58 89 [x0, x1, x2, x3, .int v] (.int v :: st) σ ρ g τ Q := aw_lc m58 d58_87 rfl rfl rfl
theorem d58_89 : decode cX6_findsPartner 89 = .ok (.iload_n 2, 1) := by decide +kernel
theorem s58_89 {d : Nat} {st : List Value} {σ : am_I} {ρ : am_R} {g : am_J} {τ : am_T} {Q : am_Q} {x0 x1 x3 x4 : Value} {v : Int32} : AW d 58 89 [x0, x1, .int v, x3, x4] (st) σ ρ g τ Q = AW d 58 90 [x0, x1, .int v, x3, x4] (.int v :: st) σ ρ g τ Q := aw_lc m58 d58_89 rfl rfl rfl
theorem d58_90 : decode cX6_findsPartner 90 = .ok (.iastore, 1) := by decide +kernel
theorem s58_90 {d : Nat} {st : List Value} {σ : am_I} {ρ : am_R} {g : am_J} {τ : am_T} {Q : am_Q} {x0 x1 x2 x3 x4 : Value} {a : Nat} {j v : Int32} (ht : τ.1 a = 15) (ha : a < am_BG) (hj : am_inb j (τ.2.1 a) = true) : AW d 58 90 [x0, x1, x2, x3, x4] (.int v :: .int j :: .ref a :: st) σ ρ g τ Q = AW d 58 91 [x0, x1, x2, x3, x4] (st) (am_u σ a j.toNatClampNeg v) ρ g τ Q := aw_ias m58 d58_90 rfl ht ha hj
theorem d58_91 : decode cX6_findsPartner 91 = .ok (.iconst 1, 1) := by decide +kernel
theorem s58_91 {d : Nat} {st : List Value} {σ : am_I} {ρ : am_R} {g : am_J} {τ : am_T} {Q : am_Q} {x0 x1 x2 x3 x4 : Value} : AW d 58 91 [x0, x1, x2, x3, x4] (st) σ ρ g τ Q = AW d 58 92 [x0, x1, x2, x3, x4] (.int 1 :: st) σ ρ g τ Q := aw_lc m58 d58_91 rfl rfl rfl
theorem d58_92 : decode cX6_findsPartner 92 = .ok (.ireturn, 1) := by decide +kernel
theorem s58_92 {d : Nat} {σ : am_I} {ρ : am_R} {g : am_J} {τ : am_T} {Q : am_Q} {x0 x1 x2 x3 x4 : Value} {v : Int32} (hv : am_b01 v = true) : AW d 58 92 [x0, x1, x2, x3, x4] ([.int v]) σ ρ g τ Q = Q (some (.int v)) σ ρ g τ := aw_rz m58 d58_92 rfl hv
theorem d58_93 : decode cX6_findsPartner 93 = .ok (.iinc 4 1, 3) := by decide +kernel
theorem s58_93 {d : Nat} {st : List Value} {σ : am_I} {ρ : am_R} {g : am_J} {τ : am_T} {Q : am_Q} {x0 x1 x2 : Value} {v : Int32} {u : Int32} : AW d 58 93 [x0, x1, x2, .int u, .int v] (st) σ ρ g τ Q = AW d 58 96 [x0, x1, x2, .int u, .int (v + 1)] (st) σ ρ g τ Q := aw_lc m58 d58_93 rfl rfl rfl
theorem d58_96 : decode cX6_findsPartner 96 = .ok (.goto (-85), 3) := by decide +kernel
theorem s58_96 {d : Nat} {st : List Value} {σ : am_I} {ρ : am_R} {g : am_J} {τ : am_T} {Q : am_Q} {x0 x1 x2 x3 x4 : Value} : AW d 58 96 [x0, x1, x2, x3, x4] (st) σ ρ g τ Q = AW d 58 11 [x0, x1, x2, x3, x4] (st) σ ρ g τ Q := aw_lc m58 d58_96 rfl rfl rfl
theorem d58_99 : decode cX6_findsPartner 99 = .ok (.iconst 0, 1) := by decide +kernel
theorem s58_99 {d : Nat} {st : List Value} {σ : am_I} {ρ : am_R} {g : am_J} {τ : am_T} {Q : am_Q} {x0 x1 x2 x3 x4 : Value} : AW d 58 99 [x0, x1, x2, x3, x4] (st) σ ρ g τ Q = AW d 58 100 [x0, x1, x2, x3, x4] (.int 0 :: st) σ ρ g τ Q := aw_lc m58 d58_99 rfl rfl rfl
theorem d58_100 : decode cX6_findsPartner 100 = .ok (.ireturn, 1) := by decide +kernel
theorem s58_100 {d : Nat} {σ : am_I} {ρ : am_R} {g : am_J} {τ : am_T} {Q : am_Q} {x0 x1 x2 x3 x4 : Value} {v : Int32} (hv : am_b01 v = true) : AW d 58 100 [x0, x1, x2, x3, x4] ([.int v]) σ ρ g τ Q = Q (some (.int v)) σ ρ g τ := aw_rz m58 d58_100 rfl hv
theorem d59_0 : decode cX7_init 0 = .ok (.aload_n 0, 1) := by decide +kernel
theorem s59_0 {d : Nat} {st : List Value} {σ : am_I} {ρ : am_R} {g : am_J} {τ : am_T} {Q : am_Q} {v : Nat} : AW d 59 0 [.ref v] (st) σ ρ g τ Q = AW d 59 1 [.ref v] (.ref v :: st) σ ρ g τ Q := aw_lc m59 d59_0 rfl rfl rfl
theorem s59_0n {d : Nat} {st : List Value} {σ : am_I} {ρ : am_R} {g : am_J} {τ : am_T} {Q : am_Q} : AW d 59 0 [.null] (st) σ ρ g τ Q = AW d 59 1 [.null] (.null :: st) σ ρ g τ Q := aw_lc m59 d59_0 rfl rfl rfl
theorem d59_1 : decode cX7_init 1 = .ok (.invokespecial 3, 3) := by decide +kernel
theorem s59_1 {d : Nat} {st : List Value} {σ : am_I} {ρ : am_R} {g : am_J} {τ : am_T} {Q : am_Q} {x0 : Value} {a : Nat} (hs : st.length ≤ 4) : AW d 59 1 [x0] (.ref a :: st) σ ρ g τ Q = AW d 59 4 [x0] (st) σ ρ g τ Q := aw_oin m59 d59_1 rfl rfl hs
theorem d59_4 : decode cX7_init 4 = .ok (.aload_n 0, 1) := by decide +kernel
theorem s59_4 {d : Nat} {st : List Value} {σ : am_I} {ρ : am_R} {g : am_J} {τ : am_T} {Q : am_Q} {v : Nat} : AW d 59 4 [.ref v] (st) σ ρ g τ Q = AW d 59 5 [.ref v] (.ref v :: st) σ ρ g τ Q := aw_lc m59 d59_4 rfl rfl rfl
theorem s59_4n {d : Nat} {st : List Value} {σ : am_I} {ρ : am_R} {g : am_J} {τ : am_T} {Q : am_Q} : AW d 59 4 [.null] (st) σ ρ g τ Q = AW d 59 5 [.null] (.null :: st) σ ρ g τ Q := aw_lc m59 d59_4 rfl rfl rfl
theorem d59_5 : decode cX7_init 5 = .ok (.iconst 0, 1) := by decide +kernel
theorem s59_5 {d : Nat} {st : List Value} {σ : am_I} {ρ : am_R} {g : am_J} {τ : am_T} {Q : am_Q} {x0 : Value} : AW d 59 5 [x0] (st) σ ρ g τ Q = AW d 59 6 [x0] (.int 0 :: st) σ ρ g τ Q := aw_lc m59 d59_5 rfl rfl rfl
theorem d59_6 : decode cX7_init 6 = .ok (.putfield 9, 3) := by decide +kernel
theorem s59_6 {d : Nat} {st : List Value} {σ : am_I} {ρ : am_R} {g : am_J} {τ : am_T} {Q : am_Q} {x0 : Value} {a : Nat} {v : Int32} (ht : τ.1 a = 7) : AW d 59 6 [x0] (.int v :: .ref a :: st) σ ρ g τ Q = AW d 59 9 [x0] (st) (am_u σ a 0 v) ρ g τ Q := aw_pi m59 d59_6 rfl rfl (Or.inl rfl) rfl ht
theorem d59_9 : decode cX7_init 9 = .ok (.aload_n 0, 1) := by decide +kernel
theorem s59_9 {d : Nat} {st : List Value} {σ : am_I} {ρ : am_R} {g : am_J} {τ : am_T} {Q : am_Q} {v : Nat} : AW d 59 9 [.ref v] (st) σ ρ g τ Q = AW d 59 10 [.ref v] (.ref v :: st) σ ρ g τ Q := aw_lc m59 d59_9 rfl rfl rfl
theorem s59_9n {d : Nat} {st : List Value} {σ : am_I} {ρ : am_R} {g : am_J} {τ : am_T} {Q : am_Q} : AW d 59 9 [.null] (st) σ ρ g τ Q = AW d 59 10 [.null] (.null :: st) σ ρ g τ Q := aw_lc m59 d59_9 rfl rfl rfl
theorem d59_10 : decode cX7_init 10 = .ok (.iconst 1, 1) := by decide +kernel
theorem s59_10 {d : Nat} {st : List Value} {σ : am_I} {ρ : am_R} {g : am_J} {τ : am_T} {Q : am_Q} {x0 : Value} : AW d 59 10 [x0] (st) σ ρ g τ Q = AW d 59 11 [x0] (.int 1 :: st) σ ρ g τ Q := aw_lc m59 d59_10 rfl rfl rfl
theorem d59_11 : decode cX7_init 11 = .ok (.putfield 15, 3) := by decide +kernel
theorem s59_11 {d : Nat} {st : List Value} {σ : am_I} {ρ : am_R} {g : am_J} {τ : am_T} {Q : am_Q} {x0 : Value} {a : Nat} {v : Int32} (ht : τ.1 a = 7) : AW d 59 11 [x0] (.int v :: .ref a :: st) σ ρ g τ Q = AW d 59 14 [x0] (st) (am_u σ a 1 v) ρ g τ Q := aw_pi m59 d59_11 rfl rfl (Or.inl rfl) rfl ht
theorem d59_14 : decode cX7_init 14 = .ok (.aload_n 0, 1) := by decide +kernel
theorem s59_14 {d : Nat} {st : List Value} {σ : am_I} {ρ : am_R} {g : am_J} {τ : am_T} {Q : am_Q} {v : Nat} : AW d 59 14 [.ref v] (st) σ ρ g τ Q = AW d 59 15 [.ref v] (.ref v :: st) σ ρ g τ Q := aw_lc m59 d59_14 rfl rfl rfl
theorem s59_14n {d : Nat} {st : List Value} {σ : am_I} {ρ : am_R} {g : am_J} {τ : am_T} {Q : am_Q} : AW d 59 14 [.null] (st) σ ρ g τ Q = AW d 59 15 [.null] (.null :: st) σ ρ g τ Q := aw_lc m59 d59_14 rfl rfl rfl
theorem d59_15 : decode cX7_init 15 = .ok (.iconst 0, 1) := by decide +kernel
theorem s59_15 {d : Nat} {st : List Value} {σ : am_I} {ρ : am_R} {g : am_J} {τ : am_T} {Q : am_Q} {x0 : Value} : AW d 59 15 [x0] (st) σ ρ g τ Q = AW d 59 16 [x0] (.int 0 :: st) σ ρ g τ Q := aw_lc m59 d59_15 rfl rfl rfl
theorem d59_16 : decode cX7_init 16 = .ok (.putfield 18, 3) := by decide +kernel
theorem s59_16 {d : Nat} {st : List Value} {σ : am_I} {ρ : am_R} {g : am_J} {τ : am_T} {Q : am_Q} {x0 : Value} {a : Nat} {v : Int32} (ht : τ.1 a = 7) : AW d 59 16 [x0] (.int v :: .ref a :: st) σ ρ g τ Q = AW d 59 19 [x0] (st) (am_u σ a 2 v) ρ g τ Q := aw_pi m59 d59_16 rfl rfl (Or.inl rfl) rfl ht
theorem d59_19 : decode cX7_init 19 = .ok (.aload_n 0, 1) := by decide +kernel
theorem s59_19 {d : Nat} {st : List Value} {σ : am_I} {ρ : am_R} {g : am_J} {τ : am_T} {Q : am_Q} {v : Nat} : AW d 59 19 [.ref v] (st) σ ρ g τ Q = AW d 59 20 [.ref v] (.ref v :: st) σ ρ g τ Q := aw_lc m59 d59_19 rfl rfl rfl
theorem s59_19n {d : Nat} {st : List Value} {σ : am_I} {ρ : am_R} {g : am_J} {τ : am_T} {Q : am_Q} : AW d 59 19 [.null] (st) σ ρ g τ Q = AW d 59 20 [.null] (.null :: st) σ ρ g τ Q := aw_lc m59 d59_19 rfl rfl rfl
theorem d59_20 : decode cX7_init 20 = .ok (.iconst 0, 1) := by decide +kernel
theorem s59_20 {d : Nat} {st : List Value} {σ : am_I} {ρ : am_R} {g : am_J} {τ : am_T} {Q : am_Q} {x0 : Value} : AW d 59 20 [x0] (st) σ ρ g τ Q = AW d 59 21 [x0] (.int 0 :: st) σ ρ g τ Q := aw_lc m59 d59_20 rfl rfl rfl
theorem d59_21 : decode cX7_init 21 = .ok (.putfield 21, 3) := by decide +kernel
theorem s59_21 {d : Nat} {st : List Value} {σ : am_I} {ρ : am_R} {g : am_J} {τ : am_T} {Q : am_Q} {x0 : Value} {a : Nat} {v : Int32} (ht : τ.1 a = 7) : AW d 59 21 [x0] (.int v :: .ref a :: st) σ ρ g τ Q = AW d 59 24 [x0] (st) (am_u σ a 3 v) ρ g τ Q := aw_pi m59 d59_21 rfl rfl (Or.inl rfl) rfl ht
theorem d59_24 : decode cX7_init 24 = .ok (.aload_n 0, 1) := by decide +kernel
theorem s59_24 {d : Nat} {st : List Value} {σ : am_I} {ρ : am_R} {g : am_J} {τ : am_T} {Q : am_Q} {v : Nat} : AW d 59 24 [.ref v] (st) σ ρ g τ Q = AW d 59 25 [.ref v] (.ref v :: st) σ ρ g τ Q := aw_lc m59 d59_24 rfl rfl rfl
theorem s59_24n {d : Nat} {st : List Value} {σ : am_I} {ρ : am_R} {g : am_J} {τ : am_T} {Q : am_Q} : AW d 59 24 [.null] (st) σ ρ g τ Q = AW d 59 25 [.null] (.null :: st) σ ρ g τ Q := aw_lc m59 d59_24 rfl rfl rfl
theorem d59_25 : decode cX7_init 25 = .ok (.iconst 3, 1) := by decide +kernel
theorem s59_25 {d : Nat} {st : List Value} {σ : am_I} {ρ : am_R} {g : am_J} {τ : am_T} {Q : am_Q} {x0 : Value} : AW d 59 25 [x0] (st) σ ρ g τ Q = AW d 59 26 [x0] (.int 3 :: st) σ ρ g τ Q := aw_lc m59 d59_25 rfl rfl rfl
theorem d59_26 : decode cX7_init 26 = .ok (.newarray .int, 2) := by decide +kernel
theorem s59_26 {d : Nat} {st : List Value} {σ : am_I} {ρ : am_R} {g : am_J} {τ : am_T} {Q : am_Q} {x0 : Value} {j : Int32} (hj : ¬ j < 0 ∧ j.toNatClampNeg ≤ 10000) : AW d 59 26 [x0] (.int j :: st) σ ρ g τ Q = AW d 59 28 [x0] (.ref τ.2.2.1 :: st) (am_new 15 j.toNatClampNeg σ ρ g τ).1 (am_new 15 j.toNatClampNeg σ ρ g τ).2.1 (am_new 15 j.toNatClampNeg σ ρ g τ).2.2.1 (am_new 15 j.toNatClampNeg σ ρ g τ).2.2.2 Q := aw_nwa m59 d59_26 rfl rfl (by decide) hj
theorem d59_28 : decode cX7_init 28 = .ok (.putfield 24, 3) := by decide +kernel
theorem s59_28 {d : Nat} {st : List Value} {σ : am_I} {ρ : am_R} {g : am_J} {τ : am_T} {Q : am_Q} {x0 : Value} {a b : Nat} (ht : τ.1 a = 7) : AW d 59 28 [x0] (.ref b :: .ref a :: st) σ ρ g τ Q = AW d 59 31 [x0] (st) σ (am_u ρ a 4 (some b)) g τ Q := aw_pr m59 d59_28 rfl rfl (Or.inr ⟨rfl, rfl⟩) rfl ht
theorem s59_28n {d : Nat} {st : List Value} {σ : am_I} {ρ : am_R} {g : am_J} {τ : am_T} {Q : am_Q} {x0 : Value} {a : Nat} (ht : τ.1 a = 7) : AW d 59 28 [x0] (.null :: .ref a :: st) σ ρ g τ Q = AW d 59 31 [x0] (st) σ (am_u ρ a 4 none) g τ Q := aw_pn m59 d59_28 rfl rfl (Or.inr ⟨rfl, rfl⟩) rfl ht
theorem d59_31 : decode cX7_init 31 = .ok (.return_, 1) := by decide +kernel
theorem s59_31 {d : Nat} {σ : am_I} {ρ : am_R} {g : am_J} {τ : am_T} {Q : am_Q} {x0 : Value} : AW d 59 31 [x0] ([]) σ ρ g τ Q = Q none σ ρ g τ := aw_rv m59 d59_31 rfl
theorem d60_0 : decode cX7_begin 0 = .ok (.aload_n 0, 1) := by decide +kernel
theorem s60_0 {d : Nat} {st : List Value} {σ : am_I} {ρ : am_R} {g : am_J} {τ : am_T} {Q : am_Q} {x1 x2 : Value} {v : Nat} : AW d 60 0 [.ref v, x1, x2] (st) σ ρ g τ Q = AW d 60 1 [.ref v, x1, x2] (.ref v :: st) σ ρ g τ Q := aw_lc m60 d60_0 rfl rfl rfl
theorem d60_1 : decode cX7_begin 1 = .ok (.iload_n 1, 1) := by decide +kernel
theorem s60_1 {d : Nat} {st : List Value} {σ : am_I} {ρ : am_R} {g : am_J} {τ : am_T} {Q : am_Q} {x0 x2 : Value} {v : Int32} : AW d 60 1 [x0, .int v, x2] (st) σ ρ g τ Q = AW d 60 2 [x0, .int v, x2] (.int v :: st) σ ρ g τ Q := aw_lc m60 d60_1 rfl rfl rfl
theorem d60_2 : decode cX7_begin 2 = .ok (.putfield 9, 3) := by decide +kernel
theorem s60_2 {d : Nat} {st : List Value} {σ : am_I} {ρ : am_R} {g : am_J} {τ : am_T} {Q : am_Q} {x0 x1 x2 : Value} {a : Nat} {v : Int32} (ht : τ.1 a = 7) : AW d 60 2 [x0, x1, x2] (.int v :: .ref a :: st) σ ρ g τ Q = AW d 60 5 [x0, x1, x2] (st) (am_u σ a 0 v) ρ g τ Q := aw_pi m60 d60_2 rfl rfl (Or.inl rfl) rfl ht
theorem d60_5 : decode cX7_begin 5 = .ok (.aload_n 0, 1) := by decide +kernel
theorem s60_5 {d : Nat} {st : List Value} {σ : am_I} {ρ : am_R} {g : am_J} {τ : am_T} {Q : am_Q} {x1 x2 : Value} {v : Nat} : AW d 60 5 [.ref v, x1, x2] (st) σ ρ g τ Q = AW d 60 6 [.ref v, x1, x2] (.ref v :: st) σ ρ g τ Q := aw_lc m60 d60_5 rfl rfl rfl
theorem d60_6 : decode cX7_begin 6 = .ok (.iload_n 2, 1) := by decide +kernel
theorem s60_6 {d : Nat} {st : List Value} {σ : am_I} {ρ : am_R} {g : am_J} {τ : am_T} {Q : am_Q} {x0 x1 : Value} {v : Int32} : AW d 60 6 [x0, x1, .int v] (st) σ ρ g τ Q = AW d 60 7 [x0, x1, .int v] (.int v :: st) σ ρ g τ Q := aw_lc m60 d60_6 rfl rfl rfl
theorem d60_7 : decode cX7_begin 7 = .ok (.putfield 15, 3) := by decide +kernel
theorem s60_7 {d : Nat} {st : List Value} {σ : am_I} {ρ : am_R} {g : am_J} {τ : am_T} {Q : am_Q} {x0 x1 x2 : Value} {a : Nat} {v : Int32} (ht : τ.1 a = 7) : AW d 60 7 [x0, x1, x2] (.int v :: .ref a :: st) σ ρ g τ Q = AW d 60 10 [x0, x1, x2] (st) (am_u σ a 1 v) ρ g τ Q := aw_pi m60 d60_7 rfl rfl (Or.inl rfl) rfl ht
theorem d60_10 : decode cX7_begin 10 = .ok (.aload_n 0, 1) := by decide +kernel
theorem s60_10 {d : Nat} {st : List Value} {σ : am_I} {ρ : am_R} {g : am_J} {τ : am_T} {Q : am_Q} {x1 x2 : Value} {v : Nat} : AW d 60 10 [.ref v, x1, x2] (st) σ ρ g τ Q = AW d 60 11 [.ref v, x1, x2] (.ref v :: st) σ ρ g τ Q := aw_lc m60 d60_10 rfl rfl rfl
theorem d60_11 : decode cX7_begin 11 = .ok (.iconst 0, 1) := by decide +kernel
theorem s60_11 {d : Nat} {st : List Value} {σ : am_I} {ρ : am_R} {g : am_J} {τ : am_T} {Q : am_Q} {x0 x1 x2 : Value} : AW d 60 11 [x0, x1, x2] (st) σ ρ g τ Q = AW d 60 12 [x0, x1, x2] (.int 0 :: st) σ ρ g τ Q := aw_lc m60 d60_11 rfl rfl rfl
theorem d60_12 : decode cX7_begin 12 = .ok (.putfield 18, 3) := by decide +kernel
theorem s60_12 {d : Nat} {st : List Value} {σ : am_I} {ρ : am_R} {g : am_J} {τ : am_T} {Q : am_Q} {x0 x1 x2 : Value} {a : Nat} {v : Int32} (ht : τ.1 a = 7) : AW d 60 12 [x0, x1, x2] (.int v :: .ref a :: st) σ ρ g τ Q = AW d 60 15 [x0, x1, x2] (st) (am_u σ a 2 v) ρ g τ Q := aw_pi m60 d60_12 rfl rfl (Or.inl rfl) rfl ht
theorem d60_15 : decode cX7_begin 15 = .ok (.aload_n 0, 1) := by decide +kernel
theorem s60_15 {d : Nat} {st : List Value} {σ : am_I} {ρ : am_R} {g : am_J} {τ : am_T} {Q : am_Q} {x1 x2 : Value} {v : Nat} : AW d 60 15 [.ref v, x1, x2] (st) σ ρ g τ Q = AW d 60 16 [.ref v, x1, x2] (.ref v :: st) σ ρ g τ Q := aw_lc m60 d60_15 rfl rfl rfl
theorem d60_16 : decode cX7_begin 16 = .ok (.iconst 0, 1) := by decide +kernel
theorem s60_16 {d : Nat} {st : List Value} {σ : am_I} {ρ : am_R} {g : am_J} {τ : am_T} {Q : am_Q} {x0 x1 x2 : Value} : AW d 60 16 [x0, x1, x2] (st) σ ρ g τ Q = AW d 60 17 [x0, x1, x2] (.int 0 :: st) σ ρ g τ Q := aw_lc m60 d60_16 rfl rfl rfl
theorem d60_17 : decode cX7_begin 17 = .ok (.putfield 21, 3) := by decide +kernel
theorem s60_17 {d : Nat} {st : List Value} {σ : am_I} {ρ : am_R} {g : am_J} {τ : am_T} {Q : am_Q} {x0 x1 x2 : Value} {a : Nat} {v : Int32} (ht : τ.1 a = 7) : AW d 60 17 [x0, x1, x2] (.int v :: .ref a :: st) σ ρ g τ Q = AW d 60 20 [x0, x1, x2] (st) (am_u σ a 3 v) ρ g τ Q := aw_pi m60 d60_17 rfl rfl (Or.inl rfl) rfl ht
theorem d60_20 : decode cX7_begin 20 = .ok (.aload_n 0, 1) := by decide +kernel
theorem s60_20 {d : Nat} {st : List Value} {σ : am_I} {ρ : am_R} {g : am_J} {τ : am_T} {Q : am_Q} {x1 x2 : Value} {v : Nat} : AW d 60 20 [.ref v, x1, x2] (st) σ ρ g τ Q = AW d 60 21 [.ref v, x1, x2] (.ref v :: st) σ ρ g τ Q := aw_lc m60 d60_20 rfl rfl rfl
theorem d60_21 : decode cX7_begin 21 = .ok (.getfield 24, 3) := by decide +kernel
theorem s60_21 {d : Nat} {st : List Value} {σ : am_I} {ρ : am_R} {g : am_J} {τ : am_T} {Q : am_Q} {x0 x1 x2 : Value} {a : Nat} (ht : τ.1 a = 7) : AW d 60 21 [x0, x1, x2] (.ref a :: st) σ ρ g τ Q = AW d 60 24 [x0, x1, x2] (va_rf (ρ a 4) :: st) σ ρ g τ Q := aw_gr m60 d60_21 rfl rfl rfl ht
theorem d60_24 : decode cX7_begin 24 = .ok (.iconst 0, 1) := by decide +kernel
theorem s60_24 {d : Nat} {st : List Value} {σ : am_I} {ρ : am_R} {g : am_J} {τ : am_T} {Q : am_Q} {x0 x1 x2 : Value} : AW d 60 24 [x0, x1, x2] (st) σ ρ g τ Q = AW d 60 25 [x0, x1, x2] (.int 0 :: st) σ ρ g τ Q := aw_lc m60 d60_24 rfl rfl rfl
theorem d60_25 : decode cX7_begin 25 = .ok (.invokestatic 28, 3) := by decide +kernel
theorem s60_25 {d : Nat} {st : List Value} {σ : am_I} {ρ : am_R} {g : am_J} {τ : am_T} {Q : am_Q} {x0 x1 x2 : Value} {p0 : Nat} {p1 : Int32} (hs : st.length ≤ 4) : AW (d + 1) 60 25 [x0, x1, x2] (.int p1 :: .ref p0 :: st) σ ρ g τ Q = AW d 275 0 [.ref p0, .int p1, am_jk, am_jk] [] σ ρ g τ (fun r9 σ ρ g τ => AW (d + 1) 60 28 [x0, x1, x2] (r9.toList ++ st) σ ρ g τ Q) := aw_cs m60 d60_25 rfl (by simp only [List.length_cons]; omega) rfl rfl en275 ok275 rfl hs
theorem d60_28 : decode cX7_begin 28 = .ok (.return_, 1) := by decide +kernel
theorem s60_28 {d : Nat} {σ : am_I} {ρ : am_R} {g : am_J} {τ : am_T} {Q : am_Q} {x0 x1 x2 : Value} : AW d 60 28 [x0, x1, x2] ([]) σ ρ g τ Q = Q none σ ρ g τ := aw_rv m60 d60_28 rfl
theorem d61_0 : decode cX7_inMutiny 0 = .ok (.aload_n 0, 1) := by decide +kernel
theorem s61_0 {d : Nat} {st : List Value} {σ : am_I} {ρ : am_R} {g : am_J} {τ : am_T} {Q : am_Q} {v : Nat} : AW d 61 0 [.ref v] (st) σ ρ g τ Q = AW d 61 1 [.ref v] (.ref v :: st) σ ρ g τ Q := aw_lc m61 d61_0 rfl rfl rfl
theorem d61_1 : decode cX7_inMutiny 1 = .ok (.getfield 18, 3) := by decide +kernel
theorem s61_1 {d : Nat} {st : List Value} {σ : am_I} {ρ : am_R} {g : am_J} {τ : am_T} {Q : am_Q} {x0 : Value} {a : Nat} (ht : τ.1 a = 7) : AW d 61 1 [x0] (.ref a :: st) σ ρ g τ Q = AW d 61 4 [x0] (.int (σ a 2) :: st) σ ρ g τ Q := aw_gi m61 d61_1 rfl rfl rfl ht
theorem d61_4 : decode cX7_inMutiny 4 = .ok (.aload_n 0, 1) := by decide +kernel
theorem s61_4 {d : Nat} {st : List Value} {σ : am_I} {ρ : am_R} {g : am_J} {τ : am_T} {Q : am_Q} {v : Nat} : AW d 61 4 [.ref v] (st) σ ρ g τ Q = AW d 61 5 [.ref v] (.ref v :: st) σ ρ g τ Q := aw_lc m61 d61_4 rfl rfl rfl
theorem d61_5 : decode cX7_inMutiny 5 = .ok (.getfield 15, 3) := by decide +kernel
theorem s61_5 {d : Nat} {st : List Value} {σ : am_I} {ρ : am_R} {g : am_J} {τ : am_T} {Q : am_Q} {x0 : Value} {a : Nat} (ht : τ.1 a = 7) : AW d 61 5 [x0] (.ref a :: st) σ ρ g τ Q = AW d 61 8 [x0] (.int (σ a 1) :: st) σ ρ g τ Q := aw_gi m61 d61_5 rfl rfl rfl ht
theorem d61_8 : decode cX7_inMutiny 8 = .ok (.if_icmp .lt 7, 3) := by decide +kernel
theorem s61_8 {d : Nat} {st : List Value} {σ : am_I} {ρ : am_R} {g : am_J} {τ : am_T} {Q : am_Q} {x0 : Value} {v w : Int32} : AW d 61 8 [x0] (.int w :: .int v :: st) σ ρ g τ Q = if v < w then AW d 61 15 [x0] (st) σ ρ g τ Q else AW d 61 11 [x0] (st) σ ρ g τ Q := aw_br m61 d61_8 rfl rfl rfl
theorem d61_11 : decode cX7_inMutiny 11 = .ok (.iconst 1, 1) := by decide +kernel
theorem s61_11 {d : Nat} {st : List Value} {σ : am_I} {ρ : am_R} {g : am_J} {τ : am_T} {Q : am_Q} {x0 : Value} : AW d 61 11 [x0] (st) σ ρ g τ Q = AW d 61 12 [x0] (.int 1 :: st) σ ρ g τ Q := aw_lc m61 d61_11 rfl rfl rfl
theorem d61_12 : decode cX7_inMutiny 12 = .ok (.goto 4, 3) := by decide +kernel
theorem s61_12 {d : Nat} {st : List Value} {σ : am_I} {ρ : am_R} {g : am_J} {τ : am_T} {Q : am_Q} {x0 : Value} : AW d 61 12 [x0] (st) σ ρ g τ Q = AW d 61 16 [x0] (st) σ ρ g τ Q := aw_lc m61 d61_12 rfl rfl rfl
theorem d61_15 : decode cX7_inMutiny 15 = .ok (.iconst 0, 1) := by decide +kernel
theorem s61_15 {d : Nat} {st : List Value} {σ : am_I} {ρ : am_R} {g : am_J} {τ : am_T} {Q : am_Q} {x0 : Value} : AW d 61 15 [x0] (st) σ ρ g τ Q = AW d 61 16 [x0] (.int 0 :: st) σ ρ g τ Q := aw_lc m61 d61_15 rfl rfl rfl
theorem d61_16 : decode cX7_inMutiny 16 = .ok (.ireturn, 1) := by decide +kernel
theorem s61_16 {d : Nat} {σ : am_I} {ρ : am_R} {g : am_J} {τ : am_T} {Q : am_Q} {x0 : Value} {v : Int32} (hv : am_b01 v = true) : AW d 61 16 [x0] ([.int v]) σ ρ g τ Q = Q (some (.int v)) σ ρ g τ := aw_rz m61 d61_16 rfl hv
theorem d62_0 : decode cX7_copyFrom 0 = .ok (.aload_n 0, 1) := by decide +kernel
theorem s62_0 {d : Nat} {st : List Value} {σ : am_I} {ρ : am_R} {g : am_J} {τ : am_T} {Q : am_Q} {x1 : Value} {v : Nat} : AW d 62 0 [.ref v, x1] (st) σ ρ g τ Q = AW d 62 1 [.ref v, x1] (.ref v :: st) σ ρ g τ Q := aw_lc m62 d62_0 rfl rfl rfl
theorem d62_1 : decode cX7_copyFrom 1 = .ok (.aload_n 1, 1) := by decide +kernel
theorem s62_1 {d : Nat} {st : List Value} {σ : am_I} {ρ : am_R} {g : am_J} {τ : am_T} {Q : am_Q} {x0 : Value} {v : Nat} : AW d 62 1 [x0, .ref v] (st) σ ρ g τ Q = AW d 62 2 [x0, .ref v] (.ref v :: st) σ ρ g τ Q := aw_lc m62 d62_1 rfl rfl rfl
theorem d62_2 : decode cX7_copyFrom 2 = .ok (.getfield 9, 3) := by decide +kernel
theorem s62_2 {d : Nat} {st : List Value} {σ : am_I} {ρ : am_R} {g : am_J} {τ : am_T} {Q : am_Q} {x0 x1 : Value} {a : Nat} (ht : τ.1 a = 7) : AW d 62 2 [x0, x1] (.ref a :: st) σ ρ g τ Q = AW d 62 5 [x0, x1] (.int (σ a 0) :: st) σ ρ g τ Q := aw_gi m62 d62_2 rfl rfl rfl ht
theorem d62_5 : decode cX7_copyFrom 5 = .ok (.putfield 9, 3) := by decide +kernel
theorem s62_5 {d : Nat} {st : List Value} {σ : am_I} {ρ : am_R} {g : am_J} {τ : am_T} {Q : am_Q} {x0 x1 : Value} {a : Nat} {v : Int32} (ht : τ.1 a = 7) : AW d 62 5 [x0, x1] (.int v :: .ref a :: st) σ ρ g τ Q = AW d 62 8 [x0, x1] (st) (am_u σ a 0 v) ρ g τ Q := aw_pi m62 d62_5 rfl rfl (Or.inl rfl) rfl ht
theorem d62_8 : decode cX7_copyFrom 8 = .ok (.aload_n 0, 1) := by decide +kernel
theorem s62_8 {d : Nat} {st : List Value} {σ : am_I} {ρ : am_R} {g : am_J} {τ : am_T} {Q : am_Q} {x1 : Value} {v : Nat} : AW d 62 8 [.ref v, x1] (st) σ ρ g τ Q = AW d 62 9 [.ref v, x1] (.ref v :: st) σ ρ g τ Q := aw_lc m62 d62_8 rfl rfl rfl
theorem d62_9 : decode cX7_copyFrom 9 = .ok (.aload_n 1, 1) := by decide +kernel
theorem s62_9 {d : Nat} {st : List Value} {σ : am_I} {ρ : am_R} {g : am_J} {τ : am_T} {Q : am_Q} {x0 : Value} {v : Nat} : AW d 62 9 [x0, .ref v] (st) σ ρ g τ Q = AW d 62 10 [x0, .ref v] (.ref v :: st) σ ρ g τ Q := aw_lc m62 d62_9 rfl rfl rfl
theorem d62_10 : decode cX7_copyFrom 10 = .ok (.getfield 15, 3) := by decide +kernel
theorem s62_10 {d : Nat} {st : List Value} {σ : am_I} {ρ : am_R} {g : am_J} {τ : am_T} {Q : am_Q} {x0 x1 : Value} {a : Nat} (ht : τ.1 a = 7) : AW d 62 10 [x0, x1] (.ref a :: st) σ ρ g τ Q = AW d 62 13 [x0, x1] (.int (σ a 1) :: st) σ ρ g τ Q := aw_gi m62 d62_10 rfl rfl rfl ht
theorem d62_13 : decode cX7_copyFrom 13 = .ok (.putfield 15, 3) := by decide +kernel
theorem s62_13 {d : Nat} {st : List Value} {σ : am_I} {ρ : am_R} {g : am_J} {τ : am_T} {Q : am_Q} {x0 x1 : Value} {a : Nat} {v : Int32} (ht : τ.1 a = 7) : AW d 62 13 [x0, x1] (.int v :: .ref a :: st) σ ρ g τ Q = AW d 62 16 [x0, x1] (st) (am_u σ a 1 v) ρ g τ Q := aw_pi m62 d62_13 rfl rfl (Or.inl rfl) rfl ht
theorem d62_16 : decode cX7_copyFrom 16 = .ok (.aload_n 0, 1) := by decide +kernel
theorem s62_16 {d : Nat} {st : List Value} {σ : am_I} {ρ : am_R} {g : am_J} {τ : am_T} {Q : am_Q} {x1 : Value} {v : Nat} : AW d 62 16 [.ref v, x1] (st) σ ρ g τ Q = AW d 62 17 [.ref v, x1] (.ref v :: st) σ ρ g τ Q := aw_lc m62 d62_16 rfl rfl rfl
theorem d62_17 : decode cX7_copyFrom 17 = .ok (.aload_n 1, 1) := by decide +kernel
theorem s62_17 {d : Nat} {st : List Value} {σ : am_I} {ρ : am_R} {g : am_J} {τ : am_T} {Q : am_Q} {x0 : Value} {v : Nat} : AW d 62 17 [x0, .ref v] (st) σ ρ g τ Q = AW d 62 18 [x0, .ref v] (.ref v :: st) σ ρ g τ Q := aw_lc m62 d62_17 rfl rfl rfl
theorem d62_18 : decode cX7_copyFrom 18 = .ok (.getfield 18, 3) := by decide +kernel
theorem s62_18 {d : Nat} {st : List Value} {σ : am_I} {ρ : am_R} {g : am_J} {τ : am_T} {Q : am_Q} {x0 x1 : Value} {a : Nat} (ht : τ.1 a = 7) : AW d 62 18 [x0, x1] (.ref a :: st) σ ρ g τ Q = AW d 62 21 [x0, x1] (.int (σ a 2) :: st) σ ρ g τ Q := aw_gi m62 d62_18 rfl rfl rfl ht
theorem d62_21 : decode cX7_copyFrom 21 = .ok (.putfield 18, 3) := by decide +kernel
theorem s62_21 {d : Nat} {st : List Value} {σ : am_I} {ρ : am_R} {g : am_J} {τ : am_T} {Q : am_Q} {x0 x1 : Value} {a : Nat} {v : Int32} (ht : τ.1 a = 7) : AW d 62 21 [x0, x1] (.int v :: .ref a :: st) σ ρ g τ Q = AW d 62 24 [x0, x1] (st) (am_u σ a 2 v) ρ g τ Q := aw_pi m62 d62_21 rfl rfl (Or.inl rfl) rfl ht
theorem d62_24 : decode cX7_copyFrom 24 = .ok (.aload_n 0, 1) := by decide +kernel
theorem s62_24 {d : Nat} {st : List Value} {σ : am_I} {ρ : am_R} {g : am_J} {τ : am_T} {Q : am_Q} {x1 : Value} {v : Nat} : AW d 62 24 [.ref v, x1] (st) σ ρ g τ Q = AW d 62 25 [.ref v, x1] (.ref v :: st) σ ρ g τ Q := aw_lc m62 d62_24 rfl rfl rfl
theorem d62_25 : decode cX7_copyFrom 25 = .ok (.aload_n 1, 1) := by decide +kernel
theorem s62_25 {d : Nat} {st : List Value} {σ : am_I} {ρ : am_R} {g : am_J} {τ : am_T} {Q : am_Q} {x0 : Value} {v : Nat} : AW d 62 25 [x0, .ref v] (st) σ ρ g τ Q = AW d 62 26 [x0, .ref v] (.ref v :: st) σ ρ g τ Q := aw_lc m62 d62_25 rfl rfl rfl
theorem d62_26 : decode cX7_copyFrom 26 = .ok (.getfield 21, 3) := by decide +kernel
theorem s62_26 {d : Nat} {st : List Value} {σ : am_I} {ρ : am_R} {g : am_J} {τ : am_T} {Q : am_Q} {x0 x1 : Value} {a : Nat} (ht : τ.1 a = 7) : AW d 62 26 [x0, x1] (.ref a :: st) σ ρ g τ Q = AW d 62 29 [x0, x1] (.int (σ a 3) :: st) σ ρ g τ Q := aw_gi m62 d62_26 rfl rfl rfl ht
theorem d62_29 : decode cX7_copyFrom 29 = .ok (.putfield 21, 3) := by decide +kernel
theorem s62_29 {d : Nat} {st : List Value} {σ : am_I} {ρ : am_R} {g : am_J} {τ : am_T} {Q : am_Q} {x0 x1 : Value} {a : Nat} {v : Int32} (ht : τ.1 a = 7) : AW d 62 29 [x0, x1] (.int v :: .ref a :: st) σ ρ g τ Q = AW d 62 32 [x0, x1] (st) (am_u σ a 3 v) ρ g τ Q := aw_pi m62 d62_29 rfl rfl (Or.inl rfl) rfl ht
theorem d62_32 : decode cX7_copyFrom 32 = .ok (.aload_n 1, 1) := by decide +kernel
theorem s62_32 {d : Nat} {st : List Value} {σ : am_I} {ρ : am_R} {g : am_J} {τ : am_T} {Q : am_Q} {x0 : Value} {v : Nat} : AW d 62 32 [x0, .ref v] (st) σ ρ g τ Q = AW d 62 33 [x0, .ref v] (.ref v :: st) σ ρ g τ Q := aw_lc m62 d62_32 rfl rfl rfl
theorem d62_33 : decode cX7_copyFrom 33 = .ok (.getfield 24, 3) := by decide +kernel
theorem s62_33 {d : Nat} {st : List Value} {σ : am_I} {ρ : am_R} {g : am_J} {τ : am_T} {Q : am_Q} {x0 x1 : Value} {a : Nat} (ht : τ.1 a = 7) : AW d 62 33 [x0, x1] (.ref a :: st) σ ρ g τ Q = AW d 62 36 [x0, x1] (va_rf (ρ a 4) :: st) σ ρ g τ Q := aw_gr m62 d62_33 rfl rfl rfl ht
theorem d62_36 : decode cX7_copyFrom 36 = .ok (.iconst 0, 1) := by decide +kernel
theorem s62_36 {d : Nat} {st : List Value} {σ : am_I} {ρ : am_R} {g : am_J} {τ : am_T} {Q : am_Q} {x0 x1 : Value} : AW d 62 36 [x0, x1] (st) σ ρ g τ Q = AW d 62 37 [x0, x1] (.int 0 :: st) σ ρ g τ Q := aw_lc m62 d62_36 rfl rfl rfl
theorem d62_37 : decode cX7_copyFrom 37 = .ok (.aload_n 0, 1) := by decide +kernel
theorem s62_37 {d : Nat} {st : List Value} {σ : am_I} {ρ : am_R} {g : am_J} {τ : am_T} {Q : am_Q} {x1 : Value} {v : Nat} : AW d 62 37 [.ref v, x1] (st) σ ρ g τ Q = AW d 62 38 [.ref v, x1] (.ref v :: st) σ ρ g τ Q := aw_lc m62 d62_37 rfl rfl rfl
theorem d62_38 : decode cX7_copyFrom 38 = .ok (.getfield 24, 3) := by decide +kernel
theorem s62_38 {d : Nat} {st : List Value} {σ : am_I} {ρ : am_R} {g : am_J} {τ : am_T} {Q : am_Q} {x0 x1 : Value} {a : Nat} (ht : τ.1 a = 7) : AW d 62 38 [x0, x1] (.ref a :: st) σ ρ g τ Q = AW d 62 41 [x0, x1] (va_rf (ρ a 4) :: st) σ ρ g τ Q := aw_gr m62 d62_38 rfl rfl rfl ht
theorem d62_41 : decode cX7_copyFrom 41 = .ok (.iconst 0, 1) := by decide +kernel
theorem s62_41 {d : Nat} {st : List Value} {σ : am_I} {ρ : am_R} {g : am_J} {τ : am_T} {Q : am_Q} {x0 x1 : Value} : AW d 62 41 [x0, x1] (st) σ ρ g τ Q = AW d 62 42 [x0, x1] (.int 0 :: st) σ ρ g τ Q := aw_lc m62 d62_41 rfl rfl rfl
theorem d62_42 : decode cX7_copyFrom 42 = .ok (.iconst 3, 1) := by decide +kernel
theorem s62_42 {d : Nat} {st : List Value} {σ : am_I} {ρ : am_R} {g : am_J} {τ : am_T} {Q : am_Q} {x0 x1 : Value} : AW d 62 42 [x0, x1] (st) σ ρ g τ Q = AW d 62 43 [x0, x1] (.int 3 :: st) σ ρ g τ Q := aw_lc m62 d62_42 rfl rfl rfl
theorem d62_43 : decode cX7_copyFrom 43 = .ok (.invokestatic 34, 3) := by decide +kernel
theorem s62_43 {d : Nat} {st : List Value} {σ : am_I} {ρ : am_R} {g : am_J} {τ : am_T} {Q : am_Q} {x0 x1 : Value} {a b : Nat} {sp dp nn : Int32} (hs : st.length ≤ 4) (h : τ.1 a = 15 ∧ τ.1 b = 15 ∧ a < am_BG ∧ b < am_BG ∧ a ≠ b ∧ ¬ nn < 0 ∧ ¬ sp < 0 ∧ ¬ dp < 0 ∧ sp.toNatClampNeg + nn.toNatClampNeg ≤ τ.2.1 a ∧ dp.toNatClampNeg + nn.toNatClampNeg ≤ τ.2.1 b) : AW d 62 43 [x0, x1] (.int nn :: .int dp :: .ref b :: .int sp :: .ref a :: st) σ ρ g τ Q = AW d 62 46 [x0, x1] (st) (am_ur σ b (va_cpy (σ a) (σ b) sp.toNatClampNeg dp.toNatClampNeg nn.toNatClampNeg)) ρ g τ Q := aw_cpy m62 d62_43 rfl rfl hs h
theorem d62_46 : decode cX7_copyFrom 46 = .ok (.return_, 1) := by decide +kernel
theorem s62_46 {d : Nat} {σ : am_I} {ρ : am_R} {g : am_J} {τ : am_T} {Q : am_Q} {x0 x1 : Value} : AW d 62 46 [x0, x1] ([]) σ ρ g τ Q = Q none σ ρ g τ := aw_rv m62 d62_46 rfl
theorem d63_0 : decode cX8_init 0 = .ok (.aload_n 0, 1) := by decide +kernel
theorem s63_0 {d : Nat} {st : List Value} {σ : am_I} {ρ : am_R} {g : am_J} {τ : am_T} {Q : am_Q} {v : Nat} : AW d 63 0 [.ref v] (st) σ ρ g τ Q = AW d 63 1 [.ref v] (.ref v :: st) σ ρ g τ Q := aw_lc m63 d63_0 rfl rfl rfl
theorem s63_0n {d : Nat} {st : List Value} {σ : am_I} {ρ : am_R} {g : am_J} {τ : am_T} {Q : am_Q} : AW d 63 0 [.null] (st) σ ρ g τ Q = AW d 63 1 [.null] (.null :: st) σ ρ g τ Q := aw_lc m63 d63_0 rfl rfl rfl
theorem d63_1 : decode cX8_init 1 = .ok (.invokespecial 3, 3) := by decide +kernel
theorem s63_1 {d : Nat} {st : List Value} {σ : am_I} {ρ : am_R} {g : am_J} {τ : am_T} {Q : am_Q} {x0 : Value} {a : Nat} (hs : st.length ≤ 4) : AW d 63 1 [x0] (.ref a :: st) σ ρ g τ Q = AW d 63 4 [x0] (st) σ ρ g τ Q := aw_oin m63 d63_1 rfl rfl hs
theorem d63_4 : decode cX8_init 4 = .ok (.aload_n 0, 1) := by decide +kernel
theorem s63_4 {d : Nat} {st : List Value} {σ : am_I} {ρ : am_R} {g : am_J} {τ : am_T} {Q : am_Q} {v : Nat} : AW d 63 4 [.ref v] (st) σ ρ g τ Q = AW d 63 5 [.ref v] (.ref v :: st) σ ρ g τ Q := aw_lc m63 d63_4 rfl rfl rfl
theorem s63_4n {d : Nat} {st : List Value} {σ : am_I} {ρ : am_R} {g : am_J} {τ : am_T} {Q : am_Q} : AW d 63 4 [.null] (st) σ ρ g τ Q = AW d 63 5 [.null] (.null :: st) σ ρ g τ Q := aw_lc m63 d63_4 rfl rfl rfl
theorem d63_5 : decode cX8_init 5 = .ok (.bipush 16, 2) := by decide +kernel
theorem s63_5 {d : Nat} {st : List Value} {σ : am_I} {ρ : am_R} {g : am_J} {τ : am_T} {Q : am_Q} {x0 : Value} : AW d 63 5 [x0] (st) σ ρ g τ Q = AW d 63 7 [x0] (.int 16 :: st) σ ρ g τ Q := aw_lc m63 d63_5 rfl rfl rfl
theorem d63_7 : decode cX8_init 7 = .ok (.newarray .boolean, 2) := by decide +kernel
theorem s63_7 {d : Nat} {st : List Value} {σ : am_I} {ρ : am_R} {g : am_J} {τ : am_T} {Q : am_Q} {x0 : Value} {j : Int32} (hj : ¬ j < 0 ∧ j.toNatClampNeg ≤ 10000) : AW d 63 7 [x0] (.int j :: st) σ ρ g τ Q = AW d 63 9 [x0] (.ref τ.2.2.1 :: st) (am_new 17 j.toNatClampNeg σ ρ g τ).1 (am_new 17 j.toNatClampNeg σ ρ g τ).2.1 (am_new 17 j.toNatClampNeg σ ρ g τ).2.2.1 (am_new 17 j.toNatClampNeg σ ρ g τ).2.2.2 Q := aw_nwa m63 d63_7 rfl rfl (by decide) hj
theorem d63_9 : decode cX8_init 9 = .ok (.putfield 9, 3) := by decide +kernel
theorem s63_9 {d : Nat} {st : List Value} {σ : am_I} {ρ : am_R} {g : am_J} {τ : am_T} {Q : am_Q} {x0 : Value} {a b : Nat} (ht : τ.1 a = 8) : AW d 63 9 [x0] (.ref b :: .ref a :: st) σ ρ g τ Q = AW d 63 12 [x0] (st) σ (am_u ρ a 0 (some b)) g τ Q := aw_pr m63 d63_9 rfl rfl (Or.inr ⟨rfl, rfl⟩) rfl ht
theorem s63_9n {d : Nat} {st : List Value} {σ : am_I} {ρ : am_R} {g : am_J} {τ : am_T} {Q : am_Q} {x0 : Value} {a : Nat} (ht : τ.1 a = 8) : AW d 63 9 [x0] (.null :: .ref a :: st) σ ρ g τ Q = AW d 63 12 [x0] (st) σ (am_u ρ a 0 none) g τ Q := aw_pn m63 d63_9 rfl rfl (Or.inr ⟨rfl, rfl⟩) rfl ht
theorem d63_12 : decode cX8_init 12 = .ok (.aload_n 0, 1) := by decide +kernel
theorem s63_12 {d : Nat} {st : List Value} {σ : am_I} {ρ : am_R} {g : am_J} {τ : am_T} {Q : am_Q} {v : Nat} : AW d 63 12 [.ref v] (st) σ ρ g τ Q = AW d 63 13 [.ref v] (.ref v :: st) σ ρ g τ Q := aw_lc m63 d63_12 rfl rfl rfl
theorem s63_12n {d : Nat} {st : List Value} {σ : am_I} {ρ : am_R} {g : am_J} {τ : am_T} {Q : am_Q} : AW d 63 12 [.null] (st) σ ρ g τ Q = AW d 63 13 [.null] (.null :: st) σ ρ g τ Q := aw_lc m63 d63_12 rfl rfl rfl
theorem d63_13 : decode cX8_init 13 = .ok (.bipush 16, 2) := by decide +kernel
theorem s63_13 {d : Nat} {st : List Value} {σ : am_I} {ρ : am_R} {g : am_J} {τ : am_T} {Q : am_Q} {x0 : Value} : AW d 63 13 [x0] (st) σ ρ g τ Q = AW d 63 15 [x0] (.int 16 :: st) σ ρ g τ Q := aw_lc m63 d63_13 rfl rfl rfl
theorem d63_15 : decode cX8_init 15 = .ok (.newarray .int, 2) := by decide +kernel
theorem s63_15 {d : Nat} {st : List Value} {σ : am_I} {ρ : am_R} {g : am_J} {τ : am_T} {Q : am_Q} {x0 : Value} {j : Int32} (hj : ¬ j < 0 ∧ j.toNatClampNeg ≤ 10000) : AW d 63 15 [x0] (.int j :: st) σ ρ g τ Q = AW d 63 17 [x0] (.ref τ.2.2.1 :: st) (am_new 15 j.toNatClampNeg σ ρ g τ).1 (am_new 15 j.toNatClampNeg σ ρ g τ).2.1 (am_new 15 j.toNatClampNeg σ ρ g τ).2.2.1 (am_new 15 j.toNatClampNeg σ ρ g τ).2.2.2 Q := aw_nwa m63 d63_15 rfl rfl (by decide) hj
theorem d63_17 : decode cX8_init 17 = .ok (.putfield 15, 3) := by decide +kernel
theorem s63_17 {d : Nat} {st : List Value} {σ : am_I} {ρ : am_R} {g : am_J} {τ : am_T} {Q : am_Q} {x0 : Value} {a b : Nat} (ht : τ.1 a = 8) : AW d 63 17 [x0] (.ref b :: .ref a :: st) σ ρ g τ Q = AW d 63 20 [x0] (st) σ (am_u ρ a 1 (some b)) g τ Q := aw_pr m63 d63_17 rfl rfl (Or.inr ⟨rfl, rfl⟩) rfl ht
theorem s63_17n {d : Nat} {st : List Value} {σ : am_I} {ρ : am_R} {g : am_J} {τ : am_T} {Q : am_Q} {x0 : Value} {a : Nat} (ht : τ.1 a = 8) : AW d 63 17 [x0] (.null :: .ref a :: st) σ ρ g τ Q = AW d 63 20 [x0] (st) σ (am_u ρ a 1 none) g τ Q := aw_pn m63 d63_17 rfl rfl (Or.inr ⟨rfl, rfl⟩) rfl ht
theorem d63_20 : decode cX8_init 20 = .ok (.aload_n 0, 1) := by decide +kernel
theorem s63_20 {d : Nat} {st : List Value} {σ : am_I} {ρ : am_R} {g : am_J} {τ : am_T} {Q : am_Q} {v : Nat} : AW d 63 20 [.ref v] (st) σ ρ g τ Q = AW d 63 21 [.ref v] (.ref v :: st) σ ρ g τ Q := aw_lc m63 d63_20 rfl rfl rfl
theorem s63_20n {d : Nat} {st : List Value} {σ : am_I} {ρ : am_R} {g : am_J} {τ : am_T} {Q : am_Q} : AW d 63 20 [.null] (st) σ ρ g τ Q = AW d 63 21 [.null] (.null :: st) σ ρ g τ Q := aw_lc m63 d63_20 rfl rfl rfl
theorem d63_21 : decode cX8_init 21 = .ok (.bipush 16, 2) := by decide +kernel
theorem s63_21 {d : Nat} {st : List Value} {σ : am_I} {ρ : am_R} {g : am_J} {τ : am_T} {Q : am_Q} {x0 : Value} : AW d 63 21 [x0] (st) σ ρ g τ Q = AW d 63 23 [x0] (.int 16 :: st) σ ρ g τ Q := aw_lc m63 d63_21 rfl rfl rfl
theorem d63_23 : decode cX8_init 23 = .ok (.newarray .int, 2) := by decide +kernel
theorem s63_23 {d : Nat} {st : List Value} {σ : am_I} {ρ : am_R} {g : am_J} {τ : am_T} {Q : am_Q} {x0 : Value} {j : Int32} (hj : ¬ j < 0 ∧ j.toNatClampNeg ≤ 10000) : AW d 63 23 [x0] (.int j :: st) σ ρ g τ Q = AW d 63 25 [x0] (.ref τ.2.2.1 :: st) (am_new 15 j.toNatClampNeg σ ρ g τ).1 (am_new 15 j.toNatClampNeg σ ρ g τ).2.1 (am_new 15 j.toNatClampNeg σ ρ g τ).2.2.1 (am_new 15 j.toNatClampNeg σ ρ g τ).2.2.2 Q := aw_nwa m63 d63_23 rfl rfl (by decide) hj
theorem d63_25 : decode cX8_init 25 = .ok (.putfield 19, 3) := by decide +kernel
theorem s63_25 {d : Nat} {st : List Value} {σ : am_I} {ρ : am_R} {g : am_J} {τ : am_T} {Q : am_Q} {x0 : Value} {a b : Nat} (ht : τ.1 a = 8) : AW d 63 25 [x0] (.ref b :: .ref a :: st) σ ρ g τ Q = AW d 63 28 [x0] (st) σ (am_u ρ a 2 (some b)) g τ Q := aw_pr m63 d63_25 rfl rfl (Or.inr ⟨rfl, rfl⟩) rfl ht
theorem s63_25n {d : Nat} {st : List Value} {σ : am_I} {ρ : am_R} {g : am_J} {τ : am_T} {Q : am_Q} {x0 : Value} {a : Nat} (ht : τ.1 a = 8) : AW d 63 25 [x0] (.null :: .ref a :: st) σ ρ g τ Q = AW d 63 28 [x0] (st) σ (am_u ρ a 2 none) g τ Q := aw_pn m63 d63_25 rfl rfl (Or.inr ⟨rfl, rfl⟩) rfl ht
theorem d63_28 : decode cX8_init 28 = .ok (.aload_n 0, 1) := by decide +kernel
theorem s63_28 {d : Nat} {st : List Value} {σ : am_I} {ρ : am_R} {g : am_J} {τ : am_T} {Q : am_Q} {v : Nat} : AW d 63 28 [.ref v] (st) σ ρ g τ Q = AW d 63 29 [.ref v] (.ref v :: st) σ ρ g τ Q := aw_lc m63 d63_28 rfl rfl rfl
theorem s63_28n {d : Nat} {st : List Value} {σ : am_I} {ρ : am_R} {g : am_J} {τ : am_T} {Q : am_Q} : AW d 63 28 [.null] (st) σ ρ g τ Q = AW d 63 29 [.null] (.null :: st) σ ρ g τ Q := aw_lc m63 d63_28 rfl rfl rfl
theorem d63_29 : decode cX8_init 29 = .ok (.bipush 16, 2) := by decide +kernel
theorem s63_29 {d : Nat} {st : List Value} {σ : am_I} {ρ : am_R} {g : am_J} {τ : am_T} {Q : am_Q} {x0 : Value} : AW d 63 29 [x0] (st) σ ρ g τ Q = AW d 63 31 [x0] (.int 16 :: st) σ ρ g τ Q := aw_lc m63 d63_29 rfl rfl rfl
theorem d63_31 : decode cX8_init 31 = .ok (.newarray .int, 2) := by decide +kernel
theorem s63_31 {d : Nat} {st : List Value} {σ : am_I} {ρ : am_R} {g : am_J} {τ : am_T} {Q : am_Q} {x0 : Value} {j : Int32} (hj : ¬ j < 0 ∧ j.toNatClampNeg ≤ 10000) : AW d 63 31 [x0] (.int j :: st) σ ρ g τ Q = AW d 63 33 [x0] (.ref τ.2.2.1 :: st) (am_new 15 j.toNatClampNeg σ ρ g τ).1 (am_new 15 j.toNatClampNeg σ ρ g τ).2.1 (am_new 15 j.toNatClampNeg σ ρ g τ).2.2.1 (am_new 15 j.toNatClampNeg σ ρ g τ).2.2.2 Q := aw_nwa m63 d63_31 rfl rfl (by decide) hj
theorem d63_33 : decode cX8_init 33 = .ok (.putfield 22, 3) := by decide +kernel
theorem s63_33 {d : Nat} {st : List Value} {σ : am_I} {ρ : am_R} {g : am_J} {τ : am_T} {Q : am_Q} {x0 : Value} {a b : Nat} (ht : τ.1 a = 8) : AW d 63 33 [x0] (.ref b :: .ref a :: st) σ ρ g τ Q = AW d 63 36 [x0] (st) σ (am_u ρ a 3 (some b)) g τ Q := aw_pr m63 d63_33 rfl rfl (Or.inr ⟨rfl, rfl⟩) rfl ht
theorem s63_33n {d : Nat} {st : List Value} {σ : am_I} {ρ : am_R} {g : am_J} {τ : am_T} {Q : am_Q} {x0 : Value} {a : Nat} (ht : τ.1 a = 8) : AW d 63 33 [x0] (.null :: .ref a :: st) σ ρ g τ Q = AW d 63 36 [x0] (st) σ (am_u ρ a 3 none) g τ Q := aw_pn m63 d63_33 rfl rfl (Or.inr ⟨rfl, rfl⟩) rfl ht
theorem d63_36 : decode cX8_init 36 = .ok (.aload_n 0, 1) := by decide +kernel
theorem s63_36 {d : Nat} {st : List Value} {σ : am_I} {ρ : am_R} {g : am_J} {τ : am_T} {Q : am_Q} {v : Nat} : AW d 63 36 [.ref v] (st) σ ρ g τ Q = AW d 63 37 [.ref v] (.ref v :: st) σ ρ g τ Q := aw_lc m63 d63_36 rfl rfl rfl
theorem s63_36n {d : Nat} {st : List Value} {σ : am_I} {ρ : am_R} {g : am_J} {τ : am_T} {Q : am_Q} : AW d 63 36 [.null] (st) σ ρ g τ Q = AW d 63 37 [.null] (.null :: st) σ ρ g τ Q := aw_lc m63 d63_36 rfl rfl rfl
theorem d63_37 : decode cX8_init 37 = .ok (.iconst 0, 1) := by decide +kernel
theorem s63_37 {d : Nat} {st : List Value} {σ : am_I} {ρ : am_R} {g : am_J} {τ : am_T} {Q : am_Q} {x0 : Value} : AW d 63 37 [x0] (st) σ ρ g τ Q = AW d 63 38 [x0] (.int 0 :: st) σ ρ g τ Q := aw_lc m63 d63_37 rfl rfl rfl
theorem d63_38 : decode cX8_init 38 = .ok (.putfield 25, 3) := by decide +kernel
theorem s63_38 {d : Nat} {st : List Value} {σ : am_I} {ρ : am_R} {g : am_J} {τ : am_T} {Q : am_Q} {x0 : Value} {a : Nat} {v : Int32} (ht : τ.1 a = 8) : AW d 63 38 [x0] (.int v :: .ref a :: st) σ ρ g τ Q = AW d 63 41 [x0] (st) (am_u σ a 4 v) ρ g τ Q := aw_pi m63 d63_38 rfl rfl (Or.inl rfl) rfl ht
theorem d63_41 : decode cX8_init 41 = .ok (.aload_n 0, 1) := by decide +kernel
theorem s63_41 {d : Nat} {st : List Value} {σ : am_I} {ρ : am_R} {g : am_J} {τ : am_T} {Q : am_Q} {v : Nat} : AW d 63 41 [.ref v] (st) σ ρ g τ Q = AW d 63 42 [.ref v] (.ref v :: st) σ ρ g τ Q := aw_lc m63 d63_41 rfl rfl rfl
theorem s63_41n {d : Nat} {st : List Value} {σ : am_I} {ρ : am_R} {g : am_J} {τ : am_T} {Q : am_Q} : AW d 63 41 [.null] (st) σ ρ g τ Q = AW d 63 42 [.null] (.null :: st) σ ρ g τ Q := aw_lc m63 d63_41 rfl rfl rfl
theorem d63_42 : decode cX8_init 42 = .ok (.iconst 0, 1) := by decide +kernel
theorem s63_42 {d : Nat} {st : List Value} {σ : am_I} {ρ : am_R} {g : am_J} {τ : am_T} {Q : am_Q} {x0 : Value} : AW d 63 42 [x0] (st) σ ρ g τ Q = AW d 63 43 [x0] (.int 0 :: st) σ ρ g τ Q := aw_lc m63 d63_42 rfl rfl rfl
theorem d63_43 : decode cX8_init 43 = .ok (.putfield 29, 3) := by decide +kernel
theorem s63_43 {d : Nat} {st : List Value} {σ : am_I} {ρ : am_R} {g : am_J} {τ : am_T} {Q : am_Q} {x0 : Value} {a : Nat} {v : Int32} (ht : τ.1 a = 8) : AW d 63 43 [x0] (.int v :: .ref a :: st) σ ρ g τ Q = AW d 63 46 [x0] (st) (am_u σ a 5 v) ρ g τ Q := aw_pi m63 d63_43 rfl rfl (Or.inl rfl) rfl ht
theorem d63_46 : decode cX8_init 46 = .ok (.return_, 1) := by decide +kernel
theorem s63_46 {d : Nat} {σ : am_I} {ρ : am_R} {g : am_J} {τ : am_T} {Q : am_Q} {x0 : Value} : AW d 63 46 [x0] ([]) σ ρ g τ Q = Q none σ ρ g τ := aw_rv m63 d63_46 rfl
theorem d64_0 : decode cX8_tellWants 0 = .ok (.aload_n 1, 1) := by decide +kernel
theorem s64_0 {d : Nat} {st : List Value} {σ : am_I} {ρ : am_R} {g : am_J} {τ : am_T} {Q : am_Q} {x0 x2 x3 x4 x5 x6 : Value} {v : Nat} : AW d 64 0 [x0, .ref v, x2, x3, x4, x5, x6] (st) σ ρ g τ Q = AW d 64 1 [x0, .ref v, x2, x3, x4, x5, x6] (.ref v :: st) σ ρ g τ Q := aw_lc m64 d64_0 rfl rfl rfl
theorem d64_1 : decode cX8_tellWants 1 = .ok (.iload_n 3, 1) := by decide +kernel
theorem s64_1 {d : Nat} {st : List Value} {σ : am_I} {ρ : am_R} {g : am_J} {τ : am_T} {Q : am_Q} {x0 x1 x2 x4 x5 x6 : Value} {v : Int32} : AW d 64 1 [x0, x1, x2, .int v, x4, x5, x6] (st) σ ρ g τ Q = AW d 64 2 [x0, x1, x2, .int v, x4, x5, x6] (.int v :: st) σ ρ g τ Q := aw_lc m64 d64_1 rfl rfl rfl
theorem d64_2 : decode cX8_tellWants 2 = .ok (.invokevirtual 32, 3) := by decide +kernel
theorem s64_2 {d : Nat} {st : List Value} {σ : am_I} {ρ : am_R} {g : am_J} {τ : am_T} {Q : am_Q} {x0 x1 x2 x3 x4 x5 x6 : Value} {p0 : Nat} {p1 : Int32} (ht : τ.1 p0 = 3) (hs : st.length ≤ 4) : AW (d + 1) 64 2 [x0, x1, x2, x3, x4, x5, x6] (.int p1 :: .ref p0 :: st) σ ρ g τ Q = AW d 26 0 [.ref p0, .int p1, am_jk] [] σ ρ g τ (fun r9 σ ρ g τ => AW (d + 1) 64 5 [x0, x1, x2, x3, x4, x5, x6] (r9.toList ++ st) σ ρ g τ Q) := aw_cv m64 d64_2 rfl m26 rfl rfl (by decide) en26 ok26 rfl ht hs
theorem d64_5 : decode cX8_tellWants 5 = .ok (.astore 4, 2) := by decide +kernel
theorem s64_5 {d : Nat} {st : List Value} {σ : am_I} {ρ : am_R} {g : am_J} {τ : am_T} {Q : am_Q} {x0 x1 x2 x4 x5 x6 : Value} {v : Nat} {u : Int32} : AW d 64 5 [x0, x1, x2, .int u, x4, x5, x6] (.ref v :: st) σ ρ g τ Q = AW d 64 7 [x0, x1, x2, .int u, .ref v, x5, x6] (st) σ ρ g τ Q := aw_lc m64 d64_5 rfl rfl rfl
theorem d64_7 : decode cX8_tellWants 7 = .ok (.aload_n 0, 1) := by decide +kernel
theorem s64_7 {d : Nat} {st : List Value} {σ : am_I} {ρ : am_R} {g : am_J} {τ : am_T} {Q : am_Q} {x1 x2 x3 x4 x5 x6 : Value} {v : Nat} : AW d 64 7 [.ref v, x1, x2, x3, x4, x5, x6] (st) σ ρ g τ Q = AW d 64 8 [.ref v, x1, x2, x3, x4, x5, x6] (.ref v :: st) σ ρ g τ Q := aw_lc m64 d64_7 rfl rfl rfl
theorem d64_8 : decode cX8_tellWants 8 = .ok (.aload 4, 2) := by decide +kernel
theorem s64_8 {d : Nat} {st : List Value} {σ : am_I} {ρ : am_R} {g : am_J} {τ : am_T} {Q : am_Q} {x0 x1 x2 x3 x5 x6 : Value} {v : Nat} : AW d 64 8 [x0, x1, x2, x3, .ref v, x5, x6] (st) σ ρ g τ Q = AW d 64 10 [x0, x1, x2, x3, .ref v, x5, x6] (.ref v :: st) σ ρ g τ Q := aw_lc m64 d64_8 rfl rfl rfl
theorem d64_10 : decode cX8_tellWants 10 = .ok (.iconst 4, 1) := by decide +kernel
theorem s64_10 {d : Nat} {st : List Value} {σ : am_I} {ρ : am_R} {g : am_J} {τ : am_T} {Q : am_Q} {x0 x1 x2 x3 x4 x5 x6 : Value} : AW d 64 10 [x0, x1, x2, x3, x4, x5, x6] (st) σ ρ g τ Q = AW d 64 11 [x0, x1, x2, x3, x4, x5, x6] (.int 4 :: st) σ ρ g τ Q := aw_lc m64 d64_10 rfl rfl rfl
theorem d64_11 : decode cX8_tellWants 11 = .ok (.bipush (-9), 2) := by decide +kernel
theorem s64_11 {d : Nat} {st : List Value} {σ : am_I} {ρ : am_R} {g : am_J} {τ : am_T} {Q : am_Q} {x0 x1 x2 x3 x4 x5 x6 : Value} : AW d 64 11 [x0, x1, x2, x3, x4, x5, x6] (st) σ ρ g τ Q = AW d 64 13 [x0, x1, x2, x3, x4, x5, x6] (.int (-9) :: st) σ ρ g τ Q := aw_lc m64 d64_11 rfl rfl rfl
theorem d64_13 : decode cX8_tellWants 13 = .ok (.invokevirtual 38, 3) := by decide +kernel
theorem s64_13 {d : Nat} {st : List Value} {σ : am_I} {ρ : am_R} {g : am_J} {τ : am_T} {Q : am_Q} {x0 x1 x2 x3 x4 x5 x6 : Value} {p0 : Nat} {p1 : Int32} {p2 : Int32} (ht : τ.1 p0 = 9) (hs : st.length ≤ 4) : AW (d + 1) 64 13 [x0, x1, x2, x3, x4, x5, x6] (.int p2 :: .int p1 :: .ref p0 :: st) σ ρ g τ Q = AW d 75 0 [.ref p0, .int p1, .int p2, am_jk] [] σ ρ g τ (fun r9 σ ρ g τ => AW (d + 1) 64 16 [x0, x1, x2, x3, x4, x5, x6] (r9.toList ++ st) σ ρ g τ Q) := aw_cv m64 d64_13 rfl m75 rfl rfl (by decide) en75 ok75 rfl ht hs
theorem d64_16 : decode cX8_tellWants 16 = .ok (.putfield 25, 3) := by decide +kernel
theorem s64_16 {d : Nat} {st : List Value} {σ : am_I} {ρ : am_R} {g : am_J} {τ : am_T} {Q : am_Q} {x0 x1 x2 x3 x4 x5 x6 : Value} {a : Nat} {v : Int32} (ht : τ.1 a = 8) : AW d 64 16 [x0, x1, x2, x3, x4, x5, x6] (.int v :: .ref a :: st) σ ρ g τ Q = AW d 64 19 [x0, x1, x2, x3, x4, x5, x6] (st) (am_u σ a 4 v) ρ g τ Q := aw_pi m64 d64_16 rfl rfl (Or.inl rfl) rfl ht
theorem d64_19 : decode cX8_tellWants 19 = .ok (.iconst 0, 1) := by decide +kernel
theorem s64_19 {d : Nat} {st : List Value} {σ : am_I} {ρ : am_R} {g : am_J} {τ : am_T} {Q : am_Q} {x0 x1 x2 x3 x4 x5 x6 : Value} : AW d 64 19 [x0, x1, x2, x3, x4, x5, x6] (st) σ ρ g τ Q = AW d 64 20 [x0, x1, x2, x3, x4, x5, x6] (.int 0 :: st) σ ρ g τ Q := aw_lc m64 d64_19 rfl rfl rfl
theorem d64_20 : decode cX8_tellWants 20 = .ok (.istore 5, 2) := by decide +kernel
theorem s64_20r {d : Nat} {st : List Value} {σ : am_I} {ρ : am_R} {g : am_J} {τ : am_T} {Q : am_Q} {x0 x1 x2 x3 x5 x6 : Value} {v : Int32} {u : Nat} : AW d 64 20 [x0, x1, x2, x3, .ref u, x5, x6] (.int v :: st) σ ρ g τ Q = AW d 64 22 [x0, x1, x2, x3, .ref u, .int v, x6] (st) σ ρ g τ Q := aw_lc m64 d64_20 rfl rfl rfl
theorem d64_22 : decode cX8_tellWants 22 = .ok (.iload 5, 2) := by decide +kernel
theorem s64_22 {d : Nat} {st : List Value} {σ : am_I} {ρ : am_R} {g : am_J} {τ : am_T} {Q : am_Q} {x0 x1 x2 x3 x4 x6 : Value} {v : Int32} : AW d 64 22 [x0, x1, x2, x3, x4, .int v, x6] (st) σ ρ g τ Q = AW d 64 24 [x0, x1, x2, x3, x4, .int v, x6] (.int v :: st) σ ρ g τ Q := aw_lc m64 d64_22 rfl rfl rfl
theorem d64_24 : decode cX8_tellWants 24 = .ok (.bipush 16, 2) := by decide +kernel
theorem s64_24 {d : Nat} {st : List Value} {σ : am_I} {ρ : am_R} {g : am_J} {τ : am_T} {Q : am_Q} {x0 x1 x2 x3 x4 x5 x6 : Value} : AW d 64 24 [x0, x1, x2, x3, x4, x5, x6] (st) σ ρ g τ Q = AW d 64 26 [x0, x1, x2, x3, x4, x5, x6] (.int 16 :: st) σ ρ g τ Q := aw_lc m64 d64_24 rfl rfl rfl
theorem d64_26 : decode cX8_tellWants 26 = .ok (.if_icmp .ge 139, 3) := by decide +kernel
theorem s64_26 {d : Nat} {st : List Value} {σ : am_I} {ρ : am_R} {g : am_J} {τ : am_T} {Q : am_Q} {x0 x1 x2 x3 x4 x5 x6 : Value} {v w : Int32} : AW d 64 26 [x0, x1, x2, x3, x4, x5, x6] (.int w :: .int v :: st) σ ρ g τ Q = if w ≤ v then AW d 64 165 [x0, x1, x2, x3, x4, x5, x6] (st) σ ρ g τ Q else AW d 64 29 [x0, x1, x2, x3, x4, x5, x6] (st) σ ρ g τ Q := aw_br m64 d64_26 rfl rfl rfl
theorem d64_29 : decode cX8_tellWants 29 = .ok (.aload_n 1, 1) := by decide +kernel
theorem s64_29 {d : Nat} {st : List Value} {σ : am_I} {ρ : am_R} {g : am_J} {τ : am_T} {Q : am_Q} {x0 x2 x3 x4 x5 x6 : Value} {v : Nat} : AW d 64 29 [x0, .ref v, x2, x3, x4, x5, x6] (st) σ ρ g τ Q = AW d 64 30 [x0, .ref v, x2, x3, x4, x5, x6] (.ref v :: st) σ ρ g τ Q := aw_lc m64 d64_29 rfl rfl rfl
theorem d64_30 : decode cX8_tellWants 30 = .ok (.getfield 44, 3) := by decide +kernel
theorem s64_30 {d : Nat} {st : List Value} {σ : am_I} {ρ : am_R} {g : am_J} {τ : am_T} {Q : am_Q} {x0 x1 x2 x3 x4 x5 x6 : Value} {a : Nat} (ht : τ.1 a = 3) : AW d 64 30 [x0, x1, x2, x3, x4, x5, x6] (.ref a :: st) σ ρ g τ Q = AW d 64 33 [x0, x1, x2, x3, x4, x5, x6] (va_rf (ρ a 7) :: st) σ ρ g τ Q := aw_gr m64 d64_30 rfl rfl rfl ht
theorem d64_33 : decode cX8_tellWants 33 = .ok (.iload 5, 2) := by decide +kernel
theorem s64_33 {d : Nat} {st : List Value} {σ : am_I} {ρ : am_R} {g : am_J} {τ : am_T} {Q : am_Q} {x0 x1 x2 x3 x4 x6 : Value} {v : Int32} : AW d 64 33 [x0, x1, x2, x3, x4, .int v, x6] (st) σ ρ g τ Q = AW d 64 35 [x0, x1, x2, x3, x4, .int v, x6] (.int v :: st) σ ρ g τ Q := aw_lc m64 d64_33 rfl rfl rfl
theorem d64_35 : decode cX8_tellWants 35 = .ok (.aaload, 1) := by decide +kernel
theorem s64_35 {d : Nat} {st : List Value} {σ : am_I} {ρ : am_R} {g : am_J} {τ : am_T} {Q : am_Q} {x0 x1 x2 x3 x4 x5 x6 : Value} {a : Nat} {j : Int32} (ht : 18 ≤ τ.1 a ∧ τ.1 a ≤ 22) (hj : am_inb j (τ.2.1 a) = true) : AW d 64 35 [x0, x1, x2, x3, x4, x5, x6] (.int j :: .ref a :: st) σ ρ g τ Q = AW d 64 36 [x0, x1, x2, x3, x4, x5, x6] (va_rf (ρ a j.toNatClampNeg) :: st) σ ρ g τ Q := aw_aal m64 d64_35 rfl ht hj
theorem d64_36 : decode cX8_tellWants 36 = .ok (.astore 6, 2) := by decide +kernel
theorem s64_36 {d : Nat} {st : List Value} {σ : am_I} {ρ : am_R} {g : am_J} {τ : am_T} {Q : am_Q} {x0 x1 x2 x3 x4 x6 : Value} {v : Nat} {u : Int32} : AW d 64 36 [x0, x1, x2, x3, x4, .int u, x6] (.ref v :: st) σ ρ g τ Q = AW d 64 38 [x0, x1, x2, x3, x4, .int u, .ref v] (st) σ ρ g τ Q := aw_lc m64 d64_36 rfl rfl rfl
theorem d64_38 : decode cX8_tellWants 38 = .ok (.aload_n 0, 1) := by decide +kernel
theorem s64_38 {d : Nat} {st : List Value} {σ : am_I} {ρ : am_R} {g : am_J} {τ : am_T} {Q : am_Q} {x1 x2 x3 x4 x5 x6 : Value} {v : Nat} : AW d 64 38 [.ref v, x1, x2, x3, x4, x5, x6] (st) σ ρ g τ Q = AW d 64 39 [.ref v, x1, x2, x3, x4, x5, x6] (.ref v :: st) σ ρ g τ Q := aw_lc m64 d64_38 rfl rfl rfl
theorem d64_39 : decode cX8_tellWants 39 = .ok (.getfield 9, 3) := by decide +kernel
theorem s64_39 {d : Nat} {st : List Value} {σ : am_I} {ρ : am_R} {g : am_J} {τ : am_T} {Q : am_Q} {x0 x1 x2 x3 x4 x5 x6 : Value} {a : Nat} (ht : τ.1 a = 8) : AW d 64 39 [x0, x1, x2, x3, x4, x5, x6] (.ref a :: st) σ ρ g τ Q = AW d 64 42 [x0, x1, x2, x3, x4, x5, x6] (va_rf (ρ a 0) :: st) σ ρ g τ Q := aw_gr m64 d64_39 rfl rfl rfl ht
theorem d64_42 : decode cX8_tellWants 42 = .ok (.iload 5, 2) := by decide +kernel
theorem s64_42 {d : Nat} {st : List Value} {σ : am_I} {ρ : am_R} {g : am_J} {τ : am_T} {Q : am_Q} {x0 x1 x2 x3 x4 x6 : Value} {v : Int32} : AW d 64 42 [x0, x1, x2, x3, x4, .int v, x6] (st) σ ρ g τ Q = AW d 64 44 [x0, x1, x2, x3, x4, .int v, x6] (.int v :: st) σ ρ g τ Q := aw_lc m64 d64_42 rfl rfl rfl
theorem d64_44 : decode cX8_tellWants 44 = .ok (.aload_n 1, 1) := by decide +kernel
theorem s64_44 {d : Nat} {st : List Value} {σ : am_I} {ρ : am_R} {g : am_J} {τ : am_T} {Q : am_Q} {x0 x2 x3 x4 x5 x6 : Value} {v : Nat} : AW d 64 44 [x0, .ref v, x2, x3, x4, x5, x6] (st) σ ρ g τ Q = AW d 64 45 [x0, .ref v, x2, x3, x4, x5, x6] (.ref v :: st) σ ρ g τ Q := aw_lc m64 d64_44 rfl rfl rfl
theorem d64_45 : decode cX8_tellWants 45 = .ok (.iload 5, 2) := by decide +kernel
theorem s64_45 {d : Nat} {st : List Value} {σ : am_I} {ρ : am_R} {g : am_J} {τ : am_T} {Q : am_Q} {x0 x1 x2 x3 x4 x6 : Value} {v : Int32} : AW d 64 45 [x0, x1, x2, x3, x4, .int v, x6] (st) σ ρ g τ Q = AW d 64 47 [x0, x1, x2, x3, x4, .int v, x6] (.int v :: st) σ ρ g τ Q := aw_lc m64 d64_45 rfl rfl rfl
theorem d64_47 : decode cX8_tellWants 47 = .ok (.invokevirtual 48, 3) := by decide +kernel
theorem s64_47 {d : Nat} {st : List Value} {σ : am_I} {ρ : am_R} {g : am_J} {τ : am_T} {Q : am_Q} {x0 x1 x2 x3 x4 x5 x6 : Value} {p0 : Nat} {p1 : Int32} (ht : τ.1 p0 = 3) (hs : st.length ≤ 4) : AW (d + 1) 64 47 [x0, x1, x2, x3, x4, x5, x6] (.int p1 :: .ref p0 :: st) σ ρ g τ Q = AW d 24 0 [.ref p0, .int p1] [] σ ρ g τ (fun r9 σ ρ g τ => AW (d + 1) 64 50 [x0, x1, x2, x3, x4, x5, x6] (r9.toList ++ st) σ ρ g τ Q) := aw_cv m64 d64_47 rfl m24 rfl rfl (by decide) en24 ok24 rfl ht hs
theorem d64_50 : decode cX8_tellWants 50 = .ok (.ifCond .eq 35, 3) := by decide +kernel
theorem s64_50 {d : Nat} {st : List Value} {σ : am_I} {ρ : am_R} {g : am_J} {τ : am_T} {Q : am_Q} {x0 x1 x2 x3 x4 x5 x6 : Value} {v : Int32} : AW d 64 50 [x0, x1, x2, x3, x4, x5, x6] (.int v :: st) σ ρ g τ Q = if v = 0 then AW d 64 85 [x0, x1, x2, x3, x4, x5, x6] (st) σ ρ g τ Q else AW d 64 53 [x0, x1, x2, x3, x4, x5, x6] (st) σ ρ g τ Q := aw_br m64 d64_50 rfl rfl rfl
theorem d64_53 : decode cX8_tellWants 53 = .ok (.aload 6, 2) := by decide +kernel
theorem s64_53 {d : Nat} {st : List Value} {σ : am_I} {ρ : am_R} {g : am_J} {τ : am_T} {Q : am_Q} {x0 x1 x2 x3 x4 x5 : Value} {v : Nat} : AW d 64 53 [x0, x1, x2, x3, x4, x5, .ref v] (st) σ ρ g τ Q = AW d 64 55 [x0, x1, x2, x3, x4, x5, .ref v] (.ref v :: st) σ ρ g τ Q := aw_lc m64 d64_53 rfl rfl rfl
theorem d64_55 : decode cX8_tellWants 55 = .ok (.getfield 52, 3) := by decide +kernel
theorem s64_55 {d : Nat} {st : List Value} {σ : am_I} {ρ : am_R} {g : am_J} {τ : am_T} {Q : am_Q} {x0 x1 x2 x3 x4 x5 x6 : Value} {a : Nat} (ht : τ.1 a = 1) : AW d 64 55 [x0, x1, x2, x3, x4, x5, x6] (.ref a :: st) σ ρ g τ Q = AW d 64 58 [x0, x1, x2, x3, x4, x5, x6] (.int (σ a 2) :: st) σ ρ g τ Q := aw_gi m64 d64_55 rfl rfl rfl ht
theorem d64_58 : decode cX8_tellWants 58 = .ok (.iload_n 2, 1) := by decide +kernel
theorem s64_58 {d : Nat} {st : List Value} {σ : am_I} {ρ : am_R} {g : am_J} {τ : am_T} {Q : am_Q} {x0 x1 x3 x4 x5 x6 : Value} {v : Int32} : AW d 64 58 [x0, x1, .int v, x3, x4, x5, x6] (st) σ ρ g τ Q = AW d 64 59 [x0, x1, .int v, x3, x4, x5, x6] (.int v :: st) σ ρ g τ Q := aw_lc m64 d64_58 rfl rfl rfl
theorem d64_59 : decode cX8_tellWants 59 = .ok (.if_icmp .ne 26, 3) := by decide +kernel
theorem s64_59 {d : Nat} {st : List Value} {σ : am_I} {ρ : am_R} {g : am_J} {τ : am_T} {Q : am_Q} {x0 x1 x2 x3 x4 x5 x6 : Value} {v w : Int32} : AW d 64 59 [x0, x1, x2, x3, x4, x5, x6] (.int w :: .int v :: st) σ ρ g τ Q = if ¬ v = w then AW d 64 85 [x0, x1, x2, x3, x4, x5, x6] (st) σ ρ g τ Q else AW d 64 62 [x0, x1, x2, x3, x4, x5, x6] (st) σ ρ g τ Q := aw_br m64 d64_59 rfl rfl rfl
theorem d64_62 : decode cX8_tellWants 62 = .ok (.aload 6, 2) := by decide +kernel
theorem s64_62 {d : Nat} {st : List Value} {σ : am_I} {ρ : am_R} {g : am_J} {τ : am_T} {Q : am_Q} {x0 x1 x2 x3 x4 x5 : Value} {v : Nat} : AW d 64 62 [x0, x1, x2, x3, x4, x5, .ref v] (st) σ ρ g τ Q = AW d 64 64 [x0, x1, x2, x3, x4, x5, .ref v] (.ref v :: st) σ ρ g τ Q := aw_lc m64 d64_62 rfl rfl rfl
theorem d64_64 : decode cX8_tellWants 64 = .ok (.getfield 57, 3) := by decide +kernel
theorem s64_64 {d : Nat} {st : List Value} {σ : am_I} {ρ : am_R} {g : am_J} {τ : am_T} {Q : am_Q} {x0 x1 x2 x3 x4 x5 x6 : Value} {a : Nat} (ht : τ.1 a = 1) : AW d 64 64 [x0, x1, x2, x3, x4, x5, x6] (.ref a :: st) σ ρ g τ Q = AW d 64 67 [x0, x1, x2, x3, x4, x5, x6] (.int (σ a 8) :: st) σ ρ g τ Q := aw_gi m64 d64_64 rfl rfl rfl ht
theorem d64_67 : decode cX8_tellWants 67 = .ok (.ifCond .ne 18, 3) := by decide +kernel
theorem s64_67 {d : Nat} {st : List Value} {σ : am_I} {ρ : am_R} {g : am_J} {τ : am_T} {Q : am_Q} {x0 x1 x2 x3 x4 x5 x6 : Value} {v : Int32} : AW d 64 67 [x0, x1, x2, x3, x4, x5, x6] (.int v :: st) σ ρ g τ Q = if ¬ v = 0 then AW d 64 85 [x0, x1, x2, x3, x4, x5, x6] (st) σ ρ g τ Q else AW d 64 70 [x0, x1, x2, x3, x4, x5, x6] (st) σ ρ g τ Q := aw_br m64 d64_67 rfl rfl rfl
theorem d64_70 : decode cX8_tellWants 70 = .ok (.aload 4, 2) := by decide +kernel
theorem s64_70 {d : Nat} {st : List Value} {σ : am_I} {ρ : am_R} {g : am_J} {τ : am_T} {Q : am_Q} {x0 x1 x2 x3 x5 x6 : Value} {v : Nat} : AW d 64 70 [x0, x1, x2, x3, .ref v, x5, x6] (st) σ ρ g τ Q = AW d 64 72 [x0, x1, x2, x3, .ref v, x5, x6] (.ref v :: st) σ ρ g τ Q := aw_lc m64 d64_70 rfl rfl rfl
theorem d64_72 : decode cX8_tellWants 72 = .ok (.aload 6, 2) := by decide +kernel
theorem s64_72 {d : Nat} {st : List Value} {σ : am_I} {ρ : am_R} {g : am_J} {τ : am_T} {Q : am_Q} {x0 x1 x2 x3 x4 x5 : Value} {v : Nat} : AW d 64 72 [x0, x1, x2, x3, x4, x5, .ref v] (st) σ ρ g τ Q = AW d 64 74 [x0, x1, x2, x3, x4, x5, .ref v] (.ref v :: st) σ ρ g τ Q := aw_lc m64 d64_72 rfl rfl rfl
theorem d64_74 : decode cX8_tellWants 74 = .ok (.iload_n 3, 1) := by decide +kernel
theorem s64_74 {d : Nat} {st : List Value} {σ : am_I} {ρ : am_R} {g : am_J} {τ : am_T} {Q : am_Q} {x0 x1 x2 x4 x5 x6 : Value} {v : Int32} : AW d 64 74 [x0, x1, x2, .int v, x4, x5, x6] (st) σ ρ g τ Q = AW d 64 75 [x0, x1, x2, .int v, x4, x5, x6] (.int v :: st) σ ρ g τ Q := aw_lc m64 d64_74 rfl rfl rfl
theorem d64_75 : decode cX8_tellWants 75 = .ok (.invokevirtual 61, 3) := by decide +kernel
theorem s64_75 {d : Nat} {st : List Value} {σ : am_I} {ρ : am_R} {g : am_J} {τ : am_T} {Q : am_Q} {x0 x1 x2 x3 x4 x5 x6 : Value} {p0 : Nat} {p1 : Nat} {p2 : Int32} (ht : τ.1 p0 = 9) (hs : st.length ≤ 4) : AW (d + 1) 64 75 [x0, x1, x2, x3, x4, x5, x6] (.int p2 :: .ref p1 :: .ref p0 :: st) σ ρ g τ Q = AW d 72 0 [.ref p0, .ref p1, .int p2] [] σ ρ g τ (fun r9 σ ρ g τ => AW (d + 1) 64 78 [x0, x1, x2, x3, x4, x5, x6] (r9.toList ++ st) σ ρ g τ Q) := aw_cv m64 d64_75 rfl m72 rfl rfl (by decide) en72 ok72 rfl ht hs
theorem d64_78 : decode cX8_tellWants 78 = .ok (.ifCond .ne 7, 3) := by decide +kernel
theorem s64_78 {d : Nat} {st : List Value} {σ : am_I} {ρ : am_R} {g : am_J} {τ : am_T} {Q : am_Q} {x0 x1 x2 x3 x4 x5 x6 : Value} {v : Int32} : AW d 64 78 [x0, x1, x2, x3, x4, x5, x6] (.int v :: st) σ ρ g τ Q = if ¬ v = 0 then AW d 64 85 [x0, x1, x2, x3, x4, x5, x6] (st) σ ρ g τ Q else AW d 64 81 [x0, x1, x2, x3, x4, x5, x6] (st) σ ρ g τ Q := aw_br m64 d64_78 rfl rfl rfl
theorem d64_81 : decode cX8_tellWants 81 = .ok (.iconst 1, 1) := by decide +kernel
theorem s64_81 {d : Nat} {st : List Value} {σ : am_I} {ρ : am_R} {g : am_J} {τ : am_T} {Q : am_Q} {x0 x1 x2 x3 x4 x5 x6 : Value} : AW d 64 81 [x0, x1, x2, x3, x4, x5, x6] (st) σ ρ g τ Q = AW d 64 82 [x0, x1, x2, x3, x4, x5, x6] (.int 1 :: st) σ ρ g τ Q := aw_lc m64 d64_81 rfl rfl rfl
theorem d64_82 : decode cX8_tellWants 82 = .ok (.goto 4, 3) := by decide +kernel
theorem s64_82 {d : Nat} {st : List Value} {σ : am_I} {ρ : am_R} {g : am_J} {τ : am_T} {Q : am_Q} {x0 x1 x2 x3 x4 x5 x6 : Value} : AW d 64 82 [x0, x1, x2, x3, x4, x5, x6] (st) σ ρ g τ Q = AW d 64 86 [x0, x1, x2, x3, x4, x5, x6] (st) σ ρ g τ Q := aw_lc m64 d64_82 rfl rfl rfl
theorem d64_85 : decode cX8_tellWants 85 = .ok (.iconst 0, 1) := by decide +kernel
theorem s64_85 {d : Nat} {st : List Value} {σ : am_I} {ρ : am_R} {g : am_J} {τ : am_T} {Q : am_Q} {x0 x1 x2 x3 x4 x5 x6 : Value} : AW d 64 85 [x0, x1, x2, x3, x4, x5, x6] (st) σ ρ g τ Q = AW d 64 86 [x0, x1, x2, x3, x4, x5, x6] (.int 0 :: st) σ ρ g τ Q := aw_lc m64 d64_85 rfl rfl rfl
theorem d64_86 : decode cX8_tellWants 86 = .ok (.bastore, 1) := by decide +kernel
theorem s64_86 {d : Nat} {st : List Value} {σ : am_I} {ρ : am_R} {g : am_J} {τ : am_T} {Q : am_Q} {x0 x1 x2 x3 x4 x5 x6 : Value} {a : Nat} {j v : Int32} (ht : τ.1 a = 17) (ha : a < am_BG) (hj : am_inb j (τ.2.1 a) = true) (hv : am_b01 v = true) : AW d 64 86 [x0, x1, x2, x3, x4, x5, x6] (.int v :: .int j :: .ref a :: st) σ ρ g τ Q = AW d 64 87 [x0, x1, x2, x3, x4, x5, x6] (st) (am_u σ a j.toNatClampNeg v) ρ g τ Q := aw_zas m64 d64_86 rfl ht ha hj hv
theorem d64_87 : decode cX8_tellWants 87 = .ok (.aload_n 0, 1) := by decide +kernel
theorem s64_87 {d : Nat} {st : List Value} {σ : am_I} {ρ : am_R} {g : am_J} {τ : am_T} {Q : am_Q} {x1 x2 x3 x4 x5 x6 : Value} {v : Nat} : AW d 64 87 [.ref v, x1, x2, x3, x4, x5, x6] (st) σ ρ g τ Q = AW d 64 88 [.ref v, x1, x2, x3, x4, x5, x6] (.ref v :: st) σ ρ g τ Q := aw_lc m64 d64_87 rfl rfl rfl
theorem d64_88 : decode cX8_tellWants 88 = .ok (.getfield 15, 3) := by decide +kernel
theorem s64_88 {d : Nat} {st : List Value} {σ : am_I} {ρ : am_R} {g : am_J} {τ : am_T} {Q : am_Q} {x0 x1 x2 x3 x4 x5 x6 : Value} {a : Nat} (ht : τ.1 a = 8) : AW d 64 88 [x0, x1, x2, x3, x4, x5, x6] (.ref a :: st) σ ρ g τ Q = AW d 64 91 [x0, x1, x2, x3, x4, x5, x6] (va_rf (ρ a 1) :: st) σ ρ g τ Q := aw_gr m64 d64_88 rfl rfl rfl ht
theorem d64_91 : decode cX8_tellWants 91 = .ok (.iload 5, 2) := by decide +kernel
theorem s64_91 {d : Nat} {st : List Value} {σ : am_I} {ρ : am_R} {g : am_J} {τ : am_T} {Q : am_Q} {x0 x1 x2 x3 x4 x6 : Value} {v : Int32} : AW d 64 91 [x0, x1, x2, x3, x4, .int v, x6] (st) σ ρ g τ Q = AW d 64 93 [x0, x1, x2, x3, x4, .int v, x6] (.int v :: st) σ ρ g τ Q := aw_lc m64 d64_91 rfl rfl rfl
theorem d64_93 : decode cX8_tellWants 93 = .ok (.aload_n 0, 1) := by decide +kernel
theorem s64_93 {d : Nat} {st : List Value} {σ : am_I} {ρ : am_R} {g : am_J} {τ : am_T} {Q : am_Q} {x1 x2 x3 x4 x5 x6 : Value} {v : Nat} : AW d 64 93 [.ref v, x1, x2, x3, x4, x5, x6] (st) σ ρ g τ Q = AW d 64 94 [.ref v, x1, x2, x3, x4, x5, x6] (.ref v :: st) σ ρ g τ Q := aw_lc m64 d64_93 rfl rfl rfl
theorem d64_94 : decode cX8_tellWants 94 = .ok (.getfield 9, 3) := by decide +kernel
theorem s64_94 {d : Nat} {st : List Value} {σ : am_I} {ρ : am_R} {g : am_J} {τ : am_T} {Q : am_Q} {x0 x1 x2 x3 x4 x5 x6 : Value} {a : Nat} (ht : τ.1 a = 8) : AW d 64 94 [x0, x1, x2, x3, x4, x5, x6] (.ref a :: st) σ ρ g τ Q = AW d 64 97 [x0, x1, x2, x3, x4, x5, x6] (va_rf (ρ a 0) :: st) σ ρ g τ Q := aw_gr m64 d64_94 rfl rfl rfl ht
theorem d64_97 : decode cX8_tellWants 97 = .ok (.iload 5, 2) := by decide +kernel
theorem s64_97 {d : Nat} {st : List Value} {σ : am_I} {ρ : am_R} {g : am_J} {τ : am_T} {Q : am_Q} {x0 x1 x2 x3 x4 x6 : Value} {v : Int32} : AW d 64 97 [x0, x1, x2, x3, x4, .int v, x6] (st) σ ρ g τ Q = AW d 64 99 [x0, x1, x2, x3, x4, .int v, x6] (.int v :: st) σ ρ g τ Q := aw_lc m64 d64_97 rfl rfl rfl
theorem d64_99 : decode cX8_tellWants 99 = .ok (.baload, 1) := by decide +kernel
theorem s64_99 {d : Nat} {st : List Value} {σ : am_I} {ρ : am_R} {g : am_J} {τ : am_T} {Q : am_Q} {x0 x1 x2 x3 x4 x5 x6 : Value} {a : Nat} {j : Int32} (ht : τ.1 a = 14 ∨ τ.1 a = 17) (hj : am_inb j (τ.2.1 a) = true) : AW d 64 99 [x0, x1, x2, x3, x4, x5, x6] (.int j :: .ref a :: st) σ ρ g τ Q = AW d 64 100 [x0, x1, x2, x3, x4, x5, x6] (.int (σ a j.toNatClampNeg) :: st) σ ρ g τ Q := aw_bal m64 d64_99 rfl ht hj
theorem d64_100 : decode cX8_tellWants 100 = .ok (.ifCond .eq 14, 3) := by decide +kernel
theorem s64_100 {d : Nat} {st : List Value} {σ : am_I} {ρ : am_R} {g : am_J} {τ : am_T} {Q : am_Q} {x0 x1 x2 x3 x4 x5 x6 : Value} {v : Int32} : AW d 64 100 [x0, x1, x2, x3, x4, x5, x6] (.int v :: st) σ ρ g τ Q = if v = 0 then AW d 64 114 [x0, x1, x2, x3, x4, x5, x6] (st) σ ρ g τ Q else AW d 64 103 [x0, x1, x2, x3, x4, x5, x6] (st) σ ρ g τ Q := aw_br m64 d64_100 rfl rfl rfl
theorem d64_103 : decode cX8_tellWants 103 = .ok (.aload 4, 2) := by decide +kernel
theorem s64_103 {d : Nat} {st : List Value} {σ : am_I} {ρ : am_R} {g : am_J} {τ : am_T} {Q : am_Q} {x0 x1 x2 x3 x5 x6 : Value} {v : Nat} : AW d 64 103 [x0, x1, x2, x3, .ref v, x5, x6] (st) σ ρ g τ Q = AW d 64 105 [x0, x1, x2, x3, .ref v, x5, x6] (.ref v :: st) σ ρ g τ Q := aw_lc m64 d64_103 rfl rfl rfl
theorem d64_105 : decode cX8_tellWants 105 = .ok (.aload 6, 2) := by decide +kernel
theorem s64_105 {d : Nat} {st : List Value} {σ : am_I} {ρ : am_R} {g : am_J} {τ : am_T} {Q : am_Q} {x0 x1 x2 x3 x4 x5 : Value} {v : Nat} : AW d 64 105 [x0, x1, x2, x3, x4, x5, .ref v] (st) σ ρ g τ Q = AW d 64 107 [x0, x1, x2, x3, x4, x5, .ref v] (.ref v :: st) σ ρ g τ Q := aw_lc m64 d64_105 rfl rfl rfl
theorem d64_107 : decode cX8_tellWants 107 = .ok (.iload_n 3, 1) := by decide +kernel
theorem s64_107 {d : Nat} {st : List Value} {σ : am_I} {ρ : am_R} {g : am_J} {τ : am_T} {Q : am_Q} {x0 x1 x2 x4 x5 x6 : Value} {v : Int32} : AW d 64 107 [x0, x1, x2, .int v, x4, x5, x6] (st) σ ρ g τ Q = AW d 64 108 [x0, x1, x2, .int v, x4, x5, x6] (.int v :: st) σ ρ g τ Q := aw_lc m64 d64_107 rfl rfl rfl
theorem d64_108 : decode cX8_tellWants 108 = .ok (.invokevirtual 65, 3) := by decide +kernel
theorem s64_108 {d : Nat} {st : List Value} {σ : am_I} {ρ : am_R} {g : am_J} {τ : am_T} {Q : am_Q} {x0 x1 x2 x3 x4 x5 x6 : Value} {p0 : Nat} {p1 : Nat} {p2 : Int32} (ht : τ.1 p0 = 9) (hs : st.length ≤ 4) : AW (d + 1) 64 108 [x0, x1, x2, x3, x4, x5, x6] (.int p2 :: .ref p1 :: .ref p0 :: st) σ ρ g τ Q = AW d 70 0 [.ref p0, .ref p1, .int p2, am_jk] [] σ ρ g τ (fun r9 σ ρ g τ => AW (d + 1) 64 111 [x0, x1, x2, x3, x4, x5, x6] (r9.toList ++ st) σ ρ g τ Q) := aw_cv m64 d64_108 rfl m70 rfl rfl (by decide) en70 ok70 rfl ht hs
theorem d64_111 : decode cX8_tellWants 111 = .ok (.goto 4, 3) := by decide +kernel
theorem s64_111 {d : Nat} {st : List Value} {σ : am_I} {ρ : am_R} {g : am_J} {τ : am_T} {Q : am_Q} {x0 x1 x2 x3 x4 x5 x6 : Value} : AW d 64 111 [x0, x1, x2, x3, x4, x5, x6] (st) σ ρ g τ Q = AW d 64 115 [x0, x1, x2, x3, x4, x5, x6] (st) σ ρ g τ Q := aw_lc m64 d64_111 rfl rfl rfl
theorem d64_114 : decode cX8_tellWants 114 = .ok (.iconst 0, 1) := by decide +kernel
theorem s64_114 {d : Nat} {st : List Value} {σ : am_I} {ρ : am_R} {g : am_J} {τ : am_T} {Q : am_Q} {x0 x1 x2 x3 x4 x5 x6 : Value} : AW d 64 114 [x0, x1, x2, x3, x4, x5, x6] (st) σ ρ g τ Q = AW d 64 115 [x0, x1, x2, x3, x4, x5, x6] (.int 0 :: st) σ ρ g τ Q := aw_lc m64 d64_114 rfl rfl rfl
theorem d64_115 : decode cX8_tellWants 115 = .ok (.iastore, 1) := by decide +kernel
theorem s64_115 {d : Nat} {st : List Value} {σ : am_I} {ρ : am_R} {g : am_J} {τ : am_T} {Q : am_Q} {x0 x1 x2 x3 x4 x5 x6 : Value} {a : Nat} {j v : Int32} (ht : τ.1 a = 15) (ha : a < am_BG) (hj : am_inb j (τ.2.1 a) = true) : AW d 64 115 [x0, x1, x2, x3, x4, x5, x6] (.int v :: .int j :: .ref a :: st) σ ρ g τ Q = AW d 64 116 [x0, x1, x2, x3, x4, x5, x6] (st) (am_u σ a j.toNatClampNeg v) ρ g τ Q := aw_ias m64 d64_115 rfl ht ha hj
theorem d64_116 : decode cX8_tellWants 116 = .ok (.aload_n 0, 1) := by decide +kernel
theorem s64_116 {d : Nat} {st : List Value} {σ : am_I} {ρ : am_R} {g : am_J} {τ : am_T} {Q : am_Q} {x1 x2 x3 x4 x5 x6 : Value} {v : Nat} : AW d 64 116 [.ref v, x1, x2, x3, x4, x5, x6] (st) σ ρ g τ Q = AW d 64 117 [.ref v, x1, x2, x3, x4, x5, x6] (.ref v :: st) σ ρ g τ Q := aw_lc m64 d64_116 rfl rfl rfl
theorem d64_117 : decode cX8_tellWants 117 = .ok (.getfield 19, 3) := by decide +kernel
theorem s64_117 {d : Nat} {st : List Value} {σ : am_I} {ρ : am_R} {g : am_J} {τ : am_T} {Q : am_Q} {x0 x1 x2 x3 x4 x5 x6 : Value} {a : Nat} (ht : τ.1 a = 8) : AW d 64 117 [x0, x1, x2, x3, x4, x5, x6] (.ref a :: st) σ ρ g τ Q = AW d 64 120 [x0, x1, x2, x3, x4, x5, x6] (va_rf (ρ a 2) :: st) σ ρ g τ Q := aw_gr m64 d64_117 rfl rfl rfl ht
theorem d64_120 : decode cX8_tellWants 120 = .ok (.iload 5, 2) := by decide +kernel
theorem s64_120 {d : Nat} {st : List Value} {σ : am_I} {ρ : am_R} {g : am_J} {τ : am_T} {Q : am_Q} {x0 x1 x2 x3 x4 x6 : Value} {v : Int32} : AW d 64 120 [x0, x1, x2, x3, x4, .int v, x6] (st) σ ρ g τ Q = AW d 64 122 [x0, x1, x2, x3, x4, .int v, x6] (.int v :: st) σ ρ g τ Q := aw_lc m64 d64_120 rfl rfl rfl
theorem d64_122 : decode cX8_tellWants 122 = .ok (.aload_n 0, 1) := by decide +kernel
theorem s64_122 {d : Nat} {st : List Value} {σ : am_I} {ρ : am_R} {g : am_J} {τ : am_T} {Q : am_Q} {x1 x2 x3 x4 x5 x6 : Value} {v : Nat} : AW d 64 122 [.ref v, x1, x2, x3, x4, x5, x6] (st) σ ρ g τ Q = AW d 64 123 [.ref v, x1, x2, x3, x4, x5, x6] (.ref v :: st) σ ρ g τ Q := aw_lc m64 d64_122 rfl rfl rfl
theorem d64_123 : decode cX8_tellWants 123 = .ok (.getfield 9, 3) := by decide +kernel
theorem s64_123 {d : Nat} {st : List Value} {σ : am_I} {ρ : am_R} {g : am_J} {τ : am_T} {Q : am_Q} {x0 x1 x2 x3 x4 x5 x6 : Value} {a : Nat} (ht : τ.1 a = 8) : AW d 64 123 [x0, x1, x2, x3, x4, x5, x6] (.ref a :: st) σ ρ g τ Q = AW d 64 126 [x0, x1, x2, x3, x4, x5, x6] (va_rf (ρ a 0) :: st) σ ρ g τ Q := aw_gr m64 d64_123 rfl rfl rfl ht
theorem d64_126 : decode cX8_tellWants 126 = .ok (.iload 5, 2) := by decide +kernel
theorem s64_126 {d : Nat} {st : List Value} {σ : am_I} {ρ : am_R} {g : am_J} {τ : am_T} {Q : am_Q} {x0 x1 x2 x3 x4 x6 : Value} {v : Int32} : AW d 64 126 [x0, x1, x2, x3, x4, .int v, x6] (st) σ ρ g τ Q = AW d 64 128 [x0, x1, x2, x3, x4, .int v, x6] (.int v :: st) σ ρ g τ Q := aw_lc m64 d64_126 rfl rfl rfl
theorem d64_128 : decode cX8_tellWants 128 = .ok (.baload, 1) := by decide +kernel
theorem s64_128 {d : Nat} {st : List Value} {σ : am_I} {ρ : am_R} {g : am_J} {τ : am_T} {Q : am_Q} {x0 x1 x2 x3 x4 x5 x6 : Value} {a : Nat} {j : Int32} (ht : τ.1 a = 14 ∨ τ.1 a = 17) (hj : am_inb j (τ.2.1 a) = true) : AW d 64 128 [x0, x1, x2, x3, x4, x5, x6] (.int j :: .ref a :: st) σ ρ g τ Q = AW d 64 129 [x0, x1, x2, x3, x4, x5, x6] (.int (σ a j.toNatClampNeg) :: st) σ ρ g τ Q := aw_bal m64 d64_128 rfl ht hj
theorem d64_129 : decode cX8_tellWants 129 = .ok (.ifCond .eq 20, 3) := by decide +kernel
theorem s64_129 {d : Nat} {st : List Value} {σ : am_I} {ρ : am_R} {g : am_J} {τ : am_T} {Q : am_Q} {x0 x1 x2 x3 x4 x5 x6 : Value} {v : Int32} : AW d 64 129 [x0, x1, x2, x3, x4, x5, x6] (.int v :: st) σ ρ g τ Q = if v = 0 then AW d 64 149 [x0, x1, x2, x3, x4, x5, x6] (st) σ ρ g τ Q else AW d 64 132 [x0, x1, x2, x3, x4, x5, x6] (st) σ ρ g τ Q := aw_br m64 d64_129 rfl rfl rfl
theorem d64_132 : decode cX8_tellWants 132 = .ok (.aload 4, 2) := by decide +kernel
theorem s64_132 {d : Nat} {st : List Value} {σ : am_I} {ρ : am_R} {g : am_J} {τ : am_T} {Q : am_Q} {x0 x1 x2 x3 x5 x6 : Value} {v : Nat} : AW d 64 132 [x0, x1, x2, x3, .ref v, x5, x6] (st) σ ρ g τ Q = AW d 64 134 [x0, x1, x2, x3, .ref v, x5, x6] (.ref v :: st) σ ρ g τ Q := aw_lc m64 d64_132 rfl rfl rfl
theorem d64_134 : decode cX8_tellWants 134 = .ok (.aload 6, 2) := by decide +kernel
theorem s64_134 {d : Nat} {st : List Value} {σ : am_I} {ρ : am_R} {g : am_J} {τ : am_T} {Q : am_Q} {x0 x1 x2 x3 x4 x5 : Value} {v : Nat} : AW d 64 134 [x0, x1, x2, x3, x4, x5, .ref v] (st) σ ρ g τ Q = AW d 64 136 [x0, x1, x2, x3, x4, x5, .ref v] (.ref v :: st) σ ρ g τ Q := aw_lc m64 d64_134 rfl rfl rfl
theorem d64_136 : decode cX8_tellWants 136 = .ok (.iload_n 3, 1) := by decide +kernel
theorem s64_136 {d : Nat} {st : List Value} {σ : am_I} {ρ : am_R} {g : am_J} {τ : am_T} {Q : am_Q} {x0 x1 x2 x4 x5 x6 : Value} {v : Int32} : AW d 64 136 [x0, x1, x2, .int v, x4, x5, x6] (st) σ ρ g τ Q = AW d 64 137 [x0, x1, x2, .int v, x4, x5, x6] (.int v :: st) σ ρ g τ Q := aw_lc m64 d64_136 rfl rfl rfl
theorem d64_137 : decode cX8_tellWants 137 = .ok (.invokevirtual 69, 3) := by decide +kernel
theorem s64_137 {d : Nat} {st : List Value} {σ : am_I} {ρ : am_R} {g : am_J} {τ : am_T} {Q : am_Q} {x0 x1 x2 x3 x4 x5 x6 : Value} {p0 : Nat} {p1 : Nat} {p2 : Int32} (ht : τ.1 p0 = 9) (hs : st.length ≤ 4) : AW (d + 1) 64 137 [x0, x1, x2, x3, x4, x5, x6] (.int p2 :: .ref p1 :: .ref p0 :: st) σ ρ g τ Q = AW d 74 0 [.ref p0, .ref p1, .int p2] [] σ ρ g τ (fun r9 σ ρ g τ => AW (d + 1) 64 140 [x0, x1, x2, x3, x4, x5, x6] (r9.toList ++ st) σ ρ g τ Q) := aw_cv m64 d64_137 rfl m74 rfl rfl (by decide) en74 ok74 rfl ht hs
theorem d64_140 : decode cX8_tellWants 140 = .ok (.aload 6, 2) := by decide +kernel
theorem s64_140 {d : Nat} {st : List Value} {σ : am_I} {ρ : am_R} {g : am_J} {τ : am_T} {Q : am_Q} {x0 x1 x2 x3 x4 x5 : Value} {v : Nat} : AW d 64 140 [x0, x1, x2, x3, x4, x5, .ref v] (st) σ ρ g τ Q = AW d 64 142 [x0, x1, x2, x3, x4, x5, .ref v] (.ref v :: st) σ ρ g τ Q := aw_lc m64 d64_140 rfl rfl rfl
theorem d64_142 : decode cX8_tellWants 142 = .ok (.getfield 72, 3) := by decide +kernel
theorem s64_142 {d : Nat} {st : List Value} {σ : am_I} {ρ : am_R} {g : am_J} {τ : am_T} {Q : am_Q} {x0 x1 x2 x3 x4 x5 x6 : Value} {a : Nat} (ht : τ.1 a = 1) : AW d 64 142 [x0, x1, x2, x3, x4, x5, x6] (.ref a :: st) σ ρ g τ Q = AW d 64 145 [x0, x1, x2, x3, x4, x5, x6] (.int (σ a 6) :: st) σ ρ g τ Q := aw_gi m64 d64_142 rfl rfl rfl ht
theorem d64_145 : decode cX8_tellWants 145 = .ok (.iadd, 1) := by decide +kernel
theorem s64_145 {d : Nat} {st : List Value} {σ : am_I} {ρ : am_R} {g : am_J} {τ : am_T} {Q : am_Q} {x0 x1 x2 x3 x4 x5 x6 : Value} {v w : Int32} : AW d 64 145 [x0, x1, x2, x3, x4, x5, x6] (.int w :: .int v :: st) σ ρ g τ Q = AW d 64 146 [x0, x1, x2, x3, x4, x5, x6] (.int (v + w) :: st) σ ρ g τ Q := aw_lc m64 d64_145 rfl rfl rfl
theorem d64_146 : decode cX8_tellWants 146 = .ok (.goto 4, 3) := by decide +kernel
theorem s64_146 {d : Nat} {st : List Value} {σ : am_I} {ρ : am_R} {g : am_J} {τ : am_T} {Q : am_Q} {x0 x1 x2 x3 x4 x5 x6 : Value} : AW d 64 146 [x0, x1, x2, x3, x4, x5, x6] (st) σ ρ g τ Q = AW d 64 150 [x0, x1, x2, x3, x4, x5, x6] (st) σ ρ g τ Q := aw_lc m64 d64_146 rfl rfl rfl
theorem d64_149 : decode cX8_tellWants 149 = .ok (.iconst 0, 1) := by decide +kernel
theorem s64_149 {d : Nat} {st : List Value} {σ : am_I} {ρ : am_R} {g : am_J} {τ : am_T} {Q : am_Q} {x0 x1 x2 x3 x4 x5 x6 : Value} : AW d 64 149 [x0, x1, x2, x3, x4, x5, x6] (st) σ ρ g τ Q = AW d 64 150 [x0, x1, x2, x3, x4, x5, x6] (.int 0 :: st) σ ρ g τ Q := aw_lc m64 d64_149 rfl rfl rfl
theorem d64_150 : decode cX8_tellWants 150 = .ok (.iastore, 1) := by decide +kernel
theorem s64_150 {d : Nat} {st : List Value} {σ : am_I} {ρ : am_R} {g : am_J} {τ : am_T} {Q : am_Q} {x0 x1 x2 x3 x4 x5 x6 : Value} {a : Nat} {j v : Int32} (ht : τ.1 a = 15) (ha : a < am_BG) (hj : am_inb j (τ.2.1 a) = true) : AW d 64 150 [x0, x1, x2, x3, x4, x5, x6] (.int v :: .int j :: .ref a :: st) σ ρ g τ Q = AW d 64 151 [x0, x1, x2, x3, x4, x5, x6] (st) (am_u σ a j.toNatClampNeg v) ρ g τ Q := aw_ias m64 d64_150 rfl ht ha hj
theorem d64_151 : decode cX8_tellWants 151 = .ok (.aload_n 0, 1) := by decide +kernel
theorem s64_151 {d : Nat} {st : List Value} {σ : am_I} {ρ : am_R} {g : am_J} {τ : am_T} {Q : am_Q} {x1 x2 x3 x4 x5 x6 : Value} {v : Nat} : AW d 64 151 [.ref v, x1, x2, x3, x4, x5, x6] (st) σ ρ g τ Q = AW d 64 152 [.ref v, x1, x2, x3, x4, x5, x6] (.ref v :: st) σ ρ g τ Q := aw_lc m64 d64_151 rfl rfl rfl
theorem d64_152 : decode cX8_tellWants 152 = .ok (.getfield 22, 3) := by decide +kernel
theorem s64_152 {d : Nat} {st : List Value} {σ : am_I} {ρ : am_R} {g : am_J} {τ : am_T} {Q : am_Q} {x0 x1 x2 x3 x4 x5 x6 : Value} {a : Nat} (ht : τ.1 a = 8) : AW d 64 152 [x0, x1, x2, x3, x4, x5, x6] (.ref a :: st) σ ρ g τ Q = AW d 64 155 [x0, x1, x2, x3, x4, x5, x6] (va_rf (ρ a 3) :: st) σ ρ g τ Q := aw_gr m64 d64_152 rfl rfl rfl ht
theorem d64_155 : decode cX8_tellWants 155 = .ok (.iload 5, 2) := by decide +kernel
theorem s64_155 {d : Nat} {st : List Value} {σ : am_I} {ρ : am_R} {g : am_J} {τ : am_T} {Q : am_Q} {x0 x1 x2 x3 x4 x6 : Value} {v : Int32} : AW d 64 155 [x0, x1, x2, x3, x4, .int v, x6] (st) σ ρ g τ Q = AW d 64 157 [x0, x1, x2, x3, x4, .int v, x6] (.int v :: st) σ ρ g τ Q := aw_lc m64 d64_155 rfl rfl rfl
theorem d64_157 : decode cX8_tellWants 157 = .ok (.iconst 0, 1) := by decide +kernel
theorem s64_157 {d : Nat} {st : List Value} {σ : am_I} {ρ : am_R} {g : am_J} {τ : am_T} {Q : am_Q} {x0 x1 x2 x3 x4 x5 x6 : Value} : AW d 64 157 [x0, x1, x2, x3, x4, x5, x6] (st) σ ρ g τ Q = AW d 64 158 [x0, x1, x2, x3, x4, x5, x6] (.int 0 :: st) σ ρ g τ Q := aw_lc m64 d64_157 rfl rfl rfl
theorem d64_158 : decode cX8_tellWants 158 = .ok (.iastore, 1) := by decide +kernel
theorem s64_158 {d : Nat} {st : List Value} {σ : am_I} {ρ : am_R} {g : am_J} {τ : am_T} {Q : am_Q} {x0 x1 x2 x3 x4 x5 x6 : Value} {a : Nat} {j v : Int32} (ht : τ.1 a = 15) (ha : a < am_BG) (hj : am_inb j (τ.2.1 a) = true) : AW d 64 158 [x0, x1, x2, x3, x4, x5, x6] (.int v :: .int j :: .ref a :: st) σ ρ g τ Q = AW d 64 159 [x0, x1, x2, x3, x4, x5, x6] (st) (am_u σ a j.toNatClampNeg v) ρ g τ Q := aw_ias m64 d64_158 rfl ht ha hj
theorem d64_159 : decode cX8_tellWants 159 = .ok (.iinc 5 1, 3) := by decide +kernel
theorem s64_159r {d : Nat} {st : List Value} {σ : am_I} {ρ : am_R} {g : am_J} {τ : am_T} {Q : am_Q} {x0 x1 x2 x3 x6 : Value} {v : Int32} {u : Nat} : AW d 64 159 [x0, x1, x2, x3, .ref u, .int v, x6] (st) σ ρ g τ Q = AW d 64 162 [x0, x1, x2, x3, .ref u, .int (v + 1), x6] (st) σ ρ g τ Q := aw_lc m64 d64_159 rfl rfl rfl
theorem d64_162 : decode cX8_tellWants 162 = .ok (.goto (-140), 3) := by decide +kernel
theorem s64_162 {d : Nat} {st : List Value} {σ : am_I} {ρ : am_R} {g : am_J} {τ : am_T} {Q : am_Q} {x0 x1 x2 x3 x4 x5 x6 : Value} : AW d 64 162 [x0, x1, x2, x3, x4, x5, x6] (st) σ ρ g τ Q = AW d 64 22 [x0, x1, x2, x3, x4, x5, x6] (st) σ ρ g τ Q := aw_lc m64 d64_162 rfl rfl rfl
theorem d64_165 : decode cX8_tellWants 165 = .ok (.return_, 1) := by decide +kernel
theorem s64_165 {d : Nat} {σ : am_I} {ρ : am_R} {g : am_J} {τ : am_T} {Q : am_Q} {x0 x1 x2 x3 x4 x5 x6 : Value} : AW d 64 165 [x0, x1, x2, x3, x4, x5, x6] ([]) σ ρ g τ Q = Q none σ ρ g τ := aw_rv m64 d64_165 rfl
theorem d65_0 : decode cX8_share 0 = .ok (.iload_n 1, 1) := by decide +kernel
theorem s65_0 {d : Nat} {st : List Value} {σ : am_I} {ρ : am_R} {g : am_J} {τ : am_T} {Q : am_Q} {x0 x2 x3 x4 : Value} {v : Int32} : AW d 65 0 [x0, .int v, x2, x3, x4] (st) σ ρ g τ Q = AW d 65 1 [x0, .int v, x2, x3, x4] (.int v :: st) σ ρ g τ Q := aw_lc m65 d65_0 rfl rfl rfl
theorem d65_1 : decode cX8_share 1 = .ok (.aload_n 0, 1) := by decide +kernel
theorem s65_1 {d : Nat} {st : List Value} {σ : am_I} {ρ : am_R} {g : am_J} {τ : am_T} {Q : am_Q} {x1 x2 x3 x4 : Value} {v : Nat} : AW d 65 1 [.ref v, x1, x2, x3, x4] (st) σ ρ g τ Q = AW d 65 2 [.ref v, x1, x2, x3, x4] (.ref v :: st) σ ρ g τ Q := aw_lc m65 d65_1 rfl rfl rfl
theorem d65_2 : decode cX8_share 2 = .ok (.getfield 25, 3) := by decide +kernel
theorem s65_2 {d : Nat} {st : List Value} {σ : am_I} {ρ : am_R} {g : am_J} {τ : am_T} {Q : am_Q} {x0 x1 x2 x3 x4 : Value} {a : Nat} (ht : τ.1 a = 8) : AW d 65 2 [x0, x1, x2, x3, x4] (.ref a :: st) σ ρ g τ Q = AW d 65 5 [x0, x1, x2, x3, x4] (.int (σ a 4) :: st) σ ρ g τ Q := aw_gi m65 d65_2 rfl rfl rfl ht
theorem d65_5 : decode cX8_share 5 = .ok (.imul, 1) := by decide +kernel
theorem s65_5 {d : Nat} {st : List Value} {σ : am_I} {ρ : am_R} {g : am_J} {τ : am_T} {Q : am_Q} {x0 x1 x2 x3 x4 : Value} {v w : Int32} : AW d 65 5 [x0, x1, x2, x3, x4] (.int w :: .int v :: st) σ ρ g τ Q = AW d 65 6 [x0, x1, x2, x3, x4] (.int (v * w) :: st) σ ρ g τ Q := aw_lc m65 d65_5 rfl rfl rfl
theorem d65_6 : decode cX8_share 6 = .ok (.bipush 100, 2) := by decide +kernel
theorem s65_6 {d : Nat} {st : List Value} {σ : am_I} {ρ : am_R} {g : am_J} {τ : am_T} {Q : am_Q} {x0 x1 x2 x3 x4 : Value} : AW d 65 6 [x0, x1, x2, x3, x4] (st) σ ρ g τ Q = AW d 65 8 [x0, x1, x2, x3, x4] (.int 100 :: st) σ ρ g τ Q := aw_lc m65 d65_6 rfl rfl rfl
theorem d65_8 : decode cX8_share 8 = .ok (.idiv, 1) := by decide +kernel
theorem s65_8 {d : Nat} {st : List Value} {σ : am_I} {ρ : am_R} {g : am_J} {τ : am_T} {Q : am_Q} {x0 x1 x2 x3 x4 : Value} {v w : Int32} (h0 : ¬ w = 0) : AW d 65 8 [x0, x1, x2, x3, x4] (.int w :: .int v :: st) σ ρ g τ Q = AW d 65 9 [x0, x1, x2, x3, x4] (.int (v / w) :: st) σ ρ g τ Q := aw_div m65 d65_8 h0 rfl
theorem d65_9 : decode cX8_share 9 = .ok (.istore_n 2, 1) := by decide +kernel
theorem s65_9 {d : Nat} {st : List Value} {σ : am_I} {ρ : am_R} {g : am_J} {τ : am_T} {Q : am_Q} {x0 x2 x3 x4 : Value} {v : Int32} {u : Int32} : AW d 65 9 [x0, .int u, x2, x3, x4] (.int v :: st) σ ρ g τ Q = AW d 65 10 [x0, .int u, .int v, x3, x4] (st) σ ρ g τ Q := aw_lc m65 d65_9 rfl rfl rfl
theorem d65_10 : decode cX8_share 10 = .ok (.iload_n 1, 1) := by decide +kernel
theorem s65_10 {d : Nat} {st : List Value} {σ : am_I} {ρ : am_R} {g : am_J} {τ : am_T} {Q : am_Q} {x0 x2 x3 x4 : Value} {v : Int32} : AW d 65 10 [x0, .int v, x2, x3, x4] (st) σ ρ g τ Q = AW d 65 11 [x0, .int v, x2, x3, x4] (.int v :: st) σ ρ g τ Q := aw_lc m65 d65_10 rfl rfl rfl
theorem d65_11 : decode cX8_share 11 = .ok (.iload_n 2, 1) := by decide +kernel
theorem s65_11 {d : Nat} {st : List Value} {σ : am_I} {ρ : am_R} {g : am_J} {τ : am_T} {Q : am_Q} {x0 x1 x3 x4 : Value} {v : Int32} : AW d 65 11 [x0, x1, .int v, x3, x4] (st) σ ρ g τ Q = AW d 65 12 [x0, x1, .int v, x3, x4] (.int v :: st) σ ρ g τ Q := aw_lc m65 d65_11 rfl rfl rfl
theorem d65_12 : decode cX8_share 12 = .ok (.isub, 1) := by decide +kernel
theorem s65_12 {d : Nat} {st : List Value} {σ : am_I} {ρ : am_R} {g : am_J} {τ : am_T} {Q : am_Q} {x0 x1 x2 x3 x4 : Value} {v w : Int32} : AW d 65 12 [x0, x1, x2, x3, x4] (.int w :: .int v :: st) σ ρ g τ Q = AW d 65 13 [x0, x1, x2, x3, x4] (.int (v - w) :: st) σ ρ g τ Q := aw_lc m65 d65_12 rfl rfl rfl
theorem d65_13 : decode cX8_share 13 = .ok (.istore_n 3, 1) := by decide +kernel
theorem s65_13 {d : Nat} {st : List Value} {σ : am_I} {ρ : am_R} {g : am_J} {τ : am_T} {Q : am_Q} {x0 x1 x3 x4 : Value} {v : Int32} {u : Int32} : AW d 65 13 [x0, x1, .int u, x3, x4] (.int v :: st) σ ρ g τ Q = AW d 65 14 [x0, x1, .int u, .int v, x4] (st) σ ρ g τ Q := aw_lc m65 d65_13 rfl rfl rfl
theorem d65_14 : decode cX8_share 14 = .ok (.iconst 0, 1) := by decide +kernel
theorem s65_14 {d : Nat} {st : List Value} {σ : am_I} {ρ : am_R} {g : am_J} {τ : am_T} {Q : am_Q} {x0 x1 x2 x3 x4 : Value} : AW d 65 14 [x0, x1, x2, x3, x4] (st) σ ρ g τ Q = AW d 65 15 [x0, x1, x2, x3, x4] (.int 0 :: st) σ ρ g τ Q := aw_lc m65 d65_14 rfl rfl rfl
theorem d65_15 : decode cX8_share 15 = .ok (.istore 4, 2) := by decide +kernel
theorem s65_15 {d : Nat} {st : List Value} {σ : am_I} {ρ : am_R} {g : am_J} {τ : am_T} {Q : am_Q} {x0 x1 x2 x4 : Value} {v : Int32} {u : Int32} : AW d 65 15 [x0, x1, x2, .int u, x4] (.int v :: st) σ ρ g τ Q = AW d 65 17 [x0, x1, x2, .int u, .int v] (st) σ ρ g τ Q := aw_lc m65 d65_15 rfl rfl rfl
theorem d65_17 : decode cX8_share 17 = .ok (.iload 4, 2) := by decide +kernel
theorem s65_17 {d : Nat} {st : List Value} {σ : am_I} {ρ : am_R} {g : am_J} {τ : am_T} {Q : am_Q} {x0 x1 x2 x3 : Value} {v : Int32} : AW d 65 17 [x0, x1, x2, x3, .int v] (st) σ ρ g τ Q = AW d 65 19 [x0, x1, x2, x3, .int v] (.int v :: st) σ ρ g τ Q := aw_lc m65 d65_17 rfl rfl rfl
theorem d65_19 : decode cX8_share 19 = .ok (.bipush 9, 2) := by decide +kernel
theorem s65_19 {d : Nat} {st : List Value} {σ : am_I} {ρ : am_R} {g : am_J} {τ : am_T} {Q : am_Q} {x0 x1 x2 x3 x4 : Value} : AW d 65 19 [x0, x1, x2, x3, x4] (st) σ ρ g τ Q = AW d 65 21 [x0, x1, x2, x3, x4] (.int 9 :: st) σ ρ g τ Q := aw_lc m65 d65_19 rfl rfl rfl
theorem d65_21 : decode cX8_share 21 = .ok (.if_icmp .gt 19, 3) := by decide +kernel
theorem s65_21 {d : Nat} {st : List Value} {σ : am_I} {ρ : am_R} {g : am_J} {τ : am_T} {Q : am_Q} {x0 x1 x2 x3 x4 : Value} {v w : Int32} : AW d 65 21 [x0, x1, x2, x3, x4] (.int w :: .int v :: st) σ ρ g τ Q = if w < v then AW d 65 40 [x0, x1, x2, x3, x4] (st) σ ρ g τ Q else AW d 65 24 [x0, x1, x2, x3, x4] (st) σ ρ g τ Q := aw_br m65 d65_21 rfl rfl rfl
theorem d65_24 : decode cX8_share 24 = .ok (.iload_n 3, 1) := by decide +kernel
theorem s65_24 {d : Nat} {st : List Value} {σ : am_I} {ρ : am_R} {g : am_J} {τ : am_T} {Q : am_Q} {x0 x1 x2 x4 : Value} {v : Int32} : AW d 65 24 [x0, x1, x2, .int v, x4] (st) σ ρ g τ Q = AW d 65 25 [x0, x1, x2, .int v, x4] (.int v :: st) σ ρ g τ Q := aw_lc m65 d65_24 rfl rfl rfl
theorem d65_25 : decode cX8_share 25 = .ok (.aload_n 0, 1) := by decide +kernel
theorem s65_25 {d : Nat} {st : List Value} {σ : am_I} {ρ : am_R} {g : am_J} {τ : am_T} {Q : am_Q} {x1 x2 x3 x4 : Value} {v : Nat} : AW d 65 25 [.ref v, x1, x2, x3, x4] (st) σ ρ g τ Q = AW d 65 26 [.ref v, x1, x2, x3, x4] (.ref v :: st) σ ρ g τ Q := aw_lc m65 d65_25 rfl rfl rfl
theorem d65_26 : decode cX8_share 26 = .ok (.iload 4, 2) := by decide +kernel
theorem s65_26 {d : Nat} {st : List Value} {σ : am_I} {ρ : am_R} {g : am_J} {τ : am_T} {Q : am_Q} {x0 x1 x2 x3 : Value} {v : Int32} : AW d 65 26 [x0, x1, x2, x3, .int v] (st) σ ρ g τ Q = AW d 65 28 [x0, x1, x2, x3, .int v] (.int v :: st) σ ρ g τ Q := aw_lc m65 d65_26 rfl rfl rfl
theorem d65_28 : decode cX8_share 28 = .ok (.iload_n 3, 1) := by decide +kernel
theorem s65_28 {d : Nat} {st : List Value} {σ : am_I} {ρ : am_R} {g : am_J} {τ : am_T} {Q : am_Q} {x0 x1 x2 x4 : Value} {v : Int32} : AW d 65 28 [x0, x1, x2, .int v, x4] (st) σ ρ g τ Q = AW d 65 29 [x0, x1, x2, .int v, x4] (.int v :: st) σ ρ g τ Q := aw_lc m65 d65_28 rfl rfl rfl
theorem d65_29 : decode cX8_share 29 = .ok (.invokevirtual 75, 3) := by decide +kernel
theorem s65_29 {d : Nat} {st : List Value} {σ : am_I} {ρ : am_R} {g : am_J} {τ : am_T} {Q : am_Q} {x0 x1 x2 x3 x4 : Value} {p0 : Nat} {p1 : Int32} {p2 : Int32} (ht : τ.1 p0 = 8) (hs : st.length ≤ 4) : AW (d + 1) 65 29 [x0, x1, x2, x3, x4] (.int p2 :: .int p1 :: .ref p0 :: st) σ ρ g τ Q = AW d 66 0 [.ref p0, .int p1, .int p2, am_jk, am_jk, am_jk] [] σ ρ g τ (fun r9 σ ρ g τ => AW (d + 1) 65 32 [x0, x1, x2, x3, x4] (r9.toList ++ st) σ ρ g τ Q) := aw_cv m65 d65_29 rfl m66 rfl rfl (by decide) en66 ok66 rfl ht hs
theorem d65_32 : decode cX8_share 32 = .ok (.isub, 1) := by decide +kernel
theorem s65_32 {d : Nat} {st : List Value} {σ : am_I} {ρ : am_R} {g : am_J} {τ : am_T} {Q : am_Q} {x0 x1 x2 x3 x4 : Value} {v w : Int32} : AW d 65 32 [x0, x1, x2, x3, x4] (.int w :: .int v :: st) σ ρ g τ Q = AW d 65 33 [x0, x1, x2, x3, x4] (.int (v - w) :: st) σ ρ g τ Q := aw_lc m65 d65_32 rfl rfl rfl
theorem d65_33 : decode cX8_share 33 = .ok (.istore_n 3, 1) := by decide +kernel
theorem s65_33 {d : Nat} {st : List Value} {σ : am_I} {ρ : am_R} {g : am_J} {τ : am_T} {Q : am_Q} {x0 x1 x3 x4 : Value} {v : Int32} {u : Int32} : AW d 65 33 [x0, x1, .int u, x3, x4] (.int v :: st) σ ρ g τ Q = AW d 65 34 [x0, x1, .int u, .int v, x4] (st) σ ρ g τ Q := aw_lc m65 d65_33 rfl rfl rfl
theorem d65_34 : decode cX8_share 34 = .ok (.iinc 4 1, 3) := by decide +kernel
theorem s65_34 {d : Nat} {st : List Value} {σ : am_I} {ρ : am_R} {g : am_J} {τ : am_T} {Q : am_Q} {x0 x1 x2 : Value} {v : Int32} {u : Int32} : AW d 65 34 [x0, x1, x2, .int u, .int v] (st) σ ρ g τ Q = AW d 65 37 [x0, x1, x2, .int u, .int (v + 1)] (st) σ ρ g τ Q := aw_lc m65 d65_34 rfl rfl rfl
theorem d65_37 : decode cX8_share 37 = .ok (.goto (-20), 3) := by decide +kernel
theorem s65_37 {d : Nat} {st : List Value} {σ : am_I} {ρ : am_R} {g : am_J} {τ : am_T} {Q : am_Q} {x0 x1 x2 x3 x4 : Value} : AW d 65 37 [x0, x1, x2, x3, x4] (st) σ ρ g τ Q = AW d 65 17 [x0, x1, x2, x3, x4] (st) σ ρ g τ Q := aw_lc m65 d65_37 rfl rfl rfl
theorem d65_40 : decode cX8_share 40 = .ok (.aload_n 0, 1) := by decide +kernel
theorem s65_40 {d : Nat} {st : List Value} {σ : am_I} {ρ : am_R} {g : am_J} {τ : am_T} {Q : am_Q} {x1 x2 x3 x4 : Value} {v : Nat} : AW d 65 40 [.ref v, x1, x2, x3, x4] (st) σ ρ g τ Q = AW d 65 41 [.ref v, x1, x2, x3, x4] (.ref v :: st) σ ρ g τ Q := aw_lc m65 d65_40 rfl rfl rfl
theorem d65_41 : decode cX8_share 41 = .ok (.iload_n 2, 1) := by decide +kernel
theorem s65_41 {d : Nat} {st : List Value} {σ : am_I} {ρ : am_R} {g : am_J} {τ : am_T} {Q : am_Q} {x0 x1 x3 x4 : Value} {v : Int32} : AW d 65 41 [x0, x1, .int v, x3, x4] (st) σ ρ g τ Q = AW d 65 42 [x0, x1, .int v, x3, x4] (.int v :: st) σ ρ g τ Q := aw_lc m65 d65_41 rfl rfl rfl
theorem d65_42 : decode cX8_share 42 = .ok (.iload_n 3, 1) := by decide +kernel
theorem s65_42 {d : Nat} {st : List Value} {σ : am_I} {ρ : am_R} {g : am_J} {τ : am_T} {Q : am_Q} {x0 x1 x2 x4 : Value} {v : Int32} : AW d 65 42 [x0, x1, x2, .int v, x4] (st) σ ρ g τ Q = AW d 65 43 [x0, x1, x2, .int v, x4] (.int v :: st) σ ρ g τ Q := aw_lc m65 d65_42 rfl rfl rfl
theorem d65_43 : decode cX8_share 43 = .ok (.iadd, 1) := by decide +kernel
theorem s65_43 {d : Nat} {st : List Value} {σ : am_I} {ρ : am_R} {g : am_J} {τ : am_T} {Q : am_Q} {x0 x1 x2 x3 x4 : Value} {v w : Int32} : AW d 65 43 [x0, x1, x2, x3, x4] (.int w :: .int v :: st) σ ρ g τ Q = AW d 65 44 [x0, x1, x2, x3, x4] (.int (v + w) :: st) σ ρ g τ Q := aw_lc m65 d65_43 rfl rfl rfl
theorem d65_44 : decode cX8_share 44 = .ok (.putfield 29, 3) := by decide +kernel
theorem s65_44 {d : Nat} {st : List Value} {σ : am_I} {ρ : am_R} {g : am_J} {τ : am_T} {Q : am_Q} {x0 x1 x2 x3 x4 : Value} {a : Nat} {v : Int32} (ht : τ.1 a = 8) : AW d 65 44 [x0, x1, x2, x3, x4] (.int v :: .ref a :: st) σ ρ g τ Q = AW d 65 47 [x0, x1, x2, x3, x4] (st) (am_u σ a 5 v) ρ g τ Q := aw_pi m65 d65_44 rfl rfl (Or.inl rfl) rfl ht
theorem d65_47 : decode cX8_share 47 = .ok (.return_, 1) := by decide +kernel
theorem s65_47 {d : Nat} {σ : am_I} {ρ : am_R} {g : am_J} {τ : am_T} {Q : am_Q} {x0 x1 x2 x3 x4 : Value} : AW d 65 47 [x0, x1, x2, x3, x4] ([]) σ ρ g τ Q = Q none σ ρ g τ := aw_rv m65 d65_47 rfl
theorem d66_0 : decode cX8_shareIn 0 = .ok (.iconst 0, 1) := by decide +kernel
theorem s66_0 {d : Nat} {st : List Value} {σ : am_I} {ρ : am_R} {g : am_J} {τ : am_T} {Q : am_Q} {x0 x1 x2 x3 x4 x5 : Value} : AW d 66 0 [x0, x1, x2, x3, x4, x5] (st) σ ρ g τ Q = AW d 66 1 [x0, x1, x2, x3, x4, x5] (.int 0 :: st) σ ρ g τ Q := aw_lc m66 d66_0 rfl rfl rfl
theorem d66_1 : decode cX8_shareIn 1 = .ok (.istore_n 3, 1) := by decide +kernel
theorem s66_1 {d : Nat} {st : List Value} {σ : am_I} {ρ : am_R} {g : am_J} {τ : am_T} {Q : am_Q} {x0 x1 x3 x4 x5 : Value} {v : Int32} {u : Int32} : AW d 66 1 [x0, x1, .int u, x3, x4, x5] (.int v :: st) σ ρ g τ Q = AW d 66 2 [x0, x1, .int u, .int v, x4, x5] (st) σ ρ g τ Q := aw_lc m66 d66_1 rfl rfl rfl
theorem d66_2 : decode cX8_shareIn 2 = .ok (.iconst 0, 1) := by decide +kernel
theorem s66_2 {d : Nat} {st : List Value} {σ : am_I} {ρ : am_R} {g : am_J} {τ : am_T} {Q : am_Q} {x0 x1 x2 x3 x4 x5 : Value} : AW d 66 2 [x0, x1, x2, x3, x4, x5] (st) σ ρ g τ Q = AW d 66 3 [x0, x1, x2, x3, x4, x5] (.int 0 :: st) σ ρ g τ Q := aw_lc m66 d66_2 rfl rfl rfl
theorem d66_3 : decode cX8_shareIn 3 = .ok (.istore 4, 2) := by decide +kernel
theorem s66_3 {d : Nat} {st : List Value} {σ : am_I} {ρ : am_R} {g : am_J} {τ : am_T} {Q : am_Q} {x0 x1 x2 x4 x5 : Value} {v : Int32} {u : Int32} : AW d 66 3 [x0, x1, x2, .int u, x4, x5] (.int v :: st) σ ρ g τ Q = AW d 66 5 [x0, x1, x2, .int u, .int v, x5] (st) σ ρ g τ Q := aw_lc m66 d66_3 rfl rfl rfl
theorem d66_5 : decode cX8_shareIn 5 = .ok (.iload 4, 2) := by decide +kernel
theorem s66_5 {d : Nat} {st : List Value} {σ : am_I} {ρ : am_R} {g : am_J} {τ : am_T} {Q : am_Q} {x0 x1 x2 x3 x5 : Value} {v : Int32} : AW d 66 5 [x0, x1, x2, x3, .int v, x5] (st) σ ρ g τ Q = AW d 66 7 [x0, x1, x2, x3, .int v, x5] (.int v :: st) σ ρ g τ Q := aw_lc m66 d66_5 rfl rfl rfl
theorem d66_7 : decode cX8_shareIn 7 = .ok (.bipush 16, 2) := by decide +kernel
theorem s66_7 {d : Nat} {st : List Value} {σ : am_I} {ρ : am_R} {g : am_J} {τ : am_T} {Q : am_Q} {x0 x1 x2 x3 x4 x5 : Value} : AW d 66 7 [x0, x1, x2, x3, x4, x5] (st) σ ρ g τ Q = AW d 66 9 [x0, x1, x2, x3, x4, x5] (.int 16 :: st) σ ρ g τ Q := aw_lc m66 d66_7 rfl rfl rfl
theorem d66_9 : decode cX8_shareIn 9 = .ok (.if_icmp .ge 34, 3) := by decide +kernel
theorem s66_9 {d : Nat} {st : List Value} {σ : am_I} {ρ : am_R} {g : am_J} {τ : am_T} {Q : am_Q} {x0 x1 x2 x3 x4 x5 : Value} {v w : Int32} : AW d 66 9 [x0, x1, x2, x3, x4, x5] (.int w :: .int v :: st) σ ρ g τ Q = if w ≤ v then AW d 66 43 [x0, x1, x2, x3, x4, x5] (st) σ ρ g τ Q else AW d 66 12 [x0, x1, x2, x3, x4, x5] (st) σ ρ g τ Q := aw_br m66 d66_9 rfl rfl rfl
theorem d66_12 : decode cX8_shareIn 12 = .ok (.iload_n 3, 1) := by decide +kernel
theorem s66_12 {d : Nat} {st : List Value} {σ : am_I} {ρ : am_R} {g : am_J} {τ : am_T} {Q : am_Q} {x0 x1 x2 x4 x5 : Value} {v : Int32} : AW d 66 12 [x0, x1, x2, .int v, x4, x5] (st) σ ρ g τ Q = AW d 66 13 [x0, x1, x2, .int v, x4, x5] (.int v :: st) σ ρ g τ Q := aw_lc m66 d66_12 rfl rfl rfl
theorem d66_13 : decode cX8_shareIn 13 = .ok (.aload_n 0, 1) := by decide +kernel
theorem s66_13 {d : Nat} {st : List Value} {σ : am_I} {ρ : am_R} {g : am_J} {τ : am_T} {Q : am_Q} {x1 x2 x3 x4 x5 : Value} {v : Nat} : AW d 66 13 [.ref v, x1, x2, x3, x4, x5] (st) σ ρ g τ Q = AW d 66 14 [.ref v, x1, x2, x3, x4, x5] (.ref v :: st) σ ρ g τ Q := aw_lc m66 d66_13 rfl rfl rfl
theorem d66_14 : decode cX8_shareIn 14 = .ok (.getfield 15, 3) := by decide +kernel
theorem s66_14 {d : Nat} {st : List Value} {σ : am_I} {ρ : am_R} {g : am_J} {τ : am_T} {Q : am_Q} {x0 x1 x2 x3 x4 x5 : Value} {a : Nat} (ht : τ.1 a = 8) : AW d 66 14 [x0, x1, x2, x3, x4, x5] (.ref a :: st) σ ρ g τ Q = AW d 66 17 [x0, x1, x2, x3, x4, x5] (va_rf (ρ a 1) :: st) σ ρ g τ Q := aw_gr m66 d66_14 rfl rfl rfl ht
theorem d66_17 : decode cX8_shareIn 17 = .ok (.iload 4, 2) := by decide +kernel
theorem s66_17 {d : Nat} {st : List Value} {σ : am_I} {ρ : am_R} {g : am_J} {τ : am_T} {Q : am_Q} {x0 x1 x2 x3 x5 : Value} {v : Int32} : AW d 66 17 [x0, x1, x2, x3, .int v, x5] (st) σ ρ g τ Q = AW d 66 19 [x0, x1, x2, x3, .int v, x5] (.int v :: st) σ ρ g τ Q := aw_lc m66 d66_17 rfl rfl rfl
theorem d66_19 : decode cX8_shareIn 19 = .ok (.iaload, 1) := by decide +kernel
theorem s66_19 {d : Nat} {st : List Value} {σ : am_I} {ρ : am_R} {g : am_J} {τ : am_T} {Q : am_Q} {x0 x1 x2 x3 x4 x5 : Value} {a : Nat} {j : Int32} (ht : τ.1 a = 15) (hj : am_inb j (τ.2.1 a) = true) : AW d 66 19 [x0, x1, x2, x3, x4, x5] (.int j :: .ref a :: st) σ ρ g τ Q = AW d 66 20 [x0, x1, x2, x3, x4, x5] (.int (σ a j.toNatClampNeg) :: st) σ ρ g τ Q := aw_ial m66 d66_19 rfl ht hj
theorem d66_20 : decode cX8_shareIn 20 = .ok (.iload_n 1, 1) := by decide +kernel
theorem s66_20 {d : Nat} {st : List Value} {σ : am_I} {ρ : am_R} {g : am_J} {τ : am_T} {Q : am_Q} {x0 x2 x3 x4 x5 : Value} {v : Int32} : AW d 66 20 [x0, .int v, x2, x3, x4, x5] (st) σ ρ g τ Q = AW d 66 21 [x0, .int v, x2, x3, x4, x5] (.int v :: st) σ ρ g τ Q := aw_lc m66 d66_20 rfl rfl rfl
theorem d66_21 : decode cX8_shareIn 21 = .ok (.if_icmp .ne 13, 3) := by decide +kernel
theorem s66_21 {d : Nat} {st : List Value} {σ : am_I} {ρ : am_R} {g : am_J} {τ : am_T} {Q : am_Q} {x0 x1 x2 x3 x4 x5 : Value} {v w : Int32} : AW d 66 21 [x0, x1, x2, x3, x4, x5] (.int w :: .int v :: st) σ ρ g τ Q = if ¬ v = w then AW d 66 34 [x0, x1, x2, x3, x4, x5] (st) σ ρ g τ Q else AW d 66 24 [x0, x1, x2, x3, x4, x5] (st) σ ρ g τ Q := aw_br m66 d66_21 rfl rfl rfl
theorem d66_24 : decode cX8_shareIn 24 = .ok (.aload_n 0, 1) := by decide +kernel
theorem s66_24 {d : Nat} {st : List Value} {σ : am_I} {ρ : am_R} {g : am_J} {τ : am_T} {Q : am_Q} {x1 x2 x3 x4 x5 : Value} {v : Nat} : AW d 66 24 [.ref v, x1, x2, x3, x4, x5] (st) σ ρ g τ Q = AW d 66 25 [.ref v, x1, x2, x3, x4, x5] (.ref v :: st) σ ρ g τ Q := aw_lc m66 d66_24 rfl rfl rfl
theorem d66_25 : decode cX8_shareIn 25 = .ok (.getfield 19, 3) := by decide +kernel
theorem s66_25 {d : Nat} {st : List Value} {σ : am_I} {ρ : am_R} {g : am_J} {τ : am_T} {Q : am_Q} {x0 x1 x2 x3 x4 x5 : Value} {a : Nat} (ht : τ.1 a = 8) : AW d 66 25 [x0, x1, x2, x3, x4, x5] (.ref a :: st) σ ρ g τ Q = AW d 66 28 [x0, x1, x2, x3, x4, x5] (va_rf (ρ a 2) :: st) σ ρ g τ Q := aw_gr m66 d66_25 rfl rfl rfl ht
theorem d66_28 : decode cX8_shareIn 28 = .ok (.iload 4, 2) := by decide +kernel
theorem s66_28 {d : Nat} {st : List Value} {σ : am_I} {ρ : am_R} {g : am_J} {τ : am_T} {Q : am_Q} {x0 x1 x2 x3 x5 : Value} {v : Int32} : AW d 66 28 [x0, x1, x2, x3, .int v, x5] (st) σ ρ g τ Q = AW d 66 30 [x0, x1, x2, x3, .int v, x5] (.int v :: st) σ ρ g τ Q := aw_lc m66 d66_28 rfl rfl rfl
theorem d66_30 : decode cX8_shareIn 30 = .ok (.iaload, 1) := by decide +kernel
theorem s66_30 {d : Nat} {st : List Value} {σ : am_I} {ρ : am_R} {g : am_J} {τ : am_T} {Q : am_Q} {x0 x1 x2 x3 x4 x5 : Value} {a : Nat} {j : Int32} (ht : τ.1 a = 15) (hj : am_inb j (τ.2.1 a) = true) : AW d 66 30 [x0, x1, x2, x3, x4, x5] (.int j :: .ref a :: st) σ ρ g τ Q = AW d 66 31 [x0, x1, x2, x3, x4, x5] (.int (σ a j.toNatClampNeg) :: st) σ ρ g τ Q := aw_ial m66 d66_30 rfl ht hj
theorem d66_31 : decode cX8_shareIn 31 = .ok (.goto 4, 3) := by decide +kernel
theorem s66_31 {d : Nat} {st : List Value} {σ : am_I} {ρ : am_R} {g : am_J} {τ : am_T} {Q : am_Q} {x0 x1 x2 x3 x4 x5 : Value} : AW d 66 31 [x0, x1, x2, x3, x4, x5] (st) σ ρ g τ Q = AW d 66 35 [x0, x1, x2, x3, x4, x5] (st) σ ρ g τ Q := aw_lc m66 d66_31 rfl rfl rfl
theorem d66_34 : decode cX8_shareIn 34 = .ok (.iconst 0, 1) := by decide +kernel
theorem s66_34 {d : Nat} {st : List Value} {σ : am_I} {ρ : am_R} {g : am_J} {τ : am_T} {Q : am_Q} {x0 x1 x2 x3 x4 x5 : Value} : AW d 66 34 [x0, x1, x2, x3, x4, x5] (st) σ ρ g τ Q = AW d 66 35 [x0, x1, x2, x3, x4, x5] (.int 0 :: st) σ ρ g τ Q := aw_lc m66 d66_34 rfl rfl rfl
theorem d66_35 : decode cX8_shareIn 35 = .ok (.iadd, 1) := by decide +kernel
theorem s66_35 {d : Nat} {st : List Value} {σ : am_I} {ρ : am_R} {g : am_J} {τ : am_T} {Q : am_Q} {x0 x1 x2 x3 x4 x5 : Value} {v w : Int32} : AW d 66 35 [x0, x1, x2, x3, x4, x5] (.int w :: .int v :: st) σ ρ g τ Q = AW d 66 36 [x0, x1, x2, x3, x4, x5] (.int (v + w) :: st) σ ρ g τ Q := aw_lc m66 d66_35 rfl rfl rfl
theorem d66_36 : decode cX8_shareIn 36 = .ok (.istore_n 3, 1) := by decide +kernel
theorem s66_36 {d : Nat} {st : List Value} {σ : am_I} {ρ : am_R} {g : am_J} {τ : am_T} {Q : am_Q} {x0 x1 x3 x4 x5 : Value} {v : Int32} {u : Int32} : AW d 66 36 [x0, x1, .int u, x3, x4, x5] (.int v :: st) σ ρ g τ Q = AW d 66 37 [x0, x1, .int u, .int v, x4, x5] (st) σ ρ g τ Q := aw_lc m66 d66_36 rfl rfl rfl
theorem d66_37 : decode cX8_shareIn 37 = .ok (.iinc 4 1, 3) := by decide +kernel
theorem s66_37 {d : Nat} {st : List Value} {σ : am_I} {ρ : am_R} {g : am_J} {τ : am_T} {Q : am_Q} {x0 x1 x2 x5 : Value} {v : Int32} {u : Int32} : AW d 66 37 [x0, x1, x2, .int u, .int v, x5] (st) σ ρ g τ Q = AW d 66 40 [x0, x1, x2, .int u, .int (v + 1), x5] (st) σ ρ g τ Q := aw_lc m66 d66_37 rfl rfl rfl
theorem d66_40 : decode cX8_shareIn 40 = .ok (.goto (-35), 3) := by decide +kernel
theorem s66_40 {d : Nat} {st : List Value} {σ : am_I} {ρ : am_R} {g : am_J} {τ : am_T} {Q : am_Q} {x0 x1 x2 x3 x4 x5 : Value} : AW d 66 40 [x0, x1, x2, x3, x4, x5] (st) σ ρ g τ Q = AW d 66 5 [x0, x1, x2, x3, x4, x5] (st) σ ρ g τ Q := aw_lc m66 d66_40 rfl rfl rfl
theorem d66_43 : decode cX8_shareIn 43 = .ok (.iconst 0, 1) := by decide +kernel
theorem s66_43 {d : Nat} {st : List Value} {σ : am_I} {ρ : am_R} {g : am_J} {τ : am_T} {Q : am_Q} {x0 x1 x2 x3 x4 x5 : Value} : AW d 66 43 [x0, x1, x2, x3, x4, x5] (st) σ ρ g τ Q = AW d 66 44 [x0, x1, x2, x3, x4, x5] (.int 0 :: st) σ ρ g τ Q := aw_lc m66 d66_43 rfl rfl rfl
theorem d66_44 : decode cX8_shareIn 44 = .ok (.istore 4, 2) := by decide +kernel
theorem s66_44 {d : Nat} {st : List Value} {σ : am_I} {ρ : am_R} {g : am_J} {τ : am_T} {Q : am_Q} {x0 x1 x2 x4 x5 : Value} {v : Int32} {u : Int32} : AW d 66 44 [x0, x1, x2, .int u, x4, x5] (.int v :: st) σ ρ g τ Q = AW d 66 46 [x0, x1, x2, .int u, .int v, x5] (st) σ ρ g τ Q := aw_lc m66 d66_44 rfl rfl rfl
theorem d66_46 : decode cX8_shareIn 46 = .ok (.iconst 0, 1) := by decide +kernel
theorem s66_46 {d : Nat} {st : List Value} {σ : am_I} {ρ : am_R} {g : am_J} {τ : am_T} {Q : am_Q} {x0 x1 x2 x3 x4 x5 : Value} : AW d 66 46 [x0, x1, x2, x3, x4, x5] (st) σ ρ g τ Q = AW d 66 47 [x0, x1, x2, x3, x4, x5] (.int 0 :: st) σ ρ g τ Q := aw_lc m66 d66_46 rfl rfl rfl
theorem d66_47 : decode cX8_shareIn 47 = .ok (.istore 5, 2) := by decide +kernel
theorem s66_47 {d : Nat} {st : List Value} {σ : am_I} {ρ : am_R} {g : am_J} {τ : am_T} {Q : am_Q} {x0 x1 x2 x3 x5 : Value} {v : Int32} {u : Int32} : AW d 66 47 [x0, x1, x2, x3, .int u, x5] (.int v :: st) σ ρ g τ Q = AW d 66 49 [x0, x1, x2, x3, .int u, .int v] (st) σ ρ g τ Q := aw_lc m66 d66_47 rfl rfl rfl
theorem d66_49 : decode cX8_shareIn 49 = .ok (.iload 5, 2) := by decide +kernel
theorem s66_49 {d : Nat} {st : List Value} {σ : am_I} {ρ : am_R} {g : am_J} {τ : am_T} {Q : am_Q} {x0 x1 x2 x3 x4 : Value} {v : Int32} : AW d 66 49 [x0, x1, x2, x3, x4, .int v] (st) σ ρ g τ Q = AW d 66 51 [x0, x1, x2, x3, x4, .int v] (.int v :: st) σ ρ g τ Q := aw_lc m66 d66_49 rfl rfl rfl
theorem d66_51 : decode cX8_shareIn 51 = .ok (.bipush 16, 2) := by decide +kernel
theorem s66_51 {d : Nat} {st : List Value} {σ : am_I} {ρ : am_R} {g : am_J} {τ : am_T} {Q : am_Q} {x0 x1 x2 x3 x4 x5 : Value} : AW d 66 51 [x0, x1, x2, x3, x4, x5] (st) σ ρ g τ Q = AW d 66 53 [x0, x1, x2, x3, x4, x5] (.int 16 :: st) σ ρ g τ Q := aw_lc m66 d66_51 rfl rfl rfl
theorem d66_53 : decode cX8_shareIn 53 = .ok (.if_icmp .ge 79, 3) := by decide +kernel
theorem s66_53 {d : Nat} {st : List Value} {σ : am_I} {ρ : am_R} {g : am_J} {τ : am_T} {Q : am_Q} {x0 x1 x2 x3 x4 x5 : Value} {v w : Int32} : AW d 66 53 [x0, x1, x2, x3, x4, x5] (.int w :: .int v :: st) σ ρ g τ Q = if w ≤ v then AW d 66 132 [x0, x1, x2, x3, x4, x5] (st) σ ρ g τ Q else AW d 66 56 [x0, x1, x2, x3, x4, x5] (st) σ ρ g τ Q := aw_br m66 d66_53 rfl rfl rfl
theorem d66_56 : decode cX8_shareIn 56 = .ok (.aload_n 0, 1) := by decide +kernel
theorem s66_56 {d : Nat} {st : List Value} {σ : am_I} {ρ : am_R} {g : am_J} {τ : am_T} {Q : am_Q} {x1 x2 x3 x4 x5 : Value} {v : Nat} : AW d 66 56 [.ref v, x1, x2, x3, x4, x5] (st) σ ρ g τ Q = AW d 66 57 [.ref v, x1, x2, x3, x4, x5] (.ref v :: st) σ ρ g τ Q := aw_lc m66 d66_56 rfl rfl rfl
theorem d66_57 : decode cX8_shareIn 57 = .ok (.getfield 15, 3) := by decide +kernel
theorem s66_57 {d : Nat} {st : List Value} {σ : am_I} {ρ : am_R} {g : am_J} {τ : am_T} {Q : am_Q} {x0 x1 x2 x3 x4 x5 : Value} {a : Nat} (ht : τ.1 a = 8) : AW d 66 57 [x0, x1, x2, x3, x4, x5] (.ref a :: st) σ ρ g τ Q = AW d 66 60 [x0, x1, x2, x3, x4, x5] (va_rf (ρ a 1) :: st) σ ρ g τ Q := aw_gr m66 d66_57 rfl rfl rfl ht
theorem d66_60 : decode cX8_shareIn 60 = .ok (.iload 5, 2) := by decide +kernel
theorem s66_60 {d : Nat} {st : List Value} {σ : am_I} {ρ : am_R} {g : am_J} {τ : am_T} {Q : am_Q} {x0 x1 x2 x3 x4 : Value} {v : Int32} : AW d 66 60 [x0, x1, x2, x3, x4, .int v] (st) σ ρ g τ Q = AW d 66 62 [x0, x1, x2, x3, x4, .int v] (.int v :: st) σ ρ g τ Q := aw_lc m66 d66_60 rfl rfl rfl
theorem d66_62 : decode cX8_shareIn 62 = .ok (.iaload, 1) := by decide +kernel
theorem s66_62 {d : Nat} {st : List Value} {σ : am_I} {ρ : am_R} {g : am_J} {τ : am_T} {Q : am_Q} {x0 x1 x2 x3 x4 x5 : Value} {a : Nat} {j : Int32} (ht : τ.1 a = 15) (hj : am_inb j (τ.2.1 a) = true) : AW d 66 62 [x0, x1, x2, x3, x4, x5] (.int j :: .ref a :: st) σ ρ g τ Q = AW d 66 63 [x0, x1, x2, x3, x4, x5] (.int (σ a j.toNatClampNeg) :: st) σ ρ g τ Q := aw_ial m66 d66_62 rfl ht hj
theorem d66_63 : decode cX8_shareIn 63 = .ok (.iload_n 1, 1) := by decide +kernel
theorem s66_63 {d : Nat} {st : List Value} {σ : am_I} {ρ : am_R} {g : am_J} {τ : am_T} {Q : am_Q} {x0 x2 x3 x4 x5 : Value} {v : Int32} : AW d 66 63 [x0, .int v, x2, x3, x4, x5] (st) σ ρ g τ Q = AW d 66 64 [x0, .int v, x2, x3, x4, x5] (.int v :: st) σ ρ g τ Q := aw_lc m66 d66_63 rfl rfl rfl
theorem d66_64 : decode cX8_shareIn 64 = .ok (.if_icmp .ne 62, 3) := by decide +kernel
theorem s66_64 {d : Nat} {st : List Value} {σ : am_I} {ρ : am_R} {g : am_J} {τ : am_T} {Q : am_Q} {x0 x1 x2 x3 x4 x5 : Value} {v w : Int32} : AW d 66 64 [x0, x1, x2, x3, x4, x5] (.int w :: .int v :: st) σ ρ g τ Q = if ¬ v = w then AW d 66 126 [x0, x1, x2, x3, x4, x5] (st) σ ρ g τ Q else AW d 66 67 [x0, x1, x2, x3, x4, x5] (st) σ ρ g τ Q := aw_br m66 d66_64 rfl rfl rfl
theorem d66_67 : decode cX8_shareIn 67 = .ok (.aload_n 0, 1) := by decide +kernel
theorem s66_67 {d : Nat} {st : List Value} {σ : am_I} {ρ : am_R} {g : am_J} {τ : am_T} {Q : am_Q} {x1 x2 x3 x4 x5 : Value} {v : Nat} : AW d 66 67 [.ref v, x1, x2, x3, x4, x5] (st) σ ρ g τ Q = AW d 66 68 [.ref v, x1, x2, x3, x4, x5] (.ref v :: st) σ ρ g τ Q := aw_lc m66 d66_67 rfl rfl rfl
theorem d66_68 : decode cX8_shareIn 68 = .ok (.getfield 19, 3) := by decide +kernel
theorem s66_68 {d : Nat} {st : List Value} {σ : am_I} {ρ : am_R} {g : am_J} {τ : am_T} {Q : am_Q} {x0 x1 x2 x3 x4 x5 : Value} {a : Nat} (ht : τ.1 a = 8) : AW d 66 68 [x0, x1, x2, x3, x4, x5] (.ref a :: st) σ ρ g τ Q = AW d 66 71 [x0, x1, x2, x3, x4, x5] (va_rf (ρ a 2) :: st) σ ρ g τ Q := aw_gr m66 d66_68 rfl rfl rfl ht
theorem d66_71 : decode cX8_shareIn 71 = .ok (.iload 5, 2) := by decide +kernel
theorem s66_71 {d : Nat} {st : List Value} {σ : am_I} {ρ : am_R} {g : am_J} {τ : am_T} {Q : am_Q} {x0 x1 x2 x3 x4 : Value} {v : Int32} : AW d 66 71 [x0, x1, x2, x3, x4, .int v] (st) σ ρ g τ Q = AW d 66 73 [x0, x1, x2, x3, x4, .int v] (.int v :: st) σ ρ g τ Q := aw_lc m66 d66_71 rfl rfl rfl
theorem d66_73 : decode cX8_shareIn 73 = .ok (.iaload, 1) := by decide +kernel
theorem s66_73 {d : Nat} {st : List Value} {σ : am_I} {ρ : am_R} {g : am_J} {τ : am_T} {Q : am_Q} {x0 x1 x2 x3 x4 x5 : Value} {a : Nat} {j : Int32} (ht : τ.1 a = 15) (hj : am_inb j (τ.2.1 a) = true) : AW d 66 73 [x0, x1, x2, x3, x4, x5] (.int j :: .ref a :: st) σ ρ g τ Q = AW d 66 74 [x0, x1, x2, x3, x4, x5] (.int (σ a j.toNatClampNeg) :: st) σ ρ g τ Q := aw_ial m66 d66_73 rfl ht hj
theorem d66_74 : decode cX8_shareIn 74 = .ok (.ifCond .le 52, 3) := by decide +kernel
theorem s66_74 {d : Nat} {st : List Value} {σ : am_I} {ρ : am_R} {g : am_J} {τ : am_T} {Q : am_Q} {x0 x1 x2 x3 x4 x5 : Value} {v : Int32} : AW d 66 74 [x0, x1, x2, x3, x4, x5] (.int v :: st) σ ρ g τ Q = if v ≤ 0 then AW d 66 126 [x0, x1, x2, x3, x4, x5] (st) σ ρ g τ Q else AW d 66 77 [x0, x1, x2, x3, x4, x5] (st) σ ρ g τ Q := aw_br m66 d66_74 rfl rfl rfl
theorem d66_77 : decode cX8_shareIn 77 = .ok (.iload_n 3, 1) := by decide +kernel
theorem s66_77 {d : Nat} {st : List Value} {σ : am_I} {ρ : am_R} {g : am_J} {τ : am_T} {Q : am_Q} {x0 x1 x2 x4 x5 : Value} {v : Int32} : AW d 66 77 [x0, x1, x2, .int v, x4, x5] (st) σ ρ g τ Q = AW d 66 78 [x0, x1, x2, .int v, x4, x5] (.int v :: st) σ ρ g τ Q := aw_lc m66 d66_77 rfl rfl rfl
theorem d66_78 : decode cX8_shareIn 78 = .ok (.ifCond .le 48, 3) := by decide +kernel
theorem s66_78 {d : Nat} {st : List Value} {σ : am_I} {ρ : am_R} {g : am_J} {τ : am_T} {Q : am_Q} {x0 x1 x2 x3 x4 x5 : Value} {v : Int32} : AW d 66 78 [x0, x1, x2, x3, x4, x5] (.int v :: st) σ ρ g τ Q = if v ≤ 0 then AW d 66 126 [x0, x1, x2, x3, x4, x5] (st) σ ρ g τ Q else AW d 66 81 [x0, x1, x2, x3, x4, x5] (st) σ ρ g τ Q := aw_br m66 d66_78 rfl rfl rfl
theorem d66_81 : decode cX8_shareIn 81 = .ok (.aload_n 0, 1) := by decide +kernel
theorem s66_81 {d : Nat} {st : List Value} {σ : am_I} {ρ : am_R} {g : am_J} {τ : am_T} {Q : am_Q} {x1 x2 x3 x4 x5 : Value} {v : Nat} : AW d 66 81 [.ref v, x1, x2, x3, x4, x5] (st) σ ρ g τ Q = AW d 66 82 [.ref v, x1, x2, x3, x4, x5] (.ref v :: st) σ ρ g τ Q := aw_lc m66 d66_81 rfl rfl rfl
theorem d66_82 : decode cX8_shareIn 82 = .ok (.getfield 22, 3) := by decide +kernel
theorem s66_82 {d : Nat} {st : List Value} {σ : am_I} {ρ : am_R} {g : am_J} {τ : am_T} {Q : am_Q} {x0 x1 x2 x3 x4 x5 : Value} {a : Nat} (ht : τ.1 a = 8) : AW d 66 82 [x0, x1, x2, x3, x4, x5] (.ref a :: st) σ ρ g τ Q = AW d 66 85 [x0, x1, x2, x3, x4, x5] (va_rf (ρ a 3) :: st) σ ρ g τ Q := aw_gr m66 d66_82 rfl rfl rfl ht
theorem d66_85 : decode cX8_shareIn 85 = .ok (.iload 5, 2) := by decide +kernel
theorem s66_85 {d : Nat} {st : List Value} {σ : am_I} {ρ : am_R} {g : am_J} {τ : am_T} {Q : am_Q} {x0 x1 x2 x3 x4 : Value} {v : Int32} : AW d 66 85 [x0, x1, x2, x3, x4, .int v] (st) σ ρ g τ Q = AW d 66 87 [x0, x1, x2, x3, x4, .int v] (.int v :: st) σ ρ g τ Q := aw_lc m66 d66_85 rfl rfl rfl
theorem d66_87 : decode cX8_shareIn 87 = .ok (.iload_n 3, 1) := by decide +kernel
theorem s66_87 {d : Nat} {st : List Value} {σ : am_I} {ρ : am_R} {g : am_J} {τ : am_T} {Q : am_Q} {x0 x1 x2 x4 x5 : Value} {v : Int32} : AW d 66 87 [x0, x1, x2, .int v, x4, x5] (st) σ ρ g τ Q = AW d 66 88 [x0, x1, x2, .int v, x4, x5] (.int v :: st) σ ρ g τ Q := aw_lc m66 d66_87 rfl rfl rfl
theorem d66_88 : decode cX8_shareIn 88 = .ok (.iload_n 2, 1) := by decide +kernel
theorem s66_88 {d : Nat} {st : List Value} {σ : am_I} {ρ : am_R} {g : am_J} {τ : am_T} {Q : am_Q} {x0 x1 x3 x4 x5 : Value} {v : Int32} : AW d 66 88 [x0, x1, .int v, x3, x4, x5] (st) σ ρ g τ Q = AW d 66 89 [x0, x1, .int v, x3, x4, x5] (.int v :: st) σ ρ g τ Q := aw_lc m66 d66_88 rfl rfl rfl
theorem d66_89 : decode cX8_shareIn 89 = .ok (.if_icmp .gt 13, 3) := by decide +kernel
theorem s66_89 {d : Nat} {st : List Value} {σ : am_I} {ρ : am_R} {g : am_J} {τ : am_T} {Q : am_Q} {x0 x1 x2 x3 x4 x5 : Value} {v w : Int32} : AW d 66 89 [x0, x1, x2, x3, x4, x5] (.int w :: .int v :: st) σ ρ g τ Q = if w < v then AW d 66 102 [x0, x1, x2, x3, x4, x5] (st) σ ρ g τ Q else AW d 66 92 [x0, x1, x2, x3, x4, x5] (st) σ ρ g τ Q := aw_br m66 d66_89 rfl rfl rfl
theorem d66_92 : decode cX8_shareIn 92 = .ok (.aload_n 0, 1) := by decide +kernel
theorem s66_92 {d : Nat} {st : List Value} {σ : am_I} {ρ : am_R} {g : am_J} {τ : am_T} {Q : am_Q} {x1 x2 x3 x4 x5 : Value} {v : Nat} : AW d 66 92 [.ref v, x1, x2, x3, x4, x5] (st) σ ρ g τ Q = AW d 66 93 [.ref v, x1, x2, x3, x4, x5] (.ref v :: st) σ ρ g τ Q := aw_lc m66 d66_92 rfl rfl rfl
theorem d66_93 : decode cX8_shareIn 93 = .ok (.getfield 19, 3) := by decide +kernel
theorem s66_93 {d : Nat} {st : List Value} {σ : am_I} {ρ : am_R} {g : am_J} {τ : am_T} {Q : am_Q} {x0 x1 x2 x3 x4 x5 : Value} {a : Nat} (ht : τ.1 a = 8) : AW d 66 93 [x0, x1, x2, x3, x4, x5] (.ref a :: st) σ ρ g τ Q = AW d 66 96 [x0, x1, x2, x3, x4, x5] (va_rf (ρ a 2) :: st) σ ρ g τ Q := aw_gr m66 d66_93 rfl rfl rfl ht
theorem d66_96 : decode cX8_shareIn 96 = .ok (.iload 5, 2) := by decide +kernel
theorem s66_96 {d : Nat} {st : List Value} {σ : am_I} {ρ : am_R} {g : am_J} {τ : am_T} {Q : am_Q} {x0 x1 x2 x3 x4 : Value} {v : Int32} : AW d 66 96 [x0, x1, x2, x3, x4, .int v] (st) σ ρ g τ Q = AW d 66 98 [x0, x1, x2, x3, x4, .int v] (.int v :: st) σ ρ g τ Q := aw_lc m66 d66_96 rfl rfl rfl
theorem d66_98 : decode cX8_shareIn 98 = .ok (.iaload, 1) := by decide +kernel
theorem s66_98 {d : Nat} {st : List Value} {σ : am_I} {ρ : am_R} {g : am_J} {τ : am_T} {Q : am_Q} {x0 x1 x2 x3 x4 x5 : Value} {a : Nat} {j : Int32} (ht : τ.1 a = 15) (hj : am_inb j (τ.2.1 a) = true) : AW d 66 98 [x0, x1, x2, x3, x4, x5] (.int j :: .ref a :: st) σ ρ g τ Q = AW d 66 99 [x0, x1, x2, x3, x4, x5] (.int (σ a j.toNatClampNeg) :: st) σ ρ g τ Q := aw_ial m66 d66_98 rfl ht hj
theorem d66_99 : decode cX8_shareIn 99 = .ok (.goto 14, 3) := by decide +kernel
theorem s66_99 {d : Nat} {st : List Value} {σ : am_I} {ρ : am_R} {g : am_J} {τ : am_T} {Q : am_Q} {x0 x1 x2 x3 x4 x5 : Value} : AW d 66 99 [x0, x1, x2, x3, x4, x5] (st) σ ρ g τ Q = AW d 66 113 [x0, x1, x2, x3, x4, x5] (st) σ ρ g τ Q := aw_lc m66 d66_99 rfl rfl rfl
theorem d66_102 : decode cX8_shareIn 102 = .ok (.aload_n 0, 1) := by decide +kernel
theorem s66_102 {d : Nat} {st : List Value} {σ : am_I} {ρ : am_R} {g : am_J} {τ : am_T} {Q : am_Q} {x1 x2 x3 x4 x5 : Value} {v : Nat} : AW d 66 102 [.ref v, x1, x2, x3, x4, x5] (st) σ ρ g τ Q = AW d 66 103 [.ref v, x1, x2, x3, x4, x5] (.ref v :: st) σ ρ g τ Q := aw_lc m66 d66_102 rfl rfl rfl
theorem d66_103 : decode cX8_shareIn 103 = .ok (.getfield 19, 3) := by decide +kernel
theorem s66_103 {d : Nat} {st : List Value} {σ : am_I} {ρ : am_R} {g : am_J} {τ : am_T} {Q : am_Q} {x0 x1 x2 x3 x4 x5 : Value} {a : Nat} (ht : τ.1 a = 8) : AW d 66 103 [x0, x1, x2, x3, x4, x5] (.ref a :: st) σ ρ g τ Q = AW d 66 106 [x0, x1, x2, x3, x4, x5] (va_rf (ρ a 2) :: st) σ ρ g τ Q := aw_gr m66 d66_103 rfl rfl rfl ht
theorem d66_106 : decode cX8_shareIn 106 = .ok (.iload 5, 2) := by decide +kernel
theorem s66_106 {d : Nat} {st : List Value} {σ : am_I} {ρ : am_R} {g : am_J} {τ : am_T} {Q : am_Q} {x0 x1 x2 x3 x4 : Value} {v : Int32} : AW d 66 106 [x0, x1, x2, x3, x4, .int v] (st) σ ρ g τ Q = AW d 66 108 [x0, x1, x2, x3, x4, .int v] (.int v :: st) σ ρ g τ Q := aw_lc m66 d66_106 rfl rfl rfl
theorem d66_108 : decode cX8_shareIn 108 = .ok (.iaload, 1) := by decide +kernel
theorem s66_108 {d : Nat} {st : List Value} {σ : am_I} {ρ : am_R} {g : am_J} {τ : am_T} {Q : am_Q} {x0 x1 x2 x3 x4 x5 : Value} {a : Nat} {j : Int32} (ht : τ.1 a = 15) (hj : am_inb j (τ.2.1 a) = true) : AW d 66 108 [x0, x1, x2, x3, x4, x5] (.int j :: .ref a :: st) σ ρ g τ Q = AW d 66 109 [x0, x1, x2, x3, x4, x5] (.int (σ a j.toNatClampNeg) :: st) σ ρ g τ Q := aw_ial m66 d66_108 rfl ht hj
theorem d66_109 : decode cX8_shareIn 109 = .ok (.iload_n 2, 1) := by decide +kernel
theorem s66_109 {d : Nat} {st : List Value} {σ : am_I} {ρ : am_R} {g : am_J} {τ : am_T} {Q : am_Q} {x0 x1 x3 x4 x5 : Value} {v : Int32} : AW d 66 109 [x0, x1, .int v, x3, x4, x5] (st) σ ρ g τ Q = AW d 66 110 [x0, x1, .int v, x3, x4, x5] (.int v :: st) σ ρ g τ Q := aw_lc m66 d66_109 rfl rfl rfl
theorem d66_110 : decode cX8_shareIn 110 = .ok (.imul, 1) := by decide +kernel
theorem s66_110 {d : Nat} {st : List Value} {σ : am_I} {ρ : am_R} {g : am_J} {τ : am_T} {Q : am_Q} {x0 x1 x2 x3 x4 x5 : Value} {v w : Int32} : AW d 66 110 [x0, x1, x2, x3, x4, x5] (.int w :: .int v :: st) σ ρ g τ Q = AW d 66 111 [x0, x1, x2, x3, x4, x5] (.int (v * w) :: st) σ ρ g τ Q := aw_lc m66 d66_110 rfl rfl rfl
theorem d66_111 : decode cX8_shareIn 111 = .ok (.iload_n 3, 1) := by decide +kernel
theorem s66_111 {d : Nat} {st : List Value} {σ : am_I} {ρ : am_R} {g : am_J} {τ : am_T} {Q : am_Q} {x0 x1 x2 x4 x5 : Value} {v : Int32} : AW d 66 111 [x0, x1, x2, .int v, x4, x5] (st) σ ρ g τ Q = AW d 66 112 [x0, x1, x2, .int v, x4, x5] (.int v :: st) σ ρ g τ Q := aw_lc m66 d66_111 rfl rfl rfl
theorem d66_112 : decode cX8_shareIn 112 = .ok (.idiv, 1) := by decide +kernel
theorem s66_112 {d : Nat} {st : List Value} {σ : am_I} {ρ : am_R} {g : am_J} {τ : am_T} {Q : am_Q} {x0 x1 x2 x3 x4 x5 : Value} {v w : Int32} (h0 : ¬ w = 0) : AW d 66 112 [x0, x1, x2, x3, x4, x5] (.int w :: .int v :: st) σ ρ g τ Q = AW d 66 113 [x0, x1, x2, x3, x4, x5] (.int (v / w) :: st) σ ρ g τ Q := aw_div m66 d66_112 h0 rfl
theorem d66_113 : decode cX8_shareIn 113 = .ok (.iastore, 1) := by decide +kernel
theorem s66_113 {d : Nat} {st : List Value} {σ : am_I} {ρ : am_R} {g : am_J} {τ : am_T} {Q : am_Q} {x0 x1 x2 x3 x4 x5 : Value} {a : Nat} {j v : Int32} (ht : τ.1 a = 15) (ha : a < am_BG) (hj : am_inb j (τ.2.1 a) = true) : AW d 66 113 [x0, x1, x2, x3, x4, x5] (.int v :: .int j :: .ref a :: st) σ ρ g τ Q = AW d 66 114 [x0, x1, x2, x3, x4, x5] (st) (am_u σ a j.toNatClampNeg v) ρ g τ Q := aw_ias m66 d66_113 rfl ht ha hj
theorem d66_114 : decode cX8_shareIn 114 = .ok (.iload 4, 2) := by decide +kernel
theorem s66_114 {d : Nat} {st : List Value} {σ : am_I} {ρ : am_R} {g : am_J} {τ : am_T} {Q : am_Q} {x0 x1 x2 x3 x5 : Value} {v : Int32} : AW d 66 114 [x0, x1, x2, x3, .int v, x5] (st) σ ρ g τ Q = AW d 66 116 [x0, x1, x2, x3, .int v, x5] (.int v :: st) σ ρ g τ Q := aw_lc m66 d66_114 rfl rfl rfl
theorem d66_116 : decode cX8_shareIn 116 = .ok (.aload_n 0, 1) := by decide +kernel
theorem s66_116 {d : Nat} {st : List Value} {σ : am_I} {ρ : am_R} {g : am_J} {τ : am_T} {Q : am_Q} {x1 x2 x3 x4 x5 : Value} {v : Nat} : AW d 66 116 [.ref v, x1, x2, x3, x4, x5] (st) σ ρ g τ Q = AW d 66 117 [.ref v, x1, x2, x3, x4, x5] (.ref v :: st) σ ρ g τ Q := aw_lc m66 d66_116 rfl rfl rfl
theorem d66_117 : decode cX8_shareIn 117 = .ok (.getfield 22, 3) := by decide +kernel
theorem s66_117 {d : Nat} {st : List Value} {σ : am_I} {ρ : am_R} {g : am_J} {τ : am_T} {Q : am_Q} {x0 x1 x2 x3 x4 x5 : Value} {a : Nat} (ht : τ.1 a = 8) : AW d 66 117 [x0, x1, x2, x3, x4, x5] (.ref a :: st) σ ρ g τ Q = AW d 66 120 [x0, x1, x2, x3, x4, x5] (va_rf (ρ a 3) :: st) σ ρ g τ Q := aw_gr m66 d66_117 rfl rfl rfl ht
theorem d66_120 : decode cX8_shareIn 120 = .ok (.iload 5, 2) := by decide +kernel
theorem s66_120 {d : Nat} {st : List Value} {σ : am_I} {ρ : am_R} {g : am_J} {τ : am_T} {Q : am_Q} {x0 x1 x2 x3 x4 : Value} {v : Int32} : AW d 66 120 [x0, x1, x2, x3, x4, .int v] (st) σ ρ g τ Q = AW d 66 122 [x0, x1, x2, x3, x4, .int v] (.int v :: st) σ ρ g τ Q := aw_lc m66 d66_120 rfl rfl rfl
theorem d66_122 : decode cX8_shareIn 122 = .ok (.iaload, 1) := by decide +kernel
theorem s66_122 {d : Nat} {st : List Value} {σ : am_I} {ρ : am_R} {g : am_J} {τ : am_T} {Q : am_Q} {x0 x1 x2 x3 x4 x5 : Value} {a : Nat} {j : Int32} (ht : τ.1 a = 15) (hj : am_inb j (τ.2.1 a) = true) : AW d 66 122 [x0, x1, x2, x3, x4, x5] (.int j :: .ref a :: st) σ ρ g τ Q = AW d 66 123 [x0, x1, x2, x3, x4, x5] (.int (σ a j.toNatClampNeg) :: st) σ ρ g τ Q := aw_ial m66 d66_122 rfl ht hj
theorem d66_123 : decode cX8_shareIn 123 = .ok (.iadd, 1) := by decide +kernel
theorem s66_123 {d : Nat} {st : List Value} {σ : am_I} {ρ : am_R} {g : am_J} {τ : am_T} {Q : am_Q} {x0 x1 x2 x3 x4 x5 : Value} {v w : Int32} : AW d 66 123 [x0, x1, x2, x3, x4, x5] (.int w :: .int v :: st) σ ρ g τ Q = AW d 66 124 [x0, x1, x2, x3, x4, x5] (.int (v + w) :: st) σ ρ g τ Q := aw_lc m66 d66_123 rfl rfl rfl
theorem d66_124 : decode cX8_shareIn 124 = .ok (.istore 4, 2) := by decide +kernel
theorem s66_124 {d : Nat} {st : List Value} {σ : am_I} {ρ : am_R} {g : am_J} {τ : am_T} {Q : am_Q} {x0 x1 x2 x4 x5 : Value} {v : Int32} {u : Int32} : AW d 66 124 [x0, x1, x2, .int u, x4, x5] (.int v :: st) σ ρ g τ Q = AW d 66 126 [x0, x1, x2, .int u, .int v, x5] (st) σ ρ g τ Q := aw_lc m66 d66_124 rfl rfl rfl
theorem d66_126 : decode cX8_shareIn 126 = .ok (.iinc 5 1, 3) := by decide +kernel
theorem s66_126 {d : Nat} {st : List Value} {σ : am_I} {ρ : am_R} {g : am_J} {τ : am_T} {Q : am_Q} {x0 x1 x2 x3 : Value} {v : Int32} {u : Int32} : AW d 66 126 [x0, x1, x2, x3, .int u, .int v] (st) σ ρ g τ Q = AW d 66 129 [x0, x1, x2, x3, .int u, .int (v + 1)] (st) σ ρ g τ Q := aw_lc m66 d66_126 rfl rfl rfl
theorem d66_129 : decode cX8_shareIn 129 = .ok (.goto (-80), 3) := by decide +kernel
theorem s66_129 {d : Nat} {st : List Value} {σ : am_I} {ρ : am_R} {g : am_J} {τ : am_T} {Q : am_Q} {x0 x1 x2 x3 x4 x5 : Value} : AW d 66 129 [x0, x1, x2, x3, x4, x5] (st) σ ρ g τ Q = AW d 66 49 [x0, x1, x2, x3, x4, x5] (st) σ ρ g τ Q := aw_lc m66 d66_129 rfl rfl rfl
theorem d66_132 : decode cX8_shareIn 132 = .ok (.iconst 0, 1) := by decide +kernel
theorem s66_132 {d : Nat} {st : List Value} {σ : am_I} {ρ : am_R} {g : am_J} {τ : am_T} {Q : am_Q} {x0 x1 x2 x3 x4 x5 : Value} : AW d 66 132 [x0, x1, x2, x3, x4, x5] (st) σ ρ g τ Q = AW d 66 133 [x0, x1, x2, x3, x4, x5] (.int 0 :: st) σ ρ g τ Q := aw_lc m66 d66_132 rfl rfl rfl
theorem d66_133 : decode cX8_shareIn 133 = .ok (.istore 5, 2) := by decide +kernel
theorem s66_133 {d : Nat} {st : List Value} {σ : am_I} {ρ : am_R} {g : am_J} {τ : am_T} {Q : am_Q} {x0 x1 x2 x3 x5 : Value} {v : Int32} {u : Int32} : AW d 66 133 [x0, x1, x2, x3, .int u, x5] (.int v :: st) σ ρ g τ Q = AW d 66 135 [x0, x1, x2, x3, .int u, .int v] (st) σ ρ g τ Q := aw_lc m66 d66_133 rfl rfl rfl
theorem d66_135 : decode cX8_shareIn 135 = .ok (.iload 5, 2) := by decide +kernel
theorem s66_135 {d : Nat} {st : List Value} {σ : am_I} {ρ : am_R} {g : am_J} {τ : am_T} {Q : am_Q} {x0 x1 x2 x3 x4 : Value} {v : Int32} : AW d 66 135 [x0, x1, x2, x3, x4, .int v] (st) σ ρ g τ Q = AW d 66 137 [x0, x1, x2, x3, x4, .int v] (.int v :: st) σ ρ g τ Q := aw_lc m66 d66_135 rfl rfl rfl
theorem d66_137 : decode cX8_shareIn 137 = .ok (.bipush 16, 2) := by decide +kernel
theorem s66_137 {d : Nat} {st : List Value} {σ : am_I} {ρ : am_R} {g : am_J} {τ : am_T} {Q : am_Q} {x0 x1 x2 x3 x4 x5 : Value} : AW d 66 137 [x0, x1, x2, x3, x4, x5] (st) σ ρ g τ Q = AW d 66 139 [x0, x1, x2, x3, x4, x5] (.int 16 :: st) σ ρ g τ Q := aw_lc m66 d66_137 rfl rfl rfl
theorem d66_139 : decode cX8_shareIn 139 = .ok (.if_icmp .ge 57, 3) := by decide +kernel
theorem s66_139 {d : Nat} {st : List Value} {σ : am_I} {ρ : am_R} {g : am_J} {τ : am_T} {Q : am_Q} {x0 x1 x2 x3 x4 x5 : Value} {v w : Int32} : AW d 66 139 [x0, x1, x2, x3, x4, x5] (.int w :: .int v :: st) σ ρ g τ Q = if w ≤ v then AW d 66 196 [x0, x1, x2, x3, x4, x5] (st) σ ρ g τ Q else AW d 66 142 [x0, x1, x2, x3, x4, x5] (st) σ ρ g τ Q := aw_br m66 d66_139 rfl rfl rfl
theorem d66_142 : decode cX8_shareIn 142 = .ok (.aload_n 0, 1) := by decide +kernel
theorem s66_142 {d : Nat} {st : List Value} {σ : am_I} {ρ : am_R} {g : am_J} {τ : am_T} {Q : am_Q} {x1 x2 x3 x4 x5 : Value} {v : Nat} : AW d 66 142 [.ref v, x1, x2, x3, x4, x5] (st) σ ρ g τ Q = AW d 66 143 [.ref v, x1, x2, x3, x4, x5] (.ref v :: st) σ ρ g τ Q := aw_lc m66 d66_142 rfl rfl rfl
theorem d66_143 : decode cX8_shareIn 143 = .ok (.getfield 15, 3) := by decide +kernel
theorem s66_143 {d : Nat} {st : List Value} {σ : am_I} {ρ : am_R} {g : am_J} {τ : am_T} {Q : am_Q} {x0 x1 x2 x3 x4 x5 : Value} {a : Nat} (ht : τ.1 a = 8) : AW d 66 143 [x0, x1, x2, x3, x4, x5] (.ref a :: st) σ ρ g τ Q = AW d 66 146 [x0, x1, x2, x3, x4, x5] (va_rf (ρ a 1) :: st) σ ρ g τ Q := aw_gr m66 d66_143 rfl rfl rfl ht
theorem d66_146 : decode cX8_shareIn 146 = .ok (.iload 5, 2) := by decide +kernel
theorem s66_146 {d : Nat} {st : List Value} {σ : am_I} {ρ : am_R} {g : am_J} {τ : am_T} {Q : am_Q} {x0 x1 x2 x3 x4 : Value} {v : Int32} : AW d 66 146 [x0, x1, x2, x3, x4, .int v] (st) σ ρ g τ Q = AW d 66 148 [x0, x1, x2, x3, x4, .int v] (.int v :: st) σ ρ g τ Q := aw_lc m66 d66_146 rfl rfl rfl
theorem d66_148 : decode cX8_shareIn 148 = .ok (.iaload, 1) := by decide +kernel
theorem s66_148 {d : Nat} {st : List Value} {σ : am_I} {ρ : am_R} {g : am_J} {τ : am_T} {Q : am_Q} {x0 x1 x2 x3 x4 x5 : Value} {a : Nat} {j : Int32} (ht : τ.1 a = 15) (hj : am_inb j (τ.2.1 a) = true) : AW d 66 148 [x0, x1, x2, x3, x4, x5] (.int j :: .ref a :: st) σ ρ g τ Q = AW d 66 149 [x0, x1, x2, x3, x4, x5] (.int (σ a j.toNatClampNeg) :: st) σ ρ g τ Q := aw_ial m66 d66_148 rfl ht hj
theorem d66_149 : decode cX8_shareIn 149 = .ok (.iload_n 1, 1) := by decide +kernel
theorem s66_149 {d : Nat} {st : List Value} {σ : am_I} {ρ : am_R} {g : am_J} {τ : am_T} {Q : am_Q} {x0 x2 x3 x4 x5 : Value} {v : Int32} : AW d 66 149 [x0, .int v, x2, x3, x4, x5] (st) σ ρ g τ Q = AW d 66 150 [x0, .int v, x2, x3, x4, x5] (.int v :: st) σ ρ g τ Q := aw_lc m66 d66_149 rfl rfl rfl
theorem d66_150 : decode cX8_shareIn 150 = .ok (.if_icmp .ne 40, 3) := by decide +kernel
theorem s66_150 {d : Nat} {st : List Value} {σ : am_I} {ρ : am_R} {g : am_J} {τ : am_T} {Q : am_Q} {x0 x1 x2 x3 x4 x5 : Value} {v w : Int32} : AW d 66 150 [x0, x1, x2, x3, x4, x5] (.int w :: .int v :: st) σ ρ g τ Q = if ¬ v = w then AW d 66 190 [x0, x1, x2, x3, x4, x5] (st) σ ρ g τ Q else AW d 66 153 [x0, x1, x2, x3, x4, x5] (st) σ ρ g τ Q := aw_br m66 d66_150 rfl rfl rfl
theorem d66_153 : decode cX8_shareIn 153 = .ok (.iload 4, 2) := by decide +kernel
theorem s66_153 {d : Nat} {st : List Value} {σ : am_I} {ρ : am_R} {g : am_J} {τ : am_T} {Q : am_Q} {x0 x1 x2 x3 x5 : Value} {v : Int32} : AW d 66 153 [x0, x1, x2, x3, .int v, x5] (st) σ ρ g τ Q = AW d 66 155 [x0, x1, x2, x3, .int v, x5] (.int v :: st) σ ρ g τ Q := aw_lc m66 d66_153 rfl rfl rfl
theorem d66_155 : decode cX8_shareIn 155 = .ok (.iload_n 2, 1) := by decide +kernel
theorem s66_155 {d : Nat} {st : List Value} {σ : am_I} {ρ : am_R} {g : am_J} {τ : am_T} {Q : am_Q} {x0 x1 x3 x4 x5 : Value} {v : Int32} : AW d 66 155 [x0, x1, .int v, x3, x4, x5] (st) σ ρ g τ Q = AW d 66 156 [x0, x1, .int v, x3, x4, x5] (.int v :: st) σ ρ g τ Q := aw_lc m66 d66_155 rfl rfl rfl
theorem d66_156 : decode cX8_shareIn 156 = .ok (.if_icmp .ge 34, 3) := by decide +kernel
theorem s66_156 {d : Nat} {st : List Value} {σ : am_I} {ρ : am_R} {g : am_J} {τ : am_T} {Q : am_Q} {x0 x1 x2 x3 x4 x5 : Value} {v w : Int32} : AW d 66 156 [x0, x1, x2, x3, x4, x5] (.int w :: .int v :: st) σ ρ g τ Q = if w ≤ v then AW d 66 190 [x0, x1, x2, x3, x4, x5] (st) σ ρ g τ Q else AW d 66 159 [x0, x1, x2, x3, x4, x5] (st) σ ρ g τ Q := aw_br m66 d66_156 rfl rfl rfl
theorem d66_159 : decode cX8_shareIn 159 = .ok (.aload_n 0, 1) := by decide +kernel
theorem s66_159 {d : Nat} {st : List Value} {σ : am_I} {ρ : am_R} {g : am_J} {τ : am_T} {Q : am_Q} {x1 x2 x3 x4 x5 : Value} {v : Nat} : AW d 66 159 [.ref v, x1, x2, x3, x4, x5] (st) σ ρ g τ Q = AW d 66 160 [.ref v, x1, x2, x3, x4, x5] (.ref v :: st) σ ρ g τ Q := aw_lc m66 d66_159 rfl rfl rfl
theorem d66_160 : decode cX8_shareIn 160 = .ok (.getfield 22, 3) := by decide +kernel
theorem s66_160 {d : Nat} {st : List Value} {σ : am_I} {ρ : am_R} {g : am_J} {τ : am_T} {Q : am_Q} {x0 x1 x2 x3 x4 x5 : Value} {a : Nat} (ht : τ.1 a = 8) : AW d 66 160 [x0, x1, x2, x3, x4, x5] (.ref a :: st) σ ρ g τ Q = AW d 66 163 [x0, x1, x2, x3, x4, x5] (va_rf (ρ a 3) :: st) σ ρ g τ Q := aw_gr m66 d66_160 rfl rfl rfl ht
theorem d66_163 : decode cX8_shareIn 163 = .ok (.iload 5, 2) := by decide +kernel
theorem s66_163 {d : Nat} {st : List Value} {σ : am_I} {ρ : am_R} {g : am_J} {τ : am_T} {Q : am_Q} {x0 x1 x2 x3 x4 : Value} {v : Int32} : AW d 66 163 [x0, x1, x2, x3, x4, .int v] (st) σ ρ g τ Q = AW d 66 165 [x0, x1, x2, x3, x4, .int v] (.int v :: st) σ ρ g τ Q := aw_lc m66 d66_163 rfl rfl rfl
theorem d66_165 : decode cX8_shareIn 165 = .ok (.iaload, 1) := by decide +kernel
theorem s66_165 {d : Nat} {st : List Value} {σ : am_I} {ρ : am_R} {g : am_J} {τ : am_T} {Q : am_Q} {x0 x1 x2 x3 x4 x5 : Value} {a : Nat} {j : Int32} (ht : τ.1 a = 15) (hj : am_inb j (τ.2.1 a) = true) : AW d 66 165 [x0, x1, x2, x3, x4, x5] (.int j :: .ref a :: st) σ ρ g τ Q = AW d 66 166 [x0, x1, x2, x3, x4, x5] (.int (σ a j.toNatClampNeg) :: st) σ ρ g τ Q := aw_ial m66 d66_165 rfl ht hj
theorem d66_166 : decode cX8_shareIn 166 = .ok (.aload_n 0, 1) := by decide +kernel
theorem s66_166 {d : Nat} {st : List Value} {σ : am_I} {ρ : am_R} {g : am_J} {τ : am_T} {Q : am_Q} {x1 x2 x3 x4 x5 : Value} {v : Nat} : AW d 66 166 [.ref v, x1, x2, x3, x4, x5] (st) σ ρ g τ Q = AW d 66 167 [.ref v, x1, x2, x3, x4, x5] (.ref v :: st) σ ρ g τ Q := aw_lc m66 d66_166 rfl rfl rfl
theorem d66_167 : decode cX8_shareIn 167 = .ok (.getfield 19, 3) := by decide +kernel
theorem s66_167 {d : Nat} {st : List Value} {σ : am_I} {ρ : am_R} {g : am_J} {τ : am_T} {Q : am_Q} {x0 x1 x2 x3 x4 x5 : Value} {a : Nat} (ht : τ.1 a = 8) : AW d 66 167 [x0, x1, x2, x3, x4, x5] (.ref a :: st) σ ρ g τ Q = AW d 66 170 [x0, x1, x2, x3, x4, x5] (va_rf (ρ a 2) :: st) σ ρ g τ Q := aw_gr m66 d66_167 rfl rfl rfl ht
theorem d66_170 : decode cX8_shareIn 170 = .ok (.iload 5, 2) := by decide +kernel
theorem s66_170 {d : Nat} {st : List Value} {σ : am_I} {ρ : am_R} {g : am_J} {τ : am_T} {Q : am_Q} {x0 x1 x2 x3 x4 : Value} {v : Int32} : AW d 66 170 [x0, x1, x2, x3, x4, .int v] (st) σ ρ g τ Q = AW d 66 172 [x0, x1, x2, x3, x4, .int v] (.int v :: st) σ ρ g τ Q := aw_lc m66 d66_170 rfl rfl rfl
theorem d66_172 : decode cX8_shareIn 172 = .ok (.iaload, 1) := by decide +kernel
theorem s66_172 {d : Nat} {st : List Value} {σ : am_I} {ρ : am_R} {g : am_J} {τ : am_T} {Q : am_Q} {x0 x1 x2 x3 x4 x5 : Value} {a : Nat} {j : Int32} (ht : τ.1 a = 15) (hj : am_inb j (τ.2.1 a) = true) : AW d 66 172 [x0, x1, x2, x3, x4, x5] (.int j :: .ref a :: st) σ ρ g τ Q = AW d 66 173 [x0, x1, x2, x3, x4, x5] (.int (σ a j.toNatClampNeg) :: st) σ ρ g τ Q := aw_ial m66 d66_172 rfl ht hj
theorem d66_173 : decode cX8_shareIn 173 = .ok (.if_icmp .ge 17, 3) := by decide +kernel
theorem s66_173 {d : Nat} {st : List Value} {σ : am_I} {ρ : am_R} {g : am_J} {τ : am_T} {Q : am_Q} {x0 x1 x2 x3 x4 x5 : Value} {v w : Int32} : AW d 66 173 [x0, x1, x2, x3, x4, x5] (.int w :: .int v :: st) σ ρ g τ Q = if w ≤ v then AW d 66 190 [x0, x1, x2, x3, x4, x5] (st) σ ρ g τ Q else AW d 66 176 [x0, x1, x2, x3, x4, x5] (st) σ ρ g τ Q := aw_br m66 d66_173 rfl rfl rfl
theorem d66_176 : decode cX8_shareIn 176 = .ok (.aload_n 0, 1) := by decide +kernel
theorem s66_176 {d : Nat} {st : List Value} {σ : am_I} {ρ : am_R} {g : am_J} {τ : am_T} {Q : am_Q} {x1 x2 x3 x4 x5 : Value} {v : Nat} : AW d 66 176 [.ref v, x1, x2, x3, x4, x5] (st) σ ρ g τ Q = AW d 66 177 [.ref v, x1, x2, x3, x4, x5] (.ref v :: st) σ ρ g τ Q := aw_lc m66 d66_176 rfl rfl rfl
theorem d66_177 : decode cX8_shareIn 177 = .ok (.getfield 22, 3) := by decide +kernel
theorem s66_177 {d : Nat} {st : List Value} {σ : am_I} {ρ : am_R} {g : am_J} {τ : am_T} {Q : am_Q} {x0 x1 x2 x3 x4 x5 : Value} {a : Nat} (ht : τ.1 a = 8) : AW d 66 177 [x0, x1, x2, x3, x4, x5] (.ref a :: st) σ ρ g τ Q = AW d 66 180 [x0, x1, x2, x3, x4, x5] (va_rf (ρ a 3) :: st) σ ρ g τ Q := aw_gr m66 d66_177 rfl rfl rfl ht
theorem d66_180 : decode cX8_shareIn 180 = .ok (.iload 5, 2) := by decide +kernel
theorem s66_180 {d : Nat} {st : List Value} {σ : am_I} {ρ : am_R} {g : am_J} {τ : am_T} {Q : am_Q} {x0 x1 x2 x3 x4 : Value} {v : Int32} : AW d 66 180 [x0, x1, x2, x3, x4, .int v] (st) σ ρ g τ Q = AW d 66 182 [x0, x1, x2, x3, x4, .int v] (.int v :: st) σ ρ g τ Q := aw_lc m66 d66_180 rfl rfl rfl
theorem d66_182 : decode cX8_shareIn 182 = .ok (.dup2, 1) := by decide +kernel
theorem s66_182 {d : Nat} {st : List Value} {σ : am_I} {ρ : am_R} {g : am_J} {τ : am_T} {Q : am_Q} {x0 x1 x2 x3 x4 x5 : Value} {v : Int32} {w : Nat} : AW d 66 182 [x0, x1, x2, x3, x4, x5] (.int v :: .ref w :: st) σ ρ g τ Q = AW d 66 183 [x0, x1, x2, x3, x4, x5] (.int v :: .ref w :: .int v :: .ref w :: st) σ ρ g τ Q := aw_lc m66 d66_182 rfl rfl rfl
theorem d66_183 : decode cX8_shareIn 183 = .ok (.iaload, 1) := by decide +kernel
theorem s66_183 {d : Nat} {st : List Value} {σ : am_I} {ρ : am_R} {g : am_J} {τ : am_T} {Q : am_Q} {x0 x1 x2 x3 x4 x5 : Value} {a : Nat} {j : Int32} (ht : τ.1 a = 15) (hj : am_inb j (τ.2.1 a) = true) : AW d 66 183 [x0, x1, x2, x3, x4, x5] (.int j :: .ref a :: st) σ ρ g τ Q = AW d 66 184 [x0, x1, x2, x3, x4, x5] (.int (σ a j.toNatClampNeg) :: st) σ ρ g τ Q := aw_ial m66 d66_183 rfl ht hj
theorem d66_184 : decode cX8_shareIn 184 = .ok (.iconst 1, 1) := by decide +kernel
theorem s66_184 {d : Nat} {st : List Value} {σ : am_I} {ρ : am_R} {g : am_J} {τ : am_T} {Q : am_Q} {x0 x1 x2 x3 x4 x5 : Value} : AW d 66 184 [x0, x1, x2, x3, x4, x5] (st) σ ρ g τ Q = AW d 66 185 [x0, x1, x2, x3, x4, x5] (.int 1 :: st) σ ρ g τ Q := aw_lc m66 d66_184 rfl rfl rfl
theorem d66_185 : decode cX8_shareIn 185 = .ok (.iadd, 1) := by decide +kernel
theorem s66_185 {d : Nat} {st : List Value} {σ : am_I} {ρ : am_R} {g : am_J} {τ : am_T} {Q : am_Q} {x0 x1 x2 x3 x4 x5 : Value} {v w : Int32} : AW d 66 185 [x0, x1, x2, x3, x4, x5] (.int w :: .int v :: st) σ ρ g τ Q = AW d 66 186 [x0, x1, x2, x3, x4, x5] (.int (v + w) :: st) σ ρ g τ Q := aw_lc m66 d66_185 rfl rfl rfl
theorem d66_186 : decode cX8_shareIn 186 = .ok (.iastore, 1) := by decide +kernel
theorem s66_186 {d : Nat} {st : List Value} {σ : am_I} {ρ : am_R} {g : am_J} {τ : am_T} {Q : am_Q} {x0 x1 x2 x3 x4 x5 : Value} {a : Nat} {j v : Int32} (ht : τ.1 a = 15) (ha : a < am_BG) (hj : am_inb j (τ.2.1 a) = true) : AW d 66 186 [x0, x1, x2, x3, x4, x5] (.int v :: .int j :: .ref a :: st) σ ρ g τ Q = AW d 66 187 [x0, x1, x2, x3, x4, x5] (st) (am_u σ a j.toNatClampNeg v) ρ g τ Q := aw_ias m66 d66_186 rfl ht ha hj
theorem d66_187 : decode cX8_shareIn 187 = .ok (.iinc 4 1, 3) := by decide +kernel
theorem s66_187 {d : Nat} {st : List Value} {σ : am_I} {ρ : am_R} {g : am_J} {τ : am_T} {Q : am_Q} {x0 x1 x2 x5 : Value} {v : Int32} {u : Int32} : AW d 66 187 [x0, x1, x2, .int u, .int v, x5] (st) σ ρ g τ Q = AW d 66 190 [x0, x1, x2, .int u, .int (v + 1), x5] (st) σ ρ g τ Q := aw_lc m66 d66_187 rfl rfl rfl
theorem d66_190 : decode cX8_shareIn 190 = .ok (.iinc 5 1, 3) := by decide +kernel
theorem s66_190 {d : Nat} {st : List Value} {σ : am_I} {ρ : am_R} {g : am_J} {τ : am_T} {Q : am_Q} {x0 x1 x2 x3 : Value} {v : Int32} {u : Int32} : AW d 66 190 [x0, x1, x2, x3, .int u, .int v] (st) σ ρ g τ Q = AW d 66 193 [x0, x1, x2, x3, .int u, .int (v + 1)] (st) σ ρ g τ Q := aw_lc m66 d66_190 rfl rfl rfl
theorem d66_193 : decode cX8_shareIn 193 = .ok (.goto (-58), 3) := by decide +kernel
theorem s66_193 {d : Nat} {st : List Value} {σ : am_I} {ρ : am_R} {g : am_J} {τ : am_T} {Q : am_Q} {x0 x1 x2 x3 x4 x5 : Value} : AW d 66 193 [x0, x1, x2, x3, x4, x5] (st) σ ρ g τ Q = AW d 66 135 [x0, x1, x2, x3, x4, x5] (st) σ ρ g τ Q := aw_lc m66 d66_193 rfl rfl rfl
theorem d66_196 : decode cX8_shareIn 196 = .ok (.iload 4, 2) := by decide +kernel
theorem s66_196 {d : Nat} {st : List Value} {σ : am_I} {ρ : am_R} {g : am_J} {τ : am_T} {Q : am_Q} {x0 x1 x2 x3 x5 : Value} {v : Int32} : AW d 66 196 [x0, x1, x2, x3, .int v, x5] (st) σ ρ g τ Q = AW d 66 198 [x0, x1, x2, x3, .int v, x5] (.int v :: st) σ ρ g τ Q := aw_lc m66 d66_196 rfl rfl rfl
theorem d66_198 : decode cX8_shareIn 198 = .ok (.ireturn, 1) := by decide +kernel
theorem s66_198 {d : Nat} {σ : am_I} {ρ : am_R} {g : am_J} {τ : am_T} {Q : am_Q} {x0 x1 x2 x3 x4 x5 : Value} {v : Int32} : AW d 66 198 [x0, x1, x2, x3, x4, x5] ([.int v]) σ ρ g τ Q = Q (some (.int v)) σ ρ g τ := aw_ri m66 d66_198 rfl
theorem d67_0 : decode cX8_settle 0 = .ok (.iconst 0, 1) := by decide +kernel
theorem s67_0 {d : Nat} {st : List Value} {σ : am_I} {ρ : am_R} {g : am_J} {τ : am_T} {Q : am_Q} {x0 x1 x2 : Value} : AW d 67 0 [x0, x1, x2] (st) σ ρ g τ Q = AW d 67 1 [x0, x1, x2] (.int 0 :: st) σ ρ g τ Q := aw_lc m67 d67_0 rfl rfl rfl
theorem d67_1 : decode cX8_settle 1 = .ok (.istore_n 2, 1) := by decide +kernel
theorem s67_1r {d : Nat} {st : List Value} {σ : am_I} {ρ : am_R} {g : am_J} {τ : am_T} {Q : am_Q} {x0 x2 : Value} {v : Int32} {u : Nat} : AW d 67 1 [x0, .ref u, x2] (.int v :: st) σ ρ g τ Q = AW d 67 2 [x0, .ref u, .int v] (st) σ ρ g τ Q := aw_lc m67 d67_1 rfl rfl rfl
theorem d67_2 : decode cX8_settle 2 = .ok (.iload_n 2, 1) := by decide +kernel
theorem s67_2 {d : Nat} {st : List Value} {σ : am_I} {ρ : am_R} {g : am_J} {τ : am_T} {Q : am_Q} {x0 x1 : Value} {v : Int32} : AW d 67 2 [x0, x1, .int v] (st) σ ρ g τ Q = AW d 67 3 [x0, x1, .int v] (.int v :: st) σ ρ g τ Q := aw_lc m67 d67_2 rfl rfl rfl
theorem d67_3 : decode cX8_settle 3 = .ok (.bipush 16, 2) := by decide +kernel
theorem s67_3 {d : Nat} {st : List Value} {σ : am_I} {ρ : am_R} {g : am_J} {τ : am_T} {Q : am_Q} {x0 x1 x2 : Value} : AW d 67 3 [x0, x1, x2] (st) σ ρ g τ Q = AW d 67 5 [x0, x1, x2] (.int 16 :: st) σ ρ g τ Q := aw_lc m67 d67_3 rfl rfl rfl
theorem d67_5 : decode cX8_settle 5 = .ok (.if_icmp .ge 66, 3) := by decide +kernel
theorem s67_5 {d : Nat} {st : List Value} {σ : am_I} {ρ : am_R} {g : am_J} {τ : am_T} {Q : am_Q} {x0 x1 x2 : Value} {v w : Int32} : AW d 67 5 [x0, x1, x2] (.int w :: .int v :: st) σ ρ g τ Q = if w ≤ v then AW d 67 71 [x0, x1, x2] (st) σ ρ g τ Q else AW d 67 8 [x0, x1, x2] (st) σ ρ g τ Q := aw_br m67 d67_5 rfl rfl rfl
theorem d67_8 : decode cX8_settle 8 = .ok (.aload_n 0, 1) := by decide +kernel
theorem s67_8 {d : Nat} {st : List Value} {σ : am_I} {ρ : am_R} {g : am_J} {τ : am_T} {Q : am_Q} {x1 x2 : Value} {v : Nat} : AW d 67 8 [.ref v, x1, x2] (st) σ ρ g τ Q = AW d 67 9 [.ref v, x1, x2] (.ref v :: st) σ ρ g τ Q := aw_lc m67 d67_8 rfl rfl rfl
theorem d67_9 : decode cX8_settle 9 = .ok (.getfield 9, 3) := by decide +kernel
theorem s67_9 {d : Nat} {st : List Value} {σ : am_I} {ρ : am_R} {g : am_J} {τ : am_T} {Q : am_Q} {x0 x1 x2 : Value} {a : Nat} (ht : τ.1 a = 8) : AW d 67 9 [x0, x1, x2] (.ref a :: st) σ ρ g τ Q = AW d 67 12 [x0, x1, x2] (va_rf (ρ a 0) :: st) σ ρ g τ Q := aw_gr m67 d67_9 rfl rfl rfl ht
theorem d67_12 : decode cX8_settle 12 = .ok (.iload_n 2, 1) := by decide +kernel
theorem s67_12 {d : Nat} {st : List Value} {σ : am_I} {ρ : am_R} {g : am_J} {τ : am_T} {Q : am_Q} {x0 x1 : Value} {v : Int32} : AW d 67 12 [x0, x1, .int v] (st) σ ρ g τ Q = AW d 67 13 [x0, x1, .int v] (.int v :: st) σ ρ g τ Q := aw_lc m67 d67_12 rfl rfl rfl
theorem d67_13 : decode cX8_settle 13 = .ok (.baload, 1) := by decide +kernel
theorem s67_13 {d : Nat} {st : List Value} {σ : am_I} {ρ : am_R} {g : am_J} {τ : am_T} {Q : am_Q} {x0 x1 x2 : Value} {a : Nat} {j : Int32} (ht : τ.1 a = 14 ∨ τ.1 a = 17) (hj : am_inb j (τ.2.1 a) = true) : AW d 67 13 [x0, x1, x2] (.int j :: .ref a :: st) σ ρ g τ Q = AW d 67 14 [x0, x1, x2] (.int (σ a j.toNatClampNeg) :: st) σ ρ g τ Q := aw_bal m67 d67_13 rfl ht hj
theorem d67_14 : decode cX8_settle 14 = .ok (.ifCond .eq 51, 3) := by decide +kernel
theorem s67_14 {d : Nat} {st : List Value} {σ : am_I} {ρ : am_R} {g : am_J} {τ : am_T} {Q : am_Q} {x0 x1 x2 : Value} {v : Int32} : AW d 67 14 [x0, x1, x2] (.int v :: st) σ ρ g τ Q = if v = 0 then AW d 67 65 [x0, x1, x2] (st) σ ρ g τ Q else AW d 67 17 [x0, x1, x2] (st) σ ρ g τ Q := aw_br m67 d67_14 rfl rfl rfl
theorem d67_17 : decode cX8_settle 17 = .ok (.aload_n 1, 1) := by decide +kernel
theorem s67_17 {d : Nat} {st : List Value} {σ : am_I} {ρ : am_R} {g : am_J} {τ : am_T} {Q : am_Q} {x0 x2 : Value} {v : Nat} : AW d 67 17 [x0, .ref v, x2] (st) σ ρ g τ Q = AW d 67 18 [x0, .ref v, x2] (.ref v :: st) σ ρ g τ Q := aw_lc m67 d67_17 rfl rfl rfl
theorem d67_18 : decode cX8_settle 18 = .ok (.getfield 44, 3) := by decide +kernel
theorem s67_18 {d : Nat} {st : List Value} {σ : am_I} {ρ : am_R} {g : am_J} {τ : am_T} {Q : am_Q} {x0 x1 x2 : Value} {a : Nat} (ht : τ.1 a = 3) : AW d 67 18 [x0, x1, x2] (.ref a :: st) σ ρ g τ Q = AW d 67 21 [x0, x1, x2] (va_rf (ρ a 7) :: st) σ ρ g τ Q := aw_gr m67 d67_18 rfl rfl rfl ht
theorem d67_21 : decode cX8_settle 21 = .ok (.iload_n 2, 1) := by decide +kernel
theorem s67_21 {d : Nat} {st : List Value} {σ : am_I} {ρ : am_R} {g : am_J} {τ : am_T} {Q : am_Q} {x0 x1 : Value} {v : Int32} : AW d 67 21 [x0, x1, .int v] (st) σ ρ g τ Q = AW d 67 22 [x0, x1, .int v] (.int v :: st) σ ρ g τ Q := aw_lc m67 d67_21 rfl rfl rfl
theorem d67_22 : decode cX8_settle 22 = .ok (.aaload, 1) := by decide +kernel
theorem s67_22 {d : Nat} {st : List Value} {σ : am_I} {ρ : am_R} {g : am_J} {τ : am_T} {Q : am_Q} {x0 x1 x2 : Value} {a : Nat} {j : Int32} (ht : 18 ≤ τ.1 a ∧ τ.1 a ≤ 22) (hj : am_inb j (τ.2.1 a) = true) : AW d 67 22 [x0, x1, x2] (.int j :: .ref a :: st) σ ρ g τ Q = AW d 67 23 [x0, x1, x2] (va_rf (ρ a j.toNatClampNeg) :: st) σ ρ g τ Q := aw_aal m67 d67_22 rfl ht hj
theorem d67_23 : decode cX8_settle 23 = .ok (.sipush 9999, 3) := by decide +kernel
theorem s67_23 {d : Nat} {st : List Value} {σ : am_I} {ρ : am_R} {g : am_J} {τ : am_T} {Q : am_Q} {x0 x1 x2 : Value} : AW d 67 23 [x0, x1, x2] (st) σ ρ g τ Q = AW d 67 26 [x0, x1, x2] (.int 9999 :: st) σ ρ g τ Q := aw_lc m67 d67_23 rfl rfl rfl
theorem d67_26 : decode cX8_settle 26 = .ok (.aload_n 0, 1) := by decide +kernel
theorem s67_26 {d : Nat} {st : List Value} {σ : am_I} {ρ : am_R} {g : am_J} {τ : am_T} {Q : am_Q} {x1 x2 : Value} {v : Nat} : AW d 67 26 [.ref v, x1, x2] (st) σ ρ g τ Q = AW d 67 27 [.ref v, x1, x2] (.ref v :: st) σ ρ g τ Q := aw_lc m67 d67_26 rfl rfl rfl
theorem d67_27 : decode cX8_settle 27 = .ok (.getfield 19, 3) := by decide +kernel
theorem s67_27 {d : Nat} {st : List Value} {σ : am_I} {ρ : am_R} {g : am_J} {τ : am_T} {Q : am_Q} {x0 x1 x2 : Value} {a : Nat} (ht : τ.1 a = 8) : AW d 67 27 [x0, x1, x2] (.ref a :: st) σ ρ g τ Q = AW d 67 30 [x0, x1, x2] (va_rf (ρ a 2) :: st) σ ρ g τ Q := aw_gr m67 d67_27 rfl rfl rfl ht
theorem d67_30 : decode cX8_settle 30 = .ok (.iload_n 2, 1) := by decide +kernel
theorem s67_30 {d : Nat} {st : List Value} {σ : am_I} {ρ : am_R} {g : am_J} {τ : am_T} {Q : am_Q} {x0 x1 : Value} {v : Int32} : AW d 67 30 [x0, x1, .int v] (st) σ ρ g τ Q = AW d 67 31 [x0, x1, .int v] (.int v :: st) σ ρ g τ Q := aw_lc m67 d67_30 rfl rfl rfl
theorem d67_31 : decode cX8_settle 31 = .ok (.iaload, 1) := by decide +kernel
theorem s67_31 {d : Nat} {st : List Value} {σ : am_I} {ρ : am_R} {g : am_J} {τ : am_T} {Q : am_Q} {x0 x1 x2 : Value} {a : Nat} {j : Int32} (ht : τ.1 a = 15) (hj : am_inb j (τ.2.1 a) = true) : AW d 67 31 [x0, x1, x2] (.int j :: .ref a :: st) σ ρ g τ Q = AW d 67 32 [x0, x1, x2] (.int (σ a j.toNatClampNeg) :: st) σ ρ g τ Q := aw_ial m67 d67_31 rfl ht hj
theorem d67_32 : decode cX8_settle 32 = .ok (.aload_n 0, 1) := by decide +kernel
theorem s67_32 {d : Nat} {st : List Value} {σ : am_I} {ρ : am_R} {g : am_J} {τ : am_T} {Q : am_Q} {x1 x2 : Value} {v : Nat} : AW d 67 32 [.ref v, x1, x2] (st) σ ρ g τ Q = AW d 67 33 [.ref v, x1, x2] (.ref v :: st) σ ρ g τ Q := aw_lc m67 d67_32 rfl rfl rfl
theorem d67_33 : decode cX8_settle 33 = .ok (.getfield 22, 3) := by decide +kernel
theorem s67_33 {d : Nat} {st : List Value} {σ : am_I} {ρ : am_R} {g : am_J} {τ : am_T} {Q : am_Q} {x0 x1 x2 : Value} {a : Nat} (ht : τ.1 a = 8) : AW d 67 33 [x0, x1, x2] (.ref a :: st) σ ρ g τ Q = AW d 67 36 [x0, x1, x2] (va_rf (ρ a 3) :: st) σ ρ g τ Q := aw_gr m67 d67_33 rfl rfl rfl ht
theorem d67_36 : decode cX8_settle 36 = .ok (.iload_n 2, 1) := by decide +kernel
theorem s67_36 {d : Nat} {st : List Value} {σ : am_I} {ρ : am_R} {g : am_J} {τ : am_T} {Q : am_Q} {x0 x1 : Value} {v : Int32} : AW d 67 36 [x0, x1, .int v] (st) σ ρ g τ Q = AW d 67 37 [x0, x1, .int v] (.int v :: st) σ ρ g τ Q := aw_lc m67 d67_36 rfl rfl rfl
theorem d67_37 : decode cX8_settle 37 = .ok (.iaload, 1) := by decide +kernel
theorem s67_37 {d : Nat} {st : List Value} {σ : am_I} {ρ : am_R} {g : am_J} {τ : am_T} {Q : am_Q} {x0 x1 x2 : Value} {a : Nat} {j : Int32} (ht : τ.1 a = 15) (hj : am_inb j (τ.2.1 a) = true) : AW d 67 37 [x0, x1, x2] (.int j :: .ref a :: st) σ ρ g τ Q = AW d 67 38 [x0, x1, x2] (.int (σ a j.toNatClampNeg) :: st) σ ρ g τ Q := aw_ial m67 d67_37 rfl ht hj
theorem d67_38 : decode cX8_settle 38 = .ok (.isub, 1) := by decide +kernel
theorem s67_38 {d : Nat} {st : List Value} {σ : am_I} {ρ : am_R} {g : am_J} {τ : am_T} {Q : am_Q} {x0 x1 x2 : Value} {v w : Int32} : AW d 67 38 [x0, x1, x2] (.int w :: .int v :: st) σ ρ g τ Q = AW d 67 39 [x0, x1, x2] (.int (v - w) :: st) σ ρ g τ Q := aw_lc m67 d67_38 rfl rfl rfl
theorem d67_39 : decode cX8_settle 39 = .ok (.invokestatic 78, 3) := by decide +kernel
theorem s67_39 {d : Nat} {st : List Value} {σ : am_I} {ρ : am_R} {g : am_J} {τ : am_T} {Q : am_Q} {x0 x1 x2 : Value} {v w : Int32} (hs : st.length ≤ 4) : AW d 67 39 [x0, x1, x2] (.int w :: .int v :: st) σ ρ g τ Q = AW d 67 42 [x0, x1, x2] (.int (if w < v then w else v) :: st) σ ρ g τ Q := aw_min m67 d67_39 rfl rfl hs
theorem d67_42 : decode cX8_settle 42 = .ok (.putfield 72, 3) := by decide +kernel
theorem s67_42 {d : Nat} {st : List Value} {σ : am_I} {ρ : am_R} {g : am_J} {τ : am_T} {Q : am_Q} {x0 x1 x2 : Value} {a : Nat} {v : Int32} (ht : τ.1 a = 1) : AW d 67 42 [x0, x1, x2] (.int v :: .ref a :: st) σ ρ g τ Q = AW d 67 45 [x0, x1, x2] (st) (am_u σ a 6 v) ρ g τ Q := aw_pi m67 d67_42 rfl rfl (Or.inl rfl) rfl ht
theorem d67_45 : decode cX8_settle 45 = .ok (.aload_n 1, 1) := by decide +kernel
theorem s67_45 {d : Nat} {st : List Value} {σ : am_I} {ρ : am_R} {g : am_J} {τ : am_T} {Q : am_Q} {x0 x2 : Value} {v : Nat} : AW d 67 45 [x0, .ref v, x2] (st) σ ρ g τ Q = AW d 67 46 [x0, .ref v, x2] (.ref v :: st) σ ρ g τ Q := aw_lc m67 d67_45 rfl rfl rfl
theorem d67_46 : decode cX8_settle 46 = .ok (.getfield 44, 3) := by decide +kernel
theorem s67_46 {d : Nat} {st : List Value} {σ : am_I} {ρ : am_R} {g : am_J} {τ : am_T} {Q : am_Q} {x0 x1 x2 : Value} {a : Nat} (ht : τ.1 a = 3) : AW d 67 46 [x0, x1, x2] (.ref a :: st) σ ρ g τ Q = AW d 67 49 [x0, x1, x2] (va_rf (ρ a 7) :: st) σ ρ g τ Q := aw_gr m67 d67_46 rfl rfl rfl ht
theorem d67_49 : decode cX8_settle 49 = .ok (.iload_n 2, 1) := by decide +kernel
theorem s67_49 {d : Nat} {st : List Value} {σ : am_I} {ρ : am_R} {g : am_J} {τ : am_T} {Q : am_Q} {x0 x1 : Value} {v : Int32} : AW d 67 49 [x0, x1, .int v] (st) σ ρ g τ Q = AW d 67 50 [x0, x1, .int v] (.int v :: st) σ ρ g τ Q := aw_lc m67 d67_49 rfl rfl rfl
theorem d67_50 : decode cX8_settle 50 = .ok (.aaload, 1) := by decide +kernel
theorem s67_50 {d : Nat} {st : List Value} {σ : am_I} {ρ : am_R} {g : am_J} {τ : am_T} {Q : am_Q} {x0 x1 x2 : Value} {a : Nat} {j : Int32} (ht : 18 ≤ τ.1 a ∧ τ.1 a ≤ 22) (hj : am_inb j (τ.2.1 a) = true) : AW d 67 50 [x0, x1, x2] (.int j :: .ref a :: st) σ ρ g τ Q = AW d 67 51 [x0, x1, x2] (va_rf (ρ a j.toNatClampNeg) :: st) σ ρ g τ Q := aw_aal m67 d67_50 rfl ht hj
theorem d67_51 : decode cX8_settle 51 = .ok (.dup, 1) := by decide +kernel
theorem s67_51 {d : Nat} {st : List Value} {σ : am_I} {ρ : am_R} {g : am_J} {τ : am_T} {Q : am_Q} {x0 x1 x2 : Value} {v : Int32} : AW d 67 51 [x0, x1, x2] (.int v :: st) σ ρ g τ Q = AW d 67 52 [x0, x1, x2] (.int v :: .int v :: st) σ ρ g τ Q := aw_lc m67 d67_51 rfl rfl rfl
theorem s67_51r {d : Nat} {st : List Value} {σ : am_I} {ρ : am_R} {g : am_J} {τ : am_T} {Q : am_Q} {x0 x1 x2 : Value} {v : Nat} : AW d 67 51 [x0, x1, x2] (.ref v :: st) σ ρ g τ Q = AW d 67 52 [x0, x1, x2] (.ref v :: .ref v :: st) σ ρ g τ Q := aw_lc m67 d67_51 rfl rfl rfl
theorem d67_52 : decode cX8_settle 52 = .ok (.getfield 83, 3) := by decide +kernel
theorem s67_52 {d : Nat} {st : List Value} {σ : am_I} {ρ : am_R} {g : am_J} {τ : am_T} {Q : am_Q} {x0 x1 x2 : Value} {a : Nat} (ht : τ.1 a = 1) : AW d 67 52 [x0, x1, x2] (.ref a :: st) σ ρ g τ Q = AW d 67 55 [x0, x1, x2] (.int (σ a 7) :: st) σ ρ g τ Q := aw_gi m67 d67_52 rfl rfl rfl ht
theorem d67_55 : decode cX8_settle 55 = .ok (.aload_n 0, 1) := by decide +kernel
theorem s67_55 {d : Nat} {st : List Value} {σ : am_I} {ρ : am_R} {g : am_J} {τ : am_T} {Q : am_Q} {x1 x2 : Value} {v : Nat} : AW d 67 55 [.ref v, x1, x2] (st) σ ρ g τ Q = AW d 67 56 [.ref v, x1, x2] (.ref v :: st) σ ρ g τ Q := aw_lc m67 d67_55 rfl rfl rfl
theorem d67_56 : decode cX8_settle 56 = .ok (.getfield 22, 3) := by decide +kernel
theorem s67_56 {d : Nat} {st : List Value} {σ : am_I} {ρ : am_R} {g : am_J} {τ : am_T} {Q : am_Q} {x0 x1 x2 : Value} {a : Nat} (ht : τ.1 a = 8) : AW d 67 56 [x0, x1, x2] (.ref a :: st) σ ρ g τ Q = AW d 67 59 [x0, x1, x2] (va_rf (ρ a 3) :: st) σ ρ g τ Q := aw_gr m67 d67_56 rfl rfl rfl ht
theorem d67_59 : decode cX8_settle 59 = .ok (.iload_n 2, 1) := by decide +kernel
theorem s67_59 {d : Nat} {st : List Value} {σ : am_I} {ρ : am_R} {g : am_J} {τ : am_T} {Q : am_Q} {x0 x1 : Value} {v : Int32} : AW d 67 59 [x0, x1, .int v] (st) σ ρ g τ Q = AW d 67 60 [x0, x1, .int v] (.int v :: st) σ ρ g τ Q := aw_lc m67 d67_59 rfl rfl rfl
theorem d67_60 : decode cX8_settle 60 = .ok (.iaload, 1) := by decide +kernel
theorem s67_60 {d : Nat} {st : List Value} {σ : am_I} {ρ : am_R} {g : am_J} {τ : am_T} {Q : am_Q} {x0 x1 x2 : Value} {a : Nat} {j : Int32} (ht : τ.1 a = 15) (hj : am_inb j (τ.2.1 a) = true) : AW d 67 60 [x0, x1, x2] (.int j :: .ref a :: st) σ ρ g τ Q = AW d 67 61 [x0, x1, x2] (.int (σ a j.toNatClampNeg) :: st) σ ρ g τ Q := aw_ial m67 d67_60 rfl ht hj
theorem d67_61 : decode cX8_settle 61 = .ok (.iadd, 1) := by decide +kernel
theorem s67_61 {d : Nat} {st : List Value} {σ : am_I} {ρ : am_R} {g : am_J} {τ : am_T} {Q : am_Q} {x0 x1 x2 : Value} {v w : Int32} : AW d 67 61 [x0, x1, x2] (.int w :: .int v :: st) σ ρ g τ Q = AW d 67 62 [x0, x1, x2] (.int (v + w) :: st) σ ρ g τ Q := aw_lc m67 d67_61 rfl rfl rfl
theorem d67_62 : decode cX8_settle 62 = .ok (.putfield 83, 3) := by decide +kernel
theorem s67_62 {d : Nat} {st : List Value} {σ : am_I} {ρ : am_R} {g : am_J} {τ : am_T} {Q : am_Q} {x0 x1 x2 : Value} {a : Nat} {v : Int32} (ht : τ.1 a = 1) : AW d 67 62 [x0, x1, x2] (.int v :: .ref a :: st) σ ρ g τ Q = AW d 67 65 [x0, x1, x2] (st) (am_u σ a 7 v) ρ g τ Q := aw_pi m67 d67_62 rfl rfl (Or.inl rfl) rfl ht
theorem d67_65 : decode cX8_settle 65 = .ok (.iinc 2 1, 3) := by decide +kernel
theorem s67_65r {d : Nat} {st : List Value} {σ : am_I} {ρ : am_R} {g : am_J} {τ : am_T} {Q : am_Q} {x0 : Value} {v : Int32} {u : Nat} : AW d 67 65 [x0, .ref u, .int v] (st) σ ρ g τ Q = AW d 67 68 [x0, .ref u, .int (v + 1)] (st) σ ρ g τ Q := aw_lc m67 d67_65 rfl rfl rfl
theorem d67_68 : decode cX8_settle 68 = .ok (.goto (-66), 3) := by decide +kernel
theorem s67_68 {d : Nat} {st : List Value} {σ : am_I} {ρ : am_R} {g : am_J} {τ : am_T} {Q : am_Q} {x0 x1 x2 : Value} : AW d 67 68 [x0, x1, x2] (st) σ ρ g τ Q = AW d 67 2 [x0, x1, x2] (st) σ ρ g τ Q := aw_lc m67 d67_68 rfl rfl rfl
theorem d67_71 : decode cX8_settle 71 = .ok (.aload_n 1, 1) := by decide +kernel
theorem s67_71 {d : Nat} {st : List Value} {σ : am_I} {ρ : am_R} {g : am_J} {τ : am_T} {Q : am_Q} {x0 x2 : Value} {v : Nat} : AW d 67 71 [x0, .ref v, x2] (st) σ ρ g τ Q = AW d 67 72 [x0, .ref v, x2] (.ref v :: st) σ ρ g τ Q := aw_lc m67 d67_71 rfl rfl rfl
theorem d67_72 : decode cX8_settle 72 = .ok (.aload_n 0, 1) := by decide +kernel
theorem s67_72 {d : Nat} {st : List Value} {σ : am_I} {ρ : am_R} {g : am_J} {τ : am_T} {Q : am_Q} {x1 x2 : Value} {v : Nat} : AW d 67 72 [.ref v, x1, x2] (st) σ ρ g τ Q = AW d 67 73 [.ref v, x1, x2] (.ref v :: st) σ ρ g τ Q := aw_lc m67 d67_72 rfl rfl rfl
theorem d67_73 : decode cX8_settle 73 = .ok (.getfield 29, 3) := by decide +kernel
theorem s67_73 {d : Nat} {st : List Value} {σ : am_I} {ρ : am_R} {g : am_J} {τ : am_T} {Q : am_Q} {x0 x1 x2 : Value} {a : Nat} (ht : τ.1 a = 8) : AW d 67 73 [x0, x1, x2] (.ref a :: st) σ ρ g τ Q = AW d 67 76 [x0, x1, x2] (.int (σ a 5) :: st) σ ρ g τ Q := aw_gi m67 d67_73 rfl rfl rfl ht
theorem d67_76 : decode cX8_settle 76 = .ok (.invokevirtual 86, 3) := by decide +kernel
theorem s67_76 {d : Nat} {st : List Value} {σ : am_I} {ρ : am_R} {g : am_J} {τ : am_T} {Q : am_Q} {x0 x1 x2 : Value} {p0 : Nat} {p1 : Int32} (ht : τ.1 p0 = 3) (hs : st.length ≤ 4) : AW (d + 1) 67 76 [x0, x1, x2] (.int p1 :: .ref p0 :: st) σ ρ g τ Q = AW d 31 0 [.ref p0, .int p1] [] σ ρ g τ (fun r9 σ ρ g τ => AW (d + 1) 67 79 [x0, x1, x2] (r9.toList ++ st) σ ρ g τ Q) := aw_cv m67 d67_76 rfl m31 rfl rfl (by decide) en31 ok31 rfl ht hs
theorem d67_79 : decode cX8_settle 79 = .ok (.return_, 1) := by decide +kernel
theorem s67_79 {d : Nat} {σ : am_I} {ρ : am_R} {g : am_J} {τ : am_T} {Q : am_Q} {x0 x1 x2 : Value} : AW d 67 79 [x0, x1, x2] ([]) σ ρ g τ Q = Q none σ ρ g τ := aw_rv m67 d67_79 rfl
theorem d68_0 : decode cX9_init 0 = .ok (.aload_n 0, 1) := by decide +kernel
theorem s68_0 {d : Nat} {st : List Value} {σ : am_I} {ρ : am_R} {g : am_J} {τ : am_T} {Q : am_Q} {x1 x2 : Value} {v : Nat} : AW d 68 0 [.ref v, x1, x2] (st) σ ρ g τ Q = AW d 68 1 [.ref v, x1, x2] (.ref v :: st) σ ρ g τ Q := aw_lc m68 d68_0 rfl rfl rfl
theorem s68_0n {d : Nat} {st : List Value} {σ : am_I} {ρ : am_R} {g : am_J} {τ : am_T} {Q : am_Q} {x1 x2 : Value} : AW d 68 0 [.null, x1, x2] (st) σ ρ g τ Q = AW d 68 1 [.null, x1, x2] (.null :: st) σ ρ g τ Q := aw_lc m68 d68_0 rfl rfl rfl
theorem d68_1 : decode cX9_init 1 = .ok (.invokespecial 3, 3) := by decide +kernel
theorem s68_1 {d : Nat} {st : List Value} {σ : am_I} {ρ : am_R} {g : am_J} {τ : am_T} {Q : am_Q} {x0 x1 x2 : Value} {a : Nat} (hs : st.length ≤ 4) : AW d 68 1 [x0, x1, x2] (.ref a :: st) σ ρ g τ Q = AW d 68 4 [x0, x1, x2] (st) σ ρ g τ Q := aw_oin m68 d68_1 rfl rfl hs
theorem d68_4 : decode cX9_init 4 = .ok (.aload_n 0, 1) := by decide +kernel
theorem s68_4 {d : Nat} {st : List Value} {σ : am_I} {ρ : am_R} {g : am_J} {τ : am_T} {Q : am_Q} {x1 x2 : Value} {v : Nat} : AW d 68 4 [.ref v, x1, x2] (st) σ ρ g τ Q = AW d 68 5 [.ref v, x1, x2] (.ref v :: st) σ ρ g τ Q := aw_lc m68 d68_4 rfl rfl rfl
theorem s68_4n {d : Nat} {st : List Value} {σ : am_I} {ρ : am_R} {g : am_J} {τ : am_T} {Q : am_Q} {x1 x2 : Value} : AW d 68 4 [.null, x1, x2] (st) σ ρ g τ Q = AW d 68 5 [.null, x1, x2] (.null :: st) σ ρ g τ Q := aw_lc m68 d68_4 rfl rfl rfl
theorem d68_5 : decode cX9_init 5 = .ok (.iload_n 1, 1) := by decide +kernel
theorem s68_5 {d : Nat} {st : List Value} {σ : am_I} {ρ : am_R} {g : am_J} {τ : am_T} {Q : am_Q} {x0 x2 : Value} {v : Int32} : AW d 68 5 [x0, .int v, x2] (st) σ ρ g τ Q = AW d 68 6 [x0, .int v, x2] (.int v :: st) σ ρ g τ Q := aw_lc m68 d68_5 rfl rfl rfl
theorem d68_6 : decode cX9_init 6 = .ok (.putfield 9, 3) := by decide +kernel
theorem s68_6 {d : Nat} {st : List Value} {σ : am_I} {ρ : am_R} {g : am_J} {τ : am_T} {Q : am_Q} {x0 x1 x2 : Value} {a : Nat} {v : Int32} (ht : τ.1 a = 9) : AW d 68 6 [x0, x1, x2] (.int v :: .ref a :: st) σ ρ g τ Q = AW d 68 9 [x0, x1, x2] (st) (am_u σ a 0 v) ρ g τ Q := aw_pi m68 d68_6 rfl rfl (Or.inr ⟨rfl, rfl⟩) rfl ht
theorem d68_9 : decode cX9_init 9 = .ok (.aload_n 0, 1) := by decide +kernel
theorem s68_9 {d : Nat} {st : List Value} {σ : am_I} {ρ : am_R} {g : am_J} {τ : am_T} {Q : am_Q} {x1 x2 : Value} {v : Nat} : AW d 68 9 [.ref v, x1, x2] (st) σ ρ g τ Q = AW d 68 10 [.ref v, x1, x2] (.ref v :: st) σ ρ g τ Q := aw_lc m68 d68_9 rfl rfl rfl
theorem s68_9n {d : Nat} {st : List Value} {σ : am_I} {ρ : am_R} {g : am_J} {τ : am_T} {Q : am_Q} {x1 x2 : Value} : AW d 68 9 [.null, x1, x2] (st) σ ρ g τ Q = AW d 68 10 [.null, x1, x2] (.null :: st) σ ρ g τ Q := aw_lc m68 d68_9 rfl rfl rfl
theorem d68_10 : decode cX9_init 10 = .ok (.aload_n 2, 1) := by decide +kernel
theorem s68_10 {d : Nat} {st : List Value} {σ : am_I} {ρ : am_R} {g : am_J} {τ : am_T} {Q : am_Q} {x0 x1 : Value} {v : Nat} : AW d 68 10 [x0, x1, .ref v] (st) σ ρ g τ Q = AW d 68 11 [x0, x1, .ref v] (.ref v :: st) σ ρ g τ Q := aw_lc m68 d68_10 rfl rfl rfl
theorem s68_10n {d : Nat} {st : List Value} {σ : am_I} {ρ : am_R} {g : am_J} {τ : am_T} {Q : am_Q} {x0 x1 : Value} : AW d 68 10 [x0, x1, .null] (st) σ ρ g τ Q = AW d 68 11 [x0, x1, .null] (.null :: st) σ ρ g τ Q := aw_lc m68 d68_10 rfl rfl rfl
theorem d68_11 : decode cX9_init 11 = .ok (.putfield 15, 3) := by decide +kernel
theorem s68_11 {d : Nat} {st : List Value} {σ : am_I} {ρ : am_R} {g : am_J} {τ : am_T} {Q : am_Q} {x0 x1 x2 : Value} {a b : Nat} (ht : τ.1 a = 9) : AW d 68 11 [x0, x1, x2] (.ref b :: .ref a :: st) σ ρ g τ Q = AW d 68 14 [x0, x1, x2] (st) σ (am_u ρ a 1 (some b)) g τ Q := aw_pr m68 d68_11 rfl rfl (Or.inr ⟨rfl, rfl⟩) rfl ht
theorem s68_11n {d : Nat} {st : List Value} {σ : am_I} {ρ : am_R} {g : am_J} {τ : am_T} {Q : am_Q} {x0 x1 x2 : Value} {a : Nat} (ht : τ.1 a = 9) : AW d 68 11 [x0, x1, x2] (.null :: .ref a :: st) σ ρ g τ Q = AW d 68 14 [x0, x1, x2] (st) σ (am_u ρ a 1 none) g τ Q := aw_pn m68 d68_11 rfl rfl (Or.inr ⟨rfl, rfl⟩) rfl ht
theorem d68_14 : decode cX9_init 14 = .ok (.return_, 1) := by decide +kernel
theorem s68_14 {d : Nat} {σ : am_I} {ρ : am_R} {g : am_J} {τ : am_T} {Q : am_Q} {x0 x1 x2 : Value} : AW d 68 14 [x0, x1, x2] ([]) σ ρ g τ Q = Q none σ ρ g τ := aw_rv m68 d68_14 rfl
theorem d69_0 : decode cX9_firstOf 0 = .ok (.iconst 0, 1) := by decide +kernel
theorem s69_0 {d : Nat} {st : List Value} {σ : am_I} {ρ : am_R} {g : am_J} {τ : am_T} {Q : am_Q} {x0 x1 x2 x3 x4 : Value} : AW d 69 0 [x0, x1, x2, x3, x4] (st) σ ρ g τ Q = AW d 69 1 [x0, x1, x2, x3, x4] (.int 0 :: st) σ ρ g τ Q := aw_lc m69 d69_0 rfl rfl rfl
theorem d69_1 : decode cX9_firstOf 1 = .ok (.istore 4, 2) := by decide +kernel
theorem s69_1 {d : Nat} {st : List Value} {σ : am_I} {ρ : am_R} {g : am_J} {τ : am_T} {Q : am_Q} {x0 x1 x2 x4 : Value} {v : Int32} {u : Int32} : AW d 69 1 [x0, x1, x2, .int u, x4] (.int v :: st) σ ρ g τ Q = AW d 69 3 [x0, x1, x2, .int u, .int v] (st) σ ρ g τ Q := aw_lc m69 d69_1 rfl rfl rfl
theorem d69_3 : decode cX9_firstOf 3 = .ok (.iload 4, 2) := by decide +kernel
theorem s69_3 {d : Nat} {st : List Value} {σ : am_I} {ρ : am_R} {g : am_J} {τ : am_T} {Q : am_Q} {x0 x1 x2 x3 : Value} {v : Int32} : AW d 69 3 [x0, x1, x2, x3, .int v] (st) σ ρ g τ Q = AW d 69 5 [x0, x1, x2, x3, .int v] (.int v :: st) σ ρ g τ Q := aw_lc m69 d69_3 rfl rfl rfl
theorem d69_5 : decode cX9_firstOf 5 = .ok (.aload_n 0, 1) := by decide +kernel
theorem s69_5 {d : Nat} {st : List Value} {σ : am_I} {ρ : am_R} {g : am_J} {τ : am_T} {Q : am_Q} {x1 x2 x3 x4 : Value} {v : Nat} : AW d 69 5 [.ref v, x1, x2, x3, x4] (st) σ ρ g τ Q = AW d 69 6 [.ref v, x1, x2, x3, x4] (.ref v :: st) σ ρ g τ Q := aw_lc m69 d69_5 rfl rfl rfl
theorem d69_6 : decode cX9_firstOf 6 = .ok (.getfield 15, 3) := by decide +kernel
theorem s69_6 {d : Nat} {st : List Value} {σ : am_I} {ρ : am_R} {g : am_J} {τ : am_T} {Q : am_Q} {x0 x1 x2 x3 x4 : Value} {a : Nat} (ht : τ.1 a = 9) : AW d 69 6 [x0, x1, x2, x3, x4] (.ref a :: st) σ ρ g τ Q = AW d 69 9 [x0, x1, x2, x3, x4] (va_rf (ρ a 1) :: st) σ ρ g τ Q := aw_gr m69 d69_6 rfl rfl rfl ht
theorem d69_9 : decode cX9_firstOf 9 = .ok (.arraylength, 1) := by decide +kernel
theorem s69_9 {d : Nat} {st : List Value} {σ : am_I} {ρ : am_R} {g : am_J} {τ : am_T} {Q : am_Q} {x0 x1 x2 x3 x4 : Value} {a : Nat} (ht : 14 ≤ τ.1 a ∧ τ.1 a ≤ 22) : AW d 69 9 [x0, x1, x2, x3, x4] (.ref a :: st) σ ρ g τ Q = AW d 69 10 [x0, x1, x2, x3, x4] (.int (nI (τ.2.1 a)) :: st) σ ρ g τ Q := aw_len m69 d69_9 rfl ht
theorem d69_10 : decode cX9_firstOf 10 = .ok (.if_icmp .ge 41, 3) := by decide +kernel
theorem s69_10 {d : Nat} {st : List Value} {σ : am_I} {ρ : am_R} {g : am_J} {τ : am_T} {Q : am_Q} {x0 x1 x2 x3 x4 : Value} {v w : Int32} : AW d 69 10 [x0, x1, x2, x3, x4] (.int w :: .int v :: st) σ ρ g τ Q = if w ≤ v then AW d 69 51 [x0, x1, x2, x3, x4] (st) σ ρ g τ Q else AW d 69 13 [x0, x1, x2, x3, x4] (st) σ ρ g τ Q := aw_br m69 d69_10 rfl rfl rfl
theorem d69_13 : decode cX9_firstOf 13 = .ok (.aload_n 0, 1) := by decide +kernel
theorem s69_13 {d : Nat} {st : List Value} {σ : am_I} {ρ : am_R} {g : am_J} {τ : am_T} {Q : am_Q} {x1 x2 x3 x4 : Value} {v : Nat} : AW d 69 13 [.ref v, x1, x2, x3, x4] (st) σ ρ g τ Q = AW d 69 14 [.ref v, x1, x2, x3, x4] (.ref v :: st) σ ρ g τ Q := aw_lc m69 d69_13 rfl rfl rfl
theorem d69_14 : decode cX9_firstOf 14 = .ok (.getfield 15, 3) := by decide +kernel
theorem s69_14 {d : Nat} {st : List Value} {σ : am_I} {ρ : am_R} {g : am_J} {τ : am_T} {Q : am_Q} {x0 x1 x2 x3 x4 : Value} {a : Nat} (ht : τ.1 a = 9) : AW d 69 14 [x0, x1, x2, x3, x4] (.ref a :: st) σ ρ g τ Q = AW d 69 17 [x0, x1, x2, x3, x4] (va_rf (ρ a 1) :: st) σ ρ g τ Q := aw_gr m69 d69_14 rfl rfl rfl ht
theorem d69_17 : decode cX9_firstOf 17 = .ok (.iload 4, 2) := by decide +kernel
theorem s69_17 {d : Nat} {st : List Value} {σ : am_I} {ρ : am_R} {g : am_J} {τ : am_T} {Q : am_Q} {x0 x1 x2 x3 : Value} {v : Int32} : AW d 69 17 [x0, x1, x2, x3, .int v] (st) σ ρ g τ Q = AW d 69 19 [x0, x1, x2, x3, .int v] (.int v :: st) σ ρ g τ Q := aw_lc m69 d69_17 rfl rfl rfl
theorem d69_19 : decode cX9_firstOf 19 = .ok (.aaload, 1) := by decide +kernel
theorem s69_19 {d : Nat} {st : List Value} {σ : am_I} {ρ : am_R} {g : am_J} {τ : am_T} {Q : am_Q} {x0 x1 x2 x3 x4 : Value} {a : Nat} {j : Int32} (ht : 18 ≤ τ.1 a ∧ τ.1 a ≤ 22) (hj : am_inb j (τ.2.1 a) = true) : AW d 69 19 [x0, x1, x2, x3, x4] (.int j :: .ref a :: st) σ ρ g τ Q = AW d 69 20 [x0, x1, x2, x3, x4] (va_rf (ρ a j.toNatClampNeg) :: st) σ ρ g τ Q := aw_aal m69 d69_19 rfl ht hj
theorem d69_20 : decode cX9_firstOf 20 = .ok (.getfield 19, 3) := by decide +kernel
theorem s69_20 {d : Nat} {st : List Value} {σ : am_I} {ρ : am_R} {g : am_J} {τ : am_T} {Q : am_Q} {x0 x1 x2 x3 x4 : Value} {a : Nat} (ht : τ.1 a = 5) : AW d 69 20 [x0, x1, x2, x3, x4] (.ref a :: st) σ ρ g τ Q = AW d 69 23 [x0, x1, x2, x3, x4] (.int (σ a 0) :: st) σ ρ g τ Q := aw_gi m69 d69_20 rfl rfl rfl ht
theorem d69_23 : decode cX9_firstOf 23 = .ok (.iload_n 1, 1) := by decide +kernel
theorem s69_23 {d : Nat} {st : List Value} {σ : am_I} {ρ : am_R} {g : am_J} {τ : am_T} {Q : am_Q} {x0 x2 x3 x4 : Value} {v : Int32} : AW d 69 23 [x0, .int v, x2, x3, x4] (st) σ ρ g τ Q = AW d 69 24 [x0, .int v, x2, x3, x4] (.int v :: st) σ ρ g τ Q := aw_lc m69 d69_23 rfl rfl rfl
theorem d69_24 : decode cX9_firstOf 24 = .ok (.if_icmp .ne 21, 3) := by decide +kernel
theorem s69_24 {d : Nat} {st : List Value} {σ : am_I} {ρ : am_R} {g : am_J} {τ : am_T} {Q : am_Q} {x0 x1 x2 x3 x4 : Value} {v w : Int32} : AW d 69 24 [x0, x1, x2, x3, x4] (.int w :: .int v :: st) σ ρ g τ Q = if ¬ v = w then AW d 69 45 [x0, x1, x2, x3, x4] (st) σ ρ g τ Q else AW d 69 27 [x0, x1, x2, x3, x4] (st) σ ρ g τ Q := aw_br m69 d69_24 rfl rfl rfl
theorem d69_27 : decode cX9_firstOf 27 = .ok (.aload_n 0, 1) := by decide +kernel
theorem s69_27 {d : Nat} {st : List Value} {σ : am_I} {ρ : am_R} {g : am_J} {τ : am_T} {Q : am_Q} {x1 x2 x3 x4 : Value} {v : Nat} : AW d 69 27 [.ref v, x1, x2, x3, x4] (st) σ ρ g τ Q = AW d 69 28 [.ref v, x1, x2, x3, x4] (.ref v :: st) σ ρ g τ Q := aw_lc m69 d69_27 rfl rfl rfl
theorem d69_28 : decode cX9_firstOf 28 = .ok (.getfield 15, 3) := by decide +kernel
theorem s69_28 {d : Nat} {st : List Value} {σ : am_I} {ρ : am_R} {g : am_J} {τ : am_T} {Q : am_Q} {x0 x1 x2 x3 x4 : Value} {a : Nat} (ht : τ.1 a = 9) : AW d 69 28 [x0, x1, x2, x3, x4] (.ref a :: st) σ ρ g τ Q = AW d 69 31 [x0, x1, x2, x3, x4] (va_rf (ρ a 1) :: st) σ ρ g τ Q := aw_gr m69 d69_28 rfl rfl rfl ht
theorem d69_31 : decode cX9_firstOf 31 = .ok (.iload 4, 2) := by decide +kernel
theorem s69_31 {d : Nat} {st : List Value} {σ : am_I} {ρ : am_R} {g : am_J} {τ : am_T} {Q : am_Q} {x0 x1 x2 x3 : Value} {v : Int32} : AW d 69 31 [x0, x1, x2, x3, .int v] (st) σ ρ g τ Q = AW d 69 33 [x0, x1, x2, x3, .int v] (.int v :: st) σ ρ g τ Q := aw_lc m69 d69_31 rfl rfl rfl
theorem d69_33 : decode cX9_firstOf 33 = .ok (.aaload, 1) := by decide +kernel
theorem s69_33 {d : Nat} {st : List Value} {σ : am_I} {ρ : am_R} {g : am_J} {τ : am_T} {Q : am_Q} {x0 x1 x2 x3 x4 : Value} {a : Nat} {j : Int32} (ht : 18 ≤ τ.1 a ∧ τ.1 a ≤ 22) (hj : am_inb j (τ.2.1 a) = true) : AW d 69 33 [x0, x1, x2, x3, x4] (.int j :: .ref a :: st) σ ρ g τ Q = AW d 69 34 [x0, x1, x2, x3, x4] (va_rf (ρ a j.toNatClampNeg) :: st) σ ρ g τ Q := aw_aal m69 d69_33 rfl ht hj
theorem d69_34 : decode cX9_firstOf 34 = .ok (.aload_n 2, 1) := by decide +kernel
theorem s69_34 {d : Nat} {st : List Value} {σ : am_I} {ρ : am_R} {g : am_J} {τ : am_T} {Q : am_Q} {x0 x1 x3 x4 : Value} {v : Nat} : AW d 69 34 [x0, x1, .ref v, x3, x4] (st) σ ρ g τ Q = AW d 69 35 [x0, x1, .ref v, x3, x4] (.ref v :: st) σ ρ g τ Q := aw_lc m69 d69_34 rfl rfl rfl
theorem d69_35 : decode cX9_firstOf 35 = .ok (.iload_n 3, 1) := by decide +kernel
theorem s69_35 {d : Nat} {st : List Value} {σ : am_I} {ρ : am_R} {g : am_J} {τ : am_T} {Q : am_Q} {x0 x1 x2 x4 : Value} {v : Int32} : AW d 69 35 [x0, x1, x2, .int v, x4] (st) σ ρ g τ Q = AW d 69 36 [x0, x1, x2, .int v, x4] (.int v :: st) σ ρ g τ Q := aw_lc m69 d69_35 rfl rfl rfl
theorem d69_36 : decode cX9_firstOf 36 = .ok (.invokevirtual 24, 3) := by decide +kernel
theorem s69_36 {d : Nat} {st : List Value} {σ : am_I} {ρ : am_R} {g : am_J} {τ : am_T} {Q : am_Q} {x0 x1 x2 x3 x4 : Value} {p0 : Nat} {p1 : Nat} {p2 : Int32} (ht : τ.1 p0 = 5) (hs : st.length ≤ 4) : AW (d + 1) 69 36 [x0, x1, x2, x3, x4] (.int p2 :: .ref p1 :: .ref p0 :: st) σ ρ g τ Q = AW d 52 0 [.ref p0, .ref p1, .int p2, am_jk, am_jk, am_jk] [] σ ρ g τ (fun r9 σ ρ g τ => AW (d + 1) 69 39 [x0, x1, x2, x3, x4] (r9.toList ++ st) σ ρ g τ Q) := aw_cv m69 d69_36 rfl m52 rfl rfl (by decide) en52 ok52 rfl ht hs
theorem d69_39 : decode cX9_firstOf 39 = .ok (.ifCond .eq 6, 3) := by decide +kernel
theorem s69_39 {d : Nat} {st : List Value} {σ : am_I} {ρ : am_R} {g : am_J} {τ : am_T} {Q : am_Q} {x0 x1 x2 x3 x4 : Value} {v : Int32} : AW d 69 39 [x0, x1, x2, x3, x4] (.int v :: st) σ ρ g τ Q = if v = 0 then AW d 69 45 [x0, x1, x2, x3, x4] (st) σ ρ g τ Q else AW d 69 42 [x0, x1, x2, x3, x4] (st) σ ρ g τ Q := aw_br m69 d69_39 rfl rfl rfl
theorem d69_42 : decode cX9_firstOf 42 = .ok (.iload 4, 2) := by decide +kernel
theorem s69_42 {d : Nat} {st : List Value} {σ : am_I} {ρ : am_R} {g : am_J} {τ : am_T} {Q : am_Q} {x0 x1 x2 x3 : Value} {v : Int32} : AW d 69 42 [x0, x1, x2, x3, .int v] (st) σ ρ g τ Q = AW d 69 44 [x0, x1, x2, x3, .int v] (.int v :: st) σ ρ g τ Q := aw_lc m69 d69_42 rfl rfl rfl
theorem d69_44 : decode cX9_firstOf 44 = .ok (.ireturn, 1) := by decide +kernel
theorem s69_44 {d : Nat} {σ : am_I} {ρ : am_R} {g : am_J} {τ : am_T} {Q : am_Q} {x0 x1 x2 x3 x4 : Value} {v : Int32} : AW d 69 44 [x0, x1, x2, x3, x4] ([.int v]) σ ρ g τ Q = Q (some (.int v)) σ ρ g τ := aw_ri m69 d69_44 rfl
theorem d69_45 : decode cX9_firstOf 45 = .ok (.iinc 4 1, 3) := by decide +kernel
theorem s69_45 {d : Nat} {st : List Value} {σ : am_I} {ρ : am_R} {g : am_J} {τ : am_T} {Q : am_Q} {x0 x1 x2 : Value} {v : Int32} {u : Int32} : AW d 69 45 [x0, x1, x2, .int u, .int v] (st) σ ρ g τ Q = AW d 69 48 [x0, x1, x2, .int u, .int (v + 1)] (st) σ ρ g τ Q := aw_lc m69 d69_45 rfl rfl rfl
theorem d69_48 : decode cX9_firstOf 48 = .ok (.goto (-45), 3) := by decide +kernel
theorem s69_48 {d : Nat} {st : List Value} {σ : am_I} {ρ : am_R} {g : am_J} {τ : am_T} {Q : am_Q} {x0 x1 x2 x3 x4 : Value} : AW d 69 48 [x0, x1, x2, x3, x4] (st) σ ρ g τ Q = AW d 69 3 [x0, x1, x2, x3, x4] (st) σ ρ g τ Q := aw_lc m69 d69_48 rfl rfl rfl
theorem d69_51 : decode cX9_firstOf 51 = .ok (.iconst (-1), 1) := by decide +kernel
theorem s69_51 {d : Nat} {st : List Value} {σ : am_I} {ρ : am_R} {g : am_J} {τ : am_T} {Q : am_Q} {x0 x1 x2 x3 x4 : Value} : AW d 69 51 [x0, x1, x2, x3, x4] (st) σ ρ g τ Q = AW d 69 52 [x0, x1, x2, x3, x4] (.int (-1) :: st) σ ρ g τ Q := aw_lc m69 d69_51 rfl rfl rfl
theorem d69_52 : decode cX9_firstOf 52 = .ok (.ireturn, 1) := by decide +kernel
theorem s69_52 {d : Nat} {σ : am_I} {ρ : am_R} {g : am_J} {τ : am_T} {Q : am_Q} {x0 x1 x2 x3 x4 : Value} {v : Int32} : AW d 69 52 [x0, x1, x2, x3, x4] ([.int v]) σ ρ g τ Q = Q (some (.int v)) σ ρ g τ := aw_ri m69 d69_52 rfl
theorem d70_0 : decode cX9_rankOf 0 = .ok (.aload_n 0, 1) := by decide +kernel
theorem s70_0 {d : Nat} {st : List Value} {σ : am_I} {ρ : am_R} {g : am_J} {τ : am_T} {Q : am_Q} {x1 x2 x3 : Value} {v : Nat} : AW d 70 0 [.ref v, x1, x2, x3] (st) σ ρ g τ Q = AW d 70 1 [.ref v, x1, x2, x3] (.ref v :: st) σ ρ g τ Q := aw_lc m70 d70_0 rfl rfl rfl
theorem d70_1 : decode cX9_rankOf 1 = .ok (.iconst 0, 1) := by decide +kernel
theorem s70_1 {d : Nat} {st : List Value} {σ : am_I} {ρ : am_R} {g : am_J} {τ : am_T} {Q : am_Q} {x0 x1 x2 x3 : Value} : AW d 70 1 [x0, x1, x2, x3] (st) σ ρ g τ Q = AW d 70 2 [x0, x1, x2, x3] (.int 0 :: st) σ ρ g τ Q := aw_lc m70 d70_1 rfl rfl rfl
theorem d70_2 : decode cX9_rankOf 2 = .ok (.aload_n 1, 1) := by decide +kernel
theorem s70_2 {d : Nat} {st : List Value} {σ : am_I} {ρ : am_R} {g : am_J} {τ : am_T} {Q : am_Q} {x0 x2 x3 : Value} {v : Nat} : AW d 70 2 [x0, .ref v, x2, x3] (st) σ ρ g τ Q = AW d 70 3 [x0, .ref v, x2, x3] (.ref v :: st) σ ρ g τ Q := aw_lc m70 d70_2 rfl rfl rfl
theorem d70_3 : decode cX9_rankOf 3 = .ok (.iload_n 2, 1) := by decide +kernel
theorem s70_3 {d : Nat} {st : List Value} {σ : am_I} {ρ : am_R} {g : am_J} {τ : am_T} {Q : am_Q} {x0 x1 x3 : Value} {v : Int32} : AW d 70 3 [x0, x1, .int v, x3] (st) σ ρ g τ Q = AW d 70 4 [x0, x1, .int v, x3] (.int v :: st) σ ρ g τ Q := aw_lc m70 d70_3 rfl rfl rfl
theorem d70_4 : decode cX9_rankOf 4 = .ok (.invokevirtual 28, 3) := by decide +kernel
theorem s70_4 {d : Nat} {st : List Value} {σ : am_I} {ρ : am_R} {g : am_J} {τ : am_T} {Q : am_Q} {x0 x1 x2 x3 : Value} {p0 : Nat} {p1 : Int32} {p2 : Nat} {p3 : Int32} (ht : τ.1 p0 = 9) (hs : st.length ≤ 4) : AW (d + 1) 70 4 [x0, x1, x2, x3] (.int p3 :: .ref p2 :: .int p1 :: .ref p0 :: st) σ ρ g τ Q = AW d 69 0 [.ref p0, .int p1, .ref p2, .int p3, am_jk] [] σ ρ g τ (fun r9 σ ρ g τ => AW (d + 1) 70 7 [x0, x1, x2, x3] (r9.toList ++ st) σ ρ g τ Q) := aw_cv m70 d70_4 rfl m69 rfl rfl (by decide) en69 ok69 rfl ht hs
theorem d70_7 : decode cX9_rankOf 7 = .ok (.istore_n 3, 1) := by decide +kernel
theorem s70_7 {d : Nat} {st : List Value} {σ : am_I} {ρ : am_R} {g : am_J} {τ : am_T} {Q : am_Q} {x0 x1 x3 : Value} {v : Int32} {u : Int32} : AW d 70 7 [x0, x1, .int u, x3] (.int v :: st) σ ρ g τ Q = AW d 70 8 [x0, x1, .int u, .int v] (st) σ ρ g τ Q := aw_lc m70 d70_7 rfl rfl rfl
theorem d70_8 : decode cX9_rankOf 8 = .ok (.iload_n 3, 1) := by decide +kernel
theorem s70_8 {d : Nat} {st : List Value} {σ : am_I} {ρ : am_R} {g : am_J} {τ : am_T} {Q : am_Q} {x0 x1 x2 : Value} {v : Int32} : AW d 70 8 [x0, x1, x2, .int v] (st) σ ρ g τ Q = AW d 70 9 [x0, x1, x2, .int v] (.int v :: st) σ ρ g τ Q := aw_lc m70 d70_8 rfl rfl rfl
theorem d70_9 : decode cX9_rankOf 9 = .ok (.ifCond .ge 8, 3) := by decide +kernel
theorem s70_9 {d : Nat} {st : List Value} {σ : am_I} {ρ : am_R} {g : am_J} {τ : am_T} {Q : am_Q} {x0 x1 x2 x3 : Value} {v : Int32} : AW d 70 9 [x0, x1, x2, x3] (.int v :: st) σ ρ g τ Q = if 0 ≤ v then AW d 70 17 [x0, x1, x2, x3] (st) σ ρ g τ Q else AW d 70 12 [x0, x1, x2, x3] (st) σ ρ g τ Q := aw_br m70 d70_9 rfl rfl rfl
theorem d70_12 : decode cX9_rankOf 12 = .ok (.bipush 9, 2) := by decide +kernel
theorem s70_12 {d : Nat} {st : List Value} {σ : am_I} {ρ : am_R} {g : am_J} {τ : am_T} {Q : am_Q} {x0 x1 x2 x3 : Value} : AW d 70 12 [x0, x1, x2, x3] (st) σ ρ g τ Q = AW d 70 14 [x0, x1, x2, x3] (.int 9 :: st) σ ρ g τ Q := aw_lc m70 d70_12 rfl rfl rfl
theorem d70_14 : decode cX9_rankOf 14 = .ok (.goto 12, 3) := by decide +kernel
theorem s70_14 {d : Nat} {st : List Value} {σ : am_I} {ρ : am_R} {g : am_J} {τ : am_T} {Q : am_Q} {x0 x1 x2 x3 : Value} : AW d 70 14 [x0, x1, x2, x3] (st) σ ρ g τ Q = AW d 70 26 [x0, x1, x2, x3] (st) σ ρ g τ Q := aw_lc m70 d70_14 rfl rfl rfl
theorem d70_17 : decode cX9_rankOf 17 = .ok (.aload_n 0, 1) := by decide +kernel
theorem s70_17 {d : Nat} {st : List Value} {σ : am_I} {ρ : am_R} {g : am_J} {τ : am_T} {Q : am_Q} {x1 x2 x3 : Value} {v : Nat} : AW d 70 17 [.ref v, x1, x2, x3] (st) σ ρ g τ Q = AW d 70 18 [.ref v, x1, x2, x3] (.ref v :: st) σ ρ g τ Q := aw_lc m70 d70_17 rfl rfl rfl
theorem d70_18 : decode cX9_rankOf 18 = .ok (.getfield 15, 3) := by decide +kernel
theorem s70_18 {d : Nat} {st : List Value} {σ : am_I} {ρ : am_R} {g : am_J} {τ : am_T} {Q : am_Q} {x0 x1 x2 x3 : Value} {a : Nat} (ht : τ.1 a = 9) : AW d 70 18 [x0, x1, x2, x3] (.ref a :: st) σ ρ g τ Q = AW d 70 21 [x0, x1, x2, x3] (va_rf (ρ a 1) :: st) σ ρ g τ Q := aw_gr m70 d70_18 rfl rfl rfl ht
theorem d70_21 : decode cX9_rankOf 21 = .ok (.iload_n 3, 1) := by decide +kernel
theorem s70_21 {d : Nat} {st : List Value} {σ : am_I} {ρ : am_R} {g : am_J} {τ : am_T} {Q : am_Q} {x0 x1 x2 : Value} {v : Int32} : AW d 70 21 [x0, x1, x2, .int v] (st) σ ρ g τ Q = AW d 70 22 [x0, x1, x2, .int v] (.int v :: st) σ ρ g τ Q := aw_lc m70 d70_21 rfl rfl rfl
theorem d70_22 : decode cX9_rankOf 22 = .ok (.aaload, 1) := by decide +kernel
theorem s70_22 {d : Nat} {st : List Value} {σ : am_I} {ρ : am_R} {g : am_J} {τ : am_T} {Q : am_Q} {x0 x1 x2 x3 : Value} {a : Nat} {j : Int32} (ht : 18 ≤ τ.1 a ∧ τ.1 a ≤ 22) (hj : am_inb j (τ.2.1 a) = true) : AW d 70 22 [x0, x1, x2, x3] (.int j :: .ref a :: st) σ ρ g τ Q = AW d 70 23 [x0, x1, x2, x3] (va_rf (ρ a j.toNatClampNeg) :: st) σ ρ g τ Q := aw_aal m70 d70_22 rfl ht hj
theorem d70_23 : decode cX9_rankOf 23 = .ok (.getfield 32, 3) := by decide +kernel
theorem s70_23 {d : Nat} {st : List Value} {σ : am_I} {ρ : am_R} {g : am_J} {τ : am_T} {Q : am_Q} {x0 x1 x2 x3 : Value} {a : Nat} (ht : τ.1 a = 5) : AW d 70 23 [x0, x1, x2, x3] (.ref a :: st) σ ρ g τ Q = AW d 70 26 [x0, x1, x2, x3] (.int (σ a 1) :: st) σ ρ g τ Q := aw_gi m70 d70_23 rfl rfl rfl ht
theorem d70_26 : decode cX9_rankOf 26 = .ok (.ireturn, 1) := by decide +kernel
theorem s70_26 {d : Nat} {σ : am_I} {ρ : am_R} {g : am_J} {τ : am_T} {Q : am_Q} {x0 x1 x2 x3 : Value} {v : Int32} : AW d 70 26 [x0, x1, x2, x3] ([.int v]) σ ρ g τ Q = Q (some (.int v)) σ ρ g τ := aw_ri m70 d70_26 rfl
theorem d71_0 : decode cX9_cutOf 0 = .ok (.aload_n 0, 1) := by decide +kernel
theorem s71_0 {d : Nat} {st : List Value} {σ : am_I} {ρ : am_R} {g : am_J} {τ : am_T} {Q : am_Q} {x1 x2 x3 : Value} {v : Nat} : AW d 71 0 [.ref v, x1, x2, x3] (st) σ ρ g τ Q = AW d 71 1 [.ref v, x1, x2, x3] (.ref v :: st) σ ρ g τ Q := aw_lc m71 d71_0 rfl rfl rfl
theorem d71_1 : decode cX9_cutOf 1 = .ok (.iconst 1, 1) := by decide +kernel
theorem s71_1 {d : Nat} {st : List Value} {σ : am_I} {ρ : am_R} {g : am_J} {τ : am_T} {Q : am_Q} {x0 x1 x2 x3 : Value} : AW d 71 1 [x0, x1, x2, x3] (st) σ ρ g τ Q = AW d 71 2 [x0, x1, x2, x3] (.int 1 :: st) σ ρ g τ Q := aw_lc m71 d71_1 rfl rfl rfl
theorem d71_2 : decode cX9_cutOf 2 = .ok (.aload_n 1, 1) := by decide +kernel
theorem s71_2 {d : Nat} {st : List Value} {σ : am_I} {ρ : am_R} {g : am_J} {τ : am_T} {Q : am_Q} {x0 x2 x3 : Value} {v : Nat} : AW d 71 2 [x0, .ref v, x2, x3] (st) σ ρ g τ Q = AW d 71 3 [x0, .ref v, x2, x3] (.ref v :: st) σ ρ g τ Q := aw_lc m71 d71_2 rfl rfl rfl
theorem d71_3 : decode cX9_cutOf 3 = .ok (.iload_n 2, 1) := by decide +kernel
theorem s71_3 {d : Nat} {st : List Value} {σ : am_I} {ρ : am_R} {g : am_J} {τ : am_T} {Q : am_Q} {x0 x1 x3 : Value} {v : Int32} : AW d 71 3 [x0, x1, .int v, x3] (st) σ ρ g τ Q = AW d 71 4 [x0, x1, .int v, x3] (.int v :: st) σ ρ g τ Q := aw_lc m71 d71_3 rfl rfl rfl
theorem d71_4 : decode cX9_cutOf 4 = .ok (.invokevirtual 28, 3) := by decide +kernel
theorem s71_4 {d : Nat} {st : List Value} {σ : am_I} {ρ : am_R} {g : am_J} {τ : am_T} {Q : am_Q} {x0 x1 x2 x3 : Value} {p0 : Nat} {p1 : Int32} {p2 : Nat} {p3 : Int32} (ht : τ.1 p0 = 9) (hs : st.length ≤ 4) : AW (d + 1) 71 4 [x0, x1, x2, x3] (.int p3 :: .ref p2 :: .int p1 :: .ref p0 :: st) σ ρ g τ Q = AW d 69 0 [.ref p0, .int p1, .ref p2, .int p3, am_jk] [] σ ρ g τ (fun r9 σ ρ g τ => AW (d + 1) 71 7 [x0, x1, x2, x3] (r9.toList ++ st) σ ρ g τ Q) := aw_cv m71 d71_4 rfl m69 rfl rfl (by decide) en69 ok69 rfl ht hs
theorem d71_7 : decode cX9_cutOf 7 = .ok (.istore_n 3, 1) := by decide +kernel
theorem s71_7 {d : Nat} {st : List Value} {σ : am_I} {ρ : am_R} {g : am_J} {τ : am_T} {Q : am_Q} {x0 x1 x3 : Value} {v : Int32} {u : Int32} : AW d 71 7 [x0, x1, .int u, x3] (.int v :: st) σ ρ g τ Q = AW d 71 8 [x0, x1, .int u, .int v] (st) σ ρ g τ Q := aw_lc m71 d71_7 rfl rfl rfl
theorem d71_8 : decode cX9_cutOf 8 = .ok (.iload_n 3, 1) := by decide +kernel
theorem s71_8 {d : Nat} {st : List Value} {σ : am_I} {ρ : am_R} {g : am_J} {τ : am_T} {Q : am_Q} {x0 x1 x2 : Value} {v : Int32} : AW d 71 8 [x0, x1, x2, .int v] (st) σ ρ g τ Q = AW d 71 9 [x0, x1, x2, .int v] (.int v :: st) σ ρ g τ Q := aw_lc m71 d71_8 rfl rfl rfl
theorem d71_9 : decode cX9_cutOf 9 = .ok (.ifCond .ge 7, 3) := by decide +kernel
theorem s71_9 {d : Nat} {st : List Value} {σ : am_I} {ρ : am_R} {g : am_J} {τ : am_T} {Q : am_Q} {x0 x1 x2 x3 : Value} {v : Int32} : AW d 71 9 [x0, x1, x2, x3] (.int v :: st) σ ρ g τ Q = if 0 ≤ v then AW d 71 16 [x0, x1, x2, x3] (st) σ ρ g τ Q else AW d 71 12 [x0, x1, x2, x3] (st) σ ρ g τ Q := aw_br m71 d71_9 rfl rfl rfl
theorem d71_12 : decode cX9_cutOf 12 = .ok (.iconst 0, 1) := by decide +kernel
theorem s71_12 {d : Nat} {st : List Value} {σ : am_I} {ρ : am_R} {g : am_J} {τ : am_T} {Q : am_Q} {x0 x1 x2 x3 : Value} : AW d 71 12 [x0, x1, x2, x3] (st) σ ρ g τ Q = AW d 71 13 [x0, x1, x2, x3] (.int 0 :: st) σ ρ g τ Q := aw_lc m71 d71_12 rfl rfl rfl
theorem d71_13 : decode cX9_cutOf 13 = .ok (.goto 12, 3) := by decide +kernel
theorem s71_13 {d : Nat} {st : List Value} {σ : am_I} {ρ : am_R} {g : am_J} {τ : am_T} {Q : am_Q} {x0 x1 x2 x3 : Value} : AW d 71 13 [x0, x1, x2, x3] (st) σ ρ g τ Q = AW d 71 25 [x0, x1, x2, x3] (st) σ ρ g τ Q := aw_lc m71 d71_13 rfl rfl rfl
theorem d71_16 : decode cX9_cutOf 16 = .ok (.aload_n 0, 1) := by decide +kernel
theorem s71_16 {d : Nat} {st : List Value} {σ : am_I} {ρ : am_R} {g : am_J} {τ : am_T} {Q : am_Q} {x1 x2 x3 : Value} {v : Nat} : AW d 71 16 [.ref v, x1, x2, x3] (st) σ ρ g τ Q = AW d 71 17 [.ref v, x1, x2, x3] (.ref v :: st) σ ρ g τ Q := aw_lc m71 d71_16 rfl rfl rfl
theorem d71_17 : decode cX9_cutOf 17 = .ok (.getfield 15, 3) := by decide +kernel
theorem s71_17 {d : Nat} {st : List Value} {σ : am_I} {ρ : am_R} {g : am_J} {τ : am_T} {Q : am_Q} {x0 x1 x2 x3 : Value} {a : Nat} (ht : τ.1 a = 9) : AW d 71 17 [x0, x1, x2, x3] (.ref a :: st) σ ρ g τ Q = AW d 71 20 [x0, x1, x2, x3] (va_rf (ρ a 1) :: st) σ ρ g τ Q := aw_gr m71 d71_17 rfl rfl rfl ht
theorem d71_20 : decode cX9_cutOf 20 = .ok (.iload_n 3, 1) := by decide +kernel
theorem s71_20 {d : Nat} {st : List Value} {σ : am_I} {ρ : am_R} {g : am_J} {τ : am_T} {Q : am_Q} {x0 x1 x2 : Value} {v : Int32} : AW d 71 20 [x0, x1, x2, .int v] (st) σ ρ g τ Q = AW d 71 21 [x0, x1, x2, .int v] (.int v :: st) σ ρ g τ Q := aw_lc m71 d71_20 rfl rfl rfl
theorem d71_21 : decode cX9_cutOf 21 = .ok (.aaload, 1) := by decide +kernel
theorem s71_21 {d : Nat} {st : List Value} {σ : am_I} {ρ : am_R} {g : am_J} {τ : am_T} {Q : am_Q} {x0 x1 x2 x3 : Value} {a : Nat} {j : Int32} (ht : 18 ≤ τ.1 a ∧ τ.1 a ≤ 22) (hj : am_inb j (τ.2.1 a) = true) : AW d 71 21 [x0, x1, x2, x3] (.int j :: .ref a :: st) σ ρ g τ Q = AW d 71 22 [x0, x1, x2, x3] (va_rf (ρ a j.toNatClampNeg) :: st) σ ρ g τ Q := aw_aal m71 d71_21 rfl ht hj
theorem d71_22 : decode cX9_cutOf 22 = .ok (.getfield 32, 3) := by decide +kernel
theorem s71_22 {d : Nat} {st : List Value} {σ : am_I} {ρ : am_R} {g : am_J} {τ : am_T} {Q : am_Q} {x0 x1 x2 x3 : Value} {a : Nat} (ht : τ.1 a = 5) : AW d 71 22 [x0, x1, x2, x3] (.ref a :: st) σ ρ g τ Q = AW d 71 25 [x0, x1, x2, x3] (.int (σ a 1) :: st) σ ρ g τ Q := aw_gi m71 d71_22 rfl rfl rfl ht
theorem d71_25 : decode cX9_cutOf 25 = .ok (.ireturn, 1) := by decide +kernel
theorem s71_25 {d : Nat} {σ : am_I} {ρ : am_R} {g : am_J} {τ : am_T} {Q : am_Q} {x0 x1 x2 x3 : Value} {v : Int32} : AW d 71 25 [x0, x1, x2, x3] ([.int v]) σ ρ g τ Q = Q (some (.int v)) σ ρ g τ := aw_ri m71 d71_25 rfl
theorem d72_0 : decode cX9_bars 0 = .ok (.aload_n 0, 1) := by decide +kernel
theorem s72_0 {d : Nat} {st : List Value} {σ : am_I} {ρ : am_R} {g : am_J} {τ : am_T} {Q : am_Q} {x1 x2 : Value} {v : Nat} : AW d 72 0 [.ref v, x1, x2] (st) σ ρ g τ Q = AW d 72 1 [.ref v, x1, x2] (.ref v :: st) σ ρ g τ Q := aw_lc m72 d72_0 rfl rfl rfl
theorem d72_1 : decode cX9_bars 1 = .ok (.iconst 2, 1) := by decide +kernel
theorem s72_1 {d : Nat} {st : List Value} {σ : am_I} {ρ : am_R} {g : am_J} {τ : am_T} {Q : am_Q} {x0 x1 x2 : Value} : AW d 72 1 [x0, x1, x2] (st) σ ρ g τ Q = AW d 72 2 [x0, x1, x2] (.int 2 :: st) σ ρ g τ Q := aw_lc m72 d72_1 rfl rfl rfl
theorem d72_2 : decode cX9_bars 2 = .ok (.aload_n 1, 1) := by decide +kernel
theorem s72_2 {d : Nat} {st : List Value} {σ : am_I} {ρ : am_R} {g : am_J} {τ : am_T} {Q : am_Q} {x0 x2 : Value} {v : Nat} : AW d 72 2 [x0, .ref v, x2] (st) σ ρ g τ Q = AW d 72 3 [x0, .ref v, x2] (.ref v :: st) σ ρ g τ Q := aw_lc m72 d72_2 rfl rfl rfl
theorem d72_3 : decode cX9_bars 3 = .ok (.iload_n 2, 1) := by decide +kernel
theorem s72_3 {d : Nat} {st : List Value} {σ : am_I} {ρ : am_R} {g : am_J} {τ : am_T} {Q : am_Q} {x0 x1 : Value} {v : Int32} : AW d 72 3 [x0, x1, .int v] (st) σ ρ g τ Q = AW d 72 4 [x0, x1, .int v] (.int v :: st) σ ρ g τ Q := aw_lc m72 d72_3 rfl rfl rfl
theorem d72_4 : decode cX9_bars 4 = .ok (.invokevirtual 28, 3) := by decide +kernel
theorem s72_4 {d : Nat} {st : List Value} {σ : am_I} {ρ : am_R} {g : am_J} {τ : am_T} {Q : am_Q} {x0 x1 x2 : Value} {p0 : Nat} {p1 : Int32} {p2 : Nat} {p3 : Int32} (ht : τ.1 p0 = 9) (hs : st.length ≤ 4) : AW (d + 1) 72 4 [x0, x1, x2] (.int p3 :: .ref p2 :: .int p1 :: .ref p0 :: st) σ ρ g τ Q = AW d 69 0 [.ref p0, .int p1, .ref p2, .int p3, am_jk] [] σ ρ g τ (fun r9 σ ρ g τ => AW (d + 1) 72 7 [x0, x1, x2] (r9.toList ++ st) σ ρ g τ Q) := aw_cv m72 d72_4 rfl m69 rfl rfl (by decide) en69 ok69 rfl ht hs
theorem d72_7 : decode cX9_bars 7 = .ok (.ifCond .lt 7, 3) := by decide +kernel
theorem s72_7 {d : Nat} {st : List Value} {σ : am_I} {ρ : am_R} {g : am_J} {τ : am_T} {Q : am_Q} {x0 x1 x2 : Value} {v : Int32} : AW d 72 7 [x0, x1, x2] (.int v :: st) σ ρ g τ Q = if v < 0 then AW d 72 14 [x0, x1, x2] (st) σ ρ g τ Q else AW d 72 10 [x0, x1, x2] (st) σ ρ g τ Q := aw_br m72 d72_7 rfl rfl rfl
theorem d72_10 : decode cX9_bars 10 = .ok (.iconst 1, 1) := by decide +kernel
theorem s72_10 {d : Nat} {st : List Value} {σ : am_I} {ρ : am_R} {g : am_J} {τ : am_T} {Q : am_Q} {x0 x1 x2 : Value} : AW d 72 10 [x0, x1, x2] (st) σ ρ g τ Q = AW d 72 11 [x0, x1, x2] (.int 1 :: st) σ ρ g τ Q := aw_lc m72 d72_10 rfl rfl rfl
theorem d72_11 : decode cX9_bars 11 = .ok (.goto 4, 3) := by decide +kernel
theorem s72_11 {d : Nat} {st : List Value} {σ : am_I} {ρ : am_R} {g : am_J} {τ : am_T} {Q : am_Q} {x0 x1 x2 : Value} : AW d 72 11 [x0, x1, x2] (st) σ ρ g τ Q = AW d 72 15 [x0, x1, x2] (st) σ ρ g τ Q := aw_lc m72 d72_11 rfl rfl rfl
theorem d72_14 : decode cX9_bars 14 = .ok (.iconst 0, 1) := by decide +kernel
theorem s72_14 {d : Nat} {st : List Value} {σ : am_I} {ρ : am_R} {g : am_J} {τ : am_T} {Q : am_Q} {x0 x1 x2 : Value} : AW d 72 14 [x0, x1, x2] (st) σ ρ g τ Q = AW d 72 15 [x0, x1, x2] (.int 0 :: st) σ ρ g τ Q := aw_lc m72 d72_14 rfl rfl rfl
theorem d72_15 : decode cX9_bars 15 = .ok (.ireturn, 1) := by decide +kernel
theorem s72_15 {d : Nat} {σ : am_I} {ρ : am_R} {g : am_J} {τ : am_T} {Q : am_Q} {x0 x1 x2 : Value} {v : Int32} (hv : am_b01 v = true) : AW d 72 15 [x0, x1, x2] ([.int v]) σ ρ g τ Q = Q (some (.int v)) σ ρ g τ := aw_rz m72 d72_15 rfl hv
theorem d73_0 : decode cX9_fallsOf 0 = .ok (.aload_n 1, 1) := by decide +kernel
theorem s73_0 {d : Nat} {st : List Value} {σ : am_I} {ρ : am_R} {g : am_J} {τ : am_T} {Q : am_Q} {x0 x2 : Value} {v : Nat} : AW d 73 0 [x0, .ref v, x2] (st) σ ρ g τ Q = AW d 73 1 [x0, .ref v, x2] (.ref v :: st) σ ρ g τ Q := aw_lc m73 d73_0 rfl rfl rfl
theorem d73_1 : decode cX9_fallsOf 1 = .ok (.getfield 35, 3) := by decide +kernel
theorem s73_1 {d : Nat} {st : List Value} {σ : am_I} {ρ : am_R} {g : am_J} {τ : am_T} {Q : am_Q} {x0 x1 x2 : Value} {a : Nat} (ht : τ.1 a = 1) : AW d 73 1 [x0, x1, x2] (.ref a :: st) σ ρ g τ Q = AW d 73 4 [x0, x1, x2] (.int (σ a 8) :: st) σ ρ g τ Q := aw_gi m73 d73_1 rfl rfl rfl ht
theorem d73_4 : decode cX9_fallsOf 4 = .ok (.ifCond .ne 12, 3) := by decide +kernel
theorem s73_4 {d : Nat} {st : List Value} {σ : am_I} {ρ : am_R} {g : am_J} {τ : am_T} {Q : am_Q} {x0 x1 x2 : Value} {v : Int32} : AW d 73 4 [x0, x1, x2] (.int v :: st) σ ρ g τ Q = if ¬ v = 0 then AW d 73 16 [x0, x1, x2] (st) σ ρ g τ Q else AW d 73 7 [x0, x1, x2] (st) σ ρ g τ Q := aw_br m73 d73_4 rfl rfl rfl
theorem d73_7 : decode cX9_fallsOf 7 = .ok (.aload_n 0, 1) := by decide +kernel
theorem s73_7 {d : Nat} {st : List Value} {σ : am_I} {ρ : am_R} {g : am_J} {τ : am_T} {Q : am_Q} {x1 x2 : Value} {v : Nat} : AW d 73 7 [.ref v, x1, x2] (st) σ ρ g τ Q = AW d 73 8 [.ref v, x1, x2] (.ref v :: st) σ ρ g τ Q := aw_lc m73 d73_7 rfl rfl rfl
theorem d73_8 : decode cX9_fallsOf 8 = .ok (.aload_n 1, 1) := by decide +kernel
theorem s73_8 {d : Nat} {st : List Value} {σ : am_I} {ρ : am_R} {g : am_J} {τ : am_T} {Q : am_Q} {x0 x2 : Value} {v : Nat} : AW d 73 8 [x0, .ref v, x2] (st) σ ρ g τ Q = AW d 73 9 [x0, .ref v, x2] (.ref v :: st) σ ρ g τ Q := aw_lc m73 d73_8 rfl rfl rfl
theorem d73_9 : decode cX9_fallsOf 9 = .ok (.iload_n 2, 1) := by decide +kernel
theorem s73_9 {d : Nat} {st : List Value} {σ : am_I} {ρ : am_R} {g : am_J} {τ : am_T} {Q : am_Q} {x0 x1 : Value} {v : Int32} : AW d 73 9 [x0, x1, .int v] (st) σ ρ g τ Q = AW d 73 10 [x0, x1, .int v] (.int v :: st) σ ρ g τ Q := aw_lc m73 d73_9 rfl rfl rfl
theorem d73_10 : decode cX9_fallsOf 10 = .ok (.invokevirtual 41, 3) := by decide +kernel
theorem s73_10 {d : Nat} {st : List Value} {σ : am_I} {ρ : am_R} {g : am_J} {τ : am_T} {Q : am_Q} {x0 x1 x2 : Value} {p0 : Nat} {p1 : Nat} {p2 : Int32} (ht : τ.1 p0 = 9) (hs : st.length ≤ 4) : AW (d + 1) 73 10 [x0, x1, x2] (.int p2 :: .ref p1 :: .ref p0 :: st) σ ρ g τ Q = AW d 72 0 [.ref p0, .ref p1, .int p2] [] σ ρ g τ (fun r9 σ ρ g τ => AW (d + 1) 73 13 [x0, x1, x2] (r9.toList ++ st) σ ρ g τ Q) := aw_cv m73 d73_10 rfl m72 rfl rfl (by decide) en72 ok72 rfl ht hs
theorem d73_13 : decode cX9_fallsOf 13 = .ok (.ifCond .eq 7, 3) := by decide +kernel
theorem s73_13 {d : Nat} {st : List Value} {σ : am_I} {ρ : am_R} {g : am_J} {τ : am_T} {Q : am_Q} {x0 x1 x2 : Value} {v : Int32} : AW d 73 13 [x0, x1, x2] (.int v :: st) σ ρ g τ Q = if v = 0 then AW d 73 20 [x0, x1, x2] (st) σ ρ g τ Q else AW d 73 16 [x0, x1, x2] (st) σ ρ g τ Q := aw_br m73 d73_13 rfl rfl rfl
theorem d73_16 : decode cX9_fallsOf 16 = .ok (.iconst 0, 1) := by decide +kernel
theorem s73_16 {d : Nat} {st : List Value} {σ : am_I} {ρ : am_R} {g : am_J} {τ : am_T} {Q : am_Q} {x0 x1 x2 : Value} : AW d 73 16 [x0, x1, x2] (st) σ ρ g τ Q = AW d 73 17 [x0, x1, x2] (.int 0 :: st) σ ρ g τ Q := aw_lc m73 d73_16 rfl rfl rfl
theorem d73_17 : decode cX9_fallsOf 17 = .ok (.goto 9, 3) := by decide +kernel
theorem s73_17 {d : Nat} {st : List Value} {σ : am_I} {ρ : am_R} {g : am_J} {τ : am_T} {Q : am_Q} {x0 x1 x2 : Value} : AW d 73 17 [x0, x1, x2] (st) σ ρ g τ Q = AW d 73 26 [x0, x1, x2] (st) σ ρ g τ Q := aw_lc m73 d73_17 rfl rfl rfl
theorem d73_20 : decode cX9_fallsOf 20 = .ok (.aload_n 0, 1) := by decide +kernel
theorem s73_20 {d : Nat} {st : List Value} {σ : am_I} {ρ : am_R} {g : am_J} {τ : am_T} {Q : am_Q} {x1 x2 : Value} {v : Nat} : AW d 73 20 [.ref v, x1, x2] (st) σ ρ g τ Q = AW d 73 21 [.ref v, x1, x2] (.ref v :: st) σ ρ g τ Q := aw_lc m73 d73_20 rfl rfl rfl
theorem d73_21 : decode cX9_fallsOf 21 = .ok (.aload_n 1, 1) := by decide +kernel
theorem s73_21 {d : Nat} {st : List Value} {σ : am_I} {ρ : am_R} {g : am_J} {τ : am_T} {Q : am_Q} {x0 x2 : Value} {v : Nat} : AW d 73 21 [x0, .ref v, x2] (st) σ ρ g τ Q = AW d 73 22 [x0, .ref v, x2] (.ref v :: st) σ ρ g τ Q := aw_lc m73 d73_21 rfl rfl rfl
theorem d73_22 : decode cX9_fallsOf 22 = .ok (.iload_n 2, 1) := by decide +kernel
theorem s73_22 {d : Nat} {st : List Value} {σ : am_I} {ρ : am_R} {g : am_J} {τ : am_T} {Q : am_Q} {x0 x1 : Value} {v : Int32} : AW d 73 22 [x0, x1, .int v] (st) σ ρ g τ Q = AW d 73 23 [x0, x1, .int v] (.int v :: st) σ ρ g τ Q := aw_lc m73 d73_22 rfl rfl rfl
theorem d73_23 : decode cX9_fallsOf 23 = .ok (.invokevirtual 44, 3) := by decide +kernel
theorem s73_23 {d : Nat} {st : List Value} {σ : am_I} {ρ : am_R} {g : am_J} {τ : am_T} {Q : am_Q} {x0 x1 x2 : Value} {p0 : Nat} {p1 : Nat} {p2 : Int32} (ht : τ.1 p0 = 9) (hs : st.length ≤ 4) : AW (d + 1) 73 23 [x0, x1, x2] (.int p2 :: .ref p1 :: .ref p0 :: st) σ ρ g τ Q = AW d 74 0 [.ref p0, .ref p1, .int p2] [] σ ρ g τ (fun r9 σ ρ g τ => AW (d + 1) 73 26 [x0, x1, x2] (r9.toList ++ st) σ ρ g τ Q) := aw_cv m73 d73_23 rfl m74 rfl rfl (by decide) en74 ok74 rfl ht hs
theorem d73_26 : decode cX9_fallsOf 26 = .ok (.ireturn, 1) := by decide +kernel
theorem s73_26 {d : Nat} {σ : am_I} {ρ : am_R} {g : am_J} {τ : am_T} {Q : am_Q} {x0 x1 x2 : Value} {v : Int32} : AW d 73 26 [x0, x1, x2] ([.int v]) σ ρ g τ Q = Q (some (.int v)) σ ρ g τ := aw_ri m73 d73_26 rfl
theorem d74_0 : decode cX9_cutSum 0 = .ok (.aload_n 1, 1) := by decide +kernel
theorem s74_0 {d : Nat} {st : List Value} {σ : am_I} {ρ : am_R} {g : am_J} {τ : am_T} {Q : am_Q} {x0 x2 : Value} {v : Nat} : AW d 74 0 [x0, .ref v, x2] (st) σ ρ g τ Q = AW d 74 1 [x0, .ref v, x2] (.ref v :: st) σ ρ g τ Q := aw_lc m74 d74_0 rfl rfl rfl
theorem d74_1 : decode cX9_cutSum 1 = .ok (.iload_n 2, 1) := by decide +kernel
theorem s74_1 {d : Nat} {st : List Value} {σ : am_I} {ρ : am_R} {g : am_J} {τ : am_T} {Q : am_Q} {x0 x1 : Value} {v : Int32} : AW d 74 1 [x0, x1, .int v] (st) σ ρ g τ Q = AW d 74 2 [x0, x1, .int v] (.int v :: st) σ ρ g τ Q := aw_lc m74 d74_1 rfl rfl rfl
theorem d74_2 : decode cX9_cutSum 2 = .ok (.invokevirtual 48, 3) := by decide +kernel
theorem s74_2 {d : Nat} {st : List Value} {σ : am_I} {ρ : am_R} {g : am_J} {τ : am_T} {Q : am_Q} {x0 x1 x2 : Value} {p0 : Nat} {p1 : Int32} (ht : τ.1 p0 = 1) (hs : st.length ≤ 4) : AW (d + 1) 74 2 [x0, x1, x2] (.int p1 :: .ref p0 :: st) σ ρ g τ Q = AW d 10 0 [.ref p0, .int p1] [] σ ρ g τ (fun r9 σ ρ g τ => AW (d + 1) 74 5 [x0, x1, x2] (r9.toList ++ st) σ ρ g τ Q) := aw_cv m74 d74_2 rfl m10 rfl rfl (by decide) en10 ok10 rfl ht hs
theorem d74_5 : decode cX9_cutSum 5 = .ok (.ifCond .eq 28, 3) := by decide +kernel
theorem s74_5 {d : Nat} {st : List Value} {σ : am_I} {ρ : am_R} {g : am_J} {τ : am_T} {Q : am_Q} {x0 x1 x2 : Value} {v : Int32} : AW d 74 5 [x0, x1, x2] (.int v :: st) σ ρ g τ Q = if v = 0 then AW d 74 33 [x0, x1, x2] (st) σ ρ g τ Q else AW d 74 8 [x0, x1, x2] (st) σ ρ g τ Q := aw_br m74 d74_5 rfl rfl rfl
theorem d74_8 : decode cX9_cutSum 8 = .ok (.aload_n 1, 1) := by decide +kernel
theorem s74_8 {d : Nat} {st : List Value} {σ : am_I} {ρ : am_R} {g : am_J} {τ : am_T} {Q : am_Q} {x0 x2 : Value} {v : Nat} : AW d 74 8 [x0, .ref v, x2] (st) σ ρ g τ Q = AW d 74 9 [x0, .ref v, x2] (.ref v :: st) σ ρ g τ Q := aw_lc m74 d74_8 rfl rfl rfl
theorem d74_9 : decode cX9_cutSum 9 = .ok (.getfield 52, 3) := by decide +kernel
theorem s74_9 {d : Nat} {st : List Value} {σ : am_I} {ρ : am_R} {g : am_J} {τ : am_T} {Q : am_Q} {x0 x1 x2 : Value} {a : Nat} (ht : τ.1 a = 1) : AW d 74 9 [x0, x1, x2] (.ref a :: st) σ ρ g τ Q = AW d 74 12 [x0, x1, x2] (.int (σ a 3) :: st) σ ρ g τ Q := aw_gi m74 d74_9 rfl rfl rfl ht
theorem d74_12 : decode cX9_cutSum 12 = .ok (.aload_n 1, 1) := by decide +kernel
theorem s74_12 {d : Nat} {st : List Value} {σ : am_I} {ρ : am_R} {g : am_J} {τ : am_T} {Q : am_Q} {x0 x2 : Value} {v : Nat} : AW d 74 12 [x0, .ref v, x2] (st) σ ρ g τ Q = AW d 74 13 [x0, .ref v, x2] (.ref v :: st) σ ρ g τ Q := aw_lc m74 d74_12 rfl rfl rfl
theorem d74_13 : decode cX9_cutSum 13 = .ok (.getfield 52, 3) := by decide +kernel
theorem s74_13 {d : Nat} {st : List Value} {σ : am_I} {ρ : am_R} {g : am_J} {τ : am_T} {Q : am_Q} {x0 x1 x2 : Value} {a : Nat} (ht : τ.1 a = 1) : AW d 74 13 [x0, x1, x2] (.ref a :: st) σ ρ g τ Q = AW d 74 16 [x0, x1, x2] (.int (σ a 3) :: st) σ ρ g τ Q := aw_gi m74 d74_13 rfl rfl rfl ht
theorem d74_16 : decode cX9_cutSum 16 = .ok (.aload_n 0, 1) := by decide +kernel
theorem s74_16 {d : Nat} {st : List Value} {σ : am_I} {ρ : am_R} {g : am_J} {τ : am_T} {Q : am_Q} {x1 x2 : Value} {v : Nat} : AW d 74 16 [.ref v, x1, x2] (st) σ ρ g τ Q = AW d 74 17 [.ref v, x1, x2] (.ref v :: st) σ ρ g τ Q := aw_lc m74 d74_16 rfl rfl rfl
theorem d74_17 : decode cX9_cutSum 17 = .ok (.aload_n 1, 1) := by decide +kernel
theorem s74_17 {d : Nat} {st : List Value} {σ : am_I} {ρ : am_R} {g : am_J} {τ : am_T} {Q : am_Q} {x0 x2 : Value} {v : Nat} : AW d 74 17 [x0, .ref v, x2] (st) σ ρ g τ Q = AW d 74 18 [x0, .ref v, x2] (.ref v :: st) σ ρ g τ Q := aw_lc m74 d74_17 rfl rfl rfl
theorem d74_18 : decode cX9_cutSum 18 = .ok (.iload_n 2, 1) := by decide +kernel
theorem s74_18 {d : Nat} {st : List Value} {σ : am_I} {ρ : am_R} {g : am_J} {τ : am_T} {Q : am_Q} {x0 x1 : Value} {v : Int32} : AW d 74 18 [x0, x1, .int v] (st) σ ρ g τ Q = AW d 74 19 [x0, x1, .int v] (.int v :: st) σ ρ g τ Q := aw_lc m74 d74_18 rfl rfl rfl
theorem d74_19 : decode cX9_cutSum 19 = .ok (.invokevirtual 55, 3) := by decide +kernel
theorem s74_19 {d : Nat} {st : List Value} {σ : am_I} {ρ : am_R} {g : am_J} {τ : am_T} {Q : am_Q} {x0 x1 x2 : Value} {p0 : Nat} {p1 : Nat} {p2 : Int32} (ht : τ.1 p0 = 9) (hs : st.length ≤ 4) : AW (d + 1) 74 19 [x0, x1, x2] (.int p2 :: .ref p1 :: .ref p0 :: st) σ ρ g τ Q = AW d 71 0 [.ref p0, .ref p1, .int p2, am_jk] [] σ ρ g τ (fun r9 σ ρ g τ => AW (d + 1) 74 22 [x0, x1, x2] (r9.toList ++ st) σ ρ g τ Q) := aw_cv m74 d74_19 rfl m71 rfl rfl (by decide) en71 ok71 rfl ht hs
theorem d74_22 : decode cX9_cutSum 22 = .ok (.imul, 1) := by decide +kernel
theorem s74_22 {d : Nat} {st : List Value} {σ : am_I} {ρ : am_R} {g : am_J} {τ : am_T} {Q : am_Q} {x0 x1 x2 : Value} {v w : Int32} : AW d 74 22 [x0, x1, x2] (.int w :: .int v :: st) σ ρ g τ Q = AW d 74 23 [x0, x1, x2] (.int (v * w) :: st) σ ρ g τ Q := aw_lc m74 d74_22 rfl rfl rfl
theorem d74_23 : decode cX9_cutSum 23 = .ok (.bipush 99, 2) := by decide +kernel
theorem s74_23 {d : Nat} {st : List Value} {σ : am_I} {ρ : am_R} {g : am_J} {τ : am_T} {Q : am_Q} {x0 x1 x2 : Value} : AW d 74 23 [x0, x1, x2] (st) σ ρ g τ Q = AW d 74 25 [x0, x1, x2] (.int 99 :: st) σ ρ g τ Q := aw_lc m74 d74_23 rfl rfl rfl
theorem d74_25 : decode cX9_cutSum 25 = .ok (.iadd, 1) := by decide +kernel
theorem s74_25 {d : Nat} {st : List Value} {σ : am_I} {ρ : am_R} {g : am_J} {τ : am_T} {Q : am_Q} {x0 x1 x2 : Value} {v w : Int32} : AW d 74 25 [x0, x1, x2] (.int w :: .int v :: st) σ ρ g τ Q = AW d 74 26 [x0, x1, x2] (.int (v + w) :: st) σ ρ g τ Q := aw_lc m74 d74_25 rfl rfl rfl
theorem d74_26 : decode cX9_cutSum 26 = .ok (.bipush 100, 2) := by decide +kernel
theorem s74_26 {d : Nat} {st : List Value} {σ : am_I} {ρ : am_R} {g : am_J} {τ : am_T} {Q : am_Q} {x0 x1 x2 : Value} : AW d 74 26 [x0, x1, x2] (st) σ ρ g τ Q = AW d 74 28 [x0, x1, x2] (.int 100 :: st) σ ρ g τ Q := aw_lc m74 d74_26 rfl rfl rfl
theorem d74_28 : decode cX9_cutSum 28 = .ok (.idiv, 1) := by decide +kernel
theorem s74_28 {d : Nat} {st : List Value} {σ : am_I} {ρ : am_R} {g : am_J} {τ : am_T} {Q : am_Q} {x0 x1 x2 : Value} {v w : Int32} (h0 : ¬ w = 0) : AW d 74 28 [x0, x1, x2] (.int w :: .int v :: st) σ ρ g τ Q = AW d 74 29 [x0, x1, x2] (.int (v / w) :: st) σ ρ g τ Q := aw_div m74 d74_28 h0 rfl
theorem d74_29 : decode cX9_cutSum 29 = .ok (.isub, 1) := by decide +kernel
theorem s74_29 {d : Nat} {st : List Value} {σ : am_I} {ρ : am_R} {g : am_J} {τ : am_T} {Q : am_Q} {x0 x1 x2 : Value} {v w : Int32} : AW d 74 29 [x0, x1, x2] (.int w :: .int v :: st) σ ρ g τ Q = AW d 74 30 [x0, x1, x2] (.int (v - w) :: st) σ ρ g τ Q := aw_lc m74 d74_29 rfl rfl rfl
theorem d74_30 : decode cX9_cutSum 30 = .ok (.goto 4, 3) := by decide +kernel
theorem s74_30 {d : Nat} {st : List Value} {σ : am_I} {ρ : am_R} {g : am_J} {τ : am_T} {Q : am_Q} {x0 x1 x2 : Value} : AW d 74 30 [x0, x1, x2] (st) σ ρ g τ Q = AW d 74 34 [x0, x1, x2] (st) σ ρ g τ Q := aw_lc m74 d74_30 rfl rfl rfl
theorem d74_33 : decode cX9_cutSum 33 = .ok (.iconst 0, 1) := by decide +kernel
theorem s74_33 {d : Nat} {st : List Value} {σ : am_I} {ρ : am_R} {g : am_J} {τ : am_T} {Q : am_Q} {x0 x1 x2 : Value} : AW d 74 33 [x0, x1, x2] (st) σ ρ g τ Q = AW d 74 34 [x0, x1, x2] (.int 0 :: st) σ ρ g τ Q := aw_lc m74 d74_33 rfl rfl rfl
theorem d74_34 : decode cX9_cutSum 34 = .ok (.ireturn, 1) := by decide +kernel
theorem s74_34 {d : Nat} {σ : am_I} {ρ : am_R} {g : am_J} {τ : am_T} {Q : am_Q} {x0 x1 x2 : Value} {v : Int32} : AW d 74 34 [x0, x1, x2] ([.int v]) σ ρ g τ Q = Q (some (.int v)) σ ρ g τ := aw_ri m74 d74_34 rfl
theorem d75_0 : decode cX9_latestNumber 0 = .ok (.aload_n 0, 1) := by decide +kernel
theorem s75_0 {d : Nat} {st : List Value} {σ : am_I} {ρ : am_R} {g : am_J} {τ : am_T} {Q : am_Q} {x1 x2 x3 : Value} {v : Nat} : AW d 75 0 [.ref v, x1, x2, x3] (st) σ ρ g τ Q = AW d 75 1 [.ref v, x1, x2, x3] (.ref v :: st) σ ρ g τ Q := aw_lc m75 d75_0 rfl rfl rfl
theorem d75_1 : decode cX9_latestNumber 1 = .ok (.getfield 15, 3) := by decide +kernel
theorem s75_1 {d : Nat} {st : List Value} {σ : am_I} {ρ : am_R} {g : am_J} {τ : am_T} {Q : am_Q} {x0 x1 x2 x3 : Value} {a : Nat} (ht : τ.1 a = 9) : AW d 75 1 [x0, x1, x2, x3] (.ref a :: st) σ ρ g τ Q = AW d 75 4 [x0, x1, x2, x3] (va_rf (ρ a 1) :: st) σ ρ g τ Q := aw_gr m75 d75_1 rfl rfl rfl ht
theorem d75_4 : decode cX9_latestNumber 4 = .ok (.arraylength, 1) := by decide +kernel
theorem s75_4 {d : Nat} {st : List Value} {σ : am_I} {ρ : am_R} {g : am_J} {τ : am_T} {Q : am_Q} {x0 x1 x2 x3 : Value} {a : Nat} (ht : 14 ≤ τ.1 a ∧ τ.1 a ≤ 22) : AW d 75 4 [x0, x1, x2, x3] (.ref a :: st) σ ρ g τ Q = AW d 75 5 [x0, x1, x2, x3] (.int (nI (τ.2.1 a)) :: st) σ ρ g τ Q := aw_len m75 d75_4 rfl ht
theorem d75_5 : decode cX9_latestNumber 5 = .ok (.iconst 1, 1) := by decide +kernel
theorem s75_5 {d : Nat} {st : List Value} {σ : am_I} {ρ : am_R} {g : am_J} {τ : am_T} {Q : am_Q} {x0 x1 x2 x3 : Value} : AW d 75 5 [x0, x1, x2, x3] (st) σ ρ g τ Q = AW d 75 6 [x0, x1, x2, x3] (.int 1 :: st) σ ρ g τ Q := aw_lc m75 d75_5 rfl rfl rfl
theorem d75_6 : decode cX9_latestNumber 6 = .ok (.isub, 1) := by decide +kernel
theorem s75_6 {d : Nat} {st : List Value} {σ : am_I} {ρ : am_R} {g : am_J} {τ : am_T} {Q : am_Q} {x0 x1 x2 x3 : Value} {v w : Int32} : AW d 75 6 [x0, x1, x2, x3] (.int w :: .int v :: st) σ ρ g τ Q = AW d 75 7 [x0, x1, x2, x3] (.int (v - w) :: st) σ ρ g τ Q := aw_lc m75 d75_6 rfl rfl rfl
theorem d75_7 : decode cX9_latestNumber 7 = .ok (.istore_n 3, 1) := by decide +kernel
theorem s75_7 {d : Nat} {st : List Value} {σ : am_I} {ρ : am_R} {g : am_J} {τ : am_T} {Q : am_Q} {x0 x1 x3 : Value} {v : Int32} {u : Int32} : AW d 75 7 [x0, x1, .int u, x3] (.int v :: st) σ ρ g τ Q = AW d 75 8 [x0, x1, .int u, .int v] (st) σ ρ g τ Q := aw_lc m75 d75_7 rfl rfl rfl
theorem d75_8 : decode cX9_latestNumber 8 = .ok (.iload_n 3, 1) := by decide +kernel
theorem s75_8 {d : Nat} {st : List Value} {σ : am_I} {ρ : am_R} {g : am_J} {τ : am_T} {Q : am_Q} {x0 x1 x2 : Value} {v : Int32} : AW d 75 8 [x0, x1, x2, .int v] (st) σ ρ g τ Q = AW d 75 9 [x0, x1, x2, .int v] (.int v :: st) σ ρ g τ Q := aw_lc m75 d75_8 rfl rfl rfl
theorem d75_9 : decode cX9_latestNumber 9 = .ok (.ifCond .lt 45, 3) := by decide +kernel
theorem s75_9 {d : Nat} {st : List Value} {σ : am_I} {ρ : am_R} {g : am_J} {τ : am_T} {Q : am_Q} {x0 x1 x2 x3 : Value} {v : Int32} : AW d 75 9 [x0, x1, x2, x3] (.int v :: st) σ ρ g τ Q = if v < 0 then AW d 75 54 [x0, x1, x2, x3] (st) σ ρ g τ Q else AW d 75 12 [x0, x1, x2, x3] (st) σ ρ g τ Q := aw_br m75 d75_9 rfl rfl rfl
theorem d75_12 : decode cX9_latestNumber 12 = .ok (.aload_n 0, 1) := by decide +kernel
theorem s75_12 {d : Nat} {st : List Value} {σ : am_I} {ρ : am_R} {g : am_J} {τ : am_T} {Q : am_Q} {x1 x2 x3 : Value} {v : Nat} : AW d 75 12 [.ref v, x1, x2, x3] (st) σ ρ g τ Q = AW d 75 13 [.ref v, x1, x2, x3] (.ref v :: st) σ ρ g τ Q := aw_lc m75 d75_12 rfl rfl rfl
theorem d75_13 : decode cX9_latestNumber 13 = .ok (.getfield 15, 3) := by decide +kernel
theorem s75_13 {d : Nat} {st : List Value} {σ : am_I} {ρ : am_R} {g : am_J} {τ : am_T} {Q : am_Q} {x0 x1 x2 x3 : Value} {a : Nat} (ht : τ.1 a = 9) : AW d 75 13 [x0, x1, x2, x3] (.ref a :: st) σ ρ g τ Q = AW d 75 16 [x0, x1, x2, x3] (va_rf (ρ a 1) :: st) σ ρ g τ Q := aw_gr m75 d75_13 rfl rfl rfl ht
theorem d75_16 : decode cX9_latestNumber 16 = .ok (.iload_n 3, 1) := by decide +kernel
theorem s75_16 {d : Nat} {st : List Value} {σ : am_I} {ρ : am_R} {g : am_J} {τ : am_T} {Q : am_Q} {x0 x1 x2 : Value} {v : Int32} : AW d 75 16 [x0, x1, x2, .int v] (st) σ ρ g τ Q = AW d 75 17 [x0, x1, x2, .int v] (.int v :: st) σ ρ g τ Q := aw_lc m75 d75_16 rfl rfl rfl
theorem d75_17 : decode cX9_latestNumber 17 = .ok (.aaload, 1) := by decide +kernel
theorem s75_17 {d : Nat} {st : List Value} {σ : am_I} {ρ : am_R} {g : am_J} {τ : am_T} {Q : am_Q} {x0 x1 x2 x3 : Value} {a : Nat} {j : Int32} (ht : 18 ≤ τ.1 a ∧ τ.1 a ≤ 22) (hj : am_inb j (τ.2.1 a) = true) : AW d 75 17 [x0, x1, x2, x3] (.int j :: .ref a :: st) σ ρ g τ Q = AW d 75 18 [x0, x1, x2, x3] (va_rf (ρ a j.toNatClampNeg) :: st) σ ρ g τ Q := aw_aal m75 d75_17 rfl ht hj
theorem d75_18 : decode cX9_latestNumber 18 = .ok (.getfield 19, 3) := by decide +kernel
theorem s75_18 {d : Nat} {st : List Value} {σ : am_I} {ρ : am_R} {g : am_J} {τ : am_T} {Q : am_Q} {x0 x1 x2 x3 : Value} {a : Nat} (ht : τ.1 a = 5) : AW d 75 18 [x0, x1, x2, x3] (.ref a :: st) σ ρ g τ Q = AW d 75 21 [x0, x1, x2, x3] (.int (σ a 0) :: st) σ ρ g τ Q := aw_gi m75 d75_18 rfl rfl rfl ht
theorem d75_21 : decode cX9_latestNumber 21 = .ok (.iload_n 1, 1) := by decide +kernel
theorem s75_21 {d : Nat} {st : List Value} {σ : am_I} {ρ : am_R} {g : am_J} {τ : am_T} {Q : am_Q} {x0 x2 x3 : Value} {v : Int32} : AW d 75 21 [x0, .int v, x2, x3] (st) σ ρ g τ Q = AW d 75 22 [x0, .int v, x2, x3] (.int v :: st) σ ρ g τ Q := aw_lc m75 d75_21 rfl rfl rfl
theorem d75_22 : decode cX9_latestNumber 22 = .ok (.if_icmp .ne 26, 3) := by decide +kernel
theorem s75_22 {d : Nat} {st : List Value} {σ : am_I} {ρ : am_R} {g : am_J} {τ : am_T} {Q : am_Q} {x0 x1 x2 x3 : Value} {v w : Int32} : AW d 75 22 [x0, x1, x2, x3] (.int w :: .int v :: st) σ ρ g τ Q = if ¬ v = w then AW d 75 48 [x0, x1, x2, x3] (st) σ ρ g τ Q else AW d 75 25 [x0, x1, x2, x3] (st) σ ρ g τ Q := aw_br m75 d75_22 rfl rfl rfl
theorem d75_25 : decode cX9_latestNumber 25 = .ok (.aload_n 0, 1) := by decide +kernel
theorem s75_25 {d : Nat} {st : List Value} {σ : am_I} {ρ : am_R} {g : am_J} {τ : am_T} {Q : am_Q} {x1 x2 x3 : Value} {v : Nat} : AW d 75 25 [.ref v, x1, x2, x3] (st) σ ρ g τ Q = AW d 75 26 [.ref v, x1, x2, x3] (.ref v :: st) σ ρ g τ Q := aw_lc m75 d75_25 rfl rfl rfl
theorem d75_26 : decode cX9_latestNumber 26 = .ok (.getfield 15, 3) := by decide +kernel
theorem s75_26 {d : Nat} {st : List Value} {σ : am_I} {ρ : am_R} {g : am_J} {τ : am_T} {Q : am_Q} {x0 x1 x2 x3 : Value} {a : Nat} (ht : τ.1 a = 9) : AW d 75 26 [x0, x1, x2, x3] (.ref a :: st) σ ρ g τ Q = AW d 75 29 [x0, x1, x2, x3] (va_rf (ρ a 1) :: st) σ ρ g τ Q := aw_gr m75 d75_26 rfl rfl rfl ht
theorem d75_29 : decode cX9_latestNumber 29 = .ok (.iload_n 3, 1) := by decide +kernel
theorem s75_29 {d : Nat} {st : List Value} {σ : am_I} {ρ : am_R} {g : am_J} {τ : am_T} {Q : am_Q} {x0 x1 x2 : Value} {v : Int32} : AW d 75 29 [x0, x1, x2, .int v] (st) σ ρ g τ Q = AW d 75 30 [x0, x1, x2, .int v] (.int v :: st) σ ρ g τ Q := aw_lc m75 d75_29 rfl rfl rfl
theorem d75_30 : decode cX9_latestNumber 30 = .ok (.aaload, 1) := by decide +kernel
theorem s75_30 {d : Nat} {st : List Value} {σ : am_I} {ρ : am_R} {g : am_J} {τ : am_T} {Q : am_Q} {x0 x1 x2 x3 : Value} {a : Nat} {j : Int32} (ht : 18 ≤ τ.1 a ∧ τ.1 a ≤ 22) (hj : am_inb j (τ.2.1 a) = true) : AW d 75 30 [x0, x1, x2, x3] (.int j :: .ref a :: st) σ ρ g τ Q = AW d 75 31 [x0, x1, x2, x3] (va_rf (ρ a j.toNatClampNeg) :: st) σ ρ g τ Q := aw_aal m75 d75_30 rfl ht hj
theorem d75_31 : decode cX9_latestNumber 31 = .ok (.getfield 58, 3) := by decide +kernel
theorem s75_31 {d : Nat} {st : List Value} {σ : am_I} {ρ : am_R} {g : am_J} {τ : am_T} {Q : am_Q} {x0 x1 x2 x3 : Value} {a : Nat} (ht : τ.1 a = 5) : AW d 75 31 [x0, x1, x2, x3] (.ref a :: st) σ ρ g τ Q = AW d 75 34 [x0, x1, x2, x3] (.int (σ a 2) :: st) σ ρ g τ Q := aw_gi m75 d75_31 rfl rfl rfl ht
theorem d75_34 : decode cX9_latestNumber 34 = .ok (.iload_n 2, 1) := by decide +kernel
theorem s75_34 {d : Nat} {st : List Value} {σ : am_I} {ρ : am_R} {g : am_J} {τ : am_T} {Q : am_Q} {x0 x1 x3 : Value} {v : Int32} : AW d 75 34 [x0, x1, .int v, x3] (st) σ ρ g τ Q = AW d 75 35 [x0, x1, .int v, x3] (.int v :: st) σ ρ g τ Q := aw_lc m75 d75_34 rfl rfl rfl
theorem d75_35 : decode cX9_latestNumber 35 = .ok (.if_icmp .ne 13, 3) := by decide +kernel
theorem s75_35 {d : Nat} {st : List Value} {σ : am_I} {ρ : am_R} {g : am_J} {τ : am_T} {Q : am_Q} {x0 x1 x2 x3 : Value} {v w : Int32} : AW d 75 35 [x0, x1, x2, x3] (.int w :: .int v :: st) σ ρ g τ Q = if ¬ v = w then AW d 75 48 [x0, x1, x2, x3] (st) σ ρ g τ Q else AW d 75 38 [x0, x1, x2, x3] (st) σ ρ g τ Q := aw_br m75 d75_35 rfl rfl rfl
theorem d75_38 : decode cX9_latestNumber 38 = .ok (.aload_n 0, 1) := by decide +kernel
theorem s75_38 {d : Nat} {st : List Value} {σ : am_I} {ρ : am_R} {g : am_J} {τ : am_T} {Q : am_Q} {x1 x2 x3 : Value} {v : Nat} : AW d 75 38 [.ref v, x1, x2, x3] (st) σ ρ g τ Q = AW d 75 39 [.ref v, x1, x2, x3] (.ref v :: st) σ ρ g τ Q := aw_lc m75 d75_38 rfl rfl rfl
theorem d75_39 : decode cX9_latestNumber 39 = .ok (.getfield 15, 3) := by decide +kernel
theorem s75_39 {d : Nat} {st : List Value} {σ : am_I} {ρ : am_R} {g : am_J} {τ : am_T} {Q : am_Q} {x0 x1 x2 x3 : Value} {a : Nat} (ht : τ.1 a = 9) : AW d 75 39 [x0, x1, x2, x3] (.ref a :: st) σ ρ g τ Q = AW d 75 42 [x0, x1, x2, x3] (va_rf (ρ a 1) :: st) σ ρ g τ Q := aw_gr m75 d75_39 rfl rfl rfl ht
theorem d75_42 : decode cX9_latestNumber 42 = .ok (.iload_n 3, 1) := by decide +kernel
theorem s75_42 {d : Nat} {st : List Value} {σ : am_I} {ρ : am_R} {g : am_J} {τ : am_T} {Q : am_Q} {x0 x1 x2 : Value} {v : Int32} : AW d 75 42 [x0, x1, x2, .int v] (st) σ ρ g τ Q = AW d 75 43 [x0, x1, x2, .int v] (.int v :: st) σ ρ g τ Q := aw_lc m75 d75_42 rfl rfl rfl
theorem d75_43 : decode cX9_latestNumber 43 = .ok (.aaload, 1) := by decide +kernel
theorem s75_43 {d : Nat} {st : List Value} {σ : am_I} {ρ : am_R} {g : am_J} {τ : am_T} {Q : am_Q} {x0 x1 x2 x3 : Value} {a : Nat} {j : Int32} (ht : 18 ≤ τ.1 a ∧ τ.1 a ≤ 22) (hj : am_inb j (τ.2.1 a) = true) : AW d 75 43 [x0, x1, x2, x3] (.int j :: .ref a :: st) σ ρ g τ Q = AW d 75 44 [x0, x1, x2, x3] (va_rf (ρ a j.toNatClampNeg) :: st) σ ρ g τ Q := aw_aal m75 d75_43 rfl ht hj
theorem d75_44 : decode cX9_latestNumber 44 = .ok (.getfield 32, 3) := by decide +kernel
theorem s75_44 {d : Nat} {st : List Value} {σ : am_I} {ρ : am_R} {g : am_J} {τ : am_T} {Q : am_Q} {x0 x1 x2 x3 : Value} {a : Nat} (ht : τ.1 a = 5) : AW d 75 44 [x0, x1, x2, x3] (.ref a :: st) σ ρ g τ Q = AW d 75 47 [x0, x1, x2, x3] (.int (σ a 1) :: st) σ ρ g τ Q := aw_gi m75 d75_44 rfl rfl rfl ht
theorem d75_47 : decode cX9_latestNumber 47 = .ok (.ireturn, 1) := by decide +kernel
theorem s75_47 {d : Nat} {σ : am_I} {ρ : am_R} {g : am_J} {τ : am_T} {Q : am_Q} {x0 x1 x2 x3 : Value} {v : Int32} : AW d 75 47 [x0, x1, x2, x3] ([.int v]) σ ρ g τ Q = Q (some (.int v)) σ ρ g τ := aw_ri m75 d75_47 rfl
theorem d75_48 : decode cX9_latestNumber 48 = .ok (.iinc 3 (-1), 3) := by decide +kernel
theorem s75_48 {d : Nat} {st : List Value} {σ : am_I} {ρ : am_R} {g : am_J} {τ : am_T} {Q : am_Q} {x0 x1 : Value} {v : Int32} {u : Int32} : AW d 75 48 [x0, x1, .int u, .int v] (st) σ ρ g τ Q = AW d 75 51 [x0, x1, .int u, .int (v + (-1))] (st) σ ρ g τ Q := aw_lc m75 d75_48 rfl rfl rfl
theorem d75_51 : decode cX9_latestNumber 51 = .ok (.goto (-43), 3) := by decide +kernel
theorem s75_51 {d : Nat} {st : List Value} {σ : am_I} {ρ : am_R} {g : am_J} {τ : am_T} {Q : am_Q} {x0 x1 x2 x3 : Value} : AW d 75 51 [x0, x1, x2, x3] (st) σ ρ g τ Q = AW d 75 8 [x0, x1, x2, x3] (st) σ ρ g τ Q := aw_lc m75 d75_51 rfl rfl rfl
theorem d75_54 : decode cX9_latestNumber 54 = .ok (.iconst 0, 1) := by decide +kernel
theorem s75_54 {d : Nat} {st : List Value} {σ : am_I} {ρ : am_R} {g : am_J} {τ : am_T} {Q : am_Q} {x0 x1 x2 x3 : Value} : AW d 75 54 [x0, x1, x2, x3] (st) σ ρ g τ Q = AW d 75 55 [x0, x1, x2, x3] (.int 0 :: st) σ ρ g τ Q := aw_lc m75 d75_54 rfl rfl rfl
theorem d75_55 : decode cX9_latestNumber 55 = .ok (.ireturn, 1) := by decide +kernel
theorem s75_55 {d : Nat} {σ : am_I} {ρ : am_R} {g : am_J} {τ : am_T} {Q : am_Q} {x0 x1 x2 x3 : Value} {v : Int32} : AW d 75 55 [x0, x1, x2, x3] ([.int v]) σ ρ g τ Q = Q (some (.int v)) σ ρ g τ := aw_ri m75 d75_55 rfl
